-- X6_first
def wX6_first_b235  (P : SQ → Prop) (s1 : Int32) (u : SQ) : Prop := (wX6_adjustDigit s1 u (fun u41 => (P u41)))
def wX6_first_b214  (P : SQ → Prop) (s1 : Int32) (u : SQ) : Prop := (wX6_adjustDecimal s1 u (fun u39 => (P u39)))
def wX6_first_b163  (P : SQ → Prop) (x2 : Int32) (u : SQ) : Prop := (((32 : Int32) ≤ (q_code u) → (((48 : Int32) ≤ (q_code u) → (((q_code u) = (63 : Int32) → (wX6_first_b235  P (1 : Int32) u)) ∧ (¬ (q_code u) = (63 : Int32) → (wX6_first_b235  P (0 : Int32) u)))) ∧ (¬ (48 : Int32) ≤ (q_code u) → (((q_code u) = (47 : Int32) → (wX6_first_b214  P (1 : Int32) u)) ∧ (¬ (q_code u) = (47 : Int32) → (wX6_first_b214  P (0 : Int32) u)))))) ∧ (¬ (32 : Int32) ≤ (q_code u) → (wX6_pop  u (fun r38 u37 => (vp_in x2 4 ∧ (P (qs_gave (qs_segments u37 (upd (q_segments u37) x2.toNatClampNeg r38)) (1 : Int32))))))))
def wX6_first  (u : SQ) (P : SQ → Prop) : Prop := (wX6_isWide  u (fun r2 u1 => (((2 : Int32) ≤ ((q_code u) &&& (7 : Int32)) → (((4 : Int32) ≤ ((q_code u) &&& (7 : Int32)) → (((6 : Int32) ≤ ((q_code u) &&& (7 : Int32)) → (((32 : Int32) ≤ (q_code u1) → (wX6_first_b163  P ((q_code u) >>> ((3 : Int32) &&& 31)) u1)) ∧ (¬ (32 : Int32) ≤ (q_code u1) → ((((q_code u) &&& (7 : Int32)) = (6 : Int32) → (vp_in ((q_code u) >>> ((3 : Int32) &&& 31)) 4 ∧ (wX6_push ((q_segments u1) ((q_code u) >>> ((3 : Int32) &&& 31)).toNatClampNeg) u1 (fun u8 => (P u8))))) ∧ (¬ ((q_code u) &&& (7 : Int32)) = (6 : Int32) → (wX6_first_b163  P ((q_code u) >>> ((3 : Int32) &&& 31)) u1)))))) ∧ (¬ (6 : Int32) ≤ ((q_code u) &&& (7 : Int32)) → (wX6_register (0 : Int32) r2 u1 (fun r11 u10 => (wX6_operation ((q_code u) >>> ((3 : Int32) &&& 31)) r11 (q_i u10) r2 u10 (fun r13 u12 => (wX6_setRegister (0 : Int32) r2 r13 u12 (fun u14 => (P u14)))))))))) ∧ (¬ (4 : Int32) ≤ ((q_code u) &&& (7 : Int32)) → (wX6_register (q_r u1) r2 u1 (fun r17 u16 => (wX6_operand r2 u16 (fun r19 u18 => (wX6_operation ((q_code u) >>> ((3 : Int32) &&& 31)) r17 r19 r2 u18 (fun r21 u20 => (wX6_setRegister (q_r u20) r2 r21 u20 (fun u22 => (P u22)))))))))))) ∧ (¬ (2 : Int32) ≤ ((q_code u) &&& (7 : Int32)) → (wX6_operand r2 u1 (fun r25 u24 => (wX6_register (q_r u24) r2 u24 (fun r27 u26 => (wX6_operation ((q_code u) >>> ((3 : Int32) &&& 31)) r25 r27 r2 u26 (fun r29 u28 => ((((q_code u) >>> ((3 : Int32) &&& 31)) = (7 : Int32) → (P u28)) ∧ (¬ ((q_code u) >>> ((3 : Int32) &&& 31)) = (7 : Int32) → (wX6_give r2 r29 u28 (fun u31 => (P u31)))))))))))))))
set_option maxHeartbeats 4000000 in
set_option maxRecDepth 100000 in
theorem kcX6_first (l : Launch) (D : va_G) (cB cI : ClassId) (h0 h1 h2 h3 h4 h5 : Nat) (sz : Nat)  (u : SQ) (P : SQ → Prop) (hw : wX6_first  u P) : Met l yX6_first wsX6_first ({ frames := 4, cells := 0, slots := 0, locals := 98 } : Room) (va_Pc [.ref h0] (Pcw D (tyA cB cI) (WQ cI h0 h1 h2 h3 h4 h5 u) sz Tru)) (va_Qv P (fun u t => va_P D vwCl (WQ cI h0 h1 h2 h3 h4 h5 u) t.heap) (va_A (WQ cI h0 h1 h2 h3 h4 h5 u) sz)) 0 0 (va_A (WQ cI h0 h1 h2 h3 h4 h5 u) sz) := by
  refine en_ (cc := cX6_first) (maxL := 5) (ret := none) (own := RX6) (lv := [(0, .ref h0)]) (Qf := fun A => va_Qv P (fun u t => va_P D vwCl (WQ cI h0 h1 h2 h3 h4 h5 u) t.heap) A) (by decide) rfl rfl (Nat.le_of_ble_eq_true rfl) rfl ?_
  intro p e s m below meth c A ls S hr hlk hname hsz hP hK hD hA hSub hS hE hl
  have hx := S.1
  have hb := S.2.1
  have hown := S.2.2.2.1
  have hts := S.2.2.2.2
  have i_X6 : ∀ w ∈ u_ws RX6 TX6 29, w ∈ wsX6_first := by decide +kernel
  have f_13 := hts (.fieldLink RX6 13 "MachineCoreModel" "segments" "[I") (by decide +kernel)
  have f_130 := hts (.fieldLink RX6 130 "MachineCoreModel" "r" "I") (by decide +kernel)
  have f_148 := hts (.fieldLink RX6 148 "MachineCoreModel" "code" "I") (by decide +kernel)
  have f_164 := hts (.fieldLink RX6 164 "MachineCoreModel" "i" "I") (by decide +kernel)
  have f_209 := hts (.fieldLink RX6 209 "MachineCoreModel" "gave" "Z") (by decide +kernel)
  have b235 : ∀ (s1 : Int32) (u : SQ) (H : Heap) (locs : List Loc) (ls : Array Slot), va_P D vwCl (WQ cI h0 h1 h2 h3 h4 h5 u) H → va_D A (WQ cI h0 h1 h2 h3 h4 h5 u) → va_S A s.heap H locs → lv_has ls 5 [] → wX6_first_b235  P s1 u → W p l e ({ frames := 4, cells := 0, slots := 0, locals := 98 } : Room) s m ([.ref h0] : List Value).toArray below meth c H locs 0 0 (MQ below (va_Qv P (fun u t => va_P D vwCl (WQ cI h0 h1 h2 h3 h4 h5 u) t.heap) A) ([.ref h0] : List Value).toArray s 0 0 A) (F0 m 235 ls [.int s1, .ref h0]) := by
    intro s1 u H locs ls hP hD hS hl hw
    unfold wX6_first_b235 at hw
    refine cl_Vv (As := [.int s1]) (rest := []) (st := [.int s1, .ref h0]) S hK hA hP hD hS (fr_Q u) (kcX6_adjustDigit l D cB cI h0 h1 h2 h3 h4 h5 H.size s1 u _ hw) (cwV 1 hts gX6_first_X6_adjustDigit rfl rfl rfl (by decide +kernel) ⟨Nat.le_of_ble_eq_true rfl, Nat.le_of_ble_eq_true rfl⟩) tru_h tru_b 0 rfl rfl rfl rfl rfl hl.1 (Nat.le_of_ble_eq_true rfl) dX6_first_235 ⟨Nat.zero_le _, Nat.zero_le _⟩ (fun u41 H locs hP hD hS hw => ?_)
    replace hP : va_P D vwCl (WQ cI h0 h1 h2 h3 h4 h5 u41) H := hP
    replace hD : va_D A (WQ cI h0 h1 h2 h3 h4 h5 u41) := hD
    exact rt_v (wo := (fun v => WQ cI h0 h1 h2 h3 h4 h5 v)) S hr hlk u41 hP hS hw dX6_first_238
  have b214 : ∀ (s1 : Int32) (u : SQ) (H : Heap) (locs : List Loc) (ls : Array Slot), va_P D vwCl (WQ cI h0 h1 h2 h3 h4 h5 u) H → va_D A (WQ cI h0 h1 h2 h3 h4 h5 u) → va_S A s.heap H locs → lv_has ls 5 [] → wX6_first_b214  P s1 u → W p l e ({ frames := 4, cells := 0, slots := 0, locals := 98 } : Room) s m ([.ref h0] : List Value).toArray below meth c H locs 0 0 (MQ below (va_Qv P (fun u t => va_P D vwCl (WQ cI h0 h1 h2 h3 h4 h5 u) t.heap) A) ([.ref h0] : List Value).toArray s 0 0 A) (F0 m 214 ls [.int s1, .ref h0]) := by
    intro s1 u H locs ls hP hD hS hl hw
    unfold wX6_first_b214 at hw
    refine cl_Vv (As := [.int s1]) (rest := []) (st := [.int s1, .ref h0]) S hK hA hP hD hS (fr_Q u) (kcX6_adjustDecimal l D cB cI h0 h1 h2 h3 h4 h5 H.size s1 u _ hw) (cwV 1 hts gX6_first_X6_adjustDecimal rfl rfl rfl (by decide +kernel) ⟨Nat.le_of_ble_eq_true rfl, Nat.le_of_ble_eq_true rfl⟩) tru_h tru_b 0 rfl rfl rfl rfl rfl hl.1 (Nat.le_of_ble_eq_true rfl) dX6_first_214 ⟨Nat.zero_le _, Nat.zero_le _⟩ (fun u39 H locs hP hD hS hw => ?_)
    replace hP : va_P D vwCl (WQ cI h0 h1 h2 h3 h4 h5 u39) H := hP
    replace hD : va_D A (WQ cI h0 h1 h2 h3 h4 h5 u39) := hD
    refine lv_goto (tgt := 238) hx hb dX6_first_217 (by decide) ?_
    exact rt_v (wo := (fun v => WQ cI h0 h1 h2 h3 h4 h5 v)) S hr hlk u39 hP hS hw dX6_first_238
  have b163 : ∀ (x2 : Int32) (u : SQ) (H : Heap) (locs : List Loc) (ls : Array Slot), va_P D vwCl (WQ cI h0 h1 h2 h3 h4 h5 u) H → va_D A (WQ cI h0 h1 h2 h3 h4 h5 u) → va_S A s.heap H locs → lv_has ls 5 [(0, .ref h0), (2, .int x2)] → wX6_first_b163  P x2 u → W p l e ({ frames := 4, cells := 0, slots := 0, locals := 98 } : Room) s m ([.ref h0] : List Value).toArray below meth c H locs 0 0 (MQ below (va_Qv P (fun u t => va_P D vwCl (WQ cI h0 h1 h2 h3 h4 h5 u) t.heap) A) ([.ref h0] : List Value).toArray s 0 0 A) (F0 m 163 ls []) := by
    intro x2 u H locs ls hP hD hS hl hw
    unfold wX6_first_b163 at hw
    refine lv_aload_n hx hb dX6_first_163 rfl (lv_at hl 0 rfl) ?_
    refine va_get (D := D) (ci := 6) (v := .int (q_code u)) (C := RX6) (T := TX6) (N := 29) hx hb hts i_X6 hown hK hP 0 rfl rfl 21 (by decide) f_148 (fun _ h9 => h9) rfl dX6_first_164 ?_
    refine lv_bipush (v := (32 : Int32)) hx hb dX6_first_167 (by decide) ?_
    refine lv_icmp_ge (tgt := 190) hx hb dX6_first_169 (by decide) (fun c33 => ?_) (fun c33 => ?_)
    · replace hw := hw.1 c33
      refine lv_aload_n hx hb dX6_first_190 rfl (lv_at hl 0 rfl) ?_
      refine va_get (D := D) (ci := 6) (v := .int (q_code u)) (C := RX6) (T := TX6) (N := 29) hx hb hts i_X6 hown hK hP 0 rfl rfl 21 (by decide) f_148 (fun _ h9 => h9) rfl dX6_first_191 ?_
      refine lv_bipush (v := (48 : Int32)) hx hb dX6_first_194 (by decide) ?_
      refine lv_icmp_ge (tgt := 220) hx hb dX6_first_196 (by decide) (fun c34 => ?_) (fun c34 => ?_)
      · replace hw := hw.1 c34
        refine lv_aload_n hx hb dX6_first_220 rfl (lv_at hl 0 rfl) ?_
        refine lv_aload_n hx hb dX6_first_221 rfl (lv_at hl 0 rfl) ?_
        refine va_get (D := D) (ci := 6) (v := .int (q_code u)) (C := RX6) (T := TX6) (N := 29) hx hb hts i_X6 hown hK hP 0 rfl rfl 21 (by decide) f_148 (fun _ h9 => h9) rfl dX6_first_222 ?_
        refine lv_bipush (v := (63 : Int32)) hx hb dX6_first_225 (by decide) ?_
        refine lv_icmp_ne (tgt := 234) hx hb dX6_first_227 (by decide) (fun c35 => ?_) (fun c35 => ?_)
        · replace hw := hw.2 c35
          refine lv_iconst (v := (0 : Int32)) hx hb dX6_first_234 (by decide) ?_
          exact b235 (0 : Int32) u H locs ls hP hD hS (lv_sub hl [] rfl) hw
        · replace hw := hw.1 c35
          refine lv_iconst (v := (1 : Int32)) hx hb dX6_first_230 (by decide) ?_
          refine lv_goto (tgt := 235) hx hb dX6_first_231 (by decide) ?_
          exact b235 (1 : Int32) u H locs ls hP hD hS (lv_sub hl [] rfl) hw
      · replace hw := hw.2 c34
        refine lv_aload_n hx hb dX6_first_199 rfl (lv_at hl 0 rfl) ?_
        refine lv_aload_n hx hb dX6_first_200 rfl (lv_at hl 0 rfl) ?_
        refine va_get (D := D) (ci := 6) (v := .int (q_code u)) (C := RX6) (T := TX6) (N := 29) hx hb hts i_X6 hown hK hP 0 rfl rfl 21 (by decide) f_148 (fun _ h9 => h9) rfl dX6_first_201 ?_
        refine lv_bipush (v := (47 : Int32)) hx hb dX6_first_204 (by decide) ?_
        refine lv_icmp_ne (tgt := 213) hx hb dX6_first_206 (by decide) (fun c36 => ?_) (fun c36 => ?_)
        · replace hw := hw.2 c36
          refine lv_iconst (v := (0 : Int32)) hx hb dX6_first_213 (by decide) ?_
          exact b214 (0 : Int32) u H locs ls hP hD hS (lv_sub hl [] rfl) hw
        · replace hw := hw.1 c36
          refine lv_iconst (v := (1 : Int32)) hx hb dX6_first_209 (by decide) ?_
          refine lv_goto (tgt := 214) hx hb dX6_first_210 (by decide) ?_
          exact b214 (1 : Int32) u H locs ls hP hD hS (lv_sub hl [] rfl) hw
    · replace hw := hw.2 c33
      refine lv_aload_n hx hb dX6_first_172 rfl (lv_at hl 0 rfl) ?_
      refine va_get (D := D) (ci := 6) (v := .ref h2) (C := RX6) (T := TX6) (N := 29) hx hb hts i_X6 hown hK hP 0 rfl rfl 2 (by decide) f_13 (fun _ h9 => h9) rfl dX6_first_173 ?_
      refine lv_iload_n hx hb dX6_first_176 rfl (lv_at hl 1 rfl) ?_
      refine lv_aload_n hx hb dX6_first_177 rfl (lv_at hl 0 rfl) ?_
      refine cl_Vi (As := []) (rest := [.int x2, .ref h2]) (st := [.ref h0, .int x2, .ref h2]) S hK hA hP hD hS (fr_Q u) (kcX6_pop l D cB cI h0 h1 h2 h3 h4 h5 H.size  u _ hw) (cwV 0 hts gX6_first_X6_pop rfl rfl rfl (by decide +kernel) ⟨Nat.le_of_ble_eq_true rfl, Nat.le_of_ble_eq_true rfl⟩) tru_h tru_b 0 rfl rfl rfl rfl rfl hl.1 (Nat.le_of_ble_eq_true rfl) dX6_first_178 ⟨Nat.zero_le _, Nat.zero_le _⟩ (fun r38 u37 H locs hP hD hS hw => ?_)
      replace hP : va_P D vwCl (WQ cI h0 h1 h2 h3 h4 h5 u37) H := hP
      replace hD : va_D A (WQ cI h0 h1 h2 h3 h4 h5 u37) := hD
      refine va_iast hx hb hK hP hD hS 2 1 (f := (q_segments u37)) rfl rfl hw.1 dX6_first_181 (fun H locs hP hD hS => ?_)
      replace hw := hw.2
      replace hP : va_P D vwCl (WQ cI h0 h1 h2 h3 h4 h5 (qs_segments u37 (upd (q_segments u37) x2.toNatClampNeg r38))) H := hP
      replace hD : va_D A (WQ cI h0 h1 h2 h3 h4 h5 (qs_segments u37 (upd (q_segments u37) x2.toNatClampNeg r38))) := hD
      refine lv_aload_n hx hb dX6_first_182 rfl (lv_at hl 0 rfl) ?_
      refine lv_iconst (v := (1 : Int32)) hx hb dX6_first_183 (by decide) ?_
      refine va_put (D := D) (ci := 6) (v := .int (1 : Int32)) (ty := .boolean) (C := RX6) (T := TX6) (N := 29) hx hb hts i_X6 tyX6 tyX6_ok nmX6 hown hK hP hD hS 0 rfl rfl 15 (by decide) f_209 (fun _ h9 => h9) rfl (by decide +kernel) rfl rfl (Nat.le_of_ble_eq_true rfl) dX6_first_184 (fun H locs hP hD hS => ?_)
      replace hP : va_P D vwCl (WQ cI h0 h1 h2 h3 h4 h5 (qs_gave (qs_segments u37 (upd (q_segments u37) x2.toNatClampNeg r38)) (1 : Int32))) H := hP
      replace hD : va_D A (WQ cI h0 h1 h2 h3 h4 h5 (qs_gave (qs_segments u37 (upd (q_segments u37) x2.toNatClampNeg r38)) (1 : Int32))) := hD
      refine lv_goto (tgt := 238) hx hb dX6_first_187 (by decide) ?_
      exact rt_v (wo := (fun v => WQ cI h0 h1 h2 h3 h4 h5 v)) S hr hlk (qs_gave (qs_segments u37 (upd (q_segments u37) x2.toNatClampNeg r38)) (1 : Int32)) hP hS hw dX6_first_238
  unfold wX6_first at hw
  obtain ⟨H, eH⟩ : ∃ H, H = s.heap := ⟨_, rfl⟩
  obtain ⟨locs, eL⟩ : ∃ locs : List Loc, locs = [] := ⟨_, rfl⟩
  replace hP : va_P D vwCl (WQ cI h0 h1 h2 h3 h4 h5 u) H := by rw [eH]; exact hP
  replace hS : va_S A s.heap H locs := by rw [eH, eL]; exact hS
  suffices hgo : W p l e ({ frames := 4, cells := 0, slots := 0, locals := 98 } : Room) s m ([.ref h0] : List Value).toArray below meth c H locs 0 0 (MQ below (va_Qv P (fun u t => va_P D vwCl (WQ cI h0 h1 h2 h3 h4 h5 u) t.heap) A) ([.ref h0] : List Value).toArray s 0 0 A) (F0 m 0 ls []) by rw [eH, eL] at hgo; exact hgo
  clear eH eL
  refine lv_aload_n hx hb dX6_first_0 rfl (lv_at hl 0 rfl) ?_
  refine va_get (D := D) (ci := 6) (v := .int (q_code u)) (C := RX6) (T := TX6) (N := 29) hx hb hts i_X6 hown hK hP 0 rfl rfl 21 (by decide) f_148 (fun _ h9 => h9) rfl dX6_first_1 ?_
  refine lv_bipush (v := (7 : Int32)) hx hb dX6_first_4 (by decide) ?_
  refine lv_iand hx hb dX6_first_6 ?_
  refine lv_istore_n (lv' := [(1, .int ((q_code u) &&& (7 : Int32))), (0, .ref h0)]) hx hb dX6_first_7 rfl hl (by decide) rfl (fun ls hl => ?_)
  refine lv_aload_n hx hb dX6_first_8 rfl (lv_at hl 1 rfl) ?_
  refine va_get (D := D) (ci := 6) (v := .int (q_code u)) (C := RX6) (T := TX6) (N := 29) hx hb hts i_X6 hown hK hP 0 rfl rfl 21 (by decide) f_148 (fun _ h9 => h9) rfl dX6_first_9 ?_
  refine lv_iconst (v := (3 : Int32)) hx hb dX6_first_12 (by decide) ?_
  refine lv_ishr hx hb dX6_first_13 ?_
  refine lv_istore_n (lv' := [(2, .int ((q_code u) >>> ((3 : Int32) &&& 31))), (1, .int ((q_code u) &&& (7 : Int32))), (0, .ref h0)]) hx hb dX6_first_14 rfl hl (by decide) rfl (fun ls hl => ?_)
  refine lv_aload_n hx hb dX6_first_15 rfl (lv_at hl 2 rfl) ?_
  refine cl_Vi (As := []) (rest := []) (st := [.ref h0]) S hK hA hP hD hS (fr_Q u) (kcX6_isWide l D cB cI h0 h1 h2 h3 h4 h5 H.size  u _ hw) (cwV 0 hts gX6_first_X6_isWide rfl rfl rfl (by decide +kernel) ⟨Nat.le_of_ble_eq_true rfl, Nat.le_of_ble_eq_true rfl⟩) tru_h tru_b 0 rfl rfl rfl rfl rfl hl.1 (Nat.le_of_ble_eq_true rfl) dX6_first_16 ⟨Nat.zero_le _, Nat.zero_le _⟩ (fun r2 u1 H locs hP hD hS hw => ?_)
  replace hP : va_P D vwCl (WQ cI h0 h1 h2 h3 h4 h5 u1) H := hP
  replace hD : va_D A (WQ cI h0 h1 h2 h3 h4 h5 u1) := hD
  refine lv_istore_n (lv' := [(3, .int r2), (2, .int ((q_code u) >>> ((3 : Int32) &&& 31))), (1, .int ((q_code u) &&& (7 : Int32))), (0, .ref h0)]) hx hb dX6_first_19 rfl hl (by decide) rfl (fun ls hl => ?_)
  refine lv_iload_n hx hb dX6_first_20 rfl (lv_at hl 2 rfl) ?_
  refine lv_iconst (v := (2 : Int32)) hx hb dX6_first_21 (by decide) ?_
  refine lv_icmp_ge (tgt := 63) hx hb dX6_first_22 (by decide) (fun c3 => ?_) (fun c3 => ?_)
  · replace hw := hw.1 c3
    refine lv_iload_n hx hb dX6_first_63 rfl (lv_at hl 2 rfl) ?_
    refine lv_iconst (v := (4 : Int32)) hx hb dX6_first_64 (by decide) ?_
    refine lv_icmp_ge (tgt := 104) hx hb dX6_first_65 (by decide) (fun c4 => ?_) (fun c4 => ?_)
    · replace hw := hw.1 c4
      refine lv_iload_n hx hb dX6_first_104 rfl (lv_at hl 2 rfl) ?_
      refine lv_bipush (v := (6 : Int32)) hx hb dX6_first_105 (by decide) ?_
      refine lv_icmp_ge (tgt := 135) hx hb dX6_first_107 (by decide) (fun c5 => ?_) (fun c5 => ?_)
      · replace hw := hw.1 c5
        refine lv_aload_n hx hb dX6_first_135 rfl (lv_at hl 3 rfl) ?_
        refine va_get (D := D) (ci := 6) (v := .int (q_code u1)) (C := RX6) (T := TX6) (N := 29) hx hb hts i_X6 hown hK hP 0 rfl rfl 21 (by decide) f_148 (fun _ h9 => h9) rfl dX6_first_136 ?_
        refine lv_bipush (v := (32 : Int32)) hx hb dX6_first_139 (by decide) ?_
        refine lv_icmp_ge (tgt := 163) hx hb dX6_first_141 (by decide) (fun c6 => ?_) (fun c6 => ?_)
        · replace hw := hw.1 c6
          exact b163 ((q_code u) >>> ((3 : Int32) &&& 31)) u1 H locs ls hP hD hS (lv_sub hl [3, 1] rfl) hw
        · replace hw := hw.2 c6
          refine lv_iload_n hx hb dX6_first_144 rfl (lv_at hl 2 rfl) ?_
          refine lv_bipush (v := (6 : Int32)) hx hb dX6_first_145 (by decide) ?_
          refine lv_icmp_ne (tgt := 163) hx hb dX6_first_147 (by decide) (fun c7 => ?_) (fun c7 => ?_)
          · replace hw := hw.2 c7
            exact b163 ((q_code u) >>> ((3 : Int32) &&& 31)) u1 H locs ls hP hD hS (lv_sub hl [3, 1] rfl) hw
          · replace hw := hw.1 c7
            refine lv_aload_n hx hb dX6_first_150 rfl (lv_at hl 3 rfl) ?_
            refine lv_aload_n hx hb dX6_first_151 rfl (lv_at hl 3 rfl) ?_
            refine va_get (D := D) (ci := 6) (v := .ref h2) (C := RX6) (T := TX6) (N := 29) hx hb hts i_X6 hown hK hP 0 rfl rfl 2 (by decide) f_13 (fun _ h9 => h9) rfl dX6_first_152 ?_
            refine lv_iload_n hx hb dX6_first_155 rfl (lv_at hl 1 rfl) ?_
            refine va_iald hx hb hK hP 2 1 (f := (q_segments u1)) rfl rfl hw.1 dX6_first_156 ?_
            replace hw := hw.2
            refine cl_Vv (As := [.int ((q_segments u1) ((q_code u) >>> ((3 : Int32) &&& 31)).toNatClampNeg)]) (rest := []) (st := [.int ((q_segments u1) ((q_code u) >>> ((3 : Int32) &&& 31)).toNatClampNeg), .ref h0]) S hK hA hP hD hS (fr_Q u1) (kcX6_push l D cB cI h0 h1 h2 h3 h4 h5 H.size ((q_segments u1) ((q_code u) >>> ((3 : Int32) &&& 31)).toNatClampNeg) u1 _ hw) (cwV 1 hts gX6_first_X6_push rfl rfl rfl (by decide +kernel) ⟨Nat.le_of_ble_eq_true rfl, Nat.le_of_ble_eq_true rfl⟩) tru_h tru_b 0 rfl rfl rfl rfl rfl hl.1 (Nat.le_of_ble_eq_true rfl) dX6_first_157 ⟨Nat.zero_le _, Nat.zero_le _⟩ (fun u8 H locs hP hD hS hw => ?_)
            replace hP : va_P D vwCl (WQ cI h0 h1 h2 h3 h4 h5 u8) H := hP
            replace hD : va_D A (WQ cI h0 h1 h2 h3 h4 h5 u8) := hD
            refine lv_goto (tgt := 238) hx hb dX6_first_160 (by decide) ?_
            exact rt_v (wo := (fun v => WQ cI h0 h1 h2 h3 h4 h5 v)) S hr hlk u8 hP hS hw dX6_first_238
      · replace hw := hw.2 c5
        refine lv_aload_n hx hb dX6_first_110 rfl (lv_at hl 3 rfl) ?_
        refine lv_iconst (v := (0 : Int32)) hx hb dX6_first_111 (by decide) ?_
        refine lv_iload_n hx hb dX6_first_112 rfl (lv_at hl 0 rfl) ?_
        refine lv_aload_n hx hb dX6_first_113 rfl (lv_at hl 3 rfl) ?_
        refine lv_iload_n hx hb dX6_first_114 rfl (lv_at hl 1 rfl) ?_
        refine lv_aload_n hx hb dX6_first_115 rfl (lv_at hl 3 rfl) ?_
        refine lv_iconst (v := (0 : Int32)) hx hb dX6_first_116 (by decide) ?_
        refine lv_iload_n hx hb dX6_first_117 rfl (lv_at hl 0 rfl) ?_
        refine cl_Vi (As := [.int (0 : Int32), .int r2]) (rest := [.int ((q_code u) >>> ((3 : Int32) &&& 31)), .ref h0, .int r2, .int (0 : Int32), .ref h0]) (st := [.int r2, .int (0 : Int32), .ref h0, .int ((q_code u) >>> ((3 : Int32) &&& 31)), .ref h0, .int r2, .int (0 : Int32), .ref h0]) S hK hA hP hD hS (fr_Q u1) (kcX6_register l D cB cI h0 h1 h2 h3 h4 h5 H.size (0 : Int32) r2 u1 _ hw) (cwV 2 hts gX6_first_X6_register rfl rfl rfl (by decide +kernel) ⟨Nat.le_of_ble_eq_true rfl, Nat.le_of_ble_eq_true rfl⟩) tru_h tru_b 0 rfl rfl rfl rfl rfl hl.1 (Nat.le_of_ble_eq_true rfl) dX6_first_118 ⟨Nat.zero_le _, Nat.zero_le _⟩ (fun r11 u10 H locs hP hD hS hw => ?_)
        replace hP : va_P D vwCl (WQ cI h0 h1 h2 h3 h4 h5 u10) H := hP
        replace hD : va_D A (WQ cI h0 h1 h2 h3 h4 h5 u10) := hD
        refine lv_aload_n hx hb dX6_first_121 rfl (lv_at hl 3 rfl) ?_
        refine va_get (D := D) (ci := 6) (v := .int (q_i u10)) (C := RX6) (T := TX6) (N := 29) hx hb hts i_X6 hown hK hP 0 rfl rfl 27 (by decide) f_164 (fun _ h9 => h9) rfl dX6_first_122 ?_
        refine lv_iload_n hx hb dX6_first_125 rfl (lv_at hl 0 rfl) ?_
        refine cl_Vi (As := [.int ((q_code u) >>> ((3 : Int32) &&& 31)), .int r11, .int (q_i u10), .int r2]) (rest := [.int r2, .int (0 : Int32), .ref h0]) (st := [.int r2, .int (q_i u10), .int r11, .int ((q_code u) >>> ((3 : Int32) &&& 31)), .ref h0, .int r2, .int (0 : Int32), .ref h0]) S hK hA hP hD hS (fr_Q u10) (kcX6_operation l D cB cI h0 h1 h2 h3 h4 h5 H.size ((q_code u) >>> ((3 : Int32) &&& 31)) r11 (q_i u10) r2 u10 _ hw) (cwV 4 hts gX6_first_X6_operation rfl rfl rfl (by decide +kernel) ⟨Nat.le_of_ble_eq_true rfl, Nat.le_of_ble_eq_true rfl⟩) tru_h tru_b 0 rfl rfl rfl rfl rfl hl.1 (Nat.le_of_ble_eq_true rfl) dX6_first_126 ⟨Nat.zero_le _, Nat.zero_le _⟩ (fun r13 u12 H locs hP hD hS hw => ?_)
        replace hP : va_P D vwCl (WQ cI h0 h1 h2 h3 h4 h5 u12) H := hP
        replace hD : va_D A (WQ cI h0 h1 h2 h3 h4 h5 u12) := hD
        refine cl_Vv (As := [.int (0 : Int32), .int r2, .int r13]) (rest := []) (st := [.int r13, .int r2, .int (0 : Int32), .ref h0]) S hK hA hP hD hS (fr_Q u12) (kcX6_setRegister l D cB cI h0 h1 h2 h3 h4 h5 H.size (0 : Int32) r2 r13 u12 _ hw) (cwV 3 hts gX6_first_X6_setRegister rfl rfl rfl (by decide +kernel) ⟨Nat.le_of_ble_eq_true rfl, Nat.le_of_ble_eq_true rfl⟩) tru_h tru_b 0 rfl rfl rfl rfl rfl hl.1 (Nat.le_of_ble_eq_true rfl) dX6_first_129 ⟨Nat.zero_le _, Nat.zero_le _⟩ (fun u14 H locs hP hD hS hw => ?_)
        replace hP : va_P D vwCl (WQ cI h0 h1 h2 h3 h4 h5 u14) H := hP
        replace hD : va_D A (WQ cI h0 h1 h2 h3 h4 h5 u14) := hD
        refine lv_goto (tgt := 238) hx hb dX6_first_132 (by decide) ?_
        exact rt_v (wo := (fun v => WQ cI h0 h1 h2 h3 h4 h5 v)) S hr hlk u14 hP hS hw dX6_first_238
    · replace hw := hw.2 c4
      refine lv_aload_n hx hb dX6_first_68 rfl (lv_at hl 3 rfl) ?_
      refine lv_iload_n hx hb dX6_first_69 rfl (lv_at hl 1 rfl) ?_
      refine lv_aload_n hx hb dX6_first_70 rfl (lv_at hl 3 rfl) ?_
      refine lv_aload_n hx hb dX6_first_71 rfl (lv_at hl 3 rfl) ?_
      refine va_get (D := D) (ci := 6) (v := .int (q_r u1)) (C := RX6) (T := TX6) (N := 29) hx hb hts i_X6 hown hK hP 0 rfl rfl 23 (by decide) f_130 (fun _ h9 => h9) rfl dX6_first_72 ?_
      refine lv_iload_n hx hb dX6_first_75 rfl (lv_at hl 0 rfl) ?_
      refine cl_Vi (As := [.int (q_r u1), .int r2]) (rest := [.int ((q_code u) >>> ((3 : Int32) &&& 31)), .ref h0]) (st := [.int r2, .int (q_r u1), .ref h0, .int ((q_code u) >>> ((3 : Int32) &&& 31)), .ref h0]) S hK hA hP hD hS (fr_Q u1) (kcX6_register l D cB cI h0 h1 h2 h3 h4 h5 H.size (q_r u1) r2 u1 _ hw) (cwV 2 hts gX6_first_X6_register rfl rfl rfl (by decide +kernel) ⟨Nat.le_of_ble_eq_true rfl, Nat.le_of_ble_eq_true rfl⟩) tru_h tru_b 0 rfl rfl rfl rfl rfl hl.1 (Nat.le_of_ble_eq_true rfl) dX6_first_76 ⟨Nat.zero_le _, Nat.zero_le _⟩ (fun r17 u16 H locs hP hD hS hw => ?_)
      replace hP : va_P D vwCl (WQ cI h0 h1 h2 h3 h4 h5 u16) H := hP
      replace hD : va_D A (WQ cI h0 h1 h2 h3 h4 h5 u16) := hD
      refine lv_aload_n hx hb dX6_first_79 rfl (lv_at hl 3 rfl) ?_
      refine lv_iload_n hx hb dX6_first_80 rfl (lv_at hl 0 rfl) ?_
      refine cl_Vi (As := [.int r2]) (rest := [.int r17, .int ((q_code u) >>> ((3 : Int32) &&& 31)), .ref h0]) (st := [.int r2, .ref h0, .int r17, .int ((q_code u) >>> ((3 : Int32) &&& 31)), .ref h0]) S hK hA hP hD hS (fr_Q u16) (kcX6_operand l D cB cI h0 h1 h2 h3 h4 h5 H.size r2 u16 _ hw) (cwV 1 hts gX6_first_X6_operand rfl rfl rfl (by decide +kernel) ⟨Nat.le_of_ble_eq_true rfl, Nat.le_of_ble_eq_true rfl⟩) tru_h tru_b 0 rfl rfl rfl rfl rfl hl.1 (Nat.le_of_ble_eq_true rfl) dX6_first_81 ⟨Nat.zero_le _, Nat.zero_le _⟩ (fun r19 u18 H locs hP hD hS hw => ?_)
      replace hP : va_P D vwCl (WQ cI h0 h1 h2 h3 h4 h5 u18) H := hP
      replace hD : va_D A (WQ cI h0 h1 h2 h3 h4 h5 u18) := hD
      refine lv_iload_n hx hb dX6_first_84 rfl (lv_at hl 0 rfl) ?_
      refine cl_Vi (As := [.int ((q_code u) >>> ((3 : Int32) &&& 31)), .int r17, .int r19, .int r2]) (rest := []) (st := [.int r2, .int r19, .int r17, .int ((q_code u) >>> ((3 : Int32) &&& 31)), .ref h0]) S hK hA hP hD hS (fr_Q u18) (kcX6_operation l D cB cI h0 h1 h2 h3 h4 h5 H.size ((q_code u) >>> ((3 : Int32) &&& 31)) r17 r19 r2 u18 _ hw) (cwV 4 hts gX6_first_X6_operation rfl rfl rfl (by decide +kernel) ⟨Nat.le_of_ble_eq_true rfl, Nat.le_of_ble_eq_true rfl⟩) tru_h tru_b 0 rfl rfl rfl rfl rfl hl.1 (Nat.le_of_ble_eq_true rfl) dX6_first_85 ⟨Nat.zero_le _, Nat.zero_le _⟩ (fun r21 u20 H locs hP hD hS hw => ?_)
      replace hP : va_P D vwCl (WQ cI h0 h1 h2 h3 h4 h5 u20) H := hP
      replace hD : va_D A (WQ cI h0 h1 h2 h3 h4 h5 u20) := hD
      refine lv_istore (lv' := [(4, .int r21), (3, .int r2), (2, .int ((q_code u) >>> ((3 : Int32) &&& 31))), (1, .int ((q_code u) &&& (7 : Int32))), (0, .ref h0)]) hx hb dX6_first_88 hl (by decide) rfl (fun ls hl => ?_)
      refine lv_aload_n hx hb dX6_first_90 rfl (lv_at hl 4 rfl) ?_
      refine lv_aload_n hx hb dX6_first_91 rfl (lv_at hl 4 rfl) ?_
      refine va_get (D := D) (ci := 6) (v := .int (q_r u20)) (C := RX6) (T := TX6) (N := 29) hx hb hts i_X6 hown hK hP 0 rfl rfl 23 (by decide) f_130 (fun _ h9 => h9) rfl dX6_first_92 ?_
      refine lv_iload_n hx hb dX6_first_95 rfl (lv_at hl 1 rfl) ?_
      refine lv_iload hx hb dX6_first_96 (lv_at hl 0 rfl) ?_
      refine cl_Vv (As := [.int (q_r u20), .int r2, .int r21]) (rest := []) (st := [.int r21, .int r2, .int (q_r u20), .ref h0]) S hK hA hP hD hS (fr_Q u20) (kcX6_setRegister l D cB cI h0 h1 h2 h3 h4 h5 H.size (q_r u20) r2 r21 u20 _ hw) (cwV 3 hts gX6_first_X6_setRegister rfl rfl rfl (by decide +kernel) ⟨Nat.le_of_ble_eq_true rfl, Nat.le_of_ble_eq_true rfl⟩) tru_h tru_b 0 rfl rfl rfl rfl rfl hl.1 (Nat.le_of_ble_eq_true rfl) dX6_first_98 ⟨Nat.zero_le _, Nat.zero_le _⟩ (fun u22 H locs hP hD hS hw => ?_)
      replace hP : va_P D vwCl (WQ cI h0 h1 h2 h3 h4 h5 u22) H := hP
      replace hD : va_D A (WQ cI h0 h1 h2 h3 h4 h5 u22) := hD
      refine lv_goto (tgt := 238) hx hb dX6_first_101 (by decide) ?_
      exact rt_v (wo := (fun v => WQ cI h0 h1 h2 h3 h4 h5 v)) S hr hlk u22 hP hS hw dX6_first_238
  · replace hw := hw.2 c3
    refine lv_aload_n hx hb dX6_first_25 rfl (lv_at hl 3 rfl) ?_
    refine lv_iload_n hx hb dX6_first_26 rfl (lv_at hl 1 rfl) ?_
    refine lv_aload_n hx hb dX6_first_27 rfl (lv_at hl 3 rfl) ?_
    refine lv_iload_n hx hb dX6_first_28 rfl (lv_at hl 0 rfl) ?_
    refine cl_Vi (As := [.int r2]) (rest := [.int ((q_code u) >>> ((3 : Int32) &&& 31)), .ref h0]) (st := [.int r2, .ref h0, .int ((q_code u) >>> ((3 : Int32) &&& 31)), .ref h0]) S hK hA hP hD hS (fr_Q u1) (kcX6_operand l D cB cI h0 h1 h2 h3 h4 h5 H.size r2 u1 _ hw) (cwV 1 hts gX6_first_X6_operand rfl rfl rfl (by decide +kernel) ⟨Nat.le_of_ble_eq_true rfl, Nat.le_of_ble_eq_true rfl⟩) tru_h tru_b 0 rfl rfl rfl rfl rfl hl.1 (Nat.le_of_ble_eq_true rfl) dX6_first_29 ⟨Nat.zero_le _, Nat.zero_le _⟩ (fun r25 u24 H locs hP hD hS hw => ?_)
    replace hP : va_P D vwCl (WQ cI h0 h1 h2 h3 h4 h5 u24) H := hP
    replace hD : va_D A (WQ cI h0 h1 h2 h3 h4 h5 u24) := hD
    refine lv_aload_n hx hb dX6_first_32 rfl (lv_at hl 3 rfl) ?_
    refine lv_aload_n hx hb dX6_first_33 rfl (lv_at hl 3 rfl) ?_
    refine va_get (D := D) (ci := 6) (v := .int (q_r u24)) (C := RX6) (T := TX6) (N := 29) hx hb hts i_X6 hown hK hP 0 rfl rfl 23 (by decide) f_130 (fun _ h9 => h9) rfl dX6_first_34 ?_
    refine lv_iload_n hx hb dX6_first_37 rfl (lv_at hl 0 rfl) ?_
    refine cl_Vi (As := [.int (q_r u24), .int r2]) (rest := [.int r25, .int ((q_code u) >>> ((3 : Int32) &&& 31)), .ref h0]) (st := [.int r2, .int (q_r u24), .ref h0, .int r25, .int ((q_code u) >>> ((3 : Int32) &&& 31)), .ref h0]) S hK hA hP hD hS (fr_Q u24) (kcX6_register l D cB cI h0 h1 h2 h3 h4 h5 H.size (q_r u24) r2 u24 _ hw) (cwV 2 hts gX6_first_X6_register rfl rfl rfl (by decide +kernel) ⟨Nat.le_of_ble_eq_true rfl, Nat.le_of_ble_eq_true rfl⟩) tru_h tru_b 0 rfl rfl rfl rfl rfl hl.1 (Nat.le_of_ble_eq_true rfl) dX6_first_38 ⟨Nat.zero_le _, Nat.zero_le _⟩ (fun r27 u26 H locs hP hD hS hw => ?_)
    replace hP : va_P D vwCl (WQ cI h0 h1 h2 h3 h4 h5 u26) H := hP
    replace hD : va_D A (WQ cI h0 h1 h2 h3 h4 h5 u26) := hD
    refine lv_iload_n hx hb dX6_first_41 rfl (lv_at hl 0 rfl) ?_
    refine cl_Vi (As := [.int ((q_code u) >>> ((3 : Int32) &&& 31)), .int r25, .int r27, .int r2]) (rest := []) (st := [.int r2, .int r27, .int r25, .int ((q_code u) >>> ((3 : Int32) &&& 31)), .ref h0]) S hK hA hP hD hS (fr_Q u26) (kcX6_operation l D cB cI h0 h1 h2 h3 h4 h5 H.size ((q_code u) >>> ((3 : Int32) &&& 31)) r25 r27 r2 u26 _ hw) (cwV 4 hts gX6_first_X6_operation rfl rfl rfl (by decide +kernel) ⟨Nat.le_of_ble_eq_true rfl, Nat.le_of_ble_eq_true rfl⟩) tru_h tru_b 0 rfl rfl rfl rfl rfl hl.1 (Nat.le_of_ble_eq_true rfl) dX6_first_42 ⟨Nat.zero_le _, Nat.zero_le _⟩ (fun r29 u28 H locs hP hD hS hw => ?_)
    replace hP : va_P D vwCl (WQ cI h0 h1 h2 h3 h4 h5 u28) H := hP
    replace hD : va_D A (WQ cI h0 h1 h2 h3 h4 h5 u28) := hD
    refine lv_istore (lv' := [(4, .int r29), (3, .int r2), (2, .int ((q_code u) >>> ((3 : Int32) &&& 31))), (1, .int ((q_code u) &&& (7 : Int32))), (0, .ref h0)]) hx hb dX6_first_45 hl (by decide) rfl (fun ls hl => ?_)
    refine lv_iload_n hx hb dX6_first_47 rfl (lv_at hl 2 rfl) ?_
    refine lv_bipush (v := (7 : Int32)) hx hb dX6_first_48 (by decide) ?_
    refine lv_icmp_eq (tgt := 60) hx hb dX6_first_50 (by decide) (fun c30 => ?_) (fun c30 => ?_)
    · replace hw := hw.1 c30
      refine lv_goto (tgt := 238) hx hb dX6_first_60 (by decide) ?_
      exact rt_v (wo := (fun v => WQ cI h0 h1 h2 h3 h4 h5 v)) S hr hlk u28 hP hS hw dX6_first_238
    · replace hw := hw.2 c30
      refine lv_aload_n hx hb dX6_first_53 rfl (lv_at hl 4 rfl) ?_
      refine lv_iload_n hx hb dX6_first_54 rfl (lv_at hl 1 rfl) ?_
      refine lv_iload hx hb dX6_first_55 (lv_at hl 0 rfl) ?_
      refine cl_Vv (As := [.int r2, .int r29]) (rest := []) (st := [.int r29, .int r2, .ref h0]) S hK hA hP hD hS (fr_Q u28) (kcX6_give l D cB cI h0 h1 h2 h3 h4 h5 H.size r2 r29 u28 _ hw) (cwV 2 hts gX6_first_X6_give rfl rfl rfl (by decide +kernel) ⟨Nat.le_of_ble_eq_true rfl, Nat.le_of_ble_eq_true rfl⟩) tru_h tru_b 0 rfl rfl rfl rfl rfl hl.1 (Nat.le_of_ble_eq_true rfl) dX6_first_57 ⟨Nat.zero_le _, Nat.zero_le _⟩ (fun u31 H locs hP hD hS hw => ?_)
      replace hP : va_P D vwCl (WQ cI h0 h1 h2 h3 h4 h5 u31) H := hP
      replace hD : va_D A (WQ cI h0 h1 h2 h3 h4 h5 u31) := hD
      refine lv_goto (tgt := 238) hx hb dX6_first_60 (by decide) ?_
      exact rt_v (wo := (fun v => WQ cI h0 h1 h2 h3 h4 h5 v)) S hr hlk u31 hP hS hw dX6_first_238
-- X6_second
def wX6_second_b39  (P : SQ → Prop) (x1 : Int32) (s1 : Int32) (s3 : Int32) (u : SQ) : Prop := (vp_in x1 8 ∧ (wX6_operation s3 ((q_registers u) x1.toNatClampNeg) (0 : Int32) (1 : Int32) u (fun r9 u8 => (vp_in s1 8 ∧ (P (qs_registers u8 (upd (q_registers u8) s1.toNatClampNeg r9)))))))
def wX6_second  (u : SQ) (P : SQ → Prop) : Prop := (((80 : Int32) ≤ (q_code u) → (((88 : Int32) ≤ (q_code u) → (wX6_pop  u (fun r4 u3 => (vp_in ((q_code u) &&& (7 : Int32)) 8 ∧ (P (qs_registers u3 (upd (q_registers u3) ((q_code u) &&& (7 : Int32)).toNatClampNeg r4))))))) ∧ (¬ (88 : Int32) ≤ (q_code u) → (vp_in (4 : Int32) 8 ∧ (vp_in (4 : Int32) 8 ∧ (vp_in (2 : Int32) 4 ∧ (vp_in (4 : Int32) 8 ∧ (vp_in ((q_code u) &&& (7 : Int32)) 8 ∧ (wX6_put ((q_segments u) (2 : Int32).toNatClampNeg) ((upd (q_registers u) (4 : Int32).toNatClampNeg ((((q_registers u) (4 : Int32).toNatClampNeg) - (2 : Int32)) &&& (65535 : Int32))) (4 : Int32).toNatClampNeg) (1 : Int32) ((upd (q_registers u) (4 : Int32).toNatClampNeg ((((q_registers u) (4 : Int32).toNatClampNeg) - (2 : Int32)) &&& (65535 : Int32))) ((q_code u) &&& (7 : Int32)).toNatClampNeg) (qs_registers u (upd (q_registers u) (4 : Int32).toNatClampNeg ((((q_registers u) (4 : Int32).toNatClampNeg) - (2 : Int32)) &&& (65535 : Int32)))) (fun u5 => (P u5))))))))))) ∧ (¬ (80 : Int32) ≤ (q_code u) → (((72 : Int32) ≤ (q_code u) → (wX6_second_b39  P ((q_code u) &&& (7 : Int32)) ((q_code u) &&& (7 : Int32)) (10 : Int32) u)) ∧ (¬ (72 : Int32) ≤ (q_code u) → (wX6_second_b39  P ((q_code u) &&& (7 : Int32)) ((q_code u) &&& (7 : Int32)) (9 : Int32) u)))))
set_option maxHeartbeats 4000000 in
set_option maxRecDepth 100000 in
theorem kcX6_second (l : Launch) (D : va_G) (cB cI : ClassId) (h0 h1 h2 h3 h4 h5 : Nat) (sz : Nat)  (u : SQ) (P : SQ → Prop) (hw : wX6_second  u P) : Met l yX6_second wsX6_second ({ frames := 4, cells := 0, slots := 0, locals := 98 } : Room) (va_Pc [.ref h0] (Pcw D (tyA cB cI) (WQ cI h0 h1 h2 h3 h4 h5 u) sz Tru)) (va_Qv P (fun u t => va_P D vwCl (WQ cI h0 h1 h2 h3 h4 h5 u) t.heap) (va_A (WQ cI h0 h1 h2 h3 h4 h5 u) sz)) 0 0 (va_A (WQ cI h0 h1 h2 h3 h4 h5 u) sz) := by
  refine en_ (cc := cX6_second) (maxL := 2) (ret := none) (own := RX6) (lv := [(0, .ref h0)]) (Qf := fun A => va_Qv P (fun u t => va_P D vwCl (WQ cI h0 h1 h2 h3 h4 h5 u) t.heap) A) (by decide) rfl rfl (Nat.le_of_ble_eq_true rfl) rfl ?_
  intro p e s m below meth c A ls S hr hlk hname hsz hP hK hD hA hSub hS hE hl
  have hx := S.1
  have hb := S.2.1
  have hown := S.2.2.2.1
  have hts := S.2.2.2.2
  have i_X6 : ∀ w ∈ u_ws RX6 TX6 29, w ∈ wsX6_second := by decide +kernel
  have f_7 := hts (.fieldLink RX6 7 "MachineCoreModel" "registers" "[I") (by decide +kernel)
  have f_13 := hts (.fieldLink RX6 13 "MachineCoreModel" "segments" "[I") (by decide +kernel)
  have f_148 := hts (.fieldLink RX6 148 "MachineCoreModel" "code" "I") (by decide +kernel)
  have k_39 := hts (.constant RX6 39 (65535)) (by decide +kernel)
  have b39 : ∀ (x1 : Int32) (s1 : Int32) (s3 : Int32) (u : SQ) (H : Heap) (locs : List Loc) (ls : Array Slot), va_P D vwCl (WQ cI h0 h1 h2 h3 h4 h5 u) H → va_D A (WQ cI h0 h1 h2 h3 h4 h5 u) → va_S A s.heap H locs → lv_has ls 2 [(0, .ref h0), (1, .int x1)] → wX6_second_b39  P x1 s1 s3 u → W p l e ({ frames := 4, cells := 0, slots := 0, locals := 98 } : Room) s m ([.ref h0] : List Value).toArray below meth c H locs 0 0 (MQ below (va_Qv P (fun u t => va_P D vwCl (WQ cI h0 h1 h2 h3 h4 h5 u) t.heap) A) ([.ref h0] : List Value).toArray s 0 0 A) (F0 m 39 ls [.int s3, .ref h0, .int s1, .ref h1]) := by
    intro x1 s1 s3 u H locs ls hP hD hS hl hw
    unfold wX6_second_b39 at hw
    refine lv_aload_n hx hb dX6_second_39 rfl (lv_at hl 0 rfl) ?_
    refine va_get (D := D) (ci := 6) (v := .ref h1) (C := RX6) (T := TX6) (N := 29) hx hb hts i_X6 hown hK hP 0 rfl rfl 1 (by decide) f_7 (fun _ h9 => h9) rfl dX6_second_40 ?_
    refine lv_iload_n hx hb dX6_second_43 rfl (lv_at hl 1 rfl) ?_
    refine va_iald hx hb hK hP 1 1 (f := (q_registers u)) rfl rfl hw.1 dX6_second_44 ?_
    replace hw := hw.2
    refine lv_iconst (v := (0 : Int32)) hx hb dX6_second_45 (by decide) ?_
    refine lv_iconst (v := (1 : Int32)) hx hb dX6_second_46 (by decide) ?_
    refine cl_Vi (As := [.int s3, .int ((q_registers u) x1.toNatClampNeg), .int (0 : Int32), .int (1 : Int32)]) (rest := [.int s1, .ref h1]) (st := [.int (1 : Int32), .int (0 : Int32), .int ((q_registers u) x1.toNatClampNeg), .int s3, .ref h0, .int s1, .ref h1]) S hK hA hP hD hS (fr_Q u) (kcX6_operation l D cB cI h0 h1 h2 h3 h4 h5 H.size s3 ((q_registers u) x1.toNatClampNeg) (0 : Int32) (1 : Int32) u _ hw) (cwV 4 hts gX6_second_X6_operation rfl rfl rfl (by decide +kernel) ⟨Nat.le_of_ble_eq_true rfl, Nat.le_of_ble_eq_true rfl⟩) tru_h tru_b 0 rfl rfl rfl rfl rfl hl.1 (Nat.le_of_ble_eq_true rfl) dX6_second_47 ⟨Nat.zero_le _, Nat.zero_le _⟩ (fun r9 u8 H locs hP hD hS hw => ?_)
    replace hP : va_P D vwCl (WQ cI h0 h1 h2 h3 h4 h5 u8) H := hP
    replace hD : va_D A (WQ cI h0 h1 h2 h3 h4 h5 u8) := hD
    refine va_iast hx hb hK hP hD hS 1 1 (f := (q_registers u8)) rfl rfl hw.1 dX6_second_50 (fun H locs hP hD hS => ?_)
    replace hw := hw.2
    replace hP : va_P D vwCl (WQ cI h0 h1 h2 h3 h4 h5 (qs_registers u8 (upd (q_registers u8) s1.toNatClampNeg r9))) H := hP
    replace hD : va_D A (WQ cI h0 h1 h2 h3 h4 h5 (qs_registers u8 (upd (q_registers u8) s1.toNatClampNeg r9))) := hD
    refine lv_goto (tgt := 116) hx hb dX6_second_51 (by decide) ?_
    exact rt_v (wo := (fun v => WQ cI h0 h1 h2 h3 h4 h5 v)) S hr hlk (qs_registers u8 (upd (q_registers u8) s1.toNatClampNeg r9)) hP hS hw dX6_second_116
  unfold wX6_second at hw
  obtain ⟨H, eH⟩ : ∃ H, H = s.heap := ⟨_, rfl⟩
  obtain ⟨locs, eL⟩ : ∃ locs : List Loc, locs = [] := ⟨_, rfl⟩
  replace hP : va_P D vwCl (WQ cI h0 h1 h2 h3 h4 h5 u) H := by rw [eH]; exact hP
  replace hS : va_S A s.heap H locs := by rw [eH, eL]; exact hS
  suffices hgo : W p l e ({ frames := 4, cells := 0, slots := 0, locals := 98 } : Room) s m ([.ref h0] : List Value).toArray below meth c H locs 0 0 (MQ below (va_Qv P (fun u t => va_P D vwCl (WQ cI h0 h1 h2 h3 h4 h5 u) t.heap) A) ([.ref h0] : List Value).toArray s 0 0 A) (F0 m 0 ls []) by rw [eH, eL] at hgo; exact hgo
  clear eH eL
  refine lv_aload_n hx hb dX6_second_0 rfl (lv_at hl 0 rfl) ?_
  refine va_get (D := D) (ci := 6) (v := .int (q_code u)) (C := RX6) (T := TX6) (N := 29) hx hb hts i_X6 hown hK hP 0 rfl rfl 21 (by decide) f_148 (fun _ h9 => h9) rfl dX6_second_1 ?_
  refine lv_bipush (v := (7 : Int32)) hx hb dX6_second_4 (by decide) ?_
  refine lv_iand hx hb dX6_second_6 ?_
  refine lv_istore_n (lv' := [(1, .int ((q_code u) &&& (7 : Int32))), (0, .ref h0)]) hx hb dX6_second_7 rfl hl (by decide) rfl (fun ls hl => ?_)
  refine lv_aload_n hx hb dX6_second_8 rfl (lv_at hl 1 rfl) ?_
  refine va_get (D := D) (ci := 6) (v := .int (q_code u)) (C := RX6) (T := TX6) (N := 29) hx hb hts i_X6 hown hK hP 0 rfl rfl 21 (by decide) f_148 (fun _ h9 => h9) rfl dX6_second_9 ?_
  refine lv_bipush (v := (80 : Int32)) hx hb dX6_second_12 (by decide) ?_
  refine lv_icmp_ge (tgt := 54) hx hb dX6_second_14 (by decide) (fun c1 => ?_) (fun c1 => ?_)
  · replace hw := hw.1 c1
    refine lv_aload_n hx hb dX6_second_54 rfl (lv_at hl 1 rfl) ?_
    refine va_get (D := D) (ci := 6) (v := .int (q_code u)) (C := RX6) (T := TX6) (N := 29) hx hb hts i_X6 hown hK hP 0 rfl rfl 21 (by decide) f_148 (fun _ h9 => h9) rfl dX6_second_55 ?_
    refine lv_bipush (v := (88 : Int32)) hx hb dX6_second_58 (by decide) ?_
    refine lv_icmp_ge (tgt := 106) hx hb dX6_second_60 (by decide) (fun c2 => ?_) (fun c2 => ?_)
    · replace hw := hw.1 c2
      refine lv_aload_n hx hb dX6_second_106 rfl (lv_at hl 1 rfl) ?_
      refine va_get (D := D) (ci := 6) (v := .ref h1) (C := RX6) (T := TX6) (N := 29) hx hb hts i_X6 hown hK hP 0 rfl rfl 1 (by decide) f_7 (fun _ h9 => h9) rfl dX6_second_107 ?_
      refine lv_iload_n hx hb dX6_second_110 rfl (lv_at hl 0 rfl) ?_
      refine lv_aload_n hx hb dX6_second_111 rfl (lv_at hl 1 rfl) ?_
      refine cl_Vi (As := []) (rest := [.int ((q_code u) &&& (7 : Int32)), .ref h1]) (st := [.ref h0, .int ((q_code u) &&& (7 : Int32)), .ref h1]) S hK hA hP hD hS (fr_Q u) (kcX6_pop l D cB cI h0 h1 h2 h3 h4 h5 H.size  u _ hw) (cwV 0 hts gX6_second_X6_pop rfl rfl rfl (by decide +kernel) ⟨Nat.le_of_ble_eq_true rfl, Nat.le_of_ble_eq_true rfl⟩) tru_h tru_b 0 rfl rfl rfl rfl rfl hl.1 (Nat.le_of_ble_eq_true rfl) dX6_second_112 ⟨Nat.zero_le _, Nat.zero_le _⟩ (fun r4 u3 H locs hP hD hS hw => ?_)
      replace hP : va_P D vwCl (WQ cI h0 h1 h2 h3 h4 h5 u3) H := hP
      replace hD : va_D A (WQ cI h0 h1 h2 h3 h4 h5 u3) := hD
      refine va_iast hx hb hK hP hD hS 1 1 (f := (q_registers u3)) rfl rfl hw.1 dX6_second_115 (fun H locs hP hD hS => ?_)
      replace hw := hw.2
      replace hP : va_P D vwCl (WQ cI h0 h1 h2 h3 h4 h5 (qs_registers u3 (upd (q_registers u3) ((q_code u) &&& (7 : Int32)).toNatClampNeg r4))) H := hP
      replace hD : va_D A (WQ cI h0 h1 h2 h3 h4 h5 (qs_registers u3 (upd (q_registers u3) ((q_code u) &&& (7 : Int32)).toNatClampNeg r4))) := hD
      exact rt_v (wo := (fun v => WQ cI h0 h1 h2 h3 h4 h5 v)) S hr hlk (qs_registers u3 (upd (q_registers u3) ((q_code u) &&& (7 : Int32)).toNatClampNeg r4)) hP hS hw dX6_second_116
    · replace hw := hw.2 c2
      refine lv_aload_n hx hb dX6_second_63 rfl (lv_at hl 1 rfl) ?_
      refine va_get (D := D) (ci := 6) (v := .ref h1) (C := RX6) (T := TX6) (N := 29) hx hb hts i_X6 hown hK hP 0 rfl rfl 1 (by decide) f_7 (fun _ h9 => h9) rfl dX6_second_64 ?_
      refine lv_iconst (v := (4 : Int32)) hx hb dX6_second_67 (by decide) ?_
      refine lv_aload_n hx hb dX6_second_68 rfl (lv_at hl 1 rfl) ?_
      refine va_get (D := D) (ci := 6) (v := .ref h1) (C := RX6) (T := TX6) (N := 29) hx hb hts i_X6 hown hK hP 0 rfl rfl 1 (by decide) f_7 (fun _ h9 => h9) rfl dX6_second_69 ?_
      refine lv_iconst (v := (4 : Int32)) hx hb dX6_second_72 (by decide) ?_
      refine va_iald hx hb hK hP 1 1 (f := (q_registers u)) rfl rfl hw.1 dX6_second_73 ?_
      replace hw := hw.2
      refine lv_iconst (v := (2 : Int32)) hx hb dX6_second_74 (by decide) ?_
      refine lv_isub hx hb dX6_second_75 ?_
      refine lv_ldc (v := (65535 : Int32)) hx hb hown k_39 dX6_second_76 ?_
      refine lv_iand hx hb dX6_second_78 ?_
      refine va_iast hx hb hK hP hD hS 1 1 (f := (q_registers u)) rfl rfl hw.1 dX6_second_79 (fun H locs hP hD hS => ?_)
      replace hw := hw.2
      replace hP : va_P D vwCl (WQ cI h0 h1 h2 h3 h4 h5 (qs_registers u (upd (q_registers u) (4 : Int32).toNatClampNeg ((((q_registers u) (4 : Int32).toNatClampNeg) - (2 : Int32)) &&& (65535 : Int32))))) H := hP
      replace hD : va_D A (WQ cI h0 h1 h2 h3 h4 h5 (qs_registers u (upd (q_registers u) (4 : Int32).toNatClampNeg ((((q_registers u) (4 : Int32).toNatClampNeg) - (2 : Int32)) &&& (65535 : Int32))))) := hD
      refine lv_aload_n hx hb dX6_second_80 rfl (lv_at hl 1 rfl) ?_
      refine lv_aload_n hx hb dX6_second_81 rfl (lv_at hl 1 rfl) ?_
      refine va_get (D := D) (ci := 6) (v := .ref h2) (C := RX6) (T := TX6) (N := 29) hx hb hts i_X6 hown hK hP 0 rfl rfl 2 (by decide) f_13 (fun _ h9 => h9) rfl dX6_second_82 ?_
      refine lv_iconst (v := (2 : Int32)) hx hb dX6_second_85 (by decide) ?_
      refine va_iald hx hb hK hP 2 1 (f := (q_segments u)) rfl rfl hw.1 dX6_second_86 ?_
      replace hw := hw.2
      refine lv_aload_n hx hb dX6_second_87 rfl (lv_at hl 1 rfl) ?_
      refine va_get (D := D) (ci := 6) (v := .ref h1) (C := RX6) (T := TX6) (N := 29) hx hb hts i_X6 hown hK hP 0 rfl rfl 1 (by decide) f_7 (fun _ h9 => h9) rfl dX6_second_88 ?_
      refine lv_iconst (v := (4 : Int32)) hx hb dX6_second_91 (by decide) ?_
      refine va_iald hx hb hK hP 1 1 (f := (upd (q_registers u) (4 : Int32).toNatClampNeg ((((q_registers u) (4 : Int32).toNatClampNeg) - (2 : Int32)) &&& (65535 : Int32)))) rfl rfl hw.1 dX6_second_92 ?_
      replace hw := hw.2
      refine lv_iconst (v := (1 : Int32)) hx hb dX6_second_93 (by decide) ?_
      refine lv_aload_n hx hb dX6_second_94 rfl (lv_at hl 1 rfl) ?_
      refine va_get (D := D) (ci := 6) (v := .ref h1) (C := RX6) (T := TX6) (N := 29) hx hb hts i_X6 hown hK hP 0 rfl rfl 1 (by decide) f_7 (fun _ h9 => h9) rfl dX6_second_95 ?_
      refine lv_iload_n hx hb dX6_second_98 rfl (lv_at hl 0 rfl) ?_
      refine va_iald hx hb hK hP 1 1 (f := (upd (q_registers u) (4 : Int32).toNatClampNeg ((((q_registers u) (4 : Int32).toNatClampNeg) - (2 : Int32)) &&& (65535 : Int32)))) rfl rfl hw.1 dX6_second_99 ?_
      replace hw := hw.2
      refine cl_Vv (As := [.int ((q_segments u) (2 : Int32).toNatClampNeg), .int ((upd (q_registers u) (4 : Int32).toNatClampNeg ((((q_registers u) (4 : Int32).toNatClampNeg) - (2 : Int32)) &&& (65535 : Int32))) (4 : Int32).toNatClampNeg), .int (1 : Int32), .int ((upd (q_registers u) (4 : Int32).toNatClampNeg ((((q_registers u) (4 : Int32).toNatClampNeg) - (2 : Int32)) &&& (65535 : Int32))) ((q_code u) &&& (7 : Int32)).toNatClampNeg)]) (rest := []) (st := [.int ((upd (q_registers u) (4 : Int32).toNatClampNeg ((((q_registers u) (4 : Int32).toNatClampNeg) - (2 : Int32)) &&& (65535 : Int32))) ((q_code u) &&& (7 : Int32)).toNatClampNeg), .int (1 : Int32), .int ((upd (q_registers u) (4 : Int32).toNatClampNeg ((((q_registers u) (4 : Int32).toNatClampNeg) - (2 : Int32)) &&& (65535 : Int32))) (4 : Int32).toNatClampNeg), .int ((q_segments u) (2 : Int32).toNatClampNeg), .ref h0]) S hK hA hP hD hS (fr_Q (qs_registers u (upd (q_registers u) (4 : Int32).toNatClampNeg ((((q_registers u) (4 : Int32).toNatClampNeg) - (2 : Int32)) &&& (65535 : Int32))))) (kcX6_put l D cB cI h0 h1 h2 h3 h4 h5 H.size ((q_segments u) (2 : Int32).toNatClampNeg) ((upd (q_registers u) (4 : Int32).toNatClampNeg ((((q_registers u) (4 : Int32).toNatClampNeg) - (2 : Int32)) &&& (65535 : Int32))) (4 : Int32).toNatClampNeg) (1 : Int32) ((upd (q_registers u) (4 : Int32).toNatClampNeg ((((q_registers u) (4 : Int32).toNatClampNeg) - (2 : Int32)) &&& (65535 : Int32))) ((q_code u) &&& (7 : Int32)).toNatClampNeg) (qs_registers u (upd (q_registers u) (4 : Int32).toNatClampNeg ((((q_registers u) (4 : Int32).toNatClampNeg) - (2 : Int32)) &&& (65535 : Int32)))) _ hw) (cwV 4 hts gX6_second_X6_put rfl rfl rfl (by decide +kernel) ⟨Nat.le_of_ble_eq_true rfl, Nat.le_of_ble_eq_true rfl⟩) tru_h tru_b 0 rfl rfl rfl rfl rfl hl.1 (Nat.le_of_ble_eq_true rfl) dX6_second_100 ⟨Nat.zero_le _, Nat.zero_le _⟩ (fun u5 H locs hP hD hS hw => ?_)
      replace hP : va_P D vwCl (WQ cI h0 h1 h2 h3 h4 h5 u5) H := hP
      replace hD : va_D A (WQ cI h0 h1 h2 h3 h4 h5 u5) := hD
      refine lv_goto (tgt := 116) hx hb dX6_second_103 (by decide) ?_
      exact rt_v (wo := (fun v => WQ cI h0 h1 h2 h3 h4 h5 v)) S hr hlk u5 hP hS hw dX6_second_116
  · replace hw := hw.2 c1
    refine lv_aload_n hx hb dX6_second_17 rfl (lv_at hl 1 rfl) ?_
    refine va_get (D := D) (ci := 6) (v := .ref h1) (C := RX6) (T := TX6) (N := 29) hx hb hts i_X6 hown hK hP 0 rfl rfl 1 (by decide) f_7 (fun _ h9 => h9) rfl dX6_second_18 ?_
    refine lv_iload_n hx hb dX6_second_21 rfl (lv_at hl 0 rfl) ?_
    refine lv_aload_n hx hb dX6_second_22 rfl (lv_at hl 1 rfl) ?_
    refine lv_aload_n hx hb dX6_second_23 rfl (lv_at hl 1 rfl) ?_
    refine va_get (D := D) (ci := 6) (v := .int (q_code u)) (C := RX6) (T := TX6) (N := 29) hx hb hts i_X6 hown hK hP 0 rfl rfl 21 (by decide) f_148 (fun _ h9 => h9) rfl dX6_second_24 ?_
    refine lv_bipush (v := (72 : Int32)) hx hb dX6_second_27 (by decide) ?_
    refine lv_icmp_ge (tgt := 37) hx hb dX6_second_29 (by decide) (fun c7 => ?_) (fun c7 => ?_)
    · replace hw := hw.1 c7
      refine lv_bipush (v := (10 : Int32)) hx hb dX6_second_37 (by decide) ?_
      exact b39 ((q_code u) &&& (7 : Int32)) ((q_code u) &&& (7 : Int32)) (10 : Int32) u H locs ls hP hD hS (lv_sub hl [1, 0] rfl) hw
    · replace hw := hw.2 c7
      refine lv_bipush (v := (9 : Int32)) hx hb dX6_second_32 (by decide) ?_
      refine lv_goto (tgt := 39) hx hb dX6_second_34 (by decide) ?_
      exact b39 ((q_code u) &&& (7 : Int32)) ((q_code u) &&& (7 : Int32)) (9 : Int32) u H locs ls hP hD hS (lv_sub hl [1, 0] rfl) hw
-- X6_moves
def wX6_moves_b196  (P : SQ → Prop) (x1 : Int32) (u : SQ) : Prop := (wX6_operand x1 u (fun r52 u51 => (wX6_setRegister (q_r u) x1 r52 u51 (fun u53 => (P u53)))))
def wX6_moves_b179  (P : SQ → Prop) (x1 : Int32) (u : SQ) : Prop := (wX6_register (q_r u) x1 u (fun r48 u47 => (wX6_give x1 r48 u47 (fun u49 => (P u49)))))
def wX6_moves_b146  (P : SQ → Prop) (x1 : Int32) (u : SQ) : Prop := (wX6_operand x1 u (fun r40 u39 => (wX6_register (q_r u39) x1 u39 (fun r42 u41 => (wX6_give x1 r42 u41 (fun u43 => (wX6_setRegister (q_r u43) x1 r40 u43 (fun u45 => (P u45)))))))))
def wX6_moves_b121  (P : SQ → Prop) (x1 : Int32) (u : SQ) : Prop := (wX6_operand x1 u (fun r34 u33 => (wX6_register (q_r u33) x1 u33 (fun r36 u35 => (wX6_operation (8 : Int32) r34 r36 x1 u35 (fun r38 u37 => (P u37)))))))
def wX6_moves_b84  (P : SQ → Prop) (x1 : Int32) (u : SQ) : Prop := (wX6_operand x1 u (fun r27 u26 => (wX6_operation (q_r u) r27 (q_i u26) x1 u26 (fun r29 u28 => (((q_r u28) = (7 : Int32) → (P u28)) ∧ (¬ (q_r u28) = (7 : Int32) → (wX6_give x1 r29 u28 (fun u31 => (P u31)))))))))
def wX6_moves  (u : SQ) (P : SQ → Prop) : Prop := (wX6_isWide  u (fun r2 u1 => (((q_code u1) = (128 : Int32) → (wX6_moves_b84  P r2 u1)) ∧ (¬ (q_code u1) = (128 : Int32) → (((q_code u1) = (129 : Int32) → (wX6_moves_b84  P r2 u1)) ∧ (¬ (q_code u1) = (129 : Int32) → (((q_code u1) = (130 : Int32) → (wX6_moves_b84  P r2 u1)) ∧ (¬ (q_code u1) = (130 : Int32) → (((q_code u1) = (131 : Int32) → (wX6_moves_b84  P r2 u1)) ∧ (¬ (q_code u1) = (131 : Int32) → (((q_code u1) = (132 : Int32) → (wX6_moves_b121  P r2 u1)) ∧ (¬ (q_code u1) = (132 : Int32) → (((q_code u1) = (133 : Int32) → (wX6_moves_b121  P r2 u1)) ∧ (¬ (q_code u1) = (133 : Int32) → (((q_code u1) = (134 : Int32) → (wX6_moves_b146  P r2 u1)) ∧ (¬ (q_code u1) = (134 : Int32) → (((q_code u1) = (135 : Int32) → (wX6_moves_b146  P r2 u1)) ∧ (¬ (q_code u1) = (135 : Int32) → (((q_code u1) = (136 : Int32) → (wX6_moves_b179  P r2 u1)) ∧ (¬ (q_code u1) = (136 : Int32) → (((q_code u1) = (137 : Int32) → (wX6_moves_b179  P r2 u1)) ∧ (¬ (q_code u1) = (137 : Int32) → (((q_code u1) = (138 : Int32) → (wX6_moves_b196  P r2 u1)) ∧ (¬ (q_code u1) = (138 : Int32) → (((q_code u1) = (139 : Int32) → (wX6_moves_b196  P r2 u1)) ∧ (¬ (q_code u1) = (139 : Int32) → (((q_code u1) = (140 : Int32) → (vp_in ((q_r u1) &&& (3 : Int32)) 4 ∧ (wX6_give (1 : Int32) ((q_segments u1) ((q_r u1) &&& (3 : Int32)).toNatClampNeg) u1 (fun u16 => (P u16))))) ∧ (¬ (q_code u1) = (140 : Int32) → (((q_code u1) = (141 : Int32) → (vp_in (q_r u1) 8 ∧ (P (qs_registers u1 (upd (q_registers u1) (q_r u1).toNatClampNeg (q_offset u1)))))) ∧ (¬ (q_code u1) = (141 : Int32) → (((q_code u1) = (142 : Int32) → (wX6_operand (1 : Int32) u1 (fun r21 u20 => (vp_in ((q_r u1) &&& (3 : Int32)) 4 ∧ (P (qs_gave (qs_segments u20 (upd (q_segments u20) ((q_r u1) &&& (3 : Int32)).toNatClampNeg r21)) (1 : Int32))))))) ∧ (¬ (q_code u1) = (142 : Int32) → (wX6_pop  u1 (fun r23 u22 => (wX6_give (1 : Int32) r23 u22 (fun u24 => (P u24)))))))))))))))))))))))))))))))))))))
set_option maxHeartbeats 4000000 in
set_option maxRecDepth 100000 in
theorem kcX6_moves (l : Launch) (D : va_G) (cB cI : ClassId) (h0 h1 h2 h3 h4 h5 : Nat) (sz : Nat)  (u : SQ) (P : SQ → Prop) (hw : wX6_moves  u P) : Met l yX6_moves wsX6_moves ({ frames := 4, cells := 0, slots := 0, locals := 98 } : Room) (va_Pc [.ref h0] (Pcw D (tyA cB cI) (WQ cI h0 h1 h2 h3 h4 h5 u) sz Tru)) (va_Qv P (fun u t => va_P D vwCl (WQ cI h0 h1 h2 h3 h4 h5 u) t.heap) (va_A (WQ cI h0 h1 h2 h3 h4 h5 u) sz)) 0 0 (va_A (WQ cI h0 h1 h2 h3 h4 h5 u) sz) := by
  refine en_ (cc := cX6_moves) (maxL := 3) (ret := none) (own := RX6) (lv := [(0, .ref h0)]) (Qf := fun A => va_Qv P (fun u t => va_P D vwCl (WQ cI h0 h1 h2 h3 h4 h5 u) t.heap) A) (by decide) rfl rfl (Nat.le_of_ble_eq_true rfl) rfl ?_
  intro p e s m below meth c A ls S hr hlk hname hsz hP hK hD hA hSub hS hE hl
  have hx := S.1
  have hb := S.2.1
  have hown := S.2.2.2.1
  have hts := S.2.2.2.2
  have i_X6 : ∀ w ∈ u_ws RX6 TX6 29, w ∈ wsX6_moves := by decide +kernel
  have f_7 := hts (.fieldLink RX6 7 "MachineCoreModel" "registers" "[I") (by decide +kernel)
  have f_13 := hts (.fieldLink RX6 13 "MachineCoreModel" "segments" "[I") (by decide +kernel)
  have f_130 := hts (.fieldLink RX6 130 "MachineCoreModel" "r" "I") (by decide +kernel)
  have f_139 := hts (.fieldLink RX6 139 "MachineCoreModel" "offset" "I") (by decide +kernel)
  have f_148 := hts (.fieldLink RX6 148 "MachineCoreModel" "code" "I") (by decide +kernel)
  have f_164 := hts (.fieldLink RX6 164 "MachineCoreModel" "i" "I") (by decide +kernel)
  have f_209 := hts (.fieldLink RX6 209 "MachineCoreModel" "gave" "Z") (by decide +kernel)
  have b196 : ∀ (x1 : Int32) (u : SQ) (H : Heap) (locs : List Loc) (ls : Array Slot), va_P D vwCl (WQ cI h0 h1 h2 h3 h4 h5 u) H → va_D A (WQ cI h0 h1 h2 h3 h4 h5 u) → va_S A s.heap H locs → lv_has ls 3 [(0, .ref h0), (1, .int x1)] → wX6_moves_b196  P x1 u → W p l e ({ frames := 4, cells := 0, slots := 0, locals := 98 } : Room) s m ([.ref h0] : List Value).toArray below meth c H locs 0 0 (MQ below (va_Qv P (fun u t => va_P D vwCl (WQ cI h0 h1 h2 h3 h4 h5 u) t.heap) A) ([.ref h0] : List Value).toArray s 0 0 A) (F0 m 196 ls []) := by
    intro x1 u H locs ls hP hD hS hl hw
    unfold wX6_moves_b196 at hw
    refine lv_aload_n hx hb dX6_moves_196 rfl (lv_at hl 0 rfl) ?_
    refine lv_aload_n hx hb dX6_moves_197 rfl (lv_at hl 0 rfl) ?_
    refine va_get (D := D) (ci := 6) (v := .int (q_r u)) (C := RX6) (T := TX6) (N := 29) hx hb hts i_X6 hown hK hP 0 rfl rfl 23 (by decide) f_130 (fun _ h9 => h9) rfl dX6_moves_198 ?_
    refine lv_iload_n hx hb dX6_moves_201 rfl (lv_at hl 1 rfl) ?_
    refine lv_aload_n hx hb dX6_moves_202 rfl (lv_at hl 0 rfl) ?_
    refine lv_iload_n hx hb dX6_moves_203 rfl (lv_at hl 1 rfl) ?_
    refine cl_Vi (As := [.int x1]) (rest := [.int x1, .int (q_r u), .ref h0]) (st := [.int x1, .ref h0, .int x1, .int (q_r u), .ref h0]) S hK hA hP hD hS (fr_Q u) (kcX6_operand l D cB cI h0 h1 h2 h3 h4 h5 H.size x1 u _ hw) (cwV 1 hts gX6_moves_X6_operand rfl rfl rfl (by decide +kernel) ⟨Nat.le_of_ble_eq_true rfl, Nat.le_of_ble_eq_true rfl⟩) tru_h tru_b 0 rfl rfl rfl rfl rfl hl.1 (Nat.le_of_ble_eq_true rfl) dX6_moves_204 ⟨Nat.zero_le _, Nat.zero_le _⟩ (fun r52 u51 H locs hP hD hS hw => ?_)
    replace hP : va_P D vwCl (WQ cI h0 h1 h2 h3 h4 h5 u51) H := hP
    replace hD : va_D A (WQ cI h0 h1 h2 h3 h4 h5 u51) := hD
    refine cl_Vv (As := [.int (q_r u), .int x1, .int r52]) (rest := []) (st := [.int r52, .int x1, .int (q_r u), .ref h0]) S hK hA hP hD hS (fr_Q u51) (kcX6_setRegister l D cB cI h0 h1 h2 h3 h4 h5 H.size (q_r u) x1 r52 u51 _ hw) (cwV 3 hts gX6_moves_X6_setRegister rfl rfl rfl (by decide +kernel) ⟨Nat.le_of_ble_eq_true rfl, Nat.le_of_ble_eq_true rfl⟩) tru_h tru_b 0 rfl rfl rfl rfl rfl hl.1 (Nat.le_of_ble_eq_true rfl) dX6_moves_207 ⟨Nat.zero_le _, Nat.zero_le _⟩ (fun u53 H locs hP hD hS hw => ?_)
    replace hP : va_P D vwCl (WQ cI h0 h1 h2 h3 h4 h5 u53) H := hP
    replace hD : va_D A (WQ cI h0 h1 h2 h3 h4 h5 u53) := hD
    refine lv_goto (tgt := 281) hx hb dX6_moves_210 (by decide) ?_
    exact rt_v (wo := (fun v => WQ cI h0 h1 h2 h3 h4 h5 v)) S hr hlk u53 hP hS hw dX6_moves_281
  have b179 : ∀ (x1 : Int32) (u : SQ) (H : Heap) (locs : List Loc) (ls : Array Slot), va_P D vwCl (WQ cI h0 h1 h2 h3 h4 h5 u) H → va_D A (WQ cI h0 h1 h2 h3 h4 h5 u) → va_S A s.heap H locs → lv_has ls 3 [(0, .ref h0), (1, .int x1)] → wX6_moves_b179  P x1 u → W p l e ({ frames := 4, cells := 0, slots := 0, locals := 98 } : Room) s m ([.ref h0] : List Value).toArray below meth c H locs 0 0 (MQ below (va_Qv P (fun u t => va_P D vwCl (WQ cI h0 h1 h2 h3 h4 h5 u) t.heap) A) ([.ref h0] : List Value).toArray s 0 0 A) (F0 m 179 ls []) := by
    intro x1 u H locs ls hP hD hS hl hw
    unfold wX6_moves_b179 at hw
    refine lv_aload_n hx hb dX6_moves_179 rfl (lv_at hl 0 rfl) ?_
    refine lv_iload_n hx hb dX6_moves_180 rfl (lv_at hl 1 rfl) ?_
    refine lv_aload_n hx hb dX6_moves_181 rfl (lv_at hl 0 rfl) ?_
    refine lv_aload_n hx hb dX6_moves_182 rfl (lv_at hl 0 rfl) ?_
    refine va_get (D := D) (ci := 6) (v := .int (q_r u)) (C := RX6) (T := TX6) (N := 29) hx hb hts i_X6 hown hK hP 0 rfl rfl 23 (by decide) f_130 (fun _ h9 => h9) rfl dX6_moves_183 ?_
    refine lv_iload_n hx hb dX6_moves_186 rfl (lv_at hl 1 rfl) ?_
    refine cl_Vi (As := [.int (q_r u), .int x1]) (rest := [.int x1, .ref h0]) (st := [.int x1, .int (q_r u), .ref h0, .int x1, .ref h0]) S hK hA hP hD hS (fr_Q u) (kcX6_register l D cB cI h0 h1 h2 h3 h4 h5 H.size (q_r u) x1 u _ hw) (cwV 2 hts gX6_moves_X6_register rfl rfl rfl (by decide +kernel) ⟨Nat.le_of_ble_eq_true rfl, Nat.le_of_ble_eq_true rfl⟩) tru_h tru_b 0 rfl rfl rfl rfl rfl hl.1 (Nat.le_of_ble_eq_true rfl) dX6_moves_187 ⟨Nat.zero_le _, Nat.zero_le _⟩ (fun r48 u47 H locs hP hD hS hw => ?_)
    replace hP : va_P D vwCl (WQ cI h0 h1 h2 h3 h4 h5 u47) H := hP
    replace hD : va_D A (WQ cI h0 h1 h2 h3 h4 h5 u47) := hD
    refine cl_Vv (As := [.int x1, .int r48]) (rest := []) (st := [.int r48, .int x1, .ref h0]) S hK hA hP hD hS (fr_Q u47) (kcX6_give l D cB cI h0 h1 h2 h3 h4 h5 H.size x1 r48 u47 _ hw) (cwV 2 hts gX6_moves_X6_give rfl rfl rfl (by decide +kernel) ⟨Nat.le_of_ble_eq_true rfl, Nat.le_of_ble_eq_true rfl⟩) tru_h tru_b 0 rfl rfl rfl rfl rfl hl.1 (Nat.le_of_ble_eq_true rfl) dX6_moves_190 ⟨Nat.zero_le _, Nat.zero_le _⟩ (fun u49 H locs hP hD hS hw => ?_)
    replace hP : va_P D vwCl (WQ cI h0 h1 h2 h3 h4 h5 u49) H := hP
    replace hD : va_D A (WQ cI h0 h1 h2 h3 h4 h5 u49) := hD
    refine lv_goto (tgt := 281) hx hb dX6_moves_193 (by decide) ?_
    exact rt_v (wo := (fun v => WQ cI h0 h1 h2 h3 h4 h5 v)) S hr hlk u49 hP hS hw dX6_moves_281
  have b146 : ∀ (x1 : Int32) (u : SQ) (H : Heap) (locs : List Loc) (ls : Array Slot), va_P D vwCl (WQ cI h0 h1 h2 h3 h4 h5 u) H → va_D A (WQ cI h0 h1 h2 h3 h4 h5 u) → va_S A s.heap H locs → lv_has ls 3 [(0, .ref h0), (1, .int x1)] → wX6_moves_b146  P x1 u → W p l e ({ frames := 4, cells := 0, slots := 0, locals := 98 } : Room) s m ([.ref h0] : List Value).toArray below meth c H locs 0 0 (MQ below (va_Qv P (fun u t => va_P D vwCl (WQ cI h0 h1 h2 h3 h4 h5 u) t.heap) A) ([.ref h0] : List Value).toArray s 0 0 A) (F0 m 146 ls []) := by
    intro x1 u H locs ls hP hD hS hl hw
    unfold wX6_moves_b146 at hw
    refine lv_aload_n hx hb dX6_moves_146 rfl (lv_at hl 0 rfl) ?_
    refine lv_iload_n hx hb dX6_moves_147 rfl (lv_at hl 1 rfl) ?_
    refine cl_Vi (As := [.int x1]) (rest := []) (st := [.int x1, .ref h0]) S hK hA hP hD hS (fr_Q u) (kcX6_operand l D cB cI h0 h1 h2 h3 h4 h5 H.size x1 u _ hw) (cwV 1 hts gX6_moves_X6_operand rfl rfl rfl (by decide +kernel) ⟨Nat.le_of_ble_eq_true rfl, Nat.le_of_ble_eq_true rfl⟩) tru_h tru_b 0 rfl rfl rfl rfl rfl hl.1 (Nat.le_of_ble_eq_true rfl) dX6_moves_148 ⟨Nat.zero_le _, Nat.zero_le _⟩ (fun r40 u39 H locs hP hD hS hw => ?_)
    replace hP : va_P D vwCl (WQ cI h0 h1 h2 h3 h4 h5 u39) H := hP
    replace hD : va_D A (WQ cI h0 h1 h2 h3 h4 h5 u39) := hD
    refine lv_istore_n (lv' := [(2, .int r40), (0, .ref h0), (1, .int x1)]) hx hb dX6_moves_151 rfl hl (by decide) rfl (fun ls hl => ?_)
    refine lv_aload_n hx hb dX6_moves_152 rfl (lv_at hl 1 rfl) ?_
    refine lv_iload_n hx hb dX6_moves_153 rfl (lv_at hl 2 rfl) ?_
    refine lv_aload_n hx hb dX6_moves_154 rfl (lv_at hl 1 rfl) ?_
    refine lv_aload_n hx hb dX6_moves_155 rfl (lv_at hl 1 rfl) ?_
    refine va_get (D := D) (ci := 6) (v := .int (q_r u39)) (C := RX6) (T := TX6) (N := 29) hx hb hts i_X6 hown hK hP 0 rfl rfl 23 (by decide) f_130 (fun _ h9 => h9) rfl dX6_moves_156 ?_
    refine lv_iload_n hx hb dX6_moves_159 rfl (lv_at hl 2 rfl) ?_
    refine cl_Vi (As := [.int (q_r u39), .int x1]) (rest := [.int x1, .ref h0]) (st := [.int x1, .int (q_r u39), .ref h0, .int x1, .ref h0]) S hK hA hP hD hS (fr_Q u39) (kcX6_register l D cB cI h0 h1 h2 h3 h4 h5 H.size (q_r u39) x1 u39 _ hw) (cwV 2 hts gX6_moves_X6_register rfl rfl rfl (by decide +kernel) ⟨Nat.le_of_ble_eq_true rfl, Nat.le_of_ble_eq_true rfl⟩) tru_h tru_b 0 rfl rfl rfl rfl rfl hl.1 (Nat.le_of_ble_eq_true rfl) dX6_moves_160 ⟨Nat.zero_le _, Nat.zero_le _⟩ (fun r42 u41 H locs hP hD hS hw => ?_)
    replace hP : va_P D vwCl (WQ cI h0 h1 h2 h3 h4 h5 u41) H := hP
    replace hD : va_D A (WQ cI h0 h1 h2 h3 h4 h5 u41) := hD
    refine cl_Vv (As := [.int x1, .int r42]) (rest := []) (st := [.int r42, .int x1, .ref h0]) S hK hA hP hD hS (fr_Q u41) (kcX6_give l D cB cI h0 h1 h2 h3 h4 h5 H.size x1 r42 u41 _ hw) (cwV 2 hts gX6_moves_X6_give rfl rfl rfl (by decide +kernel) ⟨Nat.le_of_ble_eq_true rfl, Nat.le_of_ble_eq_true rfl⟩) tru_h tru_b 0 rfl rfl rfl rfl rfl hl.1 (Nat.le_of_ble_eq_true rfl) dX6_moves_163 ⟨Nat.zero_le _, Nat.zero_le _⟩ (fun u43 H locs hP hD hS hw => ?_)
    replace hP : va_P D vwCl (WQ cI h0 h1 h2 h3 h4 h5 u43) H := hP
    replace hD : va_D A (WQ cI h0 h1 h2 h3 h4 h5 u43) := hD
    refine lv_aload_n hx hb dX6_moves_166 rfl (lv_at hl 1 rfl) ?_
    refine lv_aload_n hx hb dX6_moves_167 rfl (lv_at hl 1 rfl) ?_
    refine va_get (D := D) (ci := 6) (v := .int (q_r u43)) (C := RX6) (T := TX6) (N := 29) hx hb hts i_X6 hown hK hP 0 rfl rfl 23 (by decide) f_130 (fun _ h9 => h9) rfl dX6_moves_168 ?_
    refine lv_iload_n hx hb dX6_moves_171 rfl (lv_at hl 2 rfl) ?_
    refine lv_iload_n hx hb dX6_moves_172 rfl (lv_at hl 0 rfl) ?_
    refine cl_Vv (As := [.int (q_r u43), .int x1, .int r40]) (rest := []) (st := [.int r40, .int x1, .int (q_r u43), .ref h0]) S hK hA hP hD hS (fr_Q u43) (kcX6_setRegister l D cB cI h0 h1 h2 h3 h4 h5 H.size (q_r u43) x1 r40 u43 _ hw) (cwV 3 hts gX6_moves_X6_setRegister rfl rfl rfl (by decide +kernel) ⟨Nat.le_of_ble_eq_true rfl, Nat.le_of_ble_eq_true rfl⟩) tru_h tru_b 0 rfl rfl rfl rfl rfl hl.1 (Nat.le_of_ble_eq_true rfl) dX6_moves_173 ⟨Nat.zero_le _, Nat.zero_le _⟩ (fun u45 H locs hP hD hS hw => ?_)
    replace hP : va_P D vwCl (WQ cI h0 h1 h2 h3 h4 h5 u45) H := hP
    replace hD : va_D A (WQ cI h0 h1 h2 h3 h4 h5 u45) := hD
    refine lv_goto (tgt := 281) hx hb dX6_moves_176 (by decide) ?_
    exact rt_v (wo := (fun v => WQ cI h0 h1 h2 h3 h4 h5 v)) S hr hlk u45 hP hS hw dX6_moves_281
  have b121 : ∀ (x1 : Int32) (u : SQ) (H : Heap) (locs : List Loc) (ls : Array Slot), va_P D vwCl (WQ cI h0 h1 h2 h3 h4 h5 u) H → va_D A (WQ cI h0 h1 h2 h3 h4 h5 u) → va_S A s.heap H locs → lv_has ls 3 [(0, .ref h0), (1, .int x1)] → wX6_moves_b121  P x1 u → W p l e ({ frames := 4, cells := 0, slots := 0, locals := 98 } : Room) s m ([.ref h0] : List Value).toArray below meth c H locs 0 0 (MQ below (va_Qv P (fun u t => va_P D vwCl (WQ cI h0 h1 h2 h3 h4 h5 u) t.heap) A) ([.ref h0] : List Value).toArray s 0 0 A) (F0 m 121 ls []) := by
    intro x1 u H locs ls hP hD hS hl hw
    unfold wX6_moves_b121 at hw
    refine lv_aload_n hx hb dX6_moves_121 rfl (lv_at hl 0 rfl) ?_
    refine lv_bipush (v := (8 : Int32)) hx hb dX6_moves_122 (by decide) ?_
    refine lv_aload_n hx hb dX6_moves_124 rfl (lv_at hl 0 rfl) ?_
    refine lv_iload_n hx hb dX6_moves_125 rfl (lv_at hl 1 rfl) ?_
    refine cl_Vi (As := [.int x1]) (rest := [.int (8 : Int32), .ref h0]) (st := [.int x1, .ref h0, .int (8 : Int32), .ref h0]) S hK hA hP hD hS (fr_Q u) (kcX6_operand l D cB cI h0 h1 h2 h3 h4 h5 H.size x1 u _ hw) (cwV 1 hts gX6_moves_X6_operand rfl rfl rfl (by decide +kernel) ⟨Nat.le_of_ble_eq_true rfl, Nat.le_of_ble_eq_true rfl⟩) tru_h tru_b 0 rfl rfl rfl rfl rfl hl.1 (Nat.le_of_ble_eq_true rfl) dX6_moves_126 ⟨Nat.zero_le _, Nat.zero_le _⟩ (fun r34 u33 H locs hP hD hS hw => ?_)
    replace hP : va_P D vwCl (WQ cI h0 h1 h2 h3 h4 h5 u33) H := hP
    replace hD : va_D A (WQ cI h0 h1 h2 h3 h4 h5 u33) := hD
    refine lv_aload_n hx hb dX6_moves_129 rfl (lv_at hl 0 rfl) ?_
    refine lv_aload_n hx hb dX6_moves_130 rfl (lv_at hl 0 rfl) ?_
    refine va_get (D := D) (ci := 6) (v := .int (q_r u33)) (C := RX6) (T := TX6) (N := 29) hx hb hts i_X6 hown hK hP 0 rfl rfl 23 (by decide) f_130 (fun _ h9 => h9) rfl dX6_moves_131 ?_
    refine lv_iload_n hx hb dX6_moves_134 rfl (lv_at hl 1 rfl) ?_
    refine cl_Vi (As := [.int (q_r u33), .int x1]) (rest := [.int r34, .int (8 : Int32), .ref h0]) (st := [.int x1, .int (q_r u33), .ref h0, .int r34, .int (8 : Int32), .ref h0]) S hK hA hP hD hS (fr_Q u33) (kcX6_register l D cB cI h0 h1 h2 h3 h4 h5 H.size (q_r u33) x1 u33 _ hw) (cwV 2 hts gX6_moves_X6_register rfl rfl rfl (by decide +kernel) ⟨Nat.le_of_ble_eq_true rfl, Nat.le_of_ble_eq_true rfl⟩) tru_h tru_b 0 rfl rfl rfl rfl rfl hl.1 (Nat.le_of_ble_eq_true rfl) dX6_moves_135 ⟨Nat.zero_le _, Nat.zero_le _⟩ (fun r36 u35 H locs hP hD hS hw => ?_)
    replace hP : va_P D vwCl (WQ cI h0 h1 h2 h3 h4 h5 u35) H := hP
    replace hD : va_D A (WQ cI h0 h1 h2 h3 h4 h5 u35) := hD
    refine lv_iload_n hx hb dX6_moves_138 rfl (lv_at hl 1 rfl) ?_
    refine cl_Vi (As := [.int (8 : Int32), .int r34, .int r36, .int x1]) (rest := []) (st := [.int x1, .int r36, .int r34, .int (8 : Int32), .ref h0]) S hK hA hP hD hS (fr_Q u35) (kcX6_operation l D cB cI h0 h1 h2 h3 h4 h5 H.size (8 : Int32) r34 r36 x1 u35 _ hw) (cwV 4 hts gX6_moves_X6_operation rfl rfl rfl (by decide +kernel) ⟨Nat.le_of_ble_eq_true rfl, Nat.le_of_ble_eq_true rfl⟩) tru_h tru_b 0 rfl rfl rfl rfl rfl hl.1 (Nat.le_of_ble_eq_true rfl) dX6_moves_139 ⟨Nat.zero_le _, Nat.zero_le _⟩ (fun r38 u37 H locs hP hD hS hw => ?_)
    replace hP : va_P D vwCl (WQ cI h0 h1 h2 h3 h4 h5 u37) H := hP
    replace hD : va_D A (WQ cI h0 h1 h2 h3 h4 h5 u37) := hD
    refine lv_istore_n (lv' := [(2, .int r38), (0, .ref h0), (1, .int x1)]) hx hb dX6_moves_142 rfl hl (by decide) rfl (fun ls hl => ?_)
    refine lv_goto (tgt := 281) hx hb dX6_moves_143 (by decide) ?_
    exact rt_v (wo := (fun v => WQ cI h0 h1 h2 h3 h4 h5 v)) S hr hlk u37 hP hS hw dX6_moves_281
  have b84 : ∀ (x1 : Int32) (u : SQ) (H : Heap) (locs : List Loc) (ls : Array Slot), va_P D vwCl (WQ cI h0 h1 h2 h3 h4 h5 u) H → va_D A (WQ cI h0 h1 h2 h3 h4 h5 u) → va_S A s.heap H locs → lv_has ls 3 [(0, .ref h0), (1, .int x1)] → wX6_moves_b84  P x1 u → W p l e ({ frames := 4, cells := 0, slots := 0, locals := 98 } : Room) s m ([.ref h0] : List Value).toArray below meth c H locs 0 0 (MQ below (va_Qv P (fun u t => va_P D vwCl (WQ cI h0 h1 h2 h3 h4 h5 u) t.heap) A) ([.ref h0] : List Value).toArray s 0 0 A) (F0 m 84 ls []) := by
    intro x1 u H locs ls hP hD hS hl hw
    unfold wX6_moves_b84 at hw
    refine lv_aload_n hx hb dX6_moves_84 rfl (lv_at hl 0 rfl) ?_
    refine lv_aload_n hx hb dX6_moves_85 rfl (lv_at hl 0 rfl) ?_
    refine va_get (D := D) (ci := 6) (v := .int (q_r u)) (C := RX6) (T := TX6) (N := 29) hx hb hts i_X6 hown hK hP 0 rfl rfl 23 (by decide) f_130 (fun _ h9 => h9) rfl dX6_moves_86 ?_
    refine lv_aload_n hx hb dX6_moves_89 rfl (lv_at hl 0 rfl) ?_
    refine lv_iload_n hx hb dX6_moves_90 rfl (lv_at hl 1 rfl) ?_
    refine cl_Vi (As := [.int x1]) (rest := [.int (q_r u), .ref h0]) (st := [.int x1, .ref h0, .int (q_r u), .ref h0]) S hK hA hP hD hS (fr_Q u) (kcX6_operand l D cB cI h0 h1 h2 h3 h4 h5 H.size x1 u _ hw) (cwV 1 hts gX6_moves_X6_operand rfl rfl rfl (by decide +kernel) ⟨Nat.le_of_ble_eq_true rfl, Nat.le_of_ble_eq_true rfl⟩) tru_h tru_b 0 rfl rfl rfl rfl rfl hl.1 (Nat.le_of_ble_eq_true rfl) dX6_moves_91 ⟨Nat.zero_le _, Nat.zero_le _⟩ (fun r27 u26 H locs hP hD hS hw => ?_)
    replace hP : va_P D vwCl (WQ cI h0 h1 h2 h3 h4 h5 u26) H := hP
    replace hD : va_D A (WQ cI h0 h1 h2 h3 h4 h5 u26) := hD
    refine lv_aload_n hx hb dX6_moves_94 rfl (lv_at hl 0 rfl) ?_
    refine va_get (D := D) (ci := 6) (v := .int (q_i u26)) (C := RX6) (T := TX6) (N := 29) hx hb hts i_X6 hown hK hP 0 rfl rfl 27 (by decide) f_164 (fun _ h9 => h9) rfl dX6_moves_95 ?_
    refine lv_iload_n hx hb dX6_moves_98 rfl (lv_at hl 1 rfl) ?_
    refine cl_Vi (As := [.int (q_r u), .int r27, .int (q_i u26), .int x1]) (rest := []) (st := [.int x1, .int (q_i u26), .int r27, .int (q_r u), .ref h0]) S hK hA hP hD hS (fr_Q u26) (kcX6_operation l D cB cI h0 h1 h2 h3 h4 h5 H.size (q_r u) r27 (q_i u26) x1 u26 _ hw) (cwV 4 hts gX6_moves_X6_operation rfl rfl rfl (by decide +kernel) ⟨Nat.le_of_ble_eq_true rfl, Nat.le_of_ble_eq_true rfl⟩) tru_h tru_b 0 rfl rfl rfl rfl rfl hl.1 (Nat.le_of_ble_eq_true rfl) dX6_moves_99 ⟨Nat.zero_le _, Nat.zero_le _⟩ (fun r29 u28 H locs hP hD hS hw => ?_)
    replace hP : va_P D vwCl (WQ cI h0 h1 h2 h3 h4 h5 u28) H := hP
    replace hD : va_D A (WQ cI h0 h1 h2 h3 h4 h5 u28) := hD
    refine lv_istore_n (lv' := [(2, .int r29), (0, .ref h0), (1, .int x1)]) hx hb dX6_moves_102 rfl hl (by decide) rfl (fun ls hl => ?_)
    refine lv_aload_n hx hb dX6_moves_103 rfl (lv_at hl 1 rfl) ?_
    refine va_get (D := D) (ci := 6) (v := .int (q_r u28)) (C := RX6) (T := TX6) (N := 29) hx hb hts i_X6 hown hK hP 0 rfl rfl 23 (by decide) f_130 (fun _ h9 => h9) rfl dX6_moves_104 ?_
    refine lv_bipush (v := (7 : Int32)) hx hb dX6_moves_107 (by decide) ?_
    refine lv_icmp_eq (tgt := 281) hx hb dX6_moves_109 (by decide) (fun c30 => ?_) (fun c30 => ?_)
    · replace hw := hw.1 c30
      exact rt_v (wo := (fun v => WQ cI h0 h1 h2 h3 h4 h5 v)) S hr hlk u28 hP hS hw dX6_moves_281
    · replace hw := hw.2 c30
      refine lv_aload_n hx hb dX6_moves_112 rfl (lv_at hl 1 rfl) ?_
      refine lv_iload_n hx hb dX6_moves_113 rfl (lv_at hl 2 rfl) ?_
      refine lv_iload_n hx hb dX6_moves_114 rfl (lv_at hl 0 rfl) ?_
      refine cl_Vv (As := [.int x1, .int r29]) (rest := []) (st := [.int r29, .int x1, .ref h0]) S hK hA hP hD hS (fr_Q u28) (kcX6_give l D cB cI h0 h1 h2 h3 h4 h5 H.size x1 r29 u28 _ hw) (cwV 2 hts gX6_moves_X6_give rfl rfl rfl (by decide +kernel) ⟨Nat.le_of_ble_eq_true rfl, Nat.le_of_ble_eq_true rfl⟩) tru_h tru_b 0 rfl rfl rfl rfl rfl hl.1 (Nat.le_of_ble_eq_true rfl) dX6_moves_115 ⟨Nat.zero_le _, Nat.zero_le _⟩ (fun u31 H locs hP hD hS hw => ?_)
      replace hP : va_P D vwCl (WQ cI h0 h1 h2 h3 h4 h5 u31) H := hP
      replace hD : va_D A (WQ cI h0 h1 h2 h3 h4 h5 u31) := hD
      refine lv_goto (tgt := 281) hx hb dX6_moves_118 (by decide) ?_
      exact rt_v (wo := (fun v => WQ cI h0 h1 h2 h3 h4 h5 v)) S hr hlk u31 hP hS hw dX6_moves_281
  unfold wX6_moves at hw
  obtain ⟨H, eH⟩ : ∃ H, H = s.heap := ⟨_, rfl⟩
  obtain ⟨locs, eL⟩ : ∃ locs : List Loc, locs = [] := ⟨_, rfl⟩
  replace hP : va_P D vwCl (WQ cI h0 h1 h2 h3 h4 h5 u) H := by rw [eH]; exact hP
  replace hS : va_S A s.heap H locs := by rw [eH, eL]; exact hS
  suffices hgo : W p l e ({ frames := 4, cells := 0, slots := 0, locals := 98 } : Room) s m ([.ref h0] : List Value).toArray below meth c H locs 0 0 (MQ below (va_Qv P (fun u t => va_P D vwCl (WQ cI h0 h1 h2 h3 h4 h5 u) t.heap) A) ([.ref h0] : List Value).toArray s 0 0 A) (F0 m 0 ls []) by rw [eH, eL] at hgo; exact hgo
  clear eH eL
  refine lv_aload_n hx hb dX6_moves_0 rfl (lv_at hl 0 rfl) ?_
  refine cl_Vi (As := []) (rest := []) (st := [.ref h0]) S hK hA hP hD hS (fr_Q u) (kcX6_isWide l D cB cI h0 h1 h2 h3 h4 h5 H.size  u _ hw) (cwV 0 hts gX6_moves_X6_isWide rfl rfl rfl (by decide +kernel) ⟨Nat.le_of_ble_eq_true rfl, Nat.le_of_ble_eq_true rfl⟩) tru_h tru_b 0 rfl rfl rfl rfl rfl hl.1 (Nat.le_of_ble_eq_true rfl) dX6_moves_1 ⟨Nat.zero_le _, Nat.zero_le _⟩ (fun r2 u1 H locs hP hD hS hw => ?_)
  replace hP : va_P D vwCl (WQ cI h0 h1 h2 h3 h4 h5 u1) H := hP
  replace hD : va_D A (WQ cI h0 h1 h2 h3 h4 h5 u1) := hD
  refine lv_istore_n (lv' := [(1, .int r2), (0, .ref h0)]) hx hb dX6_moves_4 rfl hl (by decide) rfl (fun ls hl => ?_)
  refine lv_aload_n hx hb dX6_moves_5 rfl (lv_at hl 1 rfl) ?_
  refine va_get (D := D) (ci := 6) (v := .int (q_code u1)) (C := RX6) (T := TX6) (N := 29) hx hb hts i_X6 hown hK hP 0 rfl rfl 21 (by decide) f_148 (fun _ h9 => h9) rfl dX6_moves_6 ?_
  by_cases c3 : (q_code u1) = (128 : Int32)
  · replace hw := hw.1 c3
    refine lv_tableIn (off := 75) (tgt := 84) hx hb dX6_moves_9 (by rw [c3]; decide) (by rw [c3]; decide) (by rw [c3]; rfl) (by decide) ?_
    exact b84 r2 u1 H locs ls hP hD hS (lv_sub hl [1, 0] rfl) hw
  replace hw := hw.2 c3
  by_cases c4 : (q_code u1) = (129 : Int32)
  · replace hw := hw.1 c4
    refine lv_tableIn (off := 75) (tgt := 84) hx hb dX6_moves_9 (by rw [c4]; decide) (by rw [c4]; decide) (by rw [c4]; rfl) (by decide) ?_
    exact b84 r2 u1 H locs ls hP hD hS (lv_sub hl [1, 0] rfl) hw
  replace hw := hw.2 c4
  by_cases c5 : (q_code u1) = (130 : Int32)
  · replace hw := hw.1 c5
    refine lv_tableIn (off := 75) (tgt := 84) hx hb dX6_moves_9 (by rw [c5]; decide) (by rw [c5]; decide) (by rw [c5]; rfl) (by decide) ?_
    exact b84 r2 u1 H locs ls hP hD hS (lv_sub hl [1, 0] rfl) hw
  replace hw := hw.2 c5
  by_cases c6 : (q_code u1) = (131 : Int32)
  · replace hw := hw.1 c6
    refine lv_tableIn (off := 75) (tgt := 84) hx hb dX6_moves_9 (by rw [c6]; decide) (by rw [c6]; decide) (by rw [c6]; rfl) (by decide) ?_
    exact b84 r2 u1 H locs ls hP hD hS (lv_sub hl [1, 0] rfl) hw
  replace hw := hw.2 c6
  by_cases c7 : (q_code u1) = (132 : Int32)
  · replace hw := hw.1 c7
    refine lv_tableIn (off := 112) (tgt := 121) hx hb dX6_moves_9 (by rw [c7]; decide) (by rw [c7]; decide) (by rw [c7]; rfl) (by decide) ?_
    exact b121 r2 u1 H locs ls hP hD hS (lv_sub hl [1, 0] rfl) hw
  replace hw := hw.2 c7
  by_cases c8 : (q_code u1) = (133 : Int32)
  · replace hw := hw.1 c8
    refine lv_tableIn (off := 112) (tgt := 121) hx hb dX6_moves_9 (by rw [c8]; decide) (by rw [c8]; decide) (by rw [c8]; rfl) (by decide) ?_
    exact b121 r2 u1 H locs ls hP hD hS (lv_sub hl [1, 0] rfl) hw
  replace hw := hw.2 c8
  by_cases c9 : (q_code u1) = (134 : Int32)
  · replace hw := hw.1 c9
    refine lv_tableIn (off := 137) (tgt := 146) hx hb dX6_moves_9 (by rw [c9]; decide) (by rw [c9]; decide) (by rw [c9]; rfl) (by decide) ?_
    exact b146 r2 u1 H locs ls hP hD hS (lv_sub hl [1, 0] rfl) hw
  replace hw := hw.2 c9
  by_cases c10 : (q_code u1) = (135 : Int32)
  · replace hw := hw.1 c10
    refine lv_tableIn (off := 137) (tgt := 146) hx hb dX6_moves_9 (by rw [c10]; decide) (by rw [c10]; decide) (by rw [c10]; rfl) (by decide) ?_
    exact b146 r2 u1 H locs ls hP hD hS (lv_sub hl [1, 0] rfl) hw
  replace hw := hw.2 c10
  by_cases c11 : (q_code u1) = (136 : Int32)
  · replace hw := hw.1 c11
    refine lv_tableIn (off := 170) (tgt := 179) hx hb dX6_moves_9 (by rw [c11]; decide) (by rw [c11]; decide) (by rw [c11]; rfl) (by decide) ?_
    exact b179 r2 u1 H locs ls hP hD hS (lv_sub hl [1, 0] rfl) hw
  replace hw := hw.2 c11
  by_cases c12 : (q_code u1) = (137 : Int32)
  · replace hw := hw.1 c12
    refine lv_tableIn (off := 170) (tgt := 179) hx hb dX6_moves_9 (by rw [c12]; decide) (by rw [c12]; decide) (by rw [c12]; rfl) (by decide) ?_
    exact b179 r2 u1 H locs ls hP hD hS (lv_sub hl [1, 0] rfl) hw
  replace hw := hw.2 c12
  by_cases c13 : (q_code u1) = (138 : Int32)
  · replace hw := hw.1 c13
    refine lv_tableIn (off := 187) (tgt := 196) hx hb dX6_moves_9 (by rw [c13]; decide) (by rw [c13]; decide) (by rw [c13]; rfl) (by decide) ?_
    exact b196 r2 u1 H locs ls hP hD hS (lv_sub hl [1, 0] rfl) hw
  replace hw := hw.2 c13
  by_cases c14 : (q_code u1) = (139 : Int32)
  · replace hw := hw.1 c14
    refine lv_tableIn (off := 187) (tgt := 196) hx hb dX6_moves_9 (by rw [c14]; decide) (by rw [c14]; decide) (by rw [c14]; rfl) (by decide) ?_
    exact b196 r2 u1 H locs ls hP hD hS (lv_sub hl [1, 0] rfl) hw
  replace hw := hw.2 c14
  by_cases c15 : (q_code u1) = (140 : Int32)
  · replace hw := hw.1 c15
    refine lv_tableIn (off := 204) (tgt := 213) hx hb dX6_moves_9 (by rw [c15]; decide) (by rw [c15]; decide) (by rw [c15]; rfl) (by decide) ?_
    refine lv_aload_n hx hb dX6_moves_213 rfl (lv_at hl 1 rfl) ?_
    refine lv_iconst (v := (1 : Int32)) hx hb dX6_moves_214 (by decide) ?_
    refine lv_aload_n hx hb dX6_moves_215 rfl (lv_at hl 1 rfl) ?_
    refine va_get (D := D) (ci := 6) (v := .ref h2) (C := RX6) (T := TX6) (N := 29) hx hb hts i_X6 hown hK hP 0 rfl rfl 2 (by decide) f_13 (fun _ h9 => h9) rfl dX6_moves_216 ?_
    refine lv_aload_n hx hb dX6_moves_219 rfl (lv_at hl 1 rfl) ?_
    refine va_get (D := D) (ci := 6) (v := .int (q_r u1)) (C := RX6) (T := TX6) (N := 29) hx hb hts i_X6 hown hK hP 0 rfl rfl 23 (by decide) f_130 (fun _ h9 => h9) rfl dX6_moves_220 ?_
    refine lv_iconst (v := (3 : Int32)) hx hb dX6_moves_223 (by decide) ?_
    refine lv_iand hx hb dX6_moves_224 ?_
    refine va_iald hx hb hK hP 2 1 (f := (q_segments u1)) rfl rfl hw.1 dX6_moves_225 ?_
    replace hw := hw.2
    refine cl_Vv (As := [.int (1 : Int32), .int ((q_segments u1) ((q_r u1) &&& (3 : Int32)).toNatClampNeg)]) (rest := []) (st := [.int ((q_segments u1) ((q_r u1) &&& (3 : Int32)).toNatClampNeg), .int (1 : Int32), .ref h0]) S hK hA hP hD hS (fr_Q u1) (kcX6_give l D cB cI h0 h1 h2 h3 h4 h5 H.size (1 : Int32) ((q_segments u1) ((q_r u1) &&& (3 : Int32)).toNatClampNeg) u1 _ hw) (cwV 2 hts gX6_moves_X6_give rfl rfl rfl (by decide +kernel) ⟨Nat.le_of_ble_eq_true rfl, Nat.le_of_ble_eq_true rfl⟩) tru_h tru_b 0 rfl rfl rfl rfl rfl hl.1 (Nat.le_of_ble_eq_true rfl) dX6_moves_226 ⟨Nat.zero_le _, Nat.zero_le _⟩ (fun u16 H locs hP hD hS hw => ?_)
    replace hP : va_P D vwCl (WQ cI h0 h1 h2 h3 h4 h5 u16) H := hP
    replace hD : va_D A (WQ cI h0 h1 h2 h3 h4 h5 u16) := hD
    refine lv_goto (tgt := 281) hx hb dX6_moves_229 (by decide) ?_
    exact rt_v (wo := (fun v => WQ cI h0 h1 h2 h3 h4 h5 v)) S hr hlk u16 hP hS hw dX6_moves_281
  replace hw := hw.2 c15
  by_cases c18 : (q_code u1) = (141 : Int32)
  · replace hw := hw.1 c18
    refine lv_tableIn (off := 223) (tgt := 232) hx hb dX6_moves_9 (by rw [c18]; decide) (by rw [c18]; decide) (by rw [c18]; rfl) (by decide) ?_
    refine lv_aload_n hx hb dX6_moves_232 rfl (lv_at hl 1 rfl) ?_
    refine va_get (D := D) (ci := 6) (v := .ref h1) (C := RX6) (T := TX6) (N := 29) hx hb hts i_X6 hown hK hP 0 rfl rfl 1 (by decide) f_7 (fun _ h9 => h9) rfl dX6_moves_233 ?_
    refine lv_aload_n hx hb dX6_moves_236 rfl (lv_at hl 1 rfl) ?_
    refine va_get (D := D) (ci := 6) (v := .int (q_r u1)) (C := RX6) (T := TX6) (N := 29) hx hb hts i_X6 hown hK hP 0 rfl rfl 23 (by decide) f_130 (fun _ h9 => h9) rfl dX6_moves_237 ?_
    refine lv_aload_n hx hb dX6_moves_240 rfl (lv_at hl 1 rfl) ?_
    refine va_get (D := D) (ci := 6) (v := .int (q_offset u1)) (C := RX6) (T := TX6) (N := 29) hx hb hts i_X6 hown hK hP 0 rfl rfl 25 (by decide) f_139 (fun _ h9 => h9) rfl dX6_moves_241 ?_
    refine va_iast hx hb hK hP hD hS 1 1 (f := (q_registers u1)) rfl rfl hw.1 dX6_moves_244 (fun H locs hP hD hS => ?_)
    replace hw := hw.2
    replace hP : va_P D vwCl (WQ cI h0 h1 h2 h3 h4 h5 (qs_registers u1 (upd (q_registers u1) (q_r u1).toNatClampNeg (q_offset u1)))) H := hP
    replace hD : va_D A (WQ cI h0 h1 h2 h3 h4 h5 (qs_registers u1 (upd (q_registers u1) (q_r u1).toNatClampNeg (q_offset u1)))) := hD
    refine lv_goto (tgt := 281) hx hb dX6_moves_245 (by decide) ?_
    exact rt_v (wo := (fun v => WQ cI h0 h1 h2 h3 h4 h5 v)) S hr hlk (qs_registers u1 (upd (q_registers u1) (q_r u1).toNatClampNeg (q_offset u1))) hP hS hw dX6_moves_281
  replace hw := hw.2 c18
  by_cases c19 : (q_code u1) = (142 : Int32)
  · replace hw := hw.1 c19
    refine lv_tableIn (off := 239) (tgt := 248) hx hb dX6_moves_9 (by rw [c19]; decide) (by rw [c19]; decide) (by rw [c19]; rfl) (by decide) ?_
    refine lv_aload_n hx hb dX6_moves_248 rfl (lv_at hl 1 rfl) ?_
    refine va_get (D := D) (ci := 6) (v := .ref h2) (C := RX6) (T := TX6) (N := 29) hx hb hts i_X6 hown hK hP 0 rfl rfl 2 (by decide) f_13 (fun _ h9 => h9) rfl dX6_moves_249 ?_
    refine lv_aload_n hx hb dX6_moves_252 rfl (lv_at hl 1 rfl) ?_
    refine va_get (D := D) (ci := 6) (v := .int (q_r u1)) (C := RX6) (T := TX6) (N := 29) hx hb hts i_X6 hown hK hP 0 rfl rfl 23 (by decide) f_130 (fun _ h9 => h9) rfl dX6_moves_253 ?_
    refine lv_iconst (v := (3 : Int32)) hx hb dX6_moves_256 (by decide) ?_
    refine lv_iand hx hb dX6_moves_257 ?_
    refine lv_aload_n hx hb dX6_moves_258 rfl (lv_at hl 1 rfl) ?_
    refine lv_iconst (v := (1 : Int32)) hx hb dX6_moves_259 (by decide) ?_
    refine cl_Vi (As := [.int (1 : Int32)]) (rest := [.int ((q_r u1) &&& (3 : Int32)), .ref h2]) (st := [.int (1 : Int32), .ref h0, .int ((q_r u1) &&& (3 : Int32)), .ref h2]) S hK hA hP hD hS (fr_Q u1) (kcX6_operand l D cB cI h0 h1 h2 h3 h4 h5 H.size (1 : Int32) u1 _ hw) (cwV 1 hts gX6_moves_X6_operand rfl rfl rfl (by decide +kernel) ⟨Nat.le_of_ble_eq_true rfl, Nat.le_of_ble_eq_true rfl⟩) tru_h tru_b 0 rfl rfl rfl rfl rfl hl.1 (Nat.le_of_ble_eq_true rfl) dX6_moves_260 ⟨Nat.zero_le _, Nat.zero_le _⟩ (fun r21 u20 H locs hP hD hS hw => ?_)
    replace hP : va_P D vwCl (WQ cI h0 h1 h2 h3 h4 h5 u20) H := hP
    replace hD : va_D A (WQ cI h0 h1 h2 h3 h4 h5 u20) := hD
    refine va_iast hx hb hK hP hD hS 2 1 (f := (q_segments u20)) rfl rfl hw.1 dX6_moves_263 (fun H locs hP hD hS => ?_)
    replace hw := hw.2
    replace hP : va_P D vwCl (WQ cI h0 h1 h2 h3 h4 h5 (qs_segments u20 (upd (q_segments u20) ((q_r u1) &&& (3 : Int32)).toNatClampNeg r21))) H := hP
    replace hD : va_D A (WQ cI h0 h1 h2 h3 h4 h5 (qs_segments u20 (upd (q_segments u20) ((q_r u1) &&& (3 : Int32)).toNatClampNeg r21))) := hD
    refine lv_aload_n hx hb dX6_moves_264 rfl (lv_at hl 1 rfl) ?_
    refine lv_iconst (v := (1 : Int32)) hx hb dX6_moves_265 (by decide) ?_
    refine va_put (D := D) (ci := 6) (v := .int (1 : Int32)) (ty := .boolean) (C := RX6) (T := TX6) (N := 29) hx hb hts i_X6 tyX6 tyX6_ok nmX6 hown hK hP hD hS 0 rfl rfl 15 (by decide) f_209 (fun _ h9 => h9) rfl (by decide +kernel) rfl rfl (Nat.le_of_ble_eq_true rfl) dX6_moves_266 (fun H locs hP hD hS => ?_)
    replace hP : va_P D vwCl (WQ cI h0 h1 h2 h3 h4 h5 (qs_gave (qs_segments u20 (upd (q_segments u20) ((q_r u1) &&& (3 : Int32)).toNatClampNeg r21)) (1 : Int32))) H := hP
    replace hD : va_D A (WQ cI h0 h1 h2 h3 h4 h5 (qs_gave (qs_segments u20 (upd (q_segments u20) ((q_r u1) &&& (3 : Int32)).toNatClampNeg r21)) (1 : Int32))) := hD
    refine lv_goto (tgt := 281) hx hb dX6_moves_269 (by decide) ?_
    exact rt_v (wo := (fun v => WQ cI h0 h1 h2 h3 h4 h5 v)) S hr hlk (qs_gave (qs_segments u20 (upd (q_segments u20) ((q_r u1) &&& (3 : Int32)).toNatClampNeg r21)) (1 : Int32)) hP hS hw dX6_moves_281
  replace hw := hw.2 c19
  refine lv_tableOut (tgt := 272) hx hb dX6_moves_9 (by have e_c3 : ¬ ((q_code u1) : Int32).toInt = 128 := sw_ne c3; have e_c4 : ¬ ((q_code u1) : Int32).toInt = 129 := sw_ne c4; have e_c5 : ¬ ((q_code u1) : Int32).toInt = 130 := sw_ne c5; have e_c6 : ¬ ((q_code u1) : Int32).toInt = 131 := sw_ne c6; have e_c7 : ¬ ((q_code u1) : Int32).toInt = 132 := sw_ne c7; have e_c8 : ¬ ((q_code u1) : Int32).toInt = 133 := sw_ne c8; have e_c9 : ¬ ((q_code u1) : Int32).toInt = 134 := sw_ne c9; have e_c10 : ¬ ((q_code u1) : Int32).toInt = 135 := sw_ne c10; have e_c11 : ¬ ((q_code u1) : Int32).toInt = 136 := sw_ne c11; have e_c12 : ¬ ((q_code u1) : Int32).toInt = 137 := sw_ne c12; have e_c13 : ¬ ((q_code u1) : Int32).toInt = 138 := sw_ne c13; have e_c14 : ¬ ((q_code u1) : Int32).toInt = 139 := sw_ne c14; have e_c15 : ¬ ((q_code u1) : Int32).toInt = 140 := sw_ne c15; have e_c18 : ¬ ((q_code u1) : Int32).toInt = 141 := sw_ne c18; have e_c19 : ¬ ((q_code u1) : Int32).toInt = 142 := sw_ne c19; omega) (by decide) ?_
  refine lv_aload_n hx hb dX6_moves_272 rfl (lv_at hl 1 rfl) ?_
  refine lv_iconst (v := (1 : Int32)) hx hb dX6_moves_273 (by decide) ?_
  refine lv_aload_n hx hb dX6_moves_274 rfl (lv_at hl 1 rfl) ?_
  refine cl_Vi (As := []) (rest := [.int (1 : Int32), .ref h0]) (st := [.ref h0, .int (1 : Int32), .ref h0]) S hK hA hP hD hS (fr_Q u1) (kcX6_pop l D cB cI h0 h1 h2 h3 h4 h5 H.size  u1 _ hw) (cwV 0 hts gX6_moves_X6_pop rfl rfl rfl (by decide +kernel) ⟨Nat.le_of_ble_eq_true rfl, Nat.le_of_ble_eq_true rfl⟩) tru_h tru_b 0 rfl rfl rfl rfl rfl hl.1 (Nat.le_of_ble_eq_true rfl) dX6_moves_275 ⟨Nat.zero_le _, Nat.zero_le _⟩ (fun r23 u22 H locs hP hD hS hw => ?_)
  replace hP : va_P D vwCl (WQ cI h0 h1 h2 h3 h4 h5 u22) H := hP
  replace hD : va_D A (WQ cI h0 h1 h2 h3 h4 h5 u22) := hD
  refine cl_Vv (As := [.int (1 : Int32), .int r23]) (rest := []) (st := [.int r23, .int (1 : Int32), .ref h0]) S hK hA hP hD hS (fr_Q u22) (kcX6_give l D cB cI h0 h1 h2 h3 h4 h5 H.size (1 : Int32) r23 u22 _ hw) (cwV 2 hts gX6_moves_X6_give rfl rfl rfl (by decide +kernel) ⟨Nat.le_of_ble_eq_true rfl, Nat.le_of_ble_eq_true rfl⟩) tru_h tru_b 0 rfl rfl rfl rfl rfl hl.1 (Nat.le_of_ble_eq_true rfl) dX6_moves_278 ⟨Nat.zero_le _, Nat.zero_le _⟩ (fun u24 H locs hP hD hS hw => ?_)
  replace hP : va_P D vwCl (WQ cI h0 h1 h2 h3 h4 h5 u24) H := hP
  replace hD : va_D A (WQ cI h0 h1 h2 h3 h4 h5 u24) := hD
  exact rt_v (wo := (fun v => WQ cI h0 h1 h2 h3 h4 h5 v)) S hr hlk u24 hP hS hw dX6_moves_281
-- X6_others
def wX6_others  (u : SQ) (P : SQ → Prop) : Prop := (((q_code u) = (152 : Int32) → (vp_in (0 : Int32) 8 ∧ (wX6_extended (((q_registers u) (0 : Int32).toNatClampNeg) &&& (255 : Int32)) () (fun r3 u2 => (vp_in (0 : Int32) 8 ∧ (P (qs_registers u (upd (q_registers u) (0 : Int32).toNatClampNeg (r3 &&& (65535 : Int32)))))))))) ∧ (¬ (q_code u) = (152 : Int32) → (((q_code u) = (153 : Int32) → (vp_in (0 : Int32) 8 ∧ ((((q_registers u) (0 : Int32).toNatClampNeg) ≤ (32767 : Int32) → (vp_in (2 : Int32) 8 ∧ (P (qs_registers u (upd (q_registers u) (2 : Int32).toNatClampNeg (0 : Int32)))))) ∧ (¬ ((q_registers u) (0 : Int32).toNatClampNeg) ≤ (32767 : Int32) → (vp_in (2 : Int32) 8 ∧ (P (qs_registers u (upd (q_registers u) (2 : Int32).toNatClampNeg (65535 : Int32))))))))) ∧ (¬ (q_code u) = (153 : Int32) → (((q_code u) = (154 : Int32) → (wX6_callFar (q_i u) (q_j u) u (fun u7 => (P u7)))) ∧ (¬ (q_code u) = (154 : Int32) → (((q_code u) = (155 : Int32) → (P u)) ∧ (¬ (q_code u) = (155 : Int32) → (((q_code u) = (156 : Int32) → (wX6_push ((q_flags u) ||| (61442 : Int32)) u (fun u11 => (P u11)))) ∧ (¬ (q_code u) = (156 : Int32) → (((q_code u) = (157 : Int32) → (wX6_pop  u (fun r15 u14 => (P (qs_flags u14 (r15 &&& (4053 : Int32))))))) ∧ (¬ (q_code u) = (157 : Int32) → (((q_code u) = (158 : Int32) → (vp_in (0 : Int32) 8 ∧ (P (qs_flags u ((((q_flags u) &&& (65280 : Int32)) ||| (((q_registers u) (0 : Int32).toNatClampNeg) >>> ((8 : Int32) &&& 31))) &&& (4053 : Int32)))))) ∧ (¬ (q_code u) = (158 : Int32) → (((q_code u) = (159 : Int32) → (wX6_setRegister (4 : Int32) (0 : Int32) ((q_flags u) ||| (2 : Int32)) u (fun u18 => (P u18)))) ∧ (¬ (q_code u) = (159 : Int32) → (vp_in ((q_code u) &&& (7 : Int32)) 8 ∧ (vp_in (0 : Int32) 8 ∧ (vp_in ((q_code u) &&& (7 : Int32)) 8 ∧ (vp_in (0 : Int32) 8 ∧ (P (qs_registers u (upd (upd (q_registers u) ((q_code u) &&& (7 : Int32)).toNatClampNeg ((q_registers u) (0 : Int32).toNatClampNeg)) (0 : Int32).toNatClampNeg ((q_registers u) ((q_code u) &&& (7 : Int32)).toNatClampNeg))))))))))))))))))))))))
set_option maxHeartbeats 4000000 in
set_option maxRecDepth 100000 in
theorem kcX6_others (l : Launch) (D : va_G) (cB cI : ClassId) (h0 h1 h2 h3 h4 h5 : Nat) (sz : Nat)  (u : SQ) (P : SQ → Prop) (hw : wX6_others  u P) : Met l yX6_others wsX6_others ({ frames := 4, cells := 0, slots := 0, locals := 89 } : Room) (va_Pc [.ref h0] (Pcw D (tyA cB cI) (WQ cI h0 h1 h2 h3 h4 h5 u) sz Tru)) (va_Qv P (fun u t => va_P D vwCl (WQ cI h0 h1 h2 h3 h4 h5 u) t.heap) (va_A (WQ cI h0 h1 h2 h3 h4 h5 u) sz)) 0 0 (va_A (WQ cI h0 h1 h2 h3 h4 h5 u) sz) := by
  refine en_ (cc := cX6_others) (maxL := 2) (ret := none) (own := RX6) (lv := [(0, .ref h0)]) (Qf := fun A => va_Qv P (fun u t => va_P D vwCl (WQ cI h0 h1 h2 h3 h4 h5 u) t.heap) A) (by decide) rfl rfl (Nat.le_of_ble_eq_true rfl) rfl ?_
  intro p e s m below meth c A ls S hr hlk hname hsz hP hK hD hA hSub hS hE hl
  have hx := S.1
  have hb := S.2.1
  have hown := S.2.2.2.1
  have hts := S.2.2.2.2
  have i_X6 : ∀ w ∈ u_ws RX6 TX6 29, w ∈ wsX6_others := by decide +kernel
  have f_7 := hts (.fieldLink RX6 7 "MachineCoreModel" "registers" "[I") (by decide +kernel)
  have f_54 := hts (.fieldLink RX6 54 "MachineCoreModel" "flags" "I") (by decide +kernel)
  have f_148 := hts (.fieldLink RX6 148 "MachineCoreModel" "code" "I") (by decide +kernel)
  have f_164 := hts (.fieldLink RX6 164 "MachineCoreModel" "i" "I") (by decide +kernel)
  have f_167 := hts (.fieldLink RX6 167 "MachineCoreModel" "j" "I") (by decide +kernel)
  have k_39 := hts (.constant RX6 39 (65535)) (by decide +kernel)
  have k_53 := hts (.constant RX6 53 (65280)) (by decide +kernel)
  have k_182 := hts (.constant RX6 182 (61442)) (by decide +kernel)
  unfold wX6_others at hw
  obtain ⟨H, eH⟩ : ∃ H, H = s.heap := ⟨_, rfl⟩
  obtain ⟨locs, eL⟩ : ∃ locs : List Loc, locs = [] := ⟨_, rfl⟩
  replace hP : va_P D vwCl (WQ cI h0 h1 h2 h3 h4 h5 u) H := by rw [eH]; exact hP
  replace hS : va_S A s.heap H locs := by rw [eH, eL]; exact hS
  suffices hgo : W p l e ({ frames := 4, cells := 0, slots := 0, locals := 89 } : Room) s m ([.ref h0] : List Value).toArray below meth c H locs 0 0 (MQ below (va_Qv P (fun u t => va_P D vwCl (WQ cI h0 h1 h2 h3 h4 h5 u) t.heap) A) ([.ref h0] : List Value).toArray s 0 0 A) (F0 m 0 ls []) by rw [eH, eL] at hgo; exact hgo
  clear eH eL
  refine lv_aload_n hx hb dX6_others_0 rfl (lv_at hl 0 rfl) ?_
  refine va_get (D := D) (ci := 6) (v := .int (q_code u)) (C := RX6) (T := TX6) (N := 29) hx hb hts i_X6 hown hK hP 0 rfl rfl 21 (by decide) f_148 (fun _ h9 => h9) rfl dX6_others_1 ?_
  by_cases c1 : (q_code u) = (152 : Int32)
  · replace hw := hw.1 c1
    refine lv_tableIn (off := 48) (tgt := 52) hx hb dX6_others_4 (by rw [c1]; decide) (by rw [c1]; decide) (by rw [c1]; rfl) (by decide) ?_
    refine lv_aload_n hx hb dX6_others_52 rfl (lv_at hl 0 rfl) ?_
    refine va_get (D := D) (ci := 6) (v := .ref h1) (C := RX6) (T := TX6) (N := 29) hx hb hts i_X6 hown hK hP 0 rfl rfl 1 (by decide) f_7 (fun _ h9 => h9) rfl dX6_others_53 ?_
    refine lv_iconst (v := (0 : Int32)) hx hb dX6_others_56 (by decide) ?_
    refine lv_aload_n hx hb dX6_others_57 rfl (lv_at hl 0 rfl) ?_
    refine va_get (D := D) (ci := 6) (v := .ref h1) (C := RX6) (T := TX6) (N := 29) hx hb hts i_X6 hown hK hP 0 rfl rfl 1 (by decide) f_7 (fun _ h9 => h9) rfl dX6_others_58 ?_
    refine lv_iconst (v := (0 : Int32)) hx hb dX6_others_61 (by decide) ?_
    refine va_iald hx hb hK hP 1 1 (f := (q_registers u)) rfl rfl hw.1 dX6_others_62 ?_
    replace hw := hw.2
    refine lv_sipush (v := (255 : Int32)) hx hb dX6_others_63 (by decide) ?_
    refine lv_iand hx hb dX6_others_66 ?_
    refine cl_Si (As := [.int (((q_registers u) (0 : Int32).toNatClampNeg) &&& (255 : Int32))]) (rest := [.int (0 : Int32), .ref h1]) (st := [.int (((q_registers u) (0 : Int32).toNatClampNeg) &&& (255 : Int32)), .int (0 : Int32), .ref h1]) S hK hA hP hD hS Fr_nil (kcX6_extended l D cB cI  H.size (((q_registers u) (0 : Int32).toNatClampNeg) &&& (255 : Int32)) () _ hw) (va_cwS 1 hts gX6_others_X6_extended rfl rfl rfl (by decide +kernel) ⟨Nat.le_of_ble_eq_true rfl, Nat.le_of_ble_eq_true rfl⟩) tru_h tru_b rfl rfl hl.1 (Nat.le_of_ble_eq_true rfl) dX6_others_67 ⟨Nat.zero_le _, Nat.zero_le _⟩ (fun r3 u2 H locs hP hD hS hw => ?_)
    replace hP : va_P D vwCl (WQ cI h0 h1 h2 h3 h4 h5 u) H := hP
    replace hD : va_D A (WQ cI h0 h1 h2 h3 h4 h5 u) := hD
    refine lv_ldc (v := (65535 : Int32)) hx hb hown k_39 dX6_others_70 ?_
    refine lv_iand hx hb dX6_others_72 ?_
    refine va_iast hx hb hK hP hD hS 1 1 (f := (q_registers u)) rfl rfl hw.1 dX6_others_73 (fun H locs hP hD hS => ?_)
    replace hw := hw.2
    replace hP : va_P D vwCl (WQ cI h0 h1 h2 h3 h4 h5 (qs_registers u (upd (q_registers u) (0 : Int32).toNatClampNeg (r3 &&& (65535 : Int32))))) H := hP
    replace hD : va_D A (WQ cI h0 h1 h2 h3 h4 h5 (qs_registers u (upd (q_registers u) (0 : Int32).toNatClampNeg (r3 &&& (65535 : Int32))))) := hD
    refine lv_goto (tgt := 232) hx hb dX6_others_74 (by decide) ?_
    exact rt_v (wo := (fun v => WQ cI h0 h1 h2 h3 h4 h5 v)) S hr hlk (qs_registers u (upd (q_registers u) (0 : Int32).toNatClampNeg (r3 &&& (65535 : Int32)))) hP hS hw dX6_others_232
  replace hw := hw.2 c1
  by_cases c4 : (q_code u) = (153 : Int32)
  · replace hw := hw.1 c4
    refine lv_tableIn (off := 73) (tgt := 77) hx hb dX6_others_4 (by rw [c4]; decide) (by rw [c4]; decide) (by rw [c4]; rfl) (by decide) ?_
    refine lv_aload_n hx hb dX6_others_77 rfl (lv_at hl 0 rfl) ?_
    refine va_get (D := D) (ci := 6) (v := .ref h1) (C := RX6) (T := TX6) (N := 29) hx hb hts i_X6 hown hK hP 0 rfl rfl 1 (by decide) f_7 (fun _ h9 => h9) rfl dX6_others_78 ?_
    refine lv_iconst (v := (2 : Int32)) hx hb dX6_others_81 (by decide) ?_
    refine lv_aload_n hx hb dX6_others_82 rfl (lv_at hl 0 rfl) ?_
    refine va_get (D := D) (ci := 6) (v := .ref h1) (C := RX6) (T := TX6) (N := 29) hx hb hts i_X6 hown hK hP 0 rfl rfl 1 (by decide) f_7 (fun _ h9 => h9) rfl dX6_others_83 ?_
    refine lv_iconst (v := (0 : Int32)) hx hb dX6_others_86 (by decide) ?_
    refine va_iald hx hb hK hP 1 1 (f := (q_registers u)) rfl rfl hw.1 dX6_others_87 ?_
    replace hw := hw.2
    refine lv_sipush (v := (32767 : Int32)) hx hb dX6_others_88 (by decide) ?_
    refine lv_icmp_le (tgt := 99) hx hb dX6_others_91 (by decide) (fun c5 => ?_) (fun c5 => ?_)
    · replace hw := hw.1 c5
      refine lv_iconst (v := (0 : Int32)) hx hb dX6_others_99 (by decide) ?_
      refine va_iast hx hb hK hP hD hS 1 1 (f := (q_registers u)) rfl rfl hw.1 dX6_others_100 (fun H locs hP hD hS => ?_)
      replace hw := hw.2
      replace hP : va_P D vwCl (WQ cI h0 h1 h2 h3 h4 h5 (qs_registers u (upd (q_registers u) (2 : Int32).toNatClampNeg (0 : Int32)))) H := hP
      replace hD : va_D A (WQ cI h0 h1 h2 h3 h4 h5 (qs_registers u (upd (q_registers u) (2 : Int32).toNatClampNeg (0 : Int32)))) := hD
      refine lv_goto (tgt := 232) hx hb dX6_others_101 (by decide) ?_
      exact rt_v (wo := (fun v => WQ cI h0 h1 h2 h3 h4 h5 v)) S hr hlk (qs_registers u (upd (q_registers u) (2 : Int32).toNatClampNeg (0 : Int32))) hP hS hw dX6_others_232
    · replace hw := hw.2 c5
      refine lv_ldc (v := (65535 : Int32)) hx hb hown k_39 dX6_others_94 ?_
      refine lv_goto (tgt := 100) hx hb dX6_others_96 (by decide) ?_
      refine va_iast hx hb hK hP hD hS 1 1 (f := (q_registers u)) rfl rfl hw.1 dX6_others_100 (fun H locs hP hD hS => ?_)
      replace hw := hw.2
      replace hP : va_P D vwCl (WQ cI h0 h1 h2 h3 h4 h5 (qs_registers u (upd (q_registers u) (2 : Int32).toNatClampNeg (65535 : Int32)))) H := hP
      replace hD : va_D A (WQ cI h0 h1 h2 h3 h4 h5 (qs_registers u (upd (q_registers u) (2 : Int32).toNatClampNeg (65535 : Int32)))) := hD
      refine lv_goto (tgt := 232) hx hb dX6_others_101 (by decide) ?_
      exact rt_v (wo := (fun v => WQ cI h0 h1 h2 h3 h4 h5 v)) S hr hlk (qs_registers u (upd (q_registers u) (2 : Int32).toNatClampNeg (65535 : Int32))) hP hS hw dX6_others_232
  replace hw := hw.2 c4
  by_cases c6 : (q_code u) = (154 : Int32)
  · replace hw := hw.1 c6
    refine lv_tableIn (off := 100) (tgt := 104) hx hb dX6_others_4 (by rw [c6]; decide) (by rw [c6]; decide) (by rw [c6]; rfl) (by decide) ?_
    refine lv_aload_n hx hb dX6_others_104 rfl (lv_at hl 0 rfl) ?_
    refine lv_aload_n hx hb dX6_others_105 rfl (lv_at hl 0 rfl) ?_
    refine va_get (D := D) (ci := 6) (v := .int (q_i u)) (C := RX6) (T := TX6) (N := 29) hx hb hts i_X6 hown hK hP 0 rfl rfl 27 (by decide) f_164 (fun _ h9 => h9) rfl dX6_others_106 ?_
    refine lv_aload_n hx hb dX6_others_109 rfl (lv_at hl 0 rfl) ?_
    refine va_get (D := D) (ci := 6) (v := .int (q_j u)) (C := RX6) (T := TX6) (N := 29) hx hb hts i_X6 hown hK hP 0 rfl rfl 28 (by decide) f_167 (fun _ h9 => h9) rfl dX6_others_110 ?_
    refine cl_Vv (As := [.int (q_i u), .int (q_j u)]) (rest := []) (st := [.int (q_j u), .int (q_i u), .ref h0]) S hK hA hP hD hS (fr_Q u) (kcX6_callFar l D cB cI h0 h1 h2 h3 h4 h5 H.size (q_i u) (q_j u) u _ hw) (cwV 2 hts gX6_others_X6_callFar rfl rfl rfl (by decide +kernel) ⟨Nat.le_of_ble_eq_true rfl, Nat.le_of_ble_eq_true rfl⟩) tru_h tru_b 0 rfl rfl rfl rfl rfl hl.1 (Nat.le_of_ble_eq_true rfl) dX6_others_113 ⟨Nat.zero_le _, Nat.zero_le _⟩ (fun u7 H locs hP hD hS hw => ?_)
    replace hP : va_P D vwCl (WQ cI h0 h1 h2 h3 h4 h5 u7) H := hP
    replace hD : va_D A (WQ cI h0 h1 h2 h3 h4 h5 u7) := hD
    refine lv_goto (tgt := 232) hx hb dX6_others_116 (by decide) ?_
    exact rt_v (wo := (fun v => WQ cI h0 h1 h2 h3 h4 h5 v)) S hr hlk u7 hP hS hw dX6_others_232
  replace hw := hw.2 c6
  by_cases c9 : (q_code u) = (155 : Int32)
  · replace hw := hw.1 c9
    refine lv_tableIn (off := 115) (tgt := 119) hx hb dX6_others_4 (by rw [c9]; decide) (by rw [c9]; decide) (by rw [c9]; rfl) (by decide) ?_
    refine lv_goto (tgt := 232) hx hb dX6_others_119 (by decide) ?_
    exact rt_v (wo := (fun v => WQ cI h0 h1 h2 h3 h4 h5 v)) S hr hlk u hP hS hw dX6_others_232
  replace hw := hw.2 c9
  by_cases c10 : (q_code u) = (156 : Int32)
  · replace hw := hw.1 c10
    refine lv_tableIn (off := 118) (tgt := 122) hx hb dX6_others_4 (by rw [c10]; decide) (by rw [c10]; decide) (by rw [c10]; rfl) (by decide) ?_
    refine lv_aload_n hx hb dX6_others_122 rfl (lv_at hl 0 rfl) ?_
    refine lv_aload_n hx hb dX6_others_123 rfl (lv_at hl 0 rfl) ?_
    refine va_get (D := D) (ci := 6) (v := .int (q_flags u)) (C := RX6) (T := TX6) (N := 29) hx hb hts i_X6 hown hK hP 0 rfl rfl 4 (by decide) f_54 (fun _ h9 => h9) rfl dX6_others_124 ?_
    refine lv_ldc (v := (61442 : Int32)) hx hb hown k_182 dX6_others_127 ?_
    refine lv_ior hx hb dX6_others_129 ?_
    refine cl_Vv (As := [.int ((q_flags u) ||| (61442 : Int32))]) (rest := []) (st := [.int ((q_flags u) ||| (61442 : Int32)), .ref h0]) S hK hA hP hD hS (fr_Q u) (kcX6_push l D cB cI h0 h1 h2 h3 h4 h5 H.size ((q_flags u) ||| (61442 : Int32)) u _ hw) (cwV 1 hts gX6_others_X6_push rfl rfl rfl (by decide +kernel) ⟨Nat.le_of_ble_eq_true rfl, Nat.le_of_ble_eq_true rfl⟩) tru_h tru_b 0 rfl rfl rfl rfl rfl hl.1 (Nat.le_of_ble_eq_true rfl) dX6_others_130 ⟨Nat.zero_le _, Nat.zero_le _⟩ (fun u11 H locs hP hD hS hw => ?_)
    replace hP : va_P D vwCl (WQ cI h0 h1 h2 h3 h4 h5 u11) H := hP
    replace hD : va_D A (WQ cI h0 h1 h2 h3 h4 h5 u11) := hD
    refine lv_goto (tgt := 232) hx hb dX6_others_133 (by decide) ?_
    exact rt_v (wo := (fun v => WQ cI h0 h1 h2 h3 h4 h5 v)) S hr hlk u11 hP hS hw dX6_others_232
  replace hw := hw.2 c10
  by_cases c13 : (q_code u) = (157 : Int32)
  · replace hw := hw.1 c13
    refine lv_tableIn (off := 132) (tgt := 136) hx hb dX6_others_4 (by rw [c13]; decide) (by rw [c13]; decide) (by rw [c13]; rfl) (by decide) ?_
    refine lv_aload_n hx hb dX6_others_136 rfl (lv_at hl 0 rfl) ?_
    refine lv_aload_n hx hb dX6_others_137 rfl (lv_at hl 0 rfl) ?_
    refine cl_Vi (As := []) (rest := [.ref h0]) (st := [.ref h0, .ref h0]) S hK hA hP hD hS (fr_Q u) (kcX6_pop l D cB cI h0 h1 h2 h3 h4 h5 H.size  u _ hw) (cwV 0 hts gX6_others_X6_pop rfl rfl rfl (by decide +kernel) ⟨Nat.le_of_ble_eq_true rfl, Nat.le_of_ble_eq_true rfl⟩) tru_h tru_b 0 rfl rfl rfl rfl rfl hl.1 (Nat.le_of_ble_eq_true rfl) dX6_others_138 ⟨Nat.zero_le _, Nat.zero_le _⟩ (fun r15 u14 H locs hP hD hS hw => ?_)
    replace hP : va_P D vwCl (WQ cI h0 h1 h2 h3 h4 h5 u14) H := hP
    replace hD : va_D A (WQ cI h0 h1 h2 h3 h4 h5 u14) := hD
    refine lv_sipush (v := (4053 : Int32)) hx hb dX6_others_141 (by decide) ?_
    refine lv_iand hx hb dX6_others_144 ?_
    refine va_put (D := D) (ci := 6) (v := .int (r15 &&& (4053 : Int32))) (ty := .int) (C := RX6) (T := TX6) (N := 29) hx hb hts i_X6 tyX6 tyX6_ok nmX6 hown hK hP hD hS 0 rfl rfl 4 (by decide) f_54 (fun _ h9 => h9) rfl (by decide +kernel) rfl rfl (Nat.le_of_ble_eq_true rfl) dX6_others_145 (fun H locs hP hD hS => ?_)
    replace hP : va_P D vwCl (WQ cI h0 h1 h2 h3 h4 h5 (qs_flags u14 (r15 &&& (4053 : Int32)))) H := hP
    replace hD : va_D A (WQ cI h0 h1 h2 h3 h4 h5 (qs_flags u14 (r15 &&& (4053 : Int32)))) := hD
    refine lv_goto (tgt := 232) hx hb dX6_others_148 (by decide) ?_
    exact rt_v (wo := (fun v => WQ cI h0 h1 h2 h3 h4 h5 v)) S hr hlk (qs_flags u14 (r15 &&& (4053 : Int32))) hP hS hw dX6_others_232
  replace hw := hw.2 c13
  by_cases c16 : (q_code u) = (158 : Int32)
  · replace hw := hw.1 c16
    refine lv_tableIn (off := 147) (tgt := 151) hx hb dX6_others_4 (by rw [c16]; decide) (by rw [c16]; decide) (by rw [c16]; rfl) (by decide) ?_
    refine lv_aload_n hx hb dX6_others_151 rfl (lv_at hl 0 rfl) ?_
    refine lv_aload_n hx hb dX6_others_152 rfl (lv_at hl 0 rfl) ?_
    refine va_get (D := D) (ci := 6) (v := .int (q_flags u)) (C := RX6) (T := TX6) (N := 29) hx hb hts i_X6 hown hK hP 0 rfl rfl 4 (by decide) f_54 (fun _ h9 => h9) rfl dX6_others_153 ?_
    refine lv_ldc (v := (65280 : Int32)) hx hb hown k_53 dX6_others_156 ?_
    refine lv_iand hx hb dX6_others_158 ?_
    refine lv_aload_n hx hb dX6_others_159 rfl (lv_at hl 0 rfl) ?_
    refine va_get (D := D) (ci := 6) (v := .ref h1) (C := RX6) (T := TX6) (N := 29) hx hb hts i_X6 hown hK hP 0 rfl rfl 1 (by decide) f_7 (fun _ h9 => h9) rfl dX6_others_160 ?_
    refine lv_iconst (v := (0 : Int32)) hx hb dX6_others_163 (by decide) ?_
    refine va_iald hx hb hK hP 1 1 (f := (q_registers u)) rfl rfl hw.1 dX6_others_164 ?_
    replace hw := hw.2
    refine lv_bipush (v := (8 : Int32)) hx hb dX6_others_165 (by decide) ?_
    refine lv_ishr hx hb dX6_others_167 ?_
    refine lv_ior hx hb dX6_others_168 ?_
    refine lv_sipush (v := (4053 : Int32)) hx hb dX6_others_169 (by decide) ?_
    refine lv_iand hx hb dX6_others_172 ?_
    refine va_put (D := D) (ci := 6) (v := .int ((((q_flags u) &&& (65280 : Int32)) ||| (((q_registers u) (0 : Int32).toNatClampNeg) >>> ((8 : Int32) &&& 31))) &&& (4053 : Int32))) (ty := .int) (C := RX6) (T := TX6) (N := 29) hx hb hts i_X6 tyX6 tyX6_ok nmX6 hown hK hP hD hS 0 rfl rfl 4 (by decide) f_54 (fun _ h9 => h9) rfl (by decide +kernel) rfl rfl (Nat.le_of_ble_eq_true rfl) dX6_others_173 (fun H locs hP hD hS => ?_)
    replace hP : va_P D vwCl (WQ cI h0 h1 h2 h3 h4 h5 (qs_flags u ((((q_flags u) &&& (65280 : Int32)) ||| (((q_registers u) (0 : Int32).toNatClampNeg) >>> ((8 : Int32) &&& 31))) &&& (4053 : Int32)))) H := hP
    replace hD : va_D A (WQ cI h0 h1 h2 h3 h4 h5 (qs_flags u ((((q_flags u) &&& (65280 : Int32)) ||| (((q_registers u) (0 : Int32).toNatClampNeg) >>> ((8 : Int32) &&& 31))) &&& (4053 : Int32)))) := hD
    refine lv_goto (tgt := 232) hx hb dX6_others_176 (by decide) ?_
    exact rt_v (wo := (fun v => WQ cI h0 h1 h2 h3 h4 h5 v)) S hr hlk (qs_flags u ((((q_flags u) &&& (65280 : Int32)) ||| (((q_registers u) (0 : Int32).toNatClampNeg) >>> ((8 : Int32) &&& 31))) &&& (4053 : Int32))) hP hS hw dX6_others_232
  replace hw := hw.2 c16
  by_cases c17 : (q_code u) = (159 : Int32)
  · replace hw := hw.1 c17
    refine lv_tableIn (off := 175) (tgt := 179) hx hb dX6_others_4 (by rw [c17]; decide) (by rw [c17]; decide) (by rw [c17]; rfl) (by decide) ?_
    refine lv_aload_n hx hb dX6_others_179 rfl (lv_at hl 0 rfl) ?_
    refine lv_iconst (v := (4 : Int32)) hx hb dX6_others_180 (by decide) ?_
    refine lv_iconst (v := (0 : Int32)) hx hb dX6_others_181 (by decide) ?_
    refine lv_aload_n hx hb dX6_others_182 rfl (lv_at hl 0 rfl) ?_
    refine va_get (D := D) (ci := 6) (v := .int (q_flags u)) (C := RX6) (T := TX6) (N := 29) hx hb hts i_X6 hown hK hP 0 rfl rfl 4 (by decide) f_54 (fun _ h9 => h9) rfl dX6_others_183 ?_
    refine lv_iconst (v := (2 : Int32)) hx hb dX6_others_186 (by decide) ?_
    refine lv_ior hx hb dX6_others_187 ?_
    refine cl_Vv (As := [.int (4 : Int32), .int (0 : Int32), .int ((q_flags u) ||| (2 : Int32))]) (rest := []) (st := [.int ((q_flags u) ||| (2 : Int32)), .int (0 : Int32), .int (4 : Int32), .ref h0]) S hK hA hP hD hS (fr_Q u) (kcX6_setRegister l D cB cI h0 h1 h2 h3 h4 h5 H.size (4 : Int32) (0 : Int32) ((q_flags u) ||| (2 : Int32)) u _ hw) (cwV 3 hts gX6_others_X6_setRegister rfl rfl rfl (by decide +kernel) ⟨Nat.le_of_ble_eq_true rfl, Nat.le_of_ble_eq_true rfl⟩) tru_h tru_b 0 rfl rfl rfl rfl rfl hl.1 (Nat.le_of_ble_eq_true rfl) dX6_others_188 ⟨Nat.zero_le _, Nat.zero_le _⟩ (fun u18 H locs hP hD hS hw => ?_)
    replace hP : va_P D vwCl (WQ cI h0 h1 h2 h3 h4 h5 u18) H := hP
    replace hD : va_D A (WQ cI h0 h1 h2 h3 h4 h5 u18) := hD
    refine lv_goto (tgt := 232) hx hb dX6_others_191 (by decide) ?_
    exact rt_v (wo := (fun v => WQ cI h0 h1 h2 h3 h4 h5 v)) S hr hlk u18 hP hS hw dX6_others_232
  replace hw := hw.2 c17
  refine lv_tableOut (tgt := 194) hx hb dX6_others_4 (by have e_c1 : ¬ ((q_code u) : Int32).toInt = 152 := sw_ne c1; have e_c4 : ¬ ((q_code u) : Int32).toInt = 153 := sw_ne c4; have e_c6 : ¬ ((q_code u) : Int32).toInt = 154 := sw_ne c6; have e_c9 : ¬ ((q_code u) : Int32).toInt = 155 := sw_ne c9; have e_c10 : ¬ ((q_code u) : Int32).toInt = 156 := sw_ne c10; have e_c13 : ¬ ((q_code u) : Int32).toInt = 157 := sw_ne c13; have e_c16 : ¬ ((q_code u) : Int32).toInt = 158 := sw_ne c16; have e_c17 : ¬ ((q_code u) : Int32).toInt = 159 := sw_ne c17; omega) (by decide) ?_
  refine lv_aload_n hx hb dX6_others_194 rfl (lv_at hl 0 rfl) ?_
  refine va_get (D := D) (ci := 6) (v := .ref h1) (C := RX6) (T := TX6) (N := 29) hx hb hts i_X6 hown hK hP 0 rfl rfl 1 (by decide) f_7 (fun _ h9 => h9) rfl dX6_others_195 ?_
  refine lv_aload_n hx hb dX6_others_198 rfl (lv_at hl 0 rfl) ?_
  refine va_get (D := D) (ci := 6) (v := .int (q_code u)) (C := RX6) (T := TX6) (N := 29) hx hb hts i_X6 hown hK hP 0 rfl rfl 21 (by decide) f_148 (fun _ h9 => h9) rfl dX6_others_199 ?_
  refine lv_bipush (v := (7 : Int32)) hx hb dX6_others_202 (by decide) ?_
  refine lv_iand hx hb dX6_others_204 ?_
  refine va_iald hx hb hK hP 1 1 (f := (q_registers u)) rfl rfl hw.1 dX6_others_205 ?_
  replace hw := hw.2
  refine lv_istore_n (lv' := [(1, .int ((q_registers u) ((q_code u) &&& (7 : Int32)).toNatClampNeg)), (0, .ref h0)]) hx hb dX6_others_206 rfl hl (by decide) rfl (fun ls hl => ?_)
  refine lv_aload_n hx hb dX6_others_207 rfl (lv_at hl 1 rfl) ?_
  refine va_get (D := D) (ci := 6) (v := .ref h1) (C := RX6) (T := TX6) (N := 29) hx hb hts i_X6 hown hK hP 0 rfl rfl 1 (by decide) f_7 (fun _ h9 => h9) rfl dX6_others_208 ?_
  refine lv_aload_n hx hb dX6_others_211 rfl (lv_at hl 1 rfl) ?_
  refine va_get (D := D) (ci := 6) (v := .int (q_code u)) (C := RX6) (T := TX6) (N := 29) hx hb hts i_X6 hown hK hP 0 rfl rfl 21 (by decide) f_148 (fun _ h9 => h9) rfl dX6_others_212 ?_
  refine lv_bipush (v := (7 : Int32)) hx hb dX6_others_215 (by decide) ?_
  refine lv_iand hx hb dX6_others_217 ?_
  refine lv_aload_n hx hb dX6_others_218 rfl (lv_at hl 1 rfl) ?_
  refine va_get (D := D) (ci := 6) (v := .ref h1) (C := RX6) (T := TX6) (N := 29) hx hb hts i_X6 hown hK hP 0 rfl rfl 1 (by decide) f_7 (fun _ h9 => h9) rfl dX6_others_219 ?_
  refine lv_iconst (v := (0 : Int32)) hx hb dX6_others_222 (by decide) ?_
  refine va_iald hx hb hK hP 1 1 (f := (q_registers u)) rfl rfl hw.1 dX6_others_223 ?_
  replace hw := hw.2
  refine va_iast hx hb hK hP hD hS 1 1 (f := (q_registers u)) rfl rfl hw.1 dX6_others_224 (fun H locs hP hD hS => ?_)
  replace hw := hw.2
  replace hP : va_P D vwCl (WQ cI h0 h1 h2 h3 h4 h5 (qs_registers u (upd (q_registers u) ((q_code u) &&& (7 : Int32)).toNatClampNeg ((q_registers u) (0 : Int32).toNatClampNeg)))) H := hP
  replace hD : va_D A (WQ cI h0 h1 h2 h3 h4 h5 (qs_registers u (upd (q_registers u) ((q_code u) &&& (7 : Int32)).toNatClampNeg ((q_registers u) (0 : Int32).toNatClampNeg)))) := hD
  refine lv_aload_n hx hb dX6_others_225 rfl (lv_at hl 1 rfl) ?_
  refine va_get (D := D) (ci := 6) (v := .ref h1) (C := RX6) (T := TX6) (N := 29) hx hb hts i_X6 hown hK hP 0 rfl rfl 1 (by decide) f_7 (fun _ h9 => h9) rfl dX6_others_226 ?_
  refine lv_iconst (v := (0 : Int32)) hx hb dX6_others_229 (by decide) ?_
  refine lv_iload_n hx hb dX6_others_230 rfl (lv_at hl 0 rfl) ?_
  refine va_iast hx hb hK hP hD hS 1 1 (f := (upd (q_registers u) ((q_code u) &&& (7 : Int32)).toNatClampNeg ((q_registers u) (0 : Int32).toNatClampNeg))) rfl rfl hw.1 dX6_others_231 (fun H locs hP hD hS => ?_)
  replace hw := hw.2
  replace hP : va_P D vwCl (WQ cI h0 h1 h2 h3 h4 h5 (qs_registers u (upd (upd (q_registers u) ((q_code u) &&& (7 : Int32)).toNatClampNeg ((q_registers u) (0 : Int32).toNatClampNeg)) (0 : Int32).toNatClampNeg ((q_registers u) ((q_code u) &&& (7 : Int32)).toNatClampNeg)))) H := hP
  replace hD : va_D A (WQ cI h0 h1 h2 h3 h4 h5 (qs_registers u (upd (upd (q_registers u) ((q_code u) &&& (7 : Int32)).toNatClampNeg ((q_registers u) (0 : Int32).toNatClampNeg)) (0 : Int32).toNatClampNeg ((q_registers u) ((q_code u) &&& (7 : Int32)).toNatClampNeg)))) := hD
  exact rt_v (wo := (fun v => WQ cI h0 h1 h2 h3 h4 h5 v)) S hr hlk (qs_registers u (upd (upd (q_registers u) ((q_code u) &&& (7 : Int32)).toNatClampNeg ((q_registers u) (0 : Int32).toNatClampNeg)) (0 : Int32).toNatClampNeg ((q_registers u) ((q_code u) &&& (7 : Int32)).toNatClampNeg))) hP hS hw dX6_others_232
-- X6_memory
def wX6_memory_b38  (P : SQ → Prop) (s1 : Int32) (s2 : Int32) (u : SQ) : Prop := (wX6_setRegister s1 s2 (q_i u) u (fun u28 => (P u28)))
def wX6_memory  (u : SQ) (P : SQ → Prop) : Prop := (wX6_isWide  u (fun r2 u1 => (((q_code u1) < (176 : Int32) → (((162 : Int32) ≤ (q_code u1) → (((164 : Int32) ≤ (q_code u1) → (wX6_isString  u1 (fun r7 u6 => ((r7 = (0 : Int32) → (wX6_register (0 : Int32) r2 u6 (fun r10 u9 => (wX6_operation (8 : Int32) r10 (q_i u9) r2 u9 (fun r12 u11 => (P u11)))))) ∧ (¬ r7 = (0 : Int32) → (wX6_strings  u6 (fun u13 => (P u13)))))))) ∧ (¬ (164 : Int32) ≤ (q_code u1) → (wX6_segmentOr (3 : Int32) u1 (fun r16 u15 => (wX6_register (0 : Int32) r2 u15 (fun r18 u17 => (wX6_put r16 (q_i u15) r2 r18 u17 (fun u19 => (P u19)))))))))) ∧ (¬ (162 : Int32) ≤ (q_code u1) → (wX6_segmentOr (3 : Int32) u1 (fun r22 u21 => (wX6_get r22 (q_i u21) r2 u21 (fun r24 u23 => (wX6_setRegister (0 : Int32) r2 r24 u23 (fun u25 => (P u25)))))))))) ∧ (¬ (q_code u1) < (176 : Int32) → (((q_code u1) < (184 : Int32) → (wX6_memory_b38  P ((q_code u1) &&& (7 : Int32)) (0 : Int32) u1)) ∧ (¬ (q_code u1) < (184 : Int32) → (wX6_memory_b38  P ((q_code u1) &&& (7 : Int32)) (1 : Int32) u1)))))))
set_option maxHeartbeats 4000000 in
set_option maxRecDepth 100000 in
theorem kcX6_memory (l : Launch) (D : va_G) (cB cI : ClassId) (h0 h1 h2 h3 h4 h5 : Nat) (sz : Nat)  (u : SQ) (P : SQ → Prop) (hw : wX6_memory  u P) : Met l yX6_memory wsX6_memory ({ frames := 6, cells := 0, slots := 0, locals := 148 } : Room) (va_Pc [.ref h0] (Pcw D (tyA cB cI) (WQ cI h0 h1 h2 h3 h4 h5 u) sz Tru)) (va_Qv P (fun u t => va_P D vwCl (WQ cI h0 h1 h2 h3 h4 h5 u) t.heap) (va_A (WQ cI h0 h1 h2 h3 h4 h5 u) sz)) 0 0 (va_A (WQ cI h0 h1 h2 h3 h4 h5 u) sz) := by
  refine en_ (cc := cX6_memory) (maxL := 3) (ret := none) (own := RX6) (lv := [(0, .ref h0)]) (Qf := fun A => va_Qv P (fun u t => va_P D vwCl (WQ cI h0 h1 h2 h3 h4 h5 u) t.heap) A) (by decide) rfl rfl (Nat.le_of_ble_eq_true rfl) rfl ?_
  intro p e s m below meth c A ls S hr hlk hname hsz hP hK hD hA hSub hS hE hl
  have hx := S.1
  have hb := S.2.1
  have hown := S.2.2.2.1
  have hts := S.2.2.2.2
  have i_X6 : ∀ w ∈ u_ws RX6 TX6 29, w ∈ wsX6_memory := by decide +kernel
  have f_148 := hts (.fieldLink RX6 148 "MachineCoreModel" "code" "I") (by decide +kernel)
  have f_164 := hts (.fieldLink RX6 164 "MachineCoreModel" "i" "I") (by decide +kernel)
  have b38 : ∀ (s1 : Int32) (s2 : Int32) (u : SQ) (H : Heap) (locs : List Loc) (ls : Array Slot), va_P D vwCl (WQ cI h0 h1 h2 h3 h4 h5 u) H → va_D A (WQ cI h0 h1 h2 h3 h4 h5 u) → va_S A s.heap H locs → lv_has ls 3 [(0, .ref h0)] → wX6_memory_b38  P s1 s2 u → W p l e ({ frames := 6, cells := 0, slots := 0, locals := 148 } : Room) s m ([.ref h0] : List Value).toArray below meth c H locs 0 0 (MQ below (va_Qv P (fun u t => va_P D vwCl (WQ cI h0 h1 h2 h3 h4 h5 u) t.heap) A) ([.ref h0] : List Value).toArray s 0 0 A) (F0 m 38 ls [.int s2, .int s1, .ref h0]) := by
    intro s1 s2 u H locs ls hP hD hS hl hw
    unfold wX6_memory_b38 at hw
    refine lv_aload_n hx hb dX6_memory_38 rfl (lv_at hl 0 rfl) ?_
    refine va_get (D := D) (ci := 6) (v := .int (q_i u)) (C := RX6) (T := TX6) (N := 29) hx hb hts i_X6 hown hK hP 0 rfl rfl 27 (by decide) f_164 (fun _ h9 => h9) rfl dX6_memory_39 ?_
    refine cl_Vv (As := [.int s1, .int s2, .int (q_i u)]) (rest := []) (st := [.int (q_i u), .int s2, .int s1, .ref h0]) S hK hA hP hD hS (fr_Q u) (kcX6_setRegister l D cB cI h0 h1 h2 h3 h4 h5 H.size s1 s2 (q_i u) u _ hw) (cwV 3 hts gX6_memory_X6_setRegister rfl rfl rfl (by decide +kernel) ⟨Nat.le_of_ble_eq_true rfl, Nat.le_of_ble_eq_true rfl⟩) tru_h tru_b 0 rfl rfl rfl rfl rfl hl.1 (Nat.le_of_ble_eq_true rfl) dX6_memory_42 ⟨Nat.zero_le _, Nat.zero_le _⟩ (fun u28 H locs hP hD hS hw => ?_)
    replace hP : va_P D vwCl (WQ cI h0 h1 h2 h3 h4 h5 u28) H := hP
    replace hD : va_D A (WQ cI h0 h1 h2 h3 h4 h5 u28) := hD
    refine lv_goto (tgt := 146) hx hb dX6_memory_45 (by decide) ?_
    exact rt_v (wo := (fun v => WQ cI h0 h1 h2 h3 h4 h5 v)) S hr hlk u28 hP hS hw dX6_memory_146
  unfold wX6_memory at hw
  obtain ⟨H, eH⟩ : ∃ H, H = s.heap := ⟨_, rfl⟩
  obtain ⟨locs, eL⟩ : ∃ locs : List Loc, locs = [] := ⟨_, rfl⟩
  replace hP : va_P D vwCl (WQ cI h0 h1 h2 h3 h4 h5 u) H := by rw [eH]; exact hP
  replace hS : va_S A s.heap H locs := by rw [eH, eL]; exact hS
  suffices hgo : W p l e ({ frames := 6, cells := 0, slots := 0, locals := 148 } : Room) s m ([.ref h0] : List Value).toArray below meth c H locs 0 0 (MQ below (va_Qv P (fun u t => va_P D vwCl (WQ cI h0 h1 h2 h3 h4 h5 u) t.heap) A) ([.ref h0] : List Value).toArray s 0 0 A) (F0 m 0 ls []) by rw [eH, eL] at hgo; exact hgo
  clear eH eL
  refine lv_aload_n hx hb dX6_memory_0 rfl (lv_at hl 0 rfl) ?_
  refine cl_Vi (As := []) (rest := []) (st := [.ref h0]) S hK hA hP hD hS (fr_Q u) (kcX6_isWide l D cB cI h0 h1 h2 h3 h4 h5 H.size  u _ hw) (cwV 0 hts gX6_memory_X6_isWide rfl rfl rfl (by decide +kernel) ⟨Nat.le_of_ble_eq_true rfl, Nat.le_of_ble_eq_true rfl⟩) tru_h tru_b 0 rfl rfl rfl rfl rfl hl.1 (Nat.le_of_ble_eq_true rfl) dX6_memory_1 ⟨Nat.zero_le _, Nat.zero_le _⟩ (fun r2 u1 H locs hP hD hS hw => ?_)
  replace hP : va_P D vwCl (WQ cI h0 h1 h2 h3 h4 h5 u1) H := hP
  replace hD : va_D A (WQ cI h0 h1 h2 h3 h4 h5 u1) := hD
  refine lv_istore_n (lv' := [(1, .int r2), (0, .ref h0)]) hx hb dX6_memory_4 rfl hl (by decide) rfl (fun ls hl => ?_)
  refine lv_aload_n hx hb dX6_memory_5 rfl (lv_at hl 1 rfl) ?_
  refine va_get (D := D) (ci := 6) (v := .int (q_code u1)) (C := RX6) (T := TX6) (N := 29) hx hb hts i_X6 hown hK hP 0 rfl rfl 21 (by decide) f_148 (fun _ h9 => h9) rfl dX6_memory_6 ?_
  refine lv_sipush (v := (176 : Int32)) hx hb dX6_memory_9 (by decide) ?_
  refine lv_icmp_lt (tgt := 48) hx hb dX6_memory_12 (by decide) (fun c3 => ?_) (fun c3 => ?_)
  · replace hw := hw.1 c3
    refine lv_aload_n hx hb dX6_memory_48 rfl (lv_at hl 1 rfl) ?_
    refine va_get (D := D) (ci := 6) (v := .int (q_code u1)) (C := RX6) (T := TX6) (N := 29) hx hb hts i_X6 hown hK hP 0 rfl rfl 21 (by decide) f_148 (fun _ h9 => h9) rfl dX6_memory_49 ?_
    refine lv_sipush (v := (162 : Int32)) hx hb dX6_memory_52 (by decide) ?_
    refine lv_icmp_ge (tgt := 81) hx hb dX6_memory_55 (by decide) (fun c4 => ?_) (fun c4 => ?_)
    · replace hw := hw.1 c4
      refine lv_aload_n hx hb dX6_memory_81 rfl (lv_at hl 1 rfl) ?_
      refine va_get (D := D) (ci := 6) (v := .int (q_code u1)) (C := RX6) (T := TX6) (N := 29) hx hb hts i_X6 hown hK hP 0 rfl rfl 21 (by decide) f_148 (fun _ h9 => h9) rfl dX6_memory_82 ?_
      refine lv_sipush (v := (164 : Int32)) hx hb dX6_memory_85 (by decide) ?_
      refine lv_icmp_ge (tgt := 114) hx hb dX6_memory_88 (by decide) (fun c5 => ?_) (fun c5 => ?_)
      · replace hw := hw.1 c5
        refine lv_aload_n hx hb dX6_memory_114 rfl (lv_at hl 1 rfl) ?_
        refine cl_Vi (As := []) (rest := []) (st := [.ref h0]) S hK hA hP hD hS (fr_Q u1) (kcX6_isString l D cB cI h0 h1 h2 h3 h4 h5 H.size  u1 _ hw) (cwV 0 hts gX6_memory_X6_isString rfl rfl rfl (by decide +kernel) ⟨Nat.le_of_ble_eq_true rfl, Nat.le_of_ble_eq_true rfl⟩) tru_h tru_b 0 rfl rfl rfl rfl rfl hl.1 (Nat.le_of_ble_eq_true rfl) dX6_memory_115 ⟨Nat.zero_le _, Nat.zero_le _⟩ (fun r7 u6 H locs hP hD hS hw => ?_)
        replace hP : va_P D vwCl (WQ cI h0 h1 h2 h3 h4 h5 u6) H := hP
        replace hD : va_D A (WQ cI h0 h1 h2 h3 h4 h5 u6) := hD
        refine lv_if_eq (tgt := 128) hx hb dX6_memory_118 (by decide) (fun c8 => ?_) (fun c8 => ?_)
        · replace hw := hw.1 c8
          refine lv_aload_n hx hb dX6_memory_128 rfl (lv_at hl 1 rfl) ?_
          refine lv_bipush (v := (8 : Int32)) hx hb dX6_memory_129 (by decide) ?_
          refine lv_aload_n hx hb dX6_memory_131 rfl (lv_at hl 1 rfl) ?_
          refine lv_iconst (v := (0 : Int32)) hx hb dX6_memory_132 (by decide) ?_
          refine lv_iload_n hx hb dX6_memory_133 rfl (lv_at hl 0 rfl) ?_
          refine cl_Vi (As := [.int (0 : Int32), .int r2]) (rest := [.int (8 : Int32), .ref h0]) (st := [.int r2, .int (0 : Int32), .ref h0, .int (8 : Int32), .ref h0]) S hK hA hP hD hS (fr_Q u6) (kcX6_register l D cB cI h0 h1 h2 h3 h4 h5 H.size (0 : Int32) r2 u6 _ hw) (cwV 2 hts gX6_memory_X6_register rfl rfl rfl (by decide +kernel) ⟨Nat.le_of_ble_eq_true rfl, Nat.le_of_ble_eq_true rfl⟩) tru_h tru_b 0 rfl rfl rfl rfl rfl hl.1 (Nat.le_of_ble_eq_true rfl) dX6_memory_134 ⟨Nat.zero_le _, Nat.zero_le _⟩ (fun r10 u9 H locs hP hD hS hw => ?_)
          replace hP : va_P D vwCl (WQ cI h0 h1 h2 h3 h4 h5 u9) H := hP
          replace hD : va_D A (WQ cI h0 h1 h2 h3 h4 h5 u9) := hD
          refine lv_aload_n hx hb dX6_memory_137 rfl (lv_at hl 1 rfl) ?_
          refine va_get (D := D) (ci := 6) (v := .int (q_i u9)) (C := RX6) (T := TX6) (N := 29) hx hb hts i_X6 hown hK hP 0 rfl rfl 27 (by decide) f_164 (fun _ h9 => h9) rfl dX6_memory_138 ?_
          refine lv_iload_n hx hb dX6_memory_141 rfl (lv_at hl 0 rfl) ?_
          refine cl_Vi (As := [.int (8 : Int32), .int r10, .int (q_i u9), .int r2]) (rest := []) (st := [.int r2, .int (q_i u9), .int r10, .int (8 : Int32), .ref h0]) S hK hA hP hD hS (fr_Q u9) (kcX6_operation l D cB cI h0 h1 h2 h3 h4 h5 H.size (8 : Int32) r10 (q_i u9) r2 u9 _ hw) (cwV 4 hts gX6_memory_X6_operation rfl rfl rfl (by decide +kernel) ⟨Nat.le_of_ble_eq_true rfl, Nat.le_of_ble_eq_true rfl⟩) tru_h tru_b 0 rfl rfl rfl rfl rfl hl.1 (Nat.le_of_ble_eq_true rfl) dX6_memory_142 ⟨Nat.zero_le _, Nat.zero_le _⟩ (fun r12 u11 H locs hP hD hS hw => ?_)
          replace hP : va_P D vwCl (WQ cI h0 h1 h2 h3 h4 h5 u11) H := hP
          replace hD : va_D A (WQ cI h0 h1 h2 h3 h4 h5 u11) := hD
          refine lv_istore_n (lv' := [(2, .int r12), (1, .int r2), (0, .ref h0)]) hx hb dX6_memory_145 rfl hl (by decide) rfl (fun ls hl => ?_)
          exact rt_v (wo := (fun v => WQ cI h0 h1 h2 h3 h4 h5 v)) S hr hlk u11 hP hS hw dX6_memory_146
        · replace hw := hw.2 c8
          refine lv_aload_n hx hb dX6_memory_121 rfl (lv_at hl 1 rfl) ?_
          refine cl_Vv (As := []) (rest := []) (st := [.ref h0]) S hK hA hP hD hS (fr_Q u6) (kcX6_strings l D cB cI h0 h1 h2 h3 h4 h5 H.size  u6 _ hw) (cwV 0 hts gX6_memory_X6_strings rfl rfl rfl (by decide +kernel) ⟨Nat.le_of_ble_eq_true rfl, Nat.le_of_ble_eq_true rfl⟩) tru_h tru_b 0 rfl rfl rfl rfl rfl hl.1 (Nat.le_of_ble_eq_true rfl) dX6_memory_122 ⟨Nat.zero_le _, Nat.zero_le _⟩ (fun u13 H locs hP hD hS hw => ?_)
          replace hP : va_P D vwCl (WQ cI h0 h1 h2 h3 h4 h5 u13) H := hP
          replace hD : va_D A (WQ cI h0 h1 h2 h3 h4 h5 u13) := hD
          refine lv_goto (tgt := 146) hx hb dX6_memory_125 (by decide) ?_
          exact rt_v (wo := (fun v => WQ cI h0 h1 h2 h3 h4 h5 v)) S hr hlk u13 hP hS hw dX6_memory_146
      · replace hw := hw.2 c5
        refine lv_aload_n hx hb dX6_memory_91 rfl (lv_at hl 1 rfl) ?_
        refine lv_aload_n hx hb dX6_memory_92 rfl (lv_at hl 1 rfl) ?_
        refine lv_iconst (v := (3 : Int32)) hx hb dX6_memory_93 (by decide) ?_
        refine cl_Vi (As := [.int (3 : Int32)]) (rest := [.ref h0]) (st := [.int (3 : Int32), .ref h0, .ref h0]) S hK hA hP hD hS (fr_Q u1) (kcX6_segmentOr l D cB cI h0 h1 h2 h3 h4 h5 H.size (3 : Int32) u1 _ hw) (cwV 1 hts gX6_memory_X6_segmentOr rfl rfl rfl (by decide +kernel) ⟨Nat.le_of_ble_eq_true rfl, Nat.le_of_ble_eq_true rfl⟩) tru_h tru_b 0 rfl rfl rfl rfl rfl hl.1 (Nat.le_of_ble_eq_true rfl) dX6_memory_94 ⟨Nat.zero_le _, Nat.zero_le _⟩ (fun r16 u15 H locs hP hD hS hw => ?_)
        replace hP : va_P D vwCl (WQ cI h0 h1 h2 h3 h4 h5 u15) H := hP
        replace hD : va_D A (WQ cI h0 h1 h2 h3 h4 h5 u15) := hD
        refine lv_aload_n hx hb dX6_memory_97 rfl (lv_at hl 1 rfl) ?_
        refine va_get (D := D) (ci := 6) (v := .int (q_i u15)) (C := RX6) (T := TX6) (N := 29) hx hb hts i_X6 hown hK hP 0 rfl rfl 27 (by decide) f_164 (fun _ h9 => h9) rfl dX6_memory_98 ?_
        refine lv_iload_n hx hb dX6_memory_101 rfl (lv_at hl 0 rfl) ?_
        refine lv_aload_n hx hb dX6_memory_102 rfl (lv_at hl 1 rfl) ?_
        refine lv_iconst (v := (0 : Int32)) hx hb dX6_memory_103 (by decide) ?_
        refine lv_iload_n hx hb dX6_memory_104 rfl (lv_at hl 0 rfl) ?_
        refine cl_Vi (As := [.int (0 : Int32), .int r2]) (rest := [.int r2, .int (q_i u15), .int r16, .ref h0]) (st := [.int r2, .int (0 : Int32), .ref h0, .int r2, .int (q_i u15), .int r16, .ref h0]) S hK hA hP hD hS (fr_Q u15) (kcX6_register l D cB cI h0 h1 h2 h3 h4 h5 H.size (0 : Int32) r2 u15 _ hw) (cwV 2 hts gX6_memory_X6_register rfl rfl rfl (by decide +kernel) ⟨Nat.le_of_ble_eq_true rfl, Nat.le_of_ble_eq_true rfl⟩) tru_h tru_b 0 rfl rfl rfl rfl rfl hl.1 (Nat.le_of_ble_eq_true rfl) dX6_memory_105 ⟨Nat.zero_le _, Nat.zero_le _⟩ (fun r18 u17 H locs hP hD hS hw => ?_)
        replace hP : va_P D vwCl (WQ cI h0 h1 h2 h3 h4 h5 u17) H := hP
        replace hD : va_D A (WQ cI h0 h1 h2 h3 h4 h5 u17) := hD
        refine cl_Vv (As := [.int r16, .int (q_i u15), .int r2, .int r18]) (rest := []) (st := [.int r18, .int r2, .int (q_i u15), .int r16, .ref h0]) S hK hA hP hD hS (fr_Q u17) (kcX6_put l D cB cI h0 h1 h2 h3 h4 h5 H.size r16 (q_i u15) r2 r18 u17 _ hw) (cwV 4 hts gX6_memory_X6_put rfl rfl rfl (by decide +kernel) ⟨Nat.le_of_ble_eq_true rfl, Nat.le_of_ble_eq_true rfl⟩) tru_h tru_b 0 rfl rfl rfl rfl rfl hl.1 (Nat.le_of_ble_eq_true rfl) dX6_memory_108 ⟨Nat.zero_le _, Nat.zero_le _⟩ (fun u19 H locs hP hD hS hw => ?_)
        replace hP : va_P D vwCl (WQ cI h0 h1 h2 h3 h4 h5 u19) H := hP
        replace hD : va_D A (WQ cI h0 h1 h2 h3 h4 h5 u19) := hD
        refine lv_goto (tgt := 146) hx hb dX6_memory_111 (by decide) ?_
        exact rt_v (wo := (fun v => WQ cI h0 h1 h2 h3 h4 h5 v)) S hr hlk u19 hP hS hw dX6_memory_146
    · replace hw := hw.2 c4
      refine lv_aload_n hx hb dX6_memory_58 rfl (lv_at hl 1 rfl) ?_
      refine lv_iconst (v := (0 : Int32)) hx hb dX6_memory_59 (by decide) ?_
      refine lv_iload_n hx hb dX6_memory_60 rfl (lv_at hl 0 rfl) ?_
      refine lv_aload_n hx hb dX6_memory_61 rfl (lv_at hl 1 rfl) ?_
      refine lv_aload_n hx hb dX6_memory_62 rfl (lv_at hl 1 rfl) ?_
      refine lv_iconst (v := (3 : Int32)) hx hb dX6_memory_63 (by decide) ?_
      refine cl_Vi (As := [.int (3 : Int32)]) (rest := [.ref h0, .int r2, .int (0 : Int32), .ref h0]) (st := [.int (3 : Int32), .ref h0, .ref h0, .int r2, .int (0 : Int32), .ref h0]) S hK hA hP hD hS (fr_Q u1) (kcX6_segmentOr l D cB cI h0 h1 h2 h3 h4 h5 H.size (3 : Int32) u1 _ hw) (cwV 1 hts gX6_memory_X6_segmentOr rfl rfl rfl (by decide +kernel) ⟨Nat.le_of_ble_eq_true rfl, Nat.le_of_ble_eq_true rfl⟩) tru_h tru_b 0 rfl rfl rfl rfl rfl hl.1 (Nat.le_of_ble_eq_true rfl) dX6_memory_64 ⟨Nat.zero_le _, Nat.zero_le _⟩ (fun r22 u21 H locs hP hD hS hw => ?_)
      replace hP : va_P D vwCl (WQ cI h0 h1 h2 h3 h4 h5 u21) H := hP
      replace hD : va_D A (WQ cI h0 h1 h2 h3 h4 h5 u21) := hD
      refine lv_aload_n hx hb dX6_memory_67 rfl (lv_at hl 1 rfl) ?_
      refine va_get (D := D) (ci := 6) (v := .int (q_i u21)) (C := RX6) (T := TX6) (N := 29) hx hb hts i_X6 hown hK hP 0 rfl rfl 27 (by decide) f_164 (fun _ h9 => h9) rfl dX6_memory_68 ?_
      refine lv_iload_n hx hb dX6_memory_71 rfl (lv_at hl 0 rfl) ?_
      refine cl_Vi (As := [.int r22, .int (q_i u21), .int r2]) (rest := [.int r2, .int (0 : Int32), .ref h0]) (st := [.int r2, .int (q_i u21), .int r22, .ref h0, .int r2, .int (0 : Int32), .ref h0]) S hK hA hP hD hS (fr_Q u21) (kcX6_get l D cB cI h0 h1 h2 h3 h4 h5 H.size r22 (q_i u21) r2 u21 _ hw) (cwV 3 hts gX6_memory_X6_get rfl rfl rfl (by decide +kernel) ⟨Nat.le_of_ble_eq_true rfl, Nat.le_of_ble_eq_true rfl⟩) tru_h tru_b 0 rfl rfl rfl rfl rfl hl.1 (Nat.le_of_ble_eq_true rfl) dX6_memory_72 ⟨Nat.zero_le _, Nat.zero_le _⟩ (fun r24 u23 H locs hP hD hS hw => ?_)
      replace hP : va_P D vwCl (WQ cI h0 h1 h2 h3 h4 h5 u23) H := hP
      replace hD : va_D A (WQ cI h0 h1 h2 h3 h4 h5 u23) := hD
      refine cl_Vv (As := [.int (0 : Int32), .int r2, .int r24]) (rest := []) (st := [.int r24, .int r2, .int (0 : Int32), .ref h0]) S hK hA hP hD hS (fr_Q u23) (kcX6_setRegister l D cB cI h0 h1 h2 h3 h4 h5 H.size (0 : Int32) r2 r24 u23 _ hw) (cwV 3 hts gX6_memory_X6_setRegister rfl rfl rfl (by decide +kernel) ⟨Nat.le_of_ble_eq_true rfl, Nat.le_of_ble_eq_true rfl⟩) tru_h tru_b 0 rfl rfl rfl rfl rfl hl.1 (Nat.le_of_ble_eq_true rfl) dX6_memory_75 ⟨Nat.zero_le _, Nat.zero_le _⟩ (fun u25 H locs hP hD hS hw => ?_)
      replace hP : va_P D vwCl (WQ cI h0 h1 h2 h3 h4 h5 u25) H := hP
      replace hD : va_D A (WQ cI h0 h1 h2 h3 h4 h5 u25) := hD
      refine lv_goto (tgt := 146) hx hb dX6_memory_78 (by decide) ?_
      exact rt_v (wo := (fun v => WQ cI h0 h1 h2 h3 h4 h5 v)) S hr hlk u25 hP hS hw dX6_memory_146
  · replace hw := hw.2 c3
    refine lv_aload_n hx hb dX6_memory_15 rfl (lv_at hl 1 rfl) ?_
    refine lv_aload_n hx hb dX6_memory_16 rfl (lv_at hl 1 rfl) ?_
    refine va_get (D := D) (ci := 6) (v := .int (q_code u1)) (C := RX6) (T := TX6) (N := 29) hx hb hts i_X6 hown hK hP 0 rfl rfl 21 (by decide) f_148 (fun _ h9 => h9) rfl dX6_memory_17 ?_
    refine lv_bipush (v := (7 : Int32)) hx hb dX6_memory_20 (by decide) ?_
    refine lv_iand hx hb dX6_memory_22 ?_
    refine lv_aload_n hx hb dX6_memory_23 rfl (lv_at hl 1 rfl) ?_
    refine va_get (D := D) (ci := 6) (v := .int (q_code u1)) (C := RX6) (T := TX6) (N := 29) hx hb hts i_X6 hown hK hP 0 rfl rfl 21 (by decide) f_148 (fun _ h9 => h9) rfl dX6_memory_24 ?_
    refine lv_sipush (v := (184 : Int32)) hx hb dX6_memory_27 (by decide) ?_
    refine lv_icmp_lt (tgt := 37) hx hb dX6_memory_30 (by decide) (fun c27 => ?_) (fun c27 => ?_)
    · replace hw := hw.1 c27
      refine lv_iconst (v := (0 : Int32)) hx hb dX6_memory_37 (by decide) ?_
      exact b38 ((q_code u1) &&& (7 : Int32)) (0 : Int32) u1 H locs ls hP hD hS (lv_sub hl [1] rfl) hw
    · replace hw := hw.2 c27
      refine lv_iconst (v := (1 : Int32)) hx hb dX6_memory_33 (by decide) ?_
      refine lv_goto (tgt := 38) hx hb dX6_memory_34 (by decide) ?_
      exact b38 ((q_code u1) &&& (7 : Int32)) (1 : Int32) u1 H locs ls hP hD hS (lv_sub hl [1] rfl) hw
-- X6_returns
def wX6_returns_b22 (a1 : Int32) (a2 : Int32) (P : SQ → Prop)  (u : SQ) : Prop := (vp_in (4 : Int32) 8 ∧ (vp_in (4 : Int32) 8 ∧ (P (qs_registers u (upd (q_registers u) (4 : Int32).toNatClampNeg ((((q_registers u) (4 : Int32).toNatClampNeg) + a2) &&& (65535 : Int32)))))))
def wX6_returns (a1 : Int32) (a2 : Int32) (u : SQ) (P : SQ → Prop) : Prop := (wX6_pop  u (fun r2 u1 => ((a1 = (0 : Int32) → (wX6_returns_b22 a1 a2 P (qs_ip u1 r2))) ∧ (¬ a1 = (0 : Int32) → (wX6_pop  (qs_ip u1 r2) (fun r5 u4 => (vp_in (1 : Int32) 4 ∧ (wX6_returns_b22 a1 a2 P (qs_segments u4 (upd (q_segments u4) (1 : Int32).toNatClampNeg r5))))))))))
set_option maxHeartbeats 4000000 in
set_option maxRecDepth 100000 in
theorem kcX6_returns (l : Launch) (D : va_G) (cB cI : ClassId) (h0 h1 h2 h3 h4 h5 : Nat) (sz : Nat) (a1 : Int32) (a2 : Int32) (u : SQ) (P : SQ → Prop) (hw : wX6_returns a1 a2 u P) : Met l yX6_returns wsX6_returns ({ frames := 3, cells := 0, slots := 0, locals := 67 } : Room) (va_Pc [.ref h0, .int a1, .int a2] (Pcw D (tyA cB cI) (WQ cI h0 h1 h2 h3 h4 h5 u) sz Tru)) (va_Qv P (fun u t => va_P D vwCl (WQ cI h0 h1 h2 h3 h4 h5 u) t.heap) (va_A (WQ cI h0 h1 h2 h3 h4 h5 u) sz)) 0 0 (va_A (WQ cI h0 h1 h2 h3 h4 h5 u) sz) := by
  refine en_ (cc := cX6_returns) (maxL := 3) (ret := none) (own := RX6) (lv := [(0, .ref h0), (1, .int a1), (2, .int a2)]) (Qf := fun A => va_Qv P (fun u t => va_P D vwCl (WQ cI h0 h1 h2 h3 h4 h5 u) t.heap) A) (by decide) rfl rfl (Nat.le_of_ble_eq_true rfl) rfl ?_
  intro p e s m below meth c A ls S hr hlk hname hsz hP hK hD hA hSub hS hE hl
  have hx := S.1
  have hb := S.2.1
  have hown := S.2.2.2.1
  have hts := S.2.2.2.2
  have i_X6 : ∀ w ∈ u_ws RX6 TX6 29, w ∈ wsX6_returns := by decide +kernel
  have f_7 := hts (.fieldLink RX6 7 "MachineCoreModel" "registers" "[I") (by decide +kernel)
  have f_13 := hts (.fieldLink RX6 13 "MachineCoreModel" "segments" "[I") (by decide +kernel)
  have f_170 := hts (.fieldLink RX6 170 "MachineCoreModel" "ip" "I") (by decide +kernel)
  have k_39 := hts (.constant RX6 39 (65535)) (by decide +kernel)
  have b22 : ∀  (u : SQ) (H : Heap) (locs : List Loc) (ls : Array Slot), va_P D vwCl (WQ cI h0 h1 h2 h3 h4 h5 u) H → va_D A (WQ cI h0 h1 h2 h3 h4 h5 u) → va_S A s.heap H locs → lv_has ls 3 [(0, .ref h0), (2, .int a2)] → wX6_returns_b22 a1 a2 P u → W p l e ({ frames := 3, cells := 0, slots := 0, locals := 67 } : Room) s m ([.ref h0, .int a1, .int a2] : List Value).toArray below meth c H locs 0 0 (MQ below (va_Qv P (fun u t => va_P D vwCl (WQ cI h0 h1 h2 h3 h4 h5 u) t.heap) A) ([.ref h0, .int a1, .int a2] : List Value).toArray s 0 0 A) (F0 m 22 ls []) := by
    intro u H locs ls hP hD hS hl hw
    unfold wX6_returns_b22 at hw
    refine lv_aload_n hx hb dX6_returns_22 rfl (lv_at hl 0 rfl) ?_
    refine va_get (D := D) (ci := 6) (v := .ref h1) (C := RX6) (T := TX6) (N := 29) hx hb hts i_X6 hown hK hP 0 rfl rfl 1 (by decide) f_7 (fun _ h9 => h9) rfl dX6_returns_23 ?_
    refine lv_iconst (v := (4 : Int32)) hx hb dX6_returns_26 (by decide) ?_
    refine lv_aload_n hx hb dX6_returns_27 rfl (lv_at hl 0 rfl) ?_
    refine va_get (D := D) (ci := 6) (v := .ref h1) (C := RX6) (T := TX6) (N := 29) hx hb hts i_X6 hown hK hP 0 rfl rfl 1 (by decide) f_7 (fun _ h9 => h9) rfl dX6_returns_28 ?_
    refine lv_iconst (v := (4 : Int32)) hx hb dX6_returns_31 (by decide) ?_
    refine va_iald hx hb hK hP 1 1 (f := (q_registers u)) rfl rfl hw.1 dX6_returns_32 ?_
    replace hw := hw.2
    refine lv_iload_n hx hb dX6_returns_33 rfl (lv_at hl 1 rfl) ?_
    refine lv_iadd hx hb dX6_returns_34 ?_
    refine lv_ldc (v := (65535 : Int32)) hx hb hown k_39 dX6_returns_35 ?_
    refine lv_iand hx hb dX6_returns_37 ?_
    refine va_iast hx hb hK hP hD hS 1 1 (f := (q_registers u)) rfl rfl hw.1 dX6_returns_38 (fun H locs hP hD hS => ?_)
    replace hw := hw.2
    replace hP : va_P D vwCl (WQ cI h0 h1 h2 h3 h4 h5 (qs_registers u (upd (q_registers u) (4 : Int32).toNatClampNeg ((((q_registers u) (4 : Int32).toNatClampNeg) + a2) &&& (65535 : Int32))))) H := hP
    replace hD : va_D A (WQ cI h0 h1 h2 h3 h4 h5 (qs_registers u (upd (q_registers u) (4 : Int32).toNatClampNeg ((((q_registers u) (4 : Int32).toNatClampNeg) + a2) &&& (65535 : Int32))))) := hD
    exact rt_v (wo := (fun v => WQ cI h0 h1 h2 h3 h4 h5 v)) S hr hlk (qs_registers u (upd (q_registers u) (4 : Int32).toNatClampNeg ((((q_registers u) (4 : Int32).toNatClampNeg) + a2) &&& (65535 : Int32)))) hP hS hw dX6_returns_39
  unfold wX6_returns at hw
  obtain ⟨H, eH⟩ : ∃ H, H = s.heap := ⟨_, rfl⟩
  obtain ⟨locs, eL⟩ : ∃ locs : List Loc, locs = [] := ⟨_, rfl⟩
  replace hP : va_P D vwCl (WQ cI h0 h1 h2 h3 h4 h5 u) H := by rw [eH]; exact hP
  replace hS : va_S A s.heap H locs := by rw [eH, eL]; exact hS
  suffices hgo : W p l e ({ frames := 3, cells := 0, slots := 0, locals := 67 } : Room) s m ([.ref h0, .int a1, .int a2] : List Value).toArray below meth c H locs 0 0 (MQ below (va_Qv P (fun u t => va_P D vwCl (WQ cI h0 h1 h2 h3 h4 h5 u) t.heap) A) ([.ref h0, .int a1, .int a2] : List Value).toArray s 0 0 A) (F0 m 0 ls []) by rw [eH, eL] at hgo; exact hgo
  clear eH eL
  refine lv_aload_n hx hb dX6_returns_0 rfl (lv_at hl 0 rfl) ?_
  refine lv_aload_n hx hb dX6_returns_1 rfl (lv_at hl 0 rfl) ?_
  refine cl_Vi (As := []) (rest := [.ref h0]) (st := [.ref h0, .ref h0]) S hK hA hP hD hS (fr_Q u) (kcX6_pop l D cB cI h0 h1 h2 h3 h4 h5 H.size  u _ hw) (cwV 0 hts gX6_returns_X6_pop rfl rfl rfl (by decide +kernel) ⟨Nat.le_of_ble_eq_true rfl, Nat.le_of_ble_eq_true rfl⟩) tru_h tru_b 0 rfl rfl rfl rfl rfl hl.1 (Nat.le_of_ble_eq_true rfl) dX6_returns_2 ⟨Nat.zero_le _, Nat.zero_le _⟩ (fun r2 u1 H locs hP hD hS hw => ?_)
  replace hP : va_P D vwCl (WQ cI h0 h1 h2 h3 h4 h5 u1) H := hP
  replace hD : va_D A (WQ cI h0 h1 h2 h3 h4 h5 u1) := hD
  refine va_put (D := D) (ci := 6) (v := .int r2) (ty := .int) (C := RX6) (T := TX6) (N := 29) hx hb hts i_X6 tyX6 tyX6_ok nmX6 hown hK hP hD hS 0 rfl rfl 3 (by decide) f_170 (fun _ h9 => h9) rfl (by decide +kernel) rfl rfl (Nat.le_of_ble_eq_true rfl) dX6_returns_5 (fun H locs hP hD hS => ?_)
  replace hP : va_P D vwCl (WQ cI h0 h1 h2 h3 h4 h5 (qs_ip u1 r2)) H := hP
  replace hD : va_D A (WQ cI h0 h1 h2 h3 h4 h5 (qs_ip u1 r2)) := hD
  refine lv_iload_n hx hb dX6_returns_8 rfl (lv_at hl 1 rfl) ?_
  refine lv_if_eq (tgt := 22) hx hb dX6_returns_9 (by decide) (fun c3 => ?_) (fun c3 => ?_)
  · replace hw := hw.1 c3
    exact b22 (qs_ip u1 r2) H locs ls hP hD hS (lv_sub hl [0, 2] rfl) hw
  · replace hw := hw.2 c3
    refine lv_aload_n hx hb dX6_returns_12 rfl (lv_at hl 0 rfl) ?_
    refine va_get (D := D) (ci := 6) (v := .ref h2) (C := RX6) (T := TX6) (N := 29) hx hb hts i_X6 hown hK hP 0 rfl rfl 2 (by decide) f_13 (fun _ h9 => h9) rfl dX6_returns_13 ?_
    refine lv_iconst (v := (1 : Int32)) hx hb dX6_returns_16 (by decide) ?_
    refine lv_aload_n hx hb dX6_returns_17 rfl (lv_at hl 0 rfl) ?_
    refine cl_Vi (As := []) (rest := [.int (1 : Int32), .ref h2]) (st := [.ref h0, .int (1 : Int32), .ref h2]) S hK hA hP hD hS (fr_Q (qs_ip u1 r2)) (kcX6_pop l D cB cI h0 h1 h2 h3 h4 h5 H.size  (qs_ip u1 r2) _ hw) (cwV 0 hts gX6_returns_X6_pop rfl rfl rfl (by decide +kernel) ⟨Nat.le_of_ble_eq_true rfl, Nat.le_of_ble_eq_true rfl⟩) tru_h tru_b 0 rfl rfl rfl rfl rfl hl.1 (Nat.le_of_ble_eq_true rfl) dX6_returns_18 ⟨Nat.zero_le _, Nat.zero_le _⟩ (fun r5 u4 H locs hP hD hS hw => ?_)
    replace hP : va_P D vwCl (WQ cI h0 h1 h2 h3 h4 h5 u4) H := hP
    replace hD : va_D A (WQ cI h0 h1 h2 h3 h4 h5 u4) := hD
    refine va_iast hx hb hK hP hD hS 2 1 (f := (q_segments u4)) rfl rfl hw.1 dX6_returns_21 (fun H locs hP hD hS => ?_)
    replace hw := hw.2
    replace hP : va_P D vwCl (WQ cI h0 h1 h2 h3 h4 h5 (qs_segments u4 (upd (q_segments u4) (1 : Int32).toNatClampNeg r5))) H := hP
    replace hD : va_D A (WQ cI h0 h1 h2 h3 h4 h5 (qs_segments u4 (upd (q_segments u4) (1 : Int32).toNatClampNeg r5))) := hD
    exact b22 (qs_segments u4 (upd (q_segments u4) (1 : Int32).toNatClampNeg r5)) H locs ls hP hD hS (lv_sub hl [0, 2] rfl) hw
-- X6_returnsAndMore
def wX6_returnsAndMore_b176  (P : SQ → Prop)  (u : SQ) : Prop := (wX6_isWide  u (fun r43 u42 => (wX6_give r43 (q_i u42) u42 (fun u44 => (P u44)))))
def wX6_returnsAndMore_b147  (P : SQ → Prop) (x1 : Int32) (s1 : Int32) (u : SQ) : Prop := (wX6_get (q_place u) ((q_offset u) + (2 : Int32)) (1 : Int32) u (fun r41 u40 => (vp_in s1 4 ∧ (vp_in (q_r u40) 8 ∧ (P (qs_segments (qs_registers u40 (upd (q_registers u40) (q_r u40).toNatClampNeg x1)) (upd (q_segments u40) s1.toNatClampNeg r41)))))))
def wX6_returnsAndMore_b122  (P : SQ → Prop)  (u : SQ) : Prop := (wX6_operand (1 : Int32) u (fun r38 u37 => (((q_code u37) = (196 : Int32) → (wX6_returnsAndMore_b147  P r38 (0 : Int32) u37)) ∧ (¬ (q_code u37) = (196 : Int32) → (wX6_returnsAndMore_b147  P r38 (3 : Int32) u37)))))
def wX6_returnsAndMore_b113  (P : SQ → Prop)  (u : SQ) : Prop := (wX6_returns (1 : Int32) (0 : Int32) u (fun u35 => (P u35)))
def wX6_returnsAndMore_b101  (P : SQ → Prop)  (u : SQ) : Prop := (wX6_returns (1 : Int32) (q_i u) u (fun u33 => (P u33)))
def wX6_returnsAndMore_b92  (P : SQ → Prop)  (u : SQ) : Prop := (wX6_returns (0 : Int32) (0 : Int32) u (fun u31 => (P u31)))
def wX6_returnsAndMore_b80  (P : SQ → Prop)  (u : SQ) : Prop := (wX6_returns (0 : Int32) (q_i u) u (fun u29 => (P u29)))
def wX6_returnsAndMore  (u : SQ) (P : SQ → Prop) : Prop := (((q_code u) = (192 : Int32) → (wX6_returnsAndMore_b80  P u)) ∧ (¬ (q_code u) = (192 : Int32) → (((q_code u) = (193 : Int32) → (wX6_returnsAndMore_b92  P u)) ∧ (¬ (q_code u) = (193 : Int32) → (((q_code u) = (194 : Int32) → (wX6_returnsAndMore_b80  P u)) ∧ (¬ (q_code u) = (194 : Int32) → (((q_code u) = (195 : Int32) → (wX6_returnsAndMore_b92  P u)) ∧ (¬ (q_code u) = (195 : Int32) → (((q_code u) = (196 : Int32) → (wX6_returnsAndMore_b122  P u)) ∧ (¬ (q_code u) = (196 : Int32) → (((q_code u) = (197 : Int32) → (wX6_returnsAndMore_b122  P u)) ∧ (¬ (q_code u) = (197 : Int32) → (((q_code u) = (198 : Int32) → (wX6_returnsAndMore_b176  P u)) ∧ (¬ (q_code u) = (198 : Int32) → (((q_code u) = (199 : Int32) → (wX6_returnsAndMore_b176  P u)) ∧ (¬ (q_code u) = (199 : Int32) → (((q_code u) = (200 : Int32) → (wX6_returnsAndMore_b101  P u)) ∧ (¬ (q_code u) = (200 : Int32) → (((q_code u) = (201 : Int32) → (wX6_returnsAndMore_b113  P u)) ∧ (¬ (q_code u) = (201 : Int32) → (((q_code u) = (202 : Int32) → (wX6_returnsAndMore_b101  P u)) ∧ (¬ (q_code u) = (202 : Int32) → (((q_code u) = (203 : Int32) → (wX6_returnsAndMore_b113  P u)) ∧ (¬ (q_code u) = (203 : Int32) → (((q_code u) = (204 : Int32) → (wX6_interrupt (3 : Int32) u (fun u14 => (P u14)))) ∧ (¬ (q_code u) = (204 : Int32) → (((q_code u) = (205 : Int32) → (wX6_interrupt (q_i u) u (fun u17 => (P u17)))) ∧ (¬ (q_code u) = (205 : Int32) → (((q_code u) = (206 : Int32) → (wX6_has (2048 : Int32) u (fun r21 u20 => ((r21 = (0 : Int32) → (P u20)) ∧ (¬ r21 = (0 : Int32) → (wX6_interrupt (4 : Int32) u20 (fun u23 => (P u23)))))))) ∧ (¬ (q_code u) = (206 : Int32) → (wX6_returns (1 : Int32) (0 : Int32) u (fun u25 => (wX6_pop  u25 (fun r28 u27 => (P (qs_flags u27 (r28 &&& (4053 : Int32))))))))))))))))))))))))))))))))))))))
set_option maxHeartbeats 4000000 in
set_option maxRecDepth 100000 in
theorem kcX6_returnsAndMore (l : Launch) (D : va_G) (cB cI : ClassId) (h0 h1 h2 h3 h4 h5 : Nat) (sz : Nat)  (u : SQ) (P : SQ → Prop) (hw : wX6_returnsAndMore  u P) : Met l yX6_returnsAndMore wsX6_returnsAndMore ({ frames := 4, cells := 0, slots := 0, locals := 89 } : Room) (va_Pc [.ref h0] (Pcw D (tyA cB cI) (WQ cI h0 h1 h2 h3 h4 h5 u) sz Tru)) (va_Qv P (fun u t => va_P D vwCl (WQ cI h0 h1 h2 h3 h4 h5 u) t.heap) (va_A (WQ cI h0 h1 h2 h3 h4 h5 u) sz)) 0 0 (va_A (WQ cI h0 h1 h2 h3 h4 h5 u) sz) := by
  refine en_ (cc := cX6_returnsAndMore) (maxL := 2) (ret := none) (own := RX6) (lv := [(0, .ref h0)]) (Qf := fun A => va_Qv P (fun u t => va_P D vwCl (WQ cI h0 h1 h2 h3 h4 h5 u) t.heap) A) (by decide) rfl rfl (Nat.le_of_ble_eq_true rfl) rfl ?_
  intro p e s m below meth c A ls S hr hlk hname hsz hP hK hD hA hSub hS hE hl
  have hx := S.1
  have hb := S.2.1
  have hown := S.2.2.2.1
  have hts := S.2.2.2.2
  have i_X6 : ∀ w ∈ u_ws RX6 TX6 29, w ∈ wsX6_returnsAndMore := by decide +kernel
  have f_7 := hts (.fieldLink RX6 7 "MachineCoreModel" "registers" "[I") (by decide +kernel)
  have f_13 := hts (.fieldLink RX6 13 "MachineCoreModel" "segments" "[I") (by decide +kernel)
  have f_54 := hts (.fieldLink RX6 54 "MachineCoreModel" "flags" "I") (by decide +kernel)
  have f_130 := hts (.fieldLink RX6 130 "MachineCoreModel" "r" "I") (by decide +kernel)
  have f_139 := hts (.fieldLink RX6 139 "MachineCoreModel" "offset" "I") (by decide +kernel)
  have f_145 := hts (.fieldLink RX6 145 "MachineCoreModel" "place" "I") (by decide +kernel)
  have f_148 := hts (.fieldLink RX6 148 "MachineCoreModel" "code" "I") (by decide +kernel)
  have f_164 := hts (.fieldLink RX6 164 "MachineCoreModel" "i" "I") (by decide +kernel)
  have b176 : ∀  (u : SQ) (H : Heap) (locs : List Loc) (ls : Array Slot), va_P D vwCl (WQ cI h0 h1 h2 h3 h4 h5 u) H → va_D A (WQ cI h0 h1 h2 h3 h4 h5 u) → va_S A s.heap H locs → lv_has ls 2 [(0, .ref h0)] → wX6_returnsAndMore_b176  P u → W p l e ({ frames := 4, cells := 0, slots := 0, locals := 89 } : Room) s m ([.ref h0] : List Value).toArray below meth c H locs 0 0 (MQ below (va_Qv P (fun u t => va_P D vwCl (WQ cI h0 h1 h2 h3 h4 h5 u) t.heap) A) ([.ref h0] : List Value).toArray s 0 0 A) (F0 m 176 ls []) := by
    intro u H locs ls hP hD hS hl hw
    unfold wX6_returnsAndMore_b176 at hw
    refine lv_aload_n hx hb dX6_returnsAndMore_176 rfl (lv_at hl 0 rfl) ?_
    refine lv_aload_n hx hb dX6_returnsAndMore_177 rfl (lv_at hl 0 rfl) ?_
    refine cl_Vi (As := []) (rest := [.ref h0]) (st := [.ref h0, .ref h0]) S hK hA hP hD hS (fr_Q u) (kcX6_isWide l D cB cI h0 h1 h2 h3 h4 h5 H.size  u _ hw) (cwV 0 hts gX6_returnsAndMore_X6_isWide rfl rfl rfl (by decide +kernel) ⟨Nat.le_of_ble_eq_true rfl, Nat.le_of_ble_eq_true rfl⟩) tru_h tru_b 0 rfl rfl rfl rfl rfl hl.1 (Nat.le_of_ble_eq_true rfl) dX6_returnsAndMore_178 ⟨Nat.zero_le _, Nat.zero_le _⟩ (fun r43 u42 H locs hP hD hS hw => ?_)
    replace hP : va_P D vwCl (WQ cI h0 h1 h2 h3 h4 h5 u42) H := hP
    replace hD : va_D A (WQ cI h0 h1 h2 h3 h4 h5 u42) := hD
    refine lv_aload_n hx hb dX6_returnsAndMore_181 rfl (lv_at hl 0 rfl) ?_
    refine va_get (D := D) (ci := 6) (v := .int (q_i u42)) (C := RX6) (T := TX6) (N := 29) hx hb hts i_X6 hown hK hP 0 rfl rfl 27 (by decide) f_164 (fun _ h9 => h9) rfl dX6_returnsAndMore_182 ?_
    refine cl_Vv (As := [.int r43, .int (q_i u42)]) (rest := []) (st := [.int (q_i u42), .int r43, .ref h0]) S hK hA hP hD hS (fr_Q u42) (kcX6_give l D cB cI h0 h1 h2 h3 h4 h5 H.size r43 (q_i u42) u42 _ hw) (cwV 2 hts gX6_returnsAndMore_X6_give rfl rfl rfl (by decide +kernel) ⟨Nat.le_of_ble_eq_true rfl, Nat.le_of_ble_eq_true rfl⟩) tru_h tru_b 0 rfl rfl rfl rfl rfl hl.1 (Nat.le_of_ble_eq_true rfl) dX6_returnsAndMore_185 ⟨Nat.zero_le _, Nat.zero_le _⟩ (fun u44 H locs hP hD hS hw => ?_)
    replace hP : va_P D vwCl (WQ cI h0 h1 h2 h3 h4 h5 u44) H := hP
    replace hD : va_D A (WQ cI h0 h1 h2 h3 h4 h5 u44) := hD
    refine lv_goto (tgt := 246) hx hb dX6_returnsAndMore_188 (by decide) ?_
    exact rt_v (wo := (fun v => WQ cI h0 h1 h2 h3 h4 h5 v)) S hr hlk u44 hP hS hw dX6_returnsAndMore_246
  have b147 : ∀ (x1 : Int32) (s1 : Int32) (u : SQ) (H : Heap) (locs : List Loc) (ls : Array Slot), va_P D vwCl (WQ cI h0 h1 h2 h3 h4 h5 u) H → va_D A (WQ cI h0 h1 h2 h3 h4 h5 u) → va_S A s.heap H locs → lv_has ls 2 [(0, .ref h0), (1, .int x1)] → wX6_returnsAndMore_b147  P x1 s1 u → W p l e ({ frames := 4, cells := 0, slots := 0, locals := 89 } : Room) s m ([.ref h0] : List Value).toArray below meth c H locs 0 0 (MQ below (va_Qv P (fun u t => va_P D vwCl (WQ cI h0 h1 h2 h3 h4 h5 u) t.heap) A) ([.ref h0] : List Value).toArray s 0 0 A) (F0 m 147 ls [.int s1, .ref h2]) := by
    intro x1 s1 u H locs ls hP hD hS hl hw
    unfold wX6_returnsAndMore_b147 at hw
    refine lv_aload_n hx hb dX6_returnsAndMore_147 rfl (lv_at hl 0 rfl) ?_
    refine lv_aload_n hx hb dX6_returnsAndMore_148 rfl (lv_at hl 0 rfl) ?_
    refine va_get (D := D) (ci := 6) (v := .int (q_place u)) (C := RX6) (T := TX6) (N := 29) hx hb hts i_X6 hown hK hP 0 rfl rfl 26 (by decide) f_145 (fun _ h9 => h9) rfl dX6_returnsAndMore_149 ?_
    refine lv_aload_n hx hb dX6_returnsAndMore_152 rfl (lv_at hl 0 rfl) ?_
    refine va_get (D := D) (ci := 6) (v := .int (q_offset u)) (C := RX6) (T := TX6) (N := 29) hx hb hts i_X6 hown hK hP 0 rfl rfl 25 (by decide) f_139 (fun _ h9 => h9) rfl dX6_returnsAndMore_153 ?_
    refine lv_iconst (v := (2 : Int32)) hx hb dX6_returnsAndMore_156 (by decide) ?_
    refine lv_iadd hx hb dX6_returnsAndMore_157 ?_
    refine lv_iconst (v := (1 : Int32)) hx hb dX6_returnsAndMore_158 (by decide) ?_
    refine cl_Vi (As := [.int (q_place u), .int ((q_offset u) + (2 : Int32)), .int (1 : Int32)]) (rest := [.int s1, .ref h2]) (st := [.int (1 : Int32), .int ((q_offset u) + (2 : Int32)), .int (q_place u), .ref h0, .int s1, .ref h2]) S hK hA hP hD hS (fr_Q u) (kcX6_get l D cB cI h0 h1 h2 h3 h4 h5 H.size (q_place u) ((q_offset u) + (2 : Int32)) (1 : Int32) u _ hw) (cwV 3 hts gX6_returnsAndMore_X6_get rfl rfl rfl (by decide +kernel) ⟨Nat.le_of_ble_eq_true rfl, Nat.le_of_ble_eq_true rfl⟩) tru_h tru_b 0 rfl rfl rfl rfl rfl hl.1 (Nat.le_of_ble_eq_true rfl) dX6_returnsAndMore_159 ⟨Nat.zero_le _, Nat.zero_le _⟩ (fun r41 u40 H locs hP hD hS hw => ?_)
    replace hP : va_P D vwCl (WQ cI h0 h1 h2 h3 h4 h5 u40) H := hP
    replace hD : va_D A (WQ cI h0 h1 h2 h3 h4 h5 u40) := hD
    refine va_iast hx hb hK hP hD hS 2 1 (f := (q_segments u40)) rfl rfl hw.1 dX6_returnsAndMore_162 (fun H locs hP hD hS => ?_)
    replace hw := hw.2
    replace hP : va_P D vwCl (WQ cI h0 h1 h2 h3 h4 h5 (qs_segments u40 (upd (q_segments u40) s1.toNatClampNeg r41))) H := hP
    replace hD : va_D A (WQ cI h0 h1 h2 h3 h4 h5 (qs_segments u40 (upd (q_segments u40) s1.toNatClampNeg r41))) := hD
    refine lv_aload_n hx hb dX6_returnsAndMore_163 rfl (lv_at hl 0 rfl) ?_
    refine va_get (D := D) (ci := 6) (v := .ref h1) (C := RX6) (T := TX6) (N := 29) hx hb hts i_X6 hown hK hP 0 rfl rfl 1 (by decide) f_7 (fun _ h9 => h9) rfl dX6_returnsAndMore_164 ?_
    refine lv_aload_n hx hb dX6_returnsAndMore_167 rfl (lv_at hl 0 rfl) ?_
    refine va_get (D := D) (ci := 6) (v := .int (q_r u40)) (C := RX6) (T := TX6) (N := 29) hx hb hts i_X6 hown hK hP 0 rfl rfl 23 (by decide) f_130 (fun _ h9 => h9) rfl dX6_returnsAndMore_168 ?_
    refine lv_iload_n hx hb dX6_returnsAndMore_171 rfl (lv_at hl 1 rfl) ?_
    refine va_iast hx hb hK hP hD hS 1 1 (f := (q_registers u40)) rfl rfl hw.1 dX6_returnsAndMore_172 (fun H locs hP hD hS => ?_)
    replace hw := hw.2
    replace hP : va_P D vwCl (WQ cI h0 h1 h2 h3 h4 h5 (qs_segments (qs_registers u40 (upd (q_registers u40) (q_r u40).toNatClampNeg x1)) (upd (q_segments u40) s1.toNatClampNeg r41))) H := hP
    replace hD : va_D A (WQ cI h0 h1 h2 h3 h4 h5 (qs_segments (qs_registers u40 (upd (q_registers u40) (q_r u40).toNatClampNeg x1)) (upd (q_segments u40) s1.toNatClampNeg r41))) := hD
    refine lv_goto (tgt := 246) hx hb dX6_returnsAndMore_173 (by decide) ?_
    exact rt_v (wo := (fun v => WQ cI h0 h1 h2 h3 h4 h5 v)) S hr hlk (qs_segments (qs_registers u40 (upd (q_registers u40) (q_r u40).toNatClampNeg x1)) (upd (q_segments u40) s1.toNatClampNeg r41)) hP hS hw dX6_returnsAndMore_246
  have b122 : ∀  (u : SQ) (H : Heap) (locs : List Loc) (ls : Array Slot), va_P D vwCl (WQ cI h0 h1 h2 h3 h4 h5 u) H → va_D A (WQ cI h0 h1 h2 h3 h4 h5 u) → va_S A s.heap H locs → lv_has ls 2 [(0, .ref h0)] → wX6_returnsAndMore_b122  P u → W p l e ({ frames := 4, cells := 0, slots := 0, locals := 89 } : Room) s m ([.ref h0] : List Value).toArray below meth c H locs 0 0 (MQ below (va_Qv P (fun u t => va_P D vwCl (WQ cI h0 h1 h2 h3 h4 h5 u) t.heap) A) ([.ref h0] : List Value).toArray s 0 0 A) (F0 m 122 ls []) := by
    intro u H locs ls hP hD hS hl hw
    unfold wX6_returnsAndMore_b122 at hw
    refine lv_aload_n hx hb dX6_returnsAndMore_122 rfl (lv_at hl 0 rfl) ?_
    refine lv_iconst (v := (1 : Int32)) hx hb dX6_returnsAndMore_123 (by decide) ?_
    refine cl_Vi (As := [.int (1 : Int32)]) (rest := []) (st := [.int (1 : Int32), .ref h0]) S hK hA hP hD hS (fr_Q u) (kcX6_operand l D cB cI h0 h1 h2 h3 h4 h5 H.size (1 : Int32) u _ hw) (cwV 1 hts gX6_returnsAndMore_X6_operand rfl rfl rfl (by decide +kernel) ⟨Nat.le_of_ble_eq_true rfl, Nat.le_of_ble_eq_true rfl⟩) tru_h tru_b 0 rfl rfl rfl rfl rfl hl.1 (Nat.le_of_ble_eq_true rfl) dX6_returnsAndMore_124 ⟨Nat.zero_le _, Nat.zero_le _⟩ (fun r38 u37 H locs hP hD hS hw => ?_)
    replace hP : va_P D vwCl (WQ cI h0 h1 h2 h3 h4 h5 u37) H := hP
    replace hD : va_D A (WQ cI h0 h1 h2 h3 h4 h5 u37) := hD
    refine lv_istore_n (lv' := [(1, .int r38), (0, .ref h0)]) hx hb dX6_returnsAndMore_127 rfl hl (by decide) rfl (fun ls hl => ?_)
    refine lv_aload_n hx hb dX6_returnsAndMore_128 rfl (lv_at hl 1 rfl) ?_
    refine va_get (D := D) (ci := 6) (v := .ref h2) (C := RX6) (T := TX6) (N := 29) hx hb hts i_X6 hown hK hP 0 rfl rfl 2 (by decide) f_13 (fun _ h9 => h9) rfl dX6_returnsAndMore_129 ?_
    refine lv_aload_n hx hb dX6_returnsAndMore_132 rfl (lv_at hl 1 rfl) ?_
    refine va_get (D := D) (ci := 6) (v := .int (q_code u37)) (C := RX6) (T := TX6) (N := 29) hx hb hts i_X6 hown hK hP 0 rfl rfl 21 (by decide) f_148 (fun _ h9 => h9) rfl dX6_returnsAndMore_133 ?_
    refine lv_sipush (v := (196 : Int32)) hx hb dX6_returnsAndMore_136 (by decide) ?_
    refine lv_icmp_ne (tgt := 146) hx hb dX6_returnsAndMore_139 (by decide) (fun c39 => ?_) (fun c39 => ?_)
    · replace hw := hw.2 c39
      refine lv_iconst (v := (3 : Int32)) hx hb dX6_returnsAndMore_146 (by decide) ?_
      exact b147 r38 (3 : Int32) u37 H locs ls hP hD hS (lv_sub hl [1, 0] rfl) hw
    · replace hw := hw.1 c39
      refine lv_iconst (v := (0 : Int32)) hx hb dX6_returnsAndMore_142 (by decide) ?_
      refine lv_goto (tgt := 147) hx hb dX6_returnsAndMore_143 (by decide) ?_
      exact b147 r38 (0 : Int32) u37 H locs ls hP hD hS (lv_sub hl [1, 0] rfl) hw
  have b113 : ∀  (u : SQ) (H : Heap) (locs : List Loc) (ls : Array Slot), va_P D vwCl (WQ cI h0 h1 h2 h3 h4 h5 u) H → va_D A (WQ cI h0 h1 h2 h3 h4 h5 u) → va_S A s.heap H locs → lv_has ls 2 [(0, .ref h0)] → wX6_returnsAndMore_b113  P u → W p l e ({ frames := 4, cells := 0, slots := 0, locals := 89 } : Room) s m ([.ref h0] : List Value).toArray below meth c H locs 0 0 (MQ below (va_Qv P (fun u t => va_P D vwCl (WQ cI h0 h1 h2 h3 h4 h5 u) t.heap) A) ([.ref h0] : List Value).toArray s 0 0 A) (F0 m 113 ls []) := by
    intro u H locs ls hP hD hS hl hw
    unfold wX6_returnsAndMore_b113 at hw
    refine lv_aload_n hx hb dX6_returnsAndMore_113 rfl (lv_at hl 0 rfl) ?_
    refine lv_iconst (v := (1 : Int32)) hx hb dX6_returnsAndMore_114 (by decide) ?_
    refine lv_iconst (v := (0 : Int32)) hx hb dX6_returnsAndMore_115 (by decide) ?_
    refine cl_Vv (As := [.int (1 : Int32), .int (0 : Int32)]) (rest := []) (st := [.int (0 : Int32), .int (1 : Int32), .ref h0]) S hK hA hP hD hS (fr_Q u) (kcX6_returns l D cB cI h0 h1 h2 h3 h4 h5 H.size (1 : Int32) (0 : Int32) u _ hw) (cwV 2 hts gX6_returnsAndMore_X6_returns rfl rfl rfl (by decide +kernel) ⟨Nat.le_of_ble_eq_true rfl, Nat.le_of_ble_eq_true rfl⟩) tru_h tru_b 0 rfl rfl rfl rfl rfl hl.1 (Nat.le_of_ble_eq_true rfl) dX6_returnsAndMore_116 ⟨Nat.zero_le _, Nat.zero_le _⟩ (fun u35 H locs hP hD hS hw => ?_)
    replace hP : va_P D vwCl (WQ cI h0 h1 h2 h3 h4 h5 u35) H := hP
    replace hD : va_D A (WQ cI h0 h1 h2 h3 h4 h5 u35) := hD
    refine lv_goto (tgt := 246) hx hb dX6_returnsAndMore_119 (by decide) ?_
    exact rt_v (wo := (fun v => WQ cI h0 h1 h2 h3 h4 h5 v)) S hr hlk u35 hP hS hw dX6_returnsAndMore_246
  have b101 : ∀  (u : SQ) (H : Heap) (locs : List Loc) (ls : Array Slot), va_P D vwCl (WQ cI h0 h1 h2 h3 h4 h5 u) H → va_D A (WQ cI h0 h1 h2 h3 h4 h5 u) → va_S A s.heap H locs → lv_has ls 2 [(0, .ref h0)] → wX6_returnsAndMore_b101  P u → W p l e ({ frames := 4, cells := 0, slots := 0, locals := 89 } : Room) s m ([.ref h0] : List Value).toArray below meth c H locs 0 0 (MQ below (va_Qv P (fun u t => va_P D vwCl (WQ cI h0 h1 h2 h3 h4 h5 u) t.heap) A) ([.ref h0] : List Value).toArray s 0 0 A) (F0 m 101 ls []) := by
    intro u H locs ls hP hD hS hl hw
    unfold wX6_returnsAndMore_b101 at hw
    refine lv_aload_n hx hb dX6_returnsAndMore_101 rfl (lv_at hl 0 rfl) ?_
    refine lv_iconst (v := (1 : Int32)) hx hb dX6_returnsAndMore_102 (by decide) ?_
    refine lv_aload_n hx hb dX6_returnsAndMore_103 rfl (lv_at hl 0 rfl) ?_
    refine va_get (D := D) (ci := 6) (v := .int (q_i u)) (C := RX6) (T := TX6) (N := 29) hx hb hts i_X6 hown hK hP 0 rfl rfl 27 (by decide) f_164 (fun _ h9 => h9) rfl dX6_returnsAndMore_104 ?_
    refine cl_Vv (As := [.int (1 : Int32), .int (q_i u)]) (rest := []) (st := [.int (q_i u), .int (1 : Int32), .ref h0]) S hK hA hP hD hS (fr_Q u) (kcX6_returns l D cB cI h0 h1 h2 h3 h4 h5 H.size (1 : Int32) (q_i u) u _ hw) (cwV 2 hts gX6_returnsAndMore_X6_returns rfl rfl rfl (by decide +kernel) ⟨Nat.le_of_ble_eq_true rfl, Nat.le_of_ble_eq_true rfl⟩) tru_h tru_b 0 rfl rfl rfl rfl rfl hl.1 (Nat.le_of_ble_eq_true rfl) dX6_returnsAndMore_107 ⟨Nat.zero_le _, Nat.zero_le _⟩ (fun u33 H locs hP hD hS hw => ?_)
    replace hP : va_P D vwCl (WQ cI h0 h1 h2 h3 h4 h5 u33) H := hP
    replace hD : va_D A (WQ cI h0 h1 h2 h3 h4 h5 u33) := hD
    refine lv_goto (tgt := 246) hx hb dX6_returnsAndMore_110 (by decide) ?_
    exact rt_v (wo := (fun v => WQ cI h0 h1 h2 h3 h4 h5 v)) S hr hlk u33 hP hS hw dX6_returnsAndMore_246
  have b92 : ∀  (u : SQ) (H : Heap) (locs : List Loc) (ls : Array Slot), va_P D vwCl (WQ cI h0 h1 h2 h3 h4 h5 u) H → va_D A (WQ cI h0 h1 h2 h3 h4 h5 u) → va_S A s.heap H locs → lv_has ls 2 [(0, .ref h0)] → wX6_returnsAndMore_b92  P u → W p l e ({ frames := 4, cells := 0, slots := 0, locals := 89 } : Room) s m ([.ref h0] : List Value).toArray below meth c H locs 0 0 (MQ below (va_Qv P (fun u t => va_P D vwCl (WQ cI h0 h1 h2 h3 h4 h5 u) t.heap) A) ([.ref h0] : List Value).toArray s 0 0 A) (F0 m 92 ls []) := by
    intro u H locs ls hP hD hS hl hw
    unfold wX6_returnsAndMore_b92 at hw
    refine lv_aload_n hx hb dX6_returnsAndMore_92 rfl (lv_at hl 0 rfl) ?_
    refine lv_iconst (v := (0 : Int32)) hx hb dX6_returnsAndMore_93 (by decide) ?_
    refine lv_iconst (v := (0 : Int32)) hx hb dX6_returnsAndMore_94 (by decide) ?_
    refine cl_Vv (As := [.int (0 : Int32), .int (0 : Int32)]) (rest := []) (st := [.int (0 : Int32), .int (0 : Int32), .ref h0]) S hK hA hP hD hS (fr_Q u) (kcX6_returns l D cB cI h0 h1 h2 h3 h4 h5 H.size (0 : Int32) (0 : Int32) u _ hw) (cwV 2 hts gX6_returnsAndMore_X6_returns rfl rfl rfl (by decide +kernel) ⟨Nat.le_of_ble_eq_true rfl, Nat.le_of_ble_eq_true rfl⟩) tru_h tru_b 0 rfl rfl rfl rfl rfl hl.1 (Nat.le_of_ble_eq_true rfl) dX6_returnsAndMore_95 ⟨Nat.zero_le _, Nat.zero_le _⟩ (fun u31 H locs hP hD hS hw => ?_)
    replace hP : va_P D vwCl (WQ cI h0 h1 h2 h3 h4 h5 u31) H := hP
    replace hD : va_D A (WQ cI h0 h1 h2 h3 h4 h5 u31) := hD
    refine lv_goto (tgt := 246) hx hb dX6_returnsAndMore_98 (by decide) ?_
    exact rt_v (wo := (fun v => WQ cI h0 h1 h2 h3 h4 h5 v)) S hr hlk u31 hP hS hw dX6_returnsAndMore_246
  have b80 : ∀  (u : SQ) (H : Heap) (locs : List Loc) (ls : Array Slot), va_P D vwCl (WQ cI h0 h1 h2 h3 h4 h5 u) H → va_D A (WQ cI h0 h1 h2 h3 h4 h5 u) → va_S A s.heap H locs → lv_has ls 2 [(0, .ref h0)] → wX6_returnsAndMore_b80  P u → W p l e ({ frames := 4, cells := 0, slots := 0, locals := 89 } : Room) s m ([.ref h0] : List Value).toArray below meth c H locs 0 0 (MQ below (va_Qv P (fun u t => va_P D vwCl (WQ cI h0 h1 h2 h3 h4 h5 u) t.heap) A) ([.ref h0] : List Value).toArray s 0 0 A) (F0 m 80 ls []) := by
    intro u H locs ls hP hD hS hl hw
    unfold wX6_returnsAndMore_b80 at hw
    refine lv_aload_n hx hb dX6_returnsAndMore_80 rfl (lv_at hl 0 rfl) ?_
    refine lv_iconst (v := (0 : Int32)) hx hb dX6_returnsAndMore_81 (by decide) ?_
    refine lv_aload_n hx hb dX6_returnsAndMore_82 rfl (lv_at hl 0 rfl) ?_
    refine va_get (D := D) (ci := 6) (v := .int (q_i u)) (C := RX6) (T := TX6) (N := 29) hx hb hts i_X6 hown hK hP 0 rfl rfl 27 (by decide) f_164 (fun _ h9 => h9) rfl dX6_returnsAndMore_83 ?_
    refine cl_Vv (As := [.int (0 : Int32), .int (q_i u)]) (rest := []) (st := [.int (q_i u), .int (0 : Int32), .ref h0]) S hK hA hP hD hS (fr_Q u) (kcX6_returns l D cB cI h0 h1 h2 h3 h4 h5 H.size (0 : Int32) (q_i u) u _ hw) (cwV 2 hts gX6_returnsAndMore_X6_returns rfl rfl rfl (by decide +kernel) ⟨Nat.le_of_ble_eq_true rfl, Nat.le_of_ble_eq_true rfl⟩) tru_h tru_b 0 rfl rfl rfl rfl rfl hl.1 (Nat.le_of_ble_eq_true rfl) dX6_returnsAndMore_86 ⟨Nat.zero_le _, Nat.zero_le _⟩ (fun u29 H locs hP hD hS hw => ?_)
    replace hP : va_P D vwCl (WQ cI h0 h1 h2 h3 h4 h5 u29) H := hP
    replace hD : va_D A (WQ cI h0 h1 h2 h3 h4 h5 u29) := hD
    refine lv_goto (tgt := 246) hx hb dX6_returnsAndMore_89 (by decide) ?_
    exact rt_v (wo := (fun v => WQ cI h0 h1 h2 h3 h4 h5 v)) S hr hlk u29 hP hS hw dX6_returnsAndMore_246
  unfold wX6_returnsAndMore at hw
  obtain ⟨H, eH⟩ : ∃ H, H = s.heap := ⟨_, rfl⟩
  obtain ⟨locs, eL⟩ : ∃ locs : List Loc, locs = [] := ⟨_, rfl⟩
  replace hP : va_P D vwCl (WQ cI h0 h1 h2 h3 h4 h5 u) H := by rw [eH]; exact hP
  replace hS : va_S A s.heap H locs := by rw [eH, eL]; exact hS
  suffices hgo : W p l e ({ frames := 4, cells := 0, slots := 0, locals := 89 } : Room) s m ([.ref h0] : List Value).toArray below meth c H locs 0 0 (MQ below (va_Qv P (fun u t => va_P D vwCl (WQ cI h0 h1 h2 h3 h4 h5 u) t.heap) A) ([.ref h0] : List Value).toArray s 0 0 A) (F0 m 0 ls []) by rw [eH, eL] at hgo; exact hgo
  clear eH eL
  refine lv_aload_n hx hb dX6_returnsAndMore_0 rfl (lv_at hl 0 rfl) ?_
  refine va_get (D := D) (ci := 6) (v := .int (q_code u)) (C := RX6) (T := TX6) (N := 29) hx hb hts i_X6 hown hK hP 0 rfl rfl 21 (by decide) f_148 (fun _ h9 => h9) rfl dX6_returnsAndMore_1 ?_
  by_cases c1 : (q_code u) = (192 : Int32)
  · replace hw := hw.1 c1
    refine lv_tableIn (off := 76) (tgt := 80) hx hb dX6_returnsAndMore_4 (by rw [c1]; decide) (by rw [c1]; decide) (by rw [c1]; rfl) (by decide) ?_
    exact b80 u H locs ls hP hD hS (lv_sub hl [0] rfl) hw
  replace hw := hw.2 c1
  by_cases c2 : (q_code u) = (193 : Int32)
  · replace hw := hw.1 c2
    refine lv_tableIn (off := 88) (tgt := 92) hx hb dX6_returnsAndMore_4 (by rw [c2]; decide) (by rw [c2]; decide) (by rw [c2]; rfl) (by decide) ?_
    exact b92 u H locs ls hP hD hS (lv_sub hl [0] rfl) hw
  replace hw := hw.2 c2
  by_cases c3 : (q_code u) = (194 : Int32)
  · replace hw := hw.1 c3
    refine lv_tableIn (off := 76) (tgt := 80) hx hb dX6_returnsAndMore_4 (by rw [c3]; decide) (by rw [c3]; decide) (by rw [c3]; rfl) (by decide) ?_
    exact b80 u H locs ls hP hD hS (lv_sub hl [0] rfl) hw
  replace hw := hw.2 c3
  by_cases c4 : (q_code u) = (195 : Int32)
  · replace hw := hw.1 c4
    refine lv_tableIn (off := 88) (tgt := 92) hx hb dX6_returnsAndMore_4 (by rw [c4]; decide) (by rw [c4]; decide) (by rw [c4]; rfl) (by decide) ?_
    exact b92 u H locs ls hP hD hS (lv_sub hl [0] rfl) hw
  replace hw := hw.2 c4
  by_cases c5 : (q_code u) = (196 : Int32)
  · replace hw := hw.1 c5
    refine lv_tableIn (off := 118) (tgt := 122) hx hb dX6_returnsAndMore_4 (by rw [c5]; decide) (by rw [c5]; decide) (by rw [c5]; rfl) (by decide) ?_
    exact b122 u H locs ls hP hD hS (lv_sub hl [0] rfl) hw
  replace hw := hw.2 c5
  by_cases c6 : (q_code u) = (197 : Int32)
  · replace hw := hw.1 c6
    refine lv_tableIn (off := 118) (tgt := 122) hx hb dX6_returnsAndMore_4 (by rw [c6]; decide) (by rw [c6]; decide) (by rw [c6]; rfl) (by decide) ?_
    exact b122 u H locs ls hP hD hS (lv_sub hl [0] rfl) hw
  replace hw := hw.2 c6
  by_cases c7 : (q_code u) = (198 : Int32)
  · replace hw := hw.1 c7
    refine lv_tableIn (off := 172) (tgt := 176) hx hb dX6_returnsAndMore_4 (by rw [c7]; decide) (by rw [c7]; decide) (by rw [c7]; rfl) (by decide) ?_
    exact b176 u H locs ls hP hD hS (lv_sub hl [0] rfl) hw
  replace hw := hw.2 c7
  by_cases c8 : (q_code u) = (199 : Int32)
  · replace hw := hw.1 c8
    refine lv_tableIn (off := 172) (tgt := 176) hx hb dX6_returnsAndMore_4 (by rw [c8]; decide) (by rw [c8]; decide) (by rw [c8]; rfl) (by decide) ?_
    exact b176 u H locs ls hP hD hS (lv_sub hl [0] rfl) hw
  replace hw := hw.2 c8
  by_cases c9 : (q_code u) = (200 : Int32)
  · replace hw := hw.1 c9
    refine lv_tableIn (off := 97) (tgt := 101) hx hb dX6_returnsAndMore_4 (by rw [c9]; decide) (by rw [c9]; decide) (by rw [c9]; rfl) (by decide) ?_
    exact b101 u H locs ls hP hD hS (lv_sub hl [0] rfl) hw
  replace hw := hw.2 c9
  by_cases c10 : (q_code u) = (201 : Int32)
  · replace hw := hw.1 c10
    refine lv_tableIn (off := 109) (tgt := 113) hx hb dX6_returnsAndMore_4 (by rw [c10]; decide) (by rw [c10]; decide) (by rw [c10]; rfl) (by decide) ?_
    exact b113 u H locs ls hP hD hS (lv_sub hl [0] rfl) hw
  replace hw := hw.2 c10
  by_cases c11 : (q_code u) = (202 : Int32)
  · replace hw := hw.1 c11
    refine lv_tableIn (off := 97) (tgt := 101) hx hb dX6_returnsAndMore_4 (by rw [c11]; decide) (by rw [c11]; decide) (by rw [c11]; rfl) (by decide) ?_
    exact b101 u H locs ls hP hD hS (lv_sub hl [0] rfl) hw
  replace hw := hw.2 c11
  by_cases c12 : (q_code u) = (203 : Int32)
  · replace hw := hw.1 c12
    refine lv_tableIn (off := 109) (tgt := 113) hx hb dX6_returnsAndMore_4 (by rw [c12]; decide) (by rw [c12]; decide) (by rw [c12]; rfl) (by decide) ?_
    exact b113 u H locs ls hP hD hS (lv_sub hl [0] rfl) hw
  replace hw := hw.2 c12
  by_cases c13 : (q_code u) = (204 : Int32)
  · replace hw := hw.1 c13
    refine lv_tableIn (off := 187) (tgt := 191) hx hb dX6_returnsAndMore_4 (by rw [c13]; decide) (by rw [c13]; decide) (by rw [c13]; rfl) (by decide) ?_
    refine lv_aload_n hx hb dX6_returnsAndMore_191 rfl (lv_at hl 0 rfl) ?_
    refine lv_iconst (v := (3 : Int32)) hx hb dX6_returnsAndMore_192 (by decide) ?_
    refine cl_Vv (As := [.int (3 : Int32)]) (rest := []) (st := [.int (3 : Int32), .ref h0]) S hK hA hP hD hS (fr_Q u) (kcX6_interrupt l D cB cI h0 h1 h2 h3 h4 h5 H.size (3 : Int32) u _ hw) (cwV 1 hts gX6_returnsAndMore_X6_interrupt rfl rfl rfl (by decide +kernel) ⟨Nat.le_of_ble_eq_true rfl, Nat.le_of_ble_eq_true rfl⟩) tru_h tru_b 0 rfl rfl rfl rfl rfl hl.1 (Nat.le_of_ble_eq_true rfl) dX6_returnsAndMore_193 ⟨Nat.zero_le _, Nat.zero_le _⟩ (fun u14 H locs hP hD hS hw => ?_)
    replace hP : va_P D vwCl (WQ cI h0 h1 h2 h3 h4 h5 u14) H := hP
    replace hD : va_D A (WQ cI h0 h1 h2 h3 h4 h5 u14) := hD
    refine lv_goto (tgt := 246) hx hb dX6_returnsAndMore_196 (by decide) ?_
    exact rt_v (wo := (fun v => WQ cI h0 h1 h2 h3 h4 h5 v)) S hr hlk u14 hP hS hw dX6_returnsAndMore_246
  replace hw := hw.2 c13
  by_cases c16 : (q_code u) = (205 : Int32)
  · replace hw := hw.1 c16
    refine lv_tableIn (off := 195) (tgt := 199) hx hb dX6_returnsAndMore_4 (by rw [c16]; decide) (by rw [c16]; decide) (by rw [c16]; rfl) (by decide) ?_
    refine lv_aload_n hx hb dX6_returnsAndMore_199 rfl (lv_at hl 0 rfl) ?_
    refine lv_aload_n hx hb dX6_returnsAndMore_200 rfl (lv_at hl 0 rfl) ?_
    refine va_get (D := D) (ci := 6) (v := .int (q_i u)) (C := RX6) (T := TX6) (N := 29) hx hb hts i_X6 hown hK hP 0 rfl rfl 27 (by decide) f_164 (fun _ h9 => h9) rfl dX6_returnsAndMore_201 ?_
    refine cl_Vv (As := [.int (q_i u)]) (rest := []) (st := [.int (q_i u), .ref h0]) S hK hA hP hD hS (fr_Q u) (kcX6_interrupt l D cB cI h0 h1 h2 h3 h4 h5 H.size (q_i u) u _ hw) (cwV 1 hts gX6_returnsAndMore_X6_interrupt rfl rfl rfl (by decide +kernel) ⟨Nat.le_of_ble_eq_true rfl, Nat.le_of_ble_eq_true rfl⟩) tru_h tru_b 0 rfl rfl rfl rfl rfl hl.1 (Nat.le_of_ble_eq_true rfl) dX6_returnsAndMore_204 ⟨Nat.zero_le _, Nat.zero_le _⟩ (fun u17 H locs hP hD hS hw => ?_)
    replace hP : va_P D vwCl (WQ cI h0 h1 h2 h3 h4 h5 u17) H := hP
    replace hD : va_D A (WQ cI h0 h1 h2 h3 h4 h5 u17) := hD
    refine lv_goto (tgt := 246) hx hb dX6_returnsAndMore_207 (by decide) ?_
    exact rt_v (wo := (fun v => WQ cI h0 h1 h2 h3 h4 h5 v)) S hr hlk u17 hP hS hw dX6_returnsAndMore_246
  replace hw := hw.2 c16
  by_cases c19 : (q_code u) = (206 : Int32)
  · replace hw := hw.1 c19
    refine lv_tableIn (off := 206) (tgt := 210) hx hb dX6_returnsAndMore_4 (by rw [c19]; decide) (by rw [c19]; decide) (by rw [c19]; rfl) (by decide) ?_
    refine lv_aload_n hx hb dX6_returnsAndMore_210 rfl (lv_at hl 0 rfl) ?_
    refine lv_sipush (v := (2048 : Int32)) hx hb dX6_returnsAndMore_211 (by decide) ?_
    refine cl_Vi (As := [.int (2048 : Int32)]) (rest := []) (st := [.int (2048 : Int32), .ref h0]) S hK hA hP hD hS (fr_Q u) (kcX6_has l D cB cI h0 h1 h2 h3 h4 h5 H.size (2048 : Int32) u _ hw) (cwV 1 hts gX6_returnsAndMore_X6_has rfl rfl rfl (by decide +kernel) ⟨Nat.le_of_ble_eq_true rfl, Nat.le_of_ble_eq_true rfl⟩) tru_h tru_b 0 rfl rfl rfl rfl rfl hl.1 (Nat.le_of_ble_eq_true rfl) dX6_returnsAndMore_214 ⟨Nat.zero_le _, Nat.zero_le _⟩ (fun r21 u20 H locs hP hD hS hw => ?_)
    replace hP : va_P D vwCl (WQ cI h0 h1 h2 h3 h4 h5 u20) H := hP
    replace hD : va_D A (WQ cI h0 h1 h2 h3 h4 h5 u20) := hD
    refine lv_if_eq (tgt := 246) hx hb dX6_returnsAndMore_217 (by decide) (fun c22 => ?_) (fun c22 => ?_)
    · replace hw := hw.1 c22
      exact rt_v (wo := (fun v => WQ cI h0 h1 h2 h3 h4 h5 v)) S hr hlk u20 hP hS hw dX6_returnsAndMore_246
    · replace hw := hw.2 c22
      refine lv_aload_n hx hb dX6_returnsAndMore_220 rfl (lv_at hl 0 rfl) ?_
      refine lv_iconst (v := (4 : Int32)) hx hb dX6_returnsAndMore_221 (by decide) ?_
      refine cl_Vv (As := [.int (4 : Int32)]) (rest := []) (st := [.int (4 : Int32), .ref h0]) S hK hA hP hD hS (fr_Q u20) (kcX6_interrupt l D cB cI h0 h1 h2 h3 h4 h5 H.size (4 : Int32) u20 _ hw) (cwV 1 hts gX6_returnsAndMore_X6_interrupt rfl rfl rfl (by decide +kernel) ⟨Nat.le_of_ble_eq_true rfl, Nat.le_of_ble_eq_true rfl⟩) tru_h tru_b 0 rfl rfl rfl rfl rfl hl.1 (Nat.le_of_ble_eq_true rfl) dX6_returnsAndMore_222 ⟨Nat.zero_le _, Nat.zero_le _⟩ (fun u23 H locs hP hD hS hw => ?_)
      replace hP : va_P D vwCl (WQ cI h0 h1 h2 h3 h4 h5 u23) H := hP
      replace hD : va_D A (WQ cI h0 h1 h2 h3 h4 h5 u23) := hD
      refine lv_goto (tgt := 246) hx hb dX6_returnsAndMore_225 (by decide) ?_
      exact rt_v (wo := (fun v => WQ cI h0 h1 h2 h3 h4 h5 v)) S hr hlk u23 hP hS hw dX6_returnsAndMore_246
  replace hw := hw.2 c19
  refine lv_tableOut (tgt := 228) hx hb dX6_returnsAndMore_4 (by have e_c1 : ¬ ((q_code u) : Int32).toInt = 192 := sw_ne c1; have e_c2 : ¬ ((q_code u) : Int32).toInt = 193 := sw_ne c2; have e_c3 : ¬ ((q_code u) : Int32).toInt = 194 := sw_ne c3; have e_c4 : ¬ ((q_code u) : Int32).toInt = 195 := sw_ne c4; have e_c5 : ¬ ((q_code u) : Int32).toInt = 196 := sw_ne c5; have e_c6 : ¬ ((q_code u) : Int32).toInt = 197 := sw_ne c6; have e_c7 : ¬ ((q_code u) : Int32).toInt = 198 := sw_ne c7; have e_c8 : ¬ ((q_code u) : Int32).toInt = 199 := sw_ne c8; have e_c9 : ¬ ((q_code u) : Int32).toInt = 200 := sw_ne c9; have e_c10 : ¬ ((q_code u) : Int32).toInt = 201 := sw_ne c10; have e_c11 : ¬ ((q_code u) : Int32).toInt = 202 := sw_ne c11; have e_c12 : ¬ ((q_code u) : Int32).toInt = 203 := sw_ne c12; have e_c13 : ¬ ((q_code u) : Int32).toInt = 204 := sw_ne c13; have e_c16 : ¬ ((q_code u) : Int32).toInt = 205 := sw_ne c16; have e_c19 : ¬ ((q_code u) : Int32).toInt = 206 := sw_ne c19; omega) (by decide) ?_
  refine lv_aload_n hx hb dX6_returnsAndMore_228 rfl (lv_at hl 0 rfl) ?_
  refine lv_iconst (v := (1 : Int32)) hx hb dX6_returnsAndMore_229 (by decide) ?_
  refine lv_iconst (v := (0 : Int32)) hx hb dX6_returnsAndMore_230 (by decide) ?_
  refine cl_Vv (As := [.int (1 : Int32), .int (0 : Int32)]) (rest := []) (st := [.int (0 : Int32), .int (1 : Int32), .ref h0]) S hK hA hP hD hS (fr_Q u) (kcX6_returns l D cB cI h0 h1 h2 h3 h4 h5 H.size (1 : Int32) (0 : Int32) u _ hw) (cwV 2 hts gX6_returnsAndMore_X6_returns rfl rfl rfl (by decide +kernel) ⟨Nat.le_of_ble_eq_true rfl, Nat.le_of_ble_eq_true rfl⟩) tru_h tru_b 0 rfl rfl rfl rfl rfl hl.1 (Nat.le_of_ble_eq_true rfl) dX6_returnsAndMore_231 ⟨Nat.zero_le _, Nat.zero_le _⟩ (fun u25 H locs hP hD hS hw => ?_)
  replace hP : va_P D vwCl (WQ cI h0 h1 h2 h3 h4 h5 u25) H := hP
  replace hD : va_D A (WQ cI h0 h1 h2 h3 h4 h5 u25) := hD
  refine lv_aload_n hx hb dX6_returnsAndMore_234 rfl (lv_at hl 0 rfl) ?_
  refine lv_aload_n hx hb dX6_returnsAndMore_235 rfl (lv_at hl 0 rfl) ?_
  refine cl_Vi (As := []) (rest := [.ref h0]) (st := [.ref h0, .ref h0]) S hK hA hP hD hS (fr_Q u25) (kcX6_pop l D cB cI h0 h1 h2 h3 h4 h5 H.size  u25 _ hw) (cwV 0 hts gX6_returnsAndMore_X6_pop rfl rfl rfl (by decide +kernel) ⟨Nat.le_of_ble_eq_true rfl, Nat.le_of_ble_eq_true rfl⟩) tru_h tru_b 0 rfl rfl rfl rfl rfl hl.1 (Nat.le_of_ble_eq_true rfl) dX6_returnsAndMore_236 ⟨Nat.zero_le _, Nat.zero_le _⟩ (fun r28 u27 H locs hP hD hS hw => ?_)
  replace hP : va_P D vwCl (WQ cI h0 h1 h2 h3 h4 h5 u27) H := hP
  replace hD : va_D A (WQ cI h0 h1 h2 h3 h4 h5 u27) := hD
  refine lv_sipush (v := (4053 : Int32)) hx hb dX6_returnsAndMore_239 (by decide) ?_
  refine lv_iand hx hb dX6_returnsAndMore_242 ?_
  refine va_put (D := D) (ci := 6) (v := .int (r28 &&& (4053 : Int32))) (ty := .int) (C := RX6) (T := TX6) (N := 29) hx hb hts i_X6 tyX6 tyX6_ok nmX6 hown hK hP hD hS 0 rfl rfl 4 (by decide) f_54 (fun _ h9 => h9) rfl (by decide +kernel) rfl rfl (Nat.le_of_ble_eq_true rfl) dX6_returnsAndMore_243 (fun H locs hP hD hS => ?_)
  replace hP : va_P D vwCl (WQ cI h0 h1 h2 h3 h4 h5 (qs_flags u27 (r28 &&& (4053 : Int32)))) H := hP
  replace hD : va_D A (WQ cI h0 h1 h2 h3 h4 h5 (qs_flags u27 (r28 &&& (4053 : Int32)))) := hD
  exact rt_v (wo := (fun v => WQ cI h0 h1 h2 h3 h4 h5 v)) S hr hlk (qs_flags u27 (r28 &&& (4053 : Int32))) hP hS hw dX6_returnsAndMore_246
-- X6_shiftsAndMore
def wX6_shiftsAndMore_b218  (P : SQ → Prop) (s3 : Int32) (u : SQ) : Prop := (wX6_setRegister (0 : Int32) (0 : Int32) s3 u (fun u32 => (P u32)))
def wX6_shiftsAndMore_b97  (P : SQ → Prop) (x2 : Int32) (u : SQ) : Prop := (((q_code u) = (212 : Int32) → (¬ (q_i u) = (0 : Int32) ∧ (¬ (q_i u) = (0 : Int32) ∧ (vp_in (0 : Int32) 8 ∧ (¬ (q_i u) = (0 : Int32) ∧ (wX6_byAnswer (x2 - x2 / (q_i u) * (q_i u)) (0 : Int32) (qs_registers u (upd (q_registers u) (0 : Int32).toNatClampNeg ((x2 - x2 / (q_i u) * (q_i u)) ||| ((x2 / (q_i u)) <<< ((8 : Int32) &&& 31))))) (fun u30 => (P u30)))))))) ∧ (¬ (q_code u) = (212 : Int32) → (((q_code u) = (213 : Int32) → (vp_in (0 : Int32) 8 ∧ (vp_in (0 : Int32) 8 ∧ (wX6_byAnswer ((((((q_registers u) (0 : Int32).toNatClampNeg) >>> ((8 : Int32) &&& 31)) * (q_i u)) + x2) &&& (255 : Int32)) (0 : Int32) (qs_registers u (upd (q_registers u) (0 : Int32).toNatClampNeg ((((((q_registers u) (0 : Int32).toNatClampNeg) >>> ((8 : Int32) &&& 31)) * (q_i u)) + x2) &&& (255 : Int32)))) (fun u28 => (P u28)))))) ∧ (¬ (q_code u) = (213 : Int32) → (((q_code u) = (214 : Int32) → (wX6_has (1 : Int32) u (fun r26 u25 => ((r26 = (0 : Int32) → (wX6_shiftsAndMore_b218  P (0 : Int32) u25)) ∧ (¬ r26 = (0 : Int32) → (wX6_shiftsAndMore_b218  P (255 : Int32) u25)))))) ∧ (¬ (q_code u) = (214 : Int32) → (((q_code u) = (215 : Int32) → (wX6_segmentOr (3 : Int32) u (fun r20 u19 => (vp_in (3 : Int32) 8 ∧ (wX6_get r20 (((q_registers u19) (3 : Int32).toNatClampNeg) + x2) (0 : Int32) u19 (fun r22 u21 => (wX6_setRegister (0 : Int32) (0 : Int32) r22 u21 (fun u23 => (P u23))))))))) ∧ (¬ (q_code u) = (215 : Int32) → (P u)))))))))
def wX6_shiftsAndMore_b62  (P : SQ → Prop) (x1 : Int32) (s1 : Int32) (s3 : Int32) (s4 : Int32) (s5 : Int32) (u : SQ) : Prop := (wX6_shifts s3 s4 s5 x1 u (fun r12 u11 => (wX6_give s1 r12 u11 (fun u13 => (P u13)))))
def wX6_shiftsAndMore  (u : SQ) (P : SQ → Prop) : Prop := (wX6_isWide  u (fun r2 u1 => (vp_in (0 : Int32) 8 ∧ (((212 : Int32) ≤ (q_code u1) → (((q_code u1) = (212 : Int32) → (((q_i u1) = (0 : Int32) → (wX6_interrupt (0 : Int32) u1 (fun u6 => (P u6)))) ∧ (¬ (q_i u1) = (0 : Int32) → (wX6_shiftsAndMore_b97  P (((q_registers u1) (0 : Int32).toNatClampNeg) &&& (255 : Int32)) u1)))) ∧ (¬ (q_code u1) = (212 : Int32) → (wX6_shiftsAndMore_b97  P (((q_registers u1) (0 : Int32).toNatClampNeg) &&& (255 : Int32)) u1)))) ∧ (¬ (212 : Int32) ≤ (q_code u1) → (wX6_operand r2 u1 (fun r9 u8 => (((210 : Int32) ≤ (q_code u8) → (vp_in (1 : Int32) 8 ∧ (wX6_shiftsAndMore_b62  P r2 r2 (q_r u1) r9 (((q_registers u8) (1 : Int32).toNatClampNeg) &&& (255 : Int32)) u8))) ∧ (¬ (210 : Int32) ≤ (q_code u8) → (wX6_shiftsAndMore_b62  P r2 r2 (q_r u1) r9 (1 : Int32) u8))))))))))
set_option maxHeartbeats 4000000 in
set_option maxRecDepth 100000 in
theorem kcX6_shiftsAndMore (l : Launch) (D : va_G) (cB cI : ClassId) (h0 h1 h2 h3 h4 h5 : Nat) (sz : Nat)  (u : SQ) (P : SQ → Prop) (hw : wX6_shiftsAndMore  u P) : Met l yX6_shiftsAndMore wsX6_shiftsAndMore ({ frames := 4, cells := 0, slots := 0, locals := 104 } : Room) (va_Pc [.ref h0] (Pcw D (tyA cB cI) (WQ cI h0 h1 h2 h3 h4 h5 u) sz Tru)) (va_Qv P (fun u t => va_P D vwCl (WQ cI h0 h1 h2 h3 h4 h5 u) t.heap) (va_A (WQ cI h0 h1 h2 h3 h4 h5 u) sz)) 0 0 (va_A (WQ cI h0 h1 h2 h3 h4 h5 u) sz) := by
  refine en_ (cc := cX6_shiftsAndMore) (maxL := 4) (ret := none) (own := RX6) (lv := [(0, .ref h0)]) (Qf := fun A => va_Qv P (fun u t => va_P D vwCl (WQ cI h0 h1 h2 h3 h4 h5 u) t.heap) A) (by decide) rfl rfl (Nat.le_of_ble_eq_true rfl) rfl ?_
  intro p e s m below meth c A ls S hr hlk hname hsz hP hK hD hA hSub hS hE hl
  have hx := S.1
  have hb := S.2.1
  have hown := S.2.2.2.1
  have hts := S.2.2.2.2
  have i_X6 : ∀ w ∈ u_ws RX6 TX6 29, w ∈ wsX6_shiftsAndMore := by decide +kernel
  have f_7 := hts (.fieldLink RX6 7 "MachineCoreModel" "registers" "[I") (by decide +kernel)
  have f_130 := hts (.fieldLink RX6 130 "MachineCoreModel" "r" "I") (by decide +kernel)
  have f_148 := hts (.fieldLink RX6 148 "MachineCoreModel" "code" "I") (by decide +kernel)
  have f_164 := hts (.fieldLink RX6 164 "MachineCoreModel" "i" "I") (by decide +kernel)
  have b218 : ∀ (s3 : Int32) (u : SQ) (H : Heap) (locs : List Loc) (ls : Array Slot), va_P D vwCl (WQ cI h0 h1 h2 h3 h4 h5 u) H → va_D A (WQ cI h0 h1 h2 h3 h4 h5 u) → va_S A s.heap H locs → lv_has ls 4 [] → wX6_shiftsAndMore_b218  P s3 u → W p l e ({ frames := 4, cells := 0, slots := 0, locals := 104 } : Room) s m ([.ref h0] : List Value).toArray below meth c H locs 0 0 (MQ below (va_Qv P (fun u t => va_P D vwCl (WQ cI h0 h1 h2 h3 h4 h5 u) t.heap) A) ([.ref h0] : List Value).toArray s 0 0 A) (F0 m 218 ls [.int s3, .int (0 : Int32), .int (0 : Int32), .ref h0]) := by
    intro s3 u H locs ls hP hD hS hl hw
    unfold wX6_shiftsAndMore_b218 at hw
    refine cl_Vv (As := [.int (0 : Int32), .int (0 : Int32), .int s3]) (rest := []) (st := [.int s3, .int (0 : Int32), .int (0 : Int32), .ref h0]) S hK hA hP hD hS (fr_Q u) (kcX6_setRegister l D cB cI h0 h1 h2 h3 h4 h5 H.size (0 : Int32) (0 : Int32) s3 u _ hw) (cwV 3 hts gX6_shiftsAndMore_X6_setRegister rfl rfl rfl (by decide +kernel) ⟨Nat.le_of_ble_eq_true rfl, Nat.le_of_ble_eq_true rfl⟩) tru_h tru_b 0 rfl rfl rfl rfl rfl hl.1 (Nat.le_of_ble_eq_true rfl) dX6_shiftsAndMore_218 ⟨Nat.zero_le _, Nat.zero_le _⟩ (fun u32 H locs hP hD hS hw => ?_)
    replace hP : va_P D vwCl (WQ cI h0 h1 h2 h3 h4 h5 u32) H := hP
    replace hD : va_D A (WQ cI h0 h1 h2 h3 h4 h5 u32) := hD
    refine lv_goto (tgt := 258) hx hb dX6_shiftsAndMore_221 (by decide) ?_
    exact rt_v (wo := (fun v => WQ cI h0 h1 h2 h3 h4 h5 v)) S hr hlk u32 hP hS hw dX6_shiftsAndMore_258
  have b97 : ∀ (x2 : Int32) (u : SQ) (H : Heap) (locs : List Loc) (ls : Array Slot), va_P D vwCl (WQ cI h0 h1 h2 h3 h4 h5 u) H → va_D A (WQ cI h0 h1 h2 h3 h4 h5 u) → va_S A s.heap H locs → lv_has ls 4 [(0, .ref h0), (2, .int x2)] → wX6_shiftsAndMore_b97  P x2 u → W p l e ({ frames := 4, cells := 0, slots := 0, locals := 104 } : Room) s m ([.ref h0] : List Value).toArray below meth c H locs 0 0 (MQ below (va_Qv P (fun u t => va_P D vwCl (WQ cI h0 h1 h2 h3 h4 h5 u) t.heap) A) ([.ref h0] : List Value).toArray s 0 0 A) (F0 m 97 ls []) := by
    intro x2 u H locs ls hP hD hS hl hw
    unfold wX6_shiftsAndMore_b97 at hw
    refine lv_aload_n hx hb dX6_shiftsAndMore_97 rfl (lv_at hl 0 rfl) ?_
    refine va_get (D := D) (ci := 6) (v := .int (q_code u)) (C := RX6) (T := TX6) (N := 29) hx hb hts i_X6 hown hK hP 0 rfl rfl 21 (by decide) f_148 (fun _ h9 => h9) rfl dX6_shiftsAndMore_98 ?_
    refine lv_sipush (v := (212 : Int32)) hx hb dX6_shiftsAndMore_101 (by decide) ?_
    refine lv_icmp_ne (tgt := 143) hx hb dX6_shiftsAndMore_104 (by decide) (fun c15 => ?_) (fun c15 => ?_)
    · replace hw := hw.2 c15
      refine lv_aload_n hx hb dX6_shiftsAndMore_143 rfl (lv_at hl 0 rfl) ?_
      refine va_get (D := D) (ci := 6) (v := .int (q_code u)) (C := RX6) (T := TX6) (N := 29) hx hb hts i_X6 hown hK hP 0 rfl rfl 21 (by decide) f_148 (fun _ h9 => h9) rfl dX6_shiftsAndMore_144 ?_
      refine lv_sipush (v := (213 : Int32)) hx hb dX6_shiftsAndMore_147 (by decide) ?_
      refine lv_icmp_ne (tgt := 190) hx hb dX6_shiftsAndMore_150 (by decide) (fun c16 => ?_) (fun c16 => ?_)
      · replace hw := hw.2 c16
        refine lv_aload_n hx hb dX6_shiftsAndMore_190 rfl (lv_at hl 0 rfl) ?_
        refine va_get (D := D) (ci := 6) (v := .int (q_code u)) (C := RX6) (T := TX6) (N := 29) hx hb hts i_X6 hown hK hP 0 rfl rfl 21 (by decide) f_148 (fun _ h9 => h9) rfl dX6_shiftsAndMore_191 ?_
        refine lv_sipush (v := (214 : Int32)) hx hb dX6_shiftsAndMore_194 (by decide) ?_
        refine lv_icmp_ne (tgt := 224) hx hb dX6_shiftsAndMore_197 (by decide) (fun c17 => ?_) (fun c17 => ?_)
        · replace hw := hw.2 c17
          refine lv_aload_n hx hb dX6_shiftsAndMore_224 rfl (lv_at hl 0 rfl) ?_
          refine va_get (D := D) (ci := 6) (v := .int (q_code u)) (C := RX6) (T := TX6) (N := 29) hx hb hts i_X6 hown hK hP 0 rfl rfl 21 (by decide) f_148 (fun _ h9 => h9) rfl dX6_shiftsAndMore_225 ?_
          refine lv_sipush (v := (215 : Int32)) hx hb dX6_shiftsAndMore_228 (by decide) ?_
          refine lv_icmp_ne (tgt := 258) hx hb dX6_shiftsAndMore_231 (by decide) (fun c18 => ?_) (fun c18 => ?_)
          · replace hw := hw.2 c18
            exact rt_v (wo := (fun v => WQ cI h0 h1 h2 h3 h4 h5 v)) S hr hlk u hP hS hw dX6_shiftsAndMore_258
          · replace hw := hw.1 c18
            refine lv_aload_n hx hb dX6_shiftsAndMore_234 rfl (lv_at hl 0 rfl) ?_
            refine lv_iconst (v := (0 : Int32)) hx hb dX6_shiftsAndMore_235 (by decide) ?_
            refine lv_iconst (v := (0 : Int32)) hx hb dX6_shiftsAndMore_236 (by decide) ?_
            refine lv_aload_n hx hb dX6_shiftsAndMore_237 rfl (lv_at hl 0 rfl) ?_
            refine lv_aload_n hx hb dX6_shiftsAndMore_238 rfl (lv_at hl 0 rfl) ?_
            refine lv_iconst (v := (3 : Int32)) hx hb dX6_shiftsAndMore_239 (by decide) ?_
            refine cl_Vi (As := [.int (3 : Int32)]) (rest := [.ref h0, .int (0 : Int32), .int (0 : Int32), .ref h0]) (st := [.int (3 : Int32), .ref h0, .ref h0, .int (0 : Int32), .int (0 : Int32), .ref h0]) S hK hA hP hD hS (fr_Q u) (kcX6_segmentOr l D cB cI h0 h1 h2 h3 h4 h5 H.size (3 : Int32) u _ hw) (cwV 1 hts gX6_shiftsAndMore_X6_segmentOr rfl rfl rfl (by decide +kernel) ⟨Nat.le_of_ble_eq_true rfl, Nat.le_of_ble_eq_true rfl⟩) tru_h tru_b 0 rfl rfl rfl rfl rfl hl.1 (Nat.le_of_ble_eq_true rfl) dX6_shiftsAndMore_240 ⟨Nat.zero_le _, Nat.zero_le _⟩ (fun r20 u19 H locs hP hD hS hw => ?_)
            replace hP : va_P D vwCl (WQ cI h0 h1 h2 h3 h4 h5 u19) H := hP
            replace hD : va_D A (WQ cI h0 h1 h2 h3 h4 h5 u19) := hD
            refine lv_aload_n hx hb dX6_shiftsAndMore_243 rfl (lv_at hl 0 rfl) ?_
            refine va_get (D := D) (ci := 6) (v := .ref h1) (C := RX6) (T := TX6) (N := 29) hx hb hts i_X6 hown hK hP 0 rfl rfl 1 (by decide) f_7 (fun _ h9 => h9) rfl dX6_shiftsAndMore_244 ?_
            refine lv_iconst (v := (3 : Int32)) hx hb dX6_shiftsAndMore_247 (by decide) ?_
            refine va_iald hx hb hK hP 1 1 (f := (q_registers u19)) rfl rfl hw.1 dX6_shiftsAndMore_248 ?_
            replace hw := hw.2
            refine lv_iload_n hx hb dX6_shiftsAndMore_249 rfl (lv_at hl 1 rfl) ?_
            refine lv_iadd hx hb dX6_shiftsAndMore_250 ?_
            refine lv_iconst (v := (0 : Int32)) hx hb dX6_shiftsAndMore_251 (by decide) ?_
            refine cl_Vi (As := [.int r20, .int (((q_registers u19) (3 : Int32).toNatClampNeg) + x2), .int (0 : Int32)]) (rest := [.int (0 : Int32), .int (0 : Int32), .ref h0]) (st := [.int (0 : Int32), .int (((q_registers u19) (3 : Int32).toNatClampNeg) + x2), .int r20, .ref h0, .int (0 : Int32), .int (0 : Int32), .ref h0]) S hK hA hP hD hS (fr_Q u19) (kcX6_get l D cB cI h0 h1 h2 h3 h4 h5 H.size r20 (((q_registers u19) (3 : Int32).toNatClampNeg) + x2) (0 : Int32) u19 _ hw) (cwV 3 hts gX6_shiftsAndMore_X6_get rfl rfl rfl (by decide +kernel) ⟨Nat.le_of_ble_eq_true rfl, Nat.le_of_ble_eq_true rfl⟩) tru_h tru_b 0 rfl rfl rfl rfl rfl hl.1 (Nat.le_of_ble_eq_true rfl) dX6_shiftsAndMore_252 ⟨Nat.zero_le _, Nat.zero_le _⟩ (fun r22 u21 H locs hP hD hS hw => ?_)
            replace hP : va_P D vwCl (WQ cI h0 h1 h2 h3 h4 h5 u21) H := hP
            replace hD : va_D A (WQ cI h0 h1 h2 h3 h4 h5 u21) := hD
            refine cl_Vv (As := [.int (0 : Int32), .int (0 : Int32), .int r22]) (rest := []) (st := [.int r22, .int (0 : Int32), .int (0 : Int32), .ref h0]) S hK hA hP hD hS (fr_Q u21) (kcX6_setRegister l D cB cI h0 h1 h2 h3 h4 h5 H.size (0 : Int32) (0 : Int32) r22 u21 _ hw) (cwV 3 hts gX6_shiftsAndMore_X6_setRegister rfl rfl rfl (by decide +kernel) ⟨Nat.le_of_ble_eq_true rfl, Nat.le_of_ble_eq_true rfl⟩) tru_h tru_b 0 rfl rfl rfl rfl rfl hl.1 (Nat.le_of_ble_eq_true rfl) dX6_shiftsAndMore_255 ⟨Nat.zero_le _, Nat.zero_le _⟩ (fun u23 H locs hP hD hS hw => ?_)
            replace hP : va_P D vwCl (WQ cI h0 h1 h2 h3 h4 h5 u23) H := hP
            replace hD : va_D A (WQ cI h0 h1 h2 h3 h4 h5 u23) := hD
            exact rt_v (wo := (fun v => WQ cI h0 h1 h2 h3 h4 h5 v)) S hr hlk u23 hP hS hw dX6_shiftsAndMore_258
        · replace hw := hw.1 c17
          refine lv_aload_n hx hb dX6_shiftsAndMore_200 rfl (lv_at hl 0 rfl) ?_
          refine lv_iconst (v := (0 : Int32)) hx hb dX6_shiftsAndMore_201 (by decide) ?_
          refine lv_iconst (v := (0 : Int32)) hx hb dX6_shiftsAndMore_202 (by decide) ?_
          refine lv_aload_n hx hb dX6_shiftsAndMore_203 rfl (lv_at hl 0 rfl) ?_
          refine lv_iconst (v := (1 : Int32)) hx hb dX6_shiftsAndMore_204 (by decide) ?_
          refine cl_Vi (As := [.int (1 : Int32)]) (rest := [.int (0 : Int32), .int (0 : Int32), .ref h0]) (st := [.int (1 : Int32), .ref h0, .int (0 : Int32), .int (0 : Int32), .ref h0]) S hK hA hP hD hS (fr_Q u) (kcX6_has l D cB cI h0 h1 h2 h3 h4 h5 H.size (1 : Int32) u _ hw) (cwV 1 hts gX6_shiftsAndMore_X6_has rfl rfl rfl (by decide +kernel) ⟨Nat.le_of_ble_eq_true rfl, Nat.le_of_ble_eq_true rfl⟩) tru_h tru_b 0 rfl rfl rfl rfl rfl hl.1 (Nat.le_of_ble_eq_true rfl) dX6_shiftsAndMore_205 ⟨Nat.zero_le _, Nat.zero_le _⟩ (fun r26 u25 H locs hP hD hS hw => ?_)
          replace hP : va_P D vwCl (WQ cI h0 h1 h2 h3 h4 h5 u25) H := hP
          replace hD : va_D A (WQ cI h0 h1 h2 h3 h4 h5 u25) := hD
          refine lv_if_eq (tgt := 217) hx hb dX6_shiftsAndMore_208 (by decide) (fun c27 => ?_) (fun c27 => ?_)
          · replace hw := hw.1 c27
            refine lv_iconst (v := (0 : Int32)) hx hb dX6_shiftsAndMore_217 (by decide) ?_
            exact b218 (0 : Int32) u25 H locs ls hP hD hS (lv_sub hl [] rfl) hw
          · replace hw := hw.2 c27
            refine lv_sipush (v := (255 : Int32)) hx hb dX6_shiftsAndMore_211 (by decide) ?_
            refine lv_goto (tgt := 218) hx hb dX6_shiftsAndMore_214 (by decide) ?_
            exact b218 (255 : Int32) u25 H locs ls hP hD hS (lv_sub hl [] rfl) hw
      · replace hw := hw.1 c16
        refine lv_aload_n hx hb dX6_shiftsAndMore_153 rfl (lv_at hl 0 rfl) ?_
        refine va_get (D := D) (ci := 6) (v := .ref h1) (C := RX6) (T := TX6) (N := 29) hx hb hts i_X6 hown hK hP 0 rfl rfl 1 (by decide) f_7 (fun _ h9 => h9) rfl dX6_shiftsAndMore_154 ?_
        refine lv_iconst (v := (0 : Int32)) hx hb dX6_shiftsAndMore_157 (by decide) ?_
        refine va_iald hx hb hK hP 1 1 (f := (q_registers u)) rfl rfl hw.1 dX6_shiftsAndMore_158 ?_
        replace hw := hw.2
        refine lv_bipush (v := (8 : Int32)) hx hb dX6_shiftsAndMore_159 (by decide) ?_
        refine lv_ishr hx hb dX6_shiftsAndMore_161 ?_
        refine lv_aload_n hx hb dX6_shiftsAndMore_162 rfl (lv_at hl 0 rfl) ?_
        refine va_get (D := D) (ci := 6) (v := .int (q_i u)) (C := RX6) (T := TX6) (N := 29) hx hb hts i_X6 hown hK hP 0 rfl rfl 27 (by decide) f_164 (fun _ h9 => h9) rfl dX6_shiftsAndMore_163 ?_
        refine lv_imul hx hb dX6_shiftsAndMore_166 ?_
        refine lv_iload_n hx hb dX6_shiftsAndMore_167 rfl (lv_at hl 1 rfl) ?_
        refine lv_iadd hx hb dX6_shiftsAndMore_168 ?_
        refine lv_sipush (v := (255 : Int32)) hx hb dX6_shiftsAndMore_169 (by decide) ?_
        refine lv_iand hx hb dX6_shiftsAndMore_172 ?_
        refine lv_istore_n (lv' := [(3, .int ((((((q_registers u) (0 : Int32).toNatClampNeg) >>> ((8 : Int32) &&& 31)) * (q_i u)) + x2) &&& (255 : Int32))), (0, .ref h0), (2, .int x2)]) hx hb dX6_shiftsAndMore_173 rfl hl (by decide) rfl (fun ls hl => ?_)
        refine lv_aload_n hx hb dX6_shiftsAndMore_174 rfl (lv_at hl 1 rfl) ?_
        refine va_get (D := D) (ci := 6) (v := .ref h1) (C := RX6) (T := TX6) (N := 29) hx hb hts i_X6 hown hK hP 0 rfl rfl 1 (by decide) f_7 (fun _ h9 => h9) rfl dX6_shiftsAndMore_175 ?_
        refine lv_iconst (v := (0 : Int32)) hx hb dX6_shiftsAndMore_178 (by decide) ?_
        refine lv_iload_n hx hb dX6_shiftsAndMore_179 rfl (lv_at hl 0 rfl) ?_
        refine va_iast hx hb hK hP hD hS 1 1 (f := (q_registers u)) rfl rfl hw.1 dX6_shiftsAndMore_180 (fun H locs hP hD hS => ?_)
        replace hw := hw.2
        replace hP : va_P D vwCl (WQ cI h0 h1 h2 h3 h4 h5 (qs_registers u (upd (q_registers u) (0 : Int32).toNatClampNeg ((((((q_registers u) (0 : Int32).toNatClampNeg) >>> ((8 : Int32) &&& 31)) * (q_i u)) + x2) &&& (255 : Int32))))) H := hP
        replace hD : va_D A (WQ cI h0 h1 h2 h3 h4 h5 (qs_registers u (upd (q_registers u) (0 : Int32).toNatClampNeg ((((((q_registers u) (0 : Int32).toNatClampNeg) >>> ((8 : Int32) &&& 31)) * (q_i u)) + x2) &&& (255 : Int32))))) := hD
        refine lv_aload_n hx hb dX6_shiftsAndMore_181 rfl (lv_at hl 1 rfl) ?_
        refine lv_iload_n hx hb dX6_shiftsAndMore_182 rfl (lv_at hl 0 rfl) ?_
        refine lv_iconst (v := (0 : Int32)) hx hb dX6_shiftsAndMore_183 (by decide) ?_
        refine cl_Vv (As := [.int ((((((q_registers u) (0 : Int32).toNatClampNeg) >>> ((8 : Int32) &&& 31)) * (q_i u)) + x2) &&& (255 : Int32)), .int (0 : Int32)]) (rest := []) (st := [.int (0 : Int32), .int ((((((q_registers u) (0 : Int32).toNatClampNeg) >>> ((8 : Int32) &&& 31)) * (q_i u)) + x2) &&& (255 : Int32)), .ref h0]) S hK hA hP hD hS (fr_Q (qs_registers u (upd (q_registers u) (0 : Int32).toNatClampNeg ((((((q_registers u) (0 : Int32).toNatClampNeg) >>> ((8 : Int32) &&& 31)) * (q_i u)) + x2) &&& (255 : Int32))))) (kcX6_byAnswer l D cB cI h0 h1 h2 h3 h4 h5 H.size ((((((q_registers u) (0 : Int32).toNatClampNeg) >>> ((8 : Int32) &&& 31)) * (q_i u)) + x2) &&& (255 : Int32)) (0 : Int32) (qs_registers u (upd (q_registers u) (0 : Int32).toNatClampNeg ((((((q_registers u) (0 : Int32).toNatClampNeg) >>> ((8 : Int32) &&& 31)) * (q_i u)) + x2) &&& (255 : Int32)))) _ hw) (cwV 2 hts gX6_shiftsAndMore_X6_byAnswer rfl rfl rfl (by decide +kernel) ⟨Nat.le_of_ble_eq_true rfl, Nat.le_of_ble_eq_true rfl⟩) tru_h tru_b 0 rfl rfl rfl rfl rfl hl.1 (Nat.le_of_ble_eq_true rfl) dX6_shiftsAndMore_184 ⟨Nat.zero_le _, Nat.zero_le _⟩ (fun u28 H locs hP hD hS hw => ?_)
        replace hP : va_P D vwCl (WQ cI h0 h1 h2 h3 h4 h5 u28) H := hP
        replace hD : va_D A (WQ cI h0 h1 h2 h3 h4 h5 u28) := hD
        refine lv_goto (tgt := 258) hx hb dX6_shiftsAndMore_187 (by decide) ?_
        exact rt_v (wo := (fun v => WQ cI h0 h1 h2 h3 h4 h5 v)) S hr hlk u28 hP hS hw dX6_shiftsAndMore_258
    · replace hw := hw.1 c15
      refine lv_aload_n hx hb dX6_shiftsAndMore_107 rfl (lv_at hl 0 rfl) ?_
      refine va_get (D := D) (ci := 6) (v := .ref h1) (C := RX6) (T := TX6) (N := 29) hx hb hts i_X6 hown hK hP 0 rfl rfl 1 (by decide) f_7 (fun _ h9 => h9) rfl dX6_shiftsAndMore_108 ?_
      refine lv_iconst (v := (0 : Int32)) hx hb dX6_shiftsAndMore_111 (by decide) ?_
      refine lv_iload_n hx hb dX6_shiftsAndMore_112 rfl (lv_at hl 1 rfl) ?_
      refine lv_aload_n hx hb dX6_shiftsAndMore_113 rfl (lv_at hl 0 rfl) ?_
      refine va_get (D := D) (ci := 6) (v := .int (q_i u)) (C := RX6) (T := TX6) (N := 29) hx hb hts i_X6 hown hK hP 0 rfl rfl 27 (by decide) f_164 (fun _ h9 => h9) rfl dX6_shiftsAndMore_114 ?_
      refine lv_irem hx hb dX6_shiftsAndMore_117 hw.1 ?_
      replace hw := hw.2
      refine lv_iload_n hx hb dX6_shiftsAndMore_118 rfl (lv_at hl 1 rfl) ?_
      refine lv_aload_n hx hb dX6_shiftsAndMore_119 rfl (lv_at hl 0 rfl) ?_
      refine va_get (D := D) (ci := 6) (v := .int (q_i u)) (C := RX6) (T := TX6) (N := 29) hx hb hts i_X6 hown hK hP 0 rfl rfl 27 (by decide) f_164 (fun _ h9 => h9) rfl dX6_shiftsAndMore_120 ?_
      refine lv_idiv hx hb dX6_shiftsAndMore_123 hw.1 ?_
      replace hw := hw.2
      refine lv_bipush (v := (8 : Int32)) hx hb dX6_shiftsAndMore_124 (by decide) ?_
      refine lv_ishl hx hb dX6_shiftsAndMore_126 ?_
      refine lv_ior hx hb dX6_shiftsAndMore_127 ?_
      refine va_iast hx hb hK hP hD hS 1 1 (f := (q_registers u)) rfl rfl hw.1 dX6_shiftsAndMore_128 (fun H locs hP hD hS => ?_)
      replace hw := hw.2
      replace hP : va_P D vwCl (WQ cI h0 h1 h2 h3 h4 h5 (qs_registers u (upd (q_registers u) (0 : Int32).toNatClampNeg ((x2 - x2 / (q_i u) * (q_i u)) ||| ((x2 / (q_i u)) <<< ((8 : Int32) &&& 31)))))) H := hP
      replace hD : va_D A (WQ cI h0 h1 h2 h3 h4 h5 (qs_registers u (upd (q_registers u) (0 : Int32).toNatClampNeg ((x2 - x2 / (q_i u) * (q_i u)) ||| ((x2 / (q_i u)) <<< ((8 : Int32) &&& 31)))))) := hD
      refine lv_aload_n hx hb dX6_shiftsAndMore_129 rfl (lv_at hl 0 rfl) ?_
      refine lv_iload_n hx hb dX6_shiftsAndMore_130 rfl (lv_at hl 1 rfl) ?_
      refine lv_aload_n hx hb dX6_shiftsAndMore_131 rfl (lv_at hl 0 rfl) ?_
      refine va_get (D := D) (ci := 6) (v := .int (q_i u)) (C := RX6) (T := TX6) (N := 29) hx hb hts i_X6 hown hK hP 0 rfl rfl 27 (by decide) f_164 (fun _ h9 => h9) rfl dX6_shiftsAndMore_132 ?_
      refine lv_irem hx hb dX6_shiftsAndMore_135 hw.1 ?_
      replace hw := hw.2
      refine lv_iconst (v := (0 : Int32)) hx hb dX6_shiftsAndMore_136 (by decide) ?_
      refine cl_Vv (As := [.int (x2 - x2 / (q_i u) * (q_i u)), .int (0 : Int32)]) (rest := []) (st := [.int (0 : Int32), .int (x2 - x2 / (q_i u) * (q_i u)), .ref h0]) S hK hA hP hD hS (fr_Q (qs_registers u (upd (q_registers u) (0 : Int32).toNatClampNeg ((x2 - x2 / (q_i u) * (q_i u)) ||| ((x2 / (q_i u)) <<< ((8 : Int32) &&& 31)))))) (kcX6_byAnswer l D cB cI h0 h1 h2 h3 h4 h5 H.size (x2 - x2 / (q_i u) * (q_i u)) (0 : Int32) (qs_registers u (upd (q_registers u) (0 : Int32).toNatClampNeg ((x2 - x2 / (q_i u) * (q_i u)) ||| ((x2 / (q_i u)) <<< ((8 : Int32) &&& 31))))) _ hw) (cwV 2 hts gX6_shiftsAndMore_X6_byAnswer rfl rfl rfl (by decide +kernel) ⟨Nat.le_of_ble_eq_true rfl, Nat.le_of_ble_eq_true rfl⟩) tru_h tru_b 0 rfl rfl rfl rfl rfl hl.1 (Nat.le_of_ble_eq_true rfl) dX6_shiftsAndMore_137 ⟨Nat.zero_le _, Nat.zero_le _⟩ (fun u30 H locs hP hD hS hw => ?_)
      replace hP : va_P D vwCl (WQ cI h0 h1 h2 h3 h4 h5 u30) H := hP
      replace hD : va_D A (WQ cI h0 h1 h2 h3 h4 h5 u30) := hD
      refine lv_goto (tgt := 258) hx hb dX6_shiftsAndMore_140 (by decide) ?_
      exact rt_v (wo := (fun v => WQ cI h0 h1 h2 h3 h4 h5 v)) S hr hlk u30 hP hS hw dX6_shiftsAndMore_258
  have b62 : ∀ (x1 : Int32) (s1 : Int32) (s3 : Int32) (s4 : Int32) (s5 : Int32) (u : SQ) (H : Heap) (locs : List Loc) (ls : Array Slot), va_P D vwCl (WQ cI h0 h1 h2 h3 h4 h5 u) H → va_D A (WQ cI h0 h1 h2 h3 h4 h5 u) → va_S A s.heap H locs → lv_has ls 4 [(1, .int x1)] → wX6_shiftsAndMore_b62  P x1 s1 s3 s4 s5 u → W p l e ({ frames := 4, cells := 0, slots := 0, locals := 104 } : Room) s m ([.ref h0] : List Value).toArray below meth c H locs 0 0 (MQ below (va_Qv P (fun u t => va_P D vwCl (WQ cI h0 h1 h2 h3 h4 h5 u) t.heap) A) ([.ref h0] : List Value).toArray s 0 0 A) (F0 m 62 ls [.int s5, .int s4, .int s3, .ref h0, .int s1, .ref h0]) := by
    intro x1 s1 s3 s4 s5 u H locs ls hP hD hS hl hw
    unfold wX6_shiftsAndMore_b62 at hw
    refine lv_iload_n hx hb dX6_shiftsAndMore_62 rfl (lv_at hl 0 rfl) ?_
    refine cl_Vi (As := [.int s3, .int s4, .int s5, .int x1]) (rest := [.int s1, .ref h0]) (st := [.int x1, .int s5, .int s4, .int s3, .ref h0, .int s1, .ref h0]) S hK hA hP hD hS (fr_Q u) (kcX6_shifts l D cB cI h0 h1 h2 h3 h4 h5 H.size s3 s4 s5 x1 u _ hw) (cwV 4 hts gX6_shiftsAndMore_X6_shifts rfl rfl rfl (by decide +kernel) ⟨Nat.le_of_ble_eq_true rfl, Nat.le_of_ble_eq_true rfl⟩) tru_h tru_b 0 rfl rfl rfl rfl rfl hl.1 (Nat.le_of_ble_eq_true rfl) dX6_shiftsAndMore_63 ⟨Nat.zero_le _, Nat.zero_le _⟩ (fun r12 u11 H locs hP hD hS hw => ?_)
    replace hP : va_P D vwCl (WQ cI h0 h1 h2 h3 h4 h5 u11) H := hP
    replace hD : va_D A (WQ cI h0 h1 h2 h3 h4 h5 u11) := hD
    refine cl_Vv (As := [.int s1, .int r12]) (rest := []) (st := [.int r12, .int s1, .ref h0]) S hK hA hP hD hS (fr_Q u11) (kcX6_give l D cB cI h0 h1 h2 h3 h4 h5 H.size s1 r12 u11 _ hw) (cwV 2 hts gX6_shiftsAndMore_X6_give rfl rfl rfl (by decide +kernel) ⟨Nat.le_of_ble_eq_true rfl, Nat.le_of_ble_eq_true rfl⟩) tru_h tru_b 0 rfl rfl rfl rfl rfl hl.1 (Nat.le_of_ble_eq_true rfl) dX6_shiftsAndMore_66 ⟨Nat.zero_le _, Nat.zero_le _⟩ (fun u13 H locs hP hD hS hw => ?_)
    replace hP : va_P D vwCl (WQ cI h0 h1 h2 h3 h4 h5 u13) H := hP
    replace hD : va_D A (WQ cI h0 h1 h2 h3 h4 h5 u13) := hD
    refine lv_goto (tgt := 258) hx hb dX6_shiftsAndMore_69 (by decide) ?_
    exact rt_v (wo := (fun v => WQ cI h0 h1 h2 h3 h4 h5 v)) S hr hlk u13 hP hS hw dX6_shiftsAndMore_258
  unfold wX6_shiftsAndMore at hw
  obtain ⟨H, eH⟩ : ∃ H, H = s.heap := ⟨_, rfl⟩
  obtain ⟨locs, eL⟩ : ∃ locs : List Loc, locs = [] := ⟨_, rfl⟩
  replace hP : va_P D vwCl (WQ cI h0 h1 h2 h3 h4 h5 u) H := by rw [eH]; exact hP
  replace hS : va_S A s.heap H locs := by rw [eH, eL]; exact hS
  suffices hgo : W p l e ({ frames := 4, cells := 0, slots := 0, locals := 104 } : Room) s m ([.ref h0] : List Value).toArray below meth c H locs 0 0 (MQ below (va_Qv P (fun u t => va_P D vwCl (WQ cI h0 h1 h2 h3 h4 h5 u) t.heap) A) ([.ref h0] : List Value).toArray s 0 0 A) (F0 m 0 ls []) by rw [eH, eL] at hgo; exact hgo
  clear eH eL
  refine lv_aload_n hx hb dX6_shiftsAndMore_0 rfl (lv_at hl 0 rfl) ?_
  refine cl_Vi (As := []) (rest := []) (st := [.ref h0]) S hK hA hP hD hS (fr_Q u) (kcX6_isWide l D cB cI h0 h1 h2 h3 h4 h5 H.size  u _ hw) (cwV 0 hts gX6_shiftsAndMore_X6_isWide rfl rfl rfl (by decide +kernel) ⟨Nat.le_of_ble_eq_true rfl, Nat.le_of_ble_eq_true rfl⟩) tru_h tru_b 0 rfl rfl rfl rfl rfl hl.1 (Nat.le_of_ble_eq_true rfl) dX6_shiftsAndMore_1 ⟨Nat.zero_le _, Nat.zero_le _⟩ (fun r2 u1 H locs hP hD hS hw => ?_)
  replace hP : va_P D vwCl (WQ cI h0 h1 h2 h3 h4 h5 u1) H := hP
  replace hD : va_D A (WQ cI h0 h1 h2 h3 h4 h5 u1) := hD
  refine lv_istore_n (lv' := [(1, .int r2), (0, .ref h0)]) hx hb dX6_shiftsAndMore_4 rfl hl (by decide) rfl (fun ls hl => ?_)
  refine lv_aload_n hx hb dX6_shiftsAndMore_5 rfl (lv_at hl 1 rfl) ?_
  refine va_get (D := D) (ci := 6) (v := .ref h1) (C := RX6) (T := TX6) (N := 29) hx hb hts i_X6 hown hK hP 0 rfl rfl 1 (by decide) f_7 (fun _ h9 => h9) rfl dX6_shiftsAndMore_6 ?_
  refine lv_iconst (v := (0 : Int32)) hx hb dX6_shiftsAndMore_9 (by decide) ?_
  refine va_iald hx hb hK hP 1 1 (f := (q_registers u1)) rfl rfl hw.1 dX6_shiftsAndMore_10 ?_
  replace hw := hw.2
  refine lv_sipush (v := (255 : Int32)) hx hb dX6_shiftsAndMore_11 (by decide) ?_
  refine lv_iand hx hb dX6_shiftsAndMore_14 ?_
  refine lv_istore_n (lv' := [(2, .int (((q_registers u1) (0 : Int32).toNatClampNeg) &&& (255 : Int32))), (1, .int r2), (0, .ref h0)]) hx hb dX6_shiftsAndMore_15 rfl hl (by decide) rfl (fun ls hl => ?_)
  refine lv_aload_n hx hb dX6_shiftsAndMore_16 rfl (lv_at hl 2 rfl) ?_
  refine va_get (D := D) (ci := 6) (v := .int (q_code u1)) (C := RX6) (T := TX6) (N := 29) hx hb hts i_X6 hown hK hP 0 rfl rfl 21 (by decide) f_148 (fun _ h9 => h9) rfl dX6_shiftsAndMore_17 ?_
  refine lv_sipush (v := (212 : Int32)) hx hb dX6_shiftsAndMore_20 (by decide) ?_
  refine lv_icmp_ge (tgt := 72) hx hb dX6_shiftsAndMore_23 (by decide) (fun c3 => ?_) (fun c3 => ?_)
  · replace hw := hw.1 c3
    refine lv_aload_n hx hb dX6_shiftsAndMore_72 rfl (lv_at hl 2 rfl) ?_
    refine va_get (D := D) (ci := 6) (v := .int (q_code u1)) (C := RX6) (T := TX6) (N := 29) hx hb hts i_X6 hown hK hP 0 rfl rfl 21 (by decide) f_148 (fun _ h9 => h9) rfl dX6_shiftsAndMore_73 ?_
    refine lv_sipush (v := (212 : Int32)) hx hb dX6_shiftsAndMore_76 (by decide) ?_
    refine lv_icmp_ne (tgt := 97) hx hb dX6_shiftsAndMore_79 (by decide) (fun c4 => ?_) (fun c4 => ?_)
    · replace hw := hw.2 c4
      exact b97 (((q_registers u1) (0 : Int32).toNatClampNeg) &&& (255 : Int32)) u1 H locs ls hP hD hS (lv_sub hl [2, 0] rfl) hw
    · replace hw := hw.1 c4
      refine lv_aload_n hx hb dX6_shiftsAndMore_82 rfl (lv_at hl 2 rfl) ?_
      refine va_get (D := D) (ci := 6) (v := .int (q_i u1)) (C := RX6) (T := TX6) (N := 29) hx hb hts i_X6 hown hK hP 0 rfl rfl 27 (by decide) f_164 (fun _ h9 => h9) rfl dX6_shiftsAndMore_83 ?_
      refine lv_if_ne (tgt := 97) hx hb dX6_shiftsAndMore_86 (by decide) (fun c5 => ?_) (fun c5 => ?_)
      · replace hw := hw.2 c5
        exact b97 (((q_registers u1) (0 : Int32).toNatClampNeg) &&& (255 : Int32)) u1 H locs ls hP hD hS (lv_sub hl [2, 0] rfl) hw
      · replace hw := hw.1 c5
        refine lv_aload_n hx hb dX6_shiftsAndMore_89 rfl (lv_at hl 2 rfl) ?_
        refine lv_iconst (v := (0 : Int32)) hx hb dX6_shiftsAndMore_90 (by decide) ?_
        refine cl_Vv (As := [.int (0 : Int32)]) (rest := []) (st := [.int (0 : Int32), .ref h0]) S hK hA hP hD hS (fr_Q u1) (kcX6_interrupt l D cB cI h0 h1 h2 h3 h4 h5 H.size (0 : Int32) u1 _ hw) (cwV 1 hts gX6_shiftsAndMore_X6_interrupt rfl rfl rfl (by decide +kernel) ⟨Nat.le_of_ble_eq_true rfl, Nat.le_of_ble_eq_true rfl⟩) tru_h tru_b 0 rfl rfl rfl rfl rfl hl.1 (Nat.le_of_ble_eq_true rfl) dX6_shiftsAndMore_91 ⟨Nat.zero_le _, Nat.zero_le _⟩ (fun u6 H locs hP hD hS hw => ?_)
        replace hP : va_P D vwCl (WQ cI h0 h1 h2 h3 h4 h5 u6) H := hP
        replace hD : va_D A (WQ cI h0 h1 h2 h3 h4 h5 u6) := hD
        refine lv_goto (tgt := 258) hx hb dX6_shiftsAndMore_94 (by decide) ?_
        exact rt_v (wo := (fun v => WQ cI h0 h1 h2 h3 h4 h5 v)) S hr hlk u6 hP hS hw dX6_shiftsAndMore_258
  · replace hw := hw.2 c3
    refine lv_aload_n hx hb dX6_shiftsAndMore_26 rfl (lv_at hl 2 rfl) ?_
    refine lv_iload_n hx hb dX6_shiftsAndMore_27 rfl (lv_at hl 1 rfl) ?_
    refine lv_aload_n hx hb dX6_shiftsAndMore_28 rfl (lv_at hl 2 rfl) ?_
    refine lv_aload_n hx hb dX6_shiftsAndMore_29 rfl (lv_at hl 2 rfl) ?_
    refine va_get (D := D) (ci := 6) (v := .int (q_r u1)) (C := RX6) (T := TX6) (N := 29) hx hb hts i_X6 hown hK hP 0 rfl rfl 23 (by decide) f_130 (fun _ h9 => h9) rfl dX6_shiftsAndMore_30 ?_
    refine lv_aload_n hx hb dX6_shiftsAndMore_33 rfl (lv_at hl 2 rfl) ?_
    refine lv_iload_n hx hb dX6_shiftsAndMore_34 rfl (lv_at hl 1 rfl) ?_
    refine cl_Vi (As := [.int r2]) (rest := [.int (q_r u1), .ref h0, .int r2, .ref h0]) (st := [.int r2, .ref h0, .int (q_r u1), .ref h0, .int r2, .ref h0]) S hK hA hP hD hS (fr_Q u1) (kcX6_operand l D cB cI h0 h1 h2 h3 h4 h5 H.size r2 u1 _ hw) (cwV 1 hts gX6_shiftsAndMore_X6_operand rfl rfl rfl (by decide +kernel) ⟨Nat.le_of_ble_eq_true rfl, Nat.le_of_ble_eq_true rfl⟩) tru_h tru_b 0 rfl rfl rfl rfl rfl hl.1 (Nat.le_of_ble_eq_true rfl) dX6_shiftsAndMore_35 ⟨Nat.zero_le _, Nat.zero_le _⟩ (fun r9 u8 H locs hP hD hS hw => ?_)
    replace hP : va_P D vwCl (WQ cI h0 h1 h2 h3 h4 h5 u8) H := hP
    replace hD : va_D A (WQ cI h0 h1 h2 h3 h4 h5 u8) := hD
    refine lv_aload_n hx hb dX6_shiftsAndMore_38 rfl (lv_at hl 2 rfl) ?_
    refine va_get (D := D) (ci := 6) (v := .int (q_code u8)) (C := RX6) (T := TX6) (N := 29) hx hb hts i_X6 hown hK hP 0 rfl rfl 21 (by decide) f_148 (fun _ h9 => h9) rfl dX6_shiftsAndMore_39 ?_
    refine lv_sipush (v := (210 : Int32)) hx hb dX6_shiftsAndMore_42 (by decide) ?_
    refine lv_icmp_ge (tgt := 52) hx hb dX6_shiftsAndMore_45 (by decide) (fun c10 => ?_) (fun c10 => ?_)
    · replace hw := hw.1 c10
      refine lv_aload_n hx hb dX6_shiftsAndMore_52 rfl (lv_at hl 2 rfl) ?_
      refine va_get (D := D) (ci := 6) (v := .ref h1) (C := RX6) (T := TX6) (N := 29) hx hb hts i_X6 hown hK hP 0 rfl rfl 1 (by decide) f_7 (fun _ h9 => h9) rfl dX6_shiftsAndMore_53 ?_
      refine lv_iconst (v := (1 : Int32)) hx hb dX6_shiftsAndMore_56 (by decide) ?_
      refine va_iald hx hb hK hP 1 1 (f := (q_registers u8)) rfl rfl hw.1 dX6_shiftsAndMore_57 ?_
      replace hw := hw.2
      refine lv_sipush (v := (255 : Int32)) hx hb dX6_shiftsAndMore_58 (by decide) ?_
      refine lv_iand hx hb dX6_shiftsAndMore_61 ?_
      exact b62 r2 r2 (q_r u1) r9 (((q_registers u8) (1 : Int32).toNatClampNeg) &&& (255 : Int32)) u8 H locs ls hP hD hS (lv_sub hl [1] rfl) hw
    · replace hw := hw.2 c10
      refine lv_iconst (v := (1 : Int32)) hx hb dX6_shiftsAndMore_48 (by decide) ?_
      refine lv_goto (tgt := 62) hx hb dX6_shiftsAndMore_49 (by decide) ?_
      exact b62 r2 r2 (q_r u1) r9 (1 : Int32) u8 H locs ls hP hD hS (lv_sub hl [1] rfl) hw
-- X6_inPort
def wX6_inPort (a1 : Int32) (a2 : Int32) (u : SQ) (P : Int32 → SQ → Prop) : Prop := ((a2 = (0 : Int32) → (vp_in (a1 &&& (255 : Int32)) 256 ∧ (P ((q_ports u) (a1 &&& (255 : Int32)).toNatClampNeg) u))) ∧ (¬ a2 = (0 : Int32) → (vp_in (a1 &&& (255 : Int32)) 256 ∧ (vp_in ((a1 + (1 : Int32)) &&& (255 : Int32)) 256 ∧ (P (((q_ports u) (a1 &&& (255 : Int32)).toNatClampNeg) ||| (((q_ports u) ((a1 + (1 : Int32)) &&& (255 : Int32)).toNatClampNeg) <<< ((8 : Int32) &&& 31))) u)))))
set_option maxHeartbeats 4000000 in
set_option maxRecDepth 100000 in
theorem kcX6_inPort (l : Launch) (D : va_G) (cB cI : ClassId) (h0 h1 h2 h3 h4 h5 : Nat) (sz : Nat) (a1 : Int32) (a2 : Int32) (u : SQ) (P : Int32 → SQ → Prop) (hw : wX6_inPort a1 a2 u P) : Met l yX6_inPort wsX6_inPort ({ frames := 0, cells := 0, slots := 0, locals := 0 } : Room) (va_Pc [.ref h0, .int a1, .int a2] (Pcw D (tyA cB cI) (WQ cI h0 h1 h2 h3 h4 h5 u) sz Tru)) (va_Qi P (fun u t => va_P D vwCl (WQ cI h0 h1 h2 h3 h4 h5 u) t.heap) (va_A (WQ cI h0 h1 h2 h3 h4 h5 u) sz)) 0 0 (va_A (WQ cI h0 h1 h2 h3 h4 h5 u) sz) := by
  refine en_ (cc := cX6_inPort) (maxL := 3) (ret := (some .int)) (own := RX6) (lv := [(0, .ref h0), (1, .int a1), (2, .int a2)]) (Qf := fun A => va_Qi P (fun u t => va_P D vwCl (WQ cI h0 h1 h2 h3 h4 h5 u) t.heap) A) (by decide) rfl rfl (Nat.le_of_ble_eq_true rfl) rfl ?_
  intro p e s m below meth c A ls S hr hlk hname hsz hP hK hD hA hSub hS hE hl
  have hx := S.1
  have hb := S.2.1
  have hown := S.2.2.2.1
  have hts := S.2.2.2.2
  have i_X6 : ∀ w ∈ u_ws RX6 TX6 29, w ∈ wsX6_inPort := by decide +kernel
  have f_23 := hts (.fieldLink RX6 23 "MachineCoreModel" "ports" "[I") (by decide +kernel)
  unfold wX6_inPort at hw
  obtain ⟨H, eH⟩ : ∃ H, H = s.heap := ⟨_, rfl⟩
  obtain ⟨locs, eL⟩ : ∃ locs : List Loc, locs = [] := ⟨_, rfl⟩
  replace hP : va_P D vwCl (WQ cI h0 h1 h2 h3 h4 h5 u) H := by rw [eH]; exact hP
  replace hS : va_S A s.heap H locs := by rw [eH, eL]; exact hS
  suffices hgo : W p l e ({ frames := 0, cells := 0, slots := 0, locals := 0 } : Room) s m ([.ref h0, .int a1, .int a2] : List Value).toArray below meth c H locs 0 0 (MQ below (va_Qi P (fun u t => va_P D vwCl (WQ cI h0 h1 h2 h3 h4 h5 u) t.heap) A) ([.ref h0, .int a1, .int a2] : List Value).toArray s 0 0 A) (F0 m 0 ls []) by rw [eH, eL] at hgo; exact hgo
  clear eH eL
  refine lv_iload_n hx hb dX6_inPort_0 rfl (lv_at hl 2 rfl) ?_
  refine lv_if_eq (tgt := 33) hx hb dX6_inPort_1 (by decide) (fun c1 => ?_) (fun c1 => ?_)
  · replace hw := hw.1 c1
    refine lv_aload_n hx hb dX6_inPort_33 rfl (lv_at hl 0 rfl) ?_
    refine va_get (D := D) (ci := 6) (v := .ref h5) (C := RX6) (T := TX6) (N := 29) hx hb hts i_X6 hown hK hP 0 rfl rfl 9 (by decide) f_23 (fun _ h9 => h9) rfl dX6_inPort_34 ?_
    refine lv_iload_n hx hb dX6_inPort_37 rfl (lv_at hl 1 rfl) ?_
    refine lv_sipush (v := (255 : Int32)) hx hb dX6_inPort_38 (by decide) ?_
    refine lv_iand hx hb dX6_inPort_41 ?_
    refine va_iald hx hb hK hP 5 1 (f := (q_ports u)) rfl rfl hw.1 dX6_inPort_42 ?_
    replace hw := hw.2
    exact rt_i (wo := (fun v => WQ cI h0 h1 h2 h3 h4 h5 v)) S hr hlk u hP hS hw dX6_inPort_43
  · replace hw := hw.2 c1
    refine lv_aload_n hx hb dX6_inPort_4 rfl (lv_at hl 0 rfl) ?_
    refine va_get (D := D) (ci := 6) (v := .ref h5) (C := RX6) (T := TX6) (N := 29) hx hb hts i_X6 hown hK hP 0 rfl rfl 9 (by decide) f_23 (fun _ h9 => h9) rfl dX6_inPort_5 ?_
    refine lv_iload_n hx hb dX6_inPort_8 rfl (lv_at hl 1 rfl) ?_
    refine lv_sipush (v := (255 : Int32)) hx hb dX6_inPort_9 (by decide) ?_
    refine lv_iand hx hb dX6_inPort_12 ?_
    refine va_iald hx hb hK hP 5 1 (f := (q_ports u)) rfl rfl hw.1 dX6_inPort_13 ?_
    replace hw := hw.2
    refine lv_aload_n hx hb dX6_inPort_14 rfl (lv_at hl 0 rfl) ?_
    refine va_get (D := D) (ci := 6) (v := .ref h5) (C := RX6) (T := TX6) (N := 29) hx hb hts i_X6 hown hK hP 0 rfl rfl 9 (by decide) f_23 (fun _ h9 => h9) rfl dX6_inPort_15 ?_
    refine lv_iload_n hx hb dX6_inPort_18 rfl (lv_at hl 1 rfl) ?_
    refine lv_iconst (v := (1 : Int32)) hx hb dX6_inPort_19 (by decide) ?_
    refine lv_iadd hx hb dX6_inPort_20 ?_
    refine lv_sipush (v := (255 : Int32)) hx hb dX6_inPort_21 (by decide) ?_
    refine lv_iand hx hb dX6_inPort_24 ?_
    refine va_iald hx hb hK hP 5 1 (f := (q_ports u)) rfl rfl hw.1 dX6_inPort_25 ?_
    replace hw := hw.2
    refine lv_bipush (v := (8 : Int32)) hx hb dX6_inPort_26 (by decide) ?_
    refine lv_ishl hx hb dX6_inPort_28 ?_
    refine lv_ior hx hb dX6_inPort_29 ?_
    refine lv_goto (tgt := 43) hx hb dX6_inPort_30 (by decide) ?_
    exact rt_i (wo := (fun v => WQ cI h0 h1 h2 h3 h4 h5 v)) S hr hlk u hP hS hw dX6_inPort_43
-- X6_outPort
def wX6_outPort (a1 : Int32) (a2 : Int32) (u : SQ) (P : SQ → Prop) : Prop := (vp_in (0 : Int32) 8 ∧ (vp_in (a1 &&& (255 : Int32)) 256 ∧ ((a2 = (0 : Int32) → (P (qs_ports u (upd (q_ports u) (a1 &&& (255 : Int32)).toNatClampNeg (((q_registers u) (0 : Int32).toNatClampNeg) &&& (255 : Int32)))))) ∧ (¬ a2 = (0 : Int32) → (vp_in (0 : Int32) 8 ∧ (vp_in ((a1 + (1 : Int32)) &&& (255 : Int32)) 256 ∧ (P (qs_ports u (upd (upd (q_ports u) (a1 &&& (255 : Int32)).toNatClampNeg (((q_registers u) (0 : Int32).toNatClampNeg) &&& (255 : Int32))) ((a1 + (1 : Int32)) &&& (255 : Int32)).toNatClampNeg (((q_registers u) (0 : Int32).toNatClampNeg) >>> ((8 : Int32) &&& 31)))))))))))
set_option maxHeartbeats 4000000 in
set_option maxRecDepth 100000 in
theorem kcX6_outPort (l : Launch) (D : va_G) (cB cI : ClassId) (h0 h1 h2 h3 h4 h5 : Nat) (sz : Nat) (a1 : Int32) (a2 : Int32) (u : SQ) (P : SQ → Prop) (hw : wX6_outPort a1 a2 u P) : Met l yX6_outPort wsX6_outPort ({ frames := 0, cells := 0, slots := 0, locals := 0 } : Room) (va_Pc [.ref h0, .int a1, .int a2] (Pcw D (tyA cB cI) (WQ cI h0 h1 h2 h3 h4 h5 u) sz Tru)) (va_Qv P (fun u t => va_P D vwCl (WQ cI h0 h1 h2 h3 h4 h5 u) t.heap) (va_A (WQ cI h0 h1 h2 h3 h4 h5 u) sz)) 0 0 (va_A (WQ cI h0 h1 h2 h3 h4 h5 u) sz) := by
  refine en_ (cc := cX6_outPort) (maxL := 3) (ret := none) (own := RX6) (lv := [(0, .ref h0), (1, .int a1), (2, .int a2)]) (Qf := fun A => va_Qv P (fun u t => va_P D vwCl (WQ cI h0 h1 h2 h3 h4 h5 u) t.heap) A) (by decide) rfl rfl (Nat.le_of_ble_eq_true rfl) rfl ?_
  intro p e s m below meth c A ls S hr hlk hname hsz hP hK hD hA hSub hS hE hl
  have hx := S.1
  have hb := S.2.1
  have hown := S.2.2.2.1
  have hts := S.2.2.2.2
  have i_X6 : ∀ w ∈ u_ws RX6 TX6 29, w ∈ wsX6_outPort := by decide +kernel
  have f_7 := hts (.fieldLink RX6 7 "MachineCoreModel" "registers" "[I") (by decide +kernel)
  have f_23 := hts (.fieldLink RX6 23 "MachineCoreModel" "ports" "[I") (by decide +kernel)
  unfold wX6_outPort at hw
  obtain ⟨H, eH⟩ : ∃ H, H = s.heap := ⟨_, rfl⟩
  obtain ⟨locs, eL⟩ : ∃ locs : List Loc, locs = [] := ⟨_, rfl⟩
  replace hP : va_P D vwCl (WQ cI h0 h1 h2 h3 h4 h5 u) H := by rw [eH]; exact hP
  replace hS : va_S A s.heap H locs := by rw [eH, eL]; exact hS
  suffices hgo : W p l e ({ frames := 0, cells := 0, slots := 0, locals := 0 } : Room) s m ([.ref h0, .int a1, .int a2] : List Value).toArray below meth c H locs 0 0 (MQ below (va_Qv P (fun u t => va_P D vwCl (WQ cI h0 h1 h2 h3 h4 h5 u) t.heap) A) ([.ref h0, .int a1, .int a2] : List Value).toArray s 0 0 A) (F0 m 0 ls []) by rw [eH, eL] at hgo; exact hgo
  clear eH eL
  refine lv_aload_n hx hb dX6_outPort_0 rfl (lv_at hl 0 rfl) ?_
  refine va_get (D := D) (ci := 6) (v := .ref h5) (C := RX6) (T := TX6) (N := 29) hx hb hts i_X6 hown hK hP 0 rfl rfl 9 (by decide) f_23 (fun _ h9 => h9) rfl dX6_outPort_1 ?_
  refine lv_iload_n hx hb dX6_outPort_4 rfl (lv_at hl 1 rfl) ?_
  refine lv_sipush (v := (255 : Int32)) hx hb dX6_outPort_5 (by decide) ?_
  refine lv_iand hx hb dX6_outPort_8 ?_
  refine lv_aload_n hx hb dX6_outPort_9 rfl (lv_at hl 0 rfl) ?_
  refine va_get (D := D) (ci := 6) (v := .ref h1) (C := RX6) (T := TX6) (N := 29) hx hb hts i_X6 hown hK hP 0 rfl rfl 1 (by decide) f_7 (fun _ h9 => h9) rfl dX6_outPort_10 ?_
  refine lv_iconst (v := (0 : Int32)) hx hb dX6_outPort_13 (by decide) ?_
  refine va_iald hx hb hK hP 1 1 (f := (q_registers u)) rfl rfl hw.1 dX6_outPort_14 ?_
  replace hw := hw.2
  refine lv_sipush (v := (255 : Int32)) hx hb dX6_outPort_15 (by decide) ?_
  refine lv_iand hx hb dX6_outPort_18 ?_
  refine va_iast hx hb hK hP hD hS 5 1 (f := (q_ports u)) rfl rfl hw.1 dX6_outPort_19 (fun H locs hP hD hS => ?_)
  replace hw := hw.2
  replace hP : va_P D vwCl (WQ cI h0 h1 h2 h3 h4 h5 (qs_ports u (upd (q_ports u) (a1 &&& (255 : Int32)).toNatClampNeg (((q_registers u) (0 : Int32).toNatClampNeg) &&& (255 : Int32))))) H := hP
  replace hD : va_D A (WQ cI h0 h1 h2 h3 h4 h5 (qs_ports u (upd (q_ports u) (a1 &&& (255 : Int32)).toNatClampNeg (((q_registers u) (0 : Int32).toNatClampNeg) &&& (255 : Int32))))) := hD
  refine lv_iload_n hx hb dX6_outPort_20 rfl (lv_at hl 2 rfl) ?_
  refine lv_if_eq (tgt := 45) hx hb dX6_outPort_21 (by decide) (fun c1 => ?_) (fun c1 => ?_)
  · replace hw := hw.1 c1
    exact rt_v (wo := (fun v => WQ cI h0 h1 h2 h3 h4 h5 v)) S hr hlk (qs_ports u (upd (q_ports u) (a1 &&& (255 : Int32)).toNatClampNeg (((q_registers u) (0 : Int32).toNatClampNeg) &&& (255 : Int32)))) hP hS hw dX6_outPort_45
  · replace hw := hw.2 c1
    refine lv_aload_n hx hb dX6_outPort_24 rfl (lv_at hl 0 rfl) ?_
    refine va_get (D := D) (ci := 6) (v := .ref h5) (C := RX6) (T := TX6) (N := 29) hx hb hts i_X6 hown hK hP 0 rfl rfl 9 (by decide) f_23 (fun _ h9 => h9) rfl dX6_outPort_25 ?_
    refine lv_iload_n hx hb dX6_outPort_28 rfl (lv_at hl 1 rfl) ?_
    refine lv_iconst (v := (1 : Int32)) hx hb dX6_outPort_29 (by decide) ?_
    refine lv_iadd hx hb dX6_outPort_30 ?_
    refine lv_sipush (v := (255 : Int32)) hx hb dX6_outPort_31 (by decide) ?_
    refine lv_iand hx hb dX6_outPort_34 ?_
    refine lv_aload_n hx hb dX6_outPort_35 rfl (lv_at hl 0 rfl) ?_
    refine va_get (D := D) (ci := 6) (v := .ref h1) (C := RX6) (T := TX6) (N := 29) hx hb hts i_X6 hown hK hP 0 rfl rfl 1 (by decide) f_7 (fun _ h9 => h9) rfl dX6_outPort_36 ?_
    refine lv_iconst (v := (0 : Int32)) hx hb dX6_outPort_39 (by decide) ?_
    refine va_iald hx hb hK hP 1 1 (f := (q_registers u)) rfl rfl hw.1 dX6_outPort_40 ?_
    replace hw := hw.2
    refine lv_bipush (v := (8 : Int32)) hx hb dX6_outPort_41 (by decide) ?_
    refine lv_ishr hx hb dX6_outPort_43 ?_
    refine va_iast hx hb hK hP hD hS 5 1 (f := (upd (q_ports u) (a1 &&& (255 : Int32)).toNatClampNeg (((q_registers u) (0 : Int32).toNatClampNeg) &&& (255 : Int32)))) rfl rfl hw.1 dX6_outPort_44 (fun H locs hP hD hS => ?_)
    replace hw := hw.2
    replace hP : va_P D vwCl (WQ cI h0 h1 h2 h3 h4 h5 (qs_ports u (upd (upd (q_ports u) (a1 &&& (255 : Int32)).toNatClampNeg (((q_registers u) (0 : Int32).toNatClampNeg) &&& (255 : Int32))) ((a1 + (1 : Int32)) &&& (255 : Int32)).toNatClampNeg (((q_registers u) (0 : Int32).toNatClampNeg) >>> ((8 : Int32) &&& 31))))) H := hP
    replace hD : va_D A (WQ cI h0 h1 h2 h3 h4 h5 (qs_ports u (upd (upd (q_ports u) (a1 &&& (255 : Int32)).toNatClampNeg (((q_registers u) (0 : Int32).toNatClampNeg) &&& (255 : Int32))) ((a1 + (1 : Int32)) &&& (255 : Int32)).toNatClampNeg (((q_registers u) (0 : Int32).toNatClampNeg) >>> ((8 : Int32) &&& 31))))) := hD
    exact rt_v (wo := (fun v => WQ cI h0 h1 h2 h3 h4 h5 v)) S hr hlk (qs_ports u (upd (upd (q_ports u) (a1 &&& (255 : Int32)).toNatClampNeg (((q_registers u) (0 : Int32).toNatClampNeg) &&& (255 : Int32))) ((a1 + (1 : Int32)) &&& (255 : Int32)).toNatClampNeg (((q_registers u) (0 : Int32).toNatClampNeg) >>> ((8 : Int32) &&& 31)))) hP hS hw dX6_outPort_45
-- X6_loopsAndPorts
def wX6_loopsAndPorts_b281  (P : SQ → Prop)  (u : SQ) : Prop := (wX6_jump (q_i u) u (fun u33 => (P u33)))
def wX6_loopsAndPorts_b223  (P : SQ → Prop) (x1 : Int32) (x2 : Int32) (u : SQ) : Prop := (wX6_outPort x2 x1 u (fun u31 => (P u31)))
def wX6_loopsAndPorts_b188  (P : SQ → Prop) (x1 : Int32) (x2 : Int32) (u : SQ) : Prop := (wX6_inPort x2 x1 u (fun r28 u27 => (wX6_setRegister (0 : Int32) x1 r28 u27 (fun u29 => (P u29)))))
def wX6_loopsAndPorts_b152  (P : SQ → Prop) (s1 : Int32) (u : SQ) : Prop := (wX6_jump s1 u (fun u25 => (P u25)))
def wX6_loopsAndPorts_b118  (P : SQ → Prop) (s1 : Int32) (u : SQ) : Prop := (wX6_jump s1 u (fun u23 => (P u23)))
def wX6_loopsAndPorts_b117  (P : SQ → Prop)  (u : SQ) : Prop := (wX6_loopsAndPorts_b118  P (0 : Int32) u)
def wX6_loopsAndPorts_b95  (P : SQ → Prop) (s0 : Int32) (u : SQ) : Prop := (vp_in (1 : Int32) 8 ∧ ((((q_registers u) (1 : Int32).toNatClampNeg) = (0 : Int32) → (wX6_loopsAndPorts_b117  P u)) ∧ (¬ ((q_registers u) (1 : Int32).toNatClampNeg) = (0 : Int32) → ((s0 = (0 : Int32) → (wX6_loopsAndPorts_b117  P u)) ∧ (¬ s0 = (0 : Int32) → (wX6_loopsAndPorts_b118  P (q_i u) u))))))
def wX6_loopsAndPorts_b90  (P : SQ → Prop)  (u : SQ) : Prop := (wX6_loopsAndPorts_b95  P (1 : Int32) u)
def wX6_loopsAndPorts_b87  (P : SQ → Prop) (s0 : Int32) (s1 : Int32) (u : SQ) : Prop := ((s0 = s1 → (wX6_loopsAndPorts_b90  P u)) ∧ (¬ s0 = s1 → (wX6_loopsAndPorts_b95  P (0 : Int32) u)))
def wX6_loopsAndPorts_b28  (P : SQ → Prop) (x1 : Int32) (s0 : Int32) (u : SQ) : Prop := (((227 : Int32) ≤ (q_code u) → (((q_code u) = (227 : Int32) → (vp_in (1 : Int32) 8 ∧ ((((q_registers u) (1 : Int32).toNatClampNeg) = (0 : Int32) → (wX6_loopsAndPorts_b152  P (q_i u) u)) ∧ (¬ ((q_registers u) (1 : Int32).toNatClampNeg) = (0 : Int32) → (wX6_loopsAndPorts_b152  P (0 : Int32) u))))) ∧ (¬ (q_code u) = (227 : Int32) → (((q_code u) < (230 : Int32) → (wX6_loopsAndPorts_b188  P x1 s0 u)) ∧ (¬ (q_code u) < (230 : Int32) → (((q_code u) = (236 : Int32) → (wX6_loopsAndPorts_b188  P x1 s0 u)) ∧ (¬ (q_code u) = (236 : Int32) → (((q_code u) = (237 : Int32) → (wX6_loopsAndPorts_b188  P x1 s0 u)) ∧ (¬ (q_code u) = (237 : Int32) → (((q_code u) < (232 : Int32) → (wX6_loopsAndPorts_b223  P x1 s0 u)) ∧ (¬ (q_code u) < (232 : Int32) → (((q_code u) ≤ (237 : Int32) → (((q_code u) = (234 : Int32) → (vp_in (1 : Int32) 4 ∧ (P (qs_ip (qs_segments u (upd (q_segments u) (1 : Int32).toNatClampNeg (q_j u))) (q_i u))))) ∧ (¬ (q_code u) = (234 : Int32) → (((q_code u) = (232 : Int32) → (wX6_push (q_ip u) u (fun u13 => (wX6_loopsAndPorts_b281  P u13)))) ∧ (¬ (q_code u) = (232 : Int32) → (wX6_loopsAndPorts_b281  P u)))))) ∧ (¬ (q_code u) ≤ (237 : Int32) → (wX6_loopsAndPorts_b223  P x1 s0 u)))))))))))))) ∧ (¬ (227 : Int32) ≤ (q_code u) → (vp_in (1 : Int32) 8 ∧ (vp_in (1 : Int32) 8 ∧ (((q_code u) = (226 : Int32) → (wX6_loopsAndPorts_b90  P (qs_registers u (upd (q_registers u) (1 : Int32).toNatClampNeg ((((q_registers u) (1 : Int32).toNatClampNeg) - (1 : Int32)) &&& (65535 : Int32)))))) ∧ (¬ (q_code u) = (226 : Int32) → (wX6_has (64 : Int32) (qs_registers u (upd (q_registers u) (1 : Int32).toNatClampNeg ((((q_registers u) (1 : Int32).toNatClampNeg) - (1 : Int32)) &&& (65535 : Int32)))) (fun r18 u17 => (((q_code u17) = (225 : Int32) → (wX6_loopsAndPorts_b87  P r18 (1 : Int32) u17)) ∧ (¬ (q_code u17) = (225 : Int32) → (wX6_loopsAndPorts_b87  P r18 (0 : Int32) u17)))))))))))
def wX6_loopsAndPorts  (u : SQ) (P : SQ → Prop) : Prop := (wX6_isWide  u (fun r2 u1 => (((232 : Int32) ≤ (q_code u1) → (vp_in (2 : Int32) 8 ∧ (wX6_loopsAndPorts_b28  P r2 ((q_registers u1) (2 : Int32).toNatClampNeg) u1))) ∧ (¬ (232 : Int32) ≤ (q_code u1) → (wX6_loopsAndPorts_b28  P r2 (q_i u1) u1)))))
set_option maxHeartbeats 4000000 in
set_option maxRecDepth 100000 in
theorem kcX6_loopsAndPorts (l : Launch) (D : va_G) (cB cI : ClassId) (h0 h1 h2 h3 h4 h5 : Nat) (sz : Nat)  (u : SQ) (P : SQ → Prop) (hw : wX6_loopsAndPorts  u P) : Met l yX6_loopsAndPorts wsX6_loopsAndPorts ({ frames := 3, cells := 0, slots := 0, locals := 67 } : Room) (va_Pc [.ref h0] (Pcw D (tyA cB cI) (WQ cI h0 h1 h2 h3 h4 h5 u) sz Tru)) (va_Qv P (fun u t => va_P D vwCl (WQ cI h0 h1 h2 h3 h4 h5 u) t.heap) (va_A (WQ cI h0 h1 h2 h3 h4 h5 u) sz)) 0 0 (va_A (WQ cI h0 h1 h2 h3 h4 h5 u) sz) := by
  refine en_ (cc := cX6_loopsAndPorts) (maxL := 4) (ret := none) (own := RX6) (lv := [(0, .ref h0)]) (Qf := fun A => va_Qv P (fun u t => va_P D vwCl (WQ cI h0 h1 h2 h3 h4 h5 u) t.heap) A) (by decide) rfl rfl (Nat.le_of_ble_eq_true rfl) rfl ?_
  intro p e s m below meth c A ls S hr hlk hname hsz hP hK hD hA hSub hS hE hl
  have hx := S.1
  have hb := S.2.1
  have hown := S.2.2.2.1
  have hts := S.2.2.2.2
  have i_X6 : ∀ w ∈ u_ws RX6 TX6 29, w ∈ wsX6_loopsAndPorts := by decide +kernel
  have f_7 := hts (.fieldLink RX6 7 "MachineCoreModel" "registers" "[I") (by decide +kernel)
  have f_13 := hts (.fieldLink RX6 13 "MachineCoreModel" "segments" "[I") (by decide +kernel)
  have f_148 := hts (.fieldLink RX6 148 "MachineCoreModel" "code" "I") (by decide +kernel)
  have f_164 := hts (.fieldLink RX6 164 "MachineCoreModel" "i" "I") (by decide +kernel)
  have f_167 := hts (.fieldLink RX6 167 "MachineCoreModel" "j" "I") (by decide +kernel)
  have f_170 := hts (.fieldLink RX6 170 "MachineCoreModel" "ip" "I") (by decide +kernel)
  have k_39 := hts (.constant RX6 39 (65535)) (by decide +kernel)
  have b281 : ∀  (u : SQ) (H : Heap) (locs : List Loc) (ls : Array Slot), va_P D vwCl (WQ cI h0 h1 h2 h3 h4 h5 u) H → va_D A (WQ cI h0 h1 h2 h3 h4 h5 u) → va_S A s.heap H locs → lv_has ls 4 [(0, .ref h0)] → wX6_loopsAndPorts_b281  P u → W p l e ({ frames := 3, cells := 0, slots := 0, locals := 67 } : Room) s m ([.ref h0] : List Value).toArray below meth c H locs 0 0 (MQ below (va_Qv P (fun u t => va_P D vwCl (WQ cI h0 h1 h2 h3 h4 h5 u) t.heap) A) ([.ref h0] : List Value).toArray s 0 0 A) (F0 m 281 ls []) := by
    intro u H locs ls hP hD hS hl hw
    unfold wX6_loopsAndPorts_b281 at hw
    refine lv_aload_n hx hb dX6_loopsAndPorts_281 rfl (lv_at hl 0 rfl) ?_
    refine lv_aload_n hx hb dX6_loopsAndPorts_282 rfl (lv_at hl 0 rfl) ?_
    refine va_get (D := D) (ci := 6) (v := .int (q_i u)) (C := RX6) (T := TX6) (N := 29) hx hb hts i_X6 hown hK hP 0 rfl rfl 27 (by decide) f_164 (fun _ h9 => h9) rfl dX6_loopsAndPorts_283 ?_
    refine cl_Vv (As := [.int (q_i u)]) (rest := []) (st := [.int (q_i u), .ref h0]) S hK hA hP hD hS (fr_Q u) (kcX6_jump l D cB cI h0 h1 h2 h3 h4 h5 H.size (q_i u) u _ hw) (cwV 1 hts gX6_loopsAndPorts_X6_jump rfl rfl rfl (by decide +kernel) ⟨Nat.le_of_ble_eq_true rfl, Nat.le_of_ble_eq_true rfl⟩) tru_h tru_b 0 rfl rfl rfl rfl rfl hl.1 (Nat.le_of_ble_eq_true rfl) dX6_loopsAndPorts_286 ⟨Nat.zero_le _, Nat.zero_le _⟩ (fun u33 H locs hP hD hS hw => ?_)
    replace hP : va_P D vwCl (WQ cI h0 h1 h2 h3 h4 h5 u33) H := hP
    replace hD : va_D A (WQ cI h0 h1 h2 h3 h4 h5 u33) := hD
    exact rt_v (wo := (fun v => WQ cI h0 h1 h2 h3 h4 h5 v)) S hr hlk u33 hP hS hw dX6_loopsAndPorts_289
  have b223 : ∀ (x1 : Int32) (x2 : Int32) (u : SQ) (H : Heap) (locs : List Loc) (ls : Array Slot), va_P D vwCl (WQ cI h0 h1 h2 h3 h4 h5 u) H → va_D A (WQ cI h0 h1 h2 h3 h4 h5 u) → va_S A s.heap H locs → lv_has ls 4 [(0, .ref h0), (1, .int x1), (2, .int x2)] → wX6_loopsAndPorts_b223  P x1 x2 u → W p l e ({ frames := 3, cells := 0, slots := 0, locals := 67 } : Room) s m ([.ref h0] : List Value).toArray below meth c H locs 0 0 (MQ below (va_Qv P (fun u t => va_P D vwCl (WQ cI h0 h1 h2 h3 h4 h5 u) t.heap) A) ([.ref h0] : List Value).toArray s 0 0 A) (F0 m 223 ls []) := by
    intro x1 x2 u H locs ls hP hD hS hl hw
    unfold wX6_loopsAndPorts_b223 at hw
    refine lv_aload_n hx hb dX6_loopsAndPorts_223 rfl (lv_at hl 0 rfl) ?_
    refine lv_iload_n hx hb dX6_loopsAndPorts_224 rfl (lv_at hl 2 rfl) ?_
    refine lv_iload_n hx hb dX6_loopsAndPorts_225 rfl (lv_at hl 1 rfl) ?_
    refine cl_Vv (As := [.int x2, .int x1]) (rest := []) (st := [.int x1, .int x2, .ref h0]) S hK hA hP hD hS (fr_Q u) (kcX6_outPort l D cB cI h0 h1 h2 h3 h4 h5 H.size x2 x1 u _ hw) (cwV 2 hts gX6_loopsAndPorts_X6_outPort rfl rfl rfl (by decide +kernel) ⟨Nat.le_of_ble_eq_true rfl, Nat.le_of_ble_eq_true rfl⟩) tru_h tru_b 0 rfl rfl rfl rfl rfl hl.1 (Nat.le_of_ble_eq_true rfl) dX6_loopsAndPorts_226 ⟨Nat.zero_le _, Nat.zero_le _⟩ (fun u31 H locs hP hD hS hw => ?_)
    replace hP : va_P D vwCl (WQ cI h0 h1 h2 h3 h4 h5 u31) H := hP
    replace hD : va_D A (WQ cI h0 h1 h2 h3 h4 h5 u31) := hD
    refine lv_goto (tgt := 289) hx hb dX6_loopsAndPorts_229 (by decide) ?_
    exact rt_v (wo := (fun v => WQ cI h0 h1 h2 h3 h4 h5 v)) S hr hlk u31 hP hS hw dX6_loopsAndPorts_289
  have b188 : ∀ (x1 : Int32) (x2 : Int32) (u : SQ) (H : Heap) (locs : List Loc) (ls : Array Slot), va_P D vwCl (WQ cI h0 h1 h2 h3 h4 h5 u) H → va_D A (WQ cI h0 h1 h2 h3 h4 h5 u) → va_S A s.heap H locs → lv_has ls 4 [(0, .ref h0), (1, .int x1), (2, .int x2)] → wX6_loopsAndPorts_b188  P x1 x2 u → W p l e ({ frames := 3, cells := 0, slots := 0, locals := 67 } : Room) s m ([.ref h0] : List Value).toArray below meth c H locs 0 0 (MQ below (va_Qv P (fun u t => va_P D vwCl (WQ cI h0 h1 h2 h3 h4 h5 u) t.heap) A) ([.ref h0] : List Value).toArray s 0 0 A) (F0 m 188 ls []) := by
    intro x1 x2 u H locs ls hP hD hS hl hw
    unfold wX6_loopsAndPorts_b188 at hw
    refine lv_aload_n hx hb dX6_loopsAndPorts_188 rfl (lv_at hl 0 rfl) ?_
    refine lv_iconst (v := (0 : Int32)) hx hb dX6_loopsAndPorts_189 (by decide) ?_
    refine lv_iload_n hx hb dX6_loopsAndPorts_190 rfl (lv_at hl 1 rfl) ?_
    refine lv_aload_n hx hb dX6_loopsAndPorts_191 rfl (lv_at hl 0 rfl) ?_
    refine lv_iload_n hx hb dX6_loopsAndPorts_192 rfl (lv_at hl 2 rfl) ?_
    refine lv_iload_n hx hb dX6_loopsAndPorts_193 rfl (lv_at hl 1 rfl) ?_
    refine cl_Vi (As := [.int x2, .int x1]) (rest := [.int x1, .int (0 : Int32), .ref h0]) (st := [.int x1, .int x2, .ref h0, .int x1, .int (0 : Int32), .ref h0]) S hK hA hP hD hS (fr_Q u) (kcX6_inPort l D cB cI h0 h1 h2 h3 h4 h5 H.size x2 x1 u _ hw) (cwV 2 hts gX6_loopsAndPorts_X6_inPort rfl rfl rfl (by decide +kernel) ⟨Nat.le_of_ble_eq_true rfl, Nat.le_of_ble_eq_true rfl⟩) tru_h tru_b 0 rfl rfl rfl rfl rfl hl.1 (Nat.le_of_ble_eq_true rfl) dX6_loopsAndPorts_194 ⟨Nat.zero_le _, Nat.zero_le _⟩ (fun r28 u27 H locs hP hD hS hw => ?_)
    replace hP : va_P D vwCl (WQ cI h0 h1 h2 h3 h4 h5 u27) H := hP
    replace hD : va_D A (WQ cI h0 h1 h2 h3 h4 h5 u27) := hD
    refine cl_Vv (As := [.int (0 : Int32), .int x1, .int r28]) (rest := []) (st := [.int r28, .int x1, .int (0 : Int32), .ref h0]) S hK hA hP hD hS (fr_Q u27) (kcX6_setRegister l D cB cI h0 h1 h2 h3 h4 h5 H.size (0 : Int32) x1 r28 u27 _ hw) (cwV 3 hts gX6_loopsAndPorts_X6_setRegister rfl rfl rfl (by decide +kernel) ⟨Nat.le_of_ble_eq_true rfl, Nat.le_of_ble_eq_true rfl⟩) tru_h tru_b 0 rfl rfl rfl rfl rfl hl.1 (Nat.le_of_ble_eq_true rfl) dX6_loopsAndPorts_197 ⟨Nat.zero_le _, Nat.zero_le _⟩ (fun u29 H locs hP hD hS hw => ?_)
    replace hP : va_P D vwCl (WQ cI h0 h1 h2 h3 h4 h5 u29) H := hP
    replace hD : va_D A (WQ cI h0 h1 h2 h3 h4 h5 u29) := hD
    refine lv_goto (tgt := 289) hx hb dX6_loopsAndPorts_200 (by decide) ?_
    exact rt_v (wo := (fun v => WQ cI h0 h1 h2 h3 h4 h5 v)) S hr hlk u29 hP hS hw dX6_loopsAndPorts_289
  have b152 : ∀ (s1 : Int32) (u : SQ) (H : Heap) (locs : List Loc) (ls : Array Slot), va_P D vwCl (WQ cI h0 h1 h2 h3 h4 h5 u) H → va_D A (WQ cI h0 h1 h2 h3 h4 h5 u) → va_S A s.heap H locs → lv_has ls 4 [] → wX6_loopsAndPorts_b152  P s1 u → W p l e ({ frames := 3, cells := 0, slots := 0, locals := 67 } : Room) s m ([.ref h0] : List Value).toArray below meth c H locs 0 0 (MQ below (va_Qv P (fun u t => va_P D vwCl (WQ cI h0 h1 h2 h3 h4 h5 u) t.heap) A) ([.ref h0] : List Value).toArray s 0 0 A) (F0 m 152 ls [.int s1, .ref h0]) := by
    intro s1 u H locs ls hP hD hS hl hw
    unfold wX6_loopsAndPorts_b152 at hw
    refine cl_Vv (As := [.int s1]) (rest := []) (st := [.int s1, .ref h0]) S hK hA hP hD hS (fr_Q u) (kcX6_jump l D cB cI h0 h1 h2 h3 h4 h5 H.size s1 u _ hw) (cwV 1 hts gX6_loopsAndPorts_X6_jump rfl rfl rfl (by decide +kernel) ⟨Nat.le_of_ble_eq_true rfl, Nat.le_of_ble_eq_true rfl⟩) tru_h tru_b 0 rfl rfl rfl rfl rfl hl.1 (Nat.le_of_ble_eq_true rfl) dX6_loopsAndPorts_152 ⟨Nat.zero_le _, Nat.zero_le _⟩ (fun u25 H locs hP hD hS hw => ?_)
    replace hP : va_P D vwCl (WQ cI h0 h1 h2 h3 h4 h5 u25) H := hP
    replace hD : va_D A (WQ cI h0 h1 h2 h3 h4 h5 u25) := hD
    refine lv_goto (tgt := 289) hx hb dX6_loopsAndPorts_155 (by decide) ?_
    exact rt_v (wo := (fun v => WQ cI h0 h1 h2 h3 h4 h5 v)) S hr hlk u25 hP hS hw dX6_loopsAndPorts_289
  have b118 : ∀ (s1 : Int32) (u : SQ) (H : Heap) (locs : List Loc) (ls : Array Slot), va_P D vwCl (WQ cI h0 h1 h2 h3 h4 h5 u) H → va_D A (WQ cI h0 h1 h2 h3 h4 h5 u) → va_S A s.heap H locs → lv_has ls 4 [] → wX6_loopsAndPorts_b118  P s1 u → W p l e ({ frames := 3, cells := 0, slots := 0, locals := 67 } : Room) s m ([.ref h0] : List Value).toArray below meth c H locs 0 0 (MQ below (va_Qv P (fun u t => va_P D vwCl (WQ cI h0 h1 h2 h3 h4 h5 u) t.heap) A) ([.ref h0] : List Value).toArray s 0 0 A) (F0 m 118 ls [.int s1, .ref h0]) := by
    intro s1 u H locs ls hP hD hS hl hw
    unfold wX6_loopsAndPorts_b118 at hw
    refine cl_Vv (As := [.int s1]) (rest := []) (st := [.int s1, .ref h0]) S hK hA hP hD hS (fr_Q u) (kcX6_jump l D cB cI h0 h1 h2 h3 h4 h5 H.size s1 u _ hw) (cwV 1 hts gX6_loopsAndPorts_X6_jump rfl rfl rfl (by decide +kernel) ⟨Nat.le_of_ble_eq_true rfl, Nat.le_of_ble_eq_true rfl⟩) tru_h tru_b 0 rfl rfl rfl rfl rfl hl.1 (Nat.le_of_ble_eq_true rfl) dX6_loopsAndPorts_118 ⟨Nat.zero_le _, Nat.zero_le _⟩ (fun u23 H locs hP hD hS hw => ?_)
    replace hP : va_P D vwCl (WQ cI h0 h1 h2 h3 h4 h5 u23) H := hP
    replace hD : va_D A (WQ cI h0 h1 h2 h3 h4 h5 u23) := hD
    refine lv_goto (tgt := 289) hx hb dX6_loopsAndPorts_121 (by decide) ?_
    exact rt_v (wo := (fun v => WQ cI h0 h1 h2 h3 h4 h5 v)) S hr hlk u23 hP hS hw dX6_loopsAndPorts_289
  have b117 : ∀  (u : SQ) (H : Heap) (locs : List Loc) (ls : Array Slot), va_P D vwCl (WQ cI h0 h1 h2 h3 h4 h5 u) H → va_D A (WQ cI h0 h1 h2 h3 h4 h5 u) → va_S A s.heap H locs → lv_has ls 4 [] → wX6_loopsAndPorts_b117  P u → W p l e ({ frames := 3, cells := 0, slots := 0, locals := 67 } : Room) s m ([.ref h0] : List Value).toArray below meth c H locs 0 0 (MQ below (va_Qv P (fun u t => va_P D vwCl (WQ cI h0 h1 h2 h3 h4 h5 u) t.heap) A) ([.ref h0] : List Value).toArray s 0 0 A) (F0 m 117 ls [.ref h0]) := by
    intro u H locs ls hP hD hS hl hw
    unfold wX6_loopsAndPorts_b117 at hw
    refine lv_iconst (v := (0 : Int32)) hx hb dX6_loopsAndPorts_117 (by decide) ?_
    exact b118 (0 : Int32) u H locs ls hP hD hS (lv_sub hl [] rfl) hw
  have b95 : ∀ (s0 : Int32) (u : SQ) (H : Heap) (locs : List Loc) (ls : Array Slot), va_P D vwCl (WQ cI h0 h1 h2 h3 h4 h5 u) H → va_D A (WQ cI h0 h1 h2 h3 h4 h5 u) → va_S A s.heap H locs → lv_has ls 4 [(0, .ref h0)] → wX6_loopsAndPorts_b95  P s0 u → W p l e ({ frames := 3, cells := 0, slots := 0, locals := 67 } : Room) s m ([.ref h0] : List Value).toArray below meth c H locs 0 0 (MQ below (va_Qv P (fun u t => va_P D vwCl (WQ cI h0 h1 h2 h3 h4 h5 u) t.heap) A) ([.ref h0] : List Value).toArray s 0 0 A) (F0 m 95 ls [.int s0]) := by
    intro s0 u H locs ls hP hD hS hl hw
    unfold wX6_loopsAndPorts_b95 at hw
    refine lv_istore_n (lv' := [(3, .int s0), (0, .ref h0)]) hx hb dX6_loopsAndPorts_95 rfl hl (by decide) rfl (fun ls hl => ?_)
    refine lv_aload_n hx hb dX6_loopsAndPorts_96 rfl (lv_at hl 1 rfl) ?_
    refine lv_aload_n hx hb dX6_loopsAndPorts_97 rfl (lv_at hl 1 rfl) ?_
    refine va_get (D := D) (ci := 6) (v := .ref h1) (C := RX6) (T := TX6) (N := 29) hx hb hts i_X6 hown hK hP 0 rfl rfl 1 (by decide) f_7 (fun _ h9 => h9) rfl dX6_loopsAndPorts_98 ?_
    refine lv_iconst (v := (1 : Int32)) hx hb dX6_loopsAndPorts_101 (by decide) ?_
    refine va_iald hx hb hK hP 1 1 (f := (q_registers u)) rfl rfl hw.1 dX6_loopsAndPorts_102 ?_
    replace hw := hw.2
    refine lv_if_eq (tgt := 117) hx hb dX6_loopsAndPorts_103 (by decide) (fun c21 => ?_) (fun c21 => ?_)
    · replace hw := hw.1 c21
      exact b117 u H locs ls hP hD hS (lv_sub hl [] rfl) hw
    · replace hw := hw.2 c21
      refine lv_iload_n hx hb dX6_loopsAndPorts_106 rfl (lv_at hl 0 rfl) ?_
      refine lv_if_eq (tgt := 117) hx hb dX6_loopsAndPorts_107 (by decide) (fun c22 => ?_) (fun c22 => ?_)
      · replace hw := hw.1 c22
        exact b117 u H locs ls hP hD hS (lv_sub hl [] rfl) hw
      · replace hw := hw.2 c22
        refine lv_aload_n hx hb dX6_loopsAndPorts_110 rfl (lv_at hl 1 rfl) ?_
        refine va_get (D := D) (ci := 6) (v := .int (q_i u)) (C := RX6) (T := TX6) (N := 29) hx hb hts i_X6 hown hK hP 0 rfl rfl 27 (by decide) f_164 (fun _ h9 => h9) rfl dX6_loopsAndPorts_111 ?_
        refine lv_goto (tgt := 118) hx hb dX6_loopsAndPorts_114 (by decide) ?_
        exact b118 (q_i u) u H locs ls hP hD hS (lv_sub hl [] rfl) hw
  have b90 : ∀  (u : SQ) (H : Heap) (locs : List Loc) (ls : Array Slot), va_P D vwCl (WQ cI h0 h1 h2 h3 h4 h5 u) H → va_D A (WQ cI h0 h1 h2 h3 h4 h5 u) → va_S A s.heap H locs → lv_has ls 4 [(0, .ref h0)] → wX6_loopsAndPorts_b90  P u → W p l e ({ frames := 3, cells := 0, slots := 0, locals := 67 } : Room) s m ([.ref h0] : List Value).toArray below meth c H locs 0 0 (MQ below (va_Qv P (fun u t => va_P D vwCl (WQ cI h0 h1 h2 h3 h4 h5 u) t.heap) A) ([.ref h0] : List Value).toArray s 0 0 A) (F0 m 90 ls []) := by
    intro u H locs ls hP hD hS hl hw
    unfold wX6_loopsAndPorts_b90 at hw
    refine lv_iconst (v := (1 : Int32)) hx hb dX6_loopsAndPorts_90 (by decide) ?_
    refine lv_goto (tgt := 95) hx hb dX6_loopsAndPorts_91 (by decide) ?_
    exact b95 (1 : Int32) u H locs ls hP hD hS (lv_sub hl [0] rfl) hw
  have b87 : ∀ (s0 : Int32) (s1 : Int32) (u : SQ) (H : Heap) (locs : List Loc) (ls : Array Slot), va_P D vwCl (WQ cI h0 h1 h2 h3 h4 h5 u) H → va_D A (WQ cI h0 h1 h2 h3 h4 h5 u) → va_S A s.heap H locs → lv_has ls 4 [(0, .ref h0)] → wX6_loopsAndPorts_b87  P s0 s1 u → W p l e ({ frames := 3, cells := 0, slots := 0, locals := 67 } : Room) s m ([.ref h0] : List Value).toArray below meth c H locs 0 0 (MQ below (va_Qv P (fun u t => va_P D vwCl (WQ cI h0 h1 h2 h3 h4 h5 u) t.heap) A) ([.ref h0] : List Value).toArray s 0 0 A) (F0 m 87 ls [.int s1, .int s0]) := by
    intro s0 s1 u H locs ls hP hD hS hl hw
    unfold wX6_loopsAndPorts_b87 at hw
    refine lv_icmp_ne (tgt := 94) hx hb dX6_loopsAndPorts_87 (by decide) (fun c20 => ?_) (fun c20 => ?_)
    · replace hw := hw.2 c20
      refine lv_iconst (v := (0 : Int32)) hx hb dX6_loopsAndPorts_94 (by decide) ?_
      exact b95 (0 : Int32) u H locs ls hP hD hS (lv_sub hl [0] rfl) hw
    · replace hw := hw.1 c20
      exact b90 u H locs ls hP hD hS (lv_sub hl [0] rfl) hw
  have b28 : ∀ (x1 : Int32) (s0 : Int32) (u : SQ) (H : Heap) (locs : List Loc) (ls : Array Slot), va_P D vwCl (WQ cI h0 h1 h2 h3 h4 h5 u) H → va_D A (WQ cI h0 h1 h2 h3 h4 h5 u) → va_S A s.heap H locs → lv_has ls 4 [(0, .ref h0), (1, .int x1)] → wX6_loopsAndPorts_b28  P x1 s0 u → W p l e ({ frames := 3, cells := 0, slots := 0, locals := 67 } : Room) s m ([.ref h0] : List Value).toArray below meth c H locs 0 0 (MQ below (va_Qv P (fun u t => va_P D vwCl (WQ cI h0 h1 h2 h3 h4 h5 u) t.heap) A) ([.ref h0] : List Value).toArray s 0 0 A) (F0 m 28 ls [.int s0]) := by
    intro x1 s0 u H locs ls hP hD hS hl hw
    unfold wX6_loopsAndPorts_b28 at hw
    refine lv_istore_n (lv' := [(2, .int s0), (0, .ref h0), (1, .int x1)]) hx hb dX6_loopsAndPorts_28 rfl hl (by decide) rfl (fun ls hl => ?_)
    refine lv_aload_n hx hb dX6_loopsAndPorts_29 rfl (lv_at hl 1 rfl) ?_
    refine va_get (D := D) (ci := 6) (v := .int (q_code u)) (C := RX6) (T := TX6) (N := 29) hx hb hts i_X6 hown hK hP 0 rfl rfl 21 (by decide) f_148 (fun _ h9 => h9) rfl dX6_loopsAndPorts_30 ?_
    refine lv_sipush (v := (227 : Int32)) hx hb dX6_loopsAndPorts_33 (by decide) ?_
    refine lv_icmp_ge (tgt := 124) hx hb dX6_loopsAndPorts_36 (by decide) (fun c4 => ?_) (fun c4 => ?_)
    · replace hw := hw.1 c4
      refine lv_aload_n hx hb dX6_loopsAndPorts_124 rfl (lv_at hl 1 rfl) ?_
      refine va_get (D := D) (ci := 6) (v := .int (q_code u)) (C := RX6) (T := TX6) (N := 29) hx hb hts i_X6 hown hK hP 0 rfl rfl 21 (by decide) f_148 (fun _ h9 => h9) rfl dX6_loopsAndPorts_125 ?_
      refine lv_sipush (v := (227 : Int32)) hx hb dX6_loopsAndPorts_128 (by decide) ?_
      refine lv_icmp_ne (tgt := 158) hx hb dX6_loopsAndPorts_131 (by decide) (fun c5 => ?_) (fun c5 => ?_)
      · replace hw := hw.2 c5
        refine lv_aload_n hx hb dX6_loopsAndPorts_158 rfl (lv_at hl 1 rfl) ?_
        refine va_get (D := D) (ci := 6) (v := .int (q_code u)) (C := RX6) (T := TX6) (N := 29) hx hb hts i_X6 hown hK hP 0 rfl rfl 21 (by decide) f_148 (fun _ h9 => h9) rfl dX6_loopsAndPorts_159 ?_
        refine lv_sipush (v := (230 : Int32)) hx hb dX6_loopsAndPorts_162 (by decide) ?_
        refine lv_icmp_lt (tgt := 188) hx hb dX6_loopsAndPorts_165 (by decide) (fun c6 => ?_) (fun c6 => ?_)
        · replace hw := hw.1 c6
          exact b188 x1 s0 u H locs ls hP hD hS (lv_sub hl [1, 2, 0] rfl) hw
        · replace hw := hw.2 c6
          refine lv_aload_n hx hb dX6_loopsAndPorts_168 rfl (lv_at hl 1 rfl) ?_
          refine va_get (D := D) (ci := 6) (v := .int (q_code u)) (C := RX6) (T := TX6) (N := 29) hx hb hts i_X6 hown hK hP 0 rfl rfl 21 (by decide) f_148 (fun _ h9 => h9) rfl dX6_loopsAndPorts_169 ?_
          refine lv_sipush (v := (236 : Int32)) hx hb dX6_loopsAndPorts_172 (by decide) ?_
          refine lv_icmp_eq (tgt := 188) hx hb dX6_loopsAndPorts_175 (by decide) (fun c7 => ?_) (fun c7 => ?_)
          · replace hw := hw.1 c7
            exact b188 x1 s0 u H locs ls hP hD hS (lv_sub hl [1, 2, 0] rfl) hw
          · replace hw := hw.2 c7
            refine lv_aload_n hx hb dX6_loopsAndPorts_178 rfl (lv_at hl 1 rfl) ?_
            refine va_get (D := D) (ci := 6) (v := .int (q_code u)) (C := RX6) (T := TX6) (N := 29) hx hb hts i_X6 hown hK hP 0 rfl rfl 21 (by decide) f_148 (fun _ h9 => h9) rfl dX6_loopsAndPorts_179 ?_
            refine lv_sipush (v := (237 : Int32)) hx hb dX6_loopsAndPorts_182 (by decide) ?_
            refine lv_icmp_ne (tgt := 203) hx hb dX6_loopsAndPorts_185 (by decide) (fun c8 => ?_) (fun c8 => ?_)
            · replace hw := hw.2 c8
              refine lv_aload_n hx hb dX6_loopsAndPorts_203 rfl (lv_at hl 1 rfl) ?_
              refine va_get (D := D) (ci := 6) (v := .int (q_code u)) (C := RX6) (T := TX6) (N := 29) hx hb hts i_X6 hown hK hP 0 rfl rfl 21 (by decide) f_148 (fun _ h9 => h9) rfl dX6_loopsAndPorts_204 ?_
              refine lv_sipush (v := (232 : Int32)) hx hb dX6_loopsAndPorts_207 (by decide) ?_
              refine lv_icmp_lt (tgt := 223) hx hb dX6_loopsAndPorts_210 (by decide) (fun c9 => ?_) (fun c9 => ?_)
              · replace hw := hw.1 c9
                exact b223 x1 s0 u H locs ls hP hD hS (lv_sub hl [1, 2, 0] rfl) hw
              · replace hw := hw.2 c9
                refine lv_aload_n hx hb dX6_loopsAndPorts_213 rfl (lv_at hl 1 rfl) ?_
                refine va_get (D := D) (ci := 6) (v := .int (q_code u)) (C := RX6) (T := TX6) (N := 29) hx hb hts i_X6 hown hK hP 0 rfl rfl 21 (by decide) f_148 (fun _ h9 => h9) rfl dX6_loopsAndPorts_214 ?_
                refine lv_sipush (v := (237 : Int32)) hx hb dX6_loopsAndPorts_217 (by decide) ?_
                refine lv_icmp_le (tgt := 232) hx hb dX6_loopsAndPorts_220 (by decide) (fun c10 => ?_) (fun c10 => ?_)
                · replace hw := hw.1 c10
                  refine lv_aload_n hx hb dX6_loopsAndPorts_232 rfl (lv_at hl 1 rfl) ?_
                  refine va_get (D := D) (ci := 6) (v := .int (q_code u)) (C := RX6) (T := TX6) (N := 29) hx hb hts i_X6 hown hK hP 0 rfl rfl 21 (by decide) f_148 (fun _ h9 => h9) rfl dX6_loopsAndPorts_233 ?_
                  refine lv_sipush (v := (234 : Int32)) hx hb dX6_loopsAndPorts_236 (by decide) ?_
                  refine lv_icmp_ne (tgt := 263) hx hb dX6_loopsAndPorts_239 (by decide) (fun c11 => ?_) (fun c11 => ?_)
                  · replace hw := hw.2 c11
                    refine lv_aload_n hx hb dX6_loopsAndPorts_263 rfl (lv_at hl 1 rfl) ?_
                    refine va_get (D := D) (ci := 6) (v := .int (q_code u)) (C := RX6) (T := TX6) (N := 29) hx hb hts i_X6 hown hK hP 0 rfl rfl 21 (by decide) f_148 (fun _ h9 => h9) rfl dX6_loopsAndPorts_264 ?_
                    refine lv_sipush (v := (232 : Int32)) hx hb dX6_loopsAndPorts_267 (by decide) ?_
                    refine lv_icmp_ne (tgt := 281) hx hb dX6_loopsAndPorts_270 (by decide) (fun c12 => ?_) (fun c12 => ?_)
                    · replace hw := hw.2 c12
                      exact b281 u H locs ls hP hD hS (lv_sub hl [1] rfl) hw
                    · replace hw := hw.1 c12
                      refine lv_aload_n hx hb dX6_loopsAndPorts_273 rfl (lv_at hl 1 rfl) ?_
                      refine lv_aload_n hx hb dX6_loopsAndPorts_274 rfl (lv_at hl 1 rfl) ?_
                      refine va_get (D := D) (ci := 6) (v := .int (q_ip u)) (C := RX6) (T := TX6) (N := 29) hx hb hts i_X6 hown hK hP 0 rfl rfl 3 (by decide) f_170 (fun _ h9 => h9) rfl dX6_loopsAndPorts_275 ?_
                      refine cl_Vv (As := [.int (q_ip u)]) (rest := []) (st := [.int (q_ip u), .ref h0]) S hK hA hP hD hS (fr_Q u) (kcX6_push l D cB cI h0 h1 h2 h3 h4 h5 H.size (q_ip u) u _ hw) (cwV 1 hts gX6_loopsAndPorts_X6_push rfl rfl rfl (by decide +kernel) ⟨Nat.le_of_ble_eq_true rfl, Nat.le_of_ble_eq_true rfl⟩) tru_h tru_b 0 rfl rfl rfl rfl rfl hl.1 (Nat.le_of_ble_eq_true rfl) dX6_loopsAndPorts_278 ⟨Nat.zero_le _, Nat.zero_le _⟩ (fun u13 H locs hP hD hS hw => ?_)
                      replace hP : va_P D vwCl (WQ cI h0 h1 h2 h3 h4 h5 u13) H := hP
                      replace hD : va_D A (WQ cI h0 h1 h2 h3 h4 h5 u13) := hD
                      exact b281 u13 H locs ls hP hD hS (lv_sub hl [1] rfl) hw
                  · replace hw := hw.1 c11
                    refine lv_aload_n hx hb dX6_loopsAndPorts_242 rfl (lv_at hl 1 rfl) ?_
                    refine lv_aload_n hx hb dX6_loopsAndPorts_243 rfl (lv_at hl 1 rfl) ?_
                    refine va_get (D := D) (ci := 6) (v := .int (q_i u)) (C := RX6) (T := TX6) (N := 29) hx hb hts i_X6 hown hK hP 0 rfl rfl 27 (by decide) f_164 (fun _ h9 => h9) rfl dX6_loopsAndPorts_244 ?_
                    refine va_put (D := D) (ci := 6) (v := .int (q_i u)) (ty := .int) (C := RX6) (T := TX6) (N := 29) hx hb hts i_X6 tyX6 tyX6_ok nmX6 hown hK hP hD hS 0 rfl rfl 3 (by decide) f_170 (fun _ h9 => h9) rfl (by decide +kernel) rfl rfl (Nat.le_of_ble_eq_true rfl) dX6_loopsAndPorts_247 (fun H locs hP hD hS => ?_)
                    replace hP : va_P D vwCl (WQ cI h0 h1 h2 h3 h4 h5 (qs_ip u (q_i u))) H := hP
                    replace hD : va_D A (WQ cI h0 h1 h2 h3 h4 h5 (qs_ip u (q_i u))) := hD
                    refine lv_aload_n hx hb dX6_loopsAndPorts_250 rfl (lv_at hl 1 rfl) ?_
                    refine va_get (D := D) (ci := 6) (v := .ref h2) (C := RX6) (T := TX6) (N := 29) hx hb hts i_X6 hown hK hP 0 rfl rfl 2 (by decide) f_13 (fun _ h9 => h9) rfl dX6_loopsAndPorts_251 ?_
                    refine lv_iconst (v := (1 : Int32)) hx hb dX6_loopsAndPorts_254 (by decide) ?_
                    refine lv_aload_n hx hb dX6_loopsAndPorts_255 rfl (lv_at hl 1 rfl) ?_
                    refine va_get (D := D) (ci := 6) (v := .int (q_j u)) (C := RX6) (T := TX6) (N := 29) hx hb hts i_X6 hown hK hP 0 rfl rfl 28 (by decide) f_167 (fun _ h9 => h9) rfl dX6_loopsAndPorts_256 ?_
                    refine va_iast hx hb hK hP hD hS 2 1 (f := (q_segments u)) rfl rfl hw.1 dX6_loopsAndPorts_259 (fun H locs hP hD hS => ?_)
                    replace hw := hw.2
                    replace hP : va_P D vwCl (WQ cI h0 h1 h2 h3 h4 h5 (qs_ip (qs_segments u (upd (q_segments u) (1 : Int32).toNatClampNeg (q_j u))) (q_i u))) H := hP
                    replace hD : va_D A (WQ cI h0 h1 h2 h3 h4 h5 (qs_ip (qs_segments u (upd (q_segments u) (1 : Int32).toNatClampNeg (q_j u))) (q_i u))) := hD
                    refine lv_goto (tgt := 289) hx hb dX6_loopsAndPorts_260 (by decide) ?_
                    exact rt_v (wo := (fun v => WQ cI h0 h1 h2 h3 h4 h5 v)) S hr hlk (qs_ip (qs_segments u (upd (q_segments u) (1 : Int32).toNatClampNeg (q_j u))) (q_i u)) hP hS hw dX6_loopsAndPorts_289
                · replace hw := hw.2 c10
                  exact b223 x1 s0 u H locs ls hP hD hS (lv_sub hl [1, 2, 0] rfl) hw
            · replace hw := hw.1 c8
              exact b188 x1 s0 u H locs ls hP hD hS (lv_sub hl [1, 2, 0] rfl) hw
      · replace hw := hw.1 c5
        refine lv_aload_n hx hb dX6_loopsAndPorts_134 rfl (lv_at hl 1 rfl) ?_
        refine lv_aload_n hx hb dX6_loopsAndPorts_135 rfl (lv_at hl 1 rfl) ?_
        refine va_get (D := D) (ci := 6) (v := .ref h1) (C := RX6) (T := TX6) (N := 29) hx hb hts i_X6 hown hK hP 0 rfl rfl 1 (by decide) f_7 (fun _ h9 => h9) rfl dX6_loopsAndPorts_136 ?_
        refine lv_iconst (v := (1 : Int32)) hx hb dX6_loopsAndPorts_139 (by decide) ?_
        refine va_iald hx hb hK hP 1 1 (f := (q_registers u)) rfl rfl hw.1 dX6_loopsAndPorts_140 ?_
        replace hw := hw.2
        refine lv_if_ne (tgt := 151) hx hb dX6_loopsAndPorts_141 (by decide) (fun c15 => ?_) (fun c15 => ?_)
        · replace hw := hw.2 c15
          refine lv_iconst (v := (0 : Int32)) hx hb dX6_loopsAndPorts_151 (by decide) ?_
          exact b152 (0 : Int32) u H locs ls hP hD hS (lv_sub hl [] rfl) hw
        · replace hw := hw.1 c15
          refine lv_aload_n hx hb dX6_loopsAndPorts_144 rfl (lv_at hl 1 rfl) ?_
          refine va_get (D := D) (ci := 6) (v := .int (q_i u)) (C := RX6) (T := TX6) (N := 29) hx hb hts i_X6 hown hK hP 0 rfl rfl 27 (by decide) f_164 (fun _ h9 => h9) rfl dX6_loopsAndPorts_145 ?_
          refine lv_goto (tgt := 152) hx hb dX6_loopsAndPorts_148 (by decide) ?_
          exact b152 (q_i u) u H locs ls hP hD hS (lv_sub hl [] rfl) hw
    · replace hw := hw.2 c4
      refine lv_aload_n hx hb dX6_loopsAndPorts_39 rfl (lv_at hl 1 rfl) ?_
      refine va_get (D := D) (ci := 6) (v := .ref h1) (C := RX6) (T := TX6) (N := 29) hx hb hts i_X6 hown hK hP 0 rfl rfl 1 (by decide) f_7 (fun _ h9 => h9) rfl dX6_loopsAndPorts_40 ?_
      refine lv_iconst (v := (1 : Int32)) hx hb dX6_loopsAndPorts_43 (by decide) ?_
      refine lv_aload_n hx hb dX6_loopsAndPorts_44 rfl (lv_at hl 1 rfl) ?_
      refine va_get (D := D) (ci := 6) (v := .ref h1) (C := RX6) (T := TX6) (N := 29) hx hb hts i_X6 hown hK hP 0 rfl rfl 1 (by decide) f_7 (fun _ h9 => h9) rfl dX6_loopsAndPorts_45 ?_
      refine lv_iconst (v := (1 : Int32)) hx hb dX6_loopsAndPorts_48 (by decide) ?_
      refine va_iald hx hb hK hP 1 1 (f := (q_registers u)) rfl rfl hw.1 dX6_loopsAndPorts_49 ?_
      replace hw := hw.2
      refine lv_iconst (v := (1 : Int32)) hx hb dX6_loopsAndPorts_50 (by decide) ?_
      refine lv_isub hx hb dX6_loopsAndPorts_51 ?_
      refine lv_ldc (v := (65535 : Int32)) hx hb hown k_39 dX6_loopsAndPorts_52 ?_
      refine lv_iand hx hb dX6_loopsAndPorts_54 ?_
      refine va_iast hx hb hK hP hD hS 1 1 (f := (q_registers u)) rfl rfl hw.1 dX6_loopsAndPorts_55 (fun H locs hP hD hS => ?_)
      replace hw := hw.2
      replace hP : va_P D vwCl (WQ cI h0 h1 h2 h3 h4 h5 (qs_registers u (upd (q_registers u) (1 : Int32).toNatClampNeg ((((q_registers u) (1 : Int32).toNatClampNeg) - (1 : Int32)) &&& (65535 : Int32))))) H := hP
      replace hD : va_D A (WQ cI h0 h1 h2 h3 h4 h5 (qs_registers u (upd (q_registers u) (1 : Int32).toNatClampNeg ((((q_registers u) (1 : Int32).toNatClampNeg) - (1 : Int32)) &&& (65535 : Int32))))) := hD
      refine lv_aload_n hx hb dX6_loopsAndPorts_56 rfl (lv_at hl 1 rfl) ?_
      refine va_get (D := D) (ci := 6) (v := .int (q_code u)) (C := RX6) (T := TX6) (N := 29) hx hb hts i_X6 hown hK hP 0 rfl rfl 21 (by decide) f_148 (fun _ h9 => h9) rfl dX6_loopsAndPorts_57 ?_
      refine lv_sipush (v := (226 : Int32)) hx hb dX6_loopsAndPorts_60 (by decide) ?_
      refine lv_icmp_eq (tgt := 90) hx hb dX6_loopsAndPorts_63 (by decide) (fun c16 => ?_) (fun c16 => ?_)
      · replace hw := hw.1 c16
        exact b90 (qs_registers u (upd (q_registers u) (1 : Int32).toNatClampNeg ((((q_registers u) (1 : Int32).toNatClampNeg) - (1 : Int32)) &&& (65535 : Int32)))) H locs ls hP hD hS (lv_sub hl [1] rfl) hw
      · replace hw := hw.2 c16
        refine lv_aload_n hx hb dX6_loopsAndPorts_66 rfl (lv_at hl 1 rfl) ?_
        refine lv_bipush (v := (64 : Int32)) hx hb dX6_loopsAndPorts_67 (by decide) ?_
        refine cl_Vi (As := [.int (64 : Int32)]) (rest := []) (st := [.int (64 : Int32), .ref h0]) S hK hA hP hD hS (fr_Q (qs_registers u (upd (q_registers u) (1 : Int32).toNatClampNeg ((((q_registers u) (1 : Int32).toNatClampNeg) - (1 : Int32)) &&& (65535 : Int32))))) (kcX6_has l D cB cI h0 h1 h2 h3 h4 h5 H.size (64 : Int32) (qs_registers u (upd (q_registers u) (1 : Int32).toNatClampNeg ((((q_registers u) (1 : Int32).toNatClampNeg) - (1 : Int32)) &&& (65535 : Int32)))) _ hw) (cwV 1 hts gX6_loopsAndPorts_X6_has rfl rfl rfl (by decide +kernel) ⟨Nat.le_of_ble_eq_true rfl, Nat.le_of_ble_eq_true rfl⟩) tru_h tru_b 0 rfl rfl rfl rfl rfl hl.1 (Nat.le_of_ble_eq_true rfl) dX6_loopsAndPorts_69 ⟨Nat.zero_le _, Nat.zero_le _⟩ (fun r18 u17 H locs hP hD hS hw => ?_)
        replace hP : va_P D vwCl (WQ cI h0 h1 h2 h3 h4 h5 u17) H := hP
        replace hD : va_D A (WQ cI h0 h1 h2 h3 h4 h5 u17) := hD
        refine lv_aload_n hx hb dX6_loopsAndPorts_72 rfl (lv_at hl 1 rfl) ?_
        refine va_get (D := D) (ci := 6) (v := .int (q_code u17)) (C := RX6) (T := TX6) (N := 29) hx hb hts i_X6 hown hK hP 0 rfl rfl 21 (by decide) f_148 (fun _ h9 => h9) rfl dX6_loopsAndPorts_73 ?_
        refine lv_sipush (v := (225 : Int32)) hx hb dX6_loopsAndPorts_76 (by decide) ?_
        refine lv_icmp_ne (tgt := 86) hx hb dX6_loopsAndPorts_79 (by decide) (fun c19 => ?_) (fun c19 => ?_)
        · replace hw := hw.2 c19
          refine lv_iconst (v := (0 : Int32)) hx hb dX6_loopsAndPorts_86 (by decide) ?_
          exact b87 r18 (0 : Int32) u17 H locs ls hP hD hS (lv_sub hl [1] rfl) hw
        · replace hw := hw.1 c19
          refine lv_iconst (v := (1 : Int32)) hx hb dX6_loopsAndPorts_82 (by decide) ?_
          refine lv_goto (tgt := 87) hx hb dX6_loopsAndPorts_83 (by decide) ?_
          exact b87 r18 (1 : Int32) u17 H locs ls hP hD hS (lv_sub hl [1] rfl) hw
  unfold wX6_loopsAndPorts at hw
  obtain ⟨H, eH⟩ : ∃ H, H = s.heap := ⟨_, rfl⟩
  obtain ⟨locs, eL⟩ : ∃ locs : List Loc, locs = [] := ⟨_, rfl⟩
  replace hP : va_P D vwCl (WQ cI h0 h1 h2 h3 h4 h5 u) H := by rw [eH]; exact hP
  replace hS : va_S A s.heap H locs := by rw [eH, eL]; exact hS
  suffices hgo : W p l e ({ frames := 3, cells := 0, slots := 0, locals := 67 } : Room) s m ([.ref h0] : List Value).toArray below meth c H locs 0 0 (MQ below (va_Qv P (fun u t => va_P D vwCl (WQ cI h0 h1 h2 h3 h4 h5 u) t.heap) A) ([.ref h0] : List Value).toArray s 0 0 A) (F0 m 0 ls []) by rw [eH, eL] at hgo; exact hgo
  clear eH eL
  refine lv_aload_n hx hb dX6_loopsAndPorts_0 rfl (lv_at hl 0 rfl) ?_
  refine cl_Vi (As := []) (rest := []) (st := [.ref h0]) S hK hA hP hD hS (fr_Q u) (kcX6_isWide l D cB cI h0 h1 h2 h3 h4 h5 H.size  u _ hw) (cwV 0 hts gX6_loopsAndPorts_X6_isWide rfl rfl rfl (by decide +kernel) ⟨Nat.le_of_ble_eq_true rfl, Nat.le_of_ble_eq_true rfl⟩) tru_h tru_b 0 rfl rfl rfl rfl rfl hl.1 (Nat.le_of_ble_eq_true rfl) dX6_loopsAndPorts_1 ⟨Nat.zero_le _, Nat.zero_le _⟩ (fun r2 u1 H locs hP hD hS hw => ?_)
  replace hP : va_P D vwCl (WQ cI h0 h1 h2 h3 h4 h5 u1) H := hP
  replace hD : va_D A (WQ cI h0 h1 h2 h3 h4 h5 u1) := hD
  refine lv_istore_n (lv' := [(1, .int r2), (0, .ref h0)]) hx hb dX6_loopsAndPorts_4 rfl hl (by decide) rfl (fun ls hl => ?_)
  refine lv_aload_n hx hb dX6_loopsAndPorts_5 rfl (lv_at hl 1 rfl) ?_
  refine va_get (D := D) (ci := 6) (v := .int (q_code u1)) (C := RX6) (T := TX6) (N := 29) hx hb hts i_X6 hown hK hP 0 rfl rfl 21 (by decide) f_148 (fun _ h9 => h9) rfl dX6_loopsAndPorts_6 ?_
  refine lv_sipush (v := (232 : Int32)) hx hb dX6_loopsAndPorts_9 (by decide) ?_
  refine lv_icmp_ge (tgt := 22) hx hb dX6_loopsAndPorts_12 (by decide) (fun c3 => ?_) (fun c3 => ?_)
  · replace hw := hw.1 c3
    refine lv_aload_n hx hb dX6_loopsAndPorts_22 rfl (lv_at hl 1 rfl) ?_
    refine va_get (D := D) (ci := 6) (v := .ref h1) (C := RX6) (T := TX6) (N := 29) hx hb hts i_X6 hown hK hP 0 rfl rfl 1 (by decide) f_7 (fun _ h9 => h9) rfl dX6_loopsAndPorts_23 ?_
    refine lv_iconst (v := (2 : Int32)) hx hb dX6_loopsAndPorts_26 (by decide) ?_
    refine va_iald hx hb hK hP 1 1 (f := (q_registers u1)) rfl rfl hw.1 dX6_loopsAndPorts_27 ?_
    replace hw := hw.2
    exact b28 r2 ((q_registers u1) (2 : Int32).toNatClampNeg) u1 H locs ls hP hD hS (lv_sub hl [1, 0] rfl) hw
  · replace hw := hw.2 c3
    refine lv_aload_n hx hb dX6_loopsAndPorts_15 rfl (lv_at hl 1 rfl) ?_
    refine va_get (D := D) (ci := 6) (v := .int (q_i u1)) (C := RX6) (T := TX6) (N := 29) hx hb hts i_X6 hown hK hP 0 rfl rfl 27 (by decide) f_164 (fun _ h9 => h9) rfl dX6_loopsAndPorts_16 ?_
    refine lv_goto (tgt := 28) hx hb dX6_loopsAndPorts_19 (by decide) ?_
    exact b28 r2 (q_i u1) u1 H locs ls hP hD hS (lv_sub hl [1, 0] rfl) hw
-- X6_byOne
def wX6_byOne_b140  (P : SQ → Prop) (x1 : Int32) (s1 : Int32) (s2 : Int32) (u : SQ) : Prop := (wX6_quotient s1 s2 x1 u (fun r26 u25 => ((r26 = (0 : Int32) → (wX6_interrupt (0 : Int32) u25 (fun u28 => (P u28)))) ∧ (¬ r26 = (0 : Int32) → (P u25)))))
def wX6_byOne_b117  (P : SQ → Prop) (x1 : Int32) (s1 : Int32) (s2 : Int32) (u : SQ) : Prop := (wX6_product s1 s2 x1 u (fun u23 => (P u23)))
def wX6_byOne_b102  (P : SQ → Prop) (x1 : Int32) (x2 : Int32) (u : SQ) : Prop := (((q_r u) = (5 : Int32) → (wX6_byOne_b117  P x1 x2 (1 : Int32) u)) ∧ (¬ (q_r u) = (5 : Int32) → (wX6_byOne_b117  P x1 x2 (0 : Int32) u)))
def wX6_byOne_b52  (P : SQ → Prop) (x1 : Int32) (x2 : Int32) (u : SQ) : Prop := (wX6_operation (8 : Int32) x2 (q_i u) x1 u (fun r21 u20 => (P u20)))
def wX6_byOne  (u : SQ) (P : SQ → Prop) : Prop := (wX6_isWide  u (fun r2 u1 => (wX6_operand r2 u1 (fun r4 u3 => (((q_r u3) = (0 : Int32) → (wX6_byOne_b52  P r2 r4 u3)) ∧ (¬ (q_r u3) = (0 : Int32) → (((q_r u3) = (1 : Int32) → (wX6_byOne_b52  P r2 r4 u3)) ∧ (¬ (q_r u3) = (1 : Int32) → (((q_r u3) = (2 : Int32) → (wX6_operation (12 : Int32) r4 (0 : Int32) r2 u3 (fun r9 u8 => (wX6_give r2 r9 u8 (fun u10 => (P u10)))))) ∧ (¬ (q_r u3) = (2 : Int32) → (((q_r u3) = (3 : Int32) → (wX6_operation (11 : Int32) r4 (0 : Int32) r2 u3 (fun r14 u13 => (wX6_give r2 r14 u13 (fun u15 => (P u15)))))) ∧ (¬ (q_r u3) = (3 : Int32) → (((q_r u3) = (4 : Int32) → (wX6_byOne_b102  P r2 r4 u3)) ∧ (¬ (q_r u3) = (4 : Int32) → (((q_r u3) = (5 : Int32) → (wX6_byOne_b102  P r2 r4 u3)) ∧ (¬ (q_r u3) = (5 : Int32) → (((q_r u3) = (7 : Int32) → (wX6_byOne_b140  P r2 r4 (1 : Int32) u3)) ∧ (¬ (q_r u3) = (7 : Int32) → (wX6_byOne_b140  P r2 r4 (0 : Int32) u3)))))))))))))))))))
set_option maxHeartbeats 4000000 in
set_option maxRecDepth 100000 in
theorem kcX6_byOne (l : Launch) (D : va_G) (cB cI : ClassId) (h0 h1 h2 h3 h4 h5 : Nat) (sz : Nat)  (u : SQ) (P : SQ → Prop) (hw : wX6_byOne  u P) : Met l yX6_byOne wsX6_byOne ({ frames := 4, cells := 0, slots := 0, locals := 98 } : Room) (va_Pc [.ref h0] (Pcw D (tyA cB cI) (WQ cI h0 h1 h2 h3 h4 h5 u) sz Tru)) (va_Qv P (fun u t => va_P D vwCl (WQ cI h0 h1 h2 h3 h4 h5 u) t.heap) (va_A (WQ cI h0 h1 h2 h3 h4 h5 u) sz)) 0 0 (va_A (WQ cI h0 h1 h2 h3 h4 h5 u) sz) := by
  refine en_ (cc := cX6_byOne) (maxL := 4) (ret := none) (own := RX6) (lv := [(0, .ref h0)]) (Qf := fun A => va_Qv P (fun u t => va_P D vwCl (WQ cI h0 h1 h2 h3 h4 h5 u) t.heap) A) (by decide) rfl rfl (Nat.le_of_ble_eq_true rfl) rfl ?_
  intro p e s m below meth c A ls S hr hlk hname hsz hP hK hD hA hSub hS hE hl
  have hx := S.1
  have hb := S.2.1
  have hown := S.2.2.2.1
  have hts := S.2.2.2.2
  have i_X6 : ∀ w ∈ u_ws RX6 TX6 29, w ∈ wsX6_byOne := by decide +kernel
  have f_130 := hts (.fieldLink RX6 130 "MachineCoreModel" "r" "I") (by decide +kernel)
  have f_164 := hts (.fieldLink RX6 164 "MachineCoreModel" "i" "I") (by decide +kernel)
  have b140 : ∀ (x1 : Int32) (s1 : Int32) (s2 : Int32) (u : SQ) (H : Heap) (locs : List Loc) (ls : Array Slot), va_P D vwCl (WQ cI h0 h1 h2 h3 h4 h5 u) H → va_D A (WQ cI h0 h1 h2 h3 h4 h5 u) → va_S A s.heap H locs → lv_has ls 4 [(0, .ref h0), (1, .int x1)] → wX6_byOne_b140  P x1 s1 s2 u → W p l e ({ frames := 4, cells := 0, slots := 0, locals := 98 } : Room) s m ([.ref h0] : List Value).toArray below meth c H locs 0 0 (MQ below (va_Qv P (fun u t => va_P D vwCl (WQ cI h0 h1 h2 h3 h4 h5 u) t.heap) A) ([.ref h0] : List Value).toArray s 0 0 A) (F0 m 140 ls [.int s2, .int s1, .ref h0]) := by
    intro x1 s1 s2 u H locs ls hP hD hS hl hw
    unfold wX6_byOne_b140 at hw
    refine lv_iload_n hx hb dX6_byOne_140 rfl (lv_at hl 1 rfl) ?_
    refine cl_Vi (As := [.int s1, .int s2, .int x1]) (rest := []) (st := [.int x1, .int s2, .int s1, .ref h0]) S hK hA hP hD hS (fr_Q u) (kcX6_quotient l D cB cI h0 h1 h2 h3 h4 h5 H.size s1 s2 x1 u _ hw) (cwV 3 hts gX6_byOne_X6_quotient rfl rfl rfl (by decide +kernel) ⟨Nat.le_of_ble_eq_true rfl, Nat.le_of_ble_eq_true rfl⟩) tru_h tru_b 0 rfl rfl rfl rfl rfl hl.1 (Nat.le_of_ble_eq_true rfl) dX6_byOne_141 ⟨Nat.zero_le _, Nat.zero_le _⟩ (fun r26 u25 H locs hP hD hS hw => ?_)
    replace hP : va_P D vwCl (WQ cI h0 h1 h2 h3 h4 h5 u25) H := hP
    replace hD : va_D A (WQ cI h0 h1 h2 h3 h4 h5 u25) := hD
    refine lv_if_ne (tgt := 152) hx hb dX6_byOne_144 (by decide) (fun c27 => ?_) (fun c27 => ?_)
    · replace hw := hw.2 c27
      exact rt_v (wo := (fun v => WQ cI h0 h1 h2 h3 h4 h5 v)) S hr hlk u25 hP hS hw dX6_byOne_152
    · replace hw := hw.1 c27
      refine lv_aload_n hx hb dX6_byOne_147 rfl (lv_at hl 0 rfl) ?_
      refine lv_iconst (v := (0 : Int32)) hx hb dX6_byOne_148 (by decide) ?_
      refine cl_Vv (As := [.int (0 : Int32)]) (rest := []) (st := [.int (0 : Int32), .ref h0]) S hK hA hP hD hS (fr_Q u25) (kcX6_interrupt l D cB cI h0 h1 h2 h3 h4 h5 H.size (0 : Int32) u25 _ hw) (cwV 1 hts gX6_byOne_X6_interrupt rfl rfl rfl (by decide +kernel) ⟨Nat.le_of_ble_eq_true rfl, Nat.le_of_ble_eq_true rfl⟩) tru_h tru_b 0 rfl rfl rfl rfl rfl hl.1 (Nat.le_of_ble_eq_true rfl) dX6_byOne_149 ⟨Nat.zero_le _, Nat.zero_le _⟩ (fun u28 H locs hP hD hS hw => ?_)
      replace hP : va_P D vwCl (WQ cI h0 h1 h2 h3 h4 h5 u28) H := hP
      replace hD : va_D A (WQ cI h0 h1 h2 h3 h4 h5 u28) := hD
      exact rt_v (wo := (fun v => WQ cI h0 h1 h2 h3 h4 h5 v)) S hr hlk u28 hP hS hw dX6_byOne_152
  have b117 : ∀ (x1 : Int32) (s1 : Int32) (s2 : Int32) (u : SQ) (H : Heap) (locs : List Loc) (ls : Array Slot), va_P D vwCl (WQ cI h0 h1 h2 h3 h4 h5 u) H → va_D A (WQ cI h0 h1 h2 h3 h4 h5 u) → va_S A s.heap H locs → lv_has ls 4 [(1, .int x1)] → wX6_byOne_b117  P x1 s1 s2 u → W p l e ({ frames := 4, cells := 0, slots := 0, locals := 98 } : Room) s m ([.ref h0] : List Value).toArray below meth c H locs 0 0 (MQ below (va_Qv P (fun u t => va_P D vwCl (WQ cI h0 h1 h2 h3 h4 h5 u) t.heap) A) ([.ref h0] : List Value).toArray s 0 0 A) (F0 m 117 ls [.int s2, .int s1, .ref h0]) := by
    intro x1 s1 s2 u H locs ls hP hD hS hl hw
    unfold wX6_byOne_b117 at hw
    refine lv_iload_n hx hb dX6_byOne_117 rfl (lv_at hl 0 rfl) ?_
    refine cl_Vv (As := [.int s1, .int s2, .int x1]) (rest := []) (st := [.int x1, .int s2, .int s1, .ref h0]) S hK hA hP hD hS (fr_Q u) (kcX6_product l D cB cI h0 h1 h2 h3 h4 h5 H.size s1 s2 x1 u _ hw) (cwV 3 hts gX6_byOne_X6_product rfl rfl rfl (by decide +kernel) ⟨Nat.le_of_ble_eq_true rfl, Nat.le_of_ble_eq_true rfl⟩) tru_h tru_b 0 rfl rfl rfl rfl rfl hl.1 (Nat.le_of_ble_eq_true rfl) dX6_byOne_118 ⟨Nat.zero_le _, Nat.zero_le _⟩ (fun u23 H locs hP hD hS hw => ?_)
    replace hP : va_P D vwCl (WQ cI h0 h1 h2 h3 h4 h5 u23) H := hP
    replace hD : va_D A (WQ cI h0 h1 h2 h3 h4 h5 u23) := hD
    refine lv_goto (tgt := 152) hx hb dX6_byOne_121 (by decide) ?_
    exact rt_v (wo := (fun v => WQ cI h0 h1 h2 h3 h4 h5 v)) S hr hlk u23 hP hS hw dX6_byOne_152
  have b102 : ∀ (x1 : Int32) (x2 : Int32) (u : SQ) (H : Heap) (locs : List Loc) (ls : Array Slot), va_P D vwCl (WQ cI h0 h1 h2 h3 h4 h5 u) H → va_D A (WQ cI h0 h1 h2 h3 h4 h5 u) → va_S A s.heap H locs → lv_has ls 4 [(0, .ref h0), (1, .int x1), (2, .int x2)] → wX6_byOne_b102  P x1 x2 u → W p l e ({ frames := 4, cells := 0, slots := 0, locals := 98 } : Room) s m ([.ref h0] : List Value).toArray below meth c H locs 0 0 (MQ below (va_Qv P (fun u t => va_P D vwCl (WQ cI h0 h1 h2 h3 h4 h5 u) t.heap) A) ([.ref h0] : List Value).toArray s 0 0 A) (F0 m 102 ls []) := by
    intro x1 x2 u H locs ls hP hD hS hl hw
    unfold wX6_byOne_b102 at hw
    refine lv_aload_n hx hb dX6_byOne_102 rfl (lv_at hl 0 rfl) ?_
    refine lv_iload_n hx hb dX6_byOne_103 rfl (lv_at hl 2 rfl) ?_
    refine lv_aload_n hx hb dX6_byOne_104 rfl (lv_at hl 0 rfl) ?_
    refine va_get (D := D) (ci := 6) (v := .int (q_r u)) (C := RX6) (T := TX6) (N := 29) hx hb hts i_X6 hown hK hP 0 rfl rfl 23 (by decide) f_130 (fun _ h9 => h9) rfl dX6_byOne_105 ?_
    refine lv_iconst (v := (5 : Int32)) hx hb dX6_byOne_108 (by decide) ?_
    refine lv_icmp_ne (tgt := 116) hx hb dX6_byOne_109 (by decide) (fun c22 => ?_) (fun c22 => ?_)
    · replace hw := hw.2 c22
      refine lv_iconst (v := (0 : Int32)) hx hb dX6_byOne_116 (by decide) ?_
      exact b117 x1 x2 (0 : Int32) u H locs ls hP hD hS (lv_sub hl [1] rfl) hw
    · replace hw := hw.1 c22
      refine lv_iconst (v := (1 : Int32)) hx hb dX6_byOne_112 (by decide) ?_
      refine lv_goto (tgt := 117) hx hb dX6_byOne_113 (by decide) ?_
      exact b117 x1 x2 (1 : Int32) u H locs ls hP hD hS (lv_sub hl [1] rfl) hw
  have b52 : ∀ (x1 : Int32) (x2 : Int32) (u : SQ) (H : Heap) (locs : List Loc) (ls : Array Slot), va_P D vwCl (WQ cI h0 h1 h2 h3 h4 h5 u) H → va_D A (WQ cI h0 h1 h2 h3 h4 h5 u) → va_S A s.heap H locs → lv_has ls 4 [(0, .ref h0), (1, .int x1), (2, .int x2)] → wX6_byOne_b52  P x1 x2 u → W p l e ({ frames := 4, cells := 0, slots := 0, locals := 98 } : Room) s m ([.ref h0] : List Value).toArray below meth c H locs 0 0 (MQ below (va_Qv P (fun u t => va_P D vwCl (WQ cI h0 h1 h2 h3 h4 h5 u) t.heap) A) ([.ref h0] : List Value).toArray s 0 0 A) (F0 m 52 ls []) := by
    intro x1 x2 u H locs ls hP hD hS hl hw
    unfold wX6_byOne_b52 at hw
    refine lv_aload_n hx hb dX6_byOne_52 rfl (lv_at hl 0 rfl) ?_
    refine lv_bipush (v := (8 : Int32)) hx hb dX6_byOne_53 (by decide) ?_
    refine lv_iload_n hx hb dX6_byOne_55 rfl (lv_at hl 2 rfl) ?_
    refine lv_aload_n hx hb dX6_byOne_56 rfl (lv_at hl 0 rfl) ?_
    refine va_get (D := D) (ci := 6) (v := .int (q_i u)) (C := RX6) (T := TX6) (N := 29) hx hb hts i_X6 hown hK hP 0 rfl rfl 27 (by decide) f_164 (fun _ h9 => h9) rfl dX6_byOne_57 ?_
    refine lv_iload_n hx hb dX6_byOne_60 rfl (lv_at hl 1 rfl) ?_
    refine cl_Vi (As := [.int (8 : Int32), .int x2, .int (q_i u), .int x1]) (rest := []) (st := [.int x1, .int (q_i u), .int x2, .int (8 : Int32), .ref h0]) S hK hA hP hD hS (fr_Q u) (kcX6_operation l D cB cI h0 h1 h2 h3 h4 h5 H.size (8 : Int32) x2 (q_i u) x1 u _ hw) (cwV 4 hts gX6_byOne_X6_operation rfl rfl rfl (by decide +kernel) ⟨Nat.le_of_ble_eq_true rfl, Nat.le_of_ble_eq_true rfl⟩) tru_h tru_b 0 rfl rfl rfl rfl rfl hl.1 (Nat.le_of_ble_eq_true rfl) dX6_byOne_61 ⟨Nat.zero_le _, Nat.zero_le _⟩ (fun r21 u20 H locs hP hD hS hw => ?_)
    replace hP : va_P D vwCl (WQ cI h0 h1 h2 h3 h4 h5 u20) H := hP
    replace hD : va_D A (WQ cI h0 h1 h2 h3 h4 h5 u20) := hD
    refine lv_istore_n (lv' := [(3, .int r21), (0, .ref h0), (1, .int x1), (2, .int x2)]) hx hb dX6_byOne_64 rfl hl (by decide) rfl (fun ls hl => ?_)
    refine lv_goto (tgt := 152) hx hb dX6_byOne_65 (by decide) ?_
    exact rt_v (wo := (fun v => WQ cI h0 h1 h2 h3 h4 h5 v)) S hr hlk u20 hP hS hw dX6_byOne_152
  unfold wX6_byOne at hw
  obtain ⟨H, eH⟩ : ∃ H, H = s.heap := ⟨_, rfl⟩
  obtain ⟨locs, eL⟩ : ∃ locs : List Loc, locs = [] := ⟨_, rfl⟩
  replace hP : va_P D vwCl (WQ cI h0 h1 h2 h3 h4 h5 u) H := by rw [eH]; exact hP
  replace hS : va_S A s.heap H locs := by rw [eH, eL]; exact hS
  suffices hgo : W p l e ({ frames := 4, cells := 0, slots := 0, locals := 98 } : Room) s m ([.ref h0] : List Value).toArray below meth c H locs 0 0 (MQ below (va_Qv P (fun u t => va_P D vwCl (WQ cI h0 h1 h2 h3 h4 h5 u) t.heap) A) ([.ref h0] : List Value).toArray s 0 0 A) (F0 m 0 ls []) by rw [eH, eL] at hgo; exact hgo
  clear eH eL
  refine lv_aload_n hx hb dX6_byOne_0 rfl (lv_at hl 0 rfl) ?_
  refine cl_Vi (As := []) (rest := []) (st := [.ref h0]) S hK hA hP hD hS (fr_Q u) (kcX6_isWide l D cB cI h0 h1 h2 h3 h4 h5 H.size  u _ hw) (cwV 0 hts gX6_byOne_X6_isWide rfl rfl rfl (by decide +kernel) ⟨Nat.le_of_ble_eq_true rfl, Nat.le_of_ble_eq_true rfl⟩) tru_h tru_b 0 rfl rfl rfl rfl rfl hl.1 (Nat.le_of_ble_eq_true rfl) dX6_byOne_1 ⟨Nat.zero_le _, Nat.zero_le _⟩ (fun r2 u1 H locs hP hD hS hw => ?_)
  replace hP : va_P D vwCl (WQ cI h0 h1 h2 h3 h4 h5 u1) H := hP
  replace hD : va_D A (WQ cI h0 h1 h2 h3 h4 h5 u1) := hD
  refine lv_istore_n (lv' := [(1, .int r2), (0, .ref h0)]) hx hb dX6_byOne_4 rfl hl (by decide) rfl (fun ls hl => ?_)
  refine lv_aload_n hx hb dX6_byOne_5 rfl (lv_at hl 1 rfl) ?_
  refine lv_iload_n hx hb dX6_byOne_6 rfl (lv_at hl 0 rfl) ?_
  refine cl_Vi (As := [.int r2]) (rest := []) (st := [.int r2, .ref h0]) S hK hA hP hD hS (fr_Q u1) (kcX6_operand l D cB cI h0 h1 h2 h3 h4 h5 H.size r2 u1 _ hw) (cwV 1 hts gX6_byOne_X6_operand rfl rfl rfl (by decide +kernel) ⟨Nat.le_of_ble_eq_true rfl, Nat.le_of_ble_eq_true rfl⟩) tru_h tru_b 0 rfl rfl rfl rfl rfl hl.1 (Nat.le_of_ble_eq_true rfl) dX6_byOne_7 ⟨Nat.zero_le _, Nat.zero_le _⟩ (fun r4 u3 H locs hP hD hS hw => ?_)
  replace hP : va_P D vwCl (WQ cI h0 h1 h2 h3 h4 h5 u3) H := hP
  replace hD : va_D A (WQ cI h0 h1 h2 h3 h4 h5 u3) := hD
  refine lv_istore_n (lv' := [(2, .int r4), (1, .int r2), (0, .ref h0)]) hx hb dX6_byOne_10 rfl hl (by decide) rfl (fun ls hl => ?_)
  refine lv_aload_n hx hb dX6_byOne_11 rfl (lv_at hl 2 rfl) ?_
  refine va_get (D := D) (ci := 6) (v := .int (q_r u3)) (C := RX6) (T := TX6) (N := 29) hx hb hts i_X6 hown hK hP 0 rfl rfl 23 (by decide) f_130 (fun _ h9 => h9) rfl dX6_byOne_12 ?_
  by_cases c5 : (q_r u3) = (0 : Int32)
  · replace hw := hw.1 c5
    refine lv_tableIn (off := 37) (tgt := 52) hx hb dX6_byOne_15 (by rw [c5]; decide) (by rw [c5]; decide) (by rw [c5]; rfl) (by decide) ?_
    exact b52 r2 r4 u3 H locs ls hP hD hS (lv_sub hl [2, 1, 0] rfl) hw
  replace hw := hw.2 c5
  by_cases c6 : (q_r u3) = (1 : Int32)
  · replace hw := hw.1 c6
    refine lv_tableIn (off := 37) (tgt := 52) hx hb dX6_byOne_15 (by rw [c6]; decide) (by rw [c6]; decide) (by rw [c6]; rfl) (by decide) ?_
    exact b52 r2 r4 u3 H locs ls hP hD hS (lv_sub hl [2, 1, 0] rfl) hw
  replace hw := hw.2 c6
  by_cases c7 : (q_r u3) = (2 : Int32)
  · replace hw := hw.1 c7
    refine lv_tableIn (off := 53) (tgt := 68) hx hb dX6_byOne_15 (by rw [c7]; decide) (by rw [c7]; decide) (by rw [c7]; rfl) (by decide) ?_
    refine lv_aload_n hx hb dX6_byOne_68 rfl (lv_at hl 2 rfl) ?_
    refine lv_iload_n hx hb dX6_byOne_69 rfl (lv_at hl 1 rfl) ?_
    refine lv_aload_n hx hb dX6_byOne_70 rfl (lv_at hl 2 rfl) ?_
    refine lv_bipush (v := (12 : Int32)) hx hb dX6_byOne_71 (by decide) ?_
    refine lv_iload_n hx hb dX6_byOne_73 rfl (lv_at hl 0 rfl) ?_
    refine lv_iconst (v := (0 : Int32)) hx hb dX6_byOne_74 (by decide) ?_
    refine lv_iload_n hx hb dX6_byOne_75 rfl (lv_at hl 1 rfl) ?_
    refine cl_Vi (As := [.int (12 : Int32), .int r4, .int (0 : Int32), .int r2]) (rest := [.int r2, .ref h0]) (st := [.int r2, .int (0 : Int32), .int r4, .int (12 : Int32), .ref h0, .int r2, .ref h0]) S hK hA hP hD hS (fr_Q u3) (kcX6_operation l D cB cI h0 h1 h2 h3 h4 h5 H.size (12 : Int32) r4 (0 : Int32) r2 u3 _ hw) (cwV 4 hts gX6_byOne_X6_operation rfl rfl rfl (by decide +kernel) ⟨Nat.le_of_ble_eq_true rfl, Nat.le_of_ble_eq_true rfl⟩) tru_h tru_b 0 rfl rfl rfl rfl rfl hl.1 (Nat.le_of_ble_eq_true rfl) dX6_byOne_76 ⟨Nat.zero_le _, Nat.zero_le _⟩ (fun r9 u8 H locs hP hD hS hw => ?_)
    replace hP : va_P D vwCl (WQ cI h0 h1 h2 h3 h4 h5 u8) H := hP
    replace hD : va_D A (WQ cI h0 h1 h2 h3 h4 h5 u8) := hD
    refine cl_Vv (As := [.int r2, .int r9]) (rest := []) (st := [.int r9, .int r2, .ref h0]) S hK hA hP hD hS (fr_Q u8) (kcX6_give l D cB cI h0 h1 h2 h3 h4 h5 H.size r2 r9 u8 _ hw) (cwV 2 hts gX6_byOne_X6_give rfl rfl rfl (by decide +kernel) ⟨Nat.le_of_ble_eq_true rfl, Nat.le_of_ble_eq_true rfl⟩) tru_h tru_b 0 rfl rfl rfl rfl rfl hl.1 (Nat.le_of_ble_eq_true rfl) dX6_byOne_79 ⟨Nat.zero_le _, Nat.zero_le _⟩ (fun u10 H locs hP hD hS hw => ?_)
    replace hP : va_P D vwCl (WQ cI h0 h1 h2 h3 h4 h5 u10) H := hP
    replace hD : va_D A (WQ cI h0 h1 h2 h3 h4 h5 u10) := hD
    refine lv_goto (tgt := 152) hx hb dX6_byOne_82 (by decide) ?_
    exact rt_v (wo := (fun v => WQ cI h0 h1 h2 h3 h4 h5 v)) S hr hlk u10 hP hS hw dX6_byOne_152
  replace hw := hw.2 c7
  by_cases c12 : (q_r u3) = (3 : Int32)
  · replace hw := hw.1 c12
    refine lv_tableIn (off := 70) (tgt := 85) hx hb dX6_byOne_15 (by rw [c12]; decide) (by rw [c12]; decide) (by rw [c12]; rfl) (by decide) ?_
    refine lv_aload_n hx hb dX6_byOne_85 rfl (lv_at hl 2 rfl) ?_
    refine lv_iload_n hx hb dX6_byOne_86 rfl (lv_at hl 1 rfl) ?_
    refine lv_aload_n hx hb dX6_byOne_87 rfl (lv_at hl 2 rfl) ?_
    refine lv_bipush (v := (11 : Int32)) hx hb dX6_byOne_88 (by decide) ?_
    refine lv_iload_n hx hb dX6_byOne_90 rfl (lv_at hl 0 rfl) ?_
    refine lv_iconst (v := (0 : Int32)) hx hb dX6_byOne_91 (by decide) ?_
    refine lv_iload_n hx hb dX6_byOne_92 rfl (lv_at hl 1 rfl) ?_
    refine cl_Vi (As := [.int (11 : Int32), .int r4, .int (0 : Int32), .int r2]) (rest := [.int r2, .ref h0]) (st := [.int r2, .int (0 : Int32), .int r4, .int (11 : Int32), .ref h0, .int r2, .ref h0]) S hK hA hP hD hS (fr_Q u3) (kcX6_operation l D cB cI h0 h1 h2 h3 h4 h5 H.size (11 : Int32) r4 (0 : Int32) r2 u3 _ hw) (cwV 4 hts gX6_byOne_X6_operation rfl rfl rfl (by decide +kernel) ⟨Nat.le_of_ble_eq_true rfl, Nat.le_of_ble_eq_true rfl⟩) tru_h tru_b 0 rfl rfl rfl rfl rfl hl.1 (Nat.le_of_ble_eq_true rfl) dX6_byOne_93 ⟨Nat.zero_le _, Nat.zero_le _⟩ (fun r14 u13 H locs hP hD hS hw => ?_)
    replace hP : va_P D vwCl (WQ cI h0 h1 h2 h3 h4 h5 u13) H := hP
    replace hD : va_D A (WQ cI h0 h1 h2 h3 h4 h5 u13) := hD
    refine cl_Vv (As := [.int r2, .int r14]) (rest := []) (st := [.int r14, .int r2, .ref h0]) S hK hA hP hD hS (fr_Q u13) (kcX6_give l D cB cI h0 h1 h2 h3 h4 h5 H.size r2 r14 u13 _ hw) (cwV 2 hts gX6_byOne_X6_give rfl rfl rfl (by decide +kernel) ⟨Nat.le_of_ble_eq_true rfl, Nat.le_of_ble_eq_true rfl⟩) tru_h tru_b 0 rfl rfl rfl rfl rfl hl.1 (Nat.le_of_ble_eq_true rfl) dX6_byOne_96 ⟨Nat.zero_le _, Nat.zero_le _⟩ (fun u15 H locs hP hD hS hw => ?_)
    replace hP : va_P D vwCl (WQ cI h0 h1 h2 h3 h4 h5 u15) H := hP
    replace hD : va_D A (WQ cI h0 h1 h2 h3 h4 h5 u15) := hD
    refine lv_goto (tgt := 152) hx hb dX6_byOne_99 (by decide) ?_
    exact rt_v (wo := (fun v => WQ cI h0 h1 h2 h3 h4 h5 v)) S hr hlk u15 hP hS hw dX6_byOne_152
  replace hw := hw.2 c12
  by_cases c17 : (q_r u3) = (4 : Int32)
  · replace hw := hw.1 c17
    refine lv_tableIn (off := 87) (tgt := 102) hx hb dX6_byOne_15 (by rw [c17]; decide) (by rw [c17]; decide) (by rw [c17]; rfl) (by decide) ?_
    exact b102 r2 r4 u3 H locs ls hP hD hS (lv_sub hl [2, 1, 0] rfl) hw
  replace hw := hw.2 c17
  by_cases c18 : (q_r u3) = (5 : Int32)
  · replace hw := hw.1 c18
    refine lv_tableIn (off := 87) (tgt := 102) hx hb dX6_byOne_15 (by rw [c18]; decide) (by rw [c18]; decide) (by rw [c18]; rfl) (by decide) ?_
    exact b102 r2 r4 u3 H locs ls hP hD hS (lv_sub hl [2, 1, 0] rfl) hw
  replace hw := hw.2 c18
  refine lv_tableOut (tgt := 124) hx hb dX6_byOne_15 (by have e_c5 : ¬ ((q_r u3) : Int32).toInt = 0 := sw_ne c5; have e_c6 : ¬ ((q_r u3) : Int32).toInt = 1 := sw_ne c6; have e_c7 : ¬ ((q_r u3) : Int32).toInt = 2 := sw_ne c7; have e_c12 : ¬ ((q_r u3) : Int32).toInt = 3 := sw_ne c12; have e_c17 : ¬ ((q_r u3) : Int32).toInt = 4 := sw_ne c17; have e_c18 : ¬ ((q_r u3) : Int32).toInt = 5 := sw_ne c18; omega) (by decide) ?_
  refine lv_aload_n hx hb dX6_byOne_124 rfl (lv_at hl 2 rfl) ?_
  refine lv_iload_n hx hb dX6_byOne_125 rfl (lv_at hl 0 rfl) ?_
  refine lv_aload_n hx hb dX6_byOne_126 rfl (lv_at hl 2 rfl) ?_
  refine va_get (D := D) (ci := 6) (v := .int (q_r u3)) (C := RX6) (T := TX6) (N := 29) hx hb hts i_X6 hown hK hP 0 rfl rfl 23 (by decide) f_130 (fun _ h9 => h9) rfl dX6_byOne_127 ?_
  refine lv_bipush (v := (7 : Int32)) hx hb dX6_byOne_130 (by decide) ?_
  refine lv_icmp_ne (tgt := 139) hx hb dX6_byOne_132 (by decide) (fun c19 => ?_) (fun c19 => ?_)
  · replace hw := hw.2 c19
    refine lv_iconst (v := (0 : Int32)) hx hb dX6_byOne_139 (by decide) ?_
    exact b140 r2 r4 (0 : Int32) u3 H locs ls hP hD hS (lv_sub hl [2, 1] rfl) hw
  · replace hw := hw.1 c19
    refine lv_iconst (v := (1 : Int32)) hx hb dX6_byOne_135 (by decide) ?_
    refine lv_goto (tgt := 140) hx hb dX6_byOne_136 (by decide) ?_
    exact b140 r2 r4 (1 : Int32) u3 H locs ls hP hD hS (lv_sub hl [2, 1] rfl) hw
-- X6_last
def wX6_last_b202  (P : SQ → Prop) (s1 : Int32) (s2 : Int32) (s4 : Int32) (u : SQ) : Prop := (wX6_put s1 s2 (1 : Int32) s4 u (fun u23 => (P u23)))
def wX6_last_b80  (P : SQ → Prop) (x1 : Int32) (x2 : Int32) (u : SQ) : Prop := (wX6_operation ((9 : Int32) + (q_r u)) x2 (0 : Int32) x1 u (fun r20 u19 => (wX6_give x1 r20 u19 (fun u21 => (P u21)))))
def wX6_last_b38  (P : SQ → Prop) (x1 : Int32) (x2 : Int32) (s0 : Int32) (u : SQ) : Prop := (((q_r u) = (0 : Int32) → (wX6_last_b80  P x1 x2 u)) ∧ (¬ (q_r u) = (0 : Int32) → (((q_r u) = (1 : Int32) → (wX6_last_b80  P x1 x2 u)) ∧ (¬ (q_r u) = (1 : Int32) → (((q_r u) = (2 : Int32) → (wX6_push (q_ip u) u (fun u11 => (P (qs_ip u11 x2))))) ∧ (¬ (q_r u) = (2 : Int32) → (((q_r u) = (3 : Int32) → (wX6_callFar x2 s0 u (fun u14 => (P u14)))) ∧ (¬ (q_r u) = (3 : Int32) → (((q_r u) = (4 : Int32) → (P (qs_ip u x2))) ∧ (¬ (q_r u) = (4 : Int32) → (((q_r u) = (5 : Int32) → (vp_in (1 : Int32) 4 ∧ (P (qs_ip (qs_segments u (upd (q_segments u) (1 : Int32).toNatClampNeg s0)) x2)))) ∧ (¬ (q_r u) = (5 : Int32) → (vp_in (4 : Int32) 8 ∧ (vp_in (4 : Int32) 8 ∧ (vp_in (2 : Int32) 4 ∧ (vp_in (4 : Int32) 8 ∧ (((q_mode u) = (3 : Int32) → (vp_in (q_m u) 8 ∧ (wX6_last_b202  P ((q_segments u) (2 : Int32).toNatClampNeg) ((upd (q_registers u) (4 : Int32).toNatClampNeg ((((q_registers u) (4 : Int32).toNatClampNeg) - (2 : Int32)) &&& (65535 : Int32))) (4 : Int32).toNatClampNeg) ((upd (q_registers u) (4 : Int32).toNatClampNeg ((((q_registers u) (4 : Int32).toNatClampNeg) - (2 : Int32)) &&& (65535 : Int32))) (q_m u).toNatClampNeg) (qs_registers u (upd (q_registers u) (4 : Int32).toNatClampNeg ((((q_registers u) (4 : Int32).toNatClampNeg) - (2 : Int32)) &&& (65535 : Int32))))))) ∧ (¬ (q_mode u) = (3 : Int32) → (wX6_last_b202  P ((q_segments u) (2 : Int32).toNatClampNeg) ((upd (q_registers u) (4 : Int32).toNatClampNeg ((((q_registers u) (4 : Int32).toNatClampNeg) - (2 : Int32)) &&& (65535 : Int32))) (4 : Int32).toNatClampNeg) x2 (qs_registers u (upd (q_registers u) (4 : Int32).toNatClampNeg ((((q_registers u) (4 : Int32).toNatClampNeg) - (2 : Int32)) &&& (65535 : Int32)))))))))))))))))))))))
def wX6_last  (u : SQ) (P : SQ → Prop) : Prop := (wX6_isWide  u (fun r2 u1 => (wX6_operand r2 u1 (fun r4 u3 => (((q_mode u3) = (3 : Int32) → (wX6_last_b38  P r2 r4 (0 : Int32) u3)) ∧ (¬ (q_mode u3) = (3 : Int32) → (wX6_get (q_place u3) ((q_offset u3) + (2 : Int32)) (1 : Int32) u3 (fun r7 u6 => (wX6_last_b38  P r2 r4 r7 u6)))))))))
set_option maxHeartbeats 4000000 in
set_option maxRecDepth 100000 in
theorem kcX6_last (l : Launch) (D : va_G) (cB cI : ClassId) (h0 h1 h2 h3 h4 h5 : Nat) (sz : Nat)  (u : SQ) (P : SQ → Prop) (hw : wX6_last  u P) : Met l yX6_last wsX6_last ({ frames := 4, cells := 0, slots := 0, locals := 98 } : Room) (va_Pc [.ref h0] (Pcw D (tyA cB cI) (WQ cI h0 h1 h2 h3 h4 h5 u) sz Tru)) (va_Qv P (fun u t => va_P D vwCl (WQ cI h0 h1 h2 h3 h4 h5 u) t.heap) (va_A (WQ cI h0 h1 h2 h3 h4 h5 u) sz)) 0 0 (va_A (WQ cI h0 h1 h2 h3 h4 h5 u) sz) := by
  refine en_ (cc := cX6_last) (maxL := 4) (ret := none) (own := RX6) (lv := [(0, .ref h0)]) (Qf := fun A => va_Qv P (fun u t => va_P D vwCl (WQ cI h0 h1 h2 h3 h4 h5 u) t.heap) A) (by decide) rfl rfl (Nat.le_of_ble_eq_true rfl) rfl ?_
  intro p e s m below meth c A ls S hr hlk hname hsz hP hK hD hA hSub hS hE hl
  have hx := S.1
  have hb := S.2.1
  have hown := S.2.2.2.1
  have hts := S.2.2.2.2
  have i_X6 : ∀ w ∈ u_ws RX6 TX6 29, w ∈ wsX6_last := by decide +kernel
  have f_7 := hts (.fieldLink RX6 7 "MachineCoreModel" "registers" "[I") (by decide +kernel)
  have f_13 := hts (.fieldLink RX6 13 "MachineCoreModel" "segments" "[I") (by decide +kernel)
  have f_127 := hts (.fieldLink RX6 127 "MachineCoreModel" "mode" "I") (by decide +kernel)
  have f_130 := hts (.fieldLink RX6 130 "MachineCoreModel" "r" "I") (by decide +kernel)
  have f_133 := hts (.fieldLink RX6 133 "MachineCoreModel" "m" "I") (by decide +kernel)
  have f_139 := hts (.fieldLink RX6 139 "MachineCoreModel" "offset" "I") (by decide +kernel)
  have f_145 := hts (.fieldLink RX6 145 "MachineCoreModel" "place" "I") (by decide +kernel)
  have f_170 := hts (.fieldLink RX6 170 "MachineCoreModel" "ip" "I") (by decide +kernel)
  have k_39 := hts (.constant RX6 39 (65535)) (by decide +kernel)
  have b202 : ∀ (s1 : Int32) (s2 : Int32) (s4 : Int32) (u : SQ) (H : Heap) (locs : List Loc) (ls : Array Slot), va_P D vwCl (WQ cI h0 h1 h2 h3 h4 h5 u) H → va_D A (WQ cI h0 h1 h2 h3 h4 h5 u) → va_S A s.heap H locs → lv_has ls 4 [] → wX6_last_b202  P s1 s2 s4 u → W p l e ({ frames := 4, cells := 0, slots := 0, locals := 98 } : Room) s m ([.ref h0] : List Value).toArray below meth c H locs 0 0 (MQ below (va_Qv P (fun u t => va_P D vwCl (WQ cI h0 h1 h2 h3 h4 h5 u) t.heap) A) ([.ref h0] : List Value).toArray s 0 0 A) (F0 m 202 ls [.int s4, .int (1 : Int32), .int s2, .int s1, .ref h0]) := by
    intro s1 s2 s4 u H locs ls hP hD hS hl hw
    unfold wX6_last_b202 at hw
    refine cl_Vv (As := [.int s1, .int s2, .int (1 : Int32), .int s4]) (rest := []) (st := [.int s4, .int (1 : Int32), .int s2, .int s1, .ref h0]) S hK hA hP hD hS (fr_Q u) (kcX6_put l D cB cI h0 h1 h2 h3 h4 h5 H.size s1 s2 (1 : Int32) s4 u _ hw) (cwV 4 hts gX6_last_X6_put rfl rfl rfl (by decide +kernel) ⟨Nat.le_of_ble_eq_true rfl, Nat.le_of_ble_eq_true rfl⟩) tru_h tru_b 0 rfl rfl rfl rfl rfl hl.1 (Nat.le_of_ble_eq_true rfl) dX6_last_202 ⟨Nat.zero_le _, Nat.zero_le _⟩ (fun u23 H locs hP hD hS hw => ?_)
    replace hP : va_P D vwCl (WQ cI h0 h1 h2 h3 h4 h5 u23) H := hP
    replace hD : va_D A (WQ cI h0 h1 h2 h3 h4 h5 u23) := hD
    exact rt_v (wo := (fun v => WQ cI h0 h1 h2 h3 h4 h5 v)) S hr hlk u23 hP hS hw dX6_last_205
  have b80 : ∀ (x1 : Int32) (x2 : Int32) (u : SQ) (H : Heap) (locs : List Loc) (ls : Array Slot), va_P D vwCl (WQ cI h0 h1 h2 h3 h4 h5 u) H → va_D A (WQ cI h0 h1 h2 h3 h4 h5 u) → va_S A s.heap H locs → lv_has ls 4 [(0, .ref h0), (1, .int x1), (2, .int x2)] → wX6_last_b80  P x1 x2 u → W p l e ({ frames := 4, cells := 0, slots := 0, locals := 98 } : Room) s m ([.ref h0] : List Value).toArray below meth c H locs 0 0 (MQ below (va_Qv P (fun u t => va_P D vwCl (WQ cI h0 h1 h2 h3 h4 h5 u) t.heap) A) ([.ref h0] : List Value).toArray s 0 0 A) (F0 m 80 ls []) := by
    intro x1 x2 u H locs ls hP hD hS hl hw
    unfold wX6_last_b80 at hw
    refine lv_aload_n hx hb dX6_last_80 rfl (lv_at hl 0 rfl) ?_
    refine lv_iload_n hx hb dX6_last_81 rfl (lv_at hl 1 rfl) ?_
    refine lv_aload_n hx hb dX6_last_82 rfl (lv_at hl 0 rfl) ?_
    refine lv_bipush (v := (9 : Int32)) hx hb dX6_last_83 (by decide) ?_
    refine lv_aload_n hx hb dX6_last_85 rfl (lv_at hl 0 rfl) ?_
    refine va_get (D := D) (ci := 6) (v := .int (q_r u)) (C := RX6) (T := TX6) (N := 29) hx hb hts i_X6 hown hK hP 0 rfl rfl 23 (by decide) f_130 (fun _ h9 => h9) rfl dX6_last_86 ?_
    refine lv_iadd hx hb dX6_last_89 ?_
    refine lv_iload_n hx hb dX6_last_90 rfl (lv_at hl 2 rfl) ?_
    refine lv_iconst (v := (0 : Int32)) hx hb dX6_last_91 (by decide) ?_
    refine lv_iload_n hx hb dX6_last_92 rfl (lv_at hl 1 rfl) ?_
    refine cl_Vi (As := [.int ((9 : Int32) + (q_r u)), .int x2, .int (0 : Int32), .int x1]) (rest := [.int x1, .ref h0]) (st := [.int x1, .int (0 : Int32), .int x2, .int ((9 : Int32) + (q_r u)), .ref h0, .int x1, .ref h0]) S hK hA hP hD hS (fr_Q u) (kcX6_operation l D cB cI h0 h1 h2 h3 h4 h5 H.size ((9 : Int32) + (q_r u)) x2 (0 : Int32) x1 u _ hw) (cwV 4 hts gX6_last_X6_operation rfl rfl rfl (by decide +kernel) ⟨Nat.le_of_ble_eq_true rfl, Nat.le_of_ble_eq_true rfl⟩) tru_h tru_b 0 rfl rfl rfl rfl rfl hl.1 (Nat.le_of_ble_eq_true rfl) dX6_last_93 ⟨Nat.zero_le _, Nat.zero_le _⟩ (fun r20 u19 H locs hP hD hS hw => ?_)
    replace hP : va_P D vwCl (WQ cI h0 h1 h2 h3 h4 h5 u19) H := hP
    replace hD : va_D A (WQ cI h0 h1 h2 h3 h4 h5 u19) := hD
    refine cl_Vv (As := [.int x1, .int r20]) (rest := []) (st := [.int r20, .int x1, .ref h0]) S hK hA hP hD hS (fr_Q u19) (kcX6_give l D cB cI h0 h1 h2 h3 h4 h5 H.size x1 r20 u19 _ hw) (cwV 2 hts gX6_last_X6_give rfl rfl rfl (by decide +kernel) ⟨Nat.le_of_ble_eq_true rfl, Nat.le_of_ble_eq_true rfl⟩) tru_h tru_b 0 rfl rfl rfl rfl rfl hl.1 (Nat.le_of_ble_eq_true rfl) dX6_last_96 ⟨Nat.zero_le _, Nat.zero_le _⟩ (fun u21 H locs hP hD hS hw => ?_)
    replace hP : va_P D vwCl (WQ cI h0 h1 h2 h3 h4 h5 u21) H := hP
    replace hD : va_D A (WQ cI h0 h1 h2 h3 h4 h5 u21) := hD
    refine lv_goto (tgt := 205) hx hb dX6_last_99 (by decide) ?_
    exact rt_v (wo := (fun v => WQ cI h0 h1 h2 h3 h4 h5 v)) S hr hlk u21 hP hS hw dX6_last_205
  have b38 : ∀ (x1 : Int32) (x2 : Int32) (s0 : Int32) (u : SQ) (H : Heap) (locs : List Loc) (ls : Array Slot), va_P D vwCl (WQ cI h0 h1 h2 h3 h4 h5 u) H → va_D A (WQ cI h0 h1 h2 h3 h4 h5 u) → va_S A s.heap H locs → lv_has ls 4 [(0, .ref h0), (1, .int x1), (2, .int x2)] → wX6_last_b38  P x1 x2 s0 u → W p l e ({ frames := 4, cells := 0, slots := 0, locals := 98 } : Room) s m ([.ref h0] : List Value).toArray below meth c H locs 0 0 (MQ below (va_Qv P (fun u t => va_P D vwCl (WQ cI h0 h1 h2 h3 h4 h5 u) t.heap) A) ([.ref h0] : List Value).toArray s 0 0 A) (F0 m 38 ls [.int s0]) := by
    intro x1 x2 s0 u H locs ls hP hD hS hl hw
    unfold wX6_last_b38 at hw
    refine lv_istore_n (lv' := [(3, .int s0), (0, .ref h0), (1, .int x1), (2, .int x2)]) hx hb dX6_last_38 rfl hl (by decide) rfl (fun ls hl => ?_)
    refine lv_aload_n hx hb dX6_last_39 rfl (lv_at hl 1 rfl) ?_
    refine va_get (D := D) (ci := 6) (v := .int (q_r u)) (C := RX6) (T := TX6) (N := 29) hx hb hts i_X6 hown hK hP 0 rfl rfl 23 (by decide) f_130 (fun _ h9 => h9) rfl dX6_last_40 ?_
    by_cases c8 : (q_r u) = (0 : Int32)
    · replace hw := hw.1 c8
      refine lv_tableIn (off := 37) (tgt := 80) hx hb dX6_last_43 (by rw [c8]; decide) (by rw [c8]; decide) (by rw [c8]; rfl) (by decide) ?_
      exact b80 x1 x2 u H locs ls hP hD hS (lv_sub hl [1, 2, 3] rfl) hw
    replace hw := hw.2 c8
    by_cases c9 : (q_r u) = (1 : Int32)
    · replace hw := hw.1 c9
      refine lv_tableIn (off := 37) (tgt := 80) hx hb dX6_last_43 (by rw [c9]; decide) (by rw [c9]; decide) (by rw [c9]; rfl) (by decide) ?_
      exact b80 x1 x2 u H locs ls hP hD hS (lv_sub hl [1, 2, 3] rfl) hw
    replace hw := hw.2 c9
    by_cases c10 : (q_r u) = (2 : Int32)
    · replace hw := hw.1 c10
      refine lv_tableIn (off := 59) (tgt := 102) hx hb dX6_last_43 (by rw [c10]; decide) (by rw [c10]; decide) (by rw [c10]; rfl) (by decide) ?_
      refine lv_aload_n hx hb dX6_last_102 rfl (lv_at hl 1 rfl) ?_
      refine lv_aload_n hx hb dX6_last_103 rfl (lv_at hl 1 rfl) ?_
      refine va_get (D := D) (ci := 6) (v := .int (q_ip u)) (C := RX6) (T := TX6) (N := 29) hx hb hts i_X6 hown hK hP 0 rfl rfl 3 (by decide) f_170 (fun _ h9 => h9) rfl dX6_last_104 ?_
      refine cl_Vv (As := [.int (q_ip u)]) (rest := []) (st := [.int (q_ip u), .ref h0]) S hK hA hP hD hS (fr_Q u) (kcX6_push l D cB cI h0 h1 h2 h3 h4 h5 H.size (q_ip u) u _ hw) (cwV 1 hts gX6_last_X6_push rfl rfl rfl (by decide +kernel) ⟨Nat.le_of_ble_eq_true rfl, Nat.le_of_ble_eq_true rfl⟩) tru_h tru_b 0 rfl rfl rfl rfl rfl hl.1 (Nat.le_of_ble_eq_true rfl) dX6_last_107 ⟨Nat.zero_le _, Nat.zero_le _⟩ (fun u11 H locs hP hD hS hw => ?_)
      replace hP : va_P D vwCl (WQ cI h0 h1 h2 h3 h4 h5 u11) H := hP
      replace hD : va_D A (WQ cI h0 h1 h2 h3 h4 h5 u11) := hD
      refine lv_aload_n hx hb dX6_last_110 rfl (lv_at hl 1 rfl) ?_
      refine lv_iload_n hx hb dX6_last_111 rfl (lv_at hl 3 rfl) ?_
      refine va_put (D := D) (ci := 6) (v := .int x2) (ty := .int) (C := RX6) (T := TX6) (N := 29) hx hb hts i_X6 tyX6 tyX6_ok nmX6 hown hK hP hD hS 0 rfl rfl 3 (by decide) f_170 (fun _ h9 => h9) rfl (by decide +kernel) rfl rfl (Nat.le_of_ble_eq_true rfl) dX6_last_112 (fun H locs hP hD hS => ?_)
      replace hP : va_P D vwCl (WQ cI h0 h1 h2 h3 h4 h5 (qs_ip u11 x2)) H := hP
      replace hD : va_D A (WQ cI h0 h1 h2 h3 h4 h5 (qs_ip u11 x2)) := hD
      refine lv_goto (tgt := 205) hx hb dX6_last_115 (by decide) ?_
      exact rt_v (wo := (fun v => WQ cI h0 h1 h2 h3 h4 h5 v)) S hr hlk (qs_ip u11 x2) hP hS hw dX6_last_205
    replace hw := hw.2 c10
    by_cases c13 : (q_r u) = (3 : Int32)
    · replace hw := hw.1 c13
      refine lv_tableIn (off := 75) (tgt := 118) hx hb dX6_last_43 (by rw [c13]; decide) (by rw [c13]; decide) (by rw [c13]; rfl) (by decide) ?_
      refine lv_aload_n hx hb dX6_last_118 rfl (lv_at hl 1 rfl) ?_
      refine lv_iload_n hx hb dX6_last_119 rfl (lv_at hl 3 rfl) ?_
      refine lv_iload_n hx hb dX6_last_120 rfl (lv_at hl 0 rfl) ?_
      refine cl_Vv (As := [.int x2, .int s0]) (rest := []) (st := [.int s0, .int x2, .ref h0]) S hK hA hP hD hS (fr_Q u) (kcX6_callFar l D cB cI h0 h1 h2 h3 h4 h5 H.size x2 s0 u _ hw) (cwV 2 hts gX6_last_X6_callFar rfl rfl rfl (by decide +kernel) ⟨Nat.le_of_ble_eq_true rfl, Nat.le_of_ble_eq_true rfl⟩) tru_h tru_b 0 rfl rfl rfl rfl rfl hl.1 (Nat.le_of_ble_eq_true rfl) dX6_last_121 ⟨Nat.zero_le _, Nat.zero_le _⟩ (fun u14 H locs hP hD hS hw => ?_)
      replace hP : va_P D vwCl (WQ cI h0 h1 h2 h3 h4 h5 u14) H := hP
      replace hD : va_D A (WQ cI h0 h1 h2 h3 h4 h5 u14) := hD
      refine lv_goto (tgt := 205) hx hb dX6_last_124 (by decide) ?_
      exact rt_v (wo := (fun v => WQ cI h0 h1 h2 h3 h4 h5 v)) S hr hlk u14 hP hS hw dX6_last_205
    replace hw := hw.2 c13
    by_cases c16 : (q_r u) = (4 : Int32)
    · replace hw := hw.1 c16
      refine lv_tableIn (off := 84) (tgt := 127) hx hb dX6_last_43 (by rw [c16]; decide) (by rw [c16]; decide) (by rw [c16]; rfl) (by decide) ?_
      refine lv_aload_n hx hb dX6_last_127 rfl (lv_at hl 1 rfl) ?_
      refine lv_iload_n hx hb dX6_last_128 rfl (lv_at hl 3 rfl) ?_
      refine va_put (D := D) (ci := 6) (v := .int x2) (ty := .int) (C := RX6) (T := TX6) (N := 29) hx hb hts i_X6 tyX6 tyX6_ok nmX6 hown hK hP hD hS 0 rfl rfl 3 (by decide) f_170 (fun _ h9 => h9) rfl (by decide +kernel) rfl rfl (Nat.le_of_ble_eq_true rfl) dX6_last_129 (fun H locs hP hD hS => ?_)
      replace hP : va_P D vwCl (WQ cI h0 h1 h2 h3 h4 h5 (qs_ip u x2)) H := hP
      replace hD : va_D A (WQ cI h0 h1 h2 h3 h4 h5 (qs_ip u x2)) := hD
      refine lv_goto (tgt := 205) hx hb dX6_last_132 (by decide) ?_
      exact rt_v (wo := (fun v => WQ cI h0 h1 h2 h3 h4 h5 v)) S hr hlk (qs_ip u x2) hP hS hw dX6_last_205
    replace hw := hw.2 c16
    by_cases c17 : (q_r u) = (5 : Int32)
    · replace hw := hw.1 c17
      refine lv_tableIn (off := 92) (tgt := 135) hx hb dX6_last_43 (by rw [c17]; decide) (by rw [c17]; decide) (by rw [c17]; rfl) (by decide) ?_
      refine lv_aload_n hx hb dX6_last_135 rfl (lv_at hl 1 rfl) ?_
      refine lv_iload_n hx hb dX6_last_136 rfl (lv_at hl 3 rfl) ?_
      refine va_put (D := D) (ci := 6) (v := .int x2) (ty := .int) (C := RX6) (T := TX6) (N := 29) hx hb hts i_X6 tyX6 tyX6_ok nmX6 hown hK hP hD hS 0 rfl rfl 3 (by decide) f_170 (fun _ h9 => h9) rfl (by decide +kernel) rfl rfl (Nat.le_of_ble_eq_true rfl) dX6_last_137 (fun H locs hP hD hS => ?_)
      replace hP : va_P D vwCl (WQ cI h0 h1 h2 h3 h4 h5 (qs_ip u x2)) H := hP
      replace hD : va_D A (WQ cI h0 h1 h2 h3 h4 h5 (qs_ip u x2)) := hD
      refine lv_aload_n hx hb dX6_last_140 rfl (lv_at hl 1 rfl) ?_
      refine va_get (D := D) (ci := 6) (v := .ref h2) (C := RX6) (T := TX6) (N := 29) hx hb hts i_X6 hown hK hP 0 rfl rfl 2 (by decide) f_13 (fun _ h9 => h9) rfl dX6_last_141 ?_
      refine lv_iconst (v := (1 : Int32)) hx hb dX6_last_144 (by decide) ?_
      refine lv_iload_n hx hb dX6_last_145 rfl (lv_at hl 0 rfl) ?_
      refine va_iast hx hb hK hP hD hS 2 1 (f := (q_segments u)) rfl rfl hw.1 dX6_last_146 (fun H locs hP hD hS => ?_)
      replace hw := hw.2
      replace hP : va_P D vwCl (WQ cI h0 h1 h2 h3 h4 h5 (qs_ip (qs_segments u (upd (q_segments u) (1 : Int32).toNatClampNeg s0)) x2)) H := hP
      replace hD : va_D A (WQ cI h0 h1 h2 h3 h4 h5 (qs_ip (qs_segments u (upd (q_segments u) (1 : Int32).toNatClampNeg s0)) x2)) := hD
      refine lv_goto (tgt := 205) hx hb dX6_last_147 (by decide) ?_
      exact rt_v (wo := (fun v => WQ cI h0 h1 h2 h3 h4 h5 v)) S hr hlk (qs_ip (qs_segments u (upd (q_segments u) (1 : Int32).toNatClampNeg s0)) x2) hP hS hw dX6_last_205
    replace hw := hw.2 c17
    refine lv_tableOut (tgt := 150) hx hb dX6_last_43 (by have e_c8 : ¬ ((q_r u) : Int32).toInt = 0 := sw_ne c8; have e_c9 : ¬ ((q_r u) : Int32).toInt = 1 := sw_ne c9; have e_c10 : ¬ ((q_r u) : Int32).toInt = 2 := sw_ne c10; have e_c13 : ¬ ((q_r u) : Int32).toInt = 3 := sw_ne c13; have e_c16 : ¬ ((q_r u) : Int32).toInt = 4 := sw_ne c16; have e_c17 : ¬ ((q_r u) : Int32).toInt = 5 := sw_ne c17; omega) (by decide) ?_
    refine lv_aload_n hx hb dX6_last_150 rfl (lv_at hl 1 rfl) ?_
    refine va_get (D := D) (ci := 6) (v := .ref h1) (C := RX6) (T := TX6) (N := 29) hx hb hts i_X6 hown hK hP 0 rfl rfl 1 (by decide) f_7 (fun _ h9 => h9) rfl dX6_last_151 ?_
    refine lv_iconst (v := (4 : Int32)) hx hb dX6_last_154 (by decide) ?_
    refine lv_aload_n hx hb dX6_last_155 rfl (lv_at hl 1 rfl) ?_
    refine va_get (D := D) (ci := 6) (v := .ref h1) (C := RX6) (T := TX6) (N := 29) hx hb hts i_X6 hown hK hP 0 rfl rfl 1 (by decide) f_7 (fun _ h9 => h9) rfl dX6_last_156 ?_
    refine lv_iconst (v := (4 : Int32)) hx hb dX6_last_159 (by decide) ?_
    refine va_iald hx hb hK hP 1 1 (f := (q_registers u)) rfl rfl hw.1 dX6_last_160 ?_
    replace hw := hw.2
    refine lv_iconst (v := (2 : Int32)) hx hb dX6_last_161 (by decide) ?_
    refine lv_isub hx hb dX6_last_162 ?_
    refine lv_ldc (v := (65535 : Int32)) hx hb hown k_39 dX6_last_163 ?_
    refine lv_iand hx hb dX6_last_165 ?_
    refine va_iast hx hb hK hP hD hS 1 1 (f := (q_registers u)) rfl rfl hw.1 dX6_last_166 (fun H locs hP hD hS => ?_)
    replace hw := hw.2
    replace hP : va_P D vwCl (WQ cI h0 h1 h2 h3 h4 h5 (qs_registers u (upd (q_registers u) (4 : Int32).toNatClampNeg ((((q_registers u) (4 : Int32).toNatClampNeg) - (2 : Int32)) &&& (65535 : Int32))))) H := hP
    replace hD : va_D A (WQ cI h0 h1 h2 h3 h4 h5 (qs_registers u (upd (q_registers u) (4 : Int32).toNatClampNeg ((((q_registers u) (4 : Int32).toNatClampNeg) - (2 : Int32)) &&& (65535 : Int32))))) := hD
    refine lv_aload_n hx hb dX6_last_167 rfl (lv_at hl 1 rfl) ?_
    refine lv_aload_n hx hb dX6_last_168 rfl (lv_at hl 1 rfl) ?_
    refine va_get (D := D) (ci := 6) (v := .ref h2) (C := RX6) (T := TX6) (N := 29) hx hb hts i_X6 hown hK hP 0 rfl rfl 2 (by decide) f_13 (fun _ h9 => h9) rfl dX6_last_169 ?_
    refine lv_iconst (v := (2 : Int32)) hx hb dX6_last_172 (by decide) ?_
    refine va_iald hx hb hK hP 2 1 (f := (q_segments u)) rfl rfl hw.1 dX6_last_173 ?_
    replace hw := hw.2
    refine lv_aload_n hx hb dX6_last_174 rfl (lv_at hl 1 rfl) ?_
    refine va_get (D := D) (ci := 6) (v := .ref h1) (C := RX6) (T := TX6) (N := 29) hx hb hts i_X6 hown hK hP 0 rfl rfl 1 (by decide) f_7 (fun _ h9 => h9) rfl dX6_last_175 ?_
    refine lv_iconst (v := (4 : Int32)) hx hb dX6_last_178 (by decide) ?_
    refine va_iald hx hb hK hP 1 1 (f := (upd (q_registers u) (4 : Int32).toNatClampNeg ((((q_registers u) (4 : Int32).toNatClampNeg) - (2 : Int32)) &&& (65535 : Int32)))) rfl rfl hw.1 dX6_last_179 ?_
    replace hw := hw.2
    refine lv_iconst (v := (1 : Int32)) hx hb dX6_last_180 (by decide) ?_
    refine lv_aload_n hx hb dX6_last_181 rfl (lv_at hl 1 rfl) ?_
    refine va_get (D := D) (ci := 6) (v := .int (q_mode u)) (C := RX6) (T := TX6) (N := 29) hx hb hts i_X6 hown hK hP 0 rfl rfl 22 (by decide) f_127 (fun _ h9 => h9) rfl dX6_last_182 ?_
    refine lv_iconst (v := (3 : Int32)) hx hb dX6_last_185 (by decide) ?_
    refine lv_icmp_ne (tgt := 201) hx hb dX6_last_186 (by decide) (fun c18 => ?_) (fun c18 => ?_)
    · replace hw := hw.2 c18
      refine lv_iload_n hx hb dX6_last_201 rfl (lv_at hl 3 rfl) ?_
      exact b202 ((q_segments u) (2 : Int32).toNatClampNeg) ((upd (q_registers u) (4 : Int32).toNatClampNeg ((((q_registers u) (4 : Int32).toNatClampNeg) - (2 : Int32)) &&& (65535 : Int32))) (4 : Int32).toNatClampNeg) x2 (qs_registers u (upd (q_registers u) (4 : Int32).toNatClampNeg ((((q_registers u) (4 : Int32).toNatClampNeg) - (2 : Int32)) &&& (65535 : Int32)))) H locs ls hP hD hS (lv_sub hl [] rfl) hw
    · replace hw := hw.1 c18
      refine lv_aload_n hx hb dX6_last_189 rfl (lv_at hl 1 rfl) ?_
      refine va_get (D := D) (ci := 6) (v := .ref h1) (C := RX6) (T := TX6) (N := 29) hx hb hts i_X6 hown hK hP 0 rfl rfl 1 (by decide) f_7 (fun _ h9 => h9) rfl dX6_last_190 ?_
      refine lv_aload_n hx hb dX6_last_193 rfl (lv_at hl 1 rfl) ?_
      refine va_get (D := D) (ci := 6) (v := .int (q_m u)) (C := RX6) (T := TX6) (N := 29) hx hb hts i_X6 hown hK hP 0 rfl rfl 24 (by decide) f_133 (fun _ h9 => h9) rfl dX6_last_194 ?_
      refine va_iald hx hb hK hP 1 1 (f := (upd (q_registers u) (4 : Int32).toNatClampNeg ((((q_registers u) (4 : Int32).toNatClampNeg) - (2 : Int32)) &&& (65535 : Int32)))) rfl rfl hw.1 dX6_last_197 ?_
      replace hw := hw.2
      refine lv_goto (tgt := 202) hx hb dX6_last_198 (by decide) ?_
      exact b202 ((q_segments u) (2 : Int32).toNatClampNeg) ((upd (q_registers u) (4 : Int32).toNatClampNeg ((((q_registers u) (4 : Int32).toNatClampNeg) - (2 : Int32)) &&& (65535 : Int32))) (4 : Int32).toNatClampNeg) ((upd (q_registers u) (4 : Int32).toNatClampNeg ((((q_registers u) (4 : Int32).toNatClampNeg) - (2 : Int32)) &&& (65535 : Int32))) (q_m u).toNatClampNeg) (qs_registers u (upd (q_registers u) (4 : Int32).toNatClampNeg ((((q_registers u) (4 : Int32).toNatClampNeg) - (2 : Int32)) &&& (65535 : Int32)))) H locs ls hP hD hS (lv_sub hl [] rfl) hw
  unfold wX6_last at hw
  obtain ⟨H, eH⟩ : ∃ H, H = s.heap := ⟨_, rfl⟩
  obtain ⟨locs, eL⟩ : ∃ locs : List Loc, locs = [] := ⟨_, rfl⟩
  replace hP : va_P D vwCl (WQ cI h0 h1 h2 h3 h4 h5 u) H := by rw [eH]; exact hP
  replace hS : va_S A s.heap H locs := by rw [eH, eL]; exact hS
  suffices hgo : W p l e ({ frames := 4, cells := 0, slots := 0, locals := 98 } : Room) s m ([.ref h0] : List Value).toArray below meth c H locs 0 0 (MQ below (va_Qv P (fun u t => va_P D vwCl (WQ cI h0 h1 h2 h3 h4 h5 u) t.heap) A) ([.ref h0] : List Value).toArray s 0 0 A) (F0 m 0 ls []) by rw [eH, eL] at hgo; exact hgo
  clear eH eL
  refine lv_aload_n hx hb dX6_last_0 rfl (lv_at hl 0 rfl) ?_
  refine cl_Vi (As := []) (rest := []) (st := [.ref h0]) S hK hA hP hD hS (fr_Q u) (kcX6_isWide l D cB cI h0 h1 h2 h3 h4 h5 H.size  u _ hw) (cwV 0 hts gX6_last_X6_isWide rfl rfl rfl (by decide +kernel) ⟨Nat.le_of_ble_eq_true rfl, Nat.le_of_ble_eq_true rfl⟩) tru_h tru_b 0 rfl rfl rfl rfl rfl hl.1 (Nat.le_of_ble_eq_true rfl) dX6_last_1 ⟨Nat.zero_le _, Nat.zero_le _⟩ (fun r2 u1 H locs hP hD hS hw => ?_)
  replace hP : va_P D vwCl (WQ cI h0 h1 h2 h3 h4 h5 u1) H := hP
  replace hD : va_D A (WQ cI h0 h1 h2 h3 h4 h5 u1) := hD
  refine lv_istore_n (lv' := [(1, .int r2), (0, .ref h0)]) hx hb dX6_last_4 rfl hl (by decide) rfl (fun ls hl => ?_)
  refine lv_aload_n hx hb dX6_last_5 rfl (lv_at hl 1 rfl) ?_
  refine lv_iload_n hx hb dX6_last_6 rfl (lv_at hl 0 rfl) ?_
  refine cl_Vi (As := [.int r2]) (rest := []) (st := [.int r2, .ref h0]) S hK hA hP hD hS (fr_Q u1) (kcX6_operand l D cB cI h0 h1 h2 h3 h4 h5 H.size r2 u1 _ hw) (cwV 1 hts gX6_last_X6_operand rfl rfl rfl (by decide +kernel) ⟨Nat.le_of_ble_eq_true rfl, Nat.le_of_ble_eq_true rfl⟩) tru_h tru_b 0 rfl rfl rfl rfl rfl hl.1 (Nat.le_of_ble_eq_true rfl) dX6_last_7 ⟨Nat.zero_le _, Nat.zero_le _⟩ (fun r4 u3 H locs hP hD hS hw => ?_)
  replace hP : va_P D vwCl (WQ cI h0 h1 h2 h3 h4 h5 u3) H := hP
  replace hD : va_D A (WQ cI h0 h1 h2 h3 h4 h5 u3) := hD
  refine lv_istore_n (lv' := [(2, .int r4), (1, .int r2), (0, .ref h0)]) hx hb dX6_last_10 rfl hl (by decide) rfl (fun ls hl => ?_)
  refine lv_aload_n hx hb dX6_last_11 rfl (lv_at hl 2 rfl) ?_
  refine va_get (D := D) (ci := 6) (v := .int (q_mode u3)) (C := RX6) (T := TX6) (N := 29) hx hb hts i_X6 hown hK hP 0 rfl rfl 22 (by decide) f_127 (fun _ h9 => h9) rfl dX6_last_12 ?_
  refine lv_iconst (v := (3 : Int32)) hx hb dX6_last_15 (by decide) ?_
  refine lv_icmp_ne (tgt := 23) hx hb dX6_last_16 (by decide) (fun c5 => ?_) (fun c5 => ?_)
  · replace hw := hw.2 c5
    refine lv_aload_n hx hb dX6_last_23 rfl (lv_at hl 2 rfl) ?_
    refine lv_aload_n hx hb dX6_last_24 rfl (lv_at hl 2 rfl) ?_
    refine va_get (D := D) (ci := 6) (v := .int (q_place u3)) (C := RX6) (T := TX6) (N := 29) hx hb hts i_X6 hown hK hP 0 rfl rfl 26 (by decide) f_145 (fun _ h9 => h9) rfl dX6_last_25 ?_
    refine lv_aload_n hx hb dX6_last_28 rfl (lv_at hl 2 rfl) ?_
    refine va_get (D := D) (ci := 6) (v := .int (q_offset u3)) (C := RX6) (T := TX6) (N := 29) hx hb hts i_X6 hown hK hP 0 rfl rfl 25 (by decide) f_139 (fun _ h9 => h9) rfl dX6_last_29 ?_
    refine lv_iconst (v := (2 : Int32)) hx hb dX6_last_32 (by decide) ?_
    refine lv_iadd hx hb dX6_last_33 ?_
    refine lv_iconst (v := (1 : Int32)) hx hb dX6_last_34 (by decide) ?_
    refine cl_Vi (As := [.int (q_place u3), .int ((q_offset u3) + (2 : Int32)), .int (1 : Int32)]) (rest := []) (st := [.int (1 : Int32), .int ((q_offset u3) + (2 : Int32)), .int (q_place u3), .ref h0]) S hK hA hP hD hS (fr_Q u3) (kcX6_get l D cB cI h0 h1 h2 h3 h4 h5 H.size (q_place u3) ((q_offset u3) + (2 : Int32)) (1 : Int32) u3 _ hw) (cwV 3 hts gX6_last_X6_get rfl rfl rfl (by decide +kernel) ⟨Nat.le_of_ble_eq_true rfl, Nat.le_of_ble_eq_true rfl⟩) tru_h tru_b 0 rfl rfl rfl rfl rfl hl.1 (Nat.le_of_ble_eq_true rfl) dX6_last_35 ⟨Nat.zero_le _, Nat.zero_le _⟩ (fun r7 u6 H locs hP hD hS hw => ?_)
    replace hP : va_P D vwCl (WQ cI h0 h1 h2 h3 h4 h5 u6) H := hP
    replace hD : va_D A (WQ cI h0 h1 h2 h3 h4 h5 u6) := hD
    exact b38 r2 r4 r7 u6 H locs ls hP hD hS (lv_sub hl [2, 1, 0] rfl) hw
  · replace hw := hw.1 c5
    refine lv_iconst (v := (0 : Int32)) hx hb dX6_last_19 (by decide) ?_
    refine lv_goto (tgt := 38) hx hb dX6_last_20 (by decide) ?_
    exact b38 r2 r4 (0 : Int32) u3 H locs ls hP hD hS (lv_sub hl [2, 1, 0] rfl) hw
-- X6_flagsAndMore
def wX6_flagsAndMore_b114  (P : SQ → Prop)  (u : SQ) : Prop := (wX6_isWide  u (fun r24 u23 => (wX6_mark (1024 : Int32) r24 u23 (fun u25 => (P u25)))))
def wX6_flagsAndMore_b100  (P : SQ → Prop)  (u : SQ) : Prop := (wX6_isWide  u (fun r20 u19 => (wX6_mark (512 : Int32) r20 u19 (fun u21 => (P u21)))))
def wX6_flagsAndMore_b88  (P : SQ → Prop)  (u : SQ) : Prop := (wX6_isWide  u (fun r16 u15 => (wX6_mark (1 : Int32) r16 u15 (fun u17 => (P u17)))))
def wX6_flagsAndMore_b81  (P : SQ → Prop)  (u : SQ) : Prop := (wX6_byOne  u (fun u13 => (P u13)))
def wX6_flagsAndMore  (u : SQ) (P : SQ → Prop) : Prop := (((q_code u) = (244 : Int32) → (P (qs_halted u (1 : Int32)))) ∧ (¬ (q_code u) = (244 : Int32) → (((q_code u) = (245 : Int32) → (P (qs_flags u ((q_flags u) ^^^ (1 : Int32))))) ∧ (¬ (q_code u) = (245 : Int32) → (((q_code u) = (246 : Int32) → (wX6_flagsAndMore_b81  P u)) ∧ (¬ (q_code u) = (246 : Int32) → (((q_code u) = (247 : Int32) → (wX6_flagsAndMore_b81  P u)) ∧ (¬ (q_code u) = (247 : Int32) → (((q_code u) = (248 : Int32) → (wX6_flagsAndMore_b88  P u)) ∧ (¬ (q_code u) = (248 : Int32) → (((q_code u) = (249 : Int32) → (wX6_flagsAndMore_b88  P u)) ∧ (¬ (q_code u) = (249 : Int32) → (((q_code u) = (250 : Int32) → (wX6_flagsAndMore_b100  P u)) ∧ (¬ (q_code u) = (250 : Int32) → (((q_code u) = (251 : Int32) → (wX6_flagsAndMore_b100  P u)) ∧ (¬ (q_code u) = (251 : Int32) → (((q_code u) = (252 : Int32) → (wX6_flagsAndMore_b114  P u)) ∧ (¬ (q_code u) = (252 : Int32) → (((q_code u) = (253 : Int32) → (wX6_flagsAndMore_b114  P u)) ∧ (¬ (q_code u) = (253 : Int32) → (wX6_last  u (fun u11 => (P u11)))))))))))))))))))))))
set_option maxHeartbeats 4000000 in
set_option maxRecDepth 100000 in
theorem kcX6_flagsAndMore (l : Launch) (D : va_G) (cB cI : ClassId) (h0 h1 h2 h3 h4 h5 : Nat) (sz : Nat)  (u : SQ) (P : SQ → Prop) (hw : wX6_flagsAndMore  u P) : Met l yX6_flagsAndMore wsX6_flagsAndMore ({ frames := 5, cells := 0, slots := 0, locals := 121 } : Room) (va_Pc [.ref h0] (Pcw D (tyA cB cI) (WQ cI h0 h1 h2 h3 h4 h5 u) sz Tru)) (va_Qv P (fun u t => va_P D vwCl (WQ cI h0 h1 h2 h3 h4 h5 u) t.heap) (va_A (WQ cI h0 h1 h2 h3 h4 h5 u) sz)) 0 0 (va_A (WQ cI h0 h1 h2 h3 h4 h5 u) sz) := by
  refine en_ (cc := cX6_flagsAndMore) (maxL := 1) (ret := none) (own := RX6) (lv := [(0, .ref h0)]) (Qf := fun A => va_Qv P (fun u t => va_P D vwCl (WQ cI h0 h1 h2 h3 h4 h5 u) t.heap) A) (by decide) rfl rfl (Nat.le_of_ble_eq_true rfl) rfl ?_
  intro p e s m below meth c A ls S hr hlk hname hsz hP hK hD hA hSub hS hE hl
  have hx := S.1
  have hb := S.2.1
  have hown := S.2.2.2.1
  have hts := S.2.2.2.2
  have i_X6 : ∀ w ∈ u_ws RX6 TX6 29, w ∈ wsX6_flagsAndMore := by decide +kernel
  have f_54 := hts (.fieldLink RX6 54 "MachineCoreModel" "flags" "I") (by decide +kernel)
  have f_148 := hts (.fieldLink RX6 148 "MachineCoreModel" "code" "I") (by decide +kernel)
  have f_255 := hts (.fieldLink RX6 255 "MachineCoreModel" "halted" "Z") (by decide +kernel)
  have b114 : ∀  (u : SQ) (H : Heap) (locs : List Loc) (ls : Array Slot), va_P D vwCl (WQ cI h0 h1 h2 h3 h4 h5 u) H → va_D A (WQ cI h0 h1 h2 h3 h4 h5 u) → va_S A s.heap H locs → lv_has ls 1 [(0, .ref h0)] → wX6_flagsAndMore_b114  P u → W p l e ({ frames := 5, cells := 0, slots := 0, locals := 121 } : Room) s m ([.ref h0] : List Value).toArray below meth c H locs 0 0 (MQ below (va_Qv P (fun u t => va_P D vwCl (WQ cI h0 h1 h2 h3 h4 h5 u) t.heap) A) ([.ref h0] : List Value).toArray s 0 0 A) (F0 m 114 ls []) := by
    intro u H locs ls hP hD hS hl hw
    unfold wX6_flagsAndMore_b114 at hw
    refine lv_aload_n hx hb dX6_flagsAndMore_114 rfl (lv_at hl 0 rfl) ?_
    refine lv_sipush (v := (1024 : Int32)) hx hb dX6_flagsAndMore_115 (by decide) ?_
    refine lv_aload_n hx hb dX6_flagsAndMore_118 rfl (lv_at hl 0 rfl) ?_
    refine cl_Vi (As := []) (rest := [.int (1024 : Int32), .ref h0]) (st := [.ref h0, .int (1024 : Int32), .ref h0]) S hK hA hP hD hS (fr_Q u) (kcX6_isWide l D cB cI h0 h1 h2 h3 h4 h5 H.size  u _ hw) (cwV 0 hts gX6_flagsAndMore_X6_isWide rfl rfl rfl (by decide +kernel) ⟨Nat.le_of_ble_eq_true rfl, Nat.le_of_ble_eq_true rfl⟩) tru_h tru_b 0 rfl rfl rfl rfl rfl hl.1 (Nat.le_of_ble_eq_true rfl) dX6_flagsAndMore_119 ⟨Nat.zero_le _, Nat.zero_le _⟩ (fun r24 u23 H locs hP hD hS hw => ?_)
    replace hP : va_P D vwCl (WQ cI h0 h1 h2 h3 h4 h5 u23) H := hP
    replace hD : va_D A (WQ cI h0 h1 h2 h3 h4 h5 u23) := hD
    refine cl_Vv (As := [.int (1024 : Int32), .int r24]) (rest := []) (st := [.int r24, .int (1024 : Int32), .ref h0]) S hK hA hP hD hS (fr_Q u23) (kcX6_mark l D cB cI h0 h1 h2 h3 h4 h5 H.size (1024 : Int32) r24 u23 _ hw) (cwV 2 hts gX6_flagsAndMore_X6_mark rfl rfl rfl (by decide +kernel) ⟨Nat.le_of_ble_eq_true rfl, Nat.le_of_ble_eq_true rfl⟩) tru_h tru_b 0 rfl rfl rfl rfl rfl hl.1 (Nat.le_of_ble_eq_true rfl) dX6_flagsAndMore_122 ⟨Nat.zero_le _, Nat.zero_le _⟩ (fun u25 H locs hP hD hS hw => ?_)
    replace hP : va_P D vwCl (WQ cI h0 h1 h2 h3 h4 h5 u25) H := hP
    replace hD : va_D A (WQ cI h0 h1 h2 h3 h4 h5 u25) := hD
    refine lv_goto (tgt := 132) hx hb dX6_flagsAndMore_125 (by decide) ?_
    exact rt_v (wo := (fun v => WQ cI h0 h1 h2 h3 h4 h5 v)) S hr hlk u25 hP hS hw dX6_flagsAndMore_132
  have b100 : ∀  (u : SQ) (H : Heap) (locs : List Loc) (ls : Array Slot), va_P D vwCl (WQ cI h0 h1 h2 h3 h4 h5 u) H → va_D A (WQ cI h0 h1 h2 h3 h4 h5 u) → va_S A s.heap H locs → lv_has ls 1 [(0, .ref h0)] → wX6_flagsAndMore_b100  P u → W p l e ({ frames := 5, cells := 0, slots := 0, locals := 121 } : Room) s m ([.ref h0] : List Value).toArray below meth c H locs 0 0 (MQ below (va_Qv P (fun u t => va_P D vwCl (WQ cI h0 h1 h2 h3 h4 h5 u) t.heap) A) ([.ref h0] : List Value).toArray s 0 0 A) (F0 m 100 ls []) := by
    intro u H locs ls hP hD hS hl hw
    unfold wX6_flagsAndMore_b100 at hw
    refine lv_aload_n hx hb dX6_flagsAndMore_100 rfl (lv_at hl 0 rfl) ?_
    refine lv_sipush (v := (512 : Int32)) hx hb dX6_flagsAndMore_101 (by decide) ?_
    refine lv_aload_n hx hb dX6_flagsAndMore_104 rfl (lv_at hl 0 rfl) ?_
    refine cl_Vi (As := []) (rest := [.int (512 : Int32), .ref h0]) (st := [.ref h0, .int (512 : Int32), .ref h0]) S hK hA hP hD hS (fr_Q u) (kcX6_isWide l D cB cI h0 h1 h2 h3 h4 h5 H.size  u _ hw) (cwV 0 hts gX6_flagsAndMore_X6_isWide rfl rfl rfl (by decide +kernel) ⟨Nat.le_of_ble_eq_true rfl, Nat.le_of_ble_eq_true rfl⟩) tru_h tru_b 0 rfl rfl rfl rfl rfl hl.1 (Nat.le_of_ble_eq_true rfl) dX6_flagsAndMore_105 ⟨Nat.zero_le _, Nat.zero_le _⟩ (fun r20 u19 H locs hP hD hS hw => ?_)
    replace hP : va_P D vwCl (WQ cI h0 h1 h2 h3 h4 h5 u19) H := hP
    replace hD : va_D A (WQ cI h0 h1 h2 h3 h4 h5 u19) := hD
    refine cl_Vv (As := [.int (512 : Int32), .int r20]) (rest := []) (st := [.int r20, .int (512 : Int32), .ref h0]) S hK hA hP hD hS (fr_Q u19) (kcX6_mark l D cB cI h0 h1 h2 h3 h4 h5 H.size (512 : Int32) r20 u19 _ hw) (cwV 2 hts gX6_flagsAndMore_X6_mark rfl rfl rfl (by decide +kernel) ⟨Nat.le_of_ble_eq_true rfl, Nat.le_of_ble_eq_true rfl⟩) tru_h tru_b 0 rfl rfl rfl rfl rfl hl.1 (Nat.le_of_ble_eq_true rfl) dX6_flagsAndMore_108 ⟨Nat.zero_le _, Nat.zero_le _⟩ (fun u21 H locs hP hD hS hw => ?_)
    replace hP : va_P D vwCl (WQ cI h0 h1 h2 h3 h4 h5 u21) H := hP
    replace hD : va_D A (WQ cI h0 h1 h2 h3 h4 h5 u21) := hD
    refine lv_goto (tgt := 132) hx hb dX6_flagsAndMore_111 (by decide) ?_
    exact rt_v (wo := (fun v => WQ cI h0 h1 h2 h3 h4 h5 v)) S hr hlk u21 hP hS hw dX6_flagsAndMore_132
  have b88 : ∀  (u : SQ) (H : Heap) (locs : List Loc) (ls : Array Slot), va_P D vwCl (WQ cI h0 h1 h2 h3 h4 h5 u) H → va_D A (WQ cI h0 h1 h2 h3 h4 h5 u) → va_S A s.heap H locs → lv_has ls 1 [(0, .ref h0)] → wX6_flagsAndMore_b88  P u → W p l e ({ frames := 5, cells := 0, slots := 0, locals := 121 } : Room) s m ([.ref h0] : List Value).toArray below meth c H locs 0 0 (MQ below (va_Qv P (fun u t => va_P D vwCl (WQ cI h0 h1 h2 h3 h4 h5 u) t.heap) A) ([.ref h0] : List Value).toArray s 0 0 A) (F0 m 88 ls []) := by
    intro u H locs ls hP hD hS hl hw
    unfold wX6_flagsAndMore_b88 at hw
    refine lv_aload_n hx hb dX6_flagsAndMore_88 rfl (lv_at hl 0 rfl) ?_
    refine lv_iconst (v := (1 : Int32)) hx hb dX6_flagsAndMore_89 (by decide) ?_
    refine lv_aload_n hx hb dX6_flagsAndMore_90 rfl (lv_at hl 0 rfl) ?_
    refine cl_Vi (As := []) (rest := [.int (1 : Int32), .ref h0]) (st := [.ref h0, .int (1 : Int32), .ref h0]) S hK hA hP hD hS (fr_Q u) (kcX6_isWide l D cB cI h0 h1 h2 h3 h4 h5 H.size  u _ hw) (cwV 0 hts gX6_flagsAndMore_X6_isWide rfl rfl rfl (by decide +kernel) ⟨Nat.le_of_ble_eq_true rfl, Nat.le_of_ble_eq_true rfl⟩) tru_h tru_b 0 rfl rfl rfl rfl rfl hl.1 (Nat.le_of_ble_eq_true rfl) dX6_flagsAndMore_91 ⟨Nat.zero_le _, Nat.zero_le _⟩ (fun r16 u15 H locs hP hD hS hw => ?_)
    replace hP : va_P D vwCl (WQ cI h0 h1 h2 h3 h4 h5 u15) H := hP
    replace hD : va_D A (WQ cI h0 h1 h2 h3 h4 h5 u15) := hD
    refine cl_Vv (As := [.int (1 : Int32), .int r16]) (rest := []) (st := [.int r16, .int (1 : Int32), .ref h0]) S hK hA hP hD hS (fr_Q u15) (kcX6_mark l D cB cI h0 h1 h2 h3 h4 h5 H.size (1 : Int32) r16 u15 _ hw) (cwV 2 hts gX6_flagsAndMore_X6_mark rfl rfl rfl (by decide +kernel) ⟨Nat.le_of_ble_eq_true rfl, Nat.le_of_ble_eq_true rfl⟩) tru_h tru_b 0 rfl rfl rfl rfl rfl hl.1 (Nat.le_of_ble_eq_true rfl) dX6_flagsAndMore_94 ⟨Nat.zero_le _, Nat.zero_le _⟩ (fun u17 H locs hP hD hS hw => ?_)
    replace hP : va_P D vwCl (WQ cI h0 h1 h2 h3 h4 h5 u17) H := hP
    replace hD : va_D A (WQ cI h0 h1 h2 h3 h4 h5 u17) := hD
    refine lv_goto (tgt := 132) hx hb dX6_flagsAndMore_97 (by decide) ?_
    exact rt_v (wo := (fun v => WQ cI h0 h1 h2 h3 h4 h5 v)) S hr hlk u17 hP hS hw dX6_flagsAndMore_132
  have b81 : ∀  (u : SQ) (H : Heap) (locs : List Loc) (ls : Array Slot), va_P D vwCl (WQ cI h0 h1 h2 h3 h4 h5 u) H → va_D A (WQ cI h0 h1 h2 h3 h4 h5 u) → va_S A s.heap H locs → lv_has ls 1 [(0, .ref h0)] → wX6_flagsAndMore_b81  P u → W p l e ({ frames := 5, cells := 0, slots := 0, locals := 121 } : Room) s m ([.ref h0] : List Value).toArray below meth c H locs 0 0 (MQ below (va_Qv P (fun u t => va_P D vwCl (WQ cI h0 h1 h2 h3 h4 h5 u) t.heap) A) ([.ref h0] : List Value).toArray s 0 0 A) (F0 m 81 ls []) := by
    intro u H locs ls hP hD hS hl hw
    unfold wX6_flagsAndMore_b81 at hw
    refine lv_aload_n hx hb dX6_flagsAndMore_81 rfl (lv_at hl 0 rfl) ?_
    refine cl_Vv (As := []) (rest := []) (st := [.ref h0]) S hK hA hP hD hS (fr_Q u) (kcX6_byOne l D cB cI h0 h1 h2 h3 h4 h5 H.size  u _ hw) (cwV 0 hts gX6_flagsAndMore_X6_byOne rfl rfl rfl (by decide +kernel) ⟨Nat.le_of_ble_eq_true rfl, Nat.le_of_ble_eq_true rfl⟩) tru_h tru_b 0 rfl rfl rfl rfl rfl hl.1 (Nat.le_of_ble_eq_true rfl) dX6_flagsAndMore_82 ⟨Nat.zero_le _, Nat.zero_le _⟩ (fun u13 H locs hP hD hS hw => ?_)
    replace hP : va_P D vwCl (WQ cI h0 h1 h2 h3 h4 h5 u13) H := hP
    replace hD : va_D A (WQ cI h0 h1 h2 h3 h4 h5 u13) := hD
    refine lv_goto (tgt := 132) hx hb dX6_flagsAndMore_85 (by decide) ?_
    exact rt_v (wo := (fun v => WQ cI h0 h1 h2 h3 h4 h5 v)) S hr hlk u13 hP hS hw dX6_flagsAndMore_132
  unfold wX6_flagsAndMore at hw
  obtain ⟨H, eH⟩ : ∃ H, H = s.heap := ⟨_, rfl⟩
  obtain ⟨locs, eL⟩ : ∃ locs : List Loc, locs = [] := ⟨_, rfl⟩
  replace hP : va_P D vwCl (WQ cI h0 h1 h2 h3 h4 h5 u) H := by rw [eH]; exact hP
  replace hS : va_S A s.heap H locs := by rw [eH, eL]; exact hS
  suffices hgo : W p l e ({ frames := 5, cells := 0, slots := 0, locals := 121 } : Room) s m ([.ref h0] : List Value).toArray below meth c H locs 0 0 (MQ below (va_Qv P (fun u t => va_P D vwCl (WQ cI h0 h1 h2 h3 h4 h5 u) t.heap) A) ([.ref h0] : List Value).toArray s 0 0 A) (F0 m 0 ls []) by rw [eH, eL] at hgo; exact hgo
  clear eH eL
  refine lv_aload_n hx hb dX6_flagsAndMore_0 rfl (lv_at hl 0 rfl) ?_
  refine va_get (D := D) (ci := 6) (v := .int (q_code u)) (C := RX6) (T := TX6) (N := 29) hx hb hts i_X6 hown hK hP 0 rfl rfl 21 (by decide) f_148 (fun _ h9 => h9) rfl dX6_flagsAndMore_1 ?_
  by_cases c1 : (q_code u) = (244 : Int32)
  · replace hw := hw.1 c1
    refine lv_tableIn (off := 56) (tgt := 60) hx hb dX6_flagsAndMore_4 (by rw [c1]; decide) (by rw [c1]; decide) (by rw [c1]; rfl) (by decide) ?_
    refine lv_aload_n hx hb dX6_flagsAndMore_60 rfl (lv_at hl 0 rfl) ?_
    refine lv_iconst (v := (1 : Int32)) hx hb dX6_flagsAndMore_61 (by decide) ?_
    refine va_put (D := D) (ci := 6) (v := .int (1 : Int32)) (ty := .boolean) (C := RX6) (T := TX6) (N := 29) hx hb hts i_X6 tyX6 tyX6_ok nmX6 hown hK hP hD hS 0 rfl rfl 13 (by decide) f_255 (fun _ h9 => h9) rfl (by decide +kernel) rfl rfl (Nat.le_of_ble_eq_true rfl) dX6_flagsAndMore_62 (fun H locs hP hD hS => ?_)
    replace hP : va_P D vwCl (WQ cI h0 h1 h2 h3 h4 h5 (qs_halted u (1 : Int32))) H := hP
    replace hD : va_D A (WQ cI h0 h1 h2 h3 h4 h5 (qs_halted u (1 : Int32))) := hD
    refine lv_goto (tgt := 132) hx hb dX6_flagsAndMore_65 (by decide) ?_
    exact rt_v (wo := (fun v => WQ cI h0 h1 h2 h3 h4 h5 v)) S hr hlk (qs_halted u (1 : Int32)) hP hS hw dX6_flagsAndMore_132
  replace hw := hw.2 c1
  by_cases c2 : (q_code u) = (245 : Int32)
  · replace hw := hw.1 c2
    refine lv_tableIn (off := 64) (tgt := 68) hx hb dX6_flagsAndMore_4 (by rw [c2]; decide) (by rw [c2]; decide) (by rw [c2]; rfl) (by decide) ?_
    refine lv_aload_n hx hb dX6_flagsAndMore_68 rfl (lv_at hl 0 rfl) ?_
    refine lv_aload_n hx hb dX6_flagsAndMore_69 rfl (lv_at hl 0 rfl) ?_
    refine va_get (D := D) (ci := 6) (v := .int (q_flags u)) (C := RX6) (T := TX6) (N := 29) hx hb hts i_X6 hown hK hP 0 rfl rfl 4 (by decide) f_54 (fun _ h9 => h9) rfl dX6_flagsAndMore_70 ?_
    refine lv_iconst (v := (1 : Int32)) hx hb dX6_flagsAndMore_73 (by decide) ?_
    refine lv_ixor hx hb dX6_flagsAndMore_74 ?_
    refine va_put (D := D) (ci := 6) (v := .int ((q_flags u) ^^^ (1 : Int32))) (ty := .int) (C := RX6) (T := TX6) (N := 29) hx hb hts i_X6 tyX6 tyX6_ok nmX6 hown hK hP hD hS 0 rfl rfl 4 (by decide) f_54 (fun _ h9 => h9) rfl (by decide +kernel) rfl rfl (Nat.le_of_ble_eq_true rfl) dX6_flagsAndMore_75 (fun H locs hP hD hS => ?_)
    replace hP : va_P D vwCl (WQ cI h0 h1 h2 h3 h4 h5 (qs_flags u ((q_flags u) ^^^ (1 : Int32)))) H := hP
    replace hD : va_D A (WQ cI h0 h1 h2 h3 h4 h5 (qs_flags u ((q_flags u) ^^^ (1 : Int32)))) := hD
    refine lv_goto (tgt := 132) hx hb dX6_flagsAndMore_78 (by decide) ?_
    exact rt_v (wo := (fun v => WQ cI h0 h1 h2 h3 h4 h5 v)) S hr hlk (qs_flags u ((q_flags u) ^^^ (1 : Int32))) hP hS hw dX6_flagsAndMore_132
  replace hw := hw.2 c2
  by_cases c3 : (q_code u) = (246 : Int32)
  · replace hw := hw.1 c3
    refine lv_tableIn (off := 77) (tgt := 81) hx hb dX6_flagsAndMore_4 (by rw [c3]; decide) (by rw [c3]; decide) (by rw [c3]; rfl) (by decide) ?_
    exact b81 u H locs ls hP hD hS (lv_sub hl [0] rfl) hw
  replace hw := hw.2 c3
  by_cases c4 : (q_code u) = (247 : Int32)
  · replace hw := hw.1 c4
    refine lv_tableIn (off := 77) (tgt := 81) hx hb dX6_flagsAndMore_4 (by rw [c4]; decide) (by rw [c4]; decide) (by rw [c4]; rfl) (by decide) ?_
    exact b81 u H locs ls hP hD hS (lv_sub hl [0] rfl) hw
  replace hw := hw.2 c4
  by_cases c5 : (q_code u) = (248 : Int32)
  · replace hw := hw.1 c5
    refine lv_tableIn (off := 84) (tgt := 88) hx hb dX6_flagsAndMore_4 (by rw [c5]; decide) (by rw [c5]; decide) (by rw [c5]; rfl) (by decide) ?_
    exact b88 u H locs ls hP hD hS (lv_sub hl [0] rfl) hw
  replace hw := hw.2 c5
  by_cases c6 : (q_code u) = (249 : Int32)
  · replace hw := hw.1 c6
    refine lv_tableIn (off := 84) (tgt := 88) hx hb dX6_flagsAndMore_4 (by rw [c6]; decide) (by rw [c6]; decide) (by rw [c6]; rfl) (by decide) ?_
    exact b88 u H locs ls hP hD hS (lv_sub hl [0] rfl) hw
  replace hw := hw.2 c6
  by_cases c7 : (q_code u) = (250 : Int32)
  · replace hw := hw.1 c7
    refine lv_tableIn (off := 96) (tgt := 100) hx hb dX6_flagsAndMore_4 (by rw [c7]; decide) (by rw [c7]; decide) (by rw [c7]; rfl) (by decide) ?_
    exact b100 u H locs ls hP hD hS (lv_sub hl [0] rfl) hw
  replace hw := hw.2 c7
  by_cases c8 : (q_code u) = (251 : Int32)
  · replace hw := hw.1 c8
    refine lv_tableIn (off := 96) (tgt := 100) hx hb dX6_flagsAndMore_4 (by rw [c8]; decide) (by rw [c8]; decide) (by rw [c8]; rfl) (by decide) ?_
    exact b100 u H locs ls hP hD hS (lv_sub hl [0] rfl) hw
  replace hw := hw.2 c8
  by_cases c9 : (q_code u) = (252 : Int32)
  · replace hw := hw.1 c9
    refine lv_tableIn (off := 110) (tgt := 114) hx hb dX6_flagsAndMore_4 (by rw [c9]; decide) (by rw [c9]; decide) (by rw [c9]; rfl) (by decide) ?_
    exact b114 u H locs ls hP hD hS (lv_sub hl [0] rfl) hw
  replace hw := hw.2 c9
  by_cases c10 : (q_code u) = (253 : Int32)
  · replace hw := hw.1 c10
    refine lv_tableIn (off := 110) (tgt := 114) hx hb dX6_flagsAndMore_4 (by rw [c10]; decide) (by rw [c10]; decide) (by rw [c10]; rfl) (by decide) ?_
    exact b114 u H locs ls hP hD hS (lv_sub hl [0] rfl) hw
  replace hw := hw.2 c10
  refine lv_tableOut (tgt := 128) hx hb dX6_flagsAndMore_4 (by have e_c1 : ¬ ((q_code u) : Int32).toInt = 244 := sw_ne c1; have e_c2 : ¬ ((q_code u) : Int32).toInt = 245 := sw_ne c2; have e_c3 : ¬ ((q_code u) : Int32).toInt = 246 := sw_ne c3; have e_c4 : ¬ ((q_code u) : Int32).toInt = 247 := sw_ne c4; have e_c5 : ¬ ((q_code u) : Int32).toInt = 248 := sw_ne c5; have e_c6 : ¬ ((q_code u) : Int32).toInt = 249 := sw_ne c6; have e_c7 : ¬ ((q_code u) : Int32).toInt = 250 := sw_ne c7; have e_c8 : ¬ ((q_code u) : Int32).toInt = 251 := sw_ne c8; have e_c9 : ¬ ((q_code u) : Int32).toInt = 252 := sw_ne c9; have e_c10 : ¬ ((q_code u) : Int32).toInt = 253 := sw_ne c10; omega) (by decide) ?_
  refine lv_aload_n hx hb dX6_flagsAndMore_128 rfl (lv_at hl 0 rfl) ?_
  refine cl_Vv (As := []) (rest := []) (st := [.ref h0]) S hK hA hP hD hS (fr_Q u) (kcX6_last l D cB cI h0 h1 h2 h3 h4 h5 H.size  u _ hw) (cwV 0 hts gX6_flagsAndMore_X6_last rfl rfl rfl (by decide +kernel) ⟨Nat.le_of_ble_eq_true rfl, Nat.le_of_ble_eq_true rfl⟩) tru_h tru_b 0 rfl rfl rfl rfl rfl hl.1 (Nat.le_of_ble_eq_true rfl) dX6_flagsAndMore_129 ⟨Nat.zero_le _, Nat.zero_le _⟩ (fun u11 H locs hP hD hS hw => ?_)
  replace hP : va_P D vwCl (WQ cI h0 h1 h2 h3 h4 h5 u11) H := hP
  replace hD : va_D A (WQ cI h0 h1 h2 h3 h4 h5 u11) := hD
  exact rt_v (wo := (fun v => WQ cI h0 h1 h2 h3 h4 h5 v)) S hr hlk u11 hP hS hw dX6_flagsAndMore_132
