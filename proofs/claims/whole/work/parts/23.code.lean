-- X1_wide
def wX1_wide  (u : SC) (P : Int32 → SC → Prop) : Prop := ((((c_number u) &&& (1 : Int32)) = (0 : Int32) → (P (0 : Int32) u)) ∧ (¬ ((c_number u) &&& (1 : Int32)) = (0 : Int32) → (P (1 : Int32) u)))
set_option maxHeartbeats 4000000 in
set_option maxRecDepth 100000 in
theorem kcX1_wide (l : Launch) (D : va_G) (cB cI : ClassId) (q8 : Nat) (sz : Nat)  (u : SC) (P : Int32 → SC → Prop) (hw : wX1_wide  u P) : Met l yX1_wide wsX1_wide ({ frames := 0, cells := 0, slots := 0, locals := 0 } : Room) (va_Pc [.ref q8] (Pcw D (tyA cB cI) (WC q8 u) sz Tru)) (va_Qi P (fun u t => va_P D vwCl (WC q8 u) t.heap) (va_A (WC q8 u) sz)) 0 0 (va_A (WC q8 u) sz) := by
  refine en_ (cc := cX1_wide) (maxL := 1) (ret := (some .boolean)) (own := RX1) (lv := [(0, .ref q8)]) (Qf := fun A => va_Qi P (fun u t => va_P D vwCl (WC q8 u) t.heap) A) (by decide) rfl rfl (Nat.le_of_ble_eq_true rfl) rfl ?_
  intro p e s m below meth c A ls S hr hlk hname hsz hP hK hD hA hSub hS hE hl
  have hx := S.1
  have hb := S.2.1
  have hown := S.2.2.2.1
  have hts := S.2.2.2.2
  have i_X1 : ∀ w ∈ u_ws RX1 TX1 12, w ∈ wsX1_wide := by decide +kernel
  have f_9 := hts (.fieldLink RX1 9 "MachineCore$Code" "number" "I") (by decide +kernel)
  unfold wX1_wide at hw
  obtain ⟨H, eH⟩ : ∃ H, H = s.heap := ⟨_, rfl⟩
  obtain ⟨locs, eL⟩ : ∃ locs : List Loc, locs = [] := ⟨_, rfl⟩
  replace hP : va_P D vwCl (WC q8 u) H := by rw [eH]; exact hP
  replace hS : va_S A s.heap H locs := by rw [eH, eL]; exact hS
  suffices hgo : W p l e ({ frames := 0, cells := 0, slots := 0, locals := 0 } : Room) s m ([.ref q8] : List Value).toArray below meth c H locs 0 0 (MQ below (va_Qi P (fun u t => va_P D vwCl (WC q8 u) t.heap) A) ([.ref q8] : List Value).toArray s 0 0 A) (F0 m 0 ls []) by rw [eH, eL] at hgo; exact hgo
  clear eH eL
  refine lv_aload_n hx hb dX1_wide_0 rfl (lv_at hl 0 rfl) ?_
  refine va_get (D := D) (ci := 1) (v := .int (c_number u)) (C := RX1) (T := TX1) (N := 12) hx hb hts i_X1 hown hK hP 0 rfl rfl 1 (by decide) f_9 (fun _ h9 => h9) rfl dX1_wide_1 ?_
  refine lv_iconst (v := (1 : Int32)) hx hb dX1_wide_4 (by decide) ?_
  refine lv_iand hx hb dX1_wide_5 ?_
  refine lv_if_eq (tgt := 13) hx hb dX1_wide_6 (by decide) (fun c1 => ?_) (fun c1 => ?_)
  · replace hw := hw.1 c1
    refine lv_iconst (v := (0 : Int32)) hx hb dX1_wide_13 (by decide) ?_
    exact rt_z (wo := (fun v => WC q8 v)) S hr hlk u hP hS zB_0 hw dX1_wide_14
  · replace hw := hw.2 c1
    refine lv_iconst (v := (1 : Int32)) hx hb dX1_wide_9 (by decide) ?_
    refine lv_goto (tgt := 14) hx hb dX1_wide_10 (by decide) ?_
    exact rt_z (wo := (fun v => WC q8 v)) S hr hlk u hP hS zB_1 hw dX1_wide_14
-- X1_givesSegment
def wX1_givesSegment  (u : SC) (P : Int32 → SC → Prop) : Prop := ((((c_number u) &&& (231 : Int32)) = (7 : Int32) → (P (1 : Int32) u)) ∧ (¬ ((c_number u) &&& (231 : Int32)) = (7 : Int32) → (((c_number u) = (142 : Int32) → (P (1 : Int32) u)) ∧ (¬ (c_number u) = (142 : Int32) → (P (0 : Int32) u)))))
set_option maxHeartbeats 4000000 in
set_option maxRecDepth 100000 in
theorem kcX1_givesSegment (l : Launch) (D : va_G) (cB cI : ClassId) (q8 : Nat) (sz : Nat)  (u : SC) (P : Int32 → SC → Prop) (hw : wX1_givesSegment  u P) : Met l yX1_givesSegment wsX1_givesSegment ({ frames := 0, cells := 0, slots := 0, locals := 0 } : Room) (va_Pc [.ref q8] (Pcw D (tyA cB cI) (WC q8 u) sz Tru)) (va_Qi P (fun u t => va_P D vwCl (WC q8 u) t.heap) (va_A (WC q8 u) sz)) 0 0 (va_A (WC q8 u) sz) := by
  refine en_ (cc := cX1_givesSegment) (maxL := 1) (ret := (some .boolean)) (own := RX1) (lv := [(0, .ref q8)]) (Qf := fun A => va_Qi P (fun u t => va_P D vwCl (WC q8 u) t.heap) A) (by decide) rfl rfl (Nat.le_of_ble_eq_true rfl) rfl ?_
  intro p e s m below meth c A ls S hr hlk hname hsz hP hK hD hA hSub hS hE hl
  have hx := S.1
  have hb := S.2.1
  have hown := S.2.2.2.1
  have hts := S.2.2.2.2
  have i_X1 : ∀ w ∈ u_ws RX1 TX1 12, w ∈ wsX1_givesSegment := by decide +kernel
  have f_9 := hts (.fieldLink RX1 9 "MachineCore$Code" "number" "I") (by decide +kernel)
  unfold wX1_givesSegment at hw
  obtain ⟨H, eH⟩ : ∃ H, H = s.heap := ⟨_, rfl⟩
  obtain ⟨locs, eL⟩ : ∃ locs : List Loc, locs = [] := ⟨_, rfl⟩
  replace hP : va_P D vwCl (WC q8 u) H := by rw [eH]; exact hP
  replace hS : va_S A s.heap H locs := by rw [eH, eL]; exact hS
  suffices hgo : W p l e ({ frames := 0, cells := 0, slots := 0, locals := 0 } : Room) s m ([.ref q8] : List Value).toArray below meth c H locs 0 0 (MQ below (va_Qi P (fun u t => va_P D vwCl (WC q8 u) t.heap) A) ([.ref q8] : List Value).toArray s 0 0 A) (F0 m 0 ls []) by rw [eH, eL] at hgo; exact hgo
  clear eH eL
  refine lv_aload_n hx hb dX1_givesSegment_0 rfl (lv_at hl 0 rfl) ?_
  refine va_get (D := D) (ci := 1) (v := .int (c_number u)) (C := RX1) (T := TX1) (N := 12) hx hb hts i_X1 hown hK hP 0 rfl rfl 1 (by decide) f_9 (fun _ h9 => h9) rfl dX1_givesSegment_1 ?_
  refine lv_sipush (v := (231 : Int32)) hx hb dX1_givesSegment_4 (by decide) ?_
  refine lv_iand hx hb dX1_givesSegment_7 ?_
  refine lv_bipush (v := (7 : Int32)) hx hb dX1_givesSegment_8 (by decide) ?_
  refine lv_icmp_eq (tgt := 23) hx hb dX1_givesSegment_10 (by decide) (fun c1 => ?_) (fun c1 => ?_)
  · replace hw := hw.1 c1
    refine lv_iconst (v := (1 : Int32)) hx hb dX1_givesSegment_23 (by decide) ?_
    refine lv_goto (tgt := 28) hx hb dX1_givesSegment_24 (by decide) ?_
    exact rt_z (wo := (fun v => WC q8 v)) S hr hlk u hP hS zB_1 hw dX1_givesSegment_28
  · replace hw := hw.2 c1
    refine lv_aload_n hx hb dX1_givesSegment_13 rfl (lv_at hl 0 rfl) ?_
    refine va_get (D := D) (ci := 1) (v := .int (c_number u)) (C := RX1) (T := TX1) (N := 12) hx hb hts i_X1 hown hK hP 0 rfl rfl 1 (by decide) f_9 (fun _ h9 => h9) rfl dX1_givesSegment_14 ?_
    refine lv_sipush (v := (142 : Int32)) hx hb dX1_givesSegment_17 (by decide) ?_
    refine lv_icmp_ne (tgt := 27) hx hb dX1_givesSegment_20 (by decide) (fun c2 => ?_) (fun c2 => ?_)
    · replace hw := hw.2 c2
      refine lv_iconst (v := (0 : Int32)) hx hb dX1_givesSegment_27 (by decide) ?_
      exact rt_z (wo := (fun v => WC q8 v)) S hr hlk u hP hS zB_0 hw dX1_givesSegment_28
    · replace hw := hw.1 c2
      refine lv_iconst (v := (1 : Int32)) hx hb dX1_givesSegment_23 (by decide) ?_
      refine lv_goto (tgt := 28) hx hb dX1_givesSegment_24 (by decide) ?_
      exact rt_z (wo := (fun v => WC q8 v)) S hr hlk u hP hS zB_1 hw dX1_givesSegment_28
-- X1_isString
def wX1_isString  (u : SC) (P : Int32 → SC → Prop) : Prop := (((c_number u) < (164 : Int32) → (P (0 : Int32) u)) ∧ (¬ (c_number u) < (164 : Int32) → (((175 : Int32) < (c_number u) → (P (0 : Int32) u)) ∧ (¬ (175 : Int32) < (c_number u) → (((c_number u) = (168 : Int32) → (P (0 : Int32) u)) ∧ (¬ (c_number u) = (168 : Int32) → (((c_number u) = (169 : Int32) → (P (0 : Int32) u)) ∧ (¬ (c_number u) = (169 : Int32) → (P (1 : Int32) u)))))))))
set_option maxHeartbeats 4000000 in
set_option maxRecDepth 100000 in
theorem kcX1_isString (l : Launch) (D : va_G) (cB cI : ClassId) (q8 : Nat) (sz : Nat)  (u : SC) (P : Int32 → SC → Prop) (hw : wX1_isString  u P) : Met l yX1_isString wsX1_isString ({ frames := 0, cells := 0, slots := 0, locals := 0 } : Room) (va_Pc [.ref q8] (Pcw D (tyA cB cI) (WC q8 u) sz Tru)) (va_Qi P (fun u t => va_P D vwCl (WC q8 u) t.heap) (va_A (WC q8 u) sz)) 0 0 (va_A (WC q8 u) sz) := by
  refine en_ (cc := cX1_isString) (maxL := 1) (ret := (some .boolean)) (own := RX1) (lv := [(0, .ref q8)]) (Qf := fun A => va_Qi P (fun u t => va_P D vwCl (WC q8 u) t.heap) A) (by decide) rfl rfl (Nat.le_of_ble_eq_true rfl) rfl ?_
  intro p e s m below meth c A ls S hr hlk hname hsz hP hK hD hA hSub hS hE hl
  have hx := S.1
  have hb := S.2.1
  have hown := S.2.2.2.1
  have hts := S.2.2.2.2
  have i_X1 : ∀ w ∈ u_ws RX1 TX1 12, w ∈ wsX1_isString := by decide +kernel
  have f_9 := hts (.fieldLink RX1 9 "MachineCore$Code" "number" "I") (by decide +kernel)
  unfold wX1_isString at hw
  obtain ⟨H, eH⟩ : ∃ H, H = s.heap := ⟨_, rfl⟩
  obtain ⟨locs, eL⟩ : ∃ locs : List Loc, locs = [] := ⟨_, rfl⟩
  replace hP : va_P D vwCl (WC q8 u) H := by rw [eH]; exact hP
  replace hS : va_S A s.heap H locs := by rw [eH, eL]; exact hS
  suffices hgo : W p l e ({ frames := 0, cells := 0, slots := 0, locals := 0 } : Room) s m ([.ref q8] : List Value).toArray below meth c H locs 0 0 (MQ below (va_Qi P (fun u t => va_P D vwCl (WC q8 u) t.heap) A) ([.ref q8] : List Value).toArray s 0 0 A) (F0 m 0 ls []) by rw [eH, eL] at hgo; exact hgo
  clear eH eL
  refine lv_aload_n hx hb dX1_isString_0 rfl (lv_at hl 0 rfl) ?_
  refine va_get (D := D) (ci := 1) (v := .int (c_number u)) (C := RX1) (T := TX1) (N := 12) hx hb hts i_X1 hown hK hP 0 rfl rfl 1 (by decide) f_9 (fun _ h9 => h9) rfl dX1_isString_1 ?_
  refine lv_sipush (v := (164 : Int32)) hx hb dX1_isString_4 (by decide) ?_
  refine lv_icmp_lt (tgt := 44) hx hb dX1_isString_7 (by decide) (fun c1 => ?_) (fun c1 => ?_)
  · replace hw := hw.1 c1
    refine lv_iconst (v := (0 : Int32)) hx hb dX1_isString_44 (by decide) ?_
    exact rt_z (wo := (fun v => WC q8 v)) S hr hlk u hP hS zB_0 hw dX1_isString_45
  · replace hw := hw.2 c1
    refine lv_aload_n hx hb dX1_isString_10 rfl (lv_at hl 0 rfl) ?_
    refine va_get (D := D) (ci := 1) (v := .int (c_number u)) (C := RX1) (T := TX1) (N := 12) hx hb hts i_X1 hown hK hP 0 rfl rfl 1 (by decide) f_9 (fun _ h9 => h9) rfl dX1_isString_11 ?_
    refine lv_sipush (v := (175 : Int32)) hx hb dX1_isString_14 (by decide) ?_
    refine lv_icmp_gt (tgt := 44) hx hb dX1_isString_17 (by decide) (fun c2 => ?_) (fun c2 => ?_)
    · replace hw := hw.1 c2
      refine lv_iconst (v := (0 : Int32)) hx hb dX1_isString_44 (by decide) ?_
      exact rt_z (wo := (fun v => WC q8 v)) S hr hlk u hP hS zB_0 hw dX1_isString_45
    · replace hw := hw.2 c2
      refine lv_aload_n hx hb dX1_isString_20 rfl (lv_at hl 0 rfl) ?_
      refine va_get (D := D) (ci := 1) (v := .int (c_number u)) (C := RX1) (T := TX1) (N := 12) hx hb hts i_X1 hown hK hP 0 rfl rfl 1 (by decide) f_9 (fun _ h9 => h9) rfl dX1_isString_21 ?_
      refine lv_sipush (v := (168 : Int32)) hx hb dX1_isString_24 (by decide) ?_
      refine lv_icmp_eq (tgt := 44) hx hb dX1_isString_27 (by decide) (fun c3 => ?_) (fun c3 => ?_)
      · replace hw := hw.1 c3
        refine lv_iconst (v := (0 : Int32)) hx hb dX1_isString_44 (by decide) ?_
        exact rt_z (wo := (fun v => WC q8 v)) S hr hlk u hP hS zB_0 hw dX1_isString_45
      · replace hw := hw.2 c3
        refine lv_aload_n hx hb dX1_isString_30 rfl (lv_at hl 0 rfl) ?_
        refine va_get (D := D) (ci := 1) (v := .int (c_number u)) (C := RX1) (T := TX1) (N := 12) hx hb hts i_X1 hown hK hP 0 rfl rfl 1 (by decide) f_9 (fun _ h9 => h9) rfl dX1_isString_31 ?_
        refine lv_sipush (v := (169 : Int32)) hx hb dX1_isString_34 (by decide) ?_
        refine lv_icmp_eq (tgt := 44) hx hb dX1_isString_37 (by decide) (fun c4 => ?_) (fun c4 => ?_)
        · replace hw := hw.1 c4
          refine lv_iconst (v := (0 : Int32)) hx hb dX1_isString_44 (by decide) ?_
          exact rt_z (wo := (fun v => WC q8 v)) S hr hlk u hP hS zB_0 hw dX1_isString_45
        · replace hw := hw.2 c4
          refine lv_iconst (v := (1 : Int32)) hx hb dX1_isString_40 (by decide) ?_
          refine lv_goto (tgt := 45) hx hb dX1_isString_41 (by decide) ?_
          exact rt_z (wo := (fun v => WC q8 v)) S hr hlk u hP hS zB_1 hw dX1_isString_45
-- X1_compares
def wX1_compares  (u : SC) (P : Int32 → SC → Prop) : Prop := ((((c_number u) &&& (6 : Int32)) = (6 : Int32) → (P (1 : Int32) u)) ∧ (¬ ((c_number u) &&& (6 : Int32)) = (6 : Int32) → (P (0 : Int32) u)))
set_option maxHeartbeats 4000000 in
set_option maxRecDepth 100000 in
theorem kcX1_compares (l : Launch) (D : va_G) (cB cI : ClassId) (q8 : Nat) (sz : Nat)  (u : SC) (P : Int32 → SC → Prop) (hw : wX1_compares  u P) : Met l yX1_compares wsX1_compares ({ frames := 0, cells := 0, slots := 0, locals := 0 } : Room) (va_Pc [.ref q8] (Pcw D (tyA cB cI) (WC q8 u) sz Tru)) (va_Qi P (fun u t => va_P D vwCl (WC q8 u) t.heap) (va_A (WC q8 u) sz)) 0 0 (va_A (WC q8 u) sz) := by
  refine en_ (cc := cX1_compares) (maxL := 1) (ret := (some .boolean)) (own := RX1) (lv := [(0, .ref q8)]) (Qf := fun A => va_Qi P (fun u t => va_P D vwCl (WC q8 u) t.heap) A) (by decide) rfl rfl (Nat.le_of_ble_eq_true rfl) rfl ?_
  intro p e s m below meth c A ls S hr hlk hname hsz hP hK hD hA hSub hS hE hl
  have hx := S.1
  have hb := S.2.1
  have hown := S.2.2.2.1
  have hts := S.2.2.2.2
  have i_X1 : ∀ w ∈ u_ws RX1 TX1 12, w ∈ wsX1_compares := by decide +kernel
  have f_9 := hts (.fieldLink RX1 9 "MachineCore$Code" "number" "I") (by decide +kernel)
  unfold wX1_compares at hw
  obtain ⟨H, eH⟩ : ∃ H, H = s.heap := ⟨_, rfl⟩
  obtain ⟨locs, eL⟩ : ∃ locs : List Loc, locs = [] := ⟨_, rfl⟩
  replace hP : va_P D vwCl (WC q8 u) H := by rw [eH]; exact hP
  replace hS : va_S A s.heap H locs := by rw [eH, eL]; exact hS
  suffices hgo : W p l e ({ frames := 0, cells := 0, slots := 0, locals := 0 } : Room) s m ([.ref q8] : List Value).toArray below meth c H locs 0 0 (MQ below (va_Qi P (fun u t => va_P D vwCl (WC q8 u) t.heap) A) ([.ref q8] : List Value).toArray s 0 0 A) (F0 m 0 ls []) by rw [eH, eL] at hgo; exact hgo
  clear eH eL
  refine lv_aload_n hx hb dX1_compares_0 rfl (lv_at hl 0 rfl) ?_
  refine va_get (D := D) (ci := 1) (v := .int (c_number u)) (C := RX1) (T := TX1) (N := 12) hx hb hts i_X1 hown hK hP 0 rfl rfl 1 (by decide) f_9 (fun _ h9 => h9) rfl dX1_compares_1 ?_
  refine lv_bipush (v := (6 : Int32)) hx hb dX1_compares_4 (by decide) ?_
  refine lv_iand hx hb dX1_compares_6 ?_
  refine lv_bipush (v := (6 : Int32)) hx hb dX1_compares_7 (by decide) ?_
  refine lv_icmp_ne (tgt := 16) hx hb dX1_compares_9 (by decide) (fun c1 => ?_) (fun c1 => ?_)
  · replace hw := hw.2 c1
    refine lv_iconst (v := (0 : Int32)) hx hb dX1_compares_16 (by decide) ?_
    exact rt_z (wo := (fun v => WC q8 v)) S hr hlk u hP hS zB_0 hw dX1_compares_17
  · replace hw := hw.1 c1
    refine lv_iconst (v := (1 : Int32)) hx hb dX1_compares_12 (by decide) ?_
    refine lv_goto (tgt := 17) hx hb dX1_compares_13 (by decide) ?_
    exact rt_z (wo := (fun v => WC q8 v)) S hr hlk u hP hS zB_1 hw dX1_compares_17
-- X1_inRegister
def wX1_inRegister  (u : SC) (P : Int32 → SC → Prop) : Prop := (((c_mode u) = (3 : Int32) → (P (1 : Int32) u)) ∧ (¬ (c_mode u) = (3 : Int32) → (P (0 : Int32) u)))
set_option maxHeartbeats 4000000 in
set_option maxRecDepth 100000 in
theorem kcX1_inRegister (l : Launch) (D : va_G) (cB cI : ClassId) (q8 : Nat) (sz : Nat)  (u : SC) (P : Int32 → SC → Prop) (hw : wX1_inRegister  u P) : Met l yX1_inRegister wsX1_inRegister ({ frames := 0, cells := 0, slots := 0, locals := 0 } : Room) (va_Pc [.ref q8] (Pcw D (tyA cB cI) (WC q8 u) sz Tru)) (va_Qi P (fun u t => va_P D vwCl (WC q8 u) t.heap) (va_A (WC q8 u) sz)) 0 0 (va_A (WC q8 u) sz) := by
  refine en_ (cc := cX1_inRegister) (maxL := 1) (ret := (some .boolean)) (own := RX1) (lv := [(0, .ref q8)]) (Qf := fun A => va_Qi P (fun u t => va_P D vwCl (WC q8 u) t.heap) A) (by decide) rfl rfl (Nat.le_of_ble_eq_true rfl) rfl ?_
  intro p e s m below meth c A ls S hr hlk hname hsz hP hK hD hA hSub hS hE hl
  have hx := S.1
  have hb := S.2.1
  have hown := S.2.2.2.1
  have hts := S.2.2.2.2
  have i_X1 : ∀ w ∈ u_ws RX1 TX1 12, w ∈ wsX1_inRegister := by decide +kernel
  have f_15 := hts (.fieldLink RX1 15 "MachineCore$Code" "mode" "I") (by decide +kernel)
  unfold wX1_inRegister at hw
  obtain ⟨H, eH⟩ : ∃ H, H = s.heap := ⟨_, rfl⟩
  obtain ⟨locs, eL⟩ : ∃ locs : List Loc, locs = [] := ⟨_, rfl⟩
  replace hP : va_P D vwCl (WC q8 u) H := by rw [eH]; exact hP
  replace hS : va_S A s.heap H locs := by rw [eH, eL]; exact hS
  suffices hgo : W p l e ({ frames := 0, cells := 0, slots := 0, locals := 0 } : Room) s m ([.ref q8] : List Value).toArray below meth c H locs 0 0 (MQ below (va_Qi P (fun u t => va_P D vwCl (WC q8 u) t.heap) A) ([.ref q8] : List Value).toArray s 0 0 A) (F0 m 0 ls []) by rw [eH, eL] at hgo; exact hgo
  clear eH eL
  refine lv_aload_n hx hb dX1_inRegister_0 rfl (lv_at hl 0 rfl) ?_
  refine va_get (D := D) (ci := 1) (v := .int (c_mode u)) (C := RX1) (T := TX1) (N := 12) hx hb hts i_X1 hown hK hP 0 rfl rfl 4 (by decide) f_15 (fun _ h9 => h9) rfl dX1_inRegister_1 ?_
  refine lv_iconst (v := (3 : Int32)) hx hb dX1_inRegister_4 (by decide) ?_
  refine lv_icmp_ne (tgt := 12) hx hb dX1_inRegister_5 (by decide) (fun c1 => ?_) (fun c1 => ?_)
  · replace hw := hw.2 c1
    refine lv_iconst (v := (0 : Int32)) hx hb dX1_inRegister_12 (by decide) ?_
    exact rt_z (wo := (fun v => WC q8 v)) S hr hlk u hP hS zB_0 hw dX1_inRegister_13
  · replace hw := hw.1 c1
    refine lv_iconst (v := (1 : Int32)) hx hb dX1_inRegister_8 (by decide) ?_
    refine lv_goto (tgt := 13) hx hb dX1_inRegister_9 (by decide) ?_
    exact rt_z (wo := (fun v => WC q8 v)) S hr hlk u hP hS zB_1 hw dX1_inRegister_13
-- X1_segmentOr
def wX1_segmentOr (a1 : Int32) (u : SC) (P : Int32 → SC → Prop) : Prop := (((c_givenSegment u) = (-1 : Int32) → (P a1 u)) ∧ (¬ (c_givenSegment u) = (-1 : Int32) → (P (c_givenSegment u) u)))
set_option maxHeartbeats 4000000 in
set_option maxRecDepth 100000 in
theorem kcX1_segmentOr (l : Launch) (D : va_G) (cB cI : ClassId) (q8 : Nat) (sz : Nat) (a1 : Int32) (u : SC) (P : Int32 → SC → Prop) (hw : wX1_segmentOr a1 u P) : Met l yX1_segmentOr wsX1_segmentOr ({ frames := 0, cells := 0, slots := 0, locals := 0 } : Room) (va_Pc [.ref q8, .int a1] (Pcw D (tyA cB cI) (WC q8 u) sz Tru)) (va_Qi P (fun u t => va_P D vwCl (WC q8 u) t.heap) (va_A (WC q8 u) sz)) 0 0 (va_A (WC q8 u) sz) := by
  refine en_ (cc := cX1_segmentOr) (maxL := 2) (ret := (some .int)) (own := RX1) (lv := [(0, .ref q8), (1, .int a1)]) (Qf := fun A => va_Qi P (fun u t => va_P D vwCl (WC q8 u) t.heap) A) (by decide) rfl rfl (Nat.le_of_ble_eq_true rfl) rfl ?_
  intro p e s m below meth c A ls S hr hlk hname hsz hP hK hD hA hSub hS hE hl
  have hx := S.1
  have hb := S.2.1
  have hown := S.2.2.2.1
  have hts := S.2.2.2.2
  have i_X1 : ∀ w ∈ u_ws RX1 TX1 12, w ∈ wsX1_segmentOr := by decide +kernel
  have f_18 := hts (.fieldLink RX1 18 "MachineCore$Code" "givenSegment" "I") (by decide +kernel)
  unfold wX1_segmentOr at hw
  obtain ⟨H, eH⟩ : ∃ H, H = s.heap := ⟨_, rfl⟩
  obtain ⟨locs, eL⟩ : ∃ locs : List Loc, locs = [] := ⟨_, rfl⟩
  replace hP : va_P D vwCl (WC q8 u) H := by rw [eH]; exact hP
  replace hS : va_S A s.heap H locs := by rw [eH, eL]; exact hS
  suffices hgo : W p l e ({ frames := 0, cells := 0, slots := 0, locals := 0 } : Room) s m ([.ref q8, .int a1] : List Value).toArray below meth c H locs 0 0 (MQ below (va_Qi P (fun u t => va_P D vwCl (WC q8 u) t.heap) A) ([.ref q8, .int a1] : List Value).toArray s 0 0 A) (F0 m 0 ls []) by rw [eH, eL] at hgo; exact hgo
  clear eH eL
  refine lv_aload_n hx hb dX1_segmentOr_0 rfl (lv_at hl 0 rfl) ?_
  refine va_get (D := D) (ci := 1) (v := .int (c_givenSegment u)) (C := RX1) (T := TX1) (N := 12) hx hb hts i_X1 hown hK hP 0 rfl rfl 2 (by decide) f_18 (fun _ h9 => h9) rfl dX1_segmentOr_1 ?_
  refine lv_iconst (v := (-1 : Int32)) hx hb dX1_segmentOr_4 (by decide) ?_
  refine lv_icmp_ne (tgt := 12) hx hb dX1_segmentOr_5 (by decide) (fun c1 => ?_) (fun c1 => ?_)
  · replace hw := hw.2 c1
    refine lv_aload_n hx hb dX1_segmentOr_12 rfl (lv_at hl 0 rfl) ?_
    refine va_get (D := D) (ci := 1) (v := .int (c_givenSegment u)) (C := RX1) (T := TX1) (N := 12) hx hb hts i_X1 hown hK hP 0 rfl rfl 2 (by decide) f_18 (fun _ h9 => h9) rfl dX1_segmentOr_13 ?_
    exact rt_i (wo := (fun v => WC q8 v)) S hr hlk u hP hS hw dX1_segmentOr_16
  · replace hw := hw.1 c1
    refine lv_iload_n hx hb dX1_segmentOr_8 rfl (lv_at hl 1 rfl) ?_
    refine lv_goto (tgt := 16) hx hb dX1_segmentOr_9 (by decide) ?_
    exact rt_i (wo := (fun v => WC q8 v)) S hr hlk u hP hS hw dX1_segmentOr_16
-- X1_fetch
def wX1_fetch  (u : SF) (P : Int32 → SF → Prop) : Prop := (wX4_segment (1 : Int32) (f_regs u) (fun r2 u1 => (wX2_load r2 (r_ip u1) (0 : Int32) (f_mem u) (fun r4 u3 => (wX4_moveTo ((r_ip u1) + (1 : Int32)) u1 (fun u5 => (P r4 (fs_regs (fs_mem (fs_code u (cs_fetched (f_code u) ((c_fetched (f_code u)) + (1 : Int32)))) u3) u5))))))))
set_option maxHeartbeats 4000000 in
set_option maxRecDepth 100000 in
theorem kcX1_fetch (l : Launch) (D : va_G) (cB cI : ClassId) (q1 q2 q3 q4 q5 q6 q8 : Nat) (sz : Nat)  (u : SF) (P : Int32 → SF → Prop) (hw : wX1_fetch  u P) : Met l yX1_fetch wsX1_fetch ({ frames := 2, cells := 0, slots := 0, locals := 46 } : Room) (va_Pc [.ref q8, .ref q1, .ref q4] (Pcw D (tyA cB cI) (WF cB cI q1 q2 q3 q4 q5 q6 q8 u) sz Tru)) (va_Qi P (fun u t => va_P D vwCl (WF cB cI q1 q2 q3 q4 q5 q6 q8 u) t.heap) (va_A (WF cB cI q1 q2 q3 q4 q5 q6 q8 u) sz)) 0 0 (va_A (WF cB cI q1 q2 q3 q4 q5 q6 q8 u) sz) := by
  refine en_ (cc := cX1_fetch) (maxL := 4) (ret := (some .int)) (own := RX1) (lv := [(0, .ref q8), (1, .ref q1), (2, .ref q4)]) (Qf := fun A => va_Qi P (fun u t => va_P D vwCl (WF cB cI q1 q2 q3 q4 q5 q6 q8 u) t.heap) A) (by decide) rfl rfl (Nat.le_of_ble_eq_true rfl) rfl ?_
  intro p e s m below meth c A ls S hr hlk hname hsz hP hK hD hA hSub hS hE hl
  have hx := S.1
  have hb := S.2.1
  have hown := S.2.2.2.1
  have hts := S.2.2.2.2
  have i_X1 : ∀ w ∈ u_ws RX1 TX1 12, w ∈ wsX1_fetch := by decide +kernel
  have i_X4 : ∀ w ∈ u_ws RX4 TX4 3, w ∈ wsX1_fetch := by decide +kernel
  have f_21 := hts (.fieldLink RX1 21 "MachineCore$Registers" "ip" "I") (by decide +kernel)
  have f_29 := hts (.fieldLink RX1 29 "MachineCore$Code" "fetched" "I") (by decide +kernel)
  unfold wX1_fetch at hw
  obtain ⟨H, eH⟩ : ∃ H, H = s.heap := ⟨_, rfl⟩
  obtain ⟨locs, eL⟩ : ∃ locs : List Loc, locs = [] := ⟨_, rfl⟩
  replace hP : va_P D vwCl (WF cB cI q1 q2 q3 q4 q5 q6 q8 u) H := by rw [eH]; exact hP
  replace hS : va_S A s.heap H locs := by rw [eH, eL]; exact hS
  suffices hgo : W p l e ({ frames := 2, cells := 0, slots := 0, locals := 46 } : Room) s m ([.ref q8, .ref q1, .ref q4] : List Value).toArray below meth c H locs 0 0 (MQ below (va_Qi P (fun u t => va_P D vwCl (WF cB cI q1 q2 q3 q4 q5 q6 q8 u) t.heap) A) ([.ref q8, .ref q1, .ref q4] : List Value).toArray s 0 0 A) (F0 m 0 ls []) by rw [eH, eL] at hgo; exact hgo
  clear eH eL
  refine lv_aload_n hx hb dX1_fetch_0 rfl (lv_at hl 1 rfl) ?_
  refine lv_aload_n hx hb dX1_fetch_1 rfl (lv_at hl 2 rfl) ?_
  refine lv_iconst (v := (1 : Int32)) hx hb dX1_fetch_2 (by decide) ?_
  refine cl_Vi (As := [.int (1 : Int32)]) (rest := [.ref q1]) (st := [.int (1 : Int32), .ref q4, .ref q1]) S hK hA hP hD hS (fr_F_R u) (kcX4_segment l D cB cI q4 q5 q6 H.size (1 : Int32) (f_regs u) _ hw) (cwV 1 hts gX1_fetch_X4_segment rfl rfl rfl (by decide +kernel) ⟨Nat.le_of_ble_eq_true rfl, Nat.le_of_ble_eq_true rfl⟩) tru_h tru_b 4 rfl rfl rfl rfl rfl hl.1 (Nat.le_of_ble_eq_true rfl) dX1_fetch_3 ⟨Nat.zero_le _, Nat.zero_le _⟩ (fun r2 u1 H locs hP hD hS hw => ?_)
  replace hP : va_P D vwCl (WF cB cI q1 q2 q3 q4 q5 q6 q8 (fs_regs u u1)) H := hP
  replace hD : va_D A (WF cB cI q1 q2 q3 q4 q5 q6 q8 (fs_regs u u1)) := hD
  refine lv_aload_n hx hb dX1_fetch_6 rfl (lv_at hl 2 rfl) ?_
  refine va_get (D := D) (ci := 4) (v := .int (r_ip u1)) (C := RX4) (T := TX4) (N := 3) hx hb hts i_X4 hown hK hP 4 rfl rfl 2 (by decide) f_21 (fun _ h9 => h9) rfl dX1_fetch_7 ?_
  refine lv_iconst (v := (0 : Int32)) hx hb dX1_fetch_10 (by decide) ?_
  refine cl_Vi (As := [.int r2, .int (r_ip u1), .int (0 : Int32)]) (rest := []) (st := [.int (0 : Int32), .int (r_ip u1), .int r2, .ref q1]) S hK hA hP hD hS (fr_F_M (fs_regs u u1)) (kcX2_load l D cB cI q1 q2 q3 H.size r2 (r_ip u1) (0 : Int32) (f_mem u) _ hw) (cwV 3 hts gX1_fetch_X2_load rfl rfl rfl (by decide +kernel) ⟨Nat.le_of_ble_eq_true rfl, Nat.le_of_ble_eq_true rfl⟩) tru_h tru_b 1 rfl rfl rfl rfl rfl hl.1 (Nat.le_of_ble_eq_true rfl) dX1_fetch_11 ⟨Nat.zero_le _, Nat.zero_le _⟩ (fun r4 u3 H locs hP hD hS hw => ?_)
  replace hP : va_P D vwCl (WF cB cI q1 q2 q3 q4 q5 q6 q8 (fs_regs (fs_mem u u3) u1)) H := hP
  replace hD : va_D A (WF cB cI q1 q2 q3 q4 q5 q6 q8 (fs_regs (fs_mem u u3) u1)) := hD
  refine lv_istore_n (lv' := [(3, .int r4), (0, .ref q8), (1, .ref q1), (2, .ref q4)]) hx hb dX1_fetch_14 rfl hl (by decide) rfl (fun ls hl => ?_)
  refine lv_aload_n hx hb dX1_fetch_15 rfl (lv_at hl 3 rfl) ?_
  refine lv_aload_n hx hb dX1_fetch_16 rfl (lv_at hl 3 rfl) ?_
  refine va_get (D := D) (ci := 4) (v := .int (r_ip u1)) (C := RX4) (T := TX4) (N := 3) hx hb hts i_X4 hown hK hP 4 rfl rfl 2 (by decide) f_21 (fun _ h9 => h9) rfl dX1_fetch_17 ?_
  refine lv_iconst (v := (1 : Int32)) hx hb dX1_fetch_20 (by decide) ?_
  refine lv_iadd hx hb dX1_fetch_21 ?_
  refine cl_Vv (As := [.int ((r_ip u1) + (1 : Int32))]) (rest := []) (st := [.int ((r_ip u1) + (1 : Int32)), .ref q4]) S hK hA hP hD hS (fr_F_R (fs_regs (fs_mem u u3) u1)) (kcX4_moveTo l D cB cI q4 q5 q6 H.size ((r_ip u1) + (1 : Int32)) u1 _ hw) (cwV 1 hts gX1_fetch_X4_moveTo rfl rfl rfl (by decide +kernel) ⟨Nat.le_of_ble_eq_true rfl, Nat.le_of_ble_eq_true rfl⟩) tru_h tru_b 4 rfl rfl rfl rfl rfl hl.1 (Nat.le_of_ble_eq_true rfl) dX1_fetch_22 ⟨Nat.zero_le _, Nat.zero_le _⟩ (fun u5 H locs hP hD hS hw => ?_)
  replace hP : va_P D vwCl (WF cB cI q1 q2 q3 q4 q5 q6 q8 (fs_regs (fs_mem u u3) u5)) H := hP
  replace hD : va_D A (WF cB cI q1 q2 q3 q4 q5 q6 q8 (fs_regs (fs_mem u u3) u5)) := hD
  refine lv_aload_n hx hb dX1_fetch_25 rfl (lv_at hl 1 rfl) ?_
  refine lv_dup hx hb dX1_fetch_26 rfl ?_
  refine va_get (D := D) (ci := 1) (v := .int (c_fetched (f_code u))) (C := RX1) (T := TX1) (N := 12) hx hb hts i_X1 hown hK hP 0 rfl rfl 11 (by decide) f_29 (fun _ h9 => h9) rfl dX1_fetch_27 ?_
  refine lv_iconst (v := (1 : Int32)) hx hb dX1_fetch_30 (by decide) ?_
  refine lv_iadd hx hb dX1_fetch_31 ?_
  refine va_put (D := D) (ci := 1) (v := .int ((c_fetched (f_code u)) + (1 : Int32))) (ty := .int) (C := RX1) (T := TX1) (N := 12) hx hb hts i_X1 tyX1 tyX1_ok nmX1 hown hK hP hD hS 0 rfl rfl 11 (by decide) f_29 (fun _ h9 => h9) rfl (by decide +kernel) rfl rfl (Nat.le_of_ble_eq_true rfl) dX1_fetch_32 (fun H locs hP hD hS => ?_)
  replace hP : va_P D vwCl (WF cB cI q1 q2 q3 q4 q5 q6 q8 (fs_regs (fs_mem (fs_code u (cs_fetched (f_code u) ((c_fetched (f_code u)) + (1 : Int32)))) u3) u5)) H := hP
  replace hD : va_D A (WF cB cI q1 q2 q3 q4 q5 q6 q8 (fs_regs (fs_mem (fs_code u (cs_fetched (f_code u) ((c_fetched (f_code u)) + (1 : Int32)))) u3) u5)) := hD
  refine lv_iload_n hx hb dX1_fetch_35 rfl (lv_at hl 0 rfl) ?_
  exact rt_i (wo := (fun v => WF cB cI q1 q2 q3 q4 q5 q6 q8 v)) S hr hlk (fs_regs (fs_mem (fs_code u (cs_fetched (f_code u) ((c_fetched (f_code u)) + (1 : Int32)))) u3) u5) hP hS hw dX1_fetch_36
-- X1_formOf
def wX1_formOf (a0 : Int32) (u : Unit) (P : Int32 → Unit → Prop) : Prop := (vp_in (a0 &&& (255 : Int32)) 256 ∧ (P (formsF (a0 &&& (255 : Int32)).toNatClampNeg) u))
set_option maxHeartbeats 4000000 in
set_option maxRecDepth 100000 in
theorem kcX1_formOf (l : Launch) (D : va_G) (cB cI : ClassId) (qF : Nat) (sz : Nat) (a0 : Int32) (u : Unit) (P : Int32 → Unit → Prop) (hw : wX1_formOf a0 u P) : Met l yX1_formOf wsX1_formOf ({ frames := 0, cells := 0, slots := 0, locals := 0 } : Room) (va_Pc [.int a0] (Pcw D (tyA cB cI) [] sz (Fz qF [] sz))) (va_Qi P (fun u t => va_P D vwCl [] t.heap) (va_A [] sz)) 0 0 (va_A [] sz) := by
  refine en_ (cc := cX1_formOf) (maxL := 1) (ret := (some .int)) (own := RX1) (lv := [(0, .int a0)]) (Qf := fun A => va_Qi P (fun u t => va_P D vwCl [] t.heap) A) (by decide) rfl rfl (Nat.le_of_ble_eq_true rfl) rfl ?_
  intro p e s m below meth c A ls S hr hlk hname hsz hP hK hD hA hSub hS hE hl
  have hx := S.1
  have hb := S.2.1
  have hown := S.2.2.2.1
  have hts := S.2.2.2.2
  have hE := fz_own hsz hSub hE
  unfold wX1_formOf at hw
  obtain ⟨H, eH⟩ : ∃ H, H = s.heap := ⟨_, rfl⟩
  obtain ⟨locs, eL⟩ : ∃ locs : List Loc, locs = [] := ⟨_, rfl⟩
  replace hP : va_P D vwCl [] H := by rw [eH]; exact hP
  replace hS : va_S A s.heap H locs := by rw [eH, eL]; exact hS
  suffices hgo : W p l e ({ frames := 0, cells := 0, slots := 0, locals := 0 } : Room) s m ([.int a0] : List Value).toArray below meth c H locs 0 0 (MQ below (va_Qi P (fun u t => va_P D vwCl [] t.heap) A) ([.int a0] : List Value).toArray s 0 0 A) (F0 m 0 ls []) by rw [eH, eL] at hgo; exact hgo
  clear eH eL
  refine va_gets hx hb hE.1 hS hown (hts (.fieldLink RX1 54 "MachineCore$Code" "FORMS" "[I") (by decide +kernel)) (fun _ h9 => h9) dX1_formOf_0 ?_
  refine lv_iload_n hx hb dX1_formOf_3 rfl (lv_at hl 0 rfl) ?_
  refine lv_sipush (v := (255 : Int32)) hx hb dX1_formOf_4 (by decide) ?_
  refine lv_iand hx hb dX1_formOf_7 ?_
  refine va_sld hx hb hE.2.1 hE.2.2.1 hE.2.2.2 hS hw.1 dX1_formOf_8 ?_
  replace hw := hw.2
  exact rt_i (wo := (fun _ => [])) S hr hlk u hP hS hw dX1_formOf_9
-- X1_keepPrefix
def wX1_keepPrefix  (u : SC) (P : SC → Prop) : Prop := (((64 : Int32) ≤ (c_number u) → (((c_number u) < (242 : Int32) → (P u)) ∧ (¬ (c_number u) < (242 : Int32) → (P (cs_repeat u (c_number u)))))) ∧ (¬ (64 : Int32) ≤ (c_number u) → (P (cs_givenSegment u (((c_number u) >>> ((3 : Int32) &&& 31)) &&& (3 : Int32))))))
set_option maxHeartbeats 4000000 in
set_option maxRecDepth 100000 in
theorem kcX1_keepPrefix (l : Launch) (D : va_G) (cB cI : ClassId) (q8 : Nat) (sz : Nat)  (u : SC) (P : SC → Prop) (hw : wX1_keepPrefix  u P) : Met l yX1_keepPrefix wsX1_keepPrefix ({ frames := 0, cells := 0, slots := 0, locals := 0 } : Room) (va_Pc [.ref q8] (Pcw D (tyA cB cI) (WC q8 u) sz Tru)) (va_Qv P (fun u t => va_P D vwCl (WC q8 u) t.heap) (va_A (WC q8 u) sz)) 0 0 (va_A (WC q8 u) sz) := by
  refine en_ (cc := cX1_keepPrefix) (maxL := 1) (ret := none) (own := RX1) (lv := [(0, .ref q8)]) (Qf := fun A => va_Qv P (fun u t => va_P D vwCl (WC q8 u) t.heap) A) (by decide) rfl rfl (Nat.le_of_ble_eq_true rfl) rfl ?_
  intro p e s m below meth c A ls S hr hlk hname hsz hP hK hD hA hSub hS hE hl
  have hx := S.1
  have hb := S.2.1
  have hown := S.2.2.2.1
  have hts := S.2.2.2.2
  have i_X1 : ∀ w ∈ u_ws RX1 TX1 12, w ∈ wsX1_keepPrefix := by decide +kernel
  have f_9 := hts (.fieldLink RX1 9 "MachineCore$Code" "number" "I") (by decide +kernel)
  have f_18 := hts (.fieldLink RX1 18 "MachineCore$Code" "givenSegment" "I") (by decide +kernel)
  have f_32 := hts (.fieldLink RX1 32 "MachineCore$Code" "repeat" "I") (by decide +kernel)
  unfold wX1_keepPrefix at hw
  obtain ⟨H, eH⟩ : ∃ H, H = s.heap := ⟨_, rfl⟩
  obtain ⟨locs, eL⟩ : ∃ locs : List Loc, locs = [] := ⟨_, rfl⟩
  replace hP : va_P D vwCl (WC q8 u) H := by rw [eH]; exact hP
  replace hS : va_S A s.heap H locs := by rw [eH, eL]; exact hS
  suffices hgo : W p l e ({ frames := 0, cells := 0, slots := 0, locals := 0 } : Room) s m ([.ref q8] : List Value).toArray below meth c H locs 0 0 (MQ below (va_Qv P (fun u t => va_P D vwCl (WC q8 u) t.heap) A) ([.ref q8] : List Value).toArray s 0 0 A) (F0 m 0 ls []) by rw [eH, eL] at hgo; exact hgo
  clear eH eL
  refine lv_aload_n hx hb dX1_keepPrefix_0 rfl (lv_at hl 0 rfl) ?_
  refine va_get (D := D) (ci := 1) (v := .int (c_number u)) (C := RX1) (T := TX1) (N := 12) hx hb hts i_X1 hown hK hP 0 rfl rfl 1 (by decide) f_9 (fun _ h9 => h9) rfl dX1_keepPrefix_1 ?_
  refine lv_bipush (v := (64 : Int32)) hx hb dX1_keepPrefix_4 (by decide) ?_
  refine lv_icmp_ge (tgt := 24) hx hb dX1_keepPrefix_6 (by decide) (fun c1 => ?_) (fun c1 => ?_)
  · replace hw := hw.1 c1
    refine lv_aload_n hx hb dX1_keepPrefix_24 rfl (lv_at hl 0 rfl) ?_
    refine va_get (D := D) (ci := 1) (v := .int (c_number u)) (C := RX1) (T := TX1) (N := 12) hx hb hts i_X1 hown hK hP 0 rfl rfl 1 (by decide) f_9 (fun _ h9 => h9) rfl dX1_keepPrefix_25 ?_
    refine lv_sipush (v := (242 : Int32)) hx hb dX1_keepPrefix_28 (by decide) ?_
    refine lv_icmp_lt (tgt := 42) hx hb dX1_keepPrefix_31 (by decide) (fun c2 => ?_) (fun c2 => ?_)
    · replace hw := hw.1 c2
      exact rt_v (wo := (fun v => WC q8 v)) S hr hlk u hP hS hw dX1_keepPrefix_42
    · replace hw := hw.2 c2
      refine lv_aload_n hx hb dX1_keepPrefix_34 rfl (lv_at hl 0 rfl) ?_
      refine lv_aload_n hx hb dX1_keepPrefix_35 rfl (lv_at hl 0 rfl) ?_
      refine va_get (D := D) (ci := 1) (v := .int (c_number u)) (C := RX1) (T := TX1) (N := 12) hx hb hts i_X1 hown hK hP 0 rfl rfl 1 (by decide) f_9 (fun _ h9 => h9) rfl dX1_keepPrefix_36 ?_
      refine va_put (D := D) (ci := 1) (v := .int (c_number u)) (ty := .int) (C := RX1) (T := TX1) (N := 12) hx hb hts i_X1 tyX1 tyX1_ok nmX1 hown hK hP hD hS 0 rfl rfl 3 (by decide) f_32 (fun _ h9 => h9) rfl (by decide +kernel) rfl rfl (Nat.le_of_ble_eq_true rfl) dX1_keepPrefix_39 (fun H locs hP hD hS => ?_)
      replace hP : va_P D vwCl (WC q8 (cs_repeat u (c_number u))) H := hP
      replace hD : va_D A (WC q8 (cs_repeat u (c_number u))) := hD
      exact rt_v (wo := (fun v => WC q8 v)) S hr hlk (cs_repeat u (c_number u)) hP hS hw dX1_keepPrefix_42
  · replace hw := hw.2 c1
    refine lv_aload_n hx hb dX1_keepPrefix_9 rfl (lv_at hl 0 rfl) ?_
    refine lv_aload_n hx hb dX1_keepPrefix_10 rfl (lv_at hl 0 rfl) ?_
    refine va_get (D := D) (ci := 1) (v := .int (c_number u)) (C := RX1) (T := TX1) (N := 12) hx hb hts i_X1 hown hK hP 0 rfl rfl 1 (by decide) f_9 (fun _ h9 => h9) rfl dX1_keepPrefix_11 ?_
    refine lv_iconst (v := (3 : Int32)) hx hb dX1_keepPrefix_14 (by decide) ?_
    refine lv_ishr hx hb dX1_keepPrefix_15 ?_
    refine lv_iconst (v := (3 : Int32)) hx hb dX1_keepPrefix_16 (by decide) ?_
    refine lv_iand hx hb dX1_keepPrefix_17 ?_
    refine va_put (D := D) (ci := 1) (v := .int (((c_number u) >>> ((3 : Int32) &&& 31)) &&& (3 : Int32))) (ty := .int) (C := RX1) (T := TX1) (N := 12) hx hb hts i_X1 tyX1 tyX1_ok nmX1 hown hK hP hD hS 0 rfl rfl 2 (by decide) f_18 (fun _ h9 => h9) rfl (by decide +kernel) rfl rfl (Nat.le_of_ble_eq_true rfl) dX1_keepPrefix_18 (fun H locs hP hD hS => ?_)
    replace hP : va_P D vwCl (WC q8 (cs_givenSegment u (((c_number u) >>> ((3 : Int32) &&& 31)) &&& (3 : Int32)))) H := hP
    replace hD : va_D A (WC q8 (cs_givenSegment u (((c_number u) >>> ((3 : Int32) &&& 31)) &&& (3 : Int32)))) := hD
    refine lv_goto (tgt := 42) hx hb dX1_keepPrefix_21 (by decide) ?_
    exact rt_v (wo := (fun v => WC q8 v)) S hr hlk (cs_givenSegment u (((c_number u) >>> ((3 : Int32) &&& 31)) &&& (3 : Int32))) hP hS hw dX1_keepPrefix_42
-- X1_fetchNumber
def wX1_fetchNumber_b12  (P : SF → Prop) : Nat → Int32 → SF → Prop
  | 0, _, _ => False
  | n + 1, x3, u => (((15 : Int32) ≤ x3 → (P u)) ∧ (¬ (15 : Int32) ≤ x3 → (wX1_formOf (c_number (f_code u)) () (fun r5 u4 => ((r5 = (9 : Int32) → (wX1_keepPrefix  (f_code u) (fun u7 => (wX1_fetch  (fs_code u u7) (fun r10 u9 => (wX1_fetchNumber_b12  P n (x3 + (1 : Int32)) (fs_code u9 (cs_number (f_code u9) r10)))))))) ∧ (¬ r5 = (9 : Int32) → (P u)))))))
def wX1_fetchNumber  (u : SF) (P : SF → Prop) : Prop := (wX1_fetch  u (fun r2 u1 => (∃ n, wX1_fetchNumber_b12  P n (1 : Int32) (fs_code u1 (cs_number (f_code u1) r2)))))
set_option maxHeartbeats 4000000 in
set_option maxRecDepth 100000 in
theorem kcX1_fetchNumber (l : Launch) (D : va_G) (cB cI : ClassId) (qF : Nat) (q1 q2 q3 q4 q5 q6 q8 : Nat) (sz : Nat)  (u : SF) (P : SF → Prop) (hw : wX1_fetchNumber  u P) : Met l yX1_fetchNumber wsX1_fetchNumber ({ frames := 3, cells := 0, slots := 0, locals := 69 } : Room) (va_Pc [.ref q8, .ref q1, .ref q4] (Pcw D (tyA cB cI) (WF cB cI q1 q2 q3 q4 q5 q6 q8 u) sz (Fz qF (WF cB cI q1 q2 q3 q4 q5 q6 q8 u) sz))) (va_Qv P (fun u t => va_P D vwCl (WF cB cI q1 q2 q3 q4 q5 q6 q8 u) t.heap) (va_A (WF cB cI q1 q2 q3 q4 q5 q6 q8 u) sz)) 0 0 (va_A (WF cB cI q1 q2 q3 q4 q5 q6 q8 u) sz) := by
  refine en_ (cc := cX1_fetchNumber) (maxL := 4) (ret := none) (own := RX1) (lv := [(0, .ref q8), (1, .ref q1), (2, .ref q4)]) (Qf := fun A => va_Qv P (fun u t => va_P D vwCl (WF cB cI q1 q2 q3 q4 q5 q6 q8 u) t.heap) A) (by decide) rfl rfl (Nat.le_of_ble_eq_true rfl) rfl ?_
  intro p e s m below meth c A ls S hr hlk hname hsz hP hK hD hA hSub hS hE hl
  have hx := S.1
  have hb := S.2.1
  have hown := S.2.2.2.1
  have hts := S.2.2.2.2
  have i_X1 : ∀ w ∈ u_ws RX1 TX1 12, w ∈ wsX1_fetchNumber := by decide +kernel
  have f_9 := hts (.fieldLink RX1 9 "MachineCore$Code" "number" "I") (by decide +kernel)
  have hE := fz_own hsz hSub hE
  have b12 : ∀ (n : Nat) (x3 : Int32) (u : SF) (H : Heap) (locs : List Loc) (ls : Array Slot), va_P D vwCl (WF cB cI q1 q2 q3 q4 q5 q6 q8 u) H → va_D A (WF cB cI q1 q2 q3 q4 q5 q6 q8 u) → va_S A s.heap H locs → lv_has ls 4 [(0, .ref q8), (1, .ref q1), (2, .ref q4), (3, .int x3)] → wX1_fetchNumber_b12  P n x3 u → W p l e ({ frames := 3, cells := 0, slots := 0, locals := 69 } : Room) s m ([.ref q8, .ref q1, .ref q4] : List Value).toArray below meth c H locs 0 0 (MQ below (va_Qv P (fun u t => va_P D vwCl (WF cB cI q1 q2 q3 q4 q5 q6 q8 u) t.heap) A) ([.ref q8, .ref q1, .ref q4] : List Value).toArray s 0 0 A) (F0 m 12 ls []) := by
    intro n
    induction n with
    | zero => intro x3 u H locs ls hP hD hS hl hw; exact False.elim hw
    | succ n ih =>
      intro x3 u H locs ls hP hD hS hl hw
      rw [wX1_fetchNumber_b12] at hw
      refine lv_iload_n hx hb dX1_fetchNumber_12 rfl (lv_at hl 3 rfl) ?_
      refine lv_bipush (v := (15 : Int32)) hx hb dX1_fetchNumber_13 (by decide) ?_
      refine lv_icmp_ge (tgt := 50) hx hb dX1_fetchNumber_15 (by decide) (fun c3 => ?_) (fun c3 => ?_)
      · replace hw := hw.1 c3
        exact rt_v (wo := (fun v => WF cB cI q1 q2 q3 q4 q5 q6 q8 v)) S hr hlk u hP hS hw dX1_fetchNumber_50
      · replace hw := hw.2 c3
        refine lv_aload_n hx hb dX1_fetchNumber_18 rfl (lv_at hl 0 rfl) ?_
        refine va_get (D := D) (ci := 1) (v := .int (c_number (f_code u))) (C := RX1) (T := TX1) (N := 12) hx hb hts i_X1 hown hK hP 0 rfl rfl 1 (by decide) f_9 (fun _ h9 => h9) rfl dX1_fetchNumber_19 ?_
        refine cl_Si (As := [.int (c_number (f_code u))]) (rest := []) (st := [.int (c_number (f_code u))]) S hK hA hP hD hS Fr_nil (kcX1_formOf l D cB cI qF  H.size (c_number (f_code u)) () _ hw) (va_cwS 1 hts gX1_fetchNumber_X1_formOf rfl rfl rfl (by decide +kernel) ⟨Nat.le_of_ble_eq_true rfl, Nat.le_of_ble_eq_true rfl⟩) (fz_call hE hA hD hS Fr_nil) fz_b rfl rfl hl.1 (Nat.le_of_ble_eq_true rfl) dX1_fetchNumber_22 ⟨Nat.zero_le _, Nat.zero_le _⟩ (fun r5 u4 H locs hP hD hS hw => ?_)
        replace hP : va_P D vwCl (WF cB cI q1 q2 q3 q4 q5 q6 q8 u) H := hP
        replace hD : va_D A (WF cB cI q1 q2 q3 q4 q5 q6 q8 u) := hD
        refine lv_bipush (v := (9 : Int32)) hx hb dX1_fetchNumber_25 (by decide) ?_
        refine lv_icmp_ne (tgt := 50) hx hb dX1_fetchNumber_27 (by decide) (fun c6 => ?_) (fun c6 => ?_)
        · replace hw := hw.2 c6
          exact rt_v (wo := (fun v => WF cB cI q1 q2 q3 q4 q5 q6 q8 v)) S hr hlk u hP hS hw dX1_fetchNumber_50
        · replace hw := hw.1 c6
          refine lv_aload_n hx hb dX1_fetchNumber_30 rfl (lv_at hl 0 rfl) ?_
          refine cl_Vv (As := []) (rest := []) (st := [.ref q8]) S hK hA hP hD hS (fr_F_C u) (kcX1_keepPrefix l D cB cI q8 H.size  (f_code u) _ hw) (cwV 0 hts gX1_fetchNumber_X1_keepPrefix rfl rfl rfl (by decide +kernel) ⟨Nat.le_of_ble_eq_true rfl, Nat.le_of_ble_eq_true rfl⟩) tru_h tru_b 0 rfl rfl rfl rfl rfl hl.1 (Nat.le_of_ble_eq_true rfl) dX1_fetchNumber_31 ⟨Nat.zero_le _, Nat.zero_le _⟩ (fun u7 H locs hP hD hS hw => ?_)
          replace hP : va_P D vwCl (WF cB cI q1 q2 q3 q4 q5 q6 q8 (fs_code u u7)) H := hP
          replace hD : va_D A (WF cB cI q1 q2 q3 q4 q5 q6 q8 (fs_code u u7)) := hD
          refine lv_aload_n hx hb dX1_fetchNumber_34 rfl (lv_at hl 0 rfl) ?_
          refine lv_aload_n hx hb dX1_fetchNumber_35 rfl (lv_at hl 0 rfl) ?_
          refine lv_aload_n hx hb dX1_fetchNumber_36 rfl (lv_at hl 1 rfl) ?_
          refine lv_aload_n hx hb dX1_fetchNumber_37 rfl (lv_at hl 2 rfl) ?_
          refine cl_Vi (As := [.ref q1, .ref q4]) (rest := [.ref q8]) (st := [.ref q4, .ref q1, .ref q8, .ref q8]) S hK hA hP hD hS (fr_F (fs_code u u7)) (kcX1_fetch l D cB cI q1 q2 q3 q4 q5 q6 q8 H.size  (fs_code u u7) _ hw) (cwV 2 hts gX1_fetchNumber_X1_fetch rfl rfl rfl (by decide +kernel) ⟨Nat.le_of_ble_eq_true rfl, Nat.le_of_ble_eq_true rfl⟩) tru_h tru_b 0 rfl rfl rfl rfl rfl hl.1 (Nat.le_of_ble_eq_true rfl) dX1_fetchNumber_38 ⟨Nat.zero_le _, Nat.zero_le _⟩ (fun r10 u9 H locs hP hD hS hw => ?_)
          replace hP : va_P D vwCl (WF cB cI q1 q2 q3 q4 q5 q6 q8 u9) H := hP
          replace hD : va_D A (WF cB cI q1 q2 q3 q4 q5 q6 q8 u9) := hD
          refine va_put (D := D) (ci := 1) (v := .int r10) (ty := .int) (C := RX1) (T := TX1) (N := 12) hx hb hts i_X1 tyX1 tyX1_ok nmX1 hown hK hP hD hS 0 rfl rfl 1 (by decide) f_9 (fun _ h9 => h9) rfl (by decide +kernel) rfl rfl (Nat.le_of_ble_eq_true rfl) dX1_fetchNumber_41 (fun H locs hP hD hS => ?_)
          replace hP : va_P D vwCl (WF cB cI q1 q2 q3 q4 q5 q6 q8 (fs_code u9 (cs_number (f_code u9) r10))) H := hP
          replace hD : va_D A (WF cB cI q1 q2 q3 q4 q5 q6 q8 (fs_code u9 (cs_number (f_code u9) r10))) := hD
          refine lv_iinc (v := (x3 + (1 : Int32))) (lv' := [(3, .int (x3 + (1 : Int32))), (0, .ref q8), (1, .ref q1), (2, .ref q4)]) hx hb dX1_fetchNumber_44 hl (k := 3) rfl rfl (by decide) rfl (fun ls hl => ?_)
          refine lv_goto (tgt := 12) hx hb dX1_fetchNumber_47 (by decide) ?_
          exact ih (x3 + (1 : Int32)) (fs_code u9 (cs_number (f_code u9) r10)) H locs ls hP hD hS (lv_sub hl [1, 2, 3, 0] rfl) hw
  unfold wX1_fetchNumber at hw
  obtain ⟨H, eH⟩ : ∃ H, H = s.heap := ⟨_, rfl⟩
  obtain ⟨locs, eL⟩ : ∃ locs : List Loc, locs = [] := ⟨_, rfl⟩
  replace hP : va_P D vwCl (WF cB cI q1 q2 q3 q4 q5 q6 q8 u) H := by rw [eH]; exact hP
  replace hS : va_S A s.heap H locs := by rw [eH, eL]; exact hS
  suffices hgo : W p l e ({ frames := 3, cells := 0, slots := 0, locals := 69 } : Room) s m ([.ref q8, .ref q1, .ref q4] : List Value).toArray below meth c H locs 0 0 (MQ below (va_Qv P (fun u t => va_P D vwCl (WF cB cI q1 q2 q3 q4 q5 q6 q8 u) t.heap) A) ([.ref q8, .ref q1, .ref q4] : List Value).toArray s 0 0 A) (F0 m 0 ls []) by rw [eH, eL] at hgo; exact hgo
  clear eH eL
  refine lv_aload_n hx hb dX1_fetchNumber_0 rfl (lv_at hl 0 rfl) ?_
  refine lv_aload_n hx hb dX1_fetchNumber_1 rfl (lv_at hl 0 rfl) ?_
  refine lv_aload_n hx hb dX1_fetchNumber_2 rfl (lv_at hl 1 rfl) ?_
  refine lv_aload_n hx hb dX1_fetchNumber_3 rfl (lv_at hl 2 rfl) ?_
  refine cl_Vi (As := [.ref q1, .ref q4]) (rest := [.ref q8]) (st := [.ref q4, .ref q1, .ref q8, .ref q8]) S hK hA hP hD hS (fr_F u) (kcX1_fetch l D cB cI q1 q2 q3 q4 q5 q6 q8 H.size  u _ hw) (cwV 2 hts gX1_fetchNumber_X1_fetch rfl rfl rfl (by decide +kernel) ⟨Nat.le_of_ble_eq_true rfl, Nat.le_of_ble_eq_true rfl⟩) tru_h tru_b 0 rfl rfl rfl rfl rfl hl.1 (Nat.le_of_ble_eq_true rfl) dX1_fetchNumber_4 ⟨Nat.zero_le _, Nat.zero_le _⟩ (fun r2 u1 H locs hP hD hS hw => ?_)
  replace hP : va_P D vwCl (WF cB cI q1 q2 q3 q4 q5 q6 q8 u1) H := hP
  replace hD : va_D A (WF cB cI q1 q2 q3 q4 q5 q6 q8 u1) := hD
  refine va_put (D := D) (ci := 1) (v := .int r2) (ty := .int) (C := RX1) (T := TX1) (N := 12) hx hb hts i_X1 tyX1 tyX1_ok nmX1 hown hK hP hD hS 0 rfl rfl 1 (by decide) f_9 (fun _ h9 => h9) rfl (by decide +kernel) rfl rfl (Nat.le_of_ble_eq_true rfl) dX1_fetchNumber_7 (fun H locs hP hD hS => ?_)
  replace hP : va_P D vwCl (WF cB cI q1 q2 q3 q4 q5 q6 q8 (fs_code u1 (cs_number (f_code u1) r2))) H := hP
  replace hD : va_D A (WF cB cI q1 q2 q3 q4 q5 q6 q8 (fs_code u1 (cs_number (f_code u1) r2))) := hD
  refine lv_iconst (v := (1 : Int32)) hx hb dX1_fetchNumber_10 (by decide) ?_
  refine lv_istore_n (lv' := [(3, .int (1 : Int32)), (0, .ref q8), (1, .ref q1), (2, .ref q4)]) hx hb dX1_fetchNumber_11 rfl hl (by decide) rfl (fun ls hl => ?_)
  obtain ⟨n, hw⟩ := hw
  exact b12 n (1 : Int32) (fs_code u1 (cs_number (f_code u1) r2)) H locs ls hP hD hS (lv_sub hl [1, 2, 3, 0] rfl) hw
-- X1_base
def wX1_base  (u : SF) (P : Int32 → SF → Prop) : Prop := (((c_m (f_code u)) = (0 : Int32) → (wX4_word (3 : Int32) (f_regs u) (fun r3 u2 => (wX4_word (6 : Int32) u2 (fun r5 u4 => (P (r3 + r5) (fs_regs u u4))))))) ∧ (¬ (c_m (f_code u)) = (0 : Int32) → (((c_m (f_code u)) = (1 : Int32) → (wX4_word (3 : Int32) (f_regs u) (fun r8 u7 => (wX4_word (7 : Int32) u7 (fun r10 u9 => (P (r8 + r10) (fs_regs u u9))))))) ∧ (¬ (c_m (f_code u)) = (1 : Int32) → (((c_m (f_code u)) = (2 : Int32) → (wX4_word (5 : Int32) (f_regs u) (fun r13 u12 => (wX4_word (6 : Int32) u12 (fun r15 u14 => (P (r13 + r15) (fs_regs u u14))))))) ∧ (¬ (c_m (f_code u)) = (2 : Int32) → (((c_m (f_code u)) = (3 : Int32) → (wX4_word (5 : Int32) (f_regs u) (fun r18 u17 => (wX4_word (7 : Int32) u17 (fun r20 u19 => (P (r18 + r20) (fs_regs u u19))))))) ∧ (¬ (c_m (f_code u)) = (3 : Int32) → (((c_m (f_code u)) = (4 : Int32) → (wX4_word (6 : Int32) (f_regs u) (fun r23 u22 => (P r23 (fs_regs u u22))))) ∧ (¬ (c_m (f_code u)) = (4 : Int32) → (((c_m (f_code u)) = (5 : Int32) → (wX4_word (7 : Int32) (f_regs u) (fun r26 u25 => (P r26 (fs_regs u u25))))) ∧ (¬ (c_m (f_code u)) = (5 : Int32) → (((c_m (f_code u)) = (6 : Int32) → (wX4_word (5 : Int32) (f_regs u) (fun r29 u28 => (P r29 (fs_regs u u28))))) ∧ (¬ (c_m (f_code u)) = (6 : Int32) → (wX4_word (3 : Int32) (f_regs u) (fun r31 u30 => (P r31 (fs_regs u u30))))))))))))))))))
set_option maxHeartbeats 4000000 in
set_option maxRecDepth 100000 in
theorem kcX1_base (l : Launch) (D : va_G) (cB cI : ClassId) (q1 q2 q3 q4 q5 q6 q8 : Nat) (sz : Nat)  (u : SF) (P : Int32 → SF → Prop) (hw : wX1_base  u P) : Met l yX1_base wsX1_base ({ frames := 1, cells := 0, slots := 0, locals := 21 } : Room) (va_Pc [.ref q8, .ref q4] (Pcw D (tyA cB cI) (WF cB cI q1 q2 q3 q4 q5 q6 q8 u) sz Tru)) (va_Qi P (fun u t => va_P D vwCl (WF cB cI q1 q2 q3 q4 q5 q6 q8 u) t.heap) (va_A (WF cB cI q1 q2 q3 q4 q5 q6 q8 u) sz)) 0 0 (va_A (WF cB cI q1 q2 q3 q4 q5 q6 q8 u) sz) := by
  refine en_ (cc := cX1_base) (maxL := 2) (ret := (some .int)) (own := RX1) (lv := [(0, .ref q8), (1, .ref q4)]) (Qf := fun A => va_Qi P (fun u t => va_P D vwCl (WF cB cI q1 q2 q3 q4 q5 q6 q8 u) t.heap) A) (by decide) rfl rfl (Nat.le_of_ble_eq_true rfl) rfl ?_
  intro p e s m below meth c A ls S hr hlk hname hsz hP hK hD hA hSub hS hE hl
  have hx := S.1
  have hb := S.2.1
  have hown := S.2.2.2.1
  have hts := S.2.2.2.2
  have i_X1 : ∀ w ∈ u_ws RX1 TX1 12, w ∈ wsX1_base := by decide +kernel
  have f_93 := hts (.fieldLink RX1 93 "MachineCore$Code" "m" "I") (by decide +kernel)
  unfold wX1_base at hw
  obtain ⟨H, eH⟩ : ∃ H, H = s.heap := ⟨_, rfl⟩
  obtain ⟨locs, eL⟩ : ∃ locs : List Loc, locs = [] := ⟨_, rfl⟩
  replace hP : va_P D vwCl (WF cB cI q1 q2 q3 q4 q5 q6 q8 u) H := by rw [eH]; exact hP
  replace hS : va_S A s.heap H locs := by rw [eH, eL]; exact hS
  suffices hgo : W p l e ({ frames := 1, cells := 0, slots := 0, locals := 21 } : Room) s m ([.ref q8, .ref q4] : List Value).toArray below meth c H locs 0 0 (MQ below (va_Qi P (fun u t => va_P D vwCl (WF cB cI q1 q2 q3 q4 q5 q6 q8 u) t.heap) A) ([.ref q8, .ref q4] : List Value).toArray s 0 0 A) (F0 m 0 ls []) by rw [eH, eL] at hgo; exact hgo
  clear eH eL
  refine lv_aload_n hx hb dX1_base_0 rfl (lv_at hl 0 rfl) ?_
  refine va_get (D := D) (ci := 1) (v := .int (c_m (f_code u))) (C := RX1) (T := TX1) (N := 12) hx hb hts i_X1 hown hK hP 0 rfl rfl 6 (by decide) f_93 (fun _ h9 => h9) rfl dX1_base_1 ?_
  by_cases c1 : (c_m (f_code u)) = (0 : Int32)
  · replace hw := hw.1 c1
    refine lv_tableIn (off := 44) (tgt := 48) hx hb dX1_base_4 (by rw [c1]; decide) (by rw [c1]; decide) (by rw [c1]; rfl) (by decide) ?_
    refine lv_aload_n hx hb dX1_base_48 rfl (lv_at hl 1 rfl) ?_
    refine lv_iconst (v := (3 : Int32)) hx hb dX1_base_49 (by decide) ?_
    refine cl_Vi (As := [.int (3 : Int32)]) (rest := []) (st := [.int (3 : Int32), .ref q4]) S hK hA hP hD hS (fr_F_R u) (kcX4_word l D cB cI q4 q5 q6 H.size (3 : Int32) (f_regs u) _ hw) (cwV 1 hts gX1_base_X4_word rfl rfl rfl (by decide +kernel) ⟨Nat.le_of_ble_eq_true rfl, Nat.le_of_ble_eq_true rfl⟩) tru_h tru_b 4 rfl rfl rfl rfl rfl hl.1 (Nat.le_of_ble_eq_true rfl) dX1_base_50 ⟨Nat.zero_le _, Nat.zero_le _⟩ (fun r3 u2 H locs hP hD hS hw => ?_)
    replace hP : va_P D vwCl (WF cB cI q1 q2 q3 q4 q5 q6 q8 (fs_regs u u2)) H := hP
    replace hD : va_D A (WF cB cI q1 q2 q3 q4 q5 q6 q8 (fs_regs u u2)) := hD
    refine lv_aload_n hx hb dX1_base_53 rfl (lv_at hl 1 rfl) ?_
    refine lv_bipush (v := (6 : Int32)) hx hb dX1_base_54 (by decide) ?_
    refine cl_Vi (As := [.int (6 : Int32)]) (rest := [.int r3]) (st := [.int (6 : Int32), .ref q4, .int r3]) S hK hA hP hD hS (fr_F_R (fs_regs u u2)) (kcX4_word l D cB cI q4 q5 q6 H.size (6 : Int32) u2 _ hw) (cwV 1 hts gX1_base_X4_word rfl rfl rfl (by decide +kernel) ⟨Nat.le_of_ble_eq_true rfl, Nat.le_of_ble_eq_true rfl⟩) tru_h tru_b 4 rfl rfl rfl rfl rfl hl.1 (Nat.le_of_ble_eq_true rfl) dX1_base_56 ⟨Nat.zero_le _, Nat.zero_le _⟩ (fun r5 u4 H locs hP hD hS hw => ?_)
    replace hP : va_P D vwCl (WF cB cI q1 q2 q3 q4 q5 q6 q8 (fs_regs u u4)) H := hP
    replace hD : va_D A (WF cB cI q1 q2 q3 q4 q5 q6 q8 (fs_regs u u4)) := hD
    refine lv_iadd hx hb dX1_base_59 ?_
    exact rt_i (wo := (fun v => WF cB cI q1 q2 q3 q4 q5 q6 q8 v)) S hr hlk (fs_regs u u4) hP hS hw dX1_base_60
  replace hw := hw.2 c1
  by_cases c6 : (c_m (f_code u)) = (1 : Int32)
  · replace hw := hw.1 c6
    refine lv_tableIn (off := 57) (tgt := 61) hx hb dX1_base_4 (by rw [c6]; decide) (by rw [c6]; decide) (by rw [c6]; rfl) (by decide) ?_
    refine lv_aload_n hx hb dX1_base_61 rfl (lv_at hl 1 rfl) ?_
    refine lv_iconst (v := (3 : Int32)) hx hb dX1_base_62 (by decide) ?_
    refine cl_Vi (As := [.int (3 : Int32)]) (rest := []) (st := [.int (3 : Int32), .ref q4]) S hK hA hP hD hS (fr_F_R u) (kcX4_word l D cB cI q4 q5 q6 H.size (3 : Int32) (f_regs u) _ hw) (cwV 1 hts gX1_base_X4_word rfl rfl rfl (by decide +kernel) ⟨Nat.le_of_ble_eq_true rfl, Nat.le_of_ble_eq_true rfl⟩) tru_h tru_b 4 rfl rfl rfl rfl rfl hl.1 (Nat.le_of_ble_eq_true rfl) dX1_base_63 ⟨Nat.zero_le _, Nat.zero_le _⟩ (fun r8 u7 H locs hP hD hS hw => ?_)
    replace hP : va_P D vwCl (WF cB cI q1 q2 q3 q4 q5 q6 q8 (fs_regs u u7)) H := hP
    replace hD : va_D A (WF cB cI q1 q2 q3 q4 q5 q6 q8 (fs_regs u u7)) := hD
    refine lv_aload_n hx hb dX1_base_66 rfl (lv_at hl 1 rfl) ?_
    refine lv_bipush (v := (7 : Int32)) hx hb dX1_base_67 (by decide) ?_
    refine cl_Vi (As := [.int (7 : Int32)]) (rest := [.int r8]) (st := [.int (7 : Int32), .ref q4, .int r8]) S hK hA hP hD hS (fr_F_R (fs_regs u u7)) (kcX4_word l D cB cI q4 q5 q6 H.size (7 : Int32) u7 _ hw) (cwV 1 hts gX1_base_X4_word rfl rfl rfl (by decide +kernel) ⟨Nat.le_of_ble_eq_true rfl, Nat.le_of_ble_eq_true rfl⟩) tru_h tru_b 4 rfl rfl rfl rfl rfl hl.1 (Nat.le_of_ble_eq_true rfl) dX1_base_69 ⟨Nat.zero_le _, Nat.zero_le _⟩ (fun r10 u9 H locs hP hD hS hw => ?_)
    replace hP : va_P D vwCl (WF cB cI q1 q2 q3 q4 q5 q6 q8 (fs_regs u u9)) H := hP
    replace hD : va_D A (WF cB cI q1 q2 q3 q4 q5 q6 q8 (fs_regs u u9)) := hD
    refine lv_iadd hx hb dX1_base_72 ?_
    exact rt_i (wo := (fun v => WF cB cI q1 q2 q3 q4 q5 q6 q8 v)) S hr hlk (fs_regs u u9) hP hS hw dX1_base_73
  replace hw := hw.2 c6
  by_cases c11 : (c_m (f_code u)) = (2 : Int32)
  · replace hw := hw.1 c11
    refine lv_tableIn (off := 70) (tgt := 74) hx hb dX1_base_4 (by rw [c11]; decide) (by rw [c11]; decide) (by rw [c11]; rfl) (by decide) ?_
    refine lv_aload_n hx hb dX1_base_74 rfl (lv_at hl 1 rfl) ?_
    refine lv_iconst (v := (5 : Int32)) hx hb dX1_base_75 (by decide) ?_
    refine cl_Vi (As := [.int (5 : Int32)]) (rest := []) (st := [.int (5 : Int32), .ref q4]) S hK hA hP hD hS (fr_F_R u) (kcX4_word l D cB cI q4 q5 q6 H.size (5 : Int32) (f_regs u) _ hw) (cwV 1 hts gX1_base_X4_word rfl rfl rfl (by decide +kernel) ⟨Nat.le_of_ble_eq_true rfl, Nat.le_of_ble_eq_true rfl⟩) tru_h tru_b 4 rfl rfl rfl rfl rfl hl.1 (Nat.le_of_ble_eq_true rfl) dX1_base_76 ⟨Nat.zero_le _, Nat.zero_le _⟩ (fun r13 u12 H locs hP hD hS hw => ?_)
    replace hP : va_P D vwCl (WF cB cI q1 q2 q3 q4 q5 q6 q8 (fs_regs u u12)) H := hP
    replace hD : va_D A (WF cB cI q1 q2 q3 q4 q5 q6 q8 (fs_regs u u12)) := hD
    refine lv_aload_n hx hb dX1_base_79 rfl (lv_at hl 1 rfl) ?_
    refine lv_bipush (v := (6 : Int32)) hx hb dX1_base_80 (by decide) ?_
    refine cl_Vi (As := [.int (6 : Int32)]) (rest := [.int r13]) (st := [.int (6 : Int32), .ref q4, .int r13]) S hK hA hP hD hS (fr_F_R (fs_regs u u12)) (kcX4_word l D cB cI q4 q5 q6 H.size (6 : Int32) u12 _ hw) (cwV 1 hts gX1_base_X4_word rfl rfl rfl (by decide +kernel) ⟨Nat.le_of_ble_eq_true rfl, Nat.le_of_ble_eq_true rfl⟩) tru_h tru_b 4 rfl rfl rfl rfl rfl hl.1 (Nat.le_of_ble_eq_true rfl) dX1_base_82 ⟨Nat.zero_le _, Nat.zero_le _⟩ (fun r15 u14 H locs hP hD hS hw => ?_)
    replace hP : va_P D vwCl (WF cB cI q1 q2 q3 q4 q5 q6 q8 (fs_regs u u14)) H := hP
    replace hD : va_D A (WF cB cI q1 q2 q3 q4 q5 q6 q8 (fs_regs u u14)) := hD
    refine lv_iadd hx hb dX1_base_85 ?_
    exact rt_i (wo := (fun v => WF cB cI q1 q2 q3 q4 q5 q6 q8 v)) S hr hlk (fs_regs u u14) hP hS hw dX1_base_86
  replace hw := hw.2 c11
  by_cases c16 : (c_m (f_code u)) = (3 : Int32)
  · replace hw := hw.1 c16
    refine lv_tableIn (off := 83) (tgt := 87) hx hb dX1_base_4 (by rw [c16]; decide) (by rw [c16]; decide) (by rw [c16]; rfl) (by decide) ?_
    refine lv_aload_n hx hb dX1_base_87 rfl (lv_at hl 1 rfl) ?_
    refine lv_iconst (v := (5 : Int32)) hx hb dX1_base_88 (by decide) ?_
    refine cl_Vi (As := [.int (5 : Int32)]) (rest := []) (st := [.int (5 : Int32), .ref q4]) S hK hA hP hD hS (fr_F_R u) (kcX4_word l D cB cI q4 q5 q6 H.size (5 : Int32) (f_regs u) _ hw) (cwV 1 hts gX1_base_X4_word rfl rfl rfl (by decide +kernel) ⟨Nat.le_of_ble_eq_true rfl, Nat.le_of_ble_eq_true rfl⟩) tru_h tru_b 4 rfl rfl rfl rfl rfl hl.1 (Nat.le_of_ble_eq_true rfl) dX1_base_89 ⟨Nat.zero_le _, Nat.zero_le _⟩ (fun r18 u17 H locs hP hD hS hw => ?_)
    replace hP : va_P D vwCl (WF cB cI q1 q2 q3 q4 q5 q6 q8 (fs_regs u u17)) H := hP
    replace hD : va_D A (WF cB cI q1 q2 q3 q4 q5 q6 q8 (fs_regs u u17)) := hD
    refine lv_aload_n hx hb dX1_base_92 rfl (lv_at hl 1 rfl) ?_
    refine lv_bipush (v := (7 : Int32)) hx hb dX1_base_93 (by decide) ?_
    refine cl_Vi (As := [.int (7 : Int32)]) (rest := [.int r18]) (st := [.int (7 : Int32), .ref q4, .int r18]) S hK hA hP hD hS (fr_F_R (fs_regs u u17)) (kcX4_word l D cB cI q4 q5 q6 H.size (7 : Int32) u17 _ hw) (cwV 1 hts gX1_base_X4_word rfl rfl rfl (by decide +kernel) ⟨Nat.le_of_ble_eq_true rfl, Nat.le_of_ble_eq_true rfl⟩) tru_h tru_b 4 rfl rfl rfl rfl rfl hl.1 (Nat.le_of_ble_eq_true rfl) dX1_base_95 ⟨Nat.zero_le _, Nat.zero_le _⟩ (fun r20 u19 H locs hP hD hS hw => ?_)
    replace hP : va_P D vwCl (WF cB cI q1 q2 q3 q4 q5 q6 q8 (fs_regs u u19)) H := hP
    replace hD : va_D A (WF cB cI q1 q2 q3 q4 q5 q6 q8 (fs_regs u u19)) := hD
    refine lv_iadd hx hb dX1_base_98 ?_
    exact rt_i (wo := (fun v => WF cB cI q1 q2 q3 q4 q5 q6 q8 v)) S hr hlk (fs_regs u u19) hP hS hw dX1_base_99
  replace hw := hw.2 c16
  by_cases c21 : (c_m (f_code u)) = (4 : Int32)
  · replace hw := hw.1 c21
    refine lv_tableIn (off := 96) (tgt := 100) hx hb dX1_base_4 (by rw [c21]; decide) (by rw [c21]; decide) (by rw [c21]; rfl) (by decide) ?_
    refine lv_aload_n hx hb dX1_base_100 rfl (lv_at hl 1 rfl) ?_
    refine lv_bipush (v := (6 : Int32)) hx hb dX1_base_101 (by decide) ?_
    refine cl_Vi (As := [.int (6 : Int32)]) (rest := []) (st := [.int (6 : Int32), .ref q4]) S hK hA hP hD hS (fr_F_R u) (kcX4_word l D cB cI q4 q5 q6 H.size (6 : Int32) (f_regs u) _ hw) (cwV 1 hts gX1_base_X4_word rfl rfl rfl (by decide +kernel) ⟨Nat.le_of_ble_eq_true rfl, Nat.le_of_ble_eq_true rfl⟩) tru_h tru_b 4 rfl rfl rfl rfl rfl hl.1 (Nat.le_of_ble_eq_true rfl) dX1_base_103 ⟨Nat.zero_le _, Nat.zero_le _⟩ (fun r23 u22 H locs hP hD hS hw => ?_)
    replace hP : va_P D vwCl (WF cB cI q1 q2 q3 q4 q5 q6 q8 (fs_regs u u22)) H := hP
    replace hD : va_D A (WF cB cI q1 q2 q3 q4 q5 q6 q8 (fs_regs u u22)) := hD
    exact rt_i (wo := (fun v => WF cB cI q1 q2 q3 q4 q5 q6 q8 v)) S hr hlk (fs_regs u u22) hP hS hw dX1_base_106
  replace hw := hw.2 c21
  by_cases c24 : (c_m (f_code u)) = (5 : Int32)
  · replace hw := hw.1 c24
    refine lv_tableIn (off := 103) (tgt := 107) hx hb dX1_base_4 (by rw [c24]; decide) (by rw [c24]; decide) (by rw [c24]; rfl) (by decide) ?_
    refine lv_aload_n hx hb dX1_base_107 rfl (lv_at hl 1 rfl) ?_
    refine lv_bipush (v := (7 : Int32)) hx hb dX1_base_108 (by decide) ?_
    refine cl_Vi (As := [.int (7 : Int32)]) (rest := []) (st := [.int (7 : Int32), .ref q4]) S hK hA hP hD hS (fr_F_R u) (kcX4_word l D cB cI q4 q5 q6 H.size (7 : Int32) (f_regs u) _ hw) (cwV 1 hts gX1_base_X4_word rfl rfl rfl (by decide +kernel) ⟨Nat.le_of_ble_eq_true rfl, Nat.le_of_ble_eq_true rfl⟩) tru_h tru_b 4 rfl rfl rfl rfl rfl hl.1 (Nat.le_of_ble_eq_true rfl) dX1_base_110 ⟨Nat.zero_le _, Nat.zero_le _⟩ (fun r26 u25 H locs hP hD hS hw => ?_)
    replace hP : va_P D vwCl (WF cB cI q1 q2 q3 q4 q5 q6 q8 (fs_regs u u25)) H := hP
    replace hD : va_D A (WF cB cI q1 q2 q3 q4 q5 q6 q8 (fs_regs u u25)) := hD
    exact rt_i (wo := (fun v => WF cB cI q1 q2 q3 q4 q5 q6 q8 v)) S hr hlk (fs_regs u u25) hP hS hw dX1_base_113
  replace hw := hw.2 c24
  by_cases c27 : (c_m (f_code u)) = (6 : Int32)
  · replace hw := hw.1 c27
    refine lv_tableIn (off := 110) (tgt := 114) hx hb dX1_base_4 (by rw [c27]; decide) (by rw [c27]; decide) (by rw [c27]; rfl) (by decide) ?_
    refine lv_aload_n hx hb dX1_base_114 rfl (lv_at hl 1 rfl) ?_
    refine lv_iconst (v := (5 : Int32)) hx hb dX1_base_115 (by decide) ?_
    refine cl_Vi (As := [.int (5 : Int32)]) (rest := []) (st := [.int (5 : Int32), .ref q4]) S hK hA hP hD hS (fr_F_R u) (kcX4_word l D cB cI q4 q5 q6 H.size (5 : Int32) (f_regs u) _ hw) (cwV 1 hts gX1_base_X4_word rfl rfl rfl (by decide +kernel) ⟨Nat.le_of_ble_eq_true rfl, Nat.le_of_ble_eq_true rfl⟩) tru_h tru_b 4 rfl rfl rfl rfl rfl hl.1 (Nat.le_of_ble_eq_true rfl) dX1_base_116 ⟨Nat.zero_le _, Nat.zero_le _⟩ (fun r29 u28 H locs hP hD hS hw => ?_)
    replace hP : va_P D vwCl (WF cB cI q1 q2 q3 q4 q5 q6 q8 (fs_regs u u28)) H := hP
    replace hD : va_D A (WF cB cI q1 q2 q3 q4 q5 q6 q8 (fs_regs u u28)) := hD
    exact rt_i (wo := (fun v => WF cB cI q1 q2 q3 q4 q5 q6 q8 v)) S hr hlk (fs_regs u u28) hP hS hw dX1_base_119
  replace hw := hw.2 c27
  refine lv_tableOut (tgt := 120) hx hb dX1_base_4 (by have e_c1 : ¬ ((c_m (f_code u)) : Int32).toInt = 0 := sw_ne c1; have e_c6 : ¬ ((c_m (f_code u)) : Int32).toInt = 1 := sw_ne c6; have e_c11 : ¬ ((c_m (f_code u)) : Int32).toInt = 2 := sw_ne c11; have e_c16 : ¬ ((c_m (f_code u)) : Int32).toInt = 3 := sw_ne c16; have e_c21 : ¬ ((c_m (f_code u)) : Int32).toInt = 4 := sw_ne c21; have e_c24 : ¬ ((c_m (f_code u)) : Int32).toInt = 5 := sw_ne c24; have e_c27 : ¬ ((c_m (f_code u)) : Int32).toInt = 6 := sw_ne c27; omega) (by decide) ?_
  refine lv_aload_n hx hb dX1_base_120 rfl (lv_at hl 1 rfl) ?_
  refine lv_iconst (v := (3 : Int32)) hx hb dX1_base_121 (by decide) ?_
  refine cl_Vi (As := [.int (3 : Int32)]) (rest := []) (st := [.int (3 : Int32), .ref q4]) S hK hA hP hD hS (fr_F_R u) (kcX4_word l D cB cI q4 q5 q6 H.size (3 : Int32) (f_regs u) _ hw) (cwV 1 hts gX1_base_X4_word rfl rfl rfl (by decide +kernel) ⟨Nat.le_of_ble_eq_true rfl, Nat.le_of_ble_eq_true rfl⟩) tru_h tru_b 4 rfl rfl rfl rfl rfl hl.1 (Nat.le_of_ble_eq_true rfl) dX1_base_122 ⟨Nat.zero_le _, Nat.zero_le _⟩ (fun r31 u30 H locs hP hD hS hw => ?_)
  replace hP : va_P D vwCl (WF cB cI q1 q2 q3 q4 q5 q6 q8 (fs_regs u u30)) H := hP
  replace hD : va_D A (WF cB cI q1 q2 q3 q4 q5 q6 q8 (fs_regs u u30)) := hD
  exact rt_i (wo := (fun v => WF cB cI q1 q2 q3 q4 q5 q6 q8 v)) S hr hlk (fs_regs u u30) hP hS hw dX1_base_125
-- X1_fetchWord
def wX1_fetchWord  (u : SF) (P : Int32 → SF → Prop) : Prop := (wX1_fetch  u (fun r2 u1 => (wX1_fetch  u1 (fun r4 u3 => (P (r2 ||| (r4 <<< ((8 : Int32) &&& 31))) u3)))))
set_option maxHeartbeats 4000000 in
set_option maxRecDepth 100000 in
theorem kcX1_fetchWord (l : Launch) (D : va_G) (cB cI : ClassId) (q1 q2 q3 q4 q5 q6 q8 : Nat) (sz : Nat)  (u : SF) (P : Int32 → SF → Prop) (hw : wX1_fetchWord  u P) : Met l yX1_fetchWord wsX1_fetchWord ({ frames := 3, cells := 0, slots := 0, locals := 69 } : Room) (va_Pc [.ref q8, .ref q1, .ref q4] (Pcw D (tyA cB cI) (WF cB cI q1 q2 q3 q4 q5 q6 q8 u) sz Tru)) (va_Qi P (fun u t => va_P D vwCl (WF cB cI q1 q2 q3 q4 q5 q6 q8 u) t.heap) (va_A (WF cB cI q1 q2 q3 q4 q5 q6 q8 u) sz)) 0 0 (va_A (WF cB cI q1 q2 q3 q4 q5 q6 q8 u) sz) := by
  refine en_ (cc := cX1_fetchWord) (maxL := 4) (ret := (some .int)) (own := RX1) (lv := [(0, .ref q8), (1, .ref q1), (2, .ref q4)]) (Qf := fun A => va_Qi P (fun u t => va_P D vwCl (WF cB cI q1 q2 q3 q4 q5 q6 q8 u) t.heap) A) (by decide) rfl rfl (Nat.le_of_ble_eq_true rfl) rfl ?_
  intro p e s m below meth c A ls S hr hlk hname hsz hP hK hD hA hSub hS hE hl
  have hx := S.1
  have hb := S.2.1
  have hown := S.2.2.2.1
  have hts := S.2.2.2.2
  unfold wX1_fetchWord at hw
  obtain ⟨H, eH⟩ : ∃ H, H = s.heap := ⟨_, rfl⟩
  obtain ⟨locs, eL⟩ : ∃ locs : List Loc, locs = [] := ⟨_, rfl⟩
  replace hP : va_P D vwCl (WF cB cI q1 q2 q3 q4 q5 q6 q8 u) H := by rw [eH]; exact hP
  replace hS : va_S A s.heap H locs := by rw [eH, eL]; exact hS
  suffices hgo : W p l e ({ frames := 3, cells := 0, slots := 0, locals := 69 } : Room) s m ([.ref q8, .ref q1, .ref q4] : List Value).toArray below meth c H locs 0 0 (MQ below (va_Qi P (fun u t => va_P D vwCl (WF cB cI q1 q2 q3 q4 q5 q6 q8 u) t.heap) A) ([.ref q8, .ref q1, .ref q4] : List Value).toArray s 0 0 A) (F0 m 0 ls []) by rw [eH, eL] at hgo; exact hgo
  clear eH eL
  refine lv_aload_n hx hb dX1_fetchWord_0 rfl (lv_at hl 0 rfl) ?_
  refine lv_aload_n hx hb dX1_fetchWord_1 rfl (lv_at hl 1 rfl) ?_
  refine lv_aload_n hx hb dX1_fetchWord_2 rfl (lv_at hl 2 rfl) ?_
  refine cl_Vi (As := [.ref q1, .ref q4]) (rest := []) (st := [.ref q4, .ref q1, .ref q8]) S hK hA hP hD hS (fr_F u) (kcX1_fetch l D cB cI q1 q2 q3 q4 q5 q6 q8 H.size  u _ hw) (cwV 2 hts gX1_fetchWord_X1_fetch rfl rfl rfl (by decide +kernel) ⟨Nat.le_of_ble_eq_true rfl, Nat.le_of_ble_eq_true rfl⟩) tru_h tru_b 0 rfl rfl rfl rfl rfl hl.1 (Nat.le_of_ble_eq_true rfl) dX1_fetchWord_3 ⟨Nat.zero_le _, Nat.zero_le _⟩ (fun r2 u1 H locs hP hD hS hw => ?_)
  replace hP : va_P D vwCl (WF cB cI q1 q2 q3 q4 q5 q6 q8 u1) H := hP
  replace hD : va_D A (WF cB cI q1 q2 q3 q4 q5 q6 q8 u1) := hD
  refine lv_istore_n (lv' := [(3, .int r2), (0, .ref q8), (1, .ref q1), (2, .ref q4)]) hx hb dX1_fetchWord_6 rfl hl (by decide) rfl (fun ls hl => ?_)
  refine lv_iload_n hx hb dX1_fetchWord_7 rfl (lv_at hl 0 rfl) ?_
  refine lv_aload_n hx hb dX1_fetchWord_8 rfl (lv_at hl 1 rfl) ?_
  refine lv_aload_n hx hb dX1_fetchWord_9 rfl (lv_at hl 2 rfl) ?_
  refine lv_aload_n hx hb dX1_fetchWord_10 rfl (lv_at hl 3 rfl) ?_
  refine cl_Vi (As := [.ref q1, .ref q4]) (rest := [.int r2]) (st := [.ref q4, .ref q1, .ref q8, .int r2]) S hK hA hP hD hS (fr_F u1) (kcX1_fetch l D cB cI q1 q2 q3 q4 q5 q6 q8 H.size  u1 _ hw) (cwV 2 hts gX1_fetchWord_X1_fetch rfl rfl rfl (by decide +kernel) ⟨Nat.le_of_ble_eq_true rfl, Nat.le_of_ble_eq_true rfl⟩) tru_h tru_b 0 rfl rfl rfl rfl rfl hl.1 (Nat.le_of_ble_eq_true rfl) dX1_fetchWord_11 ⟨Nat.zero_le _, Nat.zero_le _⟩ (fun r4 u3 H locs hP hD hS hw => ?_)
  replace hP : va_P D vwCl (WF cB cI q1 q2 q3 q4 q5 q6 q8 u3) H := hP
  replace hD : va_D A (WF cB cI q1 q2 q3 q4 q5 q6 q8 u3) := hD
  refine lv_bipush (v := (8 : Int32)) hx hb dX1_fetchWord_14 (by decide) ?_
  refine lv_ishl hx hb dX1_fetchWord_16 ?_
  refine lv_ior hx hb dX1_fetchWord_17 ?_
  exact rt_i (wo := (fun v => WF cB cI q1 q2 q3 q4 q5 q6 q8 v)) S hr hlk u3 hP hS hw dX1_fetchWord_18
-- X1_fetchM
def wX1_fetchM_b169  (P : SF → Prop) (x5 : Int32) (u : SF) : Prop := (wX1_base  u (fun r28 u27 => (P (fs_code u27 (cs_offset (f_code u27) ((r28 + x5) &&& (65535 : Int32)))))))
def wX1_fetchM_b118  (P : SF → Prop) (s3 : Int32) (u : SF) : Prop := (wX1_segmentOr s3 (f_code u) (fun r16 u15 => (wX4_segment r16 (f_regs u) (fun r18 u17 => (((c_mode u15) = (1 : Int32) → (wX1_fetch  (fs_regs (fs_code u (cs_eSegment u15 r18)) u17) (fun r24 u23 => (wX0_signed r24 (0 : Int32) () (fun r26 u25 => (wX1_fetchM_b169  P r26 u23)))))) ∧ (¬ (c_mode u15) = (1 : Int32) → (((c_mode u15) = (2 : Int32) → (wX1_fetchWord  (fs_regs (fs_code u (cs_eSegment u15 r18)) u17) (fun r22 u21 => (wX1_fetchM_b169  P r22 u21)))) ∧ (¬ (c_mode u15) = (2 : Int32) → (wX1_fetchM_b169  P (0 : Int32) (fs_regs (fs_code u (cs_eSegment u15 r18)) u17))))))))))
def wX1_fetchM_b103  (P : SF → Prop) (s0 : Int32) (u : SF) : Prop := ((s0 = (0 : Int32) → (wX1_fetchM_b118  P (3 : Int32) u)) ∧ (¬ s0 = (0 : Int32) → (wX1_fetchM_b118  P (2 : Int32) u)))
def wX1_fetchM_b98  (P : SF → Prop)  (u : SF) : Prop := (wX1_fetchM_b103  P (1 : Int32) u)
def wX1_fetchM_b73  (P : SF → Prop)  (u : SF) : Prop := (((c_m (f_code u)) = (2 : Int32) → (wX1_fetchM_b98  P u)) ∧ (¬ (c_m (f_code u)) = (2 : Int32) → (((c_m (f_code u)) = (3 : Int32) → (wX1_fetchM_b98  P u)) ∧ (¬ (c_m (f_code u)) = (3 : Int32) → (((c_m (f_code u)) = (6 : Int32) → (wX1_fetchM_b98  P u)) ∧ (¬ (c_m (f_code u)) = (6 : Int32) → (wX1_fetchM_b103  P (0 : Int32) u)))))))
def wX1_fetchM  (u : SF) (P : SF → Prop) : Prop := (wX1_fetch  u (fun r2 u1 => (((r2 >>> ((6 : Int32) &&& 31)) = (0 : Int32) → (((r2 &&& (7 : Int32)) = (6 : Int32) → (wX1_segmentOr (3 : Int32) (cs_m (cs_r (cs_mode (f_code u1) (r2 >>> ((6 : Int32) &&& 31))) ((r2 >>> ((3 : Int32) &&& 31)) &&& (7 : Int32))) (r2 &&& (7 : Int32))) (fun r6 u5 => (wX4_segment r6 (f_regs u1) (fun r8 u7 => (wX1_fetchWord  (fs_regs (fs_code u1 (cs_eSegment u5 r8)) u7) (fun r10 u9 => (P (fs_code u9 (cs_offset (f_code u9) r10)))))))))) ∧ (¬ (r2 &&& (7 : Int32)) = (6 : Int32) → (wX1_fetchM_b73  P (fs_code u1 (cs_m (cs_r (cs_mode (f_code u1) (r2 >>> ((6 : Int32) &&& 31))) ((r2 >>> ((3 : Int32) &&& 31)) &&& (7 : Int32))) (r2 &&& (7 : Int32)))))))) ∧ (¬ (r2 >>> ((6 : Int32) &&& 31)) = (0 : Int32) → (wX1_fetchM_b73  P (fs_code u1 (cs_m (cs_r (cs_mode (f_code u1) (r2 >>> ((6 : Int32) &&& 31))) ((r2 >>> ((3 : Int32) &&& 31)) &&& (7 : Int32))) (r2 &&& (7 : Int32)))))))))
set_option maxHeartbeats 4000000 in
set_option maxRecDepth 100000 in
theorem kcX1_fetchM (l : Launch) (D : va_G) (cB cI : ClassId) (q1 q2 q3 q4 q5 q6 q8 : Nat) (sz : Nat)  (u : SF) (P : SF → Prop) (hw : wX1_fetchM  u P) : Met l yX1_fetchM wsX1_fetchM ({ frames := 4, cells := 0, slots := 0, locals := 92 } : Room) (va_Pc [.ref q8, .ref q1, .ref q4] (Pcw D (tyA cB cI) (WF cB cI q1 q2 q3 q4 q5 q6 q8 u) sz Tru)) (va_Qv P (fun u t => va_P D vwCl (WF cB cI q1 q2 q3 q4 q5 q6 q8 u) t.heap) (va_A (WF cB cI q1 q2 q3 q4 q5 q6 q8 u) sz)) 0 0 (va_A (WF cB cI q1 q2 q3 q4 q5 q6 q8 u) sz) := by
  refine en_ (cc := cX1_fetchM) (maxL := 6) (ret := none) (own := RX1) (lv := [(0, .ref q8), (1, .ref q1), (2, .ref q4)]) (Qf := fun A => va_Qv P (fun u t => va_P D vwCl (WF cB cI q1 q2 q3 q4 q5 q6 q8 u) t.heap) A) (by decide) rfl rfl (Nat.le_of_ble_eq_true rfl) rfl ?_
  intro p e s m below meth c A ls S hr hlk hname hsz hP hK hD hA hSub hS hE hl
  have hx := S.1
  have hb := S.2.1
  have hown := S.2.2.2.1
  have hts := S.2.2.2.2
  have i_X1 : ∀ w ∈ u_ws RX1 TX1 12, w ∈ wsX1_fetchM := by decide +kernel
  have f_15 := hts (.fieldLink RX1 15 "MachineCore$Code" "mode" "I") (by decide +kernel)
  have f_81 := hts (.fieldLink RX1 81 "MachineCore$Code" "r" "I") (by decide +kernel)
  have f_93 := hts (.fieldLink RX1 93 "MachineCore$Code" "m" "I") (by decide +kernel)
  have f_99 := hts (.fieldLink RX1 99 "MachineCore$Code" "eSegment" "I") (by decide +kernel)
  have f_102 := hts (.fieldLink RX1 102 "MachineCore$Code" "offset" "I") (by decide +kernel)
  have k_115 := hts (.constant RX1 115 (65535)) (by decide +kernel)
  have b169 : ∀ (x5 : Int32) (u : SF) (H : Heap) (locs : List Loc) (ls : Array Slot), va_P D vwCl (WF cB cI q1 q2 q3 q4 q5 q6 q8 u) H → va_D A (WF cB cI q1 q2 q3 q4 q5 q6 q8 u) → va_S A s.heap H locs → lv_has ls 6 [(0, .ref q8), (2, .ref q4), (5, .int x5)] → wX1_fetchM_b169  P x5 u → W p l e ({ frames := 4, cells := 0, slots := 0, locals := 92 } : Room) s m ([.ref q8, .ref q1, .ref q4] : List Value).toArray below meth c H locs 0 0 (MQ below (va_Qv P (fun u t => va_P D vwCl (WF cB cI q1 q2 q3 q4 q5 q6 q8 u) t.heap) A) ([.ref q8, .ref q1, .ref q4] : List Value).toArray s 0 0 A) (F0 m 169 ls []) := by
    intro x5 u H locs ls hP hD hS hl hw
    unfold wX1_fetchM_b169 at hw
    refine lv_aload_n hx hb dX1_fetchM_169 rfl (lv_at hl 0 rfl) ?_
    refine lv_aload_n hx hb dX1_fetchM_170 rfl (lv_at hl 0 rfl) ?_
    refine lv_aload_n hx hb dX1_fetchM_171 rfl (lv_at hl 1 rfl) ?_
    refine cl_Vi (As := [.ref q4]) (rest := [.ref q8]) (st := [.ref q4, .ref q8, .ref q8]) S hK hA hP hD hS (fr_F u) (kcX1_base l D cB cI q1 q2 q3 q4 q5 q6 q8 H.size  u _ hw) (cwV 1 hts gX1_fetchM_X1_base rfl rfl rfl (by decide +kernel) ⟨Nat.le_of_ble_eq_true rfl, Nat.le_of_ble_eq_true rfl⟩) tru_h tru_b 0 rfl rfl rfl rfl rfl hl.1 (Nat.le_of_ble_eq_true rfl) dX1_fetchM_172 ⟨Nat.zero_le _, Nat.zero_le _⟩ (fun r28 u27 H locs hP hD hS hw => ?_)
    replace hP : va_P D vwCl (WF cB cI q1 q2 q3 q4 q5 q6 q8 u27) H := hP
    replace hD : va_D A (WF cB cI q1 q2 q3 q4 q5 q6 q8 u27) := hD
    refine lv_iload hx hb dX1_fetchM_175 (lv_at hl 2 rfl) ?_
    refine lv_iadd hx hb dX1_fetchM_177 ?_
    refine lv_ldc (v := (65535 : Int32)) hx hb hown k_115 dX1_fetchM_178 ?_
    refine lv_iand hx hb dX1_fetchM_180 ?_
    refine va_put (D := D) (ci := 1) (v := .int ((r28 + x5) &&& (65535 : Int32))) (ty := .int) (C := RX1) (T := TX1) (N := 12) hx hb hts i_X1 tyX1 tyX1_ok nmX1 hown hK hP hD hS 0 rfl rfl 8 (by decide) f_102 (fun _ h9 => h9) rfl (by decide +kernel) rfl rfl (Nat.le_of_ble_eq_true rfl) dX1_fetchM_181 (fun H locs hP hD hS => ?_)
    replace hP : va_P D vwCl (WF cB cI q1 q2 q3 q4 q5 q6 q8 (fs_code u27 (cs_offset (f_code u27) ((r28 + x5) &&& (65535 : Int32))))) H := hP
    replace hD : va_D A (WF cB cI q1 q2 q3 q4 q5 q6 q8 (fs_code u27 (cs_offset (f_code u27) ((r28 + x5) &&& (65535 : Int32))))) := hD
    exact rt_v (wo := (fun v => WF cB cI q1 q2 q3 q4 q5 q6 q8 v)) S hr hlk (fs_code u27 (cs_offset (f_code u27) ((r28 + x5) &&& (65535 : Int32)))) hP hS hw dX1_fetchM_184
  have b118 : ∀ (s3 : Int32) (u : SF) (H : Heap) (locs : List Loc) (ls : Array Slot), va_P D vwCl (WF cB cI q1 q2 q3 q4 q5 q6 q8 u) H → va_D A (WF cB cI q1 q2 q3 q4 q5 q6 q8 u) → va_S A s.heap H locs → lv_has ls 6 [(0, .ref q8), (1, .ref q1), (2, .ref q4)] → wX1_fetchM_b118  P s3 u → W p l e ({ frames := 4, cells := 0, slots := 0, locals := 92 } : Room) s m ([.ref q8, .ref q1, .ref q4] : List Value).toArray below meth c H locs 0 0 (MQ below (va_Qv P (fun u t => va_P D vwCl (WF cB cI q1 q2 q3 q4 q5 q6 q8 u) t.heap) A) ([.ref q8, .ref q1, .ref q4] : List Value).toArray s 0 0 A) (F0 m 118 ls [.int s3, .ref q8, .ref q4, .ref q8]) := by
    intro s3 u H locs ls hP hD hS hl hw
    unfold wX1_fetchM_b118 at hw
    refine cl_Vi (As := [.int s3]) (rest := [.ref q4, .ref q8]) (st := [.int s3, .ref q8, .ref q4, .ref q8]) S hK hA hP hD hS (fr_F_C u) (kcX1_segmentOr l D cB cI q8 H.size s3 (f_code u) _ hw) (cwV 1 hts gX1_fetchM_X1_segmentOr rfl rfl rfl (by decide +kernel) ⟨Nat.le_of_ble_eq_true rfl, Nat.le_of_ble_eq_true rfl⟩) tru_h tru_b 0 rfl rfl rfl rfl rfl hl.1 (Nat.le_of_ble_eq_true rfl) dX1_fetchM_118 ⟨Nat.zero_le _, Nat.zero_le _⟩ (fun r16 u15 H locs hP hD hS hw => ?_)
    replace hP : va_P D vwCl (WF cB cI q1 q2 q3 q4 q5 q6 q8 (fs_code u u15)) H := hP
    replace hD : va_D A (WF cB cI q1 q2 q3 q4 q5 q6 q8 (fs_code u u15)) := hD
    refine cl_Vi (As := [.int r16]) (rest := [.ref q8]) (st := [.int r16, .ref q4, .ref q8]) S hK hA hP hD hS (fr_F_R (fs_code u u15)) (kcX4_segment l D cB cI q4 q5 q6 H.size r16 (f_regs u) _ hw) (cwV 1 hts gX1_fetchM_X4_segment rfl rfl rfl (by decide +kernel) ⟨Nat.le_of_ble_eq_true rfl, Nat.le_of_ble_eq_true rfl⟩) tru_h tru_b 4 rfl rfl rfl rfl rfl hl.1 (Nat.le_of_ble_eq_true rfl) dX1_fetchM_121 ⟨Nat.zero_le _, Nat.zero_le _⟩ (fun r18 u17 H locs hP hD hS hw => ?_)
    replace hP : va_P D vwCl (WF cB cI q1 q2 q3 q4 q5 q6 q8 (fs_regs (fs_code u u15) u17)) H := hP
    replace hD : va_D A (WF cB cI q1 q2 q3 q4 q5 q6 q8 (fs_regs (fs_code u u15) u17)) := hD
    refine va_put (D := D) (ci := 1) (v := .int r18) (ty := .int) (C := RX1) (T := TX1) (N := 12) hx hb hts i_X1 tyX1 tyX1_ok nmX1 hown hK hP hD hS 0 rfl rfl 7 (by decide) f_99 (fun _ h9 => h9) rfl (by decide +kernel) rfl rfl (Nat.le_of_ble_eq_true rfl) dX1_fetchM_124 (fun H locs hP hD hS => ?_)
    replace hP : va_P D vwCl (WF cB cI q1 q2 q3 q4 q5 q6 q8 (fs_regs (fs_code u (cs_eSegment u15 r18)) u17)) H := hP
    replace hD : va_D A (WF cB cI q1 q2 q3 q4 q5 q6 q8 (fs_regs (fs_code u (cs_eSegment u15 r18)) u17)) := hD
    refine lv_iconst (v := (0 : Int32)) hx hb dX1_fetchM_127 (by decide) ?_
    refine lv_istore (lv' := [(5, .int (0 : Int32)), (0, .ref q8), (1, .ref q1), (2, .ref q4)]) hx hb dX1_fetchM_128 hl (by decide) rfl (fun ls hl => ?_)
    refine lv_aload_n hx hb dX1_fetchM_130 rfl (lv_at hl 1 rfl) ?_
    refine va_get (D := D) (ci := 1) (v := .int (c_mode u15)) (C := RX1) (T := TX1) (N := 12) hx hb hts i_X1 hown hK hP 0 rfl rfl 4 (by decide) f_15 (fun _ h9 => h9) rfl dX1_fetchM_131 ?_
    refine lv_iconst (v := (1 : Int32)) hx hb dX1_fetchM_134 (by decide) ?_
    refine lv_icmp_ne (tgt := 153) hx hb dX1_fetchM_135 (by decide) (fun c19 => ?_) (fun c19 => ?_)
    · replace hw := hw.2 c19
      refine lv_aload_n hx hb dX1_fetchM_153 rfl (lv_at hl 1 rfl) ?_
      refine va_get (D := D) (ci := 1) (v := .int (c_mode u15)) (C := RX1) (T := TX1) (N := 12) hx hb hts i_X1 hown hK hP 0 rfl rfl 4 (by decide) f_15 (fun _ h9 => h9) rfl dX1_fetchM_154 ?_
      refine lv_iconst (v := (2 : Int32)) hx hb dX1_fetchM_157 (by decide) ?_
      refine lv_icmp_ne (tgt := 169) hx hb dX1_fetchM_158 (by decide) (fun c20 => ?_) (fun c20 => ?_)
      · replace hw := hw.2 c20
        exact b169 (0 : Int32) (fs_regs (fs_code u (cs_eSegment u15 r18)) u17) H locs ls hP hD hS (lv_sub hl [1, 3, 0] rfl) hw
      · replace hw := hw.1 c20
        refine lv_aload_n hx hb dX1_fetchM_161 rfl (lv_at hl 1 rfl) ?_
        refine lv_aload_n hx hb dX1_fetchM_162 rfl (lv_at hl 2 rfl) ?_
        refine lv_aload_n hx hb dX1_fetchM_163 rfl (lv_at hl 3 rfl) ?_
        refine cl_Vi (As := [.ref q1, .ref q4]) (rest := []) (st := [.ref q4, .ref q1, .ref q8]) S hK hA hP hD hS (fr_F (fs_regs (fs_code u (cs_eSegment u15 r18)) u17)) (kcX1_fetchWord l D cB cI q1 q2 q3 q4 q5 q6 q8 H.size  (fs_regs (fs_code u (cs_eSegment u15 r18)) u17) _ hw) (cwV 2 hts gX1_fetchM_X1_fetchWord rfl rfl rfl (by decide +kernel) ⟨Nat.le_of_ble_eq_true rfl, Nat.le_of_ble_eq_true rfl⟩) tru_h tru_b 0 rfl rfl rfl rfl rfl hl.1 (Nat.le_of_ble_eq_true rfl) dX1_fetchM_164 ⟨Nat.zero_le _, Nat.zero_le _⟩ (fun r22 u21 H locs hP hD hS hw => ?_)
        replace hP : va_P D vwCl (WF cB cI q1 q2 q3 q4 q5 q6 q8 u21) H := hP
        replace hD : va_D A (WF cB cI q1 q2 q3 q4 q5 q6 q8 u21) := hD
        refine lv_istore (lv' := [(5, .int r22), (0, .ref q8), (1, .ref q1), (2, .ref q4)]) hx hb dX1_fetchM_167 hl (by decide) rfl (fun ls hl => ?_)
        exact b169 r22 u21 H locs ls hP hD hS (lv_sub hl [1, 3, 0] rfl) hw
    · replace hw := hw.1 c19
      refine lv_aload_n hx hb dX1_fetchM_138 rfl (lv_at hl 1 rfl) ?_
      refine lv_aload_n hx hb dX1_fetchM_139 rfl (lv_at hl 2 rfl) ?_
      refine lv_aload_n hx hb dX1_fetchM_140 rfl (lv_at hl 3 rfl) ?_
      refine cl_Vi (As := [.ref q1, .ref q4]) (rest := []) (st := [.ref q4, .ref q1, .ref q8]) S hK hA hP hD hS (fr_F (fs_regs (fs_code u (cs_eSegment u15 r18)) u17)) (kcX1_fetch l D cB cI q1 q2 q3 q4 q5 q6 q8 H.size  (fs_regs (fs_code u (cs_eSegment u15 r18)) u17) _ hw) (cwV 2 hts gX1_fetchM_X1_fetch rfl rfl rfl (by decide +kernel) ⟨Nat.le_of_ble_eq_true rfl, Nat.le_of_ble_eq_true rfl⟩) tru_h tru_b 0 rfl rfl rfl rfl rfl hl.1 (Nat.le_of_ble_eq_true rfl) dX1_fetchM_141 ⟨Nat.zero_le _, Nat.zero_le _⟩ (fun r24 u23 H locs hP hD hS hw => ?_)
      replace hP : va_P D vwCl (WF cB cI q1 q2 q3 q4 q5 q6 q8 u23) H := hP
      replace hD : va_D A (WF cB cI q1 q2 q3 q4 q5 q6 q8 u23) := hD
      refine lv_iconst (v := (0 : Int32)) hx hb dX1_fetchM_144 (by decide) ?_
      refine cl_Si (As := [.int r24, .int (0 : Int32)]) (rest := []) (st := [.int (0 : Int32), .int r24]) S hK hA hP hD hS Fr_nil (kcX0_signed l D cB cI  H.size r24 (0 : Int32) () _ hw) (va_cwS 2 hts gX1_fetchM_X0_signed rfl rfl rfl (by decide +kernel) ⟨Nat.le_of_ble_eq_true rfl, Nat.le_of_ble_eq_true rfl⟩) tru_h tru_b rfl rfl hl.1 (Nat.le_of_ble_eq_true rfl) dX1_fetchM_145 ⟨Nat.zero_le _, Nat.zero_le _⟩ (fun r26 u25 H locs hP hD hS hw => ?_)
      replace hP : va_P D vwCl (WF cB cI q1 q2 q3 q4 q5 q6 q8 u23) H := hP
      replace hD : va_D A (WF cB cI q1 q2 q3 q4 q5 q6 q8 u23) := hD
      refine lv_istore (lv' := [(5, .int r26), (0, .ref q8), (1, .ref q1), (2, .ref q4)]) hx hb dX1_fetchM_148 hl (by decide) rfl (fun ls hl => ?_)
      refine lv_goto (tgt := 169) hx hb dX1_fetchM_150 (by decide) ?_
      exact b169 r26 u23 H locs ls hP hD hS (lv_sub hl [1, 3, 0] rfl) hw
  have b103 : ∀ (s0 : Int32) (u : SF) (H : Heap) (locs : List Loc) (ls : Array Slot), va_P D vwCl (WF cB cI q1 q2 q3 q4 q5 q6 q8 u) H → va_D A (WF cB cI q1 q2 q3 q4 q5 q6 q8 u) → va_S A s.heap H locs → lv_has ls 6 [(0, .ref q8), (1, .ref q1), (2, .ref q4)] → wX1_fetchM_b103  P s0 u → W p l e ({ frames := 4, cells := 0, slots := 0, locals := 92 } : Room) s m ([.ref q8, .ref q1, .ref q4] : List Value).toArray below meth c H locs 0 0 (MQ below (va_Qv P (fun u t => va_P D vwCl (WF cB cI q1 q2 q3 q4 q5 q6 q8 u) t.heap) A) ([.ref q8, .ref q1, .ref q4] : List Value).toArray s 0 0 A) (F0 m 103 ls [.int s0]) := by
    intro s0 u H locs ls hP hD hS hl hw
    unfold wX1_fetchM_b103 at hw
    refine lv_istore (lv' := [(4, .int s0), (0, .ref q8), (1, .ref q1), (2, .ref q4)]) hx hb dX1_fetchM_103 hl (by decide) rfl (fun ls hl => ?_)
    refine lv_aload_n hx hb dX1_fetchM_105 rfl (lv_at hl 1 rfl) ?_
    refine lv_aload_n hx hb dX1_fetchM_106 rfl (lv_at hl 3 rfl) ?_
    refine lv_aload_n hx hb dX1_fetchM_107 rfl (lv_at hl 1 rfl) ?_
    refine lv_iload hx hb dX1_fetchM_108 (lv_at hl 0 rfl) ?_
    refine lv_if_eq (tgt := 117) hx hb dX1_fetchM_110 (by decide) (fun c14 => ?_) (fun c14 => ?_)
    · replace hw := hw.1 c14
      refine lv_iconst (v := (3 : Int32)) hx hb dX1_fetchM_117 (by decide) ?_
      exact b118 (3 : Int32) u H locs ls hP hD hS (lv_sub hl [1, 2, 3] rfl) hw
    · replace hw := hw.2 c14
      refine lv_iconst (v := (2 : Int32)) hx hb dX1_fetchM_113 (by decide) ?_
      refine lv_goto (tgt := 118) hx hb dX1_fetchM_114 (by decide) ?_
      exact b118 (2 : Int32) u H locs ls hP hD hS (lv_sub hl [1, 2, 3] rfl) hw
  have b98 : ∀  (u : SF) (H : Heap) (locs : List Loc) (ls : Array Slot), va_P D vwCl (WF cB cI q1 q2 q3 q4 q5 q6 q8 u) H → va_D A (WF cB cI q1 q2 q3 q4 q5 q6 q8 u) → va_S A s.heap H locs → lv_has ls 6 [(0, .ref q8), (1, .ref q1), (2, .ref q4)] → wX1_fetchM_b98  P u → W p l e ({ frames := 4, cells := 0, slots := 0, locals := 92 } : Room) s m ([.ref q8, .ref q1, .ref q4] : List Value).toArray below meth c H locs 0 0 (MQ below (va_Qv P (fun u t => va_P D vwCl (WF cB cI q1 q2 q3 q4 q5 q6 q8 u) t.heap) A) ([.ref q8, .ref q1, .ref q4] : List Value).toArray s 0 0 A) (F0 m 98 ls []) := by
    intro u H locs ls hP hD hS hl hw
    unfold wX1_fetchM_b98 at hw
    refine lv_iconst (v := (1 : Int32)) hx hb dX1_fetchM_98 (by decide) ?_
    refine lv_goto (tgt := 103) hx hb dX1_fetchM_99 (by decide) ?_
    exact b103 (1 : Int32) u H locs ls hP hD hS (lv_sub hl [0, 1, 2] rfl) hw
  have b73 : ∀  (u : SF) (H : Heap) (locs : List Loc) (ls : Array Slot), va_P D vwCl (WF cB cI q1 q2 q3 q4 q5 q6 q8 u) H → va_D A (WF cB cI q1 q2 q3 q4 q5 q6 q8 u) → va_S A s.heap H locs → lv_has ls 6 [(0, .ref q8), (1, .ref q1), (2, .ref q4)] → wX1_fetchM_b73  P u → W p l e ({ frames := 4, cells := 0, slots := 0, locals := 92 } : Room) s m ([.ref q8, .ref q1, .ref q4] : List Value).toArray below meth c H locs 0 0 (MQ below (va_Qv P (fun u t => va_P D vwCl (WF cB cI q1 q2 q3 q4 q5 q6 q8 u) t.heap) A) ([.ref q8, .ref q1, .ref q4] : List Value).toArray s 0 0 A) (F0 m 73 ls []) := by
    intro u H locs ls hP hD hS hl hw
    unfold wX1_fetchM_b73 at hw
    refine lv_aload_n hx hb dX1_fetchM_73 rfl (lv_at hl 0 rfl) ?_
    refine va_get (D := D) (ci := 1) (v := .int (c_m (f_code u))) (C := RX1) (T := TX1) (N := 12) hx hb hts i_X1 hown hK hP 0 rfl rfl 6 (by decide) f_93 (fun _ h9 => h9) rfl dX1_fetchM_74 ?_
    refine lv_iconst (v := (2 : Int32)) hx hb dX1_fetchM_77 (by decide) ?_
    refine lv_icmp_eq (tgt := 98) hx hb dX1_fetchM_78 (by decide) (fun c11 => ?_) (fun c11 => ?_)
    · replace hw := hw.1 c11
      exact b98 u H locs ls hP hD hS (lv_sub hl [0, 1, 2] rfl) hw
    · replace hw := hw.2 c11
      refine lv_aload_n hx hb dX1_fetchM_81 rfl (lv_at hl 0 rfl) ?_
      refine va_get (D := D) (ci := 1) (v := .int (c_m (f_code u))) (C := RX1) (T := TX1) (N := 12) hx hb hts i_X1 hown hK hP 0 rfl rfl 6 (by decide) f_93 (fun _ h9 => h9) rfl dX1_fetchM_82 ?_
      refine lv_iconst (v := (3 : Int32)) hx hb dX1_fetchM_85 (by decide) ?_
      refine lv_icmp_eq (tgt := 98) hx hb dX1_fetchM_86 (by decide) (fun c12 => ?_) (fun c12 => ?_)
      · replace hw := hw.1 c12
        exact b98 u H locs ls hP hD hS (lv_sub hl [0, 1, 2] rfl) hw
      · replace hw := hw.2 c12
        refine lv_aload_n hx hb dX1_fetchM_89 rfl (lv_at hl 0 rfl) ?_
        refine va_get (D := D) (ci := 1) (v := .int (c_m (f_code u))) (C := RX1) (T := TX1) (N := 12) hx hb hts i_X1 hown hK hP 0 rfl rfl 6 (by decide) f_93 (fun _ h9 => h9) rfl dX1_fetchM_90 ?_
        refine lv_bipush (v := (6 : Int32)) hx hb dX1_fetchM_93 (by decide) ?_
        refine lv_icmp_ne (tgt := 102) hx hb dX1_fetchM_95 (by decide) (fun c13 => ?_) (fun c13 => ?_)
        · replace hw := hw.2 c13
          refine lv_iconst (v := (0 : Int32)) hx hb dX1_fetchM_102 (by decide) ?_
          exact b103 (0 : Int32) u H locs ls hP hD hS (lv_sub hl [0, 1, 2] rfl) hw
        · replace hw := hw.1 c13
          exact b98 u H locs ls hP hD hS (lv_sub hl [0, 1, 2] rfl) hw
  unfold wX1_fetchM at hw
  obtain ⟨H, eH⟩ : ∃ H, H = s.heap := ⟨_, rfl⟩
  obtain ⟨locs, eL⟩ : ∃ locs : List Loc, locs = [] := ⟨_, rfl⟩
  replace hP : va_P D vwCl (WF cB cI q1 q2 q3 q4 q5 q6 q8 u) H := by rw [eH]; exact hP
  replace hS : va_S A s.heap H locs := by rw [eH, eL]; exact hS
  suffices hgo : W p l e ({ frames := 4, cells := 0, slots := 0, locals := 92 } : Room) s m ([.ref q8, .ref q1, .ref q4] : List Value).toArray below meth c H locs 0 0 (MQ below (va_Qv P (fun u t => va_P D vwCl (WF cB cI q1 q2 q3 q4 q5 q6 q8 u) t.heap) A) ([.ref q8, .ref q1, .ref q4] : List Value).toArray s 0 0 A) (F0 m 0 ls []) by rw [eH, eL] at hgo; exact hgo
  clear eH eL
  refine lv_aload_n hx hb dX1_fetchM_0 rfl (lv_at hl 0 rfl) ?_
  refine lv_aload_n hx hb dX1_fetchM_1 rfl (lv_at hl 1 rfl) ?_
  refine lv_aload_n hx hb dX1_fetchM_2 rfl (lv_at hl 2 rfl) ?_
  refine cl_Vi (As := [.ref q1, .ref q4]) (rest := []) (st := [.ref q4, .ref q1, .ref q8]) S hK hA hP hD hS (fr_F u) (kcX1_fetch l D cB cI q1 q2 q3 q4 q5 q6 q8 H.size  u _ hw) (cwV 2 hts gX1_fetchM_X1_fetch rfl rfl rfl (by decide +kernel) ⟨Nat.le_of_ble_eq_true rfl, Nat.le_of_ble_eq_true rfl⟩) tru_h tru_b 0 rfl rfl rfl rfl rfl hl.1 (Nat.le_of_ble_eq_true rfl) dX1_fetchM_3 ⟨Nat.zero_le _, Nat.zero_le _⟩ (fun r2 u1 H locs hP hD hS hw => ?_)
  replace hP : va_P D vwCl (WF cB cI q1 q2 q3 q4 q5 q6 q8 u1) H := hP
  replace hD : va_D A (WF cB cI q1 q2 q3 q4 q5 q6 q8 u1) := hD
  refine lv_istore_n (lv' := [(3, .int r2), (0, .ref q8), (1, .ref q1), (2, .ref q4)]) hx hb dX1_fetchM_6 rfl hl (by decide) rfl (fun ls hl => ?_)
  refine lv_aload_n hx hb dX1_fetchM_7 rfl (lv_at hl 1 rfl) ?_
  refine lv_iload_n hx hb dX1_fetchM_8 rfl (lv_at hl 0 rfl) ?_
  refine lv_bipush (v := (6 : Int32)) hx hb dX1_fetchM_9 (by decide) ?_
  refine lv_ishr hx hb dX1_fetchM_11 ?_
  refine va_put (D := D) (ci := 1) (v := .int (r2 >>> ((6 : Int32) &&& 31))) (ty := .int) (C := RX1) (T := TX1) (N := 12) hx hb hts i_X1 tyX1 tyX1_ok nmX1 hown hK hP hD hS 0 rfl rfl 4 (by decide) f_15 (fun _ h9 => h9) rfl (by decide +kernel) rfl rfl (Nat.le_of_ble_eq_true rfl) dX1_fetchM_12 (fun H locs hP hD hS => ?_)
  replace hP : va_P D vwCl (WF cB cI q1 q2 q3 q4 q5 q6 q8 (fs_code u1 (cs_mode (f_code u1) (r2 >>> ((6 : Int32) &&& 31))))) H := hP
  replace hD : va_D A (WF cB cI q1 q2 q3 q4 q5 q6 q8 (fs_code u1 (cs_mode (f_code u1) (r2 >>> ((6 : Int32) &&& 31))))) := hD
  refine lv_aload_n hx hb dX1_fetchM_15 rfl (lv_at hl 1 rfl) ?_
  refine lv_iload_n hx hb dX1_fetchM_16 rfl (lv_at hl 0 rfl) ?_
  refine lv_iconst (v := (3 : Int32)) hx hb dX1_fetchM_17 (by decide) ?_
  refine lv_ishr hx hb dX1_fetchM_18 ?_
  refine lv_bipush (v := (7 : Int32)) hx hb dX1_fetchM_19 (by decide) ?_
  refine lv_iand hx hb dX1_fetchM_21 ?_
  refine va_put (D := D) (ci := 1) (v := .int ((r2 >>> ((3 : Int32) &&& 31)) &&& (7 : Int32))) (ty := .int) (C := RX1) (T := TX1) (N := 12) hx hb hts i_X1 tyX1 tyX1_ok nmX1 hown hK hP hD hS 0 rfl rfl 5 (by decide) f_81 (fun _ h9 => h9) rfl (by decide +kernel) rfl rfl (Nat.le_of_ble_eq_true rfl) dX1_fetchM_22 (fun H locs hP hD hS => ?_)
  replace hP : va_P D vwCl (WF cB cI q1 q2 q3 q4 q5 q6 q8 (fs_code u1 (cs_r (cs_mode (f_code u1) (r2 >>> ((6 : Int32) &&& 31))) ((r2 >>> ((3 : Int32) &&& 31)) &&& (7 : Int32))))) H := hP
  replace hD : va_D A (WF cB cI q1 q2 q3 q4 q5 q6 q8 (fs_code u1 (cs_r (cs_mode (f_code u1) (r2 >>> ((6 : Int32) &&& 31))) ((r2 >>> ((3 : Int32) &&& 31)) &&& (7 : Int32))))) := hD
  refine lv_aload_n hx hb dX1_fetchM_25 rfl (lv_at hl 1 rfl) ?_
  refine lv_iload_n hx hb dX1_fetchM_26 rfl (lv_at hl 0 rfl) ?_
  refine lv_bipush (v := (7 : Int32)) hx hb dX1_fetchM_27 (by decide) ?_
  refine lv_iand hx hb dX1_fetchM_29 ?_
  refine va_put (D := D) (ci := 1) (v := .int (r2 &&& (7 : Int32))) (ty := .int) (C := RX1) (T := TX1) (N := 12) hx hb hts i_X1 tyX1 tyX1_ok nmX1 hown hK hP hD hS 0 rfl rfl 6 (by decide) f_93 (fun _ h9 => h9) rfl (by decide +kernel) rfl rfl (Nat.le_of_ble_eq_true rfl) dX1_fetchM_30 (fun H locs hP hD hS => ?_)
  replace hP : va_P D vwCl (WF cB cI q1 q2 q3 q4 q5 q6 q8 (fs_code u1 (cs_m (cs_r (cs_mode (f_code u1) (r2 >>> ((6 : Int32) &&& 31))) ((r2 >>> ((3 : Int32) &&& 31)) &&& (7 : Int32))) (r2 &&& (7 : Int32))))) H := hP
  replace hD : va_D A (WF cB cI q1 q2 q3 q4 q5 q6 q8 (fs_code u1 (cs_m (cs_r (cs_mode (f_code u1) (r2 >>> ((6 : Int32) &&& 31))) ((r2 >>> ((3 : Int32) &&& 31)) &&& (7 : Int32))) (r2 &&& (7 : Int32))))) := hD
  refine lv_aload_n hx hb dX1_fetchM_33 rfl (lv_at hl 1 rfl) ?_
  refine va_get (D := D) (ci := 1) (v := .int (r2 >>> ((6 : Int32) &&& 31))) (C := RX1) (T := TX1) (N := 12) hx hb hts i_X1 hown hK hP 0 rfl rfl 4 (by decide) f_15 (fun _ h9 => h9) rfl dX1_fetchM_34 ?_
  refine lv_if_ne (tgt := 73) hx hb dX1_fetchM_37 (by decide) (fun c3 => ?_) (fun c3 => ?_)
  · replace hw := hw.2 c3
    exact b73 (fs_code u1 (cs_m (cs_r (cs_mode (f_code u1) (r2 >>> ((6 : Int32) &&& 31))) ((r2 >>> ((3 : Int32) &&& 31)) &&& (7 : Int32))) (r2 &&& (7 : Int32)))) H locs ls hP hD hS (lv_sub hl [1, 2, 3] rfl) hw
  · replace hw := hw.1 c3
    refine lv_aload_n hx hb dX1_fetchM_40 rfl (lv_at hl 1 rfl) ?_
    refine va_get (D := D) (ci := 1) (v := .int (r2 &&& (7 : Int32))) (C := RX1) (T := TX1) (N := 12) hx hb hts i_X1 hown hK hP 0 rfl rfl 6 (by decide) f_93 (fun _ h9 => h9) rfl dX1_fetchM_41 ?_
    refine lv_bipush (v := (6 : Int32)) hx hb dX1_fetchM_44 (by decide) ?_
    refine lv_icmp_ne (tgt := 73) hx hb dX1_fetchM_46 (by decide) (fun c4 => ?_) (fun c4 => ?_)
    · replace hw := hw.2 c4
      exact b73 (fs_code u1 (cs_m (cs_r (cs_mode (f_code u1) (r2 >>> ((6 : Int32) &&& 31))) ((r2 >>> ((3 : Int32) &&& 31)) &&& (7 : Int32))) (r2 &&& (7 : Int32)))) H locs ls hP hD hS (lv_sub hl [1, 2, 3] rfl) hw
    · replace hw := hw.1 c4
      refine lv_aload_n hx hb dX1_fetchM_49 rfl (lv_at hl 1 rfl) ?_
      refine lv_aload_n hx hb dX1_fetchM_50 rfl (lv_at hl 3 rfl) ?_
      refine lv_aload_n hx hb dX1_fetchM_51 rfl (lv_at hl 1 rfl) ?_
      refine lv_iconst (v := (3 : Int32)) hx hb dX1_fetchM_52 (by decide) ?_
      refine cl_Vi (As := [.int (3 : Int32)]) (rest := [.ref q4, .ref q8]) (st := [.int (3 : Int32), .ref q8, .ref q4, .ref q8]) S hK hA hP hD hS (fr_F_C (fs_code u1 (cs_m (cs_r (cs_mode (f_code u1) (r2 >>> ((6 : Int32) &&& 31))) ((r2 >>> ((3 : Int32) &&& 31)) &&& (7 : Int32))) (r2 &&& (7 : Int32))))) (kcX1_segmentOr l D cB cI q8 H.size (3 : Int32) (cs_m (cs_r (cs_mode (f_code u1) (r2 >>> ((6 : Int32) &&& 31))) ((r2 >>> ((3 : Int32) &&& 31)) &&& (7 : Int32))) (r2 &&& (7 : Int32))) _ hw) (cwV 1 hts gX1_fetchM_X1_segmentOr rfl rfl rfl (by decide +kernel) ⟨Nat.le_of_ble_eq_true rfl, Nat.le_of_ble_eq_true rfl⟩) tru_h tru_b 0 rfl rfl rfl rfl rfl hl.1 (Nat.le_of_ble_eq_true rfl) dX1_fetchM_53 ⟨Nat.zero_le _, Nat.zero_le _⟩ (fun r6 u5 H locs hP hD hS hw => ?_)
      replace hP : va_P D vwCl (WF cB cI q1 q2 q3 q4 q5 q6 q8 (fs_code u1 u5)) H := hP
      replace hD : va_D A (WF cB cI q1 q2 q3 q4 q5 q6 q8 (fs_code u1 u5)) := hD
      refine cl_Vi (As := [.int r6]) (rest := [.ref q8]) (st := [.int r6, .ref q4, .ref q8]) S hK hA hP hD hS (fr_F_R (fs_code u1 u5)) (kcX4_segment l D cB cI q4 q5 q6 H.size r6 (f_regs u1) _ hw) (cwV 1 hts gX1_fetchM_X4_segment rfl rfl rfl (by decide +kernel) ⟨Nat.le_of_ble_eq_true rfl, Nat.le_of_ble_eq_true rfl⟩) tru_h tru_b 4 rfl rfl rfl rfl rfl hl.1 (Nat.le_of_ble_eq_true rfl) dX1_fetchM_56 ⟨Nat.zero_le _, Nat.zero_le _⟩ (fun r8 u7 H locs hP hD hS hw => ?_)
      replace hP : va_P D vwCl (WF cB cI q1 q2 q3 q4 q5 q6 q8 (fs_regs (fs_code u1 u5) u7)) H := hP
      replace hD : va_D A (WF cB cI q1 q2 q3 q4 q5 q6 q8 (fs_regs (fs_code u1 u5) u7)) := hD
      refine va_put (D := D) (ci := 1) (v := .int r8) (ty := .int) (C := RX1) (T := TX1) (N := 12) hx hb hts i_X1 tyX1 tyX1_ok nmX1 hown hK hP hD hS 0 rfl rfl 7 (by decide) f_99 (fun _ h9 => h9) rfl (by decide +kernel) rfl rfl (Nat.le_of_ble_eq_true rfl) dX1_fetchM_59 (fun H locs hP hD hS => ?_)
      replace hP : va_P D vwCl (WF cB cI q1 q2 q3 q4 q5 q6 q8 (fs_regs (fs_code u1 (cs_eSegment u5 r8)) u7)) H := hP
      replace hD : va_D A (WF cB cI q1 q2 q3 q4 q5 q6 q8 (fs_regs (fs_code u1 (cs_eSegment u5 r8)) u7)) := hD
      refine lv_aload_n hx hb dX1_fetchM_62 rfl (lv_at hl 1 rfl) ?_
      refine lv_aload_n hx hb dX1_fetchM_63 rfl (lv_at hl 1 rfl) ?_
      refine lv_aload_n hx hb dX1_fetchM_64 rfl (lv_at hl 2 rfl) ?_
      refine lv_aload_n hx hb dX1_fetchM_65 rfl (lv_at hl 3 rfl) ?_
      refine cl_Vi (As := [.ref q1, .ref q4]) (rest := [.ref q8]) (st := [.ref q4, .ref q1, .ref q8, .ref q8]) S hK hA hP hD hS (fr_F (fs_regs (fs_code u1 (cs_eSegment u5 r8)) u7)) (kcX1_fetchWord l D cB cI q1 q2 q3 q4 q5 q6 q8 H.size  (fs_regs (fs_code u1 (cs_eSegment u5 r8)) u7) _ hw) (cwV 2 hts gX1_fetchM_X1_fetchWord rfl rfl rfl (by decide +kernel) ⟨Nat.le_of_ble_eq_true rfl, Nat.le_of_ble_eq_true rfl⟩) tru_h tru_b 0 rfl rfl rfl rfl rfl hl.1 (Nat.le_of_ble_eq_true rfl) dX1_fetchM_66 ⟨Nat.zero_le _, Nat.zero_le _⟩ (fun r10 u9 H locs hP hD hS hw => ?_)
      replace hP : va_P D vwCl (WF cB cI q1 q2 q3 q4 q5 q6 q8 u9) H := hP
      replace hD : va_D A (WF cB cI q1 q2 q3 q4 q5 q6 q8 u9) := hD
      refine va_put (D := D) (ci := 1) (v := .int r10) (ty := .int) (C := RX1) (T := TX1) (N := 12) hx hb hts i_X1 tyX1 tyX1_ok nmX1 hown hK hP hD hS 0 rfl rfl 8 (by decide) f_102 (fun _ h9 => h9) rfl (by decide +kernel) rfl rfl (Nat.le_of_ble_eq_true rfl) dX1_fetchM_69 (fun H locs hP hD hS => ?_)
      replace hP : va_P D vwCl (WF cB cI q1 q2 q3 q4 q5 q6 q8 (fs_code u9 (cs_offset (f_code u9) r10))) H := hP
      replace hD : va_D A (WF cB cI q1 q2 q3 q4 q5 q6 q8 (fs_code u9 (cs_offset (f_code u9) r10))) := hD
      exact rt_v (wo := (fun v => WF cB cI q1 q2 q3 q4 q5 q6 q8 v)) S hr hlk (fs_code u9 (cs_offset (f_code u9) r10)) hP hS hw dX1_fetchM_72
-- X1_hasM
def wX1_hasM (a0 : Int32) (u : Unit) (P : Int32 → Unit → Prop) : Prop := ((a0 = (3 : Int32) → (P (1 : Int32) u)) ∧ (¬ a0 = (3 : Int32) → ((a0 = (4 : Int32) → (P (1 : Int32) u)) ∧ (¬ a0 = (4 : Int32) → ((a0 = (5 : Int32) → (P (1 : Int32) u)) ∧ (¬ a0 = (5 : Int32) → ((a0 = (7 : Int32) → (P (1 : Int32) u)) ∧ (¬ a0 = (7 : Int32) → ((a0 = (8 : Int32) → (P (1 : Int32) u)) ∧ (¬ a0 = (8 : Int32) → (P (0 : Int32) u)))))))))))
set_option maxHeartbeats 4000000 in
set_option maxRecDepth 100000 in
theorem kcX1_hasM (l : Launch) (D : va_G) (cB cI : ClassId) (sz : Nat) (a0 : Int32) (u : Unit) (P : Int32 → Unit → Prop) (hw : wX1_hasM a0 u P) : Met l yX1_hasM wsX1_hasM ({ frames := 0, cells := 0, slots := 0, locals := 0 } : Room) (va_Pc [.int a0] (Pcw D (tyA cB cI) [] sz Tru)) (va_Qi P (fun u t => va_P D vwCl [] t.heap) (va_A [] sz)) 0 0 (va_A [] sz) := by
  refine en_ (cc := cX1_hasM) (maxL := 1) (ret := (some .boolean)) (own := RX1) (lv := [(0, .int a0)]) (Qf := fun A => va_Qi P (fun u t => va_P D vwCl [] t.heap) A) (by decide) rfl rfl (Nat.le_of_ble_eq_true rfl) rfl ?_
  intro p e s m below meth c A ls S hr hlk hname hsz hP hK hD hA hSub hS hE hl
  have hx := S.1
  have hb := S.2.1
  have hown := S.2.2.2.1
  have hts := S.2.2.2.2
  unfold wX1_hasM at hw
  obtain ⟨H, eH⟩ : ∃ H, H = s.heap := ⟨_, rfl⟩
  obtain ⟨locs, eL⟩ : ∃ locs : List Loc, locs = [] := ⟨_, rfl⟩
  replace hP : va_P D vwCl [] H := by rw [eH]; exact hP
  replace hS : va_S A s.heap H locs := by rw [eH, eL]; exact hS
  suffices hgo : W p l e ({ frames := 0, cells := 0, slots := 0, locals := 0 } : Room) s m ([.int a0] : List Value).toArray below meth c H locs 0 0 (MQ below (va_Qi P (fun u t => va_P D vwCl [] t.heap) A) ([.int a0] : List Value).toArray s 0 0 A) (F0 m 0 ls []) by rw [eH, eL] at hgo; exact hgo
  clear eH eL
  refine lv_iload_n hx hb dX1_hasM_0 rfl (lv_at hl 0 rfl) ?_
  refine lv_iconst (v := (3 : Int32)) hx hb dX1_hasM_1 (by decide) ?_
  refine lv_icmp_eq (tgt := 27) hx hb dX1_hasM_2 (by decide) (fun c1 => ?_) (fun c1 => ?_)
  · replace hw := hw.1 c1
    refine lv_iconst (v := (1 : Int32)) hx hb dX1_hasM_27 (by decide) ?_
    refine lv_goto (tgt := 32) hx hb dX1_hasM_28 (by decide) ?_
    exact rt_z (wo := (fun _ => [])) S hr hlk u hP hS zB_1 hw dX1_hasM_32
  · replace hw := hw.2 c1
    refine lv_iload_n hx hb dX1_hasM_5 rfl (lv_at hl 0 rfl) ?_
    refine lv_iconst (v := (4 : Int32)) hx hb dX1_hasM_6 (by decide) ?_
    refine lv_icmp_eq (tgt := 27) hx hb dX1_hasM_7 (by decide) (fun c2 => ?_) (fun c2 => ?_)
    · replace hw := hw.1 c2
      refine lv_iconst (v := (1 : Int32)) hx hb dX1_hasM_27 (by decide) ?_
      refine lv_goto (tgt := 32) hx hb dX1_hasM_28 (by decide) ?_
      exact rt_z (wo := (fun _ => [])) S hr hlk u hP hS zB_1 hw dX1_hasM_32
    · replace hw := hw.2 c2
      refine lv_iload_n hx hb dX1_hasM_10 rfl (lv_at hl 0 rfl) ?_
      refine lv_iconst (v := (5 : Int32)) hx hb dX1_hasM_11 (by decide) ?_
      refine lv_icmp_eq (tgt := 27) hx hb dX1_hasM_12 (by decide) (fun c3 => ?_) (fun c3 => ?_)
      · replace hw := hw.1 c3
        refine lv_iconst (v := (1 : Int32)) hx hb dX1_hasM_27 (by decide) ?_
        refine lv_goto (tgt := 32) hx hb dX1_hasM_28 (by decide) ?_
        exact rt_z (wo := (fun _ => [])) S hr hlk u hP hS zB_1 hw dX1_hasM_32
      · replace hw := hw.2 c3
        refine lv_iload_n hx hb dX1_hasM_15 rfl (lv_at hl 0 rfl) ?_
        refine lv_bipush (v := (7 : Int32)) hx hb dX1_hasM_16 (by decide) ?_
        refine lv_icmp_eq (tgt := 27) hx hb dX1_hasM_18 (by decide) (fun c4 => ?_) (fun c4 => ?_)
        · replace hw := hw.1 c4
          refine lv_iconst (v := (1 : Int32)) hx hb dX1_hasM_27 (by decide) ?_
          refine lv_goto (tgt := 32) hx hb dX1_hasM_28 (by decide) ?_
          exact rt_z (wo := (fun _ => [])) S hr hlk u hP hS zB_1 hw dX1_hasM_32
        · replace hw := hw.2 c4
          refine lv_iload_n hx hb dX1_hasM_21 rfl (lv_at hl 0 rfl) ?_
          refine lv_bipush (v := (8 : Int32)) hx hb dX1_hasM_22 (by decide) ?_
          refine lv_icmp_ne (tgt := 31) hx hb dX1_hasM_24 (by decide) (fun c5 => ?_) (fun c5 => ?_)
          · replace hw := hw.2 c5
            refine lv_iconst (v := (0 : Int32)) hx hb dX1_hasM_31 (by decide) ?_
            exact rt_z (wo := (fun _ => [])) S hr hlk u hP hS zB_0 hw dX1_hasM_32
          · replace hw := hw.1 c5
            refine lv_iconst (v := (1 : Int32)) hx hb dX1_hasM_27 (by decide) ?_
            refine lv_goto (tgt := 32) hx hb dX1_hasM_28 (by decide) ?_
            exact rt_z (wo := (fun _ => [])) S hr hlk u hP hS zB_1 hw dX1_hasM_32
-- X1_fetchRest
def wX1_fetchRest_b95  (P : SF → Prop) (x3 : Int32) (u : SF) : Prop := ((x3 = (6 : Int32) → (wX1_fetchWord  u (fun r22 u21 => (wX1_fetchWord  (fs_code u21 (cs_first (f_code u21) r22)) (fun r24 u23 => (P (fs_code u23 (cs_second (f_code u23) r24)))))))) ∧ (¬ x3 = (6 : Int32) → (P u)))
def wX1_fetchRest_b82  (P : SF → Prop)  (u : SF) : Prop := (wX1_fetchWord  u (fun r19 u18 => (P (fs_code u18 (cs_first (f_code u18) r19)))))
def wX1_fetchRest_b58  (P : SF → Prop) (x3 : Int32) (u : SF) : Prop := ((x3 = (2 : Int32) → (wX1_fetchRest_b82  P u)) ∧ (¬ x3 = (2 : Int32) → ((x3 = (5 : Int32) → (wX1_fetchRest_b82  P u)) ∧ (¬ x3 = (5 : Int32) → ((x3 = (8 : Int32) → (((2 : Int32) ≤ (c_r (f_code u)) → (wX1_fetchRest_b95  P x3 u)) ∧ (¬ (2 : Int32) ≤ (c_r (f_code u)) → (wX1_fetchRest_b82  P u)))) ∧ (¬ x3 = (8 : Int32) → (wX1_fetchRest_b95  P x3 u)))))))
def wX1_fetchRest_b45  (P : SF → Prop)  (u : SF) : Prop := (wX1_fetch  u (fun r13 u12 => (P (fs_code u12 (cs_first (f_code u12) r13)))))
def wX1_fetchRest_b21  (P : SF → Prop) (x3 : Int32) (u : SF) : Prop := ((x3 = (1 : Int32) → (wX1_fetchRest_b45  P u)) ∧ (¬ x3 = (1 : Int32) → ((x3 = (4 : Int32) → (wX1_fetchRest_b45  P u)) ∧ (¬ x3 = (4 : Int32) → ((x3 = (7 : Int32) → (((2 : Int32) ≤ (c_r (f_code u)) → (wX1_fetchRest_b58  P x3 u)) ∧ (¬ (2 : Int32) ≤ (c_r (f_code u)) → (wX1_fetchRest_b45  P u)))) ∧ (¬ x3 = (7 : Int32) → (wX1_fetchRest_b58  P x3 u)))))))
def wX1_fetchRest  (u : SF) (P : SF → Prop) : Prop := (wX1_formOf (c_number (f_code u)) () (fun r2 u1 => (wX1_hasM r2 () (fun r4 u3 => ((r4 = (0 : Int32) → (wX1_fetchRest_b21  P r2 u)) ∧ (¬ r4 = (0 : Int32) → (wX1_fetchM  u (fun u6 => (wX1_fetchRest_b21  P r2 u6)))))))))
set_option maxHeartbeats 4000000 in
set_option maxRecDepth 100000 in
theorem kcX1_fetchRest (l : Launch) (D : va_G) (cB cI : ClassId) (qF : Nat) (q1 q2 q3 q4 q5 q6 q8 : Nat) (sz : Nat)  (u : SF) (P : SF → Prop) (hw : wX1_fetchRest  u P) : Met l yX1_fetchRest wsX1_fetchRest ({ frames := 5, cells := 0, slots := 0, locals := 117 } : Room) (va_Pc [.ref q8, .ref q1, .ref q4] (Pcw D (tyA cB cI) (WF cB cI q1 q2 q3 q4 q5 q6 q8 u) sz (Fz qF (WF cB cI q1 q2 q3 q4 q5 q6 q8 u) sz))) (va_Qv P (fun u t => va_P D vwCl (WF cB cI q1 q2 q3 q4 q5 q6 q8 u) t.heap) (va_A (WF cB cI q1 q2 q3 q4 q5 q6 q8 u) sz)) 0 0 (va_A (WF cB cI q1 q2 q3 q4 q5 q6 q8 u) sz) := by
  refine en_ (cc := cX1_fetchRest) (maxL := 4) (ret := none) (own := RX1) (lv := [(0, .ref q8), (1, .ref q1), (2, .ref q4)]) (Qf := fun A => va_Qv P (fun u t => va_P D vwCl (WF cB cI q1 q2 q3 q4 q5 q6 q8 u) t.heap) A) (by decide) rfl rfl (Nat.le_of_ble_eq_true rfl) rfl ?_
  intro p e s m below meth c A ls S hr hlk hname hsz hP hK hD hA hSub hS hE hl
  have hx := S.1
  have hb := S.2.1
  have hown := S.2.2.2.1
  have hts := S.2.2.2.2
  have i_X1 : ∀ w ∈ u_ws RX1 TX1 12, w ∈ wsX1_fetchRest := by decide +kernel
  have f_9 := hts (.fieldLink RX1 9 "MachineCore$Code" "number" "I") (by decide +kernel)
  have f_81 := hts (.fieldLink RX1 81 "MachineCore$Code" "r" "I") (by decide +kernel)
  have f_84 := hts (.fieldLink RX1 84 "MachineCore$Code" "first" "I") (by decide +kernel)
  have f_90 := hts (.fieldLink RX1 90 "MachineCore$Code" "second" "I") (by decide +kernel)
  have hE := fz_own hsz hSub hE
  have b95 : ∀ (x3 : Int32) (u : SF) (H : Heap) (locs : List Loc) (ls : Array Slot), va_P D vwCl (WF cB cI q1 q2 q3 q4 q5 q6 q8 u) H → va_D A (WF cB cI q1 q2 q3 q4 q5 q6 q8 u) → va_S A s.heap H locs → lv_has ls 4 [(0, .ref q8), (1, .ref q1), (2, .ref q4), (3, .int x3)] → wX1_fetchRest_b95  P x3 u → W p l e ({ frames := 5, cells := 0, slots := 0, locals := 117 } : Room) s m ([.ref q8, .ref q1, .ref q4] : List Value).toArray below meth c H locs 0 0 (MQ below (va_Qv P (fun u t => va_P D vwCl (WF cB cI q1 q2 q3 q4 q5 q6 q8 u) t.heap) A) ([.ref q8, .ref q1, .ref q4] : List Value).toArray s 0 0 A) (F0 m 95 ls []) := by
    intro x3 u H locs ls hP hD hS hl hw
    unfold wX1_fetchRest_b95 at hw
    refine lv_iload_n hx hb dX1_fetchRest_95 rfl (lv_at hl 3 rfl) ?_
    refine lv_bipush (v := (6 : Int32)) hx hb dX1_fetchRest_96 (by decide) ?_
    refine lv_icmp_ne (tgt := 121) hx hb dX1_fetchRest_98 (by decide) (fun c20 => ?_) (fun c20 => ?_)
    · replace hw := hw.2 c20
      exact rt_v (wo := (fun v => WF cB cI q1 q2 q3 q4 q5 q6 q8 v)) S hr hlk u hP hS hw dX1_fetchRest_121
    · replace hw := hw.1 c20
      refine lv_aload_n hx hb dX1_fetchRest_101 rfl (lv_at hl 0 rfl) ?_
      refine lv_aload_n hx hb dX1_fetchRest_102 rfl (lv_at hl 0 rfl) ?_
      refine lv_aload_n hx hb dX1_fetchRest_103 rfl (lv_at hl 1 rfl) ?_
      refine lv_aload_n hx hb dX1_fetchRest_104 rfl (lv_at hl 2 rfl) ?_
      refine cl_Vi (As := [.ref q1, .ref q4]) (rest := [.ref q8]) (st := [.ref q4, .ref q1, .ref q8, .ref q8]) S hK hA hP hD hS (fr_F u) (kcX1_fetchWord l D cB cI q1 q2 q3 q4 q5 q6 q8 H.size  u _ hw) (cwV 2 hts gX1_fetchRest_X1_fetchWord rfl rfl rfl (by decide +kernel) ⟨Nat.le_of_ble_eq_true rfl, Nat.le_of_ble_eq_true rfl⟩) tru_h tru_b 0 rfl rfl rfl rfl rfl hl.1 (Nat.le_of_ble_eq_true rfl) dX1_fetchRest_105 ⟨Nat.zero_le _, Nat.zero_le _⟩ (fun r22 u21 H locs hP hD hS hw => ?_)
      replace hP : va_P D vwCl (WF cB cI q1 q2 q3 q4 q5 q6 q8 u21) H := hP
      replace hD : va_D A (WF cB cI q1 q2 q3 q4 q5 q6 q8 u21) := hD
      refine va_put (D := D) (ci := 1) (v := .int r22) (ty := .int) (C := RX1) (T := TX1) (N := 12) hx hb hts i_X1 tyX1 tyX1_ok nmX1 hown hK hP hD hS 0 rfl rfl 9 (by decide) f_84 (fun _ h9 => h9) rfl (by decide +kernel) rfl rfl (Nat.le_of_ble_eq_true rfl) dX1_fetchRest_108 (fun H locs hP hD hS => ?_)
      replace hP : va_P D vwCl (WF cB cI q1 q2 q3 q4 q5 q6 q8 (fs_code u21 (cs_first (f_code u21) r22))) H := hP
      replace hD : va_D A (WF cB cI q1 q2 q3 q4 q5 q6 q8 (fs_code u21 (cs_first (f_code u21) r22))) := hD
      refine lv_aload_n hx hb dX1_fetchRest_111 rfl (lv_at hl 0 rfl) ?_
      refine lv_aload_n hx hb dX1_fetchRest_112 rfl (lv_at hl 0 rfl) ?_
      refine lv_aload_n hx hb dX1_fetchRest_113 rfl (lv_at hl 1 rfl) ?_
      refine lv_aload_n hx hb dX1_fetchRest_114 rfl (lv_at hl 2 rfl) ?_
      refine cl_Vi (As := [.ref q1, .ref q4]) (rest := [.ref q8]) (st := [.ref q4, .ref q1, .ref q8, .ref q8]) S hK hA hP hD hS (fr_F (fs_code u21 (cs_first (f_code u21) r22))) (kcX1_fetchWord l D cB cI q1 q2 q3 q4 q5 q6 q8 H.size  (fs_code u21 (cs_first (f_code u21) r22)) _ hw) (cwV 2 hts gX1_fetchRest_X1_fetchWord rfl rfl rfl (by decide +kernel) ⟨Nat.le_of_ble_eq_true rfl, Nat.le_of_ble_eq_true rfl⟩) tru_h tru_b 0 rfl rfl rfl rfl rfl hl.1 (Nat.le_of_ble_eq_true rfl) dX1_fetchRest_115 ⟨Nat.zero_le _, Nat.zero_le _⟩ (fun r24 u23 H locs hP hD hS hw => ?_)
      replace hP : va_P D vwCl (WF cB cI q1 q2 q3 q4 q5 q6 q8 u23) H := hP
      replace hD : va_D A (WF cB cI q1 q2 q3 q4 q5 q6 q8 u23) := hD
      refine va_put (D := D) (ci := 1) (v := .int r24) (ty := .int) (C := RX1) (T := TX1) (N := 12) hx hb hts i_X1 tyX1 tyX1_ok nmX1 hown hK hP hD hS 0 rfl rfl 10 (by decide) f_90 (fun _ h9 => h9) rfl (by decide +kernel) rfl rfl (Nat.le_of_ble_eq_true rfl) dX1_fetchRest_118 (fun H locs hP hD hS => ?_)
      replace hP : va_P D vwCl (WF cB cI q1 q2 q3 q4 q5 q6 q8 (fs_code u23 (cs_second (f_code u23) r24))) H := hP
      replace hD : va_D A (WF cB cI q1 q2 q3 q4 q5 q6 q8 (fs_code u23 (cs_second (f_code u23) r24))) := hD
      exact rt_v (wo := (fun v => WF cB cI q1 q2 q3 q4 q5 q6 q8 v)) S hr hlk (fs_code u23 (cs_second (f_code u23) r24)) hP hS hw dX1_fetchRest_121
  have b82 : ∀  (u : SF) (H : Heap) (locs : List Loc) (ls : Array Slot), va_P D vwCl (WF cB cI q1 q2 q3 q4 q5 q6 q8 u) H → va_D A (WF cB cI q1 q2 q3 q4 q5 q6 q8 u) → va_S A s.heap H locs → lv_has ls 4 [(0, .ref q8), (1, .ref q1), (2, .ref q4)] → wX1_fetchRest_b82  P u → W p l e ({ frames := 5, cells := 0, slots := 0, locals := 117 } : Room) s m ([.ref q8, .ref q1, .ref q4] : List Value).toArray below meth c H locs 0 0 (MQ below (va_Qv P (fun u t => va_P D vwCl (WF cB cI q1 q2 q3 q4 q5 q6 q8 u) t.heap) A) ([.ref q8, .ref q1, .ref q4] : List Value).toArray s 0 0 A) (F0 m 82 ls []) := by
    intro u H locs ls hP hD hS hl hw
    unfold wX1_fetchRest_b82 at hw
    refine lv_aload_n hx hb dX1_fetchRest_82 rfl (lv_at hl 0 rfl) ?_
    refine lv_aload_n hx hb dX1_fetchRest_83 rfl (lv_at hl 0 rfl) ?_
    refine lv_aload_n hx hb dX1_fetchRest_84 rfl (lv_at hl 1 rfl) ?_
    refine lv_aload_n hx hb dX1_fetchRest_85 rfl (lv_at hl 2 rfl) ?_
    refine cl_Vi (As := [.ref q1, .ref q4]) (rest := [.ref q8]) (st := [.ref q4, .ref q1, .ref q8, .ref q8]) S hK hA hP hD hS (fr_F u) (kcX1_fetchWord l D cB cI q1 q2 q3 q4 q5 q6 q8 H.size  u _ hw) (cwV 2 hts gX1_fetchRest_X1_fetchWord rfl rfl rfl (by decide +kernel) ⟨Nat.le_of_ble_eq_true rfl, Nat.le_of_ble_eq_true rfl⟩) tru_h tru_b 0 rfl rfl rfl rfl rfl hl.1 (Nat.le_of_ble_eq_true rfl) dX1_fetchRest_86 ⟨Nat.zero_le _, Nat.zero_le _⟩ (fun r19 u18 H locs hP hD hS hw => ?_)
    replace hP : va_P D vwCl (WF cB cI q1 q2 q3 q4 q5 q6 q8 u18) H := hP
    replace hD : va_D A (WF cB cI q1 q2 q3 q4 q5 q6 q8 u18) := hD
    refine va_put (D := D) (ci := 1) (v := .int r19) (ty := .int) (C := RX1) (T := TX1) (N := 12) hx hb hts i_X1 tyX1 tyX1_ok nmX1 hown hK hP hD hS 0 rfl rfl 9 (by decide) f_84 (fun _ h9 => h9) rfl (by decide +kernel) rfl rfl (Nat.le_of_ble_eq_true rfl) dX1_fetchRest_89 (fun H locs hP hD hS => ?_)
    replace hP : va_P D vwCl (WF cB cI q1 q2 q3 q4 q5 q6 q8 (fs_code u18 (cs_first (f_code u18) r19))) H := hP
    replace hD : va_D A (WF cB cI q1 q2 q3 q4 q5 q6 q8 (fs_code u18 (cs_first (f_code u18) r19))) := hD
    refine lv_goto (tgt := 121) hx hb dX1_fetchRest_92 (by decide) ?_
    exact rt_v (wo := (fun v => WF cB cI q1 q2 q3 q4 q5 q6 q8 v)) S hr hlk (fs_code u18 (cs_first (f_code u18) r19)) hP hS hw dX1_fetchRest_121
  have b58 : ∀ (x3 : Int32) (u : SF) (H : Heap) (locs : List Loc) (ls : Array Slot), va_P D vwCl (WF cB cI q1 q2 q3 q4 q5 q6 q8 u) H → va_D A (WF cB cI q1 q2 q3 q4 q5 q6 q8 u) → va_S A s.heap H locs → lv_has ls 4 [(0, .ref q8), (1, .ref q1), (2, .ref q4), (3, .int x3)] → wX1_fetchRest_b58  P x3 u → W p l e ({ frames := 5, cells := 0, slots := 0, locals := 117 } : Room) s m ([.ref q8, .ref q1, .ref q4] : List Value).toArray below meth c H locs 0 0 (MQ below (va_Qv P (fun u t => va_P D vwCl (WF cB cI q1 q2 q3 q4 q5 q6 q8 u) t.heap) A) ([.ref q8, .ref q1, .ref q4] : List Value).toArray s 0 0 A) (F0 m 58 ls []) := by
    intro x3 u H locs ls hP hD hS hl hw
    unfold wX1_fetchRest_b58 at hw
    refine lv_iload_n hx hb dX1_fetchRest_58 rfl (lv_at hl 3 rfl) ?_
    refine lv_iconst (v := (2 : Int32)) hx hb dX1_fetchRest_59 (by decide) ?_
    refine lv_icmp_eq (tgt := 82) hx hb dX1_fetchRest_60 (by decide) (fun c14 => ?_) (fun c14 => ?_)
    · replace hw := hw.1 c14
      exact b82 u H locs ls hP hD hS (lv_sub hl [0, 1, 2] rfl) hw
    · replace hw := hw.2 c14
      refine lv_iload_n hx hb dX1_fetchRest_63 rfl (lv_at hl 3 rfl) ?_
      refine lv_iconst (v := (5 : Int32)) hx hb dX1_fetchRest_64 (by decide) ?_
      refine lv_icmp_eq (tgt := 82) hx hb dX1_fetchRest_65 (by decide) (fun c15 => ?_) (fun c15 => ?_)
      · replace hw := hw.1 c15
        exact b82 u H locs ls hP hD hS (lv_sub hl [0, 1, 2] rfl) hw
      · replace hw := hw.2 c15
        refine lv_iload_n hx hb dX1_fetchRest_68 rfl (lv_at hl 3 rfl) ?_
        refine lv_bipush (v := (8 : Int32)) hx hb dX1_fetchRest_69 (by decide) ?_
        refine lv_icmp_ne (tgt := 95) hx hb dX1_fetchRest_71 (by decide) (fun c16 => ?_) (fun c16 => ?_)
        · replace hw := hw.2 c16
          exact b95 x3 u H locs ls hP hD hS (lv_sub hl [0, 1, 2, 3] rfl) hw
        · replace hw := hw.1 c16
          refine lv_aload_n hx hb dX1_fetchRest_74 rfl (lv_at hl 0 rfl) ?_
          refine va_get (D := D) (ci := 1) (v := .int (c_r (f_code u))) (C := RX1) (T := TX1) (N := 12) hx hb hts i_X1 hown hK hP 0 rfl rfl 5 (by decide) f_81 (fun _ h9 => h9) rfl dX1_fetchRest_75 ?_
          refine lv_iconst (v := (2 : Int32)) hx hb dX1_fetchRest_78 (by decide) ?_
          refine lv_icmp_ge (tgt := 95) hx hb dX1_fetchRest_79 (by decide) (fun c17 => ?_) (fun c17 => ?_)
          · replace hw := hw.1 c17
            exact b95 x3 u H locs ls hP hD hS (lv_sub hl [0, 1, 2, 3] rfl) hw
          · replace hw := hw.2 c17
            exact b82 u H locs ls hP hD hS (lv_sub hl [0, 1, 2] rfl) hw
  have b45 : ∀  (u : SF) (H : Heap) (locs : List Loc) (ls : Array Slot), va_P D vwCl (WF cB cI q1 q2 q3 q4 q5 q6 q8 u) H → va_D A (WF cB cI q1 q2 q3 q4 q5 q6 q8 u) → va_S A s.heap H locs → lv_has ls 4 [(0, .ref q8), (1, .ref q1), (2, .ref q4)] → wX1_fetchRest_b45  P u → W p l e ({ frames := 5, cells := 0, slots := 0, locals := 117 } : Room) s m ([.ref q8, .ref q1, .ref q4] : List Value).toArray below meth c H locs 0 0 (MQ below (va_Qv P (fun u t => va_P D vwCl (WF cB cI q1 q2 q3 q4 q5 q6 q8 u) t.heap) A) ([.ref q8, .ref q1, .ref q4] : List Value).toArray s 0 0 A) (F0 m 45 ls []) := by
    intro u H locs ls hP hD hS hl hw
    unfold wX1_fetchRest_b45 at hw
    refine lv_aload_n hx hb dX1_fetchRest_45 rfl (lv_at hl 0 rfl) ?_
    refine lv_aload_n hx hb dX1_fetchRest_46 rfl (lv_at hl 0 rfl) ?_
    refine lv_aload_n hx hb dX1_fetchRest_47 rfl (lv_at hl 1 rfl) ?_
    refine lv_aload_n hx hb dX1_fetchRest_48 rfl (lv_at hl 2 rfl) ?_
    refine cl_Vi (As := [.ref q1, .ref q4]) (rest := [.ref q8]) (st := [.ref q4, .ref q1, .ref q8, .ref q8]) S hK hA hP hD hS (fr_F u) (kcX1_fetch l D cB cI q1 q2 q3 q4 q5 q6 q8 H.size  u _ hw) (cwV 2 hts gX1_fetchRest_X1_fetch rfl rfl rfl (by decide +kernel) ⟨Nat.le_of_ble_eq_true rfl, Nat.le_of_ble_eq_true rfl⟩) tru_h tru_b 0 rfl rfl rfl rfl rfl hl.1 (Nat.le_of_ble_eq_true rfl) dX1_fetchRest_49 ⟨Nat.zero_le _, Nat.zero_le _⟩ (fun r13 u12 H locs hP hD hS hw => ?_)
    replace hP : va_P D vwCl (WF cB cI q1 q2 q3 q4 q5 q6 q8 u12) H := hP
    replace hD : va_D A (WF cB cI q1 q2 q3 q4 q5 q6 q8 u12) := hD
    refine va_put (D := D) (ci := 1) (v := .int r13) (ty := .int) (C := RX1) (T := TX1) (N := 12) hx hb hts i_X1 tyX1 tyX1_ok nmX1 hown hK hP hD hS 0 rfl rfl 9 (by decide) f_84 (fun _ h9 => h9) rfl (by decide +kernel) rfl rfl (Nat.le_of_ble_eq_true rfl) dX1_fetchRest_52 (fun H locs hP hD hS => ?_)
    replace hP : va_P D vwCl (WF cB cI q1 q2 q3 q4 q5 q6 q8 (fs_code u12 (cs_first (f_code u12) r13))) H := hP
    replace hD : va_D A (WF cB cI q1 q2 q3 q4 q5 q6 q8 (fs_code u12 (cs_first (f_code u12) r13))) := hD
    refine lv_goto (tgt := 121) hx hb dX1_fetchRest_55 (by decide) ?_
    exact rt_v (wo := (fun v => WF cB cI q1 q2 q3 q4 q5 q6 q8 v)) S hr hlk (fs_code u12 (cs_first (f_code u12) r13)) hP hS hw dX1_fetchRest_121
  have b21 : ∀ (x3 : Int32) (u : SF) (H : Heap) (locs : List Loc) (ls : Array Slot), va_P D vwCl (WF cB cI q1 q2 q3 q4 q5 q6 q8 u) H → va_D A (WF cB cI q1 q2 q3 q4 q5 q6 q8 u) → va_S A s.heap H locs → lv_has ls 4 [(0, .ref q8), (1, .ref q1), (2, .ref q4), (3, .int x3)] → wX1_fetchRest_b21  P x3 u → W p l e ({ frames := 5, cells := 0, slots := 0, locals := 117 } : Room) s m ([.ref q8, .ref q1, .ref q4] : List Value).toArray below meth c H locs 0 0 (MQ below (va_Qv P (fun u t => va_P D vwCl (WF cB cI q1 q2 q3 q4 q5 q6 q8 u) t.heap) A) ([.ref q8, .ref q1, .ref q4] : List Value).toArray s 0 0 A) (F0 m 21 ls []) := by
    intro x3 u H locs ls hP hD hS hl hw
    unfold wX1_fetchRest_b21 at hw
    refine lv_iload_n hx hb dX1_fetchRest_21 rfl (lv_at hl 3 rfl) ?_
    refine lv_iconst (v := (1 : Int32)) hx hb dX1_fetchRest_22 (by decide) ?_
    refine lv_icmp_eq (tgt := 45) hx hb dX1_fetchRest_23 (by decide) (fun c8 => ?_) (fun c8 => ?_)
    · replace hw := hw.1 c8
      exact b45 u H locs ls hP hD hS (lv_sub hl [0, 1, 2] rfl) hw
    · replace hw := hw.2 c8
      refine lv_iload_n hx hb dX1_fetchRest_26 rfl (lv_at hl 3 rfl) ?_
      refine lv_iconst (v := (4 : Int32)) hx hb dX1_fetchRest_27 (by decide) ?_
      refine lv_icmp_eq (tgt := 45) hx hb dX1_fetchRest_28 (by decide) (fun c9 => ?_) (fun c9 => ?_)
      · replace hw := hw.1 c9
        exact b45 u H locs ls hP hD hS (lv_sub hl [0, 1, 2] rfl) hw
      · replace hw := hw.2 c9
        refine lv_iload_n hx hb dX1_fetchRest_31 rfl (lv_at hl 3 rfl) ?_
        refine lv_bipush (v := (7 : Int32)) hx hb dX1_fetchRest_32 (by decide) ?_
        refine lv_icmp_ne (tgt := 58) hx hb dX1_fetchRest_34 (by decide) (fun c10 => ?_) (fun c10 => ?_)
        · replace hw := hw.2 c10
          exact b58 x3 u H locs ls hP hD hS (lv_sub hl [0, 1, 2, 3] rfl) hw
        · replace hw := hw.1 c10
          refine lv_aload_n hx hb dX1_fetchRest_37 rfl (lv_at hl 0 rfl) ?_
          refine va_get (D := D) (ci := 1) (v := .int (c_r (f_code u))) (C := RX1) (T := TX1) (N := 12) hx hb hts i_X1 hown hK hP 0 rfl rfl 5 (by decide) f_81 (fun _ h9 => h9) rfl dX1_fetchRest_38 ?_
          refine lv_iconst (v := (2 : Int32)) hx hb dX1_fetchRest_41 (by decide) ?_
          refine lv_icmp_ge (tgt := 58) hx hb dX1_fetchRest_42 (by decide) (fun c11 => ?_) (fun c11 => ?_)
          · replace hw := hw.1 c11
            exact b58 x3 u H locs ls hP hD hS (lv_sub hl [0, 1, 2, 3] rfl) hw
          · replace hw := hw.2 c11
            exact b45 u H locs ls hP hD hS (lv_sub hl [0, 1, 2] rfl) hw
  unfold wX1_fetchRest at hw
  obtain ⟨H, eH⟩ : ∃ H, H = s.heap := ⟨_, rfl⟩
  obtain ⟨locs, eL⟩ : ∃ locs : List Loc, locs = [] := ⟨_, rfl⟩
  replace hP : va_P D vwCl (WF cB cI q1 q2 q3 q4 q5 q6 q8 u) H := by rw [eH]; exact hP
  replace hS : va_S A s.heap H locs := by rw [eH, eL]; exact hS
  suffices hgo : W p l e ({ frames := 5, cells := 0, slots := 0, locals := 117 } : Room) s m ([.ref q8, .ref q1, .ref q4] : List Value).toArray below meth c H locs 0 0 (MQ below (va_Qv P (fun u t => va_P D vwCl (WF cB cI q1 q2 q3 q4 q5 q6 q8 u) t.heap) A) ([.ref q8, .ref q1, .ref q4] : List Value).toArray s 0 0 A) (F0 m 0 ls []) by rw [eH, eL] at hgo; exact hgo
  clear eH eL
  refine lv_aload_n hx hb dX1_fetchRest_0 rfl (lv_at hl 0 rfl) ?_
  refine va_get (D := D) (ci := 1) (v := .int (c_number (f_code u))) (C := RX1) (T := TX1) (N := 12) hx hb hts i_X1 hown hK hP 0 rfl rfl 1 (by decide) f_9 (fun _ h9 => h9) rfl dX1_fetchRest_1 ?_
  refine cl_Si (As := [.int (c_number (f_code u))]) (rest := []) (st := [.int (c_number (f_code u))]) S hK hA hP hD hS Fr_nil (kcX1_formOf l D cB cI qF  H.size (c_number (f_code u)) () _ hw) (va_cwS 1 hts gX1_fetchRest_X1_formOf rfl rfl rfl (by decide +kernel) ⟨Nat.le_of_ble_eq_true rfl, Nat.le_of_ble_eq_true rfl⟩) (fz_call hE hA hD hS Fr_nil) fz_b rfl rfl hl.1 (Nat.le_of_ble_eq_true rfl) dX1_fetchRest_4 ⟨Nat.zero_le _, Nat.zero_le _⟩ (fun r2 u1 H locs hP hD hS hw => ?_)
  replace hP : va_P D vwCl (WF cB cI q1 q2 q3 q4 q5 q6 q8 u) H := hP
  replace hD : va_D A (WF cB cI q1 q2 q3 q4 q5 q6 q8 u) := hD
  refine lv_istore_n (lv' := [(3, .int r2), (0, .ref q8), (1, .ref q1), (2, .ref q4)]) hx hb dX1_fetchRest_7 rfl hl (by decide) rfl (fun ls hl => ?_)
  refine lv_iload_n hx hb dX1_fetchRest_8 rfl (lv_at hl 0 rfl) ?_
  refine cl_Si (As := [.int r2]) (rest := []) (st := [.int r2]) S hK hA hP hD hS Fr_nil (kcX1_hasM l D cB cI  H.size r2 () _ hw) (va_cwS 1 hts gX1_fetchRest_X1_hasM rfl rfl rfl (by decide +kernel) ⟨Nat.le_of_ble_eq_true rfl, Nat.le_of_ble_eq_true rfl⟩) tru_h tru_b rfl rfl hl.1 (Nat.le_of_ble_eq_true rfl) dX1_fetchRest_9 ⟨Nat.zero_le _, Nat.zero_le _⟩ (fun r4 u3 H locs hP hD hS hw => ?_)
  replace hP : va_P D vwCl (WF cB cI q1 q2 q3 q4 q5 q6 q8 u) H := hP
  replace hD : va_D A (WF cB cI q1 q2 q3 q4 q5 q6 q8 u) := hD
  refine lv_if_eq (tgt := 21) hx hb dX1_fetchRest_12 (by decide) (fun c5 => ?_) (fun c5 => ?_)
  · replace hw := hw.1 c5
    exact b21 r2 u H locs ls hP hD hS (lv_sub hl [1, 2, 3, 0] rfl) hw
  · replace hw := hw.2 c5
    refine lv_aload_n hx hb dX1_fetchRest_15 rfl (lv_at hl 1 rfl) ?_
    refine lv_aload_n hx hb dX1_fetchRest_16 rfl (lv_at hl 2 rfl) ?_
    refine lv_aload_n hx hb dX1_fetchRest_17 rfl (lv_at hl 3 rfl) ?_
    refine cl_Vv (As := [.ref q1, .ref q4]) (rest := []) (st := [.ref q4, .ref q1, .ref q8]) S hK hA hP hD hS (fr_F u) (kcX1_fetchM l D cB cI q1 q2 q3 q4 q5 q6 q8 H.size  u _ hw) (cwV 2 hts gX1_fetchRest_X1_fetchM rfl rfl rfl (by decide +kernel) ⟨Nat.le_of_ble_eq_true rfl, Nat.le_of_ble_eq_true rfl⟩) tru_h tru_b 0 rfl rfl rfl rfl rfl hl.1 (Nat.le_of_ble_eq_true rfl) dX1_fetchRest_18 ⟨Nat.zero_le _, Nat.zero_le _⟩ (fun u6 H locs hP hD hS hw => ?_)
    replace hP : va_P D vwCl (WF cB cI q1 q2 q3 q4 q5 q6 q8 u6) H := hP
    replace hD : va_D A (WF cB cI q1 q2 q3 q4 q5 q6 q8 u6) := hD
    exact b21 r2 u6 H locs ls hP hD hS (lv_sub hl [1, 2, 3, 0] rfl) hw
-- X1_isCode
def wX1_isCode_b56  (P : Int32 → SC → Prop)  (u : SC) : Prop := (wX1_inRegister  u (fun r13 u12 => ((r13 = (0 : Int32) → (P (1 : Int32) u12)) ∧ (¬ r13 = (0 : Int32) → (P (0 : Int32) u12)))))
def wX1_isCode  (u : SC) (P : Int32 → SC → Prop) : Prop := (((c_number u) = (141 : Int32) → (wX1_isCode_b56  P u)) ∧ (¬ (c_number u) = (141 : Int32) → (((c_number u) = (196 : Int32) → (wX1_isCode_b56  P u)) ∧ (¬ (c_number u) = (196 : Int32) → (((c_number u) = (197 : Int32) → (wX1_isCode_b56  P u)) ∧ (¬ (c_number u) = (197 : Int32) → (((c_number u) = (254 : Int32) → (((2 : Int32) ≤ (c_r u) → (P (0 : Int32) u)) ∧ (¬ (2 : Int32) ≤ (c_r u) → (P (1 : Int32) u)))) ∧ (¬ (c_number u) = (254 : Int32) → (((c_number u) = (255 : Int32) → (wX1_inRegister  u (fun r8 u7 => ((r8 = (0 : Int32) → (P (1 : Int32) u7)) ∧ (¬ r8 = (0 : Int32) → (((c_r u7) = (3 : Int32) → (P (0 : Int32) u7)) ∧ (¬ (c_r u7) = (3 : Int32) → (((c_r u7) = (5 : Int32) → (P (0 : Int32) u7)) ∧ (¬ (c_r u7) = (5 : Int32) → (P (1 : Int32) u7)))))))))) ∧ (¬ (c_number u) = (255 : Int32) → (P (1 : Int32) u)))))))))))
set_option maxHeartbeats 4000000 in
set_option maxRecDepth 100000 in
theorem kcX1_isCode (l : Launch) (D : va_G) (cB cI : ClassId) (q8 : Nat) (sz : Nat)  (u : SC) (P : Int32 → SC → Prop) (hw : wX1_isCode  u P) : Met l yX1_isCode wsX1_isCode ({ frames := 1, cells := 0, slots := 0, locals := 20 } : Room) (va_Pc [.ref q8] (Pcw D (tyA cB cI) (WC q8 u) sz Tru)) (va_Qi P (fun u t => va_P D vwCl (WC q8 u) t.heap) (va_A (WC q8 u) sz)) 0 0 (va_A (WC q8 u) sz) := by
  refine en_ (cc := cX1_isCode) (maxL := 1) (ret := (some .boolean)) (own := RX1) (lv := [(0, .ref q8)]) (Qf := fun A => va_Qi P (fun u t => va_P D vwCl (WC q8 u) t.heap) A) (by decide) rfl rfl (Nat.le_of_ble_eq_true rfl) rfl ?_
  intro p e s m below meth c A ls S hr hlk hname hsz hP hK hD hA hSub hS hE hl
  have hx := S.1
  have hb := S.2.1
  have hown := S.2.2.2.1
  have hts := S.2.2.2.2
  have i_X1 : ∀ w ∈ u_ws RX1 TX1 12, w ∈ wsX1_isCode := by decide +kernel
  have f_9 := hts (.fieldLink RX1 9 "MachineCore$Code" "number" "I") (by decide +kernel)
  have f_81 := hts (.fieldLink RX1 81 "MachineCore$Code" "r" "I") (by decide +kernel)
  have b56 : ∀  (u : SC) (H : Heap) (locs : List Loc) (ls : Array Slot), va_P D vwCl (WC q8 u) H → va_D A (WC q8 u) → va_S A s.heap H locs → lv_has ls 1 [(0, .ref q8)] → wX1_isCode_b56  P u → W p l e ({ frames := 1, cells := 0, slots := 0, locals := 20 } : Room) s m ([.ref q8] : List Value).toArray below meth c H locs 0 0 (MQ below (va_Qi P (fun u t => va_P D vwCl (WC q8 u) t.heap) A) ([.ref q8] : List Value).toArray s 0 0 A) (F0 m 56 ls []) := by
    intro u H locs ls hP hD hS hl hw
    unfold wX1_isCode_b56 at hw
    refine lv_aload_n hx hb dX1_isCode_56 rfl (lv_at hl 0 rfl) ?_
    refine cl_Vi (As := []) (rest := []) (st := [.ref q8]) S hK hA hP hD hS (fr_C u) (kcX1_inRegister l D cB cI q8 H.size  u _ hw) (cwV 0 hts gX1_isCode_X1_inRegister rfl rfl rfl (by decide +kernel) ⟨Nat.le_of_ble_eq_true rfl, Nat.le_of_ble_eq_true rfl⟩) tru_h tru_b 0 rfl rfl rfl rfl rfl hl.1 (Nat.le_of_ble_eq_true rfl) dX1_isCode_57 ⟨Nat.zero_le _, Nat.zero_le _⟩ (fun r13 u12 H locs hP hD hS hw => ?_)
    replace hP : va_P D vwCl (WC q8 u12) H := hP
    replace hD : va_D A (WC q8 u12) := hD
    refine lv_if_ne (tgt := 67) hx hb dX1_isCode_60 (by decide) (fun c14 => ?_) (fun c14 => ?_)
    · replace hw := hw.2 c14
      refine lv_iconst (v := (0 : Int32)) hx hb dX1_isCode_67 (by decide) ?_
      exact rt_z (wo := (fun v => WC q8 v)) S hr hlk u12 hP hS zB_0 hw dX1_isCode_68
    · replace hw := hw.1 c14
      refine lv_iconst (v := (1 : Int32)) hx hb dX1_isCode_63 (by decide) ?_
      refine lv_goto (tgt := 68) hx hb dX1_isCode_64 (by decide) ?_
      exact rt_z (wo := (fun v => WC q8 v)) S hr hlk u12 hP hS zB_1 hw dX1_isCode_68
  unfold wX1_isCode at hw
  obtain ⟨H, eH⟩ : ∃ H, H = s.heap := ⟨_, rfl⟩
  obtain ⟨locs, eL⟩ : ∃ locs : List Loc, locs = [] := ⟨_, rfl⟩
  replace hP : va_P D vwCl (WC q8 u) H := by rw [eH]; exact hP
  replace hS : va_S A s.heap H locs := by rw [eH, eL]; exact hS
  suffices hgo : W p l e ({ frames := 1, cells := 0, slots := 0, locals := 20 } : Room) s m ([.ref q8] : List Value).toArray below meth c H locs 0 0 (MQ below (va_Qi P (fun u t => va_P D vwCl (WC q8 u) t.heap) A) ([.ref q8] : List Value).toArray s 0 0 A) (F0 m 0 ls []) by rw [eH, eL] at hgo; exact hgo
  clear eH eL
  refine lv_aload_n hx hb dX1_isCode_0 rfl (lv_at hl 0 rfl) ?_
  refine va_get (D := D) (ci := 1) (v := .int (c_number u)) (C := RX1) (T := TX1) (N := 12) hx hb hts i_X1 hown hK hP 0 rfl rfl 1 (by decide) f_9 (fun _ h9 => h9) rfl dX1_isCode_1 ?_
  by_cases c1 : (c_number u) = (141 : Int32)
  · replace hw := hw.1 c1
    refine lv_lookup (off := 52) (tgt := 56) hx hb dX1_isCode_4 (by decide) (by rw [c1]; decide) (by decide) ?_
    exact b56 u H locs ls hP hD hS (lv_sub hl [0] rfl) hw
  replace hw := hw.2 c1
  by_cases c2 : (c_number u) = (196 : Int32)
  · replace hw := hw.1 c2
    refine lv_lookup (off := 52) (tgt := 56) hx hb dX1_isCode_4 (by decide) (by rw [c2]; decide) (by decide) ?_
    exact b56 u H locs ls hP hD hS (lv_sub hl [0] rfl) hw
  replace hw := hw.2 c2
  by_cases c3 : (c_number u) = (197 : Int32)
  · replace hw := hw.1 c3
    refine lv_lookup (off := 52) (tgt := 56) hx hb dX1_isCode_4 (by decide) (by rw [c3]; decide) (by decide) ?_
    exact b56 u H locs ls hP hD hS (lv_sub hl [0] rfl) hw
  replace hw := hw.2 c3
  by_cases c4 : (c_number u) = (254 : Int32)
  · replace hw := hw.1 c4
    refine lv_lookup (off := 65) (tgt := 69) hx hb dX1_isCode_4 (by decide) (by rw [c4]; decide) (by decide) ?_
    refine lv_aload_n hx hb dX1_isCode_69 rfl (lv_at hl 0 rfl) ?_
    refine va_get (D := D) (ci := 1) (v := .int (c_r u)) (C := RX1) (T := TX1) (N := 12) hx hb hts i_X1 hown hK hP 0 rfl rfl 5 (by decide) f_81 (fun _ h9 => h9) rfl dX1_isCode_70 ?_
    refine lv_iconst (v := (2 : Int32)) hx hb dX1_isCode_73 (by decide) ?_
    refine lv_icmp_ge (tgt := 81) hx hb dX1_isCode_74 (by decide) (fun c5 => ?_) (fun c5 => ?_)
    · replace hw := hw.1 c5
      refine lv_iconst (v := (0 : Int32)) hx hb dX1_isCode_81 (by decide) ?_
      exact rt_z (wo := (fun v => WC q8 v)) S hr hlk u hP hS zB_0 hw dX1_isCode_82
    · replace hw := hw.2 c5
      refine lv_iconst (v := (1 : Int32)) hx hb dX1_isCode_77 (by decide) ?_
      refine lv_goto (tgt := 82) hx hb dX1_isCode_78 (by decide) ?_
      exact rt_z (wo := (fun v => WC q8 v)) S hr hlk u hP hS zB_1 hw dX1_isCode_82
  replace hw := hw.2 c4
  by_cases c6 : (c_number u) = (255 : Int32)
  · replace hw := hw.1 c6
    refine lv_lookup (off := 79) (tgt := 83) hx hb dX1_isCode_4 (by decide) (by rw [c6]; decide) (by decide) ?_
    refine lv_aload_n hx hb dX1_isCode_83 rfl (lv_at hl 0 rfl) ?_
    refine cl_Vi (As := []) (rest := []) (st := [.ref q8]) S hK hA hP hD hS (fr_C u) (kcX1_inRegister l D cB cI q8 H.size  u _ hw) (cwV 0 hts gX1_isCode_X1_inRegister rfl rfl rfl (by decide +kernel) ⟨Nat.le_of_ble_eq_true rfl, Nat.le_of_ble_eq_true rfl⟩) tru_h tru_b 0 rfl rfl rfl rfl rfl hl.1 (Nat.le_of_ble_eq_true rfl) dX1_isCode_84 ⟨Nat.zero_le _, Nat.zero_le _⟩ (fun r8 u7 H locs hP hD hS hw => ?_)
    replace hP : va_P D vwCl (WC q8 u7) H := hP
    replace hD : va_D A (WC q8 u7) := hD
    refine lv_if_eq (tgt := 106) hx hb dX1_isCode_87 (by decide) (fun c9 => ?_) (fun c9 => ?_)
    · replace hw := hw.1 c9
      refine lv_iconst (v := (1 : Int32)) hx hb dX1_isCode_106 (by decide) ?_
      refine lv_goto (tgt := 111) hx hb dX1_isCode_107 (by decide) ?_
      exact rt_z (wo := (fun v => WC q8 v)) S hr hlk u7 hP hS zB_1 hw dX1_isCode_111
    · replace hw := hw.2 c9
      refine lv_aload_n hx hb dX1_isCode_90 rfl (lv_at hl 0 rfl) ?_
      refine va_get (D := D) (ci := 1) (v := .int (c_r u7)) (C := RX1) (T := TX1) (N := 12) hx hb hts i_X1 hown hK hP 0 rfl rfl 5 (by decide) f_81 (fun _ h9 => h9) rfl dX1_isCode_91 ?_
      refine lv_iconst (v := (3 : Int32)) hx hb dX1_isCode_94 (by decide) ?_
      refine lv_icmp_eq (tgt := 110) hx hb dX1_isCode_95 (by decide) (fun c10 => ?_) (fun c10 => ?_)
      · replace hw := hw.1 c10
        refine lv_iconst (v := (0 : Int32)) hx hb dX1_isCode_110 (by decide) ?_
        exact rt_z (wo := (fun v => WC q8 v)) S hr hlk u7 hP hS zB_0 hw dX1_isCode_111
      · replace hw := hw.2 c10
        refine lv_aload_n hx hb dX1_isCode_98 rfl (lv_at hl 0 rfl) ?_
        refine va_get (D := D) (ci := 1) (v := .int (c_r u7)) (C := RX1) (T := TX1) (N := 12) hx hb hts i_X1 hown hK hP 0 rfl rfl 5 (by decide) f_81 (fun _ h9 => h9) rfl dX1_isCode_99 ?_
        refine lv_iconst (v := (5 : Int32)) hx hb dX1_isCode_102 (by decide) ?_
        refine lv_icmp_eq (tgt := 110) hx hb dX1_isCode_103 (by decide) (fun c11 => ?_) (fun c11 => ?_)
        · replace hw := hw.1 c11
          refine lv_iconst (v := (0 : Int32)) hx hb dX1_isCode_110 (by decide) ?_
          exact rt_z (wo := (fun v => WC q8 v)) S hr hlk u7 hP hS zB_0 hw dX1_isCode_111
        · replace hw := hw.2 c11
          refine lv_iconst (v := (1 : Int32)) hx hb dX1_isCode_106 (by decide) ?_
          refine lv_goto (tgt := 111) hx hb dX1_isCode_107 (by decide) ?_
          exact rt_z (wo := (fun v => WC q8 v)) S hr hlk u7 hP hS zB_1 hw dX1_isCode_111
  replace hw := hw.2 c6
  refine lv_lookup (off := 108) (tgt := 112) hx hb dX1_isCode_4 (by decide) ((lk_c (a := 141) (sw_ne c1)).trans ((lk_c (a := 196) (sw_ne c2)).trans ((lk_c (a := 197) (sw_ne c3)).trans ((lk_c (a := 254) (sw_ne c4)).trans ((lk_c (a := 255) (sw_ne c6)).trans rfl))))) (by decide) ?_
  refine lv_iconst (v := (1 : Int32)) hx hb dX1_isCode_112 (by decide) ?_
  exact rt_z (wo := (fun v => WC q8 v)) S hr hlk u hP hS zB_1 hw dX1_isCode_113
-- X1_find
def wX1_find_b68  (P : Int32 → SF → Prop) (s0 : Int32) (u : SF) : Prop := ((s0 = (0 : Int32) → (wX4_moveTo (c_begin (f_code u)) (f_regs u) (fun u13 => (zB s0 ∧ P s0 (fs_regs u u13))))) ∧ (¬ s0 = (0 : Int32) → (zB s0 ∧ P s0 u)))
def wX1_find_b67  (P : Int32 → SF → Prop)  (u : SF) : Prop := (wX1_find_b68  P (0 : Int32) u)
def wX1_find  (u : SF) (P : Int32 → SF → Prop) : Prop := (wX1_fetchNumber  (fs_code u (cs_fetched (cs_repeat (cs_givenSegment (cs_begin (f_code u) (r_ip (f_regs u))) (-1 : Int32)) (-1 : Int32)) (0 : Int32))) (fun u1 => (wX1_fetchRest  u1 (fun u3 => (((15 : Int32) < (c_fetched (f_code u3)) → (wX1_find_b67  P u3)) ∧ (¬ (15 : Int32) < (c_fetched (f_code u3)) → (wX1_formOf (c_number (f_code u3)) () (fun r7 u6 => ((r7 = (9 : Int32) → (wX1_find_b67  P u3)) ∧ (¬ r7 = (9 : Int32) → (wX1_isCode  (f_code u3) (fun r10 u9 => ((r10 = (0 : Int32) → (wX1_find_b67  P (fs_code u3 u9))) ∧ (¬ r10 = (0 : Int32) → (wX1_find_b68  P (1 : Int32) (fs_code u3 u9))))))))))))))))
set_option maxHeartbeats 4000000 in
set_option maxRecDepth 100000 in
theorem kcX1_find (l : Launch) (D : va_G) (cB cI : ClassId) (qF : Nat) (q1 q2 q3 q4 q5 q6 q8 : Nat) (sz : Nat)  (u : SF) (P : Int32 → SF → Prop) (hw : wX1_find  u P) : Met l yX1_find wsX1_find ({ frames := 6, cells := 0, slots := 0, locals := 140 } : Room) (va_Pc [.ref q8, .ref q1, .ref q4] (Pcw D (tyA cB cI) (WF cB cI q1 q2 q3 q4 q5 q6 q8 u) sz (Fz qF (WF cB cI q1 q2 q3 q4 q5 q6 q8 u) sz))) (va_Qi P (fun u t => va_P D vwCl (WF cB cI q1 q2 q3 q4 q5 q6 q8 u) t.heap) (va_A (WF cB cI q1 q2 q3 q4 q5 q6 q8 u) sz)) 0 0 (va_A (WF cB cI q1 q2 q3 q4 q5 q6 q8 u) sz) := by
  refine en_ (cc := cX1_find) (maxL := 4) (ret := (some .boolean)) (own := RX1) (lv := [(0, .ref q8), (1, .ref q1), (2, .ref q4)]) (Qf := fun A => va_Qi P (fun u t => va_P D vwCl (WF cB cI q1 q2 q3 q4 q5 q6 q8 u) t.heap) A) (by decide) rfl rfl (Nat.le_of_ble_eq_true rfl) rfl ?_
  intro p e s m below meth c A ls S hr hlk hname hsz hP hK hD hA hSub hS hE hl
  have hx := S.1
  have hb := S.2.1
  have hown := S.2.2.2.1
  have hts := S.2.2.2.2
  have i_X1 : ∀ w ∈ u_ws RX1 TX1 12, w ∈ wsX1_find := by decide +kernel
  have i_X4 : ∀ w ∈ u_ws RX4 TX4 3, w ∈ wsX1_find := by decide +kernel
  have f_9 := hts (.fieldLink RX1 9 "MachineCore$Code" "number" "I") (by decide +kernel)
  have f_18 := hts (.fieldLink RX1 18 "MachineCore$Code" "givenSegment" "I") (by decide +kernel)
  have f_21 := hts (.fieldLink RX1 21 "MachineCore$Registers" "ip" "I") (by decide +kernel)
  have f_26 := hts (.fieldLink RX1 26 "MachineCore$Code" "begin" "I") (by decide +kernel)
  have f_29 := hts (.fieldLink RX1 29 "MachineCore$Code" "fetched" "I") (by decide +kernel)
  have f_32 := hts (.fieldLink RX1 32 "MachineCore$Code" "repeat" "I") (by decide +kernel)
  have hE := fz_own hsz hSub hE
  have b68 : ∀ (s0 : Int32) (u : SF) (H : Heap) (locs : List Loc) (ls : Array Slot), va_P D vwCl (WF cB cI q1 q2 q3 q4 q5 q6 q8 u) H → va_D A (WF cB cI q1 q2 q3 q4 q5 q6 q8 u) → va_S A s.heap H locs → lv_has ls 4 [(0, .ref q8), (2, .ref q4)] → wX1_find_b68  P s0 u → W p l e ({ frames := 6, cells := 0, slots := 0, locals := 140 } : Room) s m ([.ref q8, .ref q1, .ref q4] : List Value).toArray below meth c H locs 0 0 (MQ below (va_Qi P (fun u t => va_P D vwCl (WF cB cI q1 q2 q3 q4 q5 q6 q8 u) t.heap) A) ([.ref q8, .ref q1, .ref q4] : List Value).toArray s 0 0 A) (F0 m 68 ls [.int s0]) := by
    intro s0 u H locs ls hP hD hS hl hw
    unfold wX1_find_b68 at hw
    refine lv_istore_n (lv' := [(3, .int s0), (0, .ref q8), (2, .ref q4)]) hx hb dX1_find_68 rfl hl (by decide) rfl (fun ls hl => ?_)
    refine lv_iload_n hx hb dX1_find_69 rfl (lv_at hl 0 rfl) ?_
    refine lv_if_ne (tgt := 81) hx hb dX1_find_70 (by decide) (fun c12 => ?_) (fun c12 => ?_)
    · replace hw := hw.2 c12
      refine lv_iload_n hx hb dX1_find_81 rfl (lv_at hl 0 rfl) ?_
      exact rt_z (wo := (fun v => WF cB cI q1 q2 q3 q4 q5 q6 q8 v)) S hr hlk u hP hS hw.1 hw.2 dX1_find_82
    · replace hw := hw.1 c12
      refine lv_aload_n hx hb dX1_find_73 rfl (lv_at hl 2 rfl) ?_
      refine lv_aload_n hx hb dX1_find_74 rfl (lv_at hl 1 rfl) ?_
      refine va_get (D := D) (ci := 1) (v := .int (c_begin (f_code u))) (C := RX1) (T := TX1) (N := 12) hx hb hts i_X1 hown hK hP 0 rfl rfl 0 (by decide) f_26 (fun _ h9 => h9) rfl dX1_find_75 ?_
      refine cl_Vv (As := [.int (c_begin (f_code u))]) (rest := []) (st := [.int (c_begin (f_code u)), .ref q4]) S hK hA hP hD hS (fr_F_R u) (kcX4_moveTo l D cB cI q4 q5 q6 H.size (c_begin (f_code u)) (f_regs u) _ hw) (cwV 1 hts gX1_find_X4_moveTo rfl rfl rfl (by decide +kernel) ⟨Nat.le_of_ble_eq_true rfl, Nat.le_of_ble_eq_true rfl⟩) tru_h tru_b 4 rfl rfl rfl rfl rfl hl.1 (Nat.le_of_ble_eq_true rfl) dX1_find_78 ⟨Nat.zero_le _, Nat.zero_le _⟩ (fun u13 H locs hP hD hS hw => ?_)
      replace hP : va_P D vwCl (WF cB cI q1 q2 q3 q4 q5 q6 q8 (fs_regs u u13)) H := hP
      replace hD : va_D A (WF cB cI q1 q2 q3 q4 q5 q6 q8 (fs_regs u u13)) := hD
      refine lv_iload_n hx hb dX1_find_81 rfl (lv_at hl 0 rfl) ?_
      exact rt_z (wo := (fun v => WF cB cI q1 q2 q3 q4 q5 q6 q8 v)) S hr hlk (fs_regs u u13) hP hS hw.1 hw.2 dX1_find_82
  have b67 : ∀  (u : SF) (H : Heap) (locs : List Loc) (ls : Array Slot), va_P D vwCl (WF cB cI q1 q2 q3 q4 q5 q6 q8 u) H → va_D A (WF cB cI q1 q2 q3 q4 q5 q6 q8 u) → va_S A s.heap H locs → lv_has ls 4 [(0, .ref q8), (2, .ref q4)] → wX1_find_b67  P u → W p l e ({ frames := 6, cells := 0, slots := 0, locals := 140 } : Room) s m ([.ref q8, .ref q1, .ref q4] : List Value).toArray below meth c H locs 0 0 (MQ below (va_Qi P (fun u t => va_P D vwCl (WF cB cI q1 q2 q3 q4 q5 q6 q8 u) t.heap) A) ([.ref q8, .ref q1, .ref q4] : List Value).toArray s 0 0 A) (F0 m 67 ls []) := by
    intro u H locs ls hP hD hS hl hw
    unfold wX1_find_b67 at hw
    refine lv_iconst (v := (0 : Int32)) hx hb dX1_find_67 (by decide) ?_
    exact b68 (0 : Int32) u H locs ls hP hD hS (lv_sub hl [0, 1] rfl) hw
  unfold wX1_find at hw
  obtain ⟨H, eH⟩ : ∃ H, H = s.heap := ⟨_, rfl⟩
  obtain ⟨locs, eL⟩ : ∃ locs : List Loc, locs = [] := ⟨_, rfl⟩
  replace hP : va_P D vwCl (WF cB cI q1 q2 q3 q4 q5 q6 q8 u) H := by rw [eH]; exact hP
  replace hS : va_S A s.heap H locs := by rw [eH, eL]; exact hS
  suffices hgo : W p l e ({ frames := 6, cells := 0, slots := 0, locals := 140 } : Room) s m ([.ref q8, .ref q1, .ref q4] : List Value).toArray below meth c H locs 0 0 (MQ below (va_Qi P (fun u t => va_P D vwCl (WF cB cI q1 q2 q3 q4 q5 q6 q8 u) t.heap) A) ([.ref q8, .ref q1, .ref q4] : List Value).toArray s 0 0 A) (F0 m 0 ls []) by rw [eH, eL] at hgo; exact hgo
  clear eH eL
  refine lv_aload_n hx hb dX1_find_0 rfl (lv_at hl 0 rfl) ?_
  refine lv_aload_n hx hb dX1_find_1 rfl (lv_at hl 2 rfl) ?_
  refine va_get (D := D) (ci := 4) (v := .int (r_ip (f_regs u))) (C := RX4) (T := TX4) (N := 3) hx hb hts i_X4 hown hK hP 4 rfl rfl 2 (by decide) f_21 (fun _ h9 => h9) rfl dX1_find_2 ?_
  refine va_put (D := D) (ci := 1) (v := .int (r_ip (f_regs u))) (ty := .int) (C := RX1) (T := TX1) (N := 12) hx hb hts i_X1 tyX1 tyX1_ok nmX1 hown hK hP hD hS 0 rfl rfl 0 (by decide) f_26 (fun _ h9 => h9) rfl (by decide +kernel) rfl rfl (Nat.le_of_ble_eq_true rfl) dX1_find_5 (fun H locs hP hD hS => ?_)
  replace hP : va_P D vwCl (WF cB cI q1 q2 q3 q4 q5 q6 q8 (fs_code u (cs_begin (f_code u) (r_ip (f_regs u))))) H := hP
  replace hD : va_D A (WF cB cI q1 q2 q3 q4 q5 q6 q8 (fs_code u (cs_begin (f_code u) (r_ip (f_regs u))))) := hD
  refine lv_aload_n hx hb dX1_find_8 rfl (lv_at hl 0 rfl) ?_
  refine lv_iconst (v := (0 : Int32)) hx hb dX1_find_9 (by decide) ?_
  refine va_put (D := D) (ci := 1) (v := .int (0 : Int32)) (ty := .int) (C := RX1) (T := TX1) (N := 12) hx hb hts i_X1 tyX1 tyX1_ok nmX1 hown hK hP hD hS 0 rfl rfl 11 (by decide) f_29 (fun _ h9 => h9) rfl (by decide +kernel) rfl rfl (Nat.le_of_ble_eq_true rfl) dX1_find_10 (fun H locs hP hD hS => ?_)
  replace hP : va_P D vwCl (WF cB cI q1 q2 q3 q4 q5 q6 q8 (fs_code u (cs_fetched (cs_begin (f_code u) (r_ip (f_regs u))) (0 : Int32)))) H := hP
  replace hD : va_D A (WF cB cI q1 q2 q3 q4 q5 q6 q8 (fs_code u (cs_fetched (cs_begin (f_code u) (r_ip (f_regs u))) (0 : Int32)))) := hD
  refine lv_aload_n hx hb dX1_find_13 rfl (lv_at hl 0 rfl) ?_
  refine lv_iconst (v := (-1 : Int32)) hx hb dX1_find_14 (by decide) ?_
  refine va_put (D := D) (ci := 1) (v := .int (-1 : Int32)) (ty := .int) (C := RX1) (T := TX1) (N := 12) hx hb hts i_X1 tyX1 tyX1_ok nmX1 hown hK hP hD hS 0 rfl rfl 2 (by decide) f_18 (fun _ h9 => h9) rfl (by decide +kernel) rfl rfl (Nat.le_of_ble_eq_true rfl) dX1_find_15 (fun H locs hP hD hS => ?_)
  replace hP : va_P D vwCl (WF cB cI q1 q2 q3 q4 q5 q6 q8 (fs_code u (cs_fetched (cs_givenSegment (cs_begin (f_code u) (r_ip (f_regs u))) (-1 : Int32)) (0 : Int32)))) H := hP
  replace hD : va_D A (WF cB cI q1 q2 q3 q4 q5 q6 q8 (fs_code u (cs_fetched (cs_givenSegment (cs_begin (f_code u) (r_ip (f_regs u))) (-1 : Int32)) (0 : Int32)))) := hD
  refine lv_aload_n hx hb dX1_find_18 rfl (lv_at hl 0 rfl) ?_
  refine lv_iconst (v := (-1 : Int32)) hx hb dX1_find_19 (by decide) ?_
  refine va_put (D := D) (ci := 1) (v := .int (-1 : Int32)) (ty := .int) (C := RX1) (T := TX1) (N := 12) hx hb hts i_X1 tyX1 tyX1_ok nmX1 hown hK hP hD hS 0 rfl rfl 3 (by decide) f_32 (fun _ h9 => h9) rfl (by decide +kernel) rfl rfl (Nat.le_of_ble_eq_true rfl) dX1_find_20 (fun H locs hP hD hS => ?_)
  replace hP : va_P D vwCl (WF cB cI q1 q2 q3 q4 q5 q6 q8 (fs_code u (cs_fetched (cs_repeat (cs_givenSegment (cs_begin (f_code u) (r_ip (f_regs u))) (-1 : Int32)) (-1 : Int32)) (0 : Int32)))) H := hP
  replace hD : va_D A (WF cB cI q1 q2 q3 q4 q5 q6 q8 (fs_code u (cs_fetched (cs_repeat (cs_givenSegment (cs_begin (f_code u) (r_ip (f_regs u))) (-1 : Int32)) (-1 : Int32)) (0 : Int32)))) := hD
  refine lv_aload_n hx hb dX1_find_23 rfl (lv_at hl 0 rfl) ?_
  refine lv_aload_n hx hb dX1_find_24 rfl (lv_at hl 1 rfl) ?_
  refine lv_aload_n hx hb dX1_find_25 rfl (lv_at hl 2 rfl) ?_
  refine cl_Vv (As := [.ref q1, .ref q4]) (rest := []) (st := [.ref q4, .ref q1, .ref q8]) S hK hA hP hD hS (fr_F (fs_code u (cs_fetched (cs_repeat (cs_givenSegment (cs_begin (f_code u) (r_ip (f_regs u))) (-1 : Int32)) (-1 : Int32)) (0 : Int32)))) (kcX1_fetchNumber l D cB cI qF q1 q2 q3 q4 q5 q6 q8 H.size  (fs_code u (cs_fetched (cs_repeat (cs_givenSegment (cs_begin (f_code u) (r_ip (f_regs u))) (-1 : Int32)) (-1 : Int32)) (0 : Int32))) _ hw) (cwV 2 hts gX1_find_X1_fetchNumber rfl rfl rfl (by decide +kernel) ⟨Nat.le_of_ble_eq_true rfl, Nat.le_of_ble_eq_true rfl⟩) (fz_call hE hA hD hS (fr_F (fs_code u (cs_fetched (cs_repeat (cs_givenSegment (cs_begin (f_code u) (r_ip (f_regs u))) (-1 : Int32)) (-1 : Int32)) (0 : Int32))))) fz_b 0 rfl rfl rfl rfl rfl hl.1 (Nat.le_of_ble_eq_true rfl) dX1_find_26 ⟨Nat.zero_le _, Nat.zero_le _⟩ (fun u1 H locs hP hD hS hw => ?_)
  replace hP : va_P D vwCl (WF cB cI q1 q2 q3 q4 q5 q6 q8 u1) H := hP
  replace hD : va_D A (WF cB cI q1 q2 q3 q4 q5 q6 q8 u1) := hD
  refine lv_aload_n hx hb dX1_find_29 rfl (lv_at hl 0 rfl) ?_
  refine lv_aload_n hx hb dX1_find_30 rfl (lv_at hl 1 rfl) ?_
  refine lv_aload_n hx hb dX1_find_31 rfl (lv_at hl 2 rfl) ?_
  refine cl_Vv (As := [.ref q1, .ref q4]) (rest := []) (st := [.ref q4, .ref q1, .ref q8]) S hK hA hP hD hS (fr_F u1) (kcX1_fetchRest l D cB cI qF q1 q2 q3 q4 q5 q6 q8 H.size  u1 _ hw) (cwV 2 hts gX1_find_X1_fetchRest rfl rfl rfl (by decide +kernel) ⟨Nat.le_of_ble_eq_true rfl, Nat.le_of_ble_eq_true rfl⟩) (fz_call hE hA hD hS (fr_F u1)) fz_b 0 rfl rfl rfl rfl rfl hl.1 (Nat.le_of_ble_eq_true rfl) dX1_find_32 ⟨Nat.zero_le _, Nat.zero_le _⟩ (fun u3 H locs hP hD hS hw => ?_)
  replace hP : va_P D vwCl (WF cB cI q1 q2 q3 q4 q5 q6 q8 u3) H := hP
  replace hD : va_D A (WF cB cI q1 q2 q3 q4 q5 q6 q8 u3) := hD
  refine lv_aload_n hx hb dX1_find_35 rfl (lv_at hl 0 rfl) ?_
  refine va_get (D := D) (ci := 1) (v := .int (c_fetched (f_code u3))) (C := RX1) (T := TX1) (N := 12) hx hb hts i_X1 hown hK hP 0 rfl rfl 11 (by decide) f_29 (fun _ h9 => h9) rfl dX1_find_36 ?_
  refine lv_bipush (v := (15 : Int32)) hx hb dX1_find_39 (by decide) ?_
  refine lv_icmp_gt (tgt := 67) hx hb dX1_find_41 (by decide) (fun c5 => ?_) (fun c5 => ?_)
  · replace hw := hw.1 c5
    exact b67 u3 H locs ls hP hD hS (lv_sub hl [0, 2] rfl) hw
  · replace hw := hw.2 c5
    refine lv_aload_n hx hb dX1_find_44 rfl (lv_at hl 0 rfl) ?_
    refine va_get (D := D) (ci := 1) (v := .int (c_number (f_code u3))) (C := RX1) (T := TX1) (N := 12) hx hb hts i_X1 hown hK hP 0 rfl rfl 1 (by decide) f_9 (fun _ h9 => h9) rfl dX1_find_45 ?_
    refine cl_Si (As := [.int (c_number (f_code u3))]) (rest := []) (st := [.int (c_number (f_code u3))]) S hK hA hP hD hS Fr_nil (kcX1_formOf l D cB cI qF  H.size (c_number (f_code u3)) () _ hw) (va_cwS 1 hts gX1_find_X1_formOf rfl rfl rfl (by decide +kernel) ⟨Nat.le_of_ble_eq_true rfl, Nat.le_of_ble_eq_true rfl⟩) (fz_call hE hA hD hS Fr_nil) fz_b rfl rfl hl.1 (Nat.le_of_ble_eq_true rfl) dX1_find_48 ⟨Nat.zero_le _, Nat.zero_le _⟩ (fun r7 u6 H locs hP hD hS hw => ?_)
    replace hP : va_P D vwCl (WF cB cI q1 q2 q3 q4 q5 q6 q8 u3) H := hP
    replace hD : va_D A (WF cB cI q1 q2 q3 q4 q5 q6 q8 u3) := hD
    refine lv_bipush (v := (9 : Int32)) hx hb dX1_find_51 (by decide) ?_
    refine lv_icmp_eq (tgt := 67) hx hb dX1_find_53 (by decide) (fun c8 => ?_) (fun c8 => ?_)
    · replace hw := hw.1 c8
      exact b67 u3 H locs ls hP hD hS (lv_sub hl [0, 2] rfl) hw
    · replace hw := hw.2 c8
      refine lv_aload_n hx hb dX1_find_56 rfl (lv_at hl 0 rfl) ?_
      refine cl_Vi (As := []) (rest := []) (st := [.ref q8]) S hK hA hP hD hS (fr_F_C u3) (kcX1_isCode l D cB cI q8 H.size  (f_code u3) _ hw) (cwV 0 hts gX1_find_X1_isCode rfl rfl rfl (by decide +kernel) ⟨Nat.le_of_ble_eq_true rfl, Nat.le_of_ble_eq_true rfl⟩) tru_h tru_b 0 rfl rfl rfl rfl rfl hl.1 (Nat.le_of_ble_eq_true rfl) dX1_find_57 ⟨Nat.zero_le _, Nat.zero_le _⟩ (fun r10 u9 H locs hP hD hS hw => ?_)
      replace hP : va_P D vwCl (WF cB cI q1 q2 q3 q4 q5 q6 q8 (fs_code u3 u9)) H := hP
      replace hD : va_D A (WF cB cI q1 q2 q3 q4 q5 q6 q8 (fs_code u3 u9)) := hD
      refine lv_if_eq (tgt := 67) hx hb dX1_find_60 (by decide) (fun c11 => ?_) (fun c11 => ?_)
      · replace hw := hw.1 c11
        exact b67 (fs_code u3 u9) H locs ls hP hD hS (lv_sub hl [0, 2] rfl) hw
      · replace hw := hw.2 c11
        refine lv_iconst (v := (1 : Int32)) hx hb dX1_find_63 (by decide) ?_
        refine lv_goto (tgt := 68) hx hb dX1_find_64 (by decide) ?_
        exact b68 (1 : Int32) (fs_code u3 u9) H locs ls hP hD hS (lv_sub hl [0, 2] rfl) hw
