-- X0_has
def wX0_has (a1 : Int32) (u : Int32) (P : Int32 → Int32 → Prop) : Prop := (((u &&& a1) = (0 : Int32) → (P (0 : Int32) u)) ∧ (¬ (u &&& a1) = (0 : Int32) → (P (1 : Int32) u)))
set_option maxHeartbeats 4000000 in
set_option maxRecDepth 100000 in
theorem kcX0_has (l : Launch) (D : va_G) (cB cI : ClassId) (q7 : Nat) (sz : Nat) (a1 : Int32) (u : Int32) (P : Int32 → Int32 → Prop) (hw : wX0_has a1 u P) : Met l yX0_has wsX0_has ({ frames := 0, cells := 0, slots := 0, locals := 0 } : Room) (va_Pc [.ref q7, .int a1] (Pcw D (tyA cB cI) (WA q7 u) sz Tru)) (va_Qi P (fun u t => va_P D vwCl (WA q7 u) t.heap) (va_A (WA q7 u) sz)) 0 0 (va_A (WA q7 u) sz) := by
  refine en_ (cc := cX0_has) (maxL := 2) (ret := (some .boolean)) (own := RX0) (lv := [(0, .ref q7), (1, .int a1)]) (Qf := fun A => va_Qi P (fun u t => va_P D vwCl (WA q7 u) t.heap) A) (by decide) rfl rfl (Nat.le_of_ble_eq_true rfl) rfl ?_
  intro p e s m below meth c A ls S hr hlk hname hsz hP hK hD hA hSub hS hE hl
  have hx := S.1
  have hb := S.2.1
  have hown := S.2.2.2.1
  have hts := S.2.2.2.2
  have i_X0 : ∀ w ∈ u_ws RX0 TX0 1, w ∈ wsX0_has := by decide +kernel
  have f_9 := hts (.fieldLink RX0 9 "MachineCore$Arithmetic" "flags" "I") (by decide +kernel)
  unfold wX0_has at hw
  obtain ⟨H, eH⟩ : ∃ H, H = s.heap := ⟨_, rfl⟩
  obtain ⟨locs, eL⟩ : ∃ locs : List Loc, locs = [] := ⟨_, rfl⟩
  replace hP : va_P D vwCl (WA q7 u) H := by rw [eH]; exact hP
  replace hS : va_S A s.heap H locs := by rw [eH, eL]; exact hS
  suffices hgo : W p l e ({ frames := 0, cells := 0, slots := 0, locals := 0 } : Room) s m ([.ref q7, .int a1] : List Value).toArray below meth c H locs 0 0 (MQ below (va_Qi P (fun u t => va_P D vwCl (WA q7 u) t.heap) A) ([.ref q7, .int a1] : List Value).toArray s 0 0 A) (F0 m 0 ls []) by rw [eH, eL] at hgo; exact hgo
  clear eH eL
  refine lv_aload_n hx hb dX0_has_0 rfl (lv_at hl 0 rfl) ?_
  refine va_get (D := D) (ci := 0) (v := .int u) (C := RX0) (T := TX0) (N := 1) hx hb hts i_X0 hown hK hP 0 rfl rfl 0 (by decide) f_9 (fun _ h9 => h9) rfl dX0_has_1 ?_
  refine lv_iload_n hx hb dX0_has_4 rfl (lv_at hl 1 rfl) ?_
  refine lv_iand hx hb dX0_has_5 ?_
  refine lv_if_eq (tgt := 13) hx hb dX0_has_6 (by decide) (fun c1 => ?_) (fun c1 => ?_)
  · replace hw := hw.1 c1
    refine lv_iconst (v := (0 : Int32)) hx hb dX0_has_13 (by decide) ?_
    exact rt_z (wo := (fun v => WA q7 v)) S hr hlk u hP hS zB_0 hw dX0_has_14
  · replace hw := hw.2 c1
    refine lv_iconst (v := (1 : Int32)) hx hb dX0_has_9 (by decide) ?_
    refine lv_goto (tgt := 14) hx hb dX0_has_10 (by decide) ?_
    exact rt_z (wo := (fun v => WA q7 v)) S hr hlk u hP hS zB_1 hw dX0_has_14
-- X0_mark
def wX0_mark_b22 (a1 : Int32) (a2 : Int32) (P : Int32 → Prop) (s1 : Int32) (u : Int32) : Prop := (P s1)
def wX0_mark (a1 : Int32) (a2 : Int32) (u : Int32) (P : Int32 → Prop) : Prop := ((a2 = (0 : Int32) → (wX0_mark_b22 a1 a2 P (u &&& (a1 ^^^ (-1 : Int32))) u)) ∧ (¬ a2 = (0 : Int32) → (wX0_mark_b22 a1 a2 P (u ||| a1) u)))
set_option maxHeartbeats 4000000 in
set_option maxRecDepth 100000 in
theorem kcX0_mark (l : Launch) (D : va_G) (cB cI : ClassId) (q7 : Nat) (sz : Nat) (a1 : Int32) (a2 : Int32) (u : Int32) (P : Int32 → Prop) (hw : wX0_mark a1 a2 u P) : Met l yX0_mark wsX0_mark ({ frames := 0, cells := 0, slots := 0, locals := 0 } : Room) (va_Pc [.ref q7, .int a1, .int a2] (Pcw D (tyA cB cI) (WA q7 u) sz Tru)) (va_Qv P (fun u t => va_P D vwCl (WA q7 u) t.heap) (va_A (WA q7 u) sz)) 0 0 (va_A (WA q7 u) sz) := by
  refine en_ (cc := cX0_mark) (maxL := 3) (ret := none) (own := RX0) (lv := [(0, .ref q7), (1, .int a1), (2, .int a2)]) (Qf := fun A => va_Qv P (fun u t => va_P D vwCl (WA q7 u) t.heap) A) (by decide) rfl rfl (Nat.le_of_ble_eq_true rfl) rfl ?_
  intro p e s m below meth c A ls S hr hlk hname hsz hP hK hD hA hSub hS hE hl
  have hx := S.1
  have hb := S.2.1
  have hown := S.2.2.2.1
  have hts := S.2.2.2.2
  have i_X0 : ∀ w ∈ u_ws RX0 TX0 1, w ∈ wsX0_mark := by decide +kernel
  have f_9 := hts (.fieldLink RX0 9 "MachineCore$Arithmetic" "flags" "I") (by decide +kernel)
  have b22 : ∀ (s1 : Int32) (u : Int32) (H : Heap) (locs : List Loc) (ls : Array Slot), va_P D vwCl (WA q7 u) H → va_D A (WA q7 u) → va_S A s.heap H locs → lv_has ls 3 [] → wX0_mark_b22 a1 a2 P s1 u → W p l e ({ frames := 0, cells := 0, slots := 0, locals := 0 } : Room) s m ([.ref q7, .int a1, .int a2] : List Value).toArray below meth c H locs 0 0 (MQ below (va_Qv P (fun u t => va_P D vwCl (WA q7 u) t.heap) A) ([.ref q7, .int a1, .int a2] : List Value).toArray s 0 0 A) (F0 m 22 ls [.int s1, .ref q7]) := by
    intro s1 u H locs ls hP hD hS hl hw
    unfold wX0_mark_b22 at hw
    refine va_put (D := D) (ci := 0) (v := .int s1) (ty := .int) (C := RX0) (T := TX0) (N := 1) hx hb hts i_X0 tyX0 tyX0_ok nmX0 hown hK hP hD hS 0 rfl rfl 0 (by decide) f_9 (fun _ h9 => h9) rfl (by decide +kernel) rfl rfl (Nat.le_of_ble_eq_true rfl) dX0_mark_22 (fun H locs hP hD hS => ?_)
    replace hP : va_P D vwCl (WA q7 s1) H := hP
    replace hD : va_D A (WA q7 s1) := hD
    exact rt_v (wo := (fun v => WA q7 v)) S hr hlk s1 hP hS hw dX0_mark_25
  unfold wX0_mark at hw
  obtain ⟨H, eH⟩ : ∃ H, H = s.heap := ⟨_, rfl⟩
  obtain ⟨locs, eL⟩ : ∃ locs : List Loc, locs = [] := ⟨_, rfl⟩
  replace hP : va_P D vwCl (WA q7 u) H := by rw [eH]; exact hP
  replace hS : va_S A s.heap H locs := by rw [eH, eL]; exact hS
  suffices hgo : W p l e ({ frames := 0, cells := 0, slots := 0, locals := 0 } : Room) s m ([.ref q7, .int a1, .int a2] : List Value).toArray below meth c H locs 0 0 (MQ below (va_Qv P (fun u t => va_P D vwCl (WA q7 u) t.heap) A) ([.ref q7, .int a1, .int a2] : List Value).toArray s 0 0 A) (F0 m 0 ls []) by rw [eH, eL] at hgo; exact hgo
  clear eH eL
  refine lv_aload_n hx hb dX0_mark_0 rfl (lv_at hl 0 rfl) ?_
  refine lv_iload_n hx hb dX0_mark_1 rfl (lv_at hl 2 rfl) ?_
  refine lv_if_eq (tgt := 14) hx hb dX0_mark_2 (by decide) (fun c1 => ?_) (fun c1 => ?_)
  · replace hw := hw.1 c1
    refine lv_aload_n hx hb dX0_mark_14 rfl (lv_at hl 0 rfl) ?_
    refine va_get (D := D) (ci := 0) (v := .int u) (C := RX0) (T := TX0) (N := 1) hx hb hts i_X0 hown hK hP 0 rfl rfl 0 (by decide) f_9 (fun _ h9 => h9) rfl dX0_mark_15 ?_
    refine lv_iload_n hx hb dX0_mark_18 rfl (lv_at hl 1 rfl) ?_
    refine lv_iconst (v := (-1 : Int32)) hx hb dX0_mark_19 (by decide) ?_
    refine lv_ixor hx hb dX0_mark_20 ?_
    refine lv_iand hx hb dX0_mark_21 ?_
    exact b22 (u &&& (a1 ^^^ (-1 : Int32))) u H locs ls hP hD hS (lv_sub hl [] rfl) hw
  · replace hw := hw.2 c1
    refine lv_aload_n hx hb dX0_mark_5 rfl (lv_at hl 0 rfl) ?_
    refine va_get (D := D) (ci := 0) (v := .int u) (C := RX0) (T := TX0) (N := 1) hx hb hts i_X0 hown hK hP 0 rfl rfl 0 (by decide) f_9 (fun _ h9 => h9) rfl dX0_mark_6 ?_
    refine lv_iload_n hx hb dX0_mark_9 rfl (lv_at hl 1 rfl) ?_
    refine lv_ior hx hb dX0_mark_10 ?_
    refine lv_goto (tgt := 22) hx hb dX0_mark_11 (by decide) ?_
    exact b22 (u ||| a1) u H locs ls hP hD hS (lv_sub hl [] rfl) hw
-- X0_keep
def wX0_keep (a1 : Int32) (u : Int32) (P : Int32 → Prop) : Prop := (P (a1 &&& (4053 : Int32)))
set_option maxHeartbeats 4000000 in
set_option maxRecDepth 100000 in
theorem kcX0_keep (l : Launch) (D : va_G) (cB cI : ClassId) (q7 : Nat) (sz : Nat) (a1 : Int32) (u : Int32) (P : Int32 → Prop) (hw : wX0_keep a1 u P) : Met l yX0_keep wsX0_keep ({ frames := 0, cells := 0, slots := 0, locals := 0 } : Room) (va_Pc [.ref q7, .int a1] (Pcw D (tyA cB cI) (WA q7 u) sz Tru)) (va_Qv P (fun u t => va_P D vwCl (WA q7 u) t.heap) (va_A (WA q7 u) sz)) 0 0 (va_A (WA q7 u) sz) := by
  refine en_ (cc := cX0_keep) (maxL := 2) (ret := none) (own := RX0) (lv := [(0, .ref q7), (1, .int a1)]) (Qf := fun A => va_Qv P (fun u t => va_P D vwCl (WA q7 u) t.heap) A) (by decide) rfl rfl (Nat.le_of_ble_eq_true rfl) rfl ?_
  intro p e s m below meth c A ls S hr hlk hname hsz hP hK hD hA hSub hS hE hl
  have hx := S.1
  have hb := S.2.1
  have hown := S.2.2.2.1
  have hts := S.2.2.2.2
  have i_X0 : ∀ w ∈ u_ws RX0 TX0 1, w ∈ wsX0_keep := by decide +kernel
  have f_9 := hts (.fieldLink RX0 9 "MachineCore$Arithmetic" "flags" "I") (by decide +kernel)
  unfold wX0_keep at hw
  obtain ⟨H, eH⟩ : ∃ H, H = s.heap := ⟨_, rfl⟩
  obtain ⟨locs, eL⟩ : ∃ locs : List Loc, locs = [] := ⟨_, rfl⟩
  replace hP : va_P D vwCl (WA q7 u) H := by rw [eH]; exact hP
  replace hS : va_S A s.heap H locs := by rw [eH, eL]; exact hS
  suffices hgo : W p l e ({ frames := 0, cells := 0, slots := 0, locals := 0 } : Room) s m ([.ref q7, .int a1] : List Value).toArray below meth c H locs 0 0 (MQ below (va_Qv P (fun u t => va_P D vwCl (WA q7 u) t.heap) A) ([.ref q7, .int a1] : List Value).toArray s 0 0 A) (F0 m 0 ls []) by rw [eH, eL] at hgo; exact hgo
  clear eH eL
  refine lv_aload_n hx hb dX0_keep_0 rfl (lv_at hl 0 rfl) ?_
  refine lv_iload_n hx hb dX0_keep_1 rfl (lv_at hl 1 rfl) ?_
  refine lv_sipush (v := (4053 : Int32)) hx hb dX0_keep_2 (by decide) ?_
  refine lv_iand hx hb dX0_keep_5 ?_
  refine va_put (D := D) (ci := 0) (v := .int (a1 &&& (4053 : Int32))) (ty := .int) (C := RX0) (T := TX0) (N := 1) hx hb hts i_X0 tyX0 tyX0_ok nmX0 hown hK hP hD hS 0 rfl rfl 0 (by decide) f_9 (fun _ h9 => h9) rfl (by decide +kernel) rfl rfl (Nat.le_of_ble_eq_true rfl) dX0_keep_6 (fun H locs hP hD hS => ?_)
  replace hP : va_P D vwCl (WA q7 (a1 &&& (4053 : Int32))) H := hP
  replace hD : va_D A (WA q7 (a1 &&& (4053 : Int32))) := hD
  exact rt_v (wo := (fun v => WA q7 v)) S hr hlk (a1 &&& (4053 : Int32)) hP hS hw dX0_keep_9
-- X0_mask
def wX0_mask (a0 : Int32) (u : Unit) (P : Int32 → Unit → Prop) : Prop := ((a0 = (0 : Int32) → (P (255 : Int32) u)) ∧ (¬ a0 = (0 : Int32) → (P (65535 : Int32) u)))
set_option maxHeartbeats 4000000 in
set_option maxRecDepth 100000 in
theorem kcX0_mask (l : Launch) (D : va_G) (cB cI : ClassId) (sz : Nat) (a0 : Int32) (u : Unit) (P : Int32 → Unit → Prop) (hw : wX0_mask a0 u P) : Met l yX0_mask wsX0_mask ({ frames := 0, cells := 0, slots := 0, locals := 0 } : Room) (va_Pc [.int a0] (Pcw D (tyA cB cI) [] sz Tru)) (va_Qi P (fun u t => va_P D vwCl [] t.heap) (va_A [] sz)) 0 0 (va_A [] sz) := by
  refine en_ (cc := cX0_mask) (maxL := 1) (ret := (some .int)) (own := RX0) (lv := [(0, .int a0)]) (Qf := fun A => va_Qi P (fun u t => va_P D vwCl [] t.heap) A) (by decide) rfl rfl (Nat.le_of_ble_eq_true rfl) rfl ?_
  intro p e s m below meth c A ls S hr hlk hname hsz hP hK hD hA hSub hS hE hl
  have hx := S.1
  have hb := S.2.1
  have hown := S.2.2.2.1
  have hts := S.2.2.2.2
  have k_13 := hts (.constant RX0 13 (65535)) (by decide +kernel)
  unfold wX0_mask at hw
  obtain ⟨H, eH⟩ : ∃ H, H = s.heap := ⟨_, rfl⟩
  obtain ⟨locs, eL⟩ : ∃ locs : List Loc, locs = [] := ⟨_, rfl⟩
  replace hP : va_P D vwCl [] H := by rw [eH]; exact hP
  replace hS : va_S A s.heap H locs := by rw [eH, eL]; exact hS
  suffices hgo : W p l e ({ frames := 0, cells := 0, slots := 0, locals := 0 } : Room) s m ([.int a0] : List Value).toArray below meth c H locs 0 0 (MQ below (va_Qi P (fun u t => va_P D vwCl [] t.heap) A) ([.int a0] : List Value).toArray s 0 0 A) (F0 m 0 ls []) by rw [eH, eL] at hgo; exact hgo
  clear eH eL
  refine lv_iload_n hx hb dX0_mask_0 rfl (lv_at hl 0 rfl) ?_
  refine lv_if_eq (tgt := 9) hx hb dX0_mask_1 (by decide) (fun c1 => ?_) (fun c1 => ?_)
  · replace hw := hw.1 c1
    refine lv_sipush (v := (255 : Int32)) hx hb dX0_mask_9 (by decide) ?_
    exact rt_i (wo := (fun _ => [])) S hr hlk u hP hS hw dX0_mask_12
  · replace hw := hw.2 c1
    refine lv_ldc (v := (65535 : Int32)) hx hb hown k_13 dX0_mask_4 ?_
    refine lv_goto (tgt := 12) hx hb dX0_mask_6 (by decide) ?_
    exact rt_i (wo := (fun _ => [])) S hr hlk u hP hS hw dX0_mask_12
-- X0_highest
def wX0_highest (a0 : Int32) (u : Unit) (P : Int32 → Unit → Prop) : Prop := ((a0 = (0 : Int32) → (P (128 : Int32) u)) ∧ (¬ a0 = (0 : Int32) → (P (32768 : Int32) u)))
set_option maxHeartbeats 4000000 in
set_option maxRecDepth 100000 in
theorem kcX0_highest (l : Launch) (D : va_G) (cB cI : ClassId) (sz : Nat) (a0 : Int32) (u : Unit) (P : Int32 → Unit → Prop) (hw : wX0_highest a0 u P) : Met l yX0_highest wsX0_highest ({ frames := 0, cells := 0, slots := 0, locals := 0 } : Room) (va_Pc [.int a0] (Pcw D (tyA cB cI) [] sz Tru)) (va_Qi P (fun u t => va_P D vwCl [] t.heap) (va_A [] sz)) 0 0 (va_A [] sz) := by
  refine en_ (cc := cX0_highest) (maxL := 1) (ret := (some .int)) (own := RX0) (lv := [(0, .int a0)]) (Qf := fun A => va_Qi P (fun u t => va_P D vwCl [] t.heap) A) (by decide) rfl rfl (Nat.le_of_ble_eq_true rfl) rfl ?_
  intro p e s m below meth c A ls S hr hlk hname hsz hP hK hD hA hSub hS hE hl
  have hx := S.1
  have hb := S.2.1
  have hown := S.2.2.2.1
  have hts := S.2.2.2.2
  have k_14 := hts (.constant RX0 14 (32768)) (by decide +kernel)
  unfold wX0_highest at hw
  obtain ⟨H, eH⟩ : ∃ H, H = s.heap := ⟨_, rfl⟩
  obtain ⟨locs, eL⟩ : ∃ locs : List Loc, locs = [] := ⟨_, rfl⟩
  replace hP : va_P D vwCl [] H := by rw [eH]; exact hP
  replace hS : va_S A s.heap H locs := by rw [eH, eL]; exact hS
  suffices hgo : W p l e ({ frames := 0, cells := 0, slots := 0, locals := 0 } : Room) s m ([.int a0] : List Value).toArray below meth c H locs 0 0 (MQ below (va_Qi P (fun u t => va_P D vwCl [] t.heap) A) ([.int a0] : List Value).toArray s 0 0 A) (F0 m 0 ls []) by rw [eH, eL] at hgo; exact hgo
  clear eH eL
  refine lv_iload_n hx hb dX0_highest_0 rfl (lv_at hl 0 rfl) ?_
  refine lv_if_eq (tgt := 9) hx hb dX0_highest_1 (by decide) (fun c1 => ?_) (fun c1 => ?_)
  · replace hw := hw.1 c1
    refine lv_sipush (v := (128 : Int32)) hx hb dX0_highest_9 (by decide) ?_
    exact rt_i (wo := (fun _ => [])) S hr hlk u hP hS hw dX0_highest_12
  · replace hw := hw.2 c1
    refine lv_ldc (v := (32768 : Int32)) hx hb hown k_14 dX0_highest_4 ?_
    refine lv_goto (tgt := 12) hx hb dX0_highest_6 (by decide) ?_
    exact rt_i (wo := (fun _ => [])) S hr hlk u hP hS hw dX0_highest_12
-- X0_signed
def wX0_signed (a0 : Int32) (a1 : Int32) (u : Unit) (P : Int32 → Unit → Prop) : Prop := ((a1 = (0 : Int32) → (P (a0.toInt8.toInt32) u)) ∧ (¬ a1 = (0 : Int32) → (P (a0.toInt16.toInt32) u)))
set_option maxHeartbeats 4000000 in
set_option maxRecDepth 100000 in
theorem kcX0_signed (l : Launch) (D : va_G) (cB cI : ClassId) (sz : Nat) (a0 : Int32) (a1 : Int32) (u : Unit) (P : Int32 → Unit → Prop) (hw : wX0_signed a0 a1 u P) : Met l yX0_signed wsX0_signed ({ frames := 0, cells := 0, slots := 0, locals := 0 } : Room) (va_Pc [.int a0, .int a1] (Pcw D (tyA cB cI) [] sz Tru)) (va_Qi P (fun u t => va_P D vwCl [] t.heap) (va_A [] sz)) 0 0 (va_A [] sz) := by
  refine en_ (cc := cX0_signed) (maxL := 2) (ret := (some .int)) (own := RX0) (lv := [(0, .int a0), (1, .int a1)]) (Qf := fun A => va_Qi P (fun u t => va_P D vwCl [] t.heap) A) (by decide) rfl rfl (Nat.le_of_ble_eq_true rfl) rfl ?_
  intro p e s m below meth c A ls S hr hlk hname hsz hP hK hD hA hSub hS hE hl
  have hx := S.1
  have hb := S.2.1
  have hown := S.2.2.2.1
  have hts := S.2.2.2.2
  unfold wX0_signed at hw
  obtain ⟨H, eH⟩ : ∃ H, H = s.heap := ⟨_, rfl⟩
  obtain ⟨locs, eL⟩ : ∃ locs : List Loc, locs = [] := ⟨_, rfl⟩
  replace hP : va_P D vwCl [] H := by rw [eH]; exact hP
  replace hS : va_S A s.heap H locs := by rw [eH, eL]; exact hS
  suffices hgo : W p l e ({ frames := 0, cells := 0, slots := 0, locals := 0 } : Room) s m ([.int a0, .int a1] : List Value).toArray below meth c H locs 0 0 (MQ below (va_Qi P (fun u t => va_P D vwCl [] t.heap) A) ([.int a0, .int a1] : List Value).toArray s 0 0 A) (F0 m 0 ls []) by rw [eH, eL] at hgo; exact hgo
  clear eH eL
  refine lv_iload_n hx hb dX0_signed_0 rfl (lv_at hl 1 rfl) ?_
  refine lv_if_eq (tgt := 9) hx hb dX0_signed_1 (by decide) (fun c1 => ?_) (fun c1 => ?_)
  · replace hw := hw.1 c1
    refine lv_iload_n hx hb dX0_signed_9 rfl (lv_at hl 0 rfl) ?_
    refine lv_i2b (v := (a0.toInt8.toInt32)) hx hb dX0_signed_10 rfl ?_
    exact rt_i (wo := (fun _ => [])) S hr hlk u hP hS hw dX0_signed_11
  · replace hw := hw.2 c1
    refine lv_iload_n hx hb dX0_signed_4 rfl (lv_at hl 0 rfl) ?_
    refine lv_i2s (v := (a0.toInt16.toInt32)) hx hb dX0_signed_5 rfl ?_
    refine lv_goto (tgt := 11) hx hb dX0_signed_6 (by decide) ?_
    exact rt_i (wo := (fun _ => [])) S hr hlk u hP hS hw dX0_signed_11
-- J6_bitCount_0f7a4
def wJ6_bitCount_0f7a4 (a0 : Int32) (u : Unit) (P : Int32 → Unit → Prop) : Prop := (P ((((((((a0 - (((a0.toUInt32 >>> ((1 : Int32).toUInt32 &&& Int32.toUInt32 31)).toInt32) &&& (1431655765 : Int32))) &&& (858993459 : Int32)) + ((((a0 - (((a0.toUInt32 >>> ((1 : Int32).toUInt32 &&& Int32.toUInt32 31)).toInt32) &&& (1431655765 : Int32))).toUInt32 >>> ((2 : Int32).toUInt32 &&& Int32.toUInt32 31)).toInt32) &&& (858993459 : Int32))) + (((((a0 - (((a0.toUInt32 >>> ((1 : Int32).toUInt32 &&& Int32.toUInt32 31)).toInt32) &&& (1431655765 : Int32))) &&& (858993459 : Int32)) + ((((a0 - (((a0.toUInt32 >>> ((1 : Int32).toUInt32 &&& Int32.toUInt32 31)).toInt32) &&& (1431655765 : Int32))).toUInt32 >>> ((2 : Int32).toUInt32 &&& Int32.toUInt32 31)).toInt32) &&& (858993459 : Int32))).toUInt32 >>> ((4 : Int32).toUInt32 &&& Int32.toUInt32 31)).toInt32)) &&& (252645135 : Int32)) + (((((((a0 - (((a0.toUInt32 >>> ((1 : Int32).toUInt32 &&& Int32.toUInt32 31)).toInt32) &&& (1431655765 : Int32))) &&& (858993459 : Int32)) + ((((a0 - (((a0.toUInt32 >>> ((1 : Int32).toUInt32 &&& Int32.toUInt32 31)).toInt32) &&& (1431655765 : Int32))).toUInt32 >>> ((2 : Int32).toUInt32 &&& Int32.toUInt32 31)).toInt32) &&& (858993459 : Int32))) + (((((a0 - (((a0.toUInt32 >>> ((1 : Int32).toUInt32 &&& Int32.toUInt32 31)).toInt32) &&& (1431655765 : Int32))) &&& (858993459 : Int32)) + ((((a0 - (((a0.toUInt32 >>> ((1 : Int32).toUInt32 &&& Int32.toUInt32 31)).toInt32) &&& (1431655765 : Int32))).toUInt32 >>> ((2 : Int32).toUInt32 &&& Int32.toUInt32 31)).toInt32) &&& (858993459 : Int32))).toUInt32 >>> ((4 : Int32).toUInt32 &&& Int32.toUInt32 31)).toInt32)) &&& (252645135 : Int32)).toUInt32 >>> ((8 : Int32).toUInt32 &&& Int32.toUInt32 31)).toInt32)) + ((((((((a0 - (((a0.toUInt32 >>> ((1 : Int32).toUInt32 &&& Int32.toUInt32 31)).toInt32) &&& (1431655765 : Int32))) &&& (858993459 : Int32)) + ((((a0 - (((a0.toUInt32 >>> ((1 : Int32).toUInt32 &&& Int32.toUInt32 31)).toInt32) &&& (1431655765 : Int32))).toUInt32 >>> ((2 : Int32).toUInt32 &&& Int32.toUInt32 31)).toInt32) &&& (858993459 : Int32))) + (((((a0 - (((a0.toUInt32 >>> ((1 : Int32).toUInt32 &&& Int32.toUInt32 31)).toInt32) &&& (1431655765 : Int32))) &&& (858993459 : Int32)) + ((((a0 - (((a0.toUInt32 >>> ((1 : Int32).toUInt32 &&& Int32.toUInt32 31)).toInt32) &&& (1431655765 : Int32))).toUInt32 >>> ((2 : Int32).toUInt32 &&& Int32.toUInt32 31)).toInt32) &&& (858993459 : Int32))).toUInt32 >>> ((4 : Int32).toUInt32 &&& Int32.toUInt32 31)).toInt32)) &&& (252645135 : Int32)) + (((((((a0 - (((a0.toUInt32 >>> ((1 : Int32).toUInt32 &&& Int32.toUInt32 31)).toInt32) &&& (1431655765 : Int32))) &&& (858993459 : Int32)) + ((((a0 - (((a0.toUInt32 >>> ((1 : Int32).toUInt32 &&& Int32.toUInt32 31)).toInt32) &&& (1431655765 : Int32))).toUInt32 >>> ((2 : Int32).toUInt32 &&& Int32.toUInt32 31)).toInt32) &&& (858993459 : Int32))) + (((((a0 - (((a0.toUInt32 >>> ((1 : Int32).toUInt32 &&& Int32.toUInt32 31)).toInt32) &&& (1431655765 : Int32))) &&& (858993459 : Int32)) + ((((a0 - (((a0.toUInt32 >>> ((1 : Int32).toUInt32 &&& Int32.toUInt32 31)).toInt32) &&& (1431655765 : Int32))).toUInt32 >>> ((2 : Int32).toUInt32 &&& Int32.toUInt32 31)).toInt32) &&& (858993459 : Int32))).toUInt32 >>> ((4 : Int32).toUInt32 &&& Int32.toUInt32 31)).toInt32)) &&& (252645135 : Int32)).toUInt32 >>> ((8 : Int32).toUInt32 &&& Int32.toUInt32 31)).toInt32)).toUInt32 >>> ((16 : Int32).toUInt32 &&& Int32.toUInt32 31)).toInt32)) &&& (63 : Int32)) u)
set_option maxHeartbeats 4000000 in
set_option maxRecDepth 100000 in
theorem kcJ6_bitCount_0f7a4 (l : Launch) (D : va_G) (cB cI : ClassId) (sz : Nat) (a0 : Int32) (u : Unit) (P : Int32 → Unit → Prop) (hw : wJ6_bitCount_0f7a4 a0 u P) : Met l yJ6_bitCount_0f7a4 wsJ6_bitCount_0f7a4 ({ frames := 0, cells := 0, slots := 0, locals := 0 } : Room) (va_Pc [.int a0] (Pcw D (tyA cB cI) [] sz Tru)) (va_Qi P (fun u t => va_P D vwCl [] t.heap) (va_A [] sz)) 0 0 (va_A [] sz) := by
  refine en_ (cc := cJ6_bitCount_0f7a4) (maxL := 1) (ret := (some .int)) (own := RJ6) (lv := [(0, .int a0)]) (Qf := fun A => va_Qi P (fun u t => va_P D vwCl [] t.heap) A) (by decide) rfl rfl (Nat.le_of_ble_eq_true rfl) rfl ?_
  intro p e s m below meth c A ls S hr hlk hname hsz hP hK hD hA hSub hS hE hl
  have hx := S.1
  have hb := S.2.1
  have hown := S.2.2.2.1
  have hts := S.2.2.2.2
  have k_265 := hts (.constant RJ6 265 (1431655765)) (by decide +kernel)
  have k_266 := hts (.constant RJ6 266 (858993459)) (by decide +kernel)
  have k_267 := hts (.constant RJ6 267 (252645135)) (by decide +kernel)
  unfold wJ6_bitCount_0f7a4 at hw
  obtain ⟨H, eH⟩ : ∃ H, H = s.heap := ⟨_, rfl⟩
  obtain ⟨locs, eL⟩ : ∃ locs : List Loc, locs = [] := ⟨_, rfl⟩
  replace hP : va_P D vwCl [] H := by rw [eH]; exact hP
  replace hS : va_S A s.heap H locs := by rw [eH, eL]; exact hS
  suffices hgo : W p l e ({ frames := 0, cells := 0, slots := 0, locals := 0 } : Room) s m ([.int a0] : List Value).toArray below meth c H locs 0 0 (MQ below (va_Qi P (fun u t => va_P D vwCl [] t.heap) A) ([.int a0] : List Value).toArray s 0 0 A) (F0 m 0 ls []) by rw [eH, eL] at hgo; exact hgo
  clear eH eL
  refine lv_iload_n hx hb dJ6_bitCount_0f7a4_0 rfl (lv_at hl 0 rfl) ?_
  refine lv_iload_n hx hb dJ6_bitCount_0f7a4_1 rfl (lv_at hl 0 rfl) ?_
  refine lv_iconst (v := (1 : Int32)) hx hb dJ6_bitCount_0f7a4_2 (by decide) ?_
  refine lv_iushr hx hb dJ6_bitCount_0f7a4_3 rfl ?_
  refine lv_ldcw (v := (1431655765 : Int32)) hx hb hown k_265 dJ6_bitCount_0f7a4_4 ?_
  refine lv_iand hx hb dJ6_bitCount_0f7a4_7 ?_
  refine lv_isub hx hb dJ6_bitCount_0f7a4_8 ?_
  refine lv_istore_n (lv' := [(0, .int (a0 - (((a0.toUInt32 >>> ((1 : Int32).toUInt32 &&& Int32.toUInt32 31)).toInt32) &&& (1431655765 : Int32))))]) hx hb dJ6_bitCount_0f7a4_9 rfl hl (by decide) rfl (fun ls hl => ?_)
  refine lv_iload_n hx hb dJ6_bitCount_0f7a4_10 rfl (lv_at hl 0 rfl) ?_
  refine lv_ldcw (v := (858993459 : Int32)) hx hb hown k_266 dJ6_bitCount_0f7a4_11 ?_
  refine lv_iand hx hb dJ6_bitCount_0f7a4_14 ?_
  refine lv_iload_n hx hb dJ6_bitCount_0f7a4_15 rfl (lv_at hl 0 rfl) ?_
  refine lv_iconst (v := (2 : Int32)) hx hb dJ6_bitCount_0f7a4_16 (by decide) ?_
  refine lv_iushr hx hb dJ6_bitCount_0f7a4_17 rfl ?_
  refine lv_ldcw (v := (858993459 : Int32)) hx hb hown k_266 dJ6_bitCount_0f7a4_18 ?_
  refine lv_iand hx hb dJ6_bitCount_0f7a4_21 ?_
  refine lv_iadd hx hb dJ6_bitCount_0f7a4_22 ?_
  refine lv_istore_n (lv' := [(0, .int (((a0 - (((a0.toUInt32 >>> ((1 : Int32).toUInt32 &&& Int32.toUInt32 31)).toInt32) &&& (1431655765 : Int32))) &&& (858993459 : Int32)) + ((((a0 - (((a0.toUInt32 >>> ((1 : Int32).toUInt32 &&& Int32.toUInt32 31)).toInt32) &&& (1431655765 : Int32))).toUInt32 >>> ((2 : Int32).toUInt32 &&& Int32.toUInt32 31)).toInt32) &&& (858993459 : Int32))))]) hx hb dJ6_bitCount_0f7a4_23 rfl hl (by decide) rfl (fun ls hl => ?_)
  refine lv_iload_n hx hb dJ6_bitCount_0f7a4_24 rfl (lv_at hl 0 rfl) ?_
  refine lv_iload_n hx hb dJ6_bitCount_0f7a4_25 rfl (lv_at hl 0 rfl) ?_
  refine lv_iconst (v := (4 : Int32)) hx hb dJ6_bitCount_0f7a4_26 (by decide) ?_
  refine lv_iushr hx hb dJ6_bitCount_0f7a4_27 rfl ?_
  refine lv_iadd hx hb dJ6_bitCount_0f7a4_28 ?_
  refine lv_ldcw (v := (252645135 : Int32)) hx hb hown k_267 dJ6_bitCount_0f7a4_29 ?_
  refine lv_iand hx hb dJ6_bitCount_0f7a4_32 ?_
  refine lv_istore_n (lv' := [(0, .int (((((a0 - (((a0.toUInt32 >>> ((1 : Int32).toUInt32 &&& Int32.toUInt32 31)).toInt32) &&& (1431655765 : Int32))) &&& (858993459 : Int32)) + ((((a0 - (((a0.toUInt32 >>> ((1 : Int32).toUInt32 &&& Int32.toUInt32 31)).toInt32) &&& (1431655765 : Int32))).toUInt32 >>> ((2 : Int32).toUInt32 &&& Int32.toUInt32 31)).toInt32) &&& (858993459 : Int32))) + (((((a0 - (((a0.toUInt32 >>> ((1 : Int32).toUInt32 &&& Int32.toUInt32 31)).toInt32) &&& (1431655765 : Int32))) &&& (858993459 : Int32)) + ((((a0 - (((a0.toUInt32 >>> ((1 : Int32).toUInt32 &&& Int32.toUInt32 31)).toInt32) &&& (1431655765 : Int32))).toUInt32 >>> ((2 : Int32).toUInt32 &&& Int32.toUInt32 31)).toInt32) &&& (858993459 : Int32))).toUInt32 >>> ((4 : Int32).toUInt32 &&& Int32.toUInt32 31)).toInt32)) &&& (252645135 : Int32)))]) hx hb dJ6_bitCount_0f7a4_33 rfl hl (by decide) rfl (fun ls hl => ?_)
  refine lv_iload_n hx hb dJ6_bitCount_0f7a4_34 rfl (lv_at hl 0 rfl) ?_
  refine lv_iload_n hx hb dJ6_bitCount_0f7a4_35 rfl (lv_at hl 0 rfl) ?_
  refine lv_bipush (v := (8 : Int32)) hx hb dJ6_bitCount_0f7a4_36 (by decide) ?_
  refine lv_iushr hx hb dJ6_bitCount_0f7a4_38 rfl ?_
  refine lv_iadd hx hb dJ6_bitCount_0f7a4_39 ?_
  refine lv_istore_n (lv' := [(0, .int ((((((a0 - (((a0.toUInt32 >>> ((1 : Int32).toUInt32 &&& Int32.toUInt32 31)).toInt32) &&& (1431655765 : Int32))) &&& (858993459 : Int32)) + ((((a0 - (((a0.toUInt32 >>> ((1 : Int32).toUInt32 &&& Int32.toUInt32 31)).toInt32) &&& (1431655765 : Int32))).toUInt32 >>> ((2 : Int32).toUInt32 &&& Int32.toUInt32 31)).toInt32) &&& (858993459 : Int32))) + (((((a0 - (((a0.toUInt32 >>> ((1 : Int32).toUInt32 &&& Int32.toUInt32 31)).toInt32) &&& (1431655765 : Int32))) &&& (858993459 : Int32)) + ((((a0 - (((a0.toUInt32 >>> ((1 : Int32).toUInt32 &&& Int32.toUInt32 31)).toInt32) &&& (1431655765 : Int32))).toUInt32 >>> ((2 : Int32).toUInt32 &&& Int32.toUInt32 31)).toInt32) &&& (858993459 : Int32))).toUInt32 >>> ((4 : Int32).toUInt32 &&& Int32.toUInt32 31)).toInt32)) &&& (252645135 : Int32)) + (((((((a0 - (((a0.toUInt32 >>> ((1 : Int32).toUInt32 &&& Int32.toUInt32 31)).toInt32) &&& (1431655765 : Int32))) &&& (858993459 : Int32)) + ((((a0 - (((a0.toUInt32 >>> ((1 : Int32).toUInt32 &&& Int32.toUInt32 31)).toInt32) &&& (1431655765 : Int32))).toUInt32 >>> ((2 : Int32).toUInt32 &&& Int32.toUInt32 31)).toInt32) &&& (858993459 : Int32))) + (((((a0 - (((a0.toUInt32 >>> ((1 : Int32).toUInt32 &&& Int32.toUInt32 31)).toInt32) &&& (1431655765 : Int32))) &&& (858993459 : Int32)) + ((((a0 - (((a0.toUInt32 >>> ((1 : Int32).toUInt32 &&& Int32.toUInt32 31)).toInt32) &&& (1431655765 : Int32))).toUInt32 >>> ((2 : Int32).toUInt32 &&& Int32.toUInt32 31)).toInt32) &&& (858993459 : Int32))).toUInt32 >>> ((4 : Int32).toUInt32 &&& Int32.toUInt32 31)).toInt32)) &&& (252645135 : Int32)).toUInt32 >>> ((8 : Int32).toUInt32 &&& Int32.toUInt32 31)).toInt32)))]) hx hb dJ6_bitCount_0f7a4_40 rfl hl (by decide) rfl (fun ls hl => ?_)
  refine lv_iload_n hx hb dJ6_bitCount_0f7a4_41 rfl (lv_at hl 0 rfl) ?_
  refine lv_iload_n hx hb dJ6_bitCount_0f7a4_42 rfl (lv_at hl 0 rfl) ?_
  refine lv_bipush (v := (16 : Int32)) hx hb dJ6_bitCount_0f7a4_43 (by decide) ?_
  refine lv_iushr hx hb dJ6_bitCount_0f7a4_45 rfl ?_
  refine lv_iadd hx hb dJ6_bitCount_0f7a4_46 ?_
  refine lv_istore_n (lv' := [(0, .int (((((((a0 - (((a0.toUInt32 >>> ((1 : Int32).toUInt32 &&& Int32.toUInt32 31)).toInt32) &&& (1431655765 : Int32))) &&& (858993459 : Int32)) + ((((a0 - (((a0.toUInt32 >>> ((1 : Int32).toUInt32 &&& Int32.toUInt32 31)).toInt32) &&& (1431655765 : Int32))).toUInt32 >>> ((2 : Int32).toUInt32 &&& Int32.toUInt32 31)).toInt32) &&& (858993459 : Int32))) + (((((a0 - (((a0.toUInt32 >>> ((1 : Int32).toUInt32 &&& Int32.toUInt32 31)).toInt32) &&& (1431655765 : Int32))) &&& (858993459 : Int32)) + ((((a0 - (((a0.toUInt32 >>> ((1 : Int32).toUInt32 &&& Int32.toUInt32 31)).toInt32) &&& (1431655765 : Int32))).toUInt32 >>> ((2 : Int32).toUInt32 &&& Int32.toUInt32 31)).toInt32) &&& (858993459 : Int32))).toUInt32 >>> ((4 : Int32).toUInt32 &&& Int32.toUInt32 31)).toInt32)) &&& (252645135 : Int32)) + (((((((a0 - (((a0.toUInt32 >>> ((1 : Int32).toUInt32 &&& Int32.toUInt32 31)).toInt32) &&& (1431655765 : Int32))) &&& (858993459 : Int32)) + ((((a0 - (((a0.toUInt32 >>> ((1 : Int32).toUInt32 &&& Int32.toUInt32 31)).toInt32) &&& (1431655765 : Int32))).toUInt32 >>> ((2 : Int32).toUInt32 &&& Int32.toUInt32 31)).toInt32) &&& (858993459 : Int32))) + (((((a0 - (((a0.toUInt32 >>> ((1 : Int32).toUInt32 &&& Int32.toUInt32 31)).toInt32) &&& (1431655765 : Int32))) &&& (858993459 : Int32)) + ((((a0 - (((a0.toUInt32 >>> ((1 : Int32).toUInt32 &&& Int32.toUInt32 31)).toInt32) &&& (1431655765 : Int32))).toUInt32 >>> ((2 : Int32).toUInt32 &&& Int32.toUInt32 31)).toInt32) &&& (858993459 : Int32))).toUInt32 >>> ((4 : Int32).toUInt32 &&& Int32.toUInt32 31)).toInt32)) &&& (252645135 : Int32)).toUInt32 >>> ((8 : Int32).toUInt32 &&& Int32.toUInt32 31)).toInt32)) + ((((((((a0 - (((a0.toUInt32 >>> ((1 : Int32).toUInt32 &&& Int32.toUInt32 31)).toInt32) &&& (1431655765 : Int32))) &&& (858993459 : Int32)) + ((((a0 - (((a0.toUInt32 >>> ((1 : Int32).toUInt32 &&& Int32.toUInt32 31)).toInt32) &&& (1431655765 : Int32))).toUInt32 >>> ((2 : Int32).toUInt32 &&& Int32.toUInt32 31)).toInt32) &&& (858993459 : Int32))) + (((((a0 - (((a0.toUInt32 >>> ((1 : Int32).toUInt32 &&& Int32.toUInt32 31)).toInt32) &&& (1431655765 : Int32))) &&& (858993459 : Int32)) + ((((a0 - (((a0.toUInt32 >>> ((1 : Int32).toUInt32 &&& Int32.toUInt32 31)).toInt32) &&& (1431655765 : Int32))).toUInt32 >>> ((2 : Int32).toUInt32 &&& Int32.toUInt32 31)).toInt32) &&& (858993459 : Int32))).toUInt32 >>> ((4 : Int32).toUInt32 &&& Int32.toUInt32 31)).toInt32)) &&& (252645135 : Int32)) + (((((((a0 - (((a0.toUInt32 >>> ((1 : Int32).toUInt32 &&& Int32.toUInt32 31)).toInt32) &&& (1431655765 : Int32))) &&& (858993459 : Int32)) + ((((a0 - (((a0.toUInt32 >>> ((1 : Int32).toUInt32 &&& Int32.toUInt32 31)).toInt32) &&& (1431655765 : Int32))).toUInt32 >>> ((2 : Int32).toUInt32 &&& Int32.toUInt32 31)).toInt32) &&& (858993459 : Int32))) + (((((a0 - (((a0.toUInt32 >>> ((1 : Int32).toUInt32 &&& Int32.toUInt32 31)).toInt32) &&& (1431655765 : Int32))) &&& (858993459 : Int32)) + ((((a0 - (((a0.toUInt32 >>> ((1 : Int32).toUInt32 &&& Int32.toUInt32 31)).toInt32) &&& (1431655765 : Int32))).toUInt32 >>> ((2 : Int32).toUInt32 &&& Int32.toUInt32 31)).toInt32) &&& (858993459 : Int32))).toUInt32 >>> ((4 : Int32).toUInt32 &&& Int32.toUInt32 31)).toInt32)) &&& (252645135 : Int32)).toUInt32 >>> ((8 : Int32).toUInt32 &&& Int32.toUInt32 31)).toInt32)).toUInt32 >>> ((16 : Int32).toUInt32 &&& Int32.toUInt32 31)).toInt32)))]) hx hb dJ6_bitCount_0f7a4_47 rfl hl (by decide) rfl (fun ls hl => ?_)
  refine lv_iload_n hx hb dJ6_bitCount_0f7a4_48 rfl (lv_at hl 0 rfl) ?_
  refine lv_bipush (v := (63 : Int32)) hx hb dJ6_bitCount_0f7a4_49 (by decide) ?_
  refine lv_iand hx hb dJ6_bitCount_0f7a4_51 ?_
  exact rt_i (wo := (fun _ => [])) S hr hlk u hP hS hw dJ6_bitCount_0f7a4_52
-- X0_byAnswer
def wX0_byAnswer_b79 (a1 : Int32) (a2 : Int32) (P : Int32 → Int32 → Prop) (s1 : Int32) (s2 : Int32) (u : Int32) : Prop := (P a1 (s1 ||| s2))
def wX0_byAnswer_b52 (a1 : Int32) (a2 : Int32) (P : Int32 → Int32 → Prop) (s1 : Int32) (s2 : Int32) (u : Int32) : Prop := (wJ6_bitCount_0f7a4 (a1 &&& (255 : Int32)) () (fun r6 u5 => (((r6 &&& (1 : Int32)) = (0 : Int32) → (wX0_byAnswer_b79 a1 a2 P (s1 ||| s2) (4 : Int32) (s1 ||| s2))) ∧ (¬ (r6 &&& (1 : Int32)) = (0 : Int32) → (wX0_byAnswer_b79 a1 a2 P (s1 ||| s2) (0 : Int32) (s1 ||| s2))))))
def wX0_byAnswer_b27 (a1 : Int32) (a2 : Int32) (P : Int32 → Int32 → Prop) (s1 : Int32) (s2 : Int32) (u : Int32) : Prop := (wX0_highest a2 () (fun r3 u2 => (((a1 &&& r3) = (0 : Int32) → (wX0_byAnswer_b52 a1 a2 P (s1 ||| s2) (0 : Int32) (s1 ||| s2))) ∧ (¬ (a1 &&& r3) = (0 : Int32) → (wX0_byAnswer_b52 a1 a2 P (s1 ||| s2) (128 : Int32) (s1 ||| s2))))))
def wX0_byAnswer (a1 : Int32) (a2 : Int32) (u : Int32) (P : Int32 → Int32 → Prop) : Prop := ((a1 = (0 : Int32) → (wX0_byAnswer_b27 a1 a2 P (u &&& (-197 : Int32)) (64 : Int32) (u &&& (-197 : Int32)))) ∧ (¬ a1 = (0 : Int32) → (wX0_byAnswer_b27 a1 a2 P (u &&& (-197 : Int32)) (0 : Int32) (u &&& (-197 : Int32)))))
set_option maxHeartbeats 4000000 in
set_option maxRecDepth 100000 in
theorem kcX0_byAnswer (l : Launch) (D : va_G) (cB cI : ClassId) (q7 : Nat) (sz : Nat) (a1 : Int32) (a2 : Int32) (u : Int32) (P : Int32 → Int32 → Prop) (hw : wX0_byAnswer a1 a2 u P) : Met l yX0_byAnswer wsX0_byAnswer ({ frames := 1, cells := 0, slots := 0, locals := 20 } : Room) (va_Pc [.ref q7, .int a1, .int a2] (Pcw D (tyA cB cI) (WA q7 u) sz Tru)) (va_Qi P (fun u t => va_P D vwCl (WA q7 u) t.heap) (va_A (WA q7 u) sz)) 0 0 (va_A (WA q7 u) sz) := by
  refine en_ (cc := cX0_byAnswer) (maxL := 3) (ret := (some .int)) (own := RX0) (lv := [(0, .ref q7), (1, .int a1), (2, .int a2)]) (Qf := fun A => va_Qi P (fun u t => va_P D vwCl (WA q7 u) t.heap) A) (by decide) rfl rfl (Nat.le_of_ble_eq_true rfl) rfl ?_
  intro p e s m below meth c A ls S hr hlk hname hsz hP hK hD hA hSub hS hE hl
  have hx := S.1
  have hb := S.2.1
  have hown := S.2.2.2.1
  have hts := S.2.2.2.2
  have i_X0 : ∀ w ∈ u_ws RX0 TX0 1, w ∈ wsX0_byAnswer := by decide +kernel
  have f_9 := hts (.fieldLink RX0 9 "MachineCore$Arithmetic" "flags" "I") (by decide +kernel)
  have b79 : ∀ (s1 : Int32) (s2 : Int32) (u : Int32) (H : Heap) (locs : List Loc) (ls : Array Slot), va_P D vwCl (WA q7 u) H → va_D A (WA q7 u) → va_S A s.heap H locs → lv_has ls 3 [(1, .int a1)] → wX0_byAnswer_b79 a1 a2 P s1 s2 u → W p l e ({ frames := 1, cells := 0, slots := 0, locals := 20 } : Room) s m ([.ref q7, .int a1, .int a2] : List Value).toArray below meth c H locs 0 0 (MQ below (va_Qi P (fun u t => va_P D vwCl (WA q7 u) t.heap) A) ([.ref q7, .int a1, .int a2] : List Value).toArray s 0 0 A) (F0 m 79 ls [.int s2, .int s1, .ref q7]) := by
    intro s1 s2 u H locs ls hP hD hS hl hw
    unfold wX0_byAnswer_b79 at hw
    refine lv_ior hx hb dX0_byAnswer_79 ?_
    refine va_put (D := D) (ci := 0) (v := .int (s1 ||| s2)) (ty := .int) (C := RX0) (T := TX0) (N := 1) hx hb hts i_X0 tyX0 tyX0_ok nmX0 hown hK hP hD hS 0 rfl rfl 0 (by decide) f_9 (fun _ h9 => h9) rfl (by decide +kernel) rfl rfl (Nat.le_of_ble_eq_true rfl) dX0_byAnswer_80 (fun H locs hP hD hS => ?_)
    replace hP : va_P D vwCl (WA q7 (s1 ||| s2)) H := hP
    replace hD : va_D A (WA q7 (s1 ||| s2)) := hD
    refine lv_iload_n hx hb dX0_byAnswer_83 rfl (lv_at hl 0 rfl) ?_
    exact rt_i (wo := (fun v => WA q7 v)) S hr hlk (s1 ||| s2) hP hS hw dX0_byAnswer_84
  have b52 : ∀ (s1 : Int32) (s2 : Int32) (u : Int32) (H : Heap) (locs : List Loc) (ls : Array Slot), va_P D vwCl (WA q7 u) H → va_D A (WA q7 u) → va_S A s.heap H locs → lv_has ls 3 [(0, .ref q7), (1, .int a1)] → wX0_byAnswer_b52 a1 a2 P s1 s2 u → W p l e ({ frames := 1, cells := 0, slots := 0, locals := 20 } : Room) s m ([.ref q7, .int a1, .int a2] : List Value).toArray below meth c H locs 0 0 (MQ below (va_Qi P (fun u t => va_P D vwCl (WA q7 u) t.heap) A) ([.ref q7, .int a1, .int a2] : List Value).toArray s 0 0 A) (F0 m 52 ls [.int s2, .int s1, .ref q7]) := by
    intro s1 s2 u H locs ls hP hD hS hl hw
    unfold wX0_byAnswer_b52 at hw
    refine lv_ior hx hb dX0_byAnswer_52 ?_
    refine va_put (D := D) (ci := 0) (v := .int (s1 ||| s2)) (ty := .int) (C := RX0) (T := TX0) (N := 1) hx hb hts i_X0 tyX0 tyX0_ok nmX0 hown hK hP hD hS 0 rfl rfl 0 (by decide) f_9 (fun _ h9 => h9) rfl (by decide +kernel) rfl rfl (Nat.le_of_ble_eq_true rfl) dX0_byAnswer_53 (fun H locs hP hD hS => ?_)
    replace hP : va_P D vwCl (WA q7 (s1 ||| s2)) H := hP
    replace hD : va_D A (WA q7 (s1 ||| s2)) := hD
    refine lv_aload_n hx hb dX0_byAnswer_56 rfl (lv_at hl 0 rfl) ?_
    refine lv_dup hx hb dX0_byAnswer_57 rfl ?_
    refine va_get (D := D) (ci := 0) (v := .int (s1 ||| s2)) (C := RX0) (T := TX0) (N := 1) hx hb hts i_X0 hown hK hP 0 rfl rfl 0 (by decide) f_9 (fun _ h9 => h9) rfl dX0_byAnswer_58 ?_
    refine lv_iload_n hx hb dX0_byAnswer_61 rfl (lv_at hl 1 rfl) ?_
    refine lv_sipush (v := (255 : Int32)) hx hb dX0_byAnswer_62 (by decide) ?_
    refine lv_iand hx hb dX0_byAnswer_65 ?_
    refine cl_Si (As := [.int (a1 &&& (255 : Int32))]) (rest := [.int (s1 ||| s2), .ref q7]) (st := [.int (a1 &&& (255 : Int32)), .int (s1 ||| s2), .ref q7]) S hK hA hP hD hS Fr_nil (kcJ6_bitCount_0f7a4 l D cB cI  H.size (a1 &&& (255 : Int32)) () _ hw) (va_cwS 1 hts gX0_byAnswer_J6_bitCount_0f7a4 rfl rfl rfl (by decide +kernel) ⟨Nat.le_of_ble_eq_true rfl, Nat.le_of_ble_eq_true rfl⟩) tru_h tru_b rfl rfl hl.1 (Nat.le_of_ble_eq_true rfl) dX0_byAnswer_66 ⟨Nat.zero_le _, Nat.zero_le _⟩ (fun r6 u5 H locs hP hD hS hw => ?_)
    replace hP : va_P D vwCl (WA q7 (s1 ||| s2)) H := hP
    replace hD : va_D A (WA q7 (s1 ||| s2)) := hD
    refine lv_iconst (v := (1 : Int32)) hx hb dX0_byAnswer_69 (by decide) ?_
    refine lv_iand hx hb dX0_byAnswer_70 ?_
    refine lv_if_ne (tgt := 78) hx hb dX0_byAnswer_71 (by decide) (fun c7 => ?_) (fun c7 => ?_)
    · replace hw := hw.2 c7
      refine lv_iconst (v := (0 : Int32)) hx hb dX0_byAnswer_78 (by decide) ?_
      exact b79 (s1 ||| s2) (0 : Int32) (s1 ||| s2) H locs ls hP hD hS (lv_sub hl [1] rfl) hw
    · replace hw := hw.1 c7
      refine lv_iconst (v := (4 : Int32)) hx hb dX0_byAnswer_74 (by decide) ?_
      refine lv_goto (tgt := 79) hx hb dX0_byAnswer_75 (by decide) ?_
      exact b79 (s1 ||| s2) (4 : Int32) (s1 ||| s2) H locs ls hP hD hS (lv_sub hl [1] rfl) hw
  have b27 : ∀ (s1 : Int32) (s2 : Int32) (u : Int32) (H : Heap) (locs : List Loc) (ls : Array Slot), va_P D vwCl (WA q7 u) H → va_D A (WA q7 u) → va_S A s.heap H locs → lv_has ls 3 [(0, .ref q7), (1, .int a1), (2, .int a2)] → wX0_byAnswer_b27 a1 a2 P s1 s2 u → W p l e ({ frames := 1, cells := 0, slots := 0, locals := 20 } : Room) s m ([.ref q7, .int a1, .int a2] : List Value).toArray below meth c H locs 0 0 (MQ below (va_Qi P (fun u t => va_P D vwCl (WA q7 u) t.heap) A) ([.ref q7, .int a1, .int a2] : List Value).toArray s 0 0 A) (F0 m 27 ls [.int s2, .int s1, .ref q7]) := by
    intro s1 s2 u H locs ls hP hD hS hl hw
    unfold wX0_byAnswer_b27 at hw
    refine lv_ior hx hb dX0_byAnswer_27 ?_
    refine va_put (D := D) (ci := 0) (v := .int (s1 ||| s2)) (ty := .int) (C := RX0) (T := TX0) (N := 1) hx hb hts i_X0 tyX0 tyX0_ok nmX0 hown hK hP hD hS 0 rfl rfl 0 (by decide) f_9 (fun _ h9 => h9) rfl (by decide +kernel) rfl rfl (Nat.le_of_ble_eq_true rfl) dX0_byAnswer_28 (fun H locs hP hD hS => ?_)
    replace hP : va_P D vwCl (WA q7 (s1 ||| s2)) H := hP
    replace hD : va_D A (WA q7 (s1 ||| s2)) := hD
    refine lv_aload_n hx hb dX0_byAnswer_31 rfl (lv_at hl 0 rfl) ?_
    refine lv_dup hx hb dX0_byAnswer_32 rfl ?_
    refine va_get (D := D) (ci := 0) (v := .int (s1 ||| s2)) (C := RX0) (T := TX0) (N := 1) hx hb hts i_X0 hown hK hP 0 rfl rfl 0 (by decide) f_9 (fun _ h9 => h9) rfl dX0_byAnswer_33 ?_
    refine lv_iload_n hx hb dX0_byAnswer_36 rfl (lv_at hl 1 rfl) ?_
    refine lv_iload_n hx hb dX0_byAnswer_37 rfl (lv_at hl 2 rfl) ?_
    refine cl_Si (As := [.int a2]) (rest := [.int a1, .int (s1 ||| s2), .ref q7]) (st := [.int a2, .int a1, .int (s1 ||| s2), .ref q7]) S hK hA hP hD hS Fr_nil (kcX0_highest l D cB cI  H.size a2 () _ hw) (va_cwS 1 hts gX0_byAnswer_X0_highest rfl rfl rfl (by decide +kernel) ⟨Nat.le_of_ble_eq_true rfl, Nat.le_of_ble_eq_true rfl⟩) tru_h tru_b rfl rfl hl.1 (Nat.le_of_ble_eq_true rfl) dX0_byAnswer_38 ⟨Nat.zero_le _, Nat.zero_le _⟩ (fun r3 u2 H locs hP hD hS hw => ?_)
    replace hP : va_P D vwCl (WA q7 (s1 ||| s2)) H := hP
    replace hD : va_D A (WA q7 (s1 ||| s2)) := hD
    refine lv_iand hx hb dX0_byAnswer_41 ?_
    refine lv_if_eq (tgt := 51) hx hb dX0_byAnswer_42 (by decide) (fun c4 => ?_) (fun c4 => ?_)
    · replace hw := hw.1 c4
      refine lv_iconst (v := (0 : Int32)) hx hb dX0_byAnswer_51 (by decide) ?_
      exact b52 (s1 ||| s2) (0 : Int32) (s1 ||| s2) H locs ls hP hD hS (lv_sub hl [0, 1] rfl) hw
    · replace hw := hw.2 c4
      refine lv_sipush (v := (128 : Int32)) hx hb dX0_byAnswer_45 (by decide) ?_
      refine lv_goto (tgt := 52) hx hb dX0_byAnswer_48 (by decide) ?_
      exact b52 (s1 ||| s2) (128 : Int32) (s1 ||| s2) H locs ls hP hD hS (lv_sub hl [0, 1] rfl) hw
  unfold wX0_byAnswer at hw
  obtain ⟨H, eH⟩ : ∃ H, H = s.heap := ⟨_, rfl⟩
  obtain ⟨locs, eL⟩ : ∃ locs : List Loc, locs = [] := ⟨_, rfl⟩
  replace hP : va_P D vwCl (WA q7 u) H := by rw [eH]; exact hP
  replace hS : va_S A s.heap H locs := by rw [eH, eL]; exact hS
  suffices hgo : W p l e ({ frames := 1, cells := 0, slots := 0, locals := 20 } : Room) s m ([.ref q7, .int a1, .int a2] : List Value).toArray below meth c H locs 0 0 (MQ below (va_Qi P (fun u t => va_P D vwCl (WA q7 u) t.heap) A) ([.ref q7, .int a1, .int a2] : List Value).toArray s 0 0 A) (F0 m 0 ls []) by rw [eH, eL] at hgo; exact hgo
  clear eH eL
  refine lv_aload_n hx hb dX0_byAnswer_0 rfl (lv_at hl 0 rfl) ?_
  refine lv_dup hx hb dX0_byAnswer_1 rfl ?_
  refine va_get (D := D) (ci := 0) (v := .int u) (C := RX0) (T := TX0) (N := 1) hx hb hts i_X0 hown hK hP 0 rfl rfl 0 (by decide) f_9 (fun _ h9 => h9) rfl dX0_byAnswer_2 ?_
  refine lv_sipush (v := (-197 : Int32)) hx hb dX0_byAnswer_5 (by decide) ?_
  refine lv_iand hx hb dX0_byAnswer_8 ?_
  refine va_put (D := D) (ci := 0) (v := .int (u &&& (-197 : Int32))) (ty := .int) (C := RX0) (T := TX0) (N := 1) hx hb hts i_X0 tyX0 tyX0_ok nmX0 hown hK hP hD hS 0 rfl rfl 0 (by decide) f_9 (fun _ h9 => h9) rfl (by decide +kernel) rfl rfl (Nat.le_of_ble_eq_true rfl) dX0_byAnswer_9 (fun H locs hP hD hS => ?_)
  replace hP : va_P D vwCl (WA q7 (u &&& (-197 : Int32))) H := hP
  replace hD : va_D A (WA q7 (u &&& (-197 : Int32))) := hD
  refine lv_aload_n hx hb dX0_byAnswer_12 rfl (lv_at hl 0 rfl) ?_
  refine lv_dup hx hb dX0_byAnswer_13 rfl ?_
  refine va_get (D := D) (ci := 0) (v := .int (u &&& (-197 : Int32))) (C := RX0) (T := TX0) (N := 1) hx hb hts i_X0 hown hK hP 0 rfl rfl 0 (by decide) f_9 (fun _ h9 => h9) rfl dX0_byAnswer_14 ?_
  refine lv_iload_n hx hb dX0_byAnswer_17 rfl (lv_at hl 1 rfl) ?_
  refine lv_if_ne (tgt := 26) hx hb dX0_byAnswer_18 (by decide) (fun c1 => ?_) (fun c1 => ?_)
  · replace hw := hw.2 c1
    refine lv_iconst (v := (0 : Int32)) hx hb dX0_byAnswer_26 (by decide) ?_
    exact b27 (u &&& (-197 : Int32)) (0 : Int32) (u &&& (-197 : Int32)) H locs ls hP hD hS (lv_sub hl [0, 1, 2] rfl) hw
  · replace hw := hw.1 c1
    refine lv_bipush (v := (64 : Int32)) hx hb dX0_byAnswer_21 (by decide) ?_
    refine lv_goto (tgt := 27) hx hb dX0_byAnswer_23 (by decide) ?_
    exact b27 (u &&& (-197 : Int32)) (64 : Int32) (u &&& (-197 : Int32)) H locs ls hP hD hS (lv_sub hl [0, 1, 2] rfl) hw
-- X0_bits
def wX0_bits (a1 : Int32) (a2 : Int32) (u : Int32) (P : Int32 → Int32 → Prop) : Prop := (wX0_byAnswer a1 a2 (u &&& (-2066 : Int32)) (fun r2 u1 => (P r2 u1)))
set_option maxHeartbeats 4000000 in
set_option maxRecDepth 100000 in
theorem kcX0_bits (l : Launch) (D : va_G) (cB cI : ClassId) (q7 : Nat) (sz : Nat) (a1 : Int32) (a2 : Int32) (u : Int32) (P : Int32 → Int32 → Prop) (hw : wX0_bits a1 a2 u P) : Met l yX0_bits wsX0_bits ({ frames := 2, cells := 0, slots := 0, locals := 42 } : Room) (va_Pc [.ref q7, .int a1, .int a2] (Pcw D (tyA cB cI) (WA q7 u) sz Tru)) (va_Qi P (fun u t => va_P D vwCl (WA q7 u) t.heap) (va_A (WA q7 u) sz)) 0 0 (va_A (WA q7 u) sz) := by
  refine en_ (cc := cX0_bits) (maxL := 3) (ret := (some .int)) (own := RX0) (lv := [(0, .ref q7), (1, .int a1), (2, .int a2)]) (Qf := fun A => va_Qi P (fun u t => va_P D vwCl (WA q7 u) t.heap) A) (by decide) rfl rfl (Nat.le_of_ble_eq_true rfl) rfl ?_
  intro p e s m below meth c A ls S hr hlk hname hsz hP hK hD hA hSub hS hE hl
  have hx := S.1
  have hb := S.2.1
  have hown := S.2.2.2.1
  have hts := S.2.2.2.2
  have i_X0 : ∀ w ∈ u_ws RX0 TX0 1, w ∈ wsX0_bits := by decide +kernel
  have f_9 := hts (.fieldLink RX0 9 "MachineCore$Arithmetic" "flags" "I") (by decide +kernel)
  unfold wX0_bits at hw
  obtain ⟨H, eH⟩ : ∃ H, H = s.heap := ⟨_, rfl⟩
  obtain ⟨locs, eL⟩ : ∃ locs : List Loc, locs = [] := ⟨_, rfl⟩
  replace hP : va_P D vwCl (WA q7 u) H := by rw [eH]; exact hP
  replace hS : va_S A s.heap H locs := by rw [eH, eL]; exact hS
  suffices hgo : W p l e ({ frames := 2, cells := 0, slots := 0, locals := 42 } : Room) s m ([.ref q7, .int a1, .int a2] : List Value).toArray below meth c H locs 0 0 (MQ below (va_Qi P (fun u t => va_P D vwCl (WA q7 u) t.heap) A) ([.ref q7, .int a1, .int a2] : List Value).toArray s 0 0 A) (F0 m 0 ls []) by rw [eH, eL] at hgo; exact hgo
  clear eH eL
  refine lv_aload_n hx hb dX0_bits_0 rfl (lv_at hl 0 rfl) ?_
  refine lv_dup hx hb dX0_bits_1 rfl ?_
  refine va_get (D := D) (ci := 0) (v := .int u) (C := RX0) (T := TX0) (N := 1) hx hb hts i_X0 hown hK hP 0 rfl rfl 0 (by decide) f_9 (fun _ h9 => h9) rfl dX0_bits_2 ?_
  refine lv_sipush (v := (-2066 : Int32)) hx hb dX0_bits_5 (by decide) ?_
  refine lv_iand hx hb dX0_bits_8 ?_
  refine va_put (D := D) (ci := 0) (v := .int (u &&& (-2066 : Int32))) (ty := .int) (C := RX0) (T := TX0) (N := 1) hx hb hts i_X0 tyX0 tyX0_ok nmX0 hown hK hP hD hS 0 rfl rfl 0 (by decide) f_9 (fun _ h9 => h9) rfl (by decide +kernel) rfl rfl (Nat.le_of_ble_eq_true rfl) dX0_bits_9 (fun H locs hP hD hS => ?_)
  replace hP : va_P D vwCl (WA q7 (u &&& (-2066 : Int32))) H := hP
  replace hD : va_D A (WA q7 (u &&& (-2066 : Int32))) := hD
  refine lv_aload_n hx hb dX0_bits_12 rfl (lv_at hl 0 rfl) ?_
  refine lv_iload_n hx hb dX0_bits_13 rfl (lv_at hl 1 rfl) ?_
  refine lv_iload_n hx hb dX0_bits_14 rfl (lv_at hl 2 rfl) ?_
  refine cl_Vi (As := [.int a1, .int a2]) (rest := []) (st := [.int a2, .int a1, .ref q7]) S hK hA hP hD hS (fr_A (u &&& (-2066 : Int32))) (kcX0_byAnswer l D cB cI q7 H.size a1 a2 (u &&& (-2066 : Int32)) _ hw) (cwV 2 hts gX0_bits_X0_byAnswer rfl rfl rfl (by decide +kernel) ⟨Nat.le_of_ble_eq_true rfl, Nat.le_of_ble_eq_true rfl⟩) tru_h tru_b 0 rfl rfl rfl rfl rfl hl.1 (Nat.le_of_ble_eq_true rfl) dX0_bits_15 ⟨Nat.zero_le _, Nat.zero_le _⟩ (fun r2 u1 H locs hP hD hS hw => ?_)
  replace hP : va_P D vwCl (WA q7 u1) H := hP
  replace hD : va_D A (WA q7 u1) := hD
  exact rt_i (wo := (fun v => WA q7 v)) S hr hlk u1 hP hS hw dX0_bits_18
-- X0_settle
def wX0_settle_b64 (a1 : Int32) (a2 : Int32) (a3 : Int32) (a4 : Int32) (P : Int32 → Int32 → Prop) (x5 : Int32) (s2 : Int32) (u : Int32) : Prop := (wX0_mark (2048 : Int32) s2 u (fun u12 => (P x5 u12)))
def wX0_settle_b41 (a1 : Int32) (a2 : Int32) (a3 : Int32) (a4 : Int32) (P : Int32 → Int32 → Prop) (x5 : Int32) (s2 : Int32) (u : Int32) : Prop := (wX0_mark (16 : Int32) s2 u (fun u7 => (wX0_signed x5 a4 () (fun r10 u9 => ((a2 = r10 → (wX0_settle_b64 a1 a2 a3 a4 P x5 (0 : Int32) u7)) ∧ (¬ a2 = r10 → (wX0_settle_b64 a1 a2 a3 a4 P x5 (1 : Int32) u7)))))))
def wX0_settle_b22 (a1 : Int32) (a2 : Int32) (a3 : Int32) (a4 : Int32) (P : Int32 → Int32 → Prop) (x5 : Int32) (s2 : Int32) (u : Int32) : Prop := (wX0_mark (1 : Int32) s2 u (fun u4 => (((a3 &&& (15 : Int32)) = a3 → (wX0_settle_b41 a1 a2 a3 a4 P x5 (0 : Int32) u4)) ∧ (¬ (a3 &&& (15 : Int32)) = a3 → (wX0_settle_b41 a1 a2 a3 a4 P x5 (1 : Int32) u4)))))
def wX0_settle (a1 : Int32) (a2 : Int32) (a3 : Int32) (a4 : Int32) (u : Int32) (P : Int32 → Int32 → Prop) : Prop := (wX0_mask a4 () (fun r2 u1 => ((a1 = (a1 &&& r2) → (wX0_settle_b22 a1 a2 a3 a4 P (a1 &&& r2) (0 : Int32) u)) ∧ (¬ a1 = (a1 &&& r2) → (wX0_settle_b22 a1 a2 a3 a4 P (a1 &&& r2) (1 : Int32) u)))))
set_option maxHeartbeats 4000000 in
set_option maxRecDepth 100000 in
theorem kcX0_settle (l : Launch) (D : va_G) (cB cI : ClassId) (q7 : Nat) (sz : Nat) (a1 : Int32) (a2 : Int32) (a3 : Int32) (a4 : Int32) (u : Int32) (P : Int32 → Int32 → Prop) (hw : wX0_settle a1 a2 a3 a4 u P) : Met l yX0_settle wsX0_settle ({ frames := 1, cells := 0, slots := 0, locals := 22 } : Room) (va_Pc [.ref q7, .int a1, .int a2, .int a3, .int a4] (Pcw D (tyA cB cI) (WA q7 u) sz Tru)) (va_Qi P (fun u t => va_P D vwCl (WA q7 u) t.heap) (va_A (WA q7 u) sz)) 0 0 (va_A (WA q7 u) sz) := by
  refine en_ (cc := cX0_settle) (maxL := 6) (ret := (some .int)) (own := RX0) (lv := [(0, .ref q7), (1, .int a1), (2, .int a2), (3, .int a3), (4, .int a4)]) (Qf := fun A => va_Qi P (fun u t => va_P D vwCl (WA q7 u) t.heap) A) (by decide) rfl rfl (Nat.le_of_ble_eq_true rfl) rfl ?_
  intro p e s m below meth c A ls S hr hlk hname hsz hP hK hD hA hSub hS hE hl
  have hx := S.1
  have hb := S.2.1
  have hown := S.2.2.2.1
  have hts := S.2.2.2.2
  have b64 : ∀ (x5 : Int32) (s2 : Int32) (u : Int32) (H : Heap) (locs : List Loc) (ls : Array Slot), va_P D vwCl (WA q7 u) H → va_D A (WA q7 u) → va_S A s.heap H locs → lv_has ls 6 [(5, .int x5)] → wX0_settle_b64 a1 a2 a3 a4 P x5 s2 u → W p l e ({ frames := 1, cells := 0, slots := 0, locals := 22 } : Room) s m ([.ref q7, .int a1, .int a2, .int a3, .int a4] : List Value).toArray below meth c H locs 0 0 (MQ below (va_Qi P (fun u t => va_P D vwCl (WA q7 u) t.heap) A) ([.ref q7, .int a1, .int a2, .int a3, .int a4] : List Value).toArray s 0 0 A) (F0 m 64 ls [.int s2, .int (2048 : Int32), .ref q7]) := by
    intro x5 s2 u H locs ls hP hD hS hl hw
    unfold wX0_settle_b64 at hw
    refine cl_Vv (As := [.int (2048 : Int32), .int s2]) (rest := []) (st := [.int s2, .int (2048 : Int32), .ref q7]) S hK hA hP hD hS (fr_A u) (kcX0_mark l D cB cI q7 H.size (2048 : Int32) s2 u _ hw) (cwV 2 hts gX0_settle_X0_mark rfl rfl rfl (by decide +kernel) ⟨Nat.le_of_ble_eq_true rfl, Nat.le_of_ble_eq_true rfl⟩) tru_h tru_b 0 rfl rfl rfl rfl rfl hl.1 (Nat.le_of_ble_eq_true rfl) dX0_settle_64 ⟨Nat.zero_le _, Nat.zero_le _⟩ (fun u12 H locs hP hD hS hw => ?_)
    replace hP : va_P D vwCl (WA q7 u12) H := hP
    replace hD : va_D A (WA q7 u12) := hD
    refine lv_iload hx hb dX0_settle_67 (lv_at hl 0 rfl) ?_
    exact rt_i (wo := (fun v => WA q7 v)) S hr hlk u12 hP hS hw dX0_settle_69
  have b41 : ∀ (x5 : Int32) (s2 : Int32) (u : Int32) (H : Heap) (locs : List Loc) (ls : Array Slot), va_P D vwCl (WA q7 u) H → va_D A (WA q7 u) → va_S A s.heap H locs → lv_has ls 6 [(0, .ref q7), (2, .int a2), (4, .int a4), (5, .int x5)] → wX0_settle_b41 a1 a2 a3 a4 P x5 s2 u → W p l e ({ frames := 1, cells := 0, slots := 0, locals := 22 } : Room) s m ([.ref q7, .int a1, .int a2, .int a3, .int a4] : List Value).toArray below meth c H locs 0 0 (MQ below (va_Qi P (fun u t => va_P D vwCl (WA q7 u) t.heap) A) ([.ref q7, .int a1, .int a2, .int a3, .int a4] : List Value).toArray s 0 0 A) (F0 m 41 ls [.int s2, .int (16 : Int32), .ref q7]) := by
    intro x5 s2 u H locs ls hP hD hS hl hw
    unfold wX0_settle_b41 at hw
    refine cl_Vv (As := [.int (16 : Int32), .int s2]) (rest := []) (st := [.int s2, .int (16 : Int32), .ref q7]) S hK hA hP hD hS (fr_A u) (kcX0_mark l D cB cI q7 H.size (16 : Int32) s2 u _ hw) (cwV 2 hts gX0_settle_X0_mark rfl rfl rfl (by decide +kernel) ⟨Nat.le_of_ble_eq_true rfl, Nat.le_of_ble_eq_true rfl⟩) tru_h tru_b 0 rfl rfl rfl rfl rfl hl.1 (Nat.le_of_ble_eq_true rfl) dX0_settle_41 ⟨Nat.zero_le _, Nat.zero_le _⟩ (fun u7 H locs hP hD hS hw => ?_)
    replace hP : va_P D vwCl (WA q7 u7) H := hP
    replace hD : va_D A (WA q7 u7) := hD
    refine lv_aload_n hx hb dX0_settle_44 rfl (lv_at hl 0 rfl) ?_
    refine lv_sipush (v := (2048 : Int32)) hx hb dX0_settle_45 (by decide) ?_
    refine lv_iload_n hx hb dX0_settle_48 rfl (lv_at hl 1 rfl) ?_
    refine lv_iload hx hb dX0_settle_49 (lv_at hl 3 rfl) ?_
    refine lv_iload hx hb dX0_settle_51 (lv_at hl 2 rfl) ?_
    refine cl_Si (As := [.int x5, .int a4]) (rest := [.int a2, .int (2048 : Int32), .ref q7]) (st := [.int a4, .int x5, .int a2, .int (2048 : Int32), .ref q7]) S hK hA hP hD hS Fr_nil (kcX0_signed l D cB cI  H.size x5 a4 () _ hw) (va_cwS 2 hts gX0_settle_X0_signed rfl rfl rfl (by decide +kernel) ⟨Nat.le_of_ble_eq_true rfl, Nat.le_of_ble_eq_true rfl⟩) tru_h tru_b rfl rfl hl.1 (Nat.le_of_ble_eq_true rfl) dX0_settle_53 ⟨Nat.zero_le _, Nat.zero_le _⟩ (fun r10 u9 H locs hP hD hS hw => ?_)
    replace hP : va_P D vwCl (WA q7 u7) H := hP
    replace hD : va_D A (WA q7 u7) := hD
    refine lv_icmp_eq (tgt := 63) hx hb dX0_settle_56 (by decide) (fun c11 => ?_) (fun c11 => ?_)
    · replace hw := hw.1 c11
      refine lv_iconst (v := (0 : Int32)) hx hb dX0_settle_63 (by decide) ?_
      exact b64 x5 (0 : Int32) u7 H locs ls hP hD hS (lv_sub hl [3] rfl) hw
    · replace hw := hw.2 c11
      refine lv_iconst (v := (1 : Int32)) hx hb dX0_settle_59 (by decide) ?_
      refine lv_goto (tgt := 64) hx hb dX0_settle_60 (by decide) ?_
      exact b64 x5 (1 : Int32) u7 H locs ls hP hD hS (lv_sub hl [3] rfl) hw
  have b22 : ∀ (x5 : Int32) (s2 : Int32) (u : Int32) (H : Heap) (locs : List Loc) (ls : Array Slot), va_P D vwCl (WA q7 u) H → va_D A (WA q7 u) → va_S A s.heap H locs → lv_has ls 6 [(0, .ref q7), (2, .int a2), (3, .int a3), (4, .int a4), (5, .int x5)] → wX0_settle_b22 a1 a2 a3 a4 P x5 s2 u → W p l e ({ frames := 1, cells := 0, slots := 0, locals := 22 } : Room) s m ([.ref q7, .int a1, .int a2, .int a3, .int a4] : List Value).toArray below meth c H locs 0 0 (MQ below (va_Qi P (fun u t => va_P D vwCl (WA q7 u) t.heap) A) ([.ref q7, .int a1, .int a2, .int a3, .int a4] : List Value).toArray s 0 0 A) (F0 m 22 ls [.int s2, .int (1 : Int32), .ref q7]) := by
    intro x5 s2 u H locs ls hP hD hS hl hw
    unfold wX0_settle_b22 at hw
    refine cl_Vv (As := [.int (1 : Int32), .int s2]) (rest := []) (st := [.int s2, .int (1 : Int32), .ref q7]) S hK hA hP hD hS (fr_A u) (kcX0_mark l D cB cI q7 H.size (1 : Int32) s2 u _ hw) (cwV 2 hts gX0_settle_X0_mark rfl rfl rfl (by decide +kernel) ⟨Nat.le_of_ble_eq_true rfl, Nat.le_of_ble_eq_true rfl⟩) tru_h tru_b 0 rfl rfl rfl rfl rfl hl.1 (Nat.le_of_ble_eq_true rfl) dX0_settle_22 ⟨Nat.zero_le _, Nat.zero_le _⟩ (fun u4 H locs hP hD hS hw => ?_)
    replace hP : va_P D vwCl (WA q7 u4) H := hP
    replace hD : va_D A (WA q7 u4) := hD
    refine lv_aload_n hx hb dX0_settle_25 rfl (lv_at hl 0 rfl) ?_
    refine lv_bipush (v := (16 : Int32)) hx hb dX0_settle_26 (by decide) ?_
    refine lv_iload_n hx hb dX0_settle_28 rfl (lv_at hl 2 rfl) ?_
    refine lv_bipush (v := (15 : Int32)) hx hb dX0_settle_29 (by decide) ?_
    refine lv_iand hx hb dX0_settle_31 ?_
    refine lv_iload_n hx hb dX0_settle_32 rfl (lv_at hl 2 rfl) ?_
    refine lv_icmp_eq (tgt := 40) hx hb dX0_settle_33 (by decide) (fun c6 => ?_) (fun c6 => ?_)
    · replace hw := hw.1 c6
      refine lv_iconst (v := (0 : Int32)) hx hb dX0_settle_40 (by decide) ?_
      exact b41 x5 (0 : Int32) u4 H locs ls hP hD hS (lv_sub hl [0, 1, 3, 4] rfl) hw
    · replace hw := hw.2 c6
      refine lv_iconst (v := (1 : Int32)) hx hb dX0_settle_36 (by decide) ?_
      refine lv_goto (tgt := 41) hx hb dX0_settle_37 (by decide) ?_
      exact b41 x5 (1 : Int32) u4 H locs ls hP hD hS (lv_sub hl [0, 1, 3, 4] rfl) hw
  unfold wX0_settle at hw
  obtain ⟨H, eH⟩ : ∃ H, H = s.heap := ⟨_, rfl⟩
  obtain ⟨locs, eL⟩ : ∃ locs : List Loc, locs = [] := ⟨_, rfl⟩
  replace hP : va_P D vwCl (WA q7 u) H := by rw [eH]; exact hP
  replace hS : va_S A s.heap H locs := by rw [eH, eL]; exact hS
  suffices hgo : W p l e ({ frames := 1, cells := 0, slots := 0, locals := 22 } : Room) s m ([.ref q7, .int a1, .int a2, .int a3, .int a4] : List Value).toArray below meth c H locs 0 0 (MQ below (va_Qi P (fun u t => va_P D vwCl (WA q7 u) t.heap) A) ([.ref q7, .int a1, .int a2, .int a3, .int a4] : List Value).toArray s 0 0 A) (F0 m 0 ls []) by rw [eH, eL] at hgo; exact hgo
  clear eH eL
  refine lv_iload_n hx hb dX0_settle_0 rfl (lv_at hl 1 rfl) ?_
  refine lv_iload hx hb dX0_settle_1 (lv_at hl 4 rfl) ?_
  refine cl_Si (As := [.int a4]) (rest := [.int a1]) (st := [.int a4, .int a1]) S hK hA hP hD hS Fr_nil (kcX0_mask l D cB cI  H.size a4 () _ hw) (va_cwS 1 hts gX0_settle_X0_mask rfl rfl rfl (by decide +kernel) ⟨Nat.le_of_ble_eq_true rfl, Nat.le_of_ble_eq_true rfl⟩) tru_h tru_b rfl rfl hl.1 (Nat.le_of_ble_eq_true rfl) dX0_settle_3 ⟨Nat.zero_le _, Nat.zero_le _⟩ (fun r2 u1 H locs hP hD hS hw => ?_)
  replace hP : va_P D vwCl (WA q7 u) H := hP
  replace hD : va_D A (WA q7 u) := hD
  refine lv_iand hx hb dX0_settle_6 ?_
  refine lv_istore (lv' := [(5, .int (a1 &&& r2)), (0, .ref q7), (1, .int a1), (2, .int a2), (3, .int a3), (4, .int a4)]) hx hb dX0_settle_7 hl (by decide) rfl (fun ls hl => ?_)
  refine lv_aload_n hx hb dX0_settle_9 rfl (lv_at hl 1 rfl) ?_
  refine lv_iconst (v := (1 : Int32)) hx hb dX0_settle_10 (by decide) ?_
  refine lv_iload_n hx hb dX0_settle_11 rfl (lv_at hl 2 rfl) ?_
  refine lv_iload hx hb dX0_settle_12 (lv_at hl 0 rfl) ?_
  refine lv_icmp_eq (tgt := 21) hx hb dX0_settle_14 (by decide) (fun c3 => ?_) (fun c3 => ?_)
  · replace hw := hw.1 c3
    refine lv_iconst (v := (0 : Int32)) hx hb dX0_settle_21 (by decide) ?_
    exact b22 (a1 &&& r2) (0 : Int32) u H locs ls hP hD hS (lv_sub hl [1, 3, 4, 5, 0] rfl) hw
  · replace hw := hw.2 c3
    refine lv_iconst (v := (1 : Int32)) hx hb dX0_settle_17 (by decide) ?_
    refine lv_goto (tgt := 22) hx hb dX0_settle_18 (by decide) ?_
    exact b22 (a1 &&& r2) (1 : Int32) u H locs ls hP hD hS (lv_sub hl [1, 3, 4, 5, 0] rfl) hw
-- X0_difference
def wX0_difference (a1 : Int32) (a2 : Int32) (a3 : Int32) (a4 : Int32) (u : Int32) (P : Int32 → Int32 → Prop) : Prop := (wX0_signed a1 a4 () (fun r2 u1 => (wX0_signed a2 a4 () (fun r4 u3 => (wX0_settle ((a1 - a2) - a3) ((r2 - r4) - a3) (((a1 &&& (15 : Int32)) - (a2 &&& (15 : Int32))) - a3) a4 u (fun r6 u5 => (wX0_byAnswer r6 a4 u5 (fun r8 u7 => (P r8 u7)))))))))
set_option maxHeartbeats 4000000 in
set_option maxRecDepth 100000 in
theorem kcX0_difference (l : Launch) (D : va_G) (cB cI : ClassId) (q7 : Nat) (sz : Nat) (a1 : Int32) (a2 : Int32) (a3 : Int32) (a4 : Int32) (u : Int32) (P : Int32 → Int32 → Prop) (hw : wX0_difference a1 a2 a3 a4 u P) : Met l yX0_difference wsX0_difference ({ frames := 2, cells := 0, slots := 0, locals := 47 } : Room) (va_Pc [.ref q7, .int a1, .int a2, .int a3, .int a4] (Pcw D (tyA cB cI) (WA q7 u) sz Tru)) (va_Qi P (fun u t => va_P D vwCl (WA q7 u) t.heap) (va_A (WA q7 u) sz)) 0 0 (va_A (WA q7 u) sz) := by
  refine en_ (cc := cX0_difference) (maxL := 6) (ret := (some .int)) (own := RX0) (lv := [(0, .ref q7), (1, .int a1), (2, .int a2), (3, .int a3), (4, .int a4)]) (Qf := fun A => va_Qi P (fun u t => va_P D vwCl (WA q7 u) t.heap) A) (by decide) rfl rfl (Nat.le_of_ble_eq_true rfl) rfl ?_
  intro p e s m below meth c A ls S hr hlk hname hsz hP hK hD hA hSub hS hE hl
  have hx := S.1
  have hb := S.2.1
  have hown := S.2.2.2.1
  have hts := S.2.2.2.2
  unfold wX0_difference at hw
  obtain ⟨H, eH⟩ : ∃ H, H = s.heap := ⟨_, rfl⟩
  obtain ⟨locs, eL⟩ : ∃ locs : List Loc, locs = [] := ⟨_, rfl⟩
  replace hP : va_P D vwCl (WA q7 u) H := by rw [eH]; exact hP
  replace hS : va_S A s.heap H locs := by rw [eH, eL]; exact hS
  suffices hgo : W p l e ({ frames := 2, cells := 0, slots := 0, locals := 47 } : Room) s m ([.ref q7, .int a1, .int a2, .int a3, .int a4] : List Value).toArray below meth c H locs 0 0 (MQ below (va_Qi P (fun u t => va_P D vwCl (WA q7 u) t.heap) A) ([.ref q7, .int a1, .int a2, .int a3, .int a4] : List Value).toArray s 0 0 A) (F0 m 0 ls []) by rw [eH, eL] at hgo; exact hgo
  clear eH eL
  refine lv_iload_n hx hb dX0_difference_0 rfl (lv_at hl 1 rfl) ?_
  refine lv_iload hx hb dX0_difference_1 (lv_at hl 4 rfl) ?_
  refine cl_Si (As := [.int a1, .int a4]) (rest := []) (st := [.int a4, .int a1]) S hK hA hP hD hS Fr_nil (kcX0_signed l D cB cI  H.size a1 a4 () _ hw) (va_cwS 2 hts gX0_difference_X0_signed rfl rfl rfl (by decide +kernel) ⟨Nat.le_of_ble_eq_true rfl, Nat.le_of_ble_eq_true rfl⟩) tru_h tru_b rfl rfl hl.1 (Nat.le_of_ble_eq_true rfl) dX0_difference_3 ⟨Nat.zero_le _, Nat.zero_le _⟩ (fun r2 u1 H locs hP hD hS hw => ?_)
  replace hP : va_P D vwCl (WA q7 u) H := hP
  replace hD : va_D A (WA q7 u) := hD
  refine lv_iload_n hx hb dX0_difference_6 rfl (lv_at hl 2 rfl) ?_
  refine lv_iload hx hb dX0_difference_7 (lv_at hl 4 rfl) ?_
  refine cl_Si (As := [.int a2, .int a4]) (rest := [.int r2]) (st := [.int a4, .int a2, .int r2]) S hK hA hP hD hS Fr_nil (kcX0_signed l D cB cI  H.size a2 a4 () _ hw) (va_cwS 2 hts gX0_difference_X0_signed rfl rfl rfl (by decide +kernel) ⟨Nat.le_of_ble_eq_true rfl, Nat.le_of_ble_eq_true rfl⟩) tru_h tru_b rfl rfl hl.1 (Nat.le_of_ble_eq_true rfl) dX0_difference_9 ⟨Nat.zero_le _, Nat.zero_le _⟩ (fun r4 u3 H locs hP hD hS hw => ?_)
  replace hP : va_P D vwCl (WA q7 u) H := hP
  replace hD : va_D A (WA q7 u) := hD
  refine lv_isub hx hb dX0_difference_12 ?_
  refine lv_iload_n hx hb dX0_difference_13 rfl (lv_at hl 3 rfl) ?_
  refine lv_isub hx hb dX0_difference_14 ?_
  refine lv_istore (lv' := [(5, .int ((r2 - r4) - a3)), (0, .ref q7), (1, .int a1), (2, .int a2), (3, .int a3), (4, .int a4)]) hx hb dX0_difference_15 hl (by decide) rfl (fun ls hl => ?_)
  refine lv_aload_n hx hb dX0_difference_17 rfl (lv_at hl 1 rfl) ?_
  refine lv_aload_n hx hb dX0_difference_18 rfl (lv_at hl 1 rfl) ?_
  refine lv_iload_n hx hb dX0_difference_19 rfl (lv_at hl 2 rfl) ?_
  refine lv_iload_n hx hb dX0_difference_20 rfl (lv_at hl 3 rfl) ?_
  refine lv_isub hx hb dX0_difference_21 ?_
  refine lv_iload_n hx hb dX0_difference_22 rfl (lv_at hl 4 rfl) ?_
  refine lv_isub hx hb dX0_difference_23 ?_
  refine lv_iload hx hb dX0_difference_24 (lv_at hl 0 rfl) ?_
  refine lv_iload_n hx hb dX0_difference_26 rfl (lv_at hl 2 rfl) ?_
  refine lv_bipush (v := (15 : Int32)) hx hb dX0_difference_27 (by decide) ?_
  refine lv_iand hx hb dX0_difference_29 ?_
  refine lv_iload_n hx hb dX0_difference_30 rfl (lv_at hl 3 rfl) ?_
  refine lv_bipush (v := (15 : Int32)) hx hb dX0_difference_31 (by decide) ?_
  refine lv_iand hx hb dX0_difference_33 ?_
  refine lv_isub hx hb dX0_difference_34 ?_
  refine lv_iload_n hx hb dX0_difference_35 rfl (lv_at hl 4 rfl) ?_
  refine lv_isub hx hb dX0_difference_36 ?_
  refine lv_iload hx hb dX0_difference_37 (lv_at hl 5 rfl) ?_
  refine cl_Vi (As := [.int ((a1 - a2) - a3), .int ((r2 - r4) - a3), .int (((a1 &&& (15 : Int32)) - (a2 &&& (15 : Int32))) - a3), .int a4]) (rest := [.ref q7]) (st := [.int a4, .int (((a1 &&& (15 : Int32)) - (a2 &&& (15 : Int32))) - a3), .int ((r2 - r4) - a3), .int ((a1 - a2) - a3), .ref q7, .ref q7]) S hK hA hP hD hS (fr_A u) (kcX0_settle l D cB cI q7 H.size ((a1 - a2) - a3) ((r2 - r4) - a3) (((a1 &&& (15 : Int32)) - (a2 &&& (15 : Int32))) - a3) a4 u _ hw) (cwV 4 hts gX0_difference_X0_settle rfl rfl rfl (by decide +kernel) ⟨Nat.le_of_ble_eq_true rfl, Nat.le_of_ble_eq_true rfl⟩) tru_h tru_b 0 rfl rfl rfl rfl rfl hl.1 (Nat.le_of_ble_eq_true rfl) dX0_difference_39 ⟨Nat.zero_le _, Nat.zero_le _⟩ (fun r6 u5 H locs hP hD hS hw => ?_)
  replace hP : va_P D vwCl (WA q7 u5) H := hP
  replace hD : va_D A (WA q7 u5) := hD
  refine lv_iload hx hb dX0_difference_42 (lv_at hl 5 rfl) ?_
  refine cl_Vi (As := [.int r6, .int a4]) (rest := []) (st := [.int a4, .int r6, .ref q7]) S hK hA hP hD hS (fr_A u5) (kcX0_byAnswer l D cB cI q7 H.size r6 a4 u5 _ hw) (cwV 2 hts gX0_difference_X0_byAnswer rfl rfl rfl (by decide +kernel) ⟨Nat.le_of_ble_eq_true rfl, Nat.le_of_ble_eq_true rfl⟩) tru_h tru_b 0 rfl rfl rfl rfl rfl hl.1 (Nat.le_of_ble_eq_true rfl) dX0_difference_44 ⟨Nat.zero_le _, Nat.zero_le _⟩ (fun r8 u7 H locs hP hD hS hw => ?_)
  replace hP : va_P D vwCl (WA q7 u7) H := hP
  replace hD : va_D A (WA q7 u7) := hD
  exact rt_i (wo := (fun v => WA q7 v)) S hr hlk u7 hP hS hw dX0_difference_47
-- X0_sum
def wX0_sum (a1 : Int32) (a2 : Int32) (a3 : Int32) (a4 : Int32) (u : Int32) (P : Int32 → Int32 → Prop) : Prop := (wX0_signed a1 a4 () (fun r2 u1 => (wX0_signed a2 a4 () (fun r4 u3 => (wX0_settle ((a1 + a2) + a3) ((r2 + r4) + a3) (((a1 &&& (15 : Int32)) + (a2 &&& (15 : Int32))) + a3) a4 u (fun r6 u5 => (wX0_byAnswer r6 a4 u5 (fun r8 u7 => (P r8 u7)))))))))
set_option maxHeartbeats 4000000 in
set_option maxRecDepth 100000 in
theorem kcX0_sum (l : Launch) (D : va_G) (cB cI : ClassId) (q7 : Nat) (sz : Nat) (a1 : Int32) (a2 : Int32) (a3 : Int32) (a4 : Int32) (u : Int32) (P : Int32 → Int32 → Prop) (hw : wX0_sum a1 a2 a3 a4 u P) : Met l yX0_sum wsX0_sum ({ frames := 2, cells := 0, slots := 0, locals := 47 } : Room) (va_Pc [.ref q7, .int a1, .int a2, .int a3, .int a4] (Pcw D (tyA cB cI) (WA q7 u) sz Tru)) (va_Qi P (fun u t => va_P D vwCl (WA q7 u) t.heap) (va_A (WA q7 u) sz)) 0 0 (va_A (WA q7 u) sz) := by
  refine en_ (cc := cX0_sum) (maxL := 6) (ret := (some .int)) (own := RX0) (lv := [(0, .ref q7), (1, .int a1), (2, .int a2), (3, .int a3), (4, .int a4)]) (Qf := fun A => va_Qi P (fun u t => va_P D vwCl (WA q7 u) t.heap) A) (by decide) rfl rfl (Nat.le_of_ble_eq_true rfl) rfl ?_
  intro p e s m below meth c A ls S hr hlk hname hsz hP hK hD hA hSub hS hE hl
  have hx := S.1
  have hb := S.2.1
  have hown := S.2.2.2.1
  have hts := S.2.2.2.2
  unfold wX0_sum at hw
  obtain ⟨H, eH⟩ : ∃ H, H = s.heap := ⟨_, rfl⟩
  obtain ⟨locs, eL⟩ : ∃ locs : List Loc, locs = [] := ⟨_, rfl⟩
  replace hP : va_P D vwCl (WA q7 u) H := by rw [eH]; exact hP
  replace hS : va_S A s.heap H locs := by rw [eH, eL]; exact hS
  suffices hgo : W p l e ({ frames := 2, cells := 0, slots := 0, locals := 47 } : Room) s m ([.ref q7, .int a1, .int a2, .int a3, .int a4] : List Value).toArray below meth c H locs 0 0 (MQ below (va_Qi P (fun u t => va_P D vwCl (WA q7 u) t.heap) A) ([.ref q7, .int a1, .int a2, .int a3, .int a4] : List Value).toArray s 0 0 A) (F0 m 0 ls []) by rw [eH, eL] at hgo; exact hgo
  clear eH eL
  refine lv_iload_n hx hb dX0_sum_0 rfl (lv_at hl 1 rfl) ?_
  refine lv_iload hx hb dX0_sum_1 (lv_at hl 4 rfl) ?_
  refine cl_Si (As := [.int a1, .int a4]) (rest := []) (st := [.int a4, .int a1]) S hK hA hP hD hS Fr_nil (kcX0_signed l D cB cI  H.size a1 a4 () _ hw) (va_cwS 2 hts gX0_sum_X0_signed rfl rfl rfl (by decide +kernel) ⟨Nat.le_of_ble_eq_true rfl, Nat.le_of_ble_eq_true rfl⟩) tru_h tru_b rfl rfl hl.1 (Nat.le_of_ble_eq_true rfl) dX0_sum_3 ⟨Nat.zero_le _, Nat.zero_le _⟩ (fun r2 u1 H locs hP hD hS hw => ?_)
  replace hP : va_P D vwCl (WA q7 u) H := hP
  replace hD : va_D A (WA q7 u) := hD
  refine lv_iload_n hx hb dX0_sum_6 rfl (lv_at hl 2 rfl) ?_
  refine lv_iload hx hb dX0_sum_7 (lv_at hl 4 rfl) ?_
  refine cl_Si (As := [.int a2, .int a4]) (rest := [.int r2]) (st := [.int a4, .int a2, .int r2]) S hK hA hP hD hS Fr_nil (kcX0_signed l D cB cI  H.size a2 a4 () _ hw) (va_cwS 2 hts gX0_sum_X0_signed rfl rfl rfl (by decide +kernel) ⟨Nat.le_of_ble_eq_true rfl, Nat.le_of_ble_eq_true rfl⟩) tru_h tru_b rfl rfl hl.1 (Nat.le_of_ble_eq_true rfl) dX0_sum_9 ⟨Nat.zero_le _, Nat.zero_le _⟩ (fun r4 u3 H locs hP hD hS hw => ?_)
  replace hP : va_P D vwCl (WA q7 u) H := hP
  replace hD : va_D A (WA q7 u) := hD
  refine lv_iadd hx hb dX0_sum_12 ?_
  refine lv_iload_n hx hb dX0_sum_13 rfl (lv_at hl 3 rfl) ?_
  refine lv_iadd hx hb dX0_sum_14 ?_
  refine lv_istore (lv' := [(5, .int ((r2 + r4) + a3)), (0, .ref q7), (1, .int a1), (2, .int a2), (3, .int a3), (4, .int a4)]) hx hb dX0_sum_15 hl (by decide) rfl (fun ls hl => ?_)
  refine lv_aload_n hx hb dX0_sum_17 rfl (lv_at hl 1 rfl) ?_
  refine lv_aload_n hx hb dX0_sum_18 rfl (lv_at hl 1 rfl) ?_
  refine lv_iload_n hx hb dX0_sum_19 rfl (lv_at hl 2 rfl) ?_
  refine lv_iload_n hx hb dX0_sum_20 rfl (lv_at hl 3 rfl) ?_
  refine lv_iadd hx hb dX0_sum_21 ?_
  refine lv_iload_n hx hb dX0_sum_22 rfl (lv_at hl 4 rfl) ?_
  refine lv_iadd hx hb dX0_sum_23 ?_
  refine lv_iload hx hb dX0_sum_24 (lv_at hl 0 rfl) ?_
  refine lv_iload_n hx hb dX0_sum_26 rfl (lv_at hl 2 rfl) ?_
  refine lv_bipush (v := (15 : Int32)) hx hb dX0_sum_27 (by decide) ?_
  refine lv_iand hx hb dX0_sum_29 ?_
  refine lv_iload_n hx hb dX0_sum_30 rfl (lv_at hl 3 rfl) ?_
  refine lv_bipush (v := (15 : Int32)) hx hb dX0_sum_31 (by decide) ?_
  refine lv_iand hx hb dX0_sum_33 ?_
  refine lv_iadd hx hb dX0_sum_34 ?_
  refine lv_iload_n hx hb dX0_sum_35 rfl (lv_at hl 4 rfl) ?_
  refine lv_iadd hx hb dX0_sum_36 ?_
  refine lv_iload hx hb dX0_sum_37 (lv_at hl 5 rfl) ?_
  refine cl_Vi (As := [.int ((a1 + a2) + a3), .int ((r2 + r4) + a3), .int (((a1 &&& (15 : Int32)) + (a2 &&& (15 : Int32))) + a3), .int a4]) (rest := [.ref q7]) (st := [.int a4, .int (((a1 &&& (15 : Int32)) + (a2 &&& (15 : Int32))) + a3), .int ((r2 + r4) + a3), .int ((a1 + a2) + a3), .ref q7, .ref q7]) S hK hA hP hD hS (fr_A u) (kcX0_settle l D cB cI q7 H.size ((a1 + a2) + a3) ((r2 + r4) + a3) (((a1 &&& (15 : Int32)) + (a2 &&& (15 : Int32))) + a3) a4 u _ hw) (cwV 4 hts gX0_sum_X0_settle rfl rfl rfl (by decide +kernel) ⟨Nat.le_of_ble_eq_true rfl, Nat.le_of_ble_eq_true rfl⟩) tru_h tru_b 0 rfl rfl rfl rfl rfl hl.1 (Nat.le_of_ble_eq_true rfl) dX0_sum_39 ⟨Nat.zero_le _, Nat.zero_le _⟩ (fun r6 u5 H locs hP hD hS hw => ?_)
  replace hP : va_P D vwCl (WA q7 u5) H := hP
  replace hD : va_D A (WA q7 u5) := hD
  refine lv_iload hx hb dX0_sum_42 (lv_at hl 5 rfl) ?_
  refine cl_Vi (As := [.int r6, .int a4]) (rest := []) (st := [.int a4, .int r6, .ref q7]) S hK hA hP hD hS (fr_A u5) (kcX0_byAnswer l D cB cI q7 H.size r6 a4 u5 _ hw) (cwV 2 hts gX0_sum_X0_byAnswer rfl rfl rfl (by decide +kernel) ⟨Nat.le_of_ble_eq_true rfl, Nat.le_of_ble_eq_true rfl⟩) tru_h tru_b 0 rfl rfl rfl rfl rfl hl.1 (Nat.le_of_ble_eq_true rfl) dX0_sum_44 ⟨Nat.zero_le _, Nat.zero_le _⟩ (fun r8 u7 H locs hP hD hS hw => ?_)
  replace hP : va_P D vwCl (WA q7 u7) H := hP
  replace hD : va_D A (WA q7 u7) := hD
  exact rt_i (wo := (fun v => WA q7 v)) S hr hlk u7 hP hS hw dX0_sum_47
-- X0_operation
def wX0_operation_b178 (a1 : Int32) (a2 : Int32) (a3 : Int32) (a4 : Int32) (P : Int32 → Int32 → Prop)  (u : Int32) : Prop := (wX0_mask a4 () (fun r34 u33 => (P ((a2 ^^^ (-1 : Int32)) &&& r34) u)))
def wX0_operation (a1 : Int32) (a2 : Int32) (a3 : Int32) (a4 : Int32) (u : Int32) (P : Int32 → Int32 → Prop) : Prop := ((a1 = (0 : Int32) → (wX0_sum a2 a3 (0 : Int32) a4 u (fun r3 u2 => (P r3 u2)))) ∧ (¬ a1 = (0 : Int32) → ((a1 = (1 : Int32) → (wX0_bits (a2 ||| a3) a4 u (fun r6 u5 => (P r6 u5)))) ∧ (¬ a1 = (1 : Int32) → ((a1 = (2 : Int32) → (wX0_sum a2 a3 (u &&& (1 : Int32)) a4 u (fun r9 u8 => (P r9 u8)))) ∧ (¬ a1 = (2 : Int32) → ((a1 = (3 : Int32) → (wX0_difference a2 a3 (u &&& (1 : Int32)) a4 u (fun r12 u11 => (P r12 u11)))) ∧ (¬ a1 = (3 : Int32) → ((a1 = (4 : Int32) → (wX0_bits (a2 &&& a3) a4 u (fun r15 u14 => (P r15 u14)))) ∧ (¬ a1 = (4 : Int32) → ((a1 = (5 : Int32) → (wX0_difference a2 a3 (0 : Int32) a4 u (fun r18 u17 => (P r18 u17)))) ∧ (¬ a1 = (5 : Int32) → ((a1 = (6 : Int32) → (wX0_bits (a2 ^^^ a3) a4 u (fun r21 u20 => (P r21 u20)))) ∧ (¬ a1 = (6 : Int32) → ((a1 = (7 : Int32) → (wX0_difference a2 a3 (0 : Int32) a4 u (fun r24 u23 => (P a2 u23)))) ∧ (¬ a1 = (7 : Int32) → ((a1 = (8 : Int32) → (wX0_bits (a2 &&& a3) a4 u (fun r27 u26 => (P a2 u26)))) ∧ (¬ a1 = (8 : Int32) → ((a1 = (9 : Int32) → (wX0_operation_b178 a1 a2 a3 a4 P u)) ∧ (¬ a1 = (9 : Int32) → ((a1 = (10 : Int32) → (wX0_operation_b178 a1 a2 a3 a4 P u)) ∧ (¬ a1 = (10 : Int32) → ((a1 = (11 : Int32) → (wX0_difference (0 : Int32) a2 (0 : Int32) a4 u (fun r32 u31 => (P r32 u31)))) ∧ (¬ a1 = (11 : Int32) → (wX0_operation_b178 a1 a2 a3 a4 P u)))))))))))))))))))))))))
set_option maxHeartbeats 4000000 in
set_option maxRecDepth 100000 in
theorem kcX0_operation (l : Launch) (D : va_G) (cB cI : ClassId) (q7 : Nat) (sz : Nat) (a1 : Int32) (a2 : Int32) (a3 : Int32) (a4 : Int32) (u : Int32) (P : Int32 → Int32 → Prop) (hw : wX0_operation a1 a2 a3 a4 u P) : Met l yX0_operation wsX0_operation ({ frames := 3, cells := 0, slots := 0, locals := 72 } : Room) (va_Pc [.ref q7, .int a1, .int a2, .int a3, .int a4] (Pcw D (tyA cB cI) (WA q7 u) sz Tru)) (va_Qi P (fun u t => va_P D vwCl (WA q7 u) t.heap) (va_A (WA q7 u) sz)) 0 0 (va_A (WA q7 u) sz) := by
  refine en_ (cc := cX0_operation) (maxL := 5) (ret := (some .int)) (own := RX0) (lv := [(0, .ref q7), (1, .int a1), (2, .int a2), (3, .int a3), (4, .int a4)]) (Qf := fun A => va_Qi P (fun u t => va_P D vwCl (WA q7 u) t.heap) A) (by decide) rfl rfl (Nat.le_of_ble_eq_true rfl) rfl ?_
  intro p e s m below meth c A ls S hr hlk hname hsz hP hK hD hA hSub hS hE hl
  have hx := S.1
  have hb := S.2.1
  have hown := S.2.2.2.1
  have hts := S.2.2.2.2
  have i_X0 : ∀ w ∈ u_ws RX0 TX0 1, w ∈ wsX0_operation := by decide +kernel
  have f_9 := hts (.fieldLink RX0 9 "MachineCore$Arithmetic" "flags" "I") (by decide +kernel)
  have b178 : ∀  (u : Int32) (H : Heap) (locs : List Loc) (ls : Array Slot), va_P D vwCl (WA q7 u) H → va_D A (WA q7 u) → va_S A s.heap H locs → lv_has ls 5 [(2, .int a2), (4, .int a4)] → wX0_operation_b178 a1 a2 a3 a4 P u → W p l e ({ frames := 3, cells := 0, slots := 0, locals := 72 } : Room) s m ([.ref q7, .int a1, .int a2, .int a3, .int a4] : List Value).toArray below meth c H locs 0 0 (MQ below (va_Qi P (fun u t => va_P D vwCl (WA q7 u) t.heap) A) ([.ref q7, .int a1, .int a2, .int a3, .int a4] : List Value).toArray s 0 0 A) (F0 m 178 ls []) := by
    intro u H locs ls hP hD hS hl hw
    unfold wX0_operation_b178 at hw
    refine lv_iload_n hx hb dX0_operation_178 rfl (lv_at hl 0 rfl) ?_
    refine lv_iconst (v := (-1 : Int32)) hx hb dX0_operation_179 (by decide) ?_
    refine lv_ixor hx hb dX0_operation_180 ?_
    refine lv_iload hx hb dX0_operation_181 (lv_at hl 1 rfl) ?_
    refine cl_Si (As := [.int a4]) (rest := [.int (a2 ^^^ (-1 : Int32))]) (st := [.int a4, .int (a2 ^^^ (-1 : Int32))]) S hK hA hP hD hS Fr_nil (kcX0_mask l D cB cI  H.size a4 () _ hw) (va_cwS 1 hts gX0_operation_X0_mask rfl rfl rfl (by decide +kernel) ⟨Nat.le_of_ble_eq_true rfl, Nat.le_of_ble_eq_true rfl⟩) tru_h tru_b rfl rfl hl.1 (Nat.le_of_ble_eq_true rfl) dX0_operation_183 ⟨Nat.zero_le _, Nat.zero_le _⟩ (fun r34 u33 H locs hP hD hS hw => ?_)
    replace hP : va_P D vwCl (WA q7 u) H := hP
    replace hD : va_D A (WA q7 u) := hD
    refine lv_iand hx hb dX0_operation_186 ?_
    exact rt_i (wo := (fun v => WA q7 v)) S hr hlk u hP hS hw dX0_operation_187
  unfold wX0_operation at hw
  obtain ⟨H, eH⟩ : ∃ H, H = s.heap := ⟨_, rfl⟩
  obtain ⟨locs, eL⟩ : ∃ locs : List Loc, locs = [] := ⟨_, rfl⟩
  replace hP : va_P D vwCl (WA q7 u) H := by rw [eH]; exact hP
  replace hS : va_S A s.heap H locs := by rw [eH, eL]; exact hS
  suffices hgo : W p l e ({ frames := 3, cells := 0, slots := 0, locals := 72 } : Room) s m ([.ref q7, .int a1, .int a2, .int a3, .int a4] : List Value).toArray below meth c H locs 0 0 (MQ below (va_Qi P (fun u t => va_P D vwCl (WA q7 u) t.heap) A) ([.ref q7, .int a1, .int a2, .int a3, .int a4] : List Value).toArray s 0 0 A) (F0 m 0 ls []) by rw [eH, eL] at hgo; exact hgo
  clear eH eL
  refine lv_iload_n hx hb dX0_operation_0 rfl (lv_at hl 1 rfl) ?_
  by_cases c1 : a1 = (0 : Int32)
  · replace hw := hw.1 c1
    refine lv_tableIn (off := 63) (tgt := 64) hx hb dX0_operation_1 (by rw [c1]; decide) (by rw [c1]; decide) (by rw [c1]; rfl) (by decide) ?_
    refine lv_aload_n hx hb dX0_operation_64 rfl (lv_at hl 0 rfl) ?_
    refine lv_iload_n hx hb dX0_operation_65 rfl (lv_at hl 2 rfl) ?_
    refine lv_iload_n hx hb dX0_operation_66 rfl (lv_at hl 3 rfl) ?_
    refine lv_iconst (v := (0 : Int32)) hx hb dX0_operation_67 (by decide) ?_
    refine lv_iload hx hb dX0_operation_68 (lv_at hl 4 rfl) ?_
    refine cl_Vi (As := [.int a2, .int a3, .int (0 : Int32), .int a4]) (rest := []) (st := [.int a4, .int (0 : Int32), .int a3, .int a2, .ref q7]) S hK hA hP hD hS (fr_A u) (kcX0_sum l D cB cI q7 H.size a2 a3 (0 : Int32) a4 u _ hw) (cwV 4 hts gX0_operation_X0_sum rfl rfl rfl (by decide +kernel) ⟨Nat.le_of_ble_eq_true rfl, Nat.le_of_ble_eq_true rfl⟩) tru_h tru_b 0 rfl rfl rfl rfl rfl hl.1 (Nat.le_of_ble_eq_true rfl) dX0_operation_70 ⟨Nat.zero_le _, Nat.zero_le _⟩ (fun r3 u2 H locs hP hD hS hw => ?_)
    replace hP : va_P D vwCl (WA q7 u2) H := hP
    replace hD : va_D A (WA q7 u2) := hD
    exact rt_i (wo := (fun v => WA q7 v)) S hr hlk u2 hP hS hw dX0_operation_73
  replace hw := hw.2 c1
  by_cases c4 : a1 = (1 : Int32)
  · replace hw := hw.1 c4
    refine lv_tableIn (off := 73) (tgt := 74) hx hb dX0_operation_1 (by rw [c4]; decide) (by rw [c4]; decide) (by rw [c4]; rfl) (by decide) ?_
    refine lv_aload_n hx hb dX0_operation_74 rfl (lv_at hl 0 rfl) ?_
    refine lv_iload_n hx hb dX0_operation_75 rfl (lv_at hl 2 rfl) ?_
    refine lv_iload_n hx hb dX0_operation_76 rfl (lv_at hl 3 rfl) ?_
    refine lv_ior hx hb dX0_operation_77 ?_
    refine lv_iload hx hb dX0_operation_78 (lv_at hl 4 rfl) ?_
    refine cl_Vi (As := [.int (a2 ||| a3), .int a4]) (rest := []) (st := [.int a4, .int (a2 ||| a3), .ref q7]) S hK hA hP hD hS (fr_A u) (kcX0_bits l D cB cI q7 H.size (a2 ||| a3) a4 u _ hw) (cwV 2 hts gX0_operation_X0_bits rfl rfl rfl (by decide +kernel) ⟨Nat.le_of_ble_eq_true rfl, Nat.le_of_ble_eq_true rfl⟩) tru_h tru_b 0 rfl rfl rfl rfl rfl hl.1 (Nat.le_of_ble_eq_true rfl) dX0_operation_80 ⟨Nat.zero_le _, Nat.zero_le _⟩ (fun r6 u5 H locs hP hD hS hw => ?_)
    replace hP : va_P D vwCl (WA q7 u5) H := hP
    replace hD : va_D A (WA q7 u5) := hD
    exact rt_i (wo := (fun v => WA q7 v)) S hr hlk u5 hP hS hw dX0_operation_83
  replace hw := hw.2 c4
  by_cases c7 : a1 = (2 : Int32)
  · replace hw := hw.1 c7
    refine lv_tableIn (off := 83) (tgt := 84) hx hb dX0_operation_1 (by rw [c7]; decide) (by rw [c7]; decide) (by rw [c7]; rfl) (by decide) ?_
    refine lv_aload_n hx hb dX0_operation_84 rfl (lv_at hl 0 rfl) ?_
    refine lv_iload_n hx hb dX0_operation_85 rfl (lv_at hl 2 rfl) ?_
    refine lv_iload_n hx hb dX0_operation_86 rfl (lv_at hl 3 rfl) ?_
    refine lv_aload_n hx hb dX0_operation_87 rfl (lv_at hl 0 rfl) ?_
    refine va_get (D := D) (ci := 0) (v := .int u) (C := RX0) (T := TX0) (N := 1) hx hb hts i_X0 hown hK hP 0 rfl rfl 0 (by decide) f_9 (fun _ h9 => h9) rfl dX0_operation_88 ?_
    refine lv_iconst (v := (1 : Int32)) hx hb dX0_operation_91 (by decide) ?_
    refine lv_iand hx hb dX0_operation_92 ?_
    refine lv_iload hx hb dX0_operation_93 (lv_at hl 4 rfl) ?_
    refine cl_Vi (As := [.int a2, .int a3, .int (u &&& (1 : Int32)), .int a4]) (rest := []) (st := [.int a4, .int (u &&& (1 : Int32)), .int a3, .int a2, .ref q7]) S hK hA hP hD hS (fr_A u) (kcX0_sum l D cB cI q7 H.size a2 a3 (u &&& (1 : Int32)) a4 u _ hw) (cwV 4 hts gX0_operation_X0_sum rfl rfl rfl (by decide +kernel) ⟨Nat.le_of_ble_eq_true rfl, Nat.le_of_ble_eq_true rfl⟩) tru_h tru_b 0 rfl rfl rfl rfl rfl hl.1 (Nat.le_of_ble_eq_true rfl) dX0_operation_95 ⟨Nat.zero_le _, Nat.zero_le _⟩ (fun r9 u8 H locs hP hD hS hw => ?_)
    replace hP : va_P D vwCl (WA q7 u8) H := hP
    replace hD : va_D A (WA q7 u8) := hD
    exact rt_i (wo := (fun v => WA q7 v)) S hr hlk u8 hP hS hw dX0_operation_98
  replace hw := hw.2 c7
  by_cases c10 : a1 = (3 : Int32)
  · replace hw := hw.1 c10
    refine lv_tableIn (off := 98) (tgt := 99) hx hb dX0_operation_1 (by rw [c10]; decide) (by rw [c10]; decide) (by rw [c10]; rfl) (by decide) ?_
    refine lv_aload_n hx hb dX0_operation_99 rfl (lv_at hl 0 rfl) ?_
    refine lv_iload_n hx hb dX0_operation_100 rfl (lv_at hl 2 rfl) ?_
    refine lv_iload_n hx hb dX0_operation_101 rfl (lv_at hl 3 rfl) ?_
    refine lv_aload_n hx hb dX0_operation_102 rfl (lv_at hl 0 rfl) ?_
    refine va_get (D := D) (ci := 0) (v := .int u) (C := RX0) (T := TX0) (N := 1) hx hb hts i_X0 hown hK hP 0 rfl rfl 0 (by decide) f_9 (fun _ h9 => h9) rfl dX0_operation_103 ?_
    refine lv_iconst (v := (1 : Int32)) hx hb dX0_operation_106 (by decide) ?_
    refine lv_iand hx hb dX0_operation_107 ?_
    refine lv_iload hx hb dX0_operation_108 (lv_at hl 4 rfl) ?_
    refine cl_Vi (As := [.int a2, .int a3, .int (u &&& (1 : Int32)), .int a4]) (rest := []) (st := [.int a4, .int (u &&& (1 : Int32)), .int a3, .int a2, .ref q7]) S hK hA hP hD hS (fr_A u) (kcX0_difference l D cB cI q7 H.size a2 a3 (u &&& (1 : Int32)) a4 u _ hw) (cwV 4 hts gX0_operation_X0_difference rfl rfl rfl (by decide +kernel) ⟨Nat.le_of_ble_eq_true rfl, Nat.le_of_ble_eq_true rfl⟩) tru_h tru_b 0 rfl rfl rfl rfl rfl hl.1 (Nat.le_of_ble_eq_true rfl) dX0_operation_110 ⟨Nat.zero_le _, Nat.zero_le _⟩ (fun r12 u11 H locs hP hD hS hw => ?_)
    replace hP : va_P D vwCl (WA q7 u11) H := hP
    replace hD : va_D A (WA q7 u11) := hD
    exact rt_i (wo := (fun v => WA q7 v)) S hr hlk u11 hP hS hw dX0_operation_113
  replace hw := hw.2 c10
  by_cases c13 : a1 = (4 : Int32)
  · replace hw := hw.1 c13
    refine lv_tableIn (off := 113) (tgt := 114) hx hb dX0_operation_1 (by rw [c13]; decide) (by rw [c13]; decide) (by rw [c13]; rfl) (by decide) ?_
    refine lv_aload_n hx hb dX0_operation_114 rfl (lv_at hl 0 rfl) ?_
    refine lv_iload_n hx hb dX0_operation_115 rfl (lv_at hl 2 rfl) ?_
    refine lv_iload_n hx hb dX0_operation_116 rfl (lv_at hl 3 rfl) ?_
    refine lv_iand hx hb dX0_operation_117 ?_
    refine lv_iload hx hb dX0_operation_118 (lv_at hl 4 rfl) ?_
    refine cl_Vi (As := [.int (a2 &&& a3), .int a4]) (rest := []) (st := [.int a4, .int (a2 &&& a3), .ref q7]) S hK hA hP hD hS (fr_A u) (kcX0_bits l D cB cI q7 H.size (a2 &&& a3) a4 u _ hw) (cwV 2 hts gX0_operation_X0_bits rfl rfl rfl (by decide +kernel) ⟨Nat.le_of_ble_eq_true rfl, Nat.le_of_ble_eq_true rfl⟩) tru_h tru_b 0 rfl rfl rfl rfl rfl hl.1 (Nat.le_of_ble_eq_true rfl) dX0_operation_120 ⟨Nat.zero_le _, Nat.zero_le _⟩ (fun r15 u14 H locs hP hD hS hw => ?_)
    replace hP : va_P D vwCl (WA q7 u14) H := hP
    replace hD : va_D A (WA q7 u14) := hD
    exact rt_i (wo := (fun v => WA q7 v)) S hr hlk u14 hP hS hw dX0_operation_123
  replace hw := hw.2 c13
  by_cases c16 : a1 = (5 : Int32)
  · replace hw := hw.1 c16
    refine lv_tableIn (off := 123) (tgt := 124) hx hb dX0_operation_1 (by rw [c16]; decide) (by rw [c16]; decide) (by rw [c16]; rfl) (by decide) ?_
    refine lv_aload_n hx hb dX0_operation_124 rfl (lv_at hl 0 rfl) ?_
    refine lv_iload_n hx hb dX0_operation_125 rfl (lv_at hl 2 rfl) ?_
    refine lv_iload_n hx hb dX0_operation_126 rfl (lv_at hl 3 rfl) ?_
    refine lv_iconst (v := (0 : Int32)) hx hb dX0_operation_127 (by decide) ?_
    refine lv_iload hx hb dX0_operation_128 (lv_at hl 4 rfl) ?_
    refine cl_Vi (As := [.int a2, .int a3, .int (0 : Int32), .int a4]) (rest := []) (st := [.int a4, .int (0 : Int32), .int a3, .int a2, .ref q7]) S hK hA hP hD hS (fr_A u) (kcX0_difference l D cB cI q7 H.size a2 a3 (0 : Int32) a4 u _ hw) (cwV 4 hts gX0_operation_X0_difference rfl rfl rfl (by decide +kernel) ⟨Nat.le_of_ble_eq_true rfl, Nat.le_of_ble_eq_true rfl⟩) tru_h tru_b 0 rfl rfl rfl rfl rfl hl.1 (Nat.le_of_ble_eq_true rfl) dX0_operation_130 ⟨Nat.zero_le _, Nat.zero_le _⟩ (fun r18 u17 H locs hP hD hS hw => ?_)
    replace hP : va_P D vwCl (WA q7 u17) H := hP
    replace hD : va_D A (WA q7 u17) := hD
    exact rt_i (wo := (fun v => WA q7 v)) S hr hlk u17 hP hS hw dX0_operation_133
  replace hw := hw.2 c16
  by_cases c19 : a1 = (6 : Int32)
  · replace hw := hw.1 c19
    refine lv_tableIn (off := 133) (tgt := 134) hx hb dX0_operation_1 (by rw [c19]; decide) (by rw [c19]; decide) (by rw [c19]; rfl) (by decide) ?_
    refine lv_aload_n hx hb dX0_operation_134 rfl (lv_at hl 0 rfl) ?_
    refine lv_iload_n hx hb dX0_operation_135 rfl (lv_at hl 2 rfl) ?_
    refine lv_iload_n hx hb dX0_operation_136 rfl (lv_at hl 3 rfl) ?_
    refine lv_ixor hx hb dX0_operation_137 ?_
    refine lv_iload hx hb dX0_operation_138 (lv_at hl 4 rfl) ?_
    refine cl_Vi (As := [.int (a2 ^^^ a3), .int a4]) (rest := []) (st := [.int a4, .int (a2 ^^^ a3), .ref q7]) S hK hA hP hD hS (fr_A u) (kcX0_bits l D cB cI q7 H.size (a2 ^^^ a3) a4 u _ hw) (cwV 2 hts gX0_operation_X0_bits rfl rfl rfl (by decide +kernel) ⟨Nat.le_of_ble_eq_true rfl, Nat.le_of_ble_eq_true rfl⟩) tru_h tru_b 0 rfl rfl rfl rfl rfl hl.1 (Nat.le_of_ble_eq_true rfl) dX0_operation_140 ⟨Nat.zero_le _, Nat.zero_le _⟩ (fun r21 u20 H locs hP hD hS hw => ?_)
    replace hP : va_P D vwCl (WA q7 u20) H := hP
    replace hD : va_D A (WA q7 u20) := hD
    exact rt_i (wo := (fun v => WA q7 v)) S hr hlk u20 hP hS hw dX0_operation_143
  replace hw := hw.2 c19
  by_cases c22 : a1 = (7 : Int32)
  · replace hw := hw.1 c22
    refine lv_tableIn (off := 143) (tgt := 144) hx hb dX0_operation_1 (by rw [c22]; decide) (by rw [c22]; decide) (by rw [c22]; rfl) (by decide) ?_
    refine lv_aload_n hx hb dX0_operation_144 rfl (lv_at hl 0 rfl) ?_
    refine lv_iload_n hx hb dX0_operation_145 rfl (lv_at hl 2 rfl) ?_
    refine lv_iload_n hx hb dX0_operation_146 rfl (lv_at hl 3 rfl) ?_
    refine lv_iconst (v := (0 : Int32)) hx hb dX0_operation_147 (by decide) ?_
    refine lv_iload hx hb dX0_operation_148 (lv_at hl 4 rfl) ?_
    refine cl_Vi (As := [.int a2, .int a3, .int (0 : Int32), .int a4]) (rest := []) (st := [.int a4, .int (0 : Int32), .int a3, .int a2, .ref q7]) S hK hA hP hD hS (fr_A u) (kcX0_difference l D cB cI q7 H.size a2 a3 (0 : Int32) a4 u _ hw) (cwV 4 hts gX0_operation_X0_difference rfl rfl rfl (by decide +kernel) ⟨Nat.le_of_ble_eq_true rfl, Nat.le_of_ble_eq_true rfl⟩) tru_h tru_b 0 rfl rfl rfl rfl rfl hl.1 (Nat.le_of_ble_eq_true rfl) dX0_operation_150 ⟨Nat.zero_le _, Nat.zero_le _⟩ (fun r24 u23 H locs hP hD hS hw => ?_)
    replace hP : va_P D vwCl (WA q7 u23) H := hP
    replace hD : va_D A (WA q7 u23) := hD
    refine lv_pop hx hb dX0_operation_153 rfl ?_
    refine lv_iload_n hx hb dX0_operation_154 rfl (lv_at hl 2 rfl) ?_
    exact rt_i (wo := (fun v => WA q7 v)) S hr hlk u23 hP hS hw dX0_operation_155
  replace hw := hw.2 c22
  by_cases c25 : a1 = (8 : Int32)
  · replace hw := hw.1 c25
    refine lv_tableIn (off := 155) (tgt := 156) hx hb dX0_operation_1 (by rw [c25]; decide) (by rw [c25]; decide) (by rw [c25]; rfl) (by decide) ?_
    refine lv_aload_n hx hb dX0_operation_156 rfl (lv_at hl 0 rfl) ?_
    refine lv_iload_n hx hb dX0_operation_157 rfl (lv_at hl 2 rfl) ?_
    refine lv_iload_n hx hb dX0_operation_158 rfl (lv_at hl 3 rfl) ?_
    refine lv_iand hx hb dX0_operation_159 ?_
    refine lv_iload hx hb dX0_operation_160 (lv_at hl 4 rfl) ?_
    refine cl_Vi (As := [.int (a2 &&& a3), .int a4]) (rest := []) (st := [.int a4, .int (a2 &&& a3), .ref q7]) S hK hA hP hD hS (fr_A u) (kcX0_bits l D cB cI q7 H.size (a2 &&& a3) a4 u _ hw) (cwV 2 hts gX0_operation_X0_bits rfl rfl rfl (by decide +kernel) ⟨Nat.le_of_ble_eq_true rfl, Nat.le_of_ble_eq_true rfl⟩) tru_h tru_b 0 rfl rfl rfl rfl rfl hl.1 (Nat.le_of_ble_eq_true rfl) dX0_operation_162 ⟨Nat.zero_le _, Nat.zero_le _⟩ (fun r27 u26 H locs hP hD hS hw => ?_)
    replace hP : va_P D vwCl (WA q7 u26) H := hP
    replace hD : va_D A (WA q7 u26) := hD
    refine lv_pop hx hb dX0_operation_165 rfl ?_
    refine lv_iload_n hx hb dX0_operation_166 rfl (lv_at hl 2 rfl) ?_
    exact rt_i (wo := (fun v => WA q7 v)) S hr hlk u26 hP hS hw dX0_operation_167
  replace hw := hw.2 c25
  by_cases c28 : a1 = (9 : Int32)
  · replace hw := hw.1 c28
    refine lv_tableIn (off := 177) (tgt := 178) hx hb dX0_operation_1 (by rw [c28]; decide) (by rw [c28]; decide) (by rw [c28]; rfl) (by decide) ?_
    exact b178 u H locs ls hP hD hS (lv_sub hl [2, 4] rfl) hw
  replace hw := hw.2 c28
  by_cases c29 : a1 = (10 : Int32)
  · replace hw := hw.1 c29
    refine lv_tableIn (off := 177) (tgt := 178) hx hb dX0_operation_1 (by rw [c29]; decide) (by rw [c29]; decide) (by rw [c29]; rfl) (by decide) ?_
    exact b178 u H locs ls hP hD hS (lv_sub hl [2, 4] rfl) hw
  replace hw := hw.2 c29
  by_cases c30 : a1 = (11 : Int32)
  · replace hw := hw.1 c30
    refine lv_tableIn (off := 167) (tgt := 168) hx hb dX0_operation_1 (by rw [c30]; decide) (by rw [c30]; decide) (by rw [c30]; rfl) (by decide) ?_
    refine lv_aload_n hx hb dX0_operation_168 rfl (lv_at hl 0 rfl) ?_
    refine lv_iconst (v := (0 : Int32)) hx hb dX0_operation_169 (by decide) ?_
    refine lv_iload_n hx hb dX0_operation_170 rfl (lv_at hl 2 rfl) ?_
    refine lv_iconst (v := (0 : Int32)) hx hb dX0_operation_171 (by decide) ?_
    refine lv_iload hx hb dX0_operation_172 (lv_at hl 4 rfl) ?_
    refine cl_Vi (As := [.int (0 : Int32), .int a2, .int (0 : Int32), .int a4]) (rest := []) (st := [.int a4, .int (0 : Int32), .int a2, .int (0 : Int32), .ref q7]) S hK hA hP hD hS (fr_A u) (kcX0_difference l D cB cI q7 H.size (0 : Int32) a2 (0 : Int32) a4 u _ hw) (cwV 4 hts gX0_operation_X0_difference rfl rfl rfl (by decide +kernel) ⟨Nat.le_of_ble_eq_true rfl, Nat.le_of_ble_eq_true rfl⟩) tru_h tru_b 0 rfl rfl rfl rfl rfl hl.1 (Nat.le_of_ble_eq_true rfl) dX0_operation_174 ⟨Nat.zero_le _, Nat.zero_le _⟩ (fun r32 u31 H locs hP hD hS hw => ?_)
    replace hP : va_P D vwCl (WA q7 u31) H := hP
    replace hD : va_D A (WA q7 u31) := hD
    exact rt_i (wo := (fun v => WA q7 v)) S hr hlk u31 hP hS hw dX0_operation_177
  replace hw := hw.2 c30
  refine lv_tableOut (tgt := 178) hx hb dX0_operation_1 (by have e_c1 : ¬ (a1 : Int32).toInt = 0 := sw_ne c1; have e_c4 : ¬ (a1 : Int32).toInt = 1 := sw_ne c4; have e_c7 : ¬ (a1 : Int32).toInt = 2 := sw_ne c7; have e_c10 : ¬ (a1 : Int32).toInt = 3 := sw_ne c10; have e_c13 : ¬ (a1 : Int32).toInt = 4 := sw_ne c13; have e_c16 : ¬ (a1 : Int32).toInt = 5 := sw_ne c16; have e_c19 : ¬ (a1 : Int32).toInt = 6 := sw_ne c19; have e_c22 : ¬ (a1 : Int32).toInt = 7 := sw_ne c22; have e_c25 : ¬ (a1 : Int32).toInt = 8 := sw_ne c25; have e_c28 : ¬ (a1 : Int32).toInt = 9 := sw_ne c28; have e_c29 : ¬ (a1 : Int32).toInt = 10 := sw_ne c29; have e_c30 : ¬ (a1 : Int32).toInt = 11 := sw_ne c30; omega) (by decide) ?_
  exact b178 u H locs ls hP hD hS (lv_sub hl [2, 4] rfl) hw
-- X0_compare
def wX0_compare (a1 : Int32) (a2 : Int32) (a3 : Int32) (u : Int32) (P : Int32 → Prop) : Prop := (wX0_difference a1 a2 (0 : Int32) a3 u (fun r2 u1 => (P u1)))
set_option maxHeartbeats 4000000 in
set_option maxRecDepth 100000 in
theorem kcX0_compare (l : Launch) (D : va_G) (cB cI : ClassId) (q7 : Nat) (sz : Nat) (a1 : Int32) (a2 : Int32) (a3 : Int32) (u : Int32) (P : Int32 → Prop) (hw : wX0_compare a1 a2 a3 u P) : Met l yX0_compare wsX0_compare ({ frames := 3, cells := 0, slots := 0, locals := 72 } : Room) (va_Pc [.ref q7, .int a1, .int a2, .int a3] (Pcw D (tyA cB cI) (WA q7 u) sz Tru)) (va_Qv P (fun u t => va_P D vwCl (WA q7 u) t.heap) (va_A (WA q7 u) sz)) 0 0 (va_A (WA q7 u) sz) := by
  refine en_ (cc := cX0_compare) (maxL := 4) (ret := none) (own := RX0) (lv := [(0, .ref q7), (1, .int a1), (2, .int a2), (3, .int a3)]) (Qf := fun A => va_Qv P (fun u t => va_P D vwCl (WA q7 u) t.heap) A) (by decide) rfl rfl (Nat.le_of_ble_eq_true rfl) rfl ?_
  intro p e s m below meth c A ls S hr hlk hname hsz hP hK hD hA hSub hS hE hl
  have hx := S.1
  have hb := S.2.1
  have hown := S.2.2.2.1
  have hts := S.2.2.2.2
  unfold wX0_compare at hw
  obtain ⟨H, eH⟩ : ∃ H, H = s.heap := ⟨_, rfl⟩
  obtain ⟨locs, eL⟩ : ∃ locs : List Loc, locs = [] := ⟨_, rfl⟩
  replace hP : va_P D vwCl (WA q7 u) H := by rw [eH]; exact hP
  replace hS : va_S A s.heap H locs := by rw [eH, eL]; exact hS
  suffices hgo : W p l e ({ frames := 3, cells := 0, slots := 0, locals := 72 } : Room) s m ([.ref q7, .int a1, .int a2, .int a3] : List Value).toArray below meth c H locs 0 0 (MQ below (va_Qv P (fun u t => va_P D vwCl (WA q7 u) t.heap) A) ([.ref q7, .int a1, .int a2, .int a3] : List Value).toArray s 0 0 A) (F0 m 0 ls []) by rw [eH, eL] at hgo; exact hgo
  clear eH eL
  refine lv_aload_n hx hb dX0_compare_0 rfl (lv_at hl 0 rfl) ?_
  refine lv_iload_n hx hb dX0_compare_1 rfl (lv_at hl 1 rfl) ?_
  refine lv_iload_n hx hb dX0_compare_2 rfl (lv_at hl 2 rfl) ?_
  refine lv_iconst (v := (0 : Int32)) hx hb dX0_compare_3 (by decide) ?_
  refine lv_iload_n hx hb dX0_compare_4 rfl (lv_at hl 3 rfl) ?_
  refine cl_Vi (As := [.int a1, .int a2, .int (0 : Int32), .int a3]) (rest := []) (st := [.int a3, .int (0 : Int32), .int a2, .int a1, .ref q7]) S hK hA hP hD hS (fr_A u) (kcX0_difference l D cB cI q7 H.size a1 a2 (0 : Int32) a3 u _ hw) (cwV 4 hts gX0_compare_X0_difference rfl rfl rfl (by decide +kernel) ⟨Nat.le_of_ble_eq_true rfl, Nat.le_of_ble_eq_true rfl⟩) tru_h tru_b 0 rfl rfl rfl rfl rfl hl.1 (Nat.le_of_ble_eq_true rfl) dX0_compare_5 ⟨Nat.zero_le _, Nat.zero_le _⟩ (fun r2 u1 H locs hP hD hS hw => ?_)
  replace hP : va_P D vwCl (WA q7 u1) H := hP
  replace hD : va_D A (WA q7 u1) := hD
  refine lv_pop hx hb dX0_compare_8 rfl ?_
  exact rt_v (wo := (fun v => WA q7 v)) S hr hlk u1 hP hS hw dX0_compare_9
-- X0_byOne
def wX0_byOne_b31 (a1 : Int32) (a2 : Int32) (a3 : Int32) (P : Int32 → Int32 → Prop) (x4 : Int32) (s0 : Int32) (u : Int32) : Prop := (P s0 ((u &&& (-2 : Int32)) ||| x4))
def wX0_byOne (a1 : Int32) (a2 : Int32) (a3 : Int32) (u : Int32) (P : Int32 → Int32 → Prop) : Prop := ((a2 = (0 : Int32) → (wX0_sum a1 (1 : Int32) (0 : Int32) a3 u (fun r3 u2 => (wX0_byOne_b31 a1 a2 a3 P (u &&& (1 : Int32)) r3 u2)))) ∧ (¬ a2 = (0 : Int32) → (wX0_difference a1 (1 : Int32) (0 : Int32) a3 u (fun r5 u4 => (wX0_byOne_b31 a1 a2 a3 P (u &&& (1 : Int32)) r5 u4)))))
set_option maxHeartbeats 4000000 in
set_option maxRecDepth 100000 in
theorem kcX0_byOne (l : Launch) (D : va_G) (cB cI : ClassId) (q7 : Nat) (sz : Nat) (a1 : Int32) (a2 : Int32) (a3 : Int32) (u : Int32) (P : Int32 → Int32 → Prop) (hw : wX0_byOne a1 a2 a3 u P) : Met l yX0_byOne wsX0_byOne ({ frames := 3, cells := 0, slots := 0, locals := 72 } : Room) (va_Pc [.ref q7, .int a1, .int a2, .int a3] (Pcw D (tyA cB cI) (WA q7 u) sz Tru)) (va_Qi P (fun u t => va_P D vwCl (WA q7 u) t.heap) (va_A (WA q7 u) sz)) 0 0 (va_A (WA q7 u) sz) := by
  refine en_ (cc := cX0_byOne) (maxL := 6) (ret := (some .int)) (own := RX0) (lv := [(0, .ref q7), (1, .int a1), (2, .int a2), (3, .int a3)]) (Qf := fun A => va_Qi P (fun u t => va_P D vwCl (WA q7 u) t.heap) A) (by decide) rfl rfl (Nat.le_of_ble_eq_true rfl) rfl ?_
  intro p e s m below meth c A ls S hr hlk hname hsz hP hK hD hA hSub hS hE hl
  have hx := S.1
  have hb := S.2.1
  have hown := S.2.2.2.1
  have hts := S.2.2.2.2
  have i_X0 : ∀ w ∈ u_ws RX0 TX0 1, w ∈ wsX0_byOne := by decide +kernel
  have f_9 := hts (.fieldLink RX0 9 "MachineCore$Arithmetic" "flags" "I") (by decide +kernel)
  have b31 : ∀ (x4 : Int32) (s0 : Int32) (u : Int32) (H : Heap) (locs : List Loc) (ls : Array Slot), va_P D vwCl (WA q7 u) H → va_D A (WA q7 u) → va_S A s.heap H locs → lv_has ls 6 [(0, .ref q7), (4, .int x4)] → wX0_byOne_b31 a1 a2 a3 P x4 s0 u → W p l e ({ frames := 3, cells := 0, slots := 0, locals := 72 } : Room) s m ([.ref q7, .int a1, .int a2, .int a3] : List Value).toArray below meth c H locs 0 0 (MQ below (va_Qi P (fun u t => va_P D vwCl (WA q7 u) t.heap) A) ([.ref q7, .int a1, .int a2, .int a3] : List Value).toArray s 0 0 A) (F0 m 31 ls [.int s0]) := by
    intro x4 s0 u H locs ls hP hD hS hl hw
    unfold wX0_byOne_b31 at hw
    refine lv_istore (lv' := [(5, .int s0), (0, .ref q7), (4, .int x4)]) hx hb dX0_byOne_31 hl (by decide) rfl (fun ls hl => ?_)
    refine lv_aload_n hx hb dX0_byOne_33 rfl (lv_at hl 1 rfl) ?_
    refine lv_aload_n hx hb dX0_byOne_34 rfl (lv_at hl 1 rfl) ?_
    refine va_get (D := D) (ci := 0) (v := .int u) (C := RX0) (T := TX0) (N := 1) hx hb hts i_X0 hown hK hP 0 rfl rfl 0 (by decide) f_9 (fun _ h9 => h9) rfl dX0_byOne_35 ?_
    refine lv_bipush (v := (-2 : Int32)) hx hb dX0_byOne_38 (by decide) ?_
    refine lv_iand hx hb dX0_byOne_40 ?_
    refine lv_iload hx hb dX0_byOne_41 (lv_at hl 2 rfl) ?_
    refine lv_ior hx hb dX0_byOne_43 ?_
    refine va_put (D := D) (ci := 0) (v := .int ((u &&& (-2 : Int32)) ||| x4)) (ty := .int) (C := RX0) (T := TX0) (N := 1) hx hb hts i_X0 tyX0 tyX0_ok nmX0 hown hK hP hD hS 0 rfl rfl 0 (by decide) f_9 (fun _ h9 => h9) rfl (by decide +kernel) rfl rfl (Nat.le_of_ble_eq_true rfl) dX0_byOne_44 (fun H locs hP hD hS => ?_)
    replace hP : va_P D vwCl (WA q7 ((u &&& (-2 : Int32)) ||| x4)) H := hP
    replace hD : va_D A (WA q7 ((u &&& (-2 : Int32)) ||| x4)) := hD
    refine lv_iload hx hb dX0_byOne_47 (lv_at hl 0 rfl) ?_
    exact rt_i (wo := (fun v => WA q7 v)) S hr hlk ((u &&& (-2 : Int32)) ||| x4) hP hS hw dX0_byOne_49
  unfold wX0_byOne at hw
  obtain ⟨H, eH⟩ : ∃ H, H = s.heap := ⟨_, rfl⟩
  obtain ⟨locs, eL⟩ : ∃ locs : List Loc, locs = [] := ⟨_, rfl⟩
  replace hP : va_P D vwCl (WA q7 u) H := by rw [eH]; exact hP
  replace hS : va_S A s.heap H locs := by rw [eH, eL]; exact hS
  suffices hgo : W p l e ({ frames := 3, cells := 0, slots := 0, locals := 72 } : Room) s m ([.ref q7, .int a1, .int a2, .int a3] : List Value).toArray below meth c H locs 0 0 (MQ below (va_Qi P (fun u t => va_P D vwCl (WA q7 u) t.heap) A) ([.ref q7, .int a1, .int a2, .int a3] : List Value).toArray s 0 0 A) (F0 m 0 ls []) by rw [eH, eL] at hgo; exact hgo
  clear eH eL
  refine lv_aload_n hx hb dX0_byOne_0 rfl (lv_at hl 0 rfl) ?_
  refine va_get (D := D) (ci := 0) (v := .int u) (C := RX0) (T := TX0) (N := 1) hx hb hts i_X0 hown hK hP 0 rfl rfl 0 (by decide) f_9 (fun _ h9 => h9) rfl dX0_byOne_1 ?_
  refine lv_iconst (v := (1 : Int32)) hx hb dX0_byOne_4 (by decide) ?_
  refine lv_iand hx hb dX0_byOne_5 ?_
  refine lv_istore (lv' := [(4, .int (u &&& (1 : Int32))), (0, .ref q7), (1, .int a1), (2, .int a2), (3, .int a3)]) hx hb dX0_byOne_6 hl (by decide) rfl (fun ls hl => ?_)
  refine lv_iload_n hx hb dX0_byOne_8 rfl (lv_at hl 3 rfl) ?_
  refine lv_if_eq (tgt := 23) hx hb dX0_byOne_9 (by decide) (fun c1 => ?_) (fun c1 => ?_)
  · replace hw := hw.1 c1
    refine lv_aload_n hx hb dX0_byOne_23 rfl (lv_at hl 1 rfl) ?_
    refine lv_iload_n hx hb dX0_byOne_24 rfl (lv_at hl 2 rfl) ?_
    refine lv_iconst (v := (1 : Int32)) hx hb dX0_byOne_25 (by decide) ?_
    refine lv_iconst (v := (0 : Int32)) hx hb dX0_byOne_26 (by decide) ?_
    refine lv_iload_n hx hb dX0_byOne_27 rfl (lv_at hl 4 rfl) ?_
    refine cl_Vi (As := [.int a1, .int (1 : Int32), .int (0 : Int32), .int a3]) (rest := []) (st := [.int a3, .int (0 : Int32), .int (1 : Int32), .int a1, .ref q7]) S hK hA hP hD hS (fr_A u) (kcX0_sum l D cB cI q7 H.size a1 (1 : Int32) (0 : Int32) a3 u _ hw) (cwV 4 hts gX0_byOne_X0_sum rfl rfl rfl (by decide +kernel) ⟨Nat.le_of_ble_eq_true rfl, Nat.le_of_ble_eq_true rfl⟩) tru_h tru_b 0 rfl rfl rfl rfl rfl hl.1 (Nat.le_of_ble_eq_true rfl) dX0_byOne_28 ⟨Nat.zero_le _, Nat.zero_le _⟩ (fun r3 u2 H locs hP hD hS hw => ?_)
    replace hP : va_P D vwCl (WA q7 u2) H := hP
    replace hD : va_D A (WA q7 u2) := hD
    exact b31 (u &&& (1 : Int32)) r3 u2 H locs ls hP hD hS (lv_sub hl [1, 0] rfl) hw
  · replace hw := hw.2 c1
    refine lv_aload_n hx hb dX0_byOne_12 rfl (lv_at hl 1 rfl) ?_
    refine lv_iload_n hx hb dX0_byOne_13 rfl (lv_at hl 2 rfl) ?_
    refine lv_iconst (v := (1 : Int32)) hx hb dX0_byOne_14 (by decide) ?_
    refine lv_iconst (v := (0 : Int32)) hx hb dX0_byOne_15 (by decide) ?_
    refine lv_iload_n hx hb dX0_byOne_16 rfl (lv_at hl 4 rfl) ?_
    refine cl_Vi (As := [.int a1, .int (1 : Int32), .int (0 : Int32), .int a3]) (rest := []) (st := [.int a3, .int (0 : Int32), .int (1 : Int32), .int a1, .ref q7]) S hK hA hP hD hS (fr_A u) (kcX0_difference l D cB cI q7 H.size a1 (1 : Int32) (0 : Int32) a3 u _ hw) (cwV 4 hts gX0_byOne_X0_difference rfl rfl rfl (by decide +kernel) ⟨Nat.le_of_ble_eq_true rfl, Nat.le_of_ble_eq_true rfl⟩) tru_h tru_b 0 rfl rfl rfl rfl rfl hl.1 (Nat.le_of_ble_eq_true rfl) dX0_byOne_17 ⟨Nat.zero_le _, Nat.zero_le _⟩ (fun r5 u4 H locs hP hD hS hw => ?_)
    replace hP : va_P D vwCl (WA q7 u4) H := hP
    replace hD : va_D A (WA q7 u4) := hD
    refine lv_goto (tgt := 31) hx hb dX0_byOne_20 (by decide) ?_
    exact b31 (u &&& (1 : Int32)) r5 u4 H locs ls hP hD hS (lv_sub hl [1, 0] rfl) hw
-- X0_comesIn
def wX0_comesIn_b50 (a1 : Int32) (a2 : Int32) (a3 : Int32) (P : Int32 → Int32 → Prop)  (u : Int32) : Prop := (wX0_has (1 : Int32) u (fun r10 u9 => (zB r10 ∧ P r10 u9)))
def wX0_comesIn (a1 : Int32) (a2 : Int32) (a3 : Int32) (u : Int32) (P : Int32 → Int32 → Prop) : Prop := ((a1 = (0 : Int32) → (zB a2 ∧ P a2 u)) ∧ (¬ a1 = (0 : Int32) → ((a1 = (1 : Int32) → (zB a2 ∧ P a2 u)) ∧ (¬ a1 = (1 : Int32) → ((a1 = (2 : Int32) → (wX0_comesIn_b50 a1 a2 a3 P u)) ∧ (¬ a1 = (2 : Int32) → ((a1 = (3 : Int32) → (wX0_comesIn_b50 a1 a2 a3 P u)) ∧ (¬ a1 = (3 : Int32) → ((a1 = (4 : Int32) → (P (0 : Int32) u)) ∧ (¬ a1 = (4 : Int32) → ((a1 = (5 : Int32) → (P (0 : Int32) u)) ∧ (¬ a1 = (5 : Int32) → ((a1 = (6 : Int32) → (P (0 : Int32) u)) ∧ (¬ a1 = (6 : Int32) → ((a1 = (7 : Int32) → (zB a3 ∧ P a3 u)) ∧ (¬ a1 = (7 : Int32) → (P (0 : Int32) u)))))))))))))))))
set_option maxHeartbeats 4000000 in
set_option maxRecDepth 100000 in
theorem kcX0_comesIn (l : Launch) (D : va_G) (cB cI : ClassId) (q7 : Nat) (sz : Nat) (a1 : Int32) (a2 : Int32) (a3 : Int32) (u : Int32) (P : Int32 → Int32 → Prop) (hw : wX0_comesIn a1 a2 a3 u P) : Met l yX0_comesIn wsX0_comesIn ({ frames := 1, cells := 0, slots := 0, locals := 21 } : Room) (va_Pc [.ref q7, .int a1, .int a2, .int a3] (Pcw D (tyA cB cI) (WA q7 u) sz Tru)) (va_Qi P (fun u t => va_P D vwCl (WA q7 u) t.heap) (va_A (WA q7 u) sz)) 0 0 (va_A (WA q7 u) sz) := by
  refine en_ (cc := cX0_comesIn) (maxL := 4) (ret := (some .boolean)) (own := RX0) (lv := [(0, .ref q7), (1, .int a1), (2, .int a2), (3, .int a3)]) (Qf := fun A => va_Qi P (fun u t => va_P D vwCl (WA q7 u) t.heap) A) (by decide) rfl rfl (Nat.le_of_ble_eq_true rfl) rfl ?_
  intro p e s m below meth c A ls S hr hlk hname hsz hP hK hD hA hSub hS hE hl
  have hx := S.1
  have hb := S.2.1
  have hown := S.2.2.2.1
  have hts := S.2.2.2.2
  have b50 : ∀  (u : Int32) (H : Heap) (locs : List Loc) (ls : Array Slot), va_P D vwCl (WA q7 u) H → va_D A (WA q7 u) → va_S A s.heap H locs → lv_has ls 4 [(0, .ref q7)] → wX0_comesIn_b50 a1 a2 a3 P u → W p l e ({ frames := 1, cells := 0, slots := 0, locals := 21 } : Room) s m ([.ref q7, .int a1, .int a2, .int a3] : List Value).toArray below meth c H locs 0 0 (MQ below (va_Qi P (fun u t => va_P D vwCl (WA q7 u) t.heap) A) ([.ref q7, .int a1, .int a2, .int a3] : List Value).toArray s 0 0 A) (F0 m 50 ls []) := by
    intro u H locs ls hP hD hS hl hw
    unfold wX0_comesIn_b50 at hw
    refine lv_aload_n hx hb dX0_comesIn_50 rfl (lv_at hl 0 rfl) ?_
    refine lv_iconst (v := (1 : Int32)) hx hb dX0_comesIn_51 (by decide) ?_
    refine cl_Vi (As := [.int (1 : Int32)]) (rest := []) (st := [.int (1 : Int32), .ref q7]) S hK hA hP hD hS (fr_A u) (kcX0_has l D cB cI q7 H.size (1 : Int32) u _ hw) (cwV 1 hts gX0_comesIn_X0_has rfl rfl rfl (by decide +kernel) ⟨Nat.le_of_ble_eq_true rfl, Nat.le_of_ble_eq_true rfl⟩) tru_h tru_b 0 rfl rfl rfl rfl rfl hl.1 (Nat.le_of_ble_eq_true rfl) dX0_comesIn_52 ⟨Nat.zero_le _, Nat.zero_le _⟩ (fun r10 u9 H locs hP hD hS hw => ?_)
    replace hP : va_P D vwCl (WA q7 u9) H := hP
    replace hD : va_D A (WA q7 u9) := hD
    exact rt_z (wo := (fun v => WA q7 v)) S hr hlk u9 hP hS hw.1 hw.2 dX0_comesIn_55
  unfold wX0_comesIn at hw
  obtain ⟨H, eH⟩ : ∃ H, H = s.heap := ⟨_, rfl⟩
  obtain ⟨locs, eL⟩ : ∃ locs : List Loc, locs = [] := ⟨_, rfl⟩
  replace hP : va_P D vwCl (WA q7 u) H := by rw [eH]; exact hP
  replace hS : va_S A s.heap H locs := by rw [eH, eL]; exact hS
  suffices hgo : W p l e ({ frames := 1, cells := 0, slots := 0, locals := 21 } : Room) s m ([.ref q7, .int a1, .int a2, .int a3] : List Value).toArray below meth c H locs 0 0 (MQ below (va_Qi P (fun u t => va_P D vwCl (WA q7 u) t.heap) A) ([.ref q7, .int a1, .int a2, .int a3] : List Value).toArray s 0 0 A) (F0 m 0 ls []) by rw [eH, eL] at hgo; exact hgo
  clear eH eL
  refine lv_iload_n hx hb dX0_comesIn_0 rfl (lv_at hl 1 rfl) ?_
  by_cases c1 : a1 = (0 : Int32)
  · replace hw := hw.1 c1
    refine lv_tableIn (off := 47) (tgt := 48) hx hb dX0_comesIn_1 (by rw [c1]; decide) (by rw [c1]; decide) (by rw [c1]; rfl) (by decide) ?_
    refine lv_iload_n hx hb dX0_comesIn_48 rfl (lv_at hl 2 rfl) ?_
    exact rt_z (wo := (fun v => WA q7 v)) S hr hlk u hP hS hw.1 hw.2 dX0_comesIn_49
  replace hw := hw.2 c1
  by_cases c2 : a1 = (1 : Int32)
  · replace hw := hw.1 c2
    refine lv_tableIn (off := 47) (tgt := 48) hx hb dX0_comesIn_1 (by rw [c2]; decide) (by rw [c2]; decide) (by rw [c2]; rfl) (by decide) ?_
    refine lv_iload_n hx hb dX0_comesIn_48 rfl (lv_at hl 2 rfl) ?_
    exact rt_z (wo := (fun v => WA q7 v)) S hr hlk u hP hS hw.1 hw.2 dX0_comesIn_49
  replace hw := hw.2 c2
  by_cases c3 : a1 = (2 : Int32)
  · replace hw := hw.1 c3
    refine lv_tableIn (off := 49) (tgt := 50) hx hb dX0_comesIn_1 (by rw [c3]; decide) (by rw [c3]; decide) (by rw [c3]; rfl) (by decide) ?_
    exact b50 u H locs ls hP hD hS (lv_sub hl [0] rfl) hw
  replace hw := hw.2 c3
  by_cases c4 : a1 = (3 : Int32)
  · replace hw := hw.1 c4
    refine lv_tableIn (off := 49) (tgt := 50) hx hb dX0_comesIn_1 (by rw [c4]; decide) (by rw [c4]; decide) (by rw [c4]; rfl) (by decide) ?_
    exact b50 u H locs ls hP hD hS (lv_sub hl [0] rfl) hw
  replace hw := hw.2 c4
  by_cases c5 : a1 = (4 : Int32)
  · replace hw := hw.1 c5
    refine lv_tableIn (off := 57) (tgt := 58) hx hb dX0_comesIn_1 (by rw [c5]; decide) (by rw [c5]; decide) (by rw [c5]; rfl) (by decide) ?_
    refine lv_iconst (v := (0 : Int32)) hx hb dX0_comesIn_58 (by decide) ?_
    exact rt_z (wo := (fun v => WA q7 v)) S hr hlk u hP hS zB_0 hw dX0_comesIn_59
  replace hw := hw.2 c5
  by_cases c6 : a1 = (5 : Int32)
  · replace hw := hw.1 c6
    refine lv_tableIn (off := 57) (tgt := 58) hx hb dX0_comesIn_1 (by rw [c6]; decide) (by rw [c6]; decide) (by rw [c6]; rfl) (by decide) ?_
    refine lv_iconst (v := (0 : Int32)) hx hb dX0_comesIn_58 (by decide) ?_
    exact rt_z (wo := (fun v => WA q7 v)) S hr hlk u hP hS zB_0 hw dX0_comesIn_59
  replace hw := hw.2 c6
  by_cases c7 : a1 = (6 : Int32)
  · replace hw := hw.1 c7
    refine lv_tableIn (off := 57) (tgt := 58) hx hb dX0_comesIn_1 (by rw [c7]; decide) (by rw [c7]; decide) (by rw [c7]; rfl) (by decide) ?_
    refine lv_iconst (v := (0 : Int32)) hx hb dX0_comesIn_58 (by decide) ?_
    exact rt_z (wo := (fun v => WA q7 v)) S hr hlk u hP hS zB_0 hw dX0_comesIn_59
  replace hw := hw.2 c7
  by_cases c8 : a1 = (7 : Int32)
  · replace hw := hw.1 c8
    refine lv_tableIn (off := 55) (tgt := 56) hx hb dX0_comesIn_1 (by rw [c8]; decide) (by rw [c8]; decide) (by rw [c8]; rfl) (by decide) ?_
    refine lv_iload_n hx hb dX0_comesIn_56 rfl (lv_at hl 3 rfl) ?_
    exact rt_z (wo := (fun v => WA q7 v)) S hr hlk u hP hS hw.1 hw.2 dX0_comesIn_57
  replace hw := hw.2 c8
  refine lv_tableOut (tgt := 58) hx hb dX0_comesIn_1 (by have e_c1 : ¬ (a1 : Int32).toInt = 0 := sw_ne c1; have e_c2 : ¬ (a1 : Int32).toInt = 1 := sw_ne c2; have e_c3 : ¬ (a1 : Int32).toInt = 2 := sw_ne c3; have e_c4 : ¬ (a1 : Int32).toInt = 3 := sw_ne c4; have e_c5 : ¬ (a1 : Int32).toInt = 4 := sw_ne c5; have e_c6 : ¬ (a1 : Int32).toInt = 5 := sw_ne c6; have e_c7 : ¬ (a1 : Int32).toInt = 6 := sw_ne c7; have e_c8 : ¬ (a1 : Int32).toInt = 7 := sw_ne c8; omega) (by decide) ?_
  refine lv_iconst (v := (0 : Int32)) hx hb dX0_comesIn_58 (by decide) ?_
  exact rt_z (wo := (fun v => WA q7 v)) S hr hlk u hP hS zB_0 hw dX0_comesIn_59
-- X0_shiftOverflows
def wX0_shiftOverflows_b93 (a1 : Int32) (a2 : Int32) (a3 : Int32) (a4 : Int32) (P : Int32 → Int32 → Prop) (s0 : Int32) (s1 : Int32) (u : Int32) : Prop := ((s0 = s1 → (P (0 : Int32) u)) ∧ (¬ s0 = s1 → (P (1 : Int32) u)))
def wX0_shiftOverflows_b76 (a1 : Int32) (a2 : Int32) (a3 : Int32) (a4 : Int32) (P : Int32 → Int32 → Prop)  (u : Int32) : Prop := (wX0_has (1 : Int32) u (fun r11 u10 => (((a3 &&& a4) = (0 : Int32) → (wX0_shiftOverflows_b93 a1 a2 a3 a4 P r11 (0 : Int32) u10)) ∧ (¬ (a3 &&& a4) = (0 : Int32) → (wX0_shiftOverflows_b93 a1 a2 a3 a4 P r11 (1 : Int32) u10)))))
def wX0_shiftOverflows_b44 (a1 : Int32) (a2 : Int32) (a3 : Int32) (a4 : Int32) (P : Int32 → Int32 → Prop)  (u : Int32) : Prop := ((((a3 ^^^ (a3 <<< ((1 : Int32) &&& 31))) &&& a4) = (0 : Int32) → (P (0 : Int32) u)) ∧ (¬ ((a3 ^^^ (a3 <<< ((1 : Int32) &&& 31))) &&& a4) = (0 : Int32) → (P (1 : Int32) u)))
def wX0_shiftOverflows (a1 : Int32) (a2 : Int32) (a3 : Int32) (a4 : Int32) (u : Int32) (P : Int32 → Int32 → Prop) : Prop := ((a1 = (1 : Int32) → (wX0_shiftOverflows_b44 a1 a2 a3 a4 P u)) ∧ (¬ a1 = (1 : Int32) → ((a1 = (2 : Int32) → (wX0_shiftOverflows_b76 a1 a2 a3 a4 P u)) ∧ (¬ a1 = (2 : Int32) → ((a1 = (3 : Int32) → (wX0_shiftOverflows_b44 a1 a2 a3 a4 P u)) ∧ (¬ a1 = (3 : Int32) → ((a1 = (4 : Int32) → (wX0_shiftOverflows_b76 a1 a2 a3 a4 P u)) ∧ (¬ a1 = (4 : Int32) → ((a1 = (5 : Int32) → (((a2 &&& a4) = (0 : Int32) → (P (0 : Int32) u)) ∧ (¬ (a2 &&& a4) = (0 : Int32) → (P (1 : Int32) u)))) ∧ (¬ a1 = (5 : Int32) → ((a1 = (6 : Int32) → (wX0_shiftOverflows_b76 a1 a2 a3 a4 P u)) ∧ (¬ a1 = (6 : Int32) → ((a1 = (7 : Int32) → (P (0 : Int32) u)) ∧ (¬ a1 = (7 : Int32) → (wX0_shiftOverflows_b76 a1 a2 a3 a4 P u)))))))))))))))
set_option maxHeartbeats 4000000 in
set_option maxRecDepth 100000 in
theorem kcX0_shiftOverflows (l : Launch) (D : va_G) (cB cI : ClassId) (q7 : Nat) (sz : Nat) (a1 : Int32) (a2 : Int32) (a3 : Int32) (a4 : Int32) (u : Int32) (P : Int32 → Int32 → Prop) (hw : wX0_shiftOverflows a1 a2 a3 a4 u P) : Met l yX0_shiftOverflows wsX0_shiftOverflows ({ frames := 1, cells := 0, slots := 0, locals := 21 } : Room) (va_Pc [.ref q7, .int a1, .int a2, .int a3, .int a4] (Pcw D (tyA cB cI) (WA q7 u) sz Tru)) (va_Qi P (fun u t => va_P D vwCl (WA q7 u) t.heap) (va_A (WA q7 u) sz)) 0 0 (va_A (WA q7 u) sz) := by
  refine en_ (cc := cX0_shiftOverflows) (maxL := 5) (ret := (some .boolean)) (own := RX0) (lv := [(0, .ref q7), (1, .int a1), (2, .int a2), (3, .int a3), (4, .int a4)]) (Qf := fun A => va_Qi P (fun u t => va_P D vwCl (WA q7 u) t.heap) A) (by decide) rfl rfl (Nat.le_of_ble_eq_true rfl) rfl ?_
  intro p e s m below meth c A ls S hr hlk hname hsz hP hK hD hA hSub hS hE hl
  have hx := S.1
  have hb := S.2.1
  have hown := S.2.2.2.1
  have hts := S.2.2.2.2
  have b93 : ∀ (s0 : Int32) (s1 : Int32) (u : Int32) (H : Heap) (locs : List Loc) (ls : Array Slot), va_P D vwCl (WA q7 u) H → va_D A (WA q7 u) → va_S A s.heap H locs → lv_has ls 5 [] → wX0_shiftOverflows_b93 a1 a2 a3 a4 P s0 s1 u → W p l e ({ frames := 1, cells := 0, slots := 0, locals := 21 } : Room) s m ([.ref q7, .int a1, .int a2, .int a3, .int a4] : List Value).toArray below meth c H locs 0 0 (MQ below (va_Qi P (fun u t => va_P D vwCl (WA q7 u) t.heap) A) ([.ref q7, .int a1, .int a2, .int a3, .int a4] : List Value).toArray s 0 0 A) (F0 m 93 ls [.int s1, .int s0]) := by
    intro s0 s1 u H locs ls hP hD hS hl hw
    unfold wX0_shiftOverflows_b93 at hw
    refine lv_icmp_eq (tgt := 100) hx hb dX0_shiftOverflows_93 (by decide) (fun c13 => ?_) (fun c13 => ?_)
    · replace hw := hw.1 c13
      refine lv_iconst (v := (0 : Int32)) hx hb dX0_shiftOverflows_100 (by decide) ?_
      exact rt_z (wo := (fun v => WA q7 v)) S hr hlk u hP hS zB_0 hw dX0_shiftOverflows_101
    · replace hw := hw.2 c13
      refine lv_iconst (v := (1 : Int32)) hx hb dX0_shiftOverflows_96 (by decide) ?_
      refine lv_goto (tgt := 101) hx hb dX0_shiftOverflows_97 (by decide) ?_
      exact rt_z (wo := (fun v => WA q7 v)) S hr hlk u hP hS zB_1 hw dX0_shiftOverflows_101
  have b76 : ∀  (u : Int32) (H : Heap) (locs : List Loc) (ls : Array Slot), va_P D vwCl (WA q7 u) H → va_D A (WA q7 u) → va_S A s.heap H locs → lv_has ls 5 [(0, .ref q7), (3, .int a3), (4, .int a4)] → wX0_shiftOverflows_b76 a1 a2 a3 a4 P u → W p l e ({ frames := 1, cells := 0, slots := 0, locals := 21 } : Room) s m ([.ref q7, .int a1, .int a2, .int a3, .int a4] : List Value).toArray below meth c H locs 0 0 (MQ below (va_Qi P (fun u t => va_P D vwCl (WA q7 u) t.heap) A) ([.ref q7, .int a1, .int a2, .int a3, .int a4] : List Value).toArray s 0 0 A) (F0 m 76 ls []) := by
    intro u H locs ls hP hD hS hl hw
    unfold wX0_shiftOverflows_b76 at hw
    refine lv_aload_n hx hb dX0_shiftOverflows_76 rfl (lv_at hl 0 rfl) ?_
    refine lv_iconst (v := (1 : Int32)) hx hb dX0_shiftOverflows_77 (by decide) ?_
    refine cl_Vi (As := [.int (1 : Int32)]) (rest := []) (st := [.int (1 : Int32), .ref q7]) S hK hA hP hD hS (fr_A u) (kcX0_has l D cB cI q7 H.size (1 : Int32) u _ hw) (cwV 1 hts gX0_shiftOverflows_X0_has rfl rfl rfl (by decide +kernel) ⟨Nat.le_of_ble_eq_true rfl, Nat.le_of_ble_eq_true rfl⟩) tru_h tru_b 0 rfl rfl rfl rfl rfl hl.1 (Nat.le_of_ble_eq_true rfl) dX0_shiftOverflows_78 ⟨Nat.zero_le _, Nat.zero_le _⟩ (fun r11 u10 H locs hP hD hS hw => ?_)
    replace hP : va_P D vwCl (WA q7 u10) H := hP
    replace hD : va_D A (WA q7 u10) := hD
    refine lv_iload_n hx hb dX0_shiftOverflows_81 rfl (lv_at hl 1 rfl) ?_
    refine lv_iload hx hb dX0_shiftOverflows_82 (lv_at hl 2 rfl) ?_
    refine lv_iand hx hb dX0_shiftOverflows_84 ?_
    refine lv_if_eq (tgt := 92) hx hb dX0_shiftOverflows_85 (by decide) (fun c12 => ?_) (fun c12 => ?_)
    · replace hw := hw.1 c12
      refine lv_iconst (v := (0 : Int32)) hx hb dX0_shiftOverflows_92 (by decide) ?_
      exact b93 r11 (0 : Int32) u10 H locs ls hP hD hS (lv_sub hl [] rfl) hw
    · replace hw := hw.2 c12
      refine lv_iconst (v := (1 : Int32)) hx hb dX0_shiftOverflows_88 (by decide) ?_
      refine lv_goto (tgt := 93) hx hb dX0_shiftOverflows_89 (by decide) ?_
      exact b93 r11 (1 : Int32) u10 H locs ls hP hD hS (lv_sub hl [] rfl) hw
  have b44 : ∀  (u : Int32) (H : Heap) (locs : List Loc) (ls : Array Slot), va_P D vwCl (WA q7 u) H → va_D A (WA q7 u) → va_S A s.heap H locs → lv_has ls 5 [(3, .int a3), (4, .int a4)] → wX0_shiftOverflows_b44 a1 a2 a3 a4 P u → W p l e ({ frames := 1, cells := 0, slots := 0, locals := 21 } : Room) s m ([.ref q7, .int a1, .int a2, .int a3, .int a4] : List Value).toArray below meth c H locs 0 0 (MQ below (va_Qi P (fun u t => va_P D vwCl (WA q7 u) t.heap) A) ([.ref q7, .int a1, .int a2, .int a3, .int a4] : List Value).toArray s 0 0 A) (F0 m 44 ls []) := by
    intro u H locs ls hP hD hS hl hw
    unfold wX0_shiftOverflows_b44 at hw
    refine lv_iload_n hx hb dX0_shiftOverflows_44 rfl (lv_at hl 0 rfl) ?_
    refine lv_iload_n hx hb dX0_shiftOverflows_45 rfl (lv_at hl 0 rfl) ?_
    refine lv_iconst (v := (1 : Int32)) hx hb dX0_shiftOverflows_46 (by decide) ?_
    refine lv_ishl hx hb dX0_shiftOverflows_47 ?_
    refine lv_ixor hx hb dX0_shiftOverflows_48 ?_
    refine lv_iload hx hb dX0_shiftOverflows_49 (lv_at hl 1 rfl) ?_
    refine lv_iand hx hb dX0_shiftOverflows_51 ?_
    refine lv_if_eq (tgt := 59) hx hb dX0_shiftOverflows_52 (by decide) (fun c9 => ?_) (fun c9 => ?_)
    · replace hw := hw.1 c9
      refine lv_iconst (v := (0 : Int32)) hx hb dX0_shiftOverflows_59 (by decide) ?_
      exact rt_z (wo := (fun v => WA q7 v)) S hr hlk u hP hS zB_0 hw dX0_shiftOverflows_60
    · replace hw := hw.2 c9
      refine lv_iconst (v := (1 : Int32)) hx hb dX0_shiftOverflows_55 (by decide) ?_
      refine lv_goto (tgt := 60) hx hb dX0_shiftOverflows_56 (by decide) ?_
      exact rt_z (wo := (fun v => WA q7 v)) S hr hlk u hP hS zB_1 hw dX0_shiftOverflows_60
  unfold wX0_shiftOverflows at hw
  obtain ⟨H, eH⟩ : ∃ H, H = s.heap := ⟨_, rfl⟩
  obtain ⟨locs, eL⟩ : ∃ locs : List Loc, locs = [] := ⟨_, rfl⟩
  replace hP : va_P D vwCl (WA q7 u) H := by rw [eH]; exact hP
  replace hS : va_S A s.heap H locs := by rw [eH, eL]; exact hS
  suffices hgo : W p l e ({ frames := 1, cells := 0, slots := 0, locals := 21 } : Room) s m ([.ref q7, .int a1, .int a2, .int a3, .int a4] : List Value).toArray below meth c H locs 0 0 (MQ below (va_Qi P (fun u t => va_P D vwCl (WA q7 u) t.heap) A) ([.ref q7, .int a1, .int a2, .int a3, .int a4] : List Value).toArray s 0 0 A) (F0 m 0 ls []) by rw [eH, eL] at hgo; exact hgo
  clear eH eL
  refine lv_iload_n hx hb dX0_shiftOverflows_0 rfl (lv_at hl 1 rfl) ?_
  by_cases c1 : a1 = (1 : Int32)
  · replace hw := hw.1 c1
    refine lv_tableIn (off := 43) (tgt := 44) hx hb dX0_shiftOverflows_1 (by rw [c1]; decide) (by rw [c1]; decide) (by rw [c1]; rfl) (by decide) ?_
    exact b44 u H locs ls hP hD hS (lv_sub hl [3, 4] rfl) hw
  replace hw := hw.2 c1
  by_cases c2 : a1 = (2 : Int32)
  · replace hw := hw.1 c2
    refine lv_tableIn (off := 75) (tgt := 76) hx hb dX0_shiftOverflows_1 (by rw [c2]; decide) (by rw [c2]; decide) (by rw [c2]; rfl) (by decide) ?_
    exact b76 u H locs ls hP hD hS (lv_sub hl [0, 3, 4] rfl) hw
  replace hw := hw.2 c2
  by_cases c3 : a1 = (3 : Int32)
  · replace hw := hw.1 c3
    refine lv_tableIn (off := 43) (tgt := 44) hx hb dX0_shiftOverflows_1 (by rw [c3]; decide) (by rw [c3]; decide) (by rw [c3]; rfl) (by decide) ?_
    exact b44 u H locs ls hP hD hS (lv_sub hl [3, 4] rfl) hw
  replace hw := hw.2 c3
  by_cases c4 : a1 = (4 : Int32)
  · replace hw := hw.1 c4
    refine lv_tableIn (off := 75) (tgt := 76) hx hb dX0_shiftOverflows_1 (by rw [c4]; decide) (by rw [c4]; decide) (by rw [c4]; rfl) (by decide) ?_
    exact b76 u H locs ls hP hD hS (lv_sub hl [0, 3, 4] rfl) hw
  replace hw := hw.2 c4
  by_cases c5 : a1 = (5 : Int32)
  · replace hw := hw.1 c5
    refine lv_tableIn (off := 60) (tgt := 61) hx hb dX0_shiftOverflows_1 (by rw [c5]; decide) (by rw [c5]; decide) (by rw [c5]; rfl) (by decide) ?_
    refine lv_iload_n hx hb dX0_shiftOverflows_61 rfl (lv_at hl 2 rfl) ?_
    refine lv_iload hx hb dX0_shiftOverflows_62 (lv_at hl 4 rfl) ?_
    refine lv_iand hx hb dX0_shiftOverflows_64 ?_
    refine lv_if_eq (tgt := 72) hx hb dX0_shiftOverflows_65 (by decide) (fun c6 => ?_) (fun c6 => ?_)
    · replace hw := hw.1 c6
      refine lv_iconst (v := (0 : Int32)) hx hb dX0_shiftOverflows_72 (by decide) ?_
      exact rt_z (wo := (fun v => WA q7 v)) S hr hlk u hP hS zB_0 hw dX0_shiftOverflows_73
    · replace hw := hw.2 c6
      refine lv_iconst (v := (1 : Int32)) hx hb dX0_shiftOverflows_68 (by decide) ?_
      refine lv_goto (tgt := 73) hx hb dX0_shiftOverflows_69 (by decide) ?_
      exact rt_z (wo := (fun v => WA q7 v)) S hr hlk u hP hS zB_1 hw dX0_shiftOverflows_73
  replace hw := hw.2 c5
  by_cases c7 : a1 = (6 : Int32)
  · replace hw := hw.1 c7
    refine lv_tableIn (off := 75) (tgt := 76) hx hb dX0_shiftOverflows_1 (by rw [c7]; decide) (by rw [c7]; decide) (by rw [c7]; rfl) (by decide) ?_
    exact b76 u H locs ls hP hD hS (lv_sub hl [0, 3, 4] rfl) hw
  replace hw := hw.2 c7
  by_cases c8 : a1 = (7 : Int32)
  · replace hw := hw.1 c8
    refine lv_tableIn (off := 73) (tgt := 74) hx hb dX0_shiftOverflows_1 (by rw [c8]; decide) (by rw [c8]; decide) (by rw [c8]; rfl) (by decide) ?_
    refine lv_iconst (v := (0 : Int32)) hx hb dX0_shiftOverflows_74 (by decide) ?_
    exact rt_z (wo := (fun v => WA q7 v)) S hr hlk u hP hS zB_0 hw dX0_shiftOverflows_75
  replace hw := hw.2 c8
  refine lv_tableOut (tgt := 76) hx hb dX0_shiftOverflows_1 (by have e_c1 : ¬ (a1 : Int32).toInt = 1 := sw_ne c1; have e_c2 : ¬ (a1 : Int32).toInt = 2 := sw_ne c2; have e_c3 : ¬ (a1 : Int32).toInt = 3 := sw_ne c3; have e_c4 : ¬ (a1 : Int32).toInt = 4 := sw_ne c4; have e_c5 : ¬ (a1 : Int32).toInt = 5 := sw_ne c5; have e_c7 : ¬ (a1 : Int32).toInt = 6 := sw_ne c7; have e_c8 : ¬ (a1 : Int32).toInt = 7 := sw_ne c8; omega) (by decide) ?_
  exact b76 u H locs ls hP hD hS (lv_sub hl [0, 3, 4] rfl) hw
-- X0_shiftOnce
def wX0_shiftOnce_b105 (a1 : Int32) (a2 : Int32) (a3 : Int32) (P : Int32 → Int32 → Prop) (x4 : Int32) (x6 : Int32) (s0 : Int32) (u : Int32) : Prop := (wX0_mark (1 : Int32) x6 u (fun u14 => (wX0_shiftOverflows a1 a2 s0 x4 u14 (fun r17 u16 => (wX0_mark (2048 : Int32) r17 u16 (fun u18 => ((a1 < (4 : Int32) → (P s0 u18)) ∧ (¬ a1 < (4 : Int32) → (wX0_byAnswer s0 a3 u18 (fun r22 u21 => (P s0 u21)))))))))))
def wX0_shiftOnce_b104 (a1 : Int32) (a2 : Int32) (a3 : Int32) (P : Int32 → Int32 → Prop) (x4 : Int32) (x6 : Int32) (s0 : Int32) (s1 : Int32) (u : Int32) : Prop := (wX0_shiftOnce_b105 a1 a2 a3 P x4 x6 (s0 ||| s1) u)
def wX0_shiftOnce_b86 (a1 : Int32) (a2 : Int32) (a3 : Int32) (P : Int32 → Int32 → Prop) (x4 : Int32) (x6 : Int32) (s0 : Int32) (s1 : Int32) (u : Int32) : Prop := (wX0_shiftOnce_b105 a1 a2 a3 P x4 x6 (s0 ||| s1) u)
def wX0_shiftOnce_b58 (a1 : Int32) (a2 : Int32) (a3 : Int32) (P : Int32 → Int32 → Prop) (x4 : Int32) (x5 : Int32) (x6 : Int32) (s2 : Int32) (s3 : Int32) (u : Int32) : Prop := (wX0_comesIn a1 s2 s3 u (fun r8 u7 => ((x5 = (0 : Int32) → ((r8 = (0 : Int32) → (wX0_shiftOnce_b104 a1 a2 a3 P x4 x6 (a2 >>> ((1 : Int32) &&& 31)) (0 : Int32) u7)) ∧ (¬ r8 = (0 : Int32) → (wX0_shiftOnce_b104 a1 a2 a3 P x4 x6 (a2 >>> ((1 : Int32) &&& 31)) x4 u7)))) ∧ (¬ x5 = (0 : Int32) → (wX0_mask a3 () (fun r12 u11 => ((r8 = (0 : Int32) → (wX0_shiftOnce_b86 a1 a2 a3 P x4 x6 ((a2 <<< ((1 : Int32) &&& 31)) &&& r12) (0 : Int32) u7)) ∧ (¬ r8 = (0 : Int32) → (wX0_shiftOnce_b86 a1 a2 a3 P x4 x6 ((a2 <<< ((1 : Int32) &&& 31)) &&& r12) (1 : Int32) u7)))))))))
def wX0_shiftOnce_b40 (a1 : Int32) (a2 : Int32) (a3 : Int32) (P : Int32 → Int32 → Prop) (x4 : Int32) (x5 : Int32) (s0 : Int32) (u : Int32) : Prop := (((a2 &&& x4) = (0 : Int32) → (wX0_shiftOnce_b58 a1 a2 a3 P x4 x5 s0 s0 (0 : Int32) u)) ∧ (¬ (a2 &&& x4) = (0 : Int32) → (wX0_shiftOnce_b58 a1 a2 a3 P x4 x5 s0 s0 (1 : Int32) u)))
def wX0_shiftOnce_b31 (a1 : Int32) (a2 : Int32) (a3 : Int32) (P : Int32 → Int32 → Prop) (x4 : Int32) (x5 : Int32) (s1 : Int32) (u : Int32) : Prop := (((a2 &&& s1) = (0 : Int32) → (wX0_shiftOnce_b40 a1 a2 a3 P x4 x5 (0 : Int32) u)) ∧ (¬ (a2 &&& s1) = (0 : Int32) → (wX0_shiftOnce_b40 a1 a2 a3 P x4 x5 (1 : Int32) u)))
def wX0_shiftOnce_b17 (a1 : Int32) (a2 : Int32) (a3 : Int32) (P : Int32 → Int32 → Prop) (x4 : Int32) (s0 : Int32) (u : Int32) : Prop := ((s0 = (0 : Int32) → (wX0_shiftOnce_b31 a1 a2 a3 P x4 s0 (1 : Int32) u)) ∧ (¬ s0 = (0 : Int32) → (wX0_shiftOnce_b31 a1 a2 a3 P x4 s0 x4 u)))
def wX0_shiftOnce (a1 : Int32) (a2 : Int32) (a3 : Int32) (u : Int32) (P : Int32 → Int32 → Prop) : Prop := (wX0_highest a3 () (fun r2 u1 => (((a1 &&& (1 : Int32)) = (0 : Int32) → (wX0_shiftOnce_b17 a1 a2 a3 P r2 (1 : Int32) u)) ∧ (¬ (a1 &&& (1 : Int32)) = (0 : Int32) → (wX0_shiftOnce_b17 a1 a2 a3 P r2 (0 : Int32) u)))))
set_option maxHeartbeats 4000000 in
set_option maxRecDepth 100000 in
theorem kcX0_shiftOnce (l : Launch) (D : va_G) (cB cI : ClassId) (q7 : Nat) (sz : Nat) (a1 : Int32) (a2 : Int32) (a3 : Int32) (u : Int32) (P : Int32 → Int32 → Prop) (hw : wX0_shiftOnce a1 a2 a3 u P) : Met l yX0_shiftOnce wsX0_shiftOnce ({ frames := 2, cells := 0, slots := 0, locals := 45 } : Room) (va_Pc [.ref q7, .int a1, .int a2, .int a3] (Pcw D (tyA cB cI) (WA q7 u) sz Tru)) (va_Qi P (fun u t => va_P D vwCl (WA q7 u) t.heap) (va_A (WA q7 u) sz)) 0 0 (va_A (WA q7 u) sz) := by
  refine en_ (cc := cX0_shiftOnce) (maxL := 9) (ret := (some .int)) (own := RX0) (lv := [(0, .ref q7), (1, .int a1), (2, .int a2), (3, .int a3)]) (Qf := fun A => va_Qi P (fun u t => va_P D vwCl (WA q7 u) t.heap) A) (by decide) rfl rfl (Nat.le_of_ble_eq_true rfl) rfl ?_
  intro p e s m below meth c A ls S hr hlk hname hsz hP hK hD hA hSub hS hE hl
  have hx := S.1
  have hb := S.2.1
  have hown := S.2.2.2.1
  have hts := S.2.2.2.2
  have b105 : ∀ (x4 : Int32) (x6 : Int32) (s0 : Int32) (u : Int32) (H : Heap) (locs : List Loc) (ls : Array Slot), va_P D vwCl (WA q7 u) H → va_D A (WA q7 u) → va_S A s.heap H locs → lv_has ls 9 [(0, .ref q7), (1, .int a1), (2, .int a2), (3, .int a3), (4, .int x4), (6, .int x6)] → wX0_shiftOnce_b105 a1 a2 a3 P x4 x6 s0 u → W p l e ({ frames := 2, cells := 0, slots := 0, locals := 45 } : Room) s m ([.ref q7, .int a1, .int a2, .int a3] : List Value).toArray below meth c H locs 0 0 (MQ below (va_Qi P (fun u t => va_P D vwCl (WA q7 u) t.heap) A) ([.ref q7, .int a1, .int a2, .int a3] : List Value).toArray s 0 0 A) (F0 m 105 ls [.int s0]) := by
    intro x4 x6 s0 u H locs ls hP hD hS hl hw
    unfold wX0_shiftOnce_b105 at hw
    refine lv_istore (lv' := [(8, .int s0), (0, .ref q7), (1, .int a1), (2, .int a2), (3, .int a3), (4, .int x4), (6, .int x6)]) hx hb dX0_shiftOnce_105 hl (by decide) rfl (fun ls hl => ?_)
    refine lv_aload_n hx hb dX0_shiftOnce_107 rfl (lv_at hl 1 rfl) ?_
    refine lv_iconst (v := (1 : Int32)) hx hb dX0_shiftOnce_108 (by decide) ?_
    refine lv_iload hx hb dX0_shiftOnce_109 (lv_at hl 6 rfl) ?_
    refine cl_Vv (As := [.int (1 : Int32), .int x6]) (rest := []) (st := [.int x6, .int (1 : Int32), .ref q7]) S hK hA hP hD hS (fr_A u) (kcX0_mark l D cB cI q7 H.size (1 : Int32) x6 u _ hw) (cwV 2 hts gX0_shiftOnce_X0_mark rfl rfl rfl (by decide +kernel) ⟨Nat.le_of_ble_eq_true rfl, Nat.le_of_ble_eq_true rfl⟩) tru_h tru_b 0 rfl rfl rfl rfl rfl hl.1 (Nat.le_of_ble_eq_true rfl) dX0_shiftOnce_111 ⟨Nat.zero_le _, Nat.zero_le _⟩ (fun u14 H locs hP hD hS hw => ?_)
    replace hP : va_P D vwCl (WA q7 u14) H := hP
    replace hD : va_D A (WA q7 u14) := hD
    refine lv_aload_n hx hb dX0_shiftOnce_114 rfl (lv_at hl 1 rfl) ?_
    refine lv_sipush (v := (2048 : Int32)) hx hb dX0_shiftOnce_115 (by decide) ?_
    refine lv_aload_n hx hb dX0_shiftOnce_118 rfl (lv_at hl 1 rfl) ?_
    refine lv_iload_n hx hb dX0_shiftOnce_119 rfl (lv_at hl 2 rfl) ?_
    refine lv_iload_n hx hb dX0_shiftOnce_120 rfl (lv_at hl 3 rfl) ?_
    refine lv_iload hx hb dX0_shiftOnce_121 (lv_at hl 0 rfl) ?_
    refine lv_iload hx hb dX0_shiftOnce_123 (lv_at hl 5 rfl) ?_
    refine cl_Vi (As := [.int a1, .int a2, .int s0, .int x4]) (rest := [.int (2048 : Int32), .ref q7]) (st := [.int x4, .int s0, .int a2, .int a1, .ref q7, .int (2048 : Int32), .ref q7]) S hK hA hP hD hS (fr_A u14) (kcX0_shiftOverflows l D cB cI q7 H.size a1 a2 s0 x4 u14 _ hw) (cwV 4 hts gX0_shiftOnce_X0_shiftOverflows rfl rfl rfl (by decide +kernel) ⟨Nat.le_of_ble_eq_true rfl, Nat.le_of_ble_eq_true rfl⟩) tru_h tru_b 0 rfl rfl rfl rfl rfl hl.1 (Nat.le_of_ble_eq_true rfl) dX0_shiftOnce_125 ⟨Nat.zero_le _, Nat.zero_le _⟩ (fun r17 u16 H locs hP hD hS hw => ?_)
    replace hP : va_P D vwCl (WA q7 u16) H := hP
    replace hD : va_D A (WA q7 u16) := hD
    refine cl_Vv (As := [.int (2048 : Int32), .int r17]) (rest := []) (st := [.int r17, .int (2048 : Int32), .ref q7]) S hK hA hP hD hS (fr_A u16) (kcX0_mark l D cB cI q7 H.size (2048 : Int32) r17 u16 _ hw) (cwV 2 hts gX0_shiftOnce_X0_mark rfl rfl rfl (by decide +kernel) ⟨Nat.le_of_ble_eq_true rfl, Nat.le_of_ble_eq_true rfl⟩) tru_h tru_b 0 rfl rfl rfl rfl rfl hl.1 (Nat.le_of_ble_eq_true rfl) dX0_shiftOnce_128 ⟨Nat.zero_le _, Nat.zero_le _⟩ (fun u18 H locs hP hD hS hw => ?_)
    replace hP : va_P D vwCl (WA q7 u18) H := hP
    replace hD : va_D A (WA q7 u18) := hD
    refine lv_iload_n hx hb dX0_shiftOnce_131 rfl (lv_at hl 2 rfl) ?_
    refine lv_iconst (v := (4 : Int32)) hx hb dX0_shiftOnce_132 (by decide) ?_
    refine lv_icmp_lt (tgt := 144) hx hb dX0_shiftOnce_133 (by decide) (fun c20 => ?_) (fun c20 => ?_)
    · replace hw := hw.1 c20
      refine lv_iload hx hb dX0_shiftOnce_144 (lv_at hl 0 rfl) ?_
      exact rt_i (wo := (fun v => WA q7 v)) S hr hlk u18 hP hS hw dX0_shiftOnce_146
    · replace hw := hw.2 c20
      refine lv_aload_n hx hb dX0_shiftOnce_136 rfl (lv_at hl 1 rfl) ?_
      refine lv_iload hx hb dX0_shiftOnce_137 (lv_at hl 0 rfl) ?_
      refine lv_iload_n hx hb dX0_shiftOnce_139 rfl (lv_at hl 4 rfl) ?_
      refine cl_Vi (As := [.int s0, .int a3]) (rest := []) (st := [.int a3, .int s0, .ref q7]) S hK hA hP hD hS (fr_A u18) (kcX0_byAnswer l D cB cI q7 H.size s0 a3 u18 _ hw) (cwV 2 hts gX0_shiftOnce_X0_byAnswer rfl rfl rfl (by decide +kernel) ⟨Nat.le_of_ble_eq_true rfl, Nat.le_of_ble_eq_true rfl⟩) tru_h tru_b 0 rfl rfl rfl rfl rfl hl.1 (Nat.le_of_ble_eq_true rfl) dX0_shiftOnce_140 ⟨Nat.zero_le _, Nat.zero_le _⟩ (fun r22 u21 H locs hP hD hS hw => ?_)
      replace hP : va_P D vwCl (WA q7 u21) H := hP
      replace hD : va_D A (WA q7 u21) := hD
      refine lv_pop hx hb dX0_shiftOnce_143 rfl ?_
      refine lv_iload hx hb dX0_shiftOnce_144 (lv_at hl 0 rfl) ?_
      exact rt_i (wo := (fun v => WA q7 v)) S hr hlk u21 hP hS hw dX0_shiftOnce_146
  have b104 : ∀ (x4 : Int32) (x6 : Int32) (s0 : Int32) (s1 : Int32) (u : Int32) (H : Heap) (locs : List Loc) (ls : Array Slot), va_P D vwCl (WA q7 u) H → va_D A (WA q7 u) → va_S A s.heap H locs → lv_has ls 9 [(0, .ref q7), (1, .int a1), (2, .int a2), (3, .int a3), (4, .int x4), (6, .int x6)] → wX0_shiftOnce_b104 a1 a2 a3 P x4 x6 s0 s1 u → W p l e ({ frames := 2, cells := 0, slots := 0, locals := 45 } : Room) s m ([.ref q7, .int a1, .int a2, .int a3] : List Value).toArray below meth c H locs 0 0 (MQ below (va_Qi P (fun u t => va_P D vwCl (WA q7 u) t.heap) A) ([.ref q7, .int a1, .int a2, .int a3] : List Value).toArray s 0 0 A) (F0 m 104 ls [.int s1, .int s0]) := by
    intro x4 x6 s0 s1 u H locs ls hP hD hS hl hw
    unfold wX0_shiftOnce_b104 at hw
    refine lv_ior hx hb dX0_shiftOnce_104 ?_
    exact b105 x4 x6 (s0 ||| s1) u H locs ls hP hD hS (lv_sub hl [0, 1, 2, 3, 4, 5] rfl) hw
  have b86 : ∀ (x4 : Int32) (x6 : Int32) (s0 : Int32) (s1 : Int32) (u : Int32) (H : Heap) (locs : List Loc) (ls : Array Slot), va_P D vwCl (WA q7 u) H → va_D A (WA q7 u) → va_S A s.heap H locs → lv_has ls 9 [(0, .ref q7), (1, .int a1), (2, .int a2), (3, .int a3), (4, .int x4), (6, .int x6)] → wX0_shiftOnce_b86 a1 a2 a3 P x4 x6 s0 s1 u → W p l e ({ frames := 2, cells := 0, slots := 0, locals := 45 } : Room) s m ([.ref q7, .int a1, .int a2, .int a3] : List Value).toArray below meth c H locs 0 0 (MQ below (va_Qi P (fun u t => va_P D vwCl (WA q7 u) t.heap) A) ([.ref q7, .int a1, .int a2, .int a3] : List Value).toArray s 0 0 A) (F0 m 86 ls [.int s1, .int s0]) := by
    intro x4 x6 s0 s1 u H locs ls hP hD hS hl hw
    unfold wX0_shiftOnce_b86 at hw
    refine lv_ior hx hb dX0_shiftOnce_86 ?_
    refine lv_goto (tgt := 105) hx hb dX0_shiftOnce_87 (by decide) ?_
    exact b105 x4 x6 (s0 ||| s1) u H locs ls hP hD hS (lv_sub hl [0, 1, 2, 3, 4, 5] rfl) hw
  have b58 : ∀ (x4 : Int32) (x5 : Int32) (x6 : Int32) (s2 : Int32) (s3 : Int32) (u : Int32) (H : Heap) (locs : List Loc) (ls : Array Slot), va_P D vwCl (WA q7 u) H → va_D A (WA q7 u) → va_S A s.heap H locs → lv_has ls 9 [(0, .ref q7), (1, .int a1), (2, .int a2), (3, .int a3), (4, .int x4), (5, .int x5), (6, .int x6)] → wX0_shiftOnce_b58 a1 a2 a3 P x4 x5 x6 s2 s3 u → W p l e ({ frames := 2, cells := 0, slots := 0, locals := 45 } : Room) s m ([.ref q7, .int a1, .int a2, .int a3] : List Value).toArray below meth c H locs 0 0 (MQ below (va_Qi P (fun u t => va_P D vwCl (WA q7 u) t.heap) A) ([.ref q7, .int a1, .int a2, .int a3] : List Value).toArray s 0 0 A) (F0 m 58 ls [.int s3, .int s2, .int a1, .ref q7]) := by
    intro x4 x5 x6 s2 s3 u H locs ls hP hD hS hl hw
    unfold wX0_shiftOnce_b58 at hw
    refine cl_Vi (As := [.int a1, .int s2, .int s3]) (rest := []) (st := [.int s3, .int s2, .int a1, .ref q7]) S hK hA hP hD hS (fr_A u) (kcX0_comesIn l D cB cI q7 H.size a1 s2 s3 u _ hw) (cwV 3 hts gX0_shiftOnce_X0_comesIn rfl rfl rfl (by decide +kernel) ⟨Nat.le_of_ble_eq_true rfl, Nat.le_of_ble_eq_true rfl⟩) tru_h tru_b 0 rfl rfl rfl rfl rfl hl.1 (Nat.le_of_ble_eq_true rfl) dX0_shiftOnce_58 ⟨Nat.zero_le _, Nat.zero_le _⟩ (fun r8 u7 H locs hP hD hS hw => ?_)
    replace hP : va_P D vwCl (WA q7 u7) H := hP
    replace hD : va_D A (WA q7 u7) := hD
    refine lv_istore (lv' := [(7, .int r8), (0, .ref q7), (1, .int a1), (2, .int a2), (3, .int a3), (4, .int x4), (5, .int x5), (6, .int x6)]) hx hb dX0_shiftOnce_61 hl (by decide) rfl (fun ls hl => ?_)
    refine lv_iload hx hb dX0_shiftOnce_63 (lv_at hl 6 rfl) ?_
    refine lv_if_eq (tgt := 90) hx hb dX0_shiftOnce_65 (by decide) (fun c9 => ?_) (fun c9 => ?_)
    · replace hw := hw.1 c9
      refine lv_iload_n hx hb dX0_shiftOnce_90 rfl (lv_at hl 3 rfl) ?_
      refine lv_iconst (v := (1 : Int32)) hx hb dX0_shiftOnce_91 (by decide) ?_
      refine lv_ishr hx hb dX0_shiftOnce_92 ?_
      refine lv_iload hx hb dX0_shiftOnce_93 (lv_at hl 0 rfl) ?_
      refine lv_if_eq (tgt := 103) hx hb dX0_shiftOnce_95 (by decide) (fun c10 => ?_) (fun c10 => ?_)
      · replace hw := hw.1 c10
        refine lv_iconst (v := (0 : Int32)) hx hb dX0_shiftOnce_103 (by decide) ?_
        exact b104 x4 x6 (a2 >>> ((1 : Int32) &&& 31)) (0 : Int32) u7 H locs ls hP hD hS (lv_sub hl [1, 2, 3, 4, 5, 7] rfl) hw
      · replace hw := hw.2 c10
        refine lv_iload hx hb dX0_shiftOnce_98 (lv_at hl 5 rfl) ?_
        refine lv_goto (tgt := 104) hx hb dX0_shiftOnce_100 (by decide) ?_
        exact b104 x4 x6 (a2 >>> ((1 : Int32) &&& 31)) x4 u7 H locs ls hP hD hS (lv_sub hl [1, 2, 3, 4, 5, 7] rfl) hw
    · replace hw := hw.2 c9
      refine lv_iload_n hx hb dX0_shiftOnce_68 rfl (lv_at hl 3 rfl) ?_
      refine lv_iconst (v := (1 : Int32)) hx hb dX0_shiftOnce_69 (by decide) ?_
      refine lv_ishl hx hb dX0_shiftOnce_70 ?_
      refine lv_iload_n hx hb dX0_shiftOnce_71 rfl (lv_at hl 4 rfl) ?_
      refine cl_Si (As := [.int a3]) (rest := [.int (a2 <<< ((1 : Int32) &&& 31))]) (st := [.int a3, .int (a2 <<< ((1 : Int32) &&& 31))]) S hK hA hP hD hS Fr_nil (kcX0_mask l D cB cI  H.size a3 () _ hw) (va_cwS 1 hts gX0_shiftOnce_X0_mask rfl rfl rfl (by decide +kernel) ⟨Nat.le_of_ble_eq_true rfl, Nat.le_of_ble_eq_true rfl⟩) tru_h tru_b rfl rfl hl.1 (Nat.le_of_ble_eq_true rfl) dX0_shiftOnce_72 ⟨Nat.zero_le _, Nat.zero_le _⟩ (fun r12 u11 H locs hP hD hS hw => ?_)
      replace hP : va_P D vwCl (WA q7 u7) H := hP
      replace hD : va_D A (WA q7 u7) := hD
      refine lv_iand hx hb dX0_shiftOnce_75 ?_
      refine lv_iload hx hb dX0_shiftOnce_76 (lv_at hl 0 rfl) ?_
      refine lv_if_eq (tgt := 85) hx hb dX0_shiftOnce_78 (by decide) (fun c13 => ?_) (fun c13 => ?_)
      · replace hw := hw.1 c13
        refine lv_iconst (v := (0 : Int32)) hx hb dX0_shiftOnce_85 (by decide) ?_
        exact b86 x4 x6 ((a2 <<< ((1 : Int32) &&& 31)) &&& r12) (0 : Int32) u7 H locs ls hP hD hS (lv_sub hl [1, 2, 3, 4, 5, 7] rfl) hw
      · replace hw := hw.2 c13
        refine lv_iconst (v := (1 : Int32)) hx hb dX0_shiftOnce_81 (by decide) ?_
        refine lv_goto (tgt := 86) hx hb dX0_shiftOnce_82 (by decide) ?_
        exact b86 x4 x6 ((a2 <<< ((1 : Int32) &&& 31)) &&& r12) (1 : Int32) u7 H locs ls hP hD hS (lv_sub hl [1, 2, 3, 4, 5, 7] rfl) hw
  have b40 : ∀ (x4 : Int32) (x5 : Int32) (s0 : Int32) (u : Int32) (H : Heap) (locs : List Loc) (ls : Array Slot), va_P D vwCl (WA q7 u) H → va_D A (WA q7 u) → va_S A s.heap H locs → lv_has ls 9 [(0, .ref q7), (1, .int a1), (2, .int a2), (3, .int a3), (4, .int x4), (5, .int x5)] → wX0_shiftOnce_b40 a1 a2 a3 P x4 x5 s0 u → W p l e ({ frames := 2, cells := 0, slots := 0, locals := 45 } : Room) s m ([.ref q7, .int a1, .int a2, .int a3] : List Value).toArray below meth c H locs 0 0 (MQ below (va_Qi P (fun u t => va_P D vwCl (WA q7 u) t.heap) A) ([.ref q7, .int a1, .int a2, .int a3] : List Value).toArray s 0 0 A) (F0 m 40 ls [.int s0]) := by
    intro x4 x5 s0 u H locs ls hP hD hS hl hw
    unfold wX0_shiftOnce_b40 at hw
    refine lv_istore (lv' := [(6, .int s0), (0, .ref q7), (1, .int a1), (2, .int a2), (3, .int a3), (4, .int x4), (5, .int x5)]) hx hb dX0_shiftOnce_40 hl (by decide) rfl (fun ls hl => ?_)
    refine lv_aload_n hx hb dX0_shiftOnce_42 rfl (lv_at hl 1 rfl) ?_
    refine lv_iload_n hx hb dX0_shiftOnce_43 rfl (lv_at hl 2 rfl) ?_
    refine lv_iload hx hb dX0_shiftOnce_44 (lv_at hl 0 rfl) ?_
    refine lv_iload_n hx hb dX0_shiftOnce_46 rfl (lv_at hl 3 rfl) ?_
    refine lv_iload hx hb dX0_shiftOnce_47 (lv_at hl 5 rfl) ?_
    refine lv_iand hx hb dX0_shiftOnce_49 ?_
    refine lv_if_eq (tgt := 57) hx hb dX0_shiftOnce_50 (by decide) (fun c6 => ?_) (fun c6 => ?_)
    · replace hw := hw.1 c6
      refine lv_iconst (v := (0 : Int32)) hx hb dX0_shiftOnce_57 (by decide) ?_
      exact b58 x4 x5 s0 s0 (0 : Int32) u H locs ls hP hD hS (lv_sub hl [1, 2, 3, 4, 5, 6, 0] rfl) hw
    · replace hw := hw.2 c6
      refine lv_iconst (v := (1 : Int32)) hx hb dX0_shiftOnce_53 (by decide) ?_
      refine lv_goto (tgt := 58) hx hb dX0_shiftOnce_54 (by decide) ?_
      exact b58 x4 x5 s0 s0 (1 : Int32) u H locs ls hP hD hS (lv_sub hl [1, 2, 3, 4, 5, 6, 0] rfl) hw
  have b31 : ∀ (x4 : Int32) (x5 : Int32) (s1 : Int32) (u : Int32) (H : Heap) (locs : List Loc) (ls : Array Slot), va_P D vwCl (WA q7 u) H → va_D A (WA q7 u) → va_S A s.heap H locs → lv_has ls 9 [(0, .ref q7), (1, .int a1), (2, .int a2), (3, .int a3), (4, .int x4), (5, .int x5)] → wX0_shiftOnce_b31 a1 a2 a3 P x4 x5 s1 u → W p l e ({ frames := 2, cells := 0, slots := 0, locals := 45 } : Room) s m ([.ref q7, .int a1, .int a2, .int a3] : List Value).toArray below meth c H locs 0 0 (MQ below (va_Qi P (fun u t => va_P D vwCl (WA q7 u) t.heap) A) ([.ref q7, .int a1, .int a2, .int a3] : List Value).toArray s 0 0 A) (F0 m 31 ls [.int s1, .int a2]) := by
    intro x4 x5 s1 u H locs ls hP hD hS hl hw
    unfold wX0_shiftOnce_b31 at hw
    refine lv_iand hx hb dX0_shiftOnce_31 ?_
    refine lv_if_eq (tgt := 39) hx hb dX0_shiftOnce_32 (by decide) (fun c5 => ?_) (fun c5 => ?_)
    · replace hw := hw.1 c5
      refine lv_iconst (v := (0 : Int32)) hx hb dX0_shiftOnce_39 (by decide) ?_
      exact b40 x4 x5 (0 : Int32) u H locs ls hP hD hS (lv_sub hl [0, 1, 2, 3, 4, 5] rfl) hw
    · replace hw := hw.2 c5
      refine lv_iconst (v := (1 : Int32)) hx hb dX0_shiftOnce_35 (by decide) ?_
      refine lv_goto (tgt := 40) hx hb dX0_shiftOnce_36 (by decide) ?_
      exact b40 x4 x5 (1 : Int32) u H locs ls hP hD hS (lv_sub hl [0, 1, 2, 3, 4, 5] rfl) hw
  have b17 : ∀ (x4 : Int32) (s0 : Int32) (u : Int32) (H : Heap) (locs : List Loc) (ls : Array Slot), va_P D vwCl (WA q7 u) H → va_D A (WA q7 u) → va_S A s.heap H locs → lv_has ls 9 [(0, .ref q7), (1, .int a1), (2, .int a2), (3, .int a3), (4, .int x4)] → wX0_shiftOnce_b17 a1 a2 a3 P x4 s0 u → W p l e ({ frames := 2, cells := 0, slots := 0, locals := 45 } : Room) s m ([.ref q7, .int a1, .int a2, .int a3] : List Value).toArray below meth c H locs 0 0 (MQ below (va_Qi P (fun u t => va_P D vwCl (WA q7 u) t.heap) A) ([.ref q7, .int a1, .int a2, .int a3] : List Value).toArray s 0 0 A) (F0 m 17 ls [.int s0]) := by
    intro x4 s0 u H locs ls hP hD hS hl hw
    unfold wX0_shiftOnce_b17 at hw
    refine lv_istore (lv' := [(5, .int s0), (0, .ref q7), (1, .int a1), (2, .int a2), (3, .int a3), (4, .int x4)]) hx hb dX0_shiftOnce_17 hl (by decide) rfl (fun ls hl => ?_)
    refine lv_iload_n hx hb dX0_shiftOnce_19 rfl (lv_at hl 3 rfl) ?_
    refine lv_iload hx hb dX0_shiftOnce_20 (lv_at hl 0 rfl) ?_
    refine lv_if_eq (tgt := 30) hx hb dX0_shiftOnce_22 (by decide) (fun c4 => ?_) (fun c4 => ?_)
    · replace hw := hw.1 c4
      refine lv_iconst (v := (1 : Int32)) hx hb dX0_shiftOnce_30 (by decide) ?_
      exact b31 x4 s0 (1 : Int32) u H locs ls hP hD hS (lv_sub hl [1, 2, 3, 4, 5, 0] rfl) hw
    · replace hw := hw.2 c4
      refine lv_iload hx hb dX0_shiftOnce_25 (lv_at hl 5 rfl) ?_
      refine lv_goto (tgt := 31) hx hb dX0_shiftOnce_27 (by decide) ?_
      exact b31 x4 s0 x4 u H locs ls hP hD hS (lv_sub hl [1, 2, 3, 4, 5, 0] rfl) hw
  unfold wX0_shiftOnce at hw
  obtain ⟨H, eH⟩ : ∃ H, H = s.heap := ⟨_, rfl⟩
  obtain ⟨locs, eL⟩ : ∃ locs : List Loc, locs = [] := ⟨_, rfl⟩
  replace hP : va_P D vwCl (WA q7 u) H := by rw [eH]; exact hP
  replace hS : va_S A s.heap H locs := by rw [eH, eL]; exact hS
  suffices hgo : W p l e ({ frames := 2, cells := 0, slots := 0, locals := 45 } : Room) s m ([.ref q7, .int a1, .int a2, .int a3] : List Value).toArray below meth c H locs 0 0 (MQ below (va_Qi P (fun u t => va_P D vwCl (WA q7 u) t.heap) A) ([.ref q7, .int a1, .int a2, .int a3] : List Value).toArray s 0 0 A) (F0 m 0 ls []) by rw [eH, eL] at hgo; exact hgo
  clear eH eL
  refine lv_iload_n hx hb dX0_shiftOnce_0 rfl (lv_at hl 3 rfl) ?_
  refine cl_Si (As := [.int a3]) (rest := []) (st := [.int a3]) S hK hA hP hD hS Fr_nil (kcX0_highest l D cB cI  H.size a3 () _ hw) (va_cwS 1 hts gX0_shiftOnce_X0_highest rfl rfl rfl (by decide +kernel) ⟨Nat.le_of_ble_eq_true rfl, Nat.le_of_ble_eq_true rfl⟩) tru_h tru_b rfl rfl hl.1 (Nat.le_of_ble_eq_true rfl) dX0_shiftOnce_1 ⟨Nat.zero_le _, Nat.zero_le _⟩ (fun r2 u1 H locs hP hD hS hw => ?_)
  replace hP : va_P D vwCl (WA q7 u) H := hP
  replace hD : va_D A (WA q7 u) := hD
  refine lv_istore (lv' := [(4, .int r2), (0, .ref q7), (1, .int a1), (2, .int a2), (3, .int a3)]) hx hb dX0_shiftOnce_4 hl (by decide) rfl (fun ls hl => ?_)
  refine lv_iload_n hx hb dX0_shiftOnce_6 rfl (lv_at hl 2 rfl) ?_
  refine lv_iconst (v := (1 : Int32)) hx hb dX0_shiftOnce_7 (by decide) ?_
  refine lv_iand hx hb dX0_shiftOnce_8 ?_
  refine lv_if_ne (tgt := 16) hx hb dX0_shiftOnce_9 (by decide) (fun c3 => ?_) (fun c3 => ?_)
  · replace hw := hw.2 c3
    refine lv_iconst (v := (0 : Int32)) hx hb dX0_shiftOnce_16 (by decide) ?_
    exact b17 r2 (0 : Int32) u H locs ls hP hD hS (lv_sub hl [1, 2, 3, 4, 0] rfl) hw
  · replace hw := hw.1 c3
    refine lv_iconst (v := (1 : Int32)) hx hb dX0_shiftOnce_12 (by decide) ?_
    refine lv_goto (tgt := 17) hx hb dX0_shiftOnce_13 (by decide) ?_
    exact b17 r2 (1 : Int32) u H locs ls hP hD hS (lv_sub hl [1, 2, 3, 4, 0] rfl) hw
-- X0_shift
def wX0_shift_b6 (a1 : Int32) (a2 : Int32) (a3 : Int32) (a4 : Int32) (P : Int32 → Int32 → Prop) : Nat → Int32 → Int32 → Int32 → Prop
  | 0, _, _, _ => False
  | n + 1, x5, x6, u => ((a3 ≤ x6 → (P x5 u)) ∧ (¬ a3 ≤ x6 → (wX0_shiftOnce a1 x5 a4 u (fun r3 u2 => (wX0_shift_b6 a1 a2 a3 a4 P n r3 (x6 + (1 : Int32)) u2)))))
def wX0_shift (a1 : Int32) (a2 : Int32) (a3 : Int32) (a4 : Int32) (u : Int32) (P : Int32 → Int32 → Prop) : Prop := (∃ n, wX0_shift_b6 a1 a2 a3 a4 P n a2 (0 : Int32) u)
set_option maxHeartbeats 4000000 in
set_option maxRecDepth 100000 in
theorem kcX0_shift (l : Launch) (D : va_G) (cB cI : ClassId) (q7 : Nat) (sz : Nat) (a1 : Int32) (a2 : Int32) (a3 : Int32) (a4 : Int32) (u : Int32) (P : Int32 → Int32 → Prop) (hw : wX0_shift a1 a2 a3 a4 u P) : Met l yX0_shift wsX0_shift ({ frames := 3, cells := 0, slots := 0, locals := 73 } : Room) (va_Pc [.ref q7, .int a1, .int a2, .int a3, .int a4] (Pcw D (tyA cB cI) (WA q7 u) sz Tru)) (va_Qi P (fun u t => va_P D vwCl (WA q7 u) t.heap) (va_A (WA q7 u) sz)) 0 0 (va_A (WA q7 u) sz) := by
  refine en_ (cc := cX0_shift) (maxL := 7) (ret := (some .int)) (own := RX0) (lv := [(0, .ref q7), (1, .int a1), (2, .int a2), (3, .int a3), (4, .int a4)]) (Qf := fun A => va_Qi P (fun u t => va_P D vwCl (WA q7 u) t.heap) A) (by decide) rfl rfl (Nat.le_of_ble_eq_true rfl) rfl ?_
  intro p e s m below meth c A ls S hr hlk hname hsz hP hK hD hA hSub hS hE hl
  have hx := S.1
  have hb := S.2.1
  have hown := S.2.2.2.1
  have hts := S.2.2.2.2
  have b6 : ∀ (n : Nat) (x5 : Int32) (x6 : Int32) (u : Int32) (H : Heap) (locs : List Loc) (ls : Array Slot), va_P D vwCl (WA q7 u) H → va_D A (WA q7 u) → va_S A s.heap H locs → lv_has ls 7 [(0, .ref q7), (1, .int a1), (3, .int a3), (4, .int a4), (5, .int x5), (6, .int x6)] → wX0_shift_b6 a1 a2 a3 a4 P n x5 x6 u → W p l e ({ frames := 3, cells := 0, slots := 0, locals := 73 } : Room) s m ([.ref q7, .int a1, .int a2, .int a3, .int a4] : List Value).toArray below meth c H locs 0 0 (MQ below (va_Qi P (fun u t => va_P D vwCl (WA q7 u) t.heap) A) ([.ref q7, .int a1, .int a2, .int a3, .int a4] : List Value).toArray s 0 0 A) (F0 m 6 ls []) := by
    intro n
    induction n with
    | zero => intro x5 x6 u H locs ls hP hD hS hl hw; exact False.elim hw
    | succ n ih =>
      intro x5 x6 u H locs ls hP hD hS hl hw
      rw [wX0_shift_b6] at hw
      refine lv_iload hx hb dX0_shift_6 (lv_at hl 5 rfl) ?_
      refine lv_iload_n hx hb dX0_shift_8 rfl (lv_at hl 2 rfl) ?_
      refine lv_icmp_ge (tgt := 29) hx hb dX0_shift_9 (by decide) (fun c1 => ?_) (fun c1 => ?_)
      · replace hw := hw.1 c1
        refine lv_iload hx hb dX0_shift_29 (lv_at hl 4 rfl) ?_
        exact rt_i (wo := (fun v => WA q7 v)) S hr hlk u hP hS hw dX0_shift_31
      · replace hw := hw.2 c1
        refine lv_aload_n hx hb dX0_shift_12 rfl (lv_at hl 0 rfl) ?_
        refine lv_iload_n hx hb dX0_shift_13 rfl (lv_at hl 1 rfl) ?_
        refine lv_iload hx hb dX0_shift_14 (lv_at hl 4 rfl) ?_
        refine lv_iload hx hb dX0_shift_16 (lv_at hl 3 rfl) ?_
        refine cl_Vi (As := [.int a1, .int x5, .int a4]) (rest := []) (st := [.int a4, .int x5, .int a1, .ref q7]) S hK hA hP hD hS (fr_A u) (kcX0_shiftOnce l D cB cI q7 H.size a1 x5 a4 u _ hw) (cwV 3 hts gX0_shift_X0_shiftOnce rfl rfl rfl (by decide +kernel) ⟨Nat.le_of_ble_eq_true rfl, Nat.le_of_ble_eq_true rfl⟩) tru_h tru_b 0 rfl rfl rfl rfl rfl hl.1 (Nat.le_of_ble_eq_true rfl) dX0_shift_18 ⟨Nat.zero_le _, Nat.zero_le _⟩ (fun r3 u2 H locs hP hD hS hw => ?_)
        replace hP : va_P D vwCl (WA q7 u2) H := hP
        replace hD : va_D A (WA q7 u2) := hD
        refine lv_istore (lv' := [(5, .int r3), (0, .ref q7), (1, .int a1), (3, .int a3), (4, .int a4), (6, .int x6)]) hx hb dX0_shift_21 hl (by decide) rfl (fun ls hl => ?_)
        refine lv_iinc (v := (x6 + (1 : Int32))) (lv' := [(6, .int (x6 + (1 : Int32))), (5, .int r3), (0, .ref q7), (1, .int a1), (3, .int a3), (4, .int a4)]) hx hb dX0_shift_23 hl (k := 5) rfl rfl (by decide) rfl (fun ls hl => ?_)
        refine lv_goto (tgt := 6) hx hb dX0_shift_26 (by decide) ?_
        exact ih r3 (x6 + (1 : Int32)) u2 H locs ls hP hD hS (lv_sub hl [2, 3, 4, 5, 1, 0] rfl) hw
  unfold wX0_shift at hw
  obtain ⟨H, eH⟩ : ∃ H, H = s.heap := ⟨_, rfl⟩
  obtain ⟨locs, eL⟩ : ∃ locs : List Loc, locs = [] := ⟨_, rfl⟩
  replace hP : va_P D vwCl (WA q7 u) H := by rw [eH]; exact hP
  replace hS : va_S A s.heap H locs := by rw [eH, eL]; exact hS
  suffices hgo : W p l e ({ frames := 3, cells := 0, slots := 0, locals := 73 } : Room) s m ([.ref q7, .int a1, .int a2, .int a3, .int a4] : List Value).toArray below meth c H locs 0 0 (MQ below (va_Qi P (fun u t => va_P D vwCl (WA q7 u) t.heap) A) ([.ref q7, .int a1, .int a2, .int a3, .int a4] : List Value).toArray s 0 0 A) (F0 m 0 ls []) by rw [eH, eL] at hgo; exact hgo
  clear eH eL
  refine lv_iload_n hx hb dX0_shift_0 rfl (lv_at hl 2 rfl) ?_
  refine lv_istore (lv' := [(5, .int a2), (0, .ref q7), (1, .int a1), (2, .int a2), (3, .int a3), (4, .int a4)]) hx hb dX0_shift_1 hl (by decide) rfl (fun ls hl => ?_)
  refine lv_iconst (v := (0 : Int32)) hx hb dX0_shift_3 (by decide) ?_
  refine lv_istore (lv' := [(6, .int (0 : Int32)), (5, .int a2), (0, .ref q7), (1, .int a1), (2, .int a2), (3, .int a3), (4, .int a4)]) hx hb dX0_shift_4 hl (by decide) rfl (fun ls hl => ?_)
  obtain ⟨n, hw⟩ := hw
  exact b6 n a2 (0 : Int32) u H locs ls hP hD hS (lv_sub hl [2, 3, 5, 6, 1, 0] rfl) hw
-- X0_product
def wX0_product_b66 (a1 : Int32) (a2 : Int32) (a3 : Int32) (a4 : Int32) (P : Int32 → Int32 → Prop) (x5 : Int64) (s0 : Int32) (u : Int32) : Prop := (wX0_mark (1 : Int32) s0 u (fun u12 => (wX0_mark (2048 : Int32) s0 u12 (fun u14 => (P (x5.toInt32) u14)))))
def wX0_product_b56 (a1 : Int32) (a2 : Int32) (a3 : Int32) (a4 : Int32) (P : Int32 → Int32 → Prop) (x5 : Int64) (s0 : Int64) (s1 : Int32) (u : Int32) : Prop := (((lg_cmp s0 (s1.toInt64)) = (0 : Int32) → (wX0_product_b66 a1 a2 a3 a4 P x5 (0 : Int32) u)) ∧ (¬ (lg_cmp s0 (s1.toInt64)) = (0 : Int32) → (wX0_product_b66 a1 a2 a3 a4 P x5 (1 : Int32) u)))
def wX0_product_b26 (a1 : Int32) (a2 : Int32) (a3 : Int32) (a4 : Int32) (P : Int32 → Int32 → Prop) (s0 : Int64) (u : Int32) : Prop := (wX0_mask a3 () (fun r7 u6 => ((a4 = (0 : Int32) → (wX0_product_b56 a1 a2 a3 a4 P s0 s0 ((s0.toInt32) &&& r7) u)) ∧ (¬ a4 = (0 : Int32) → (wX0_signed ((s0.toInt32) &&& r7) a3 () (fun r10 u9 => (wX0_product_b56 a1 a2 a3 a4 P s0 s0 r10 u)))))))
def wX0_product (a1 : Int32) (a2 : Int32) (a3 : Int32) (a4 : Int32) (u : Int32) (P : Int32 → Int32 → Prop) : Prop := ((a4 = (0 : Int32) → (wX0_product_b26 a1 a2 a3 a4 P ((a1.toInt64) * (a2.toInt64)) u)) ∧ (¬ a4 = (0 : Int32) → (wX0_signed a1 a3 () (fun r3 u2 => (wX0_signed a2 a3 () (fun r5 u4 => (wX0_product_b26 a1 a2 a3 a4 P ((r3.toInt64) * (r5.toInt64)) u)))))))
set_option maxHeartbeats 4000000 in
set_option maxRecDepth 100000 in
theorem kcX0_product (l : Launch) (D : va_G) (cB cI : ClassId) (q7 : Nat) (sz : Nat) (a1 : Int32) (a2 : Int32) (a3 : Int32) (a4 : Int32) (u : Int32) (P : Int32 → Int32 → Prop) (hw : wX0_product a1 a2 a3 a4 u P) : Met l yX0_product wsX0_product ({ frames := 1, cells := 0, slots := 0, locals := 22 } : Room) (va_Pc [.ref q7, .int a1, .int a2, .int a3, .int a4] (Pcw D (tyA cB cI) (WA q7 u) sz Tru)) (va_Qi P (fun u t => va_P D vwCl (WA q7 u) t.heap) (va_A (WA q7 u) sz)) 0 0 (va_A (WA q7 u) sz) := by
  refine en_ (cc := cX0_product) (maxL := 9) (ret := (some .int)) (own := RX0) (lv := [(0, .ref q7), (1, .int a1), (2, .int a2), (3, .int a3), (4, .int a4)]) (Qf := fun A => va_Qi P (fun u t => va_P D vwCl (WA q7 u) t.heap) A) (by decide) rfl rfl (Nat.le_of_ble_eq_true rfl) rfl ?_
  intro p e s m below meth c A ls S hr hlk hname hsz hP hK hD hA hSub hS hE hl
  have hx := S.1
  have hb := S.2.1
  have hown := S.2.2.2.1
  have hts := S.2.2.2.2
  have b66 : ∀ (x5 : Int64) (s0 : Int32) (u : Int32) (H : Heap) (locs : List Loc) (ls : Array Slot), va_P D vwCl (WA q7 u) H → va_D A (WA q7 u) → va_S A s.heap H locs → lv_has ls 9 [(0, .ref q7), (5, .long x5)] → wX0_product_b66 a1 a2 a3 a4 P x5 s0 u → W p l e ({ frames := 1, cells := 0, slots := 0, locals := 22 } : Room) s m ([.ref q7, .int a1, .int a2, .int a3, .int a4] : List Value).toArray below meth c H locs 0 0 (MQ below (va_Qi P (fun u t => va_P D vwCl (WA q7 u) t.heap) A) ([.ref q7, .int a1, .int a2, .int a3, .int a4] : List Value).toArray s 0 0 A) (F0 m 66 ls [.int s0]) := by
    intro x5 s0 u H locs ls hP hD hS hl hw
    unfold wX0_product_b66 at hw
    refine lv_istore (lv' := [(8, .int s0), (0, .ref q7), (5, .long x5)]) hx hb dX0_product_66 hl (by decide) rfl (fun ls hl => ?_)
    refine lv_aload_n hx hb dX0_product_68 rfl (lv_at hl 1 rfl) ?_
    refine lv_iconst (v := (1 : Int32)) hx hb dX0_product_69 (by decide) ?_
    refine lv_iload hx hb dX0_product_70 (lv_at hl 0 rfl) ?_
    refine cl_Vv (As := [.int (1 : Int32), .int s0]) (rest := []) (st := [.int s0, .int (1 : Int32), .ref q7]) S hK hA hP hD hS (fr_A u) (kcX0_mark l D cB cI q7 H.size (1 : Int32) s0 u _ hw) (cwV 2 hts gX0_product_X0_mark rfl rfl rfl (by decide +kernel) ⟨Nat.le_of_ble_eq_true rfl, Nat.le_of_ble_eq_true rfl⟩) tru_h tru_b 0 rfl rfl rfl rfl rfl hl.1 (Nat.le_of_ble_eq_true rfl) dX0_product_72 ⟨Nat.zero_le _, Nat.zero_le _⟩ (fun u12 H locs hP hD hS hw => ?_)
    replace hP : va_P D vwCl (WA q7 u12) H := hP
    replace hD : va_D A (WA q7 u12) := hD
    refine lv_aload_n hx hb dX0_product_75 rfl (lv_at hl 1 rfl) ?_
    refine lv_sipush (v := (2048 : Int32)) hx hb dX0_product_76 (by decide) ?_
    refine lv_iload hx hb dX0_product_79 (lv_at hl 0 rfl) ?_
    refine cl_Vv (As := [.int (2048 : Int32), .int s0]) (rest := []) (st := [.int s0, .int (2048 : Int32), .ref q7]) S hK hA hP hD hS (fr_A u12) (kcX0_mark l D cB cI q7 H.size (2048 : Int32) s0 u12 _ hw) (cwV 2 hts gX0_product_X0_mark rfl rfl rfl (by decide +kernel) ⟨Nat.le_of_ble_eq_true rfl, Nat.le_of_ble_eq_true rfl⟩) tru_h tru_b 0 rfl rfl rfl rfl rfl hl.1 (Nat.le_of_ble_eq_true rfl) dX0_product_81 ⟨Nat.zero_le _, Nat.zero_le _⟩ (fun u14 H locs hP hD hS hw => ?_)
    replace hP : va_P D vwCl (WA q7 u14) H := hP
    replace hD : va_D A (WA q7 u14) := hD
    refine lv_lload hx hb dX0_product_84 (lv_at hl 2 rfl) ?_
    refine lv_l2i (v := (x5.toInt32)) hx hb dX0_product_86 rfl ?_
    exact rt_i (wo := (fun v => WA q7 v)) S hr hlk u14 hP hS hw dX0_product_87
  have b56 : ∀ (x5 : Int64) (s0 : Int64) (s1 : Int32) (u : Int32) (H : Heap) (locs : List Loc) (ls : Array Slot), va_P D vwCl (WA q7 u) H → va_D A (WA q7 u) → va_S A s.heap H locs → lv_has ls 9 [(0, .ref q7), (5, .long x5)] → wX0_product_b56 a1 a2 a3 a4 P x5 s0 s1 u → W p l e ({ frames := 1, cells := 0, slots := 0, locals := 22 } : Room) s m ([.ref q7, .int a1, .int a2, .int a3, .int a4] : List Value).toArray below meth c H locs 0 0 (MQ below (va_Qi P (fun u t => va_P D vwCl (WA q7 u) t.heap) A) ([.ref q7, .int a1, .int a2, .int a3, .int a4] : List Value).toArray s 0 0 A) (F0 m 56 ls [.int s1, .long s0]) := by
    intro x5 s0 s1 u H locs ls hP hD hS hl hw
    unfold wX0_product_b56 at hw
    refine lv_i2l (v := (s1.toInt64)) hx hb dX0_product_56 rfl ?_
    refine W.lcmp hx hb dX0_product_57 ?_
    refine lv_if_eq (tgt := 65) hx hb dX0_product_58 (by decide) (fun c11 => ?_) (fun c11 => ?_)
    · replace hw := hw.1 c11
      refine lv_iconst (v := (0 : Int32)) hx hb dX0_product_65 (by decide) ?_
      exact b66 x5 (0 : Int32) u H locs ls hP hD hS (lv_sub hl [0, 1] rfl) hw
    · replace hw := hw.2 c11
      refine lv_iconst (v := (1 : Int32)) hx hb dX0_product_61 (by decide) ?_
      refine lv_goto (tgt := 66) hx hb dX0_product_62 (by decide) ?_
      exact b66 x5 (1 : Int32) u H locs ls hP hD hS (lv_sub hl [0, 1] rfl) hw
  have b26 : ∀ (s0 : Int64) (u : Int32) (H : Heap) (locs : List Loc) (ls : Array Slot), va_P D vwCl (WA q7 u) H → va_D A (WA q7 u) → va_S A s.heap H locs → lv_has ls 9 [(0, .ref q7), (3, .int a3), (4, .int a4)] → wX0_product_b26 a1 a2 a3 a4 P s0 u → W p l e ({ frames := 1, cells := 0, slots := 0, locals := 22 } : Room) s m ([.ref q7, .int a1, .int a2, .int a3, .int a4] : List Value).toArray below meth c H locs 0 0 (MQ below (va_Qi P (fun u t => va_P D vwCl (WA q7 u) t.heap) A) ([.ref q7, .int a1, .int a2, .int a3, .int a4] : List Value).toArray s 0 0 A) (F0 m 26 ls [.long s0]) := by
    intro s0 u H locs ls hP hD hS hl hw
    unfold wX0_product_b26 at hw
    refine lv_lstore (lv' := [(5, .long s0), (0, .ref q7), (3, .int a3), (4, .int a4)]) hx hb dX0_product_26 hl (by decide) rfl (fun ls hl => ?_)
    refine lv_lload hx hb dX0_product_28 (lv_at hl 0 rfl) ?_
    refine lv_l2i (v := (s0.toInt32)) hx hb dX0_product_30 rfl ?_
    refine lv_iload_n hx hb dX0_product_31 rfl (lv_at hl 2 rfl) ?_
    refine cl_Si (As := [.int a3]) (rest := [.int (s0.toInt32)]) (st := [.int a3, .int (s0.toInt32)]) S hK hA hP hD hS Fr_nil (kcX0_mask l D cB cI  H.size a3 () _ hw) (va_cwS 1 hts gX0_product_X0_mask rfl rfl rfl (by decide +kernel) ⟨Nat.le_of_ble_eq_true rfl, Nat.le_of_ble_eq_true rfl⟩) tru_h tru_b rfl rfl hl.1 (Nat.le_of_ble_eq_true rfl) dX0_product_32 ⟨Nat.zero_le _, Nat.zero_le _⟩ (fun r7 u6 H locs hP hD hS hw => ?_)
    replace hP : va_P D vwCl (WA q7 u) H := hP
    replace hD : va_D A (WA q7 u) := hD
    refine lv_iand hx hb dX0_product_35 ?_
    refine lv_istore (lv' := [(7, .int ((s0.toInt32) &&& r7)), (5, .long s0), (0, .ref q7), (3, .int a3), (4, .int a4)]) hx hb dX0_product_36 hl (by decide) rfl (fun ls hl => ?_)
    refine lv_lload hx hb dX0_product_38 (lv_at hl 1 rfl) ?_
    refine lv_iload hx hb dX0_product_40 (lv_at hl 4 rfl) ?_
    refine lv_if_eq (tgt := 54) hx hb dX0_product_42 (by decide) (fun c8 => ?_) (fun c8 => ?_)
    · replace hw := hw.1 c8
      refine lv_iload hx hb dX0_product_54 (lv_at hl 0 rfl) ?_
      exact b56 s0 s0 ((s0.toInt32) &&& r7) u H locs ls hP hD hS (lv_sub hl [2, 1] rfl) hw
    · replace hw := hw.2 c8
      refine lv_iload hx hb dX0_product_45 (lv_at hl 0 rfl) ?_
      refine lv_iload_n hx hb dX0_product_47 rfl (lv_at hl 3 rfl) ?_
      refine cl_Si (As := [.int ((s0.toInt32) &&& r7), .int a3]) (rest := [.long s0]) (st := [.int a3, .int ((s0.toInt32) &&& r7), .long s0]) S hK hA hP hD hS Fr_nil (kcX0_signed l D cB cI  H.size ((s0.toInt32) &&& r7) a3 () _ hw) (va_cwS 2 hts gX0_product_X0_signed rfl rfl rfl (by decide +kernel) ⟨Nat.le_of_ble_eq_true rfl, Nat.le_of_ble_eq_true rfl⟩) tru_h tru_b rfl rfl hl.1 (Nat.le_of_ble_eq_true rfl) dX0_product_48 ⟨Nat.zero_le _, Nat.zero_le _⟩ (fun r10 u9 H locs hP hD hS hw => ?_)
      replace hP : va_P D vwCl (WA q7 u) H := hP
      replace hD : va_D A (WA q7 u) := hD
      refine lv_goto (tgt := 56) hx hb dX0_product_51 (by decide) ?_
      exact b56 s0 s0 r10 u H locs ls hP hD hS (lv_sub hl [2, 1] rfl) hw
  unfold wX0_product at hw
  obtain ⟨H, eH⟩ : ∃ H, H = s.heap := ⟨_, rfl⟩
  obtain ⟨locs, eL⟩ : ∃ locs : List Loc, locs = [] := ⟨_, rfl⟩
  replace hP : va_P D vwCl (WA q7 u) H := by rw [eH]; exact hP
  replace hS : va_S A s.heap H locs := by rw [eH, eL]; exact hS
  suffices hgo : W p l e ({ frames := 1, cells := 0, slots := 0, locals := 22 } : Room) s m ([.ref q7, .int a1, .int a2, .int a3, .int a4] : List Value).toArray below meth c H locs 0 0 (MQ below (va_Qi P (fun u t => va_P D vwCl (WA q7 u) t.heap) A) ([.ref q7, .int a1, .int a2, .int a3, .int a4] : List Value).toArray s 0 0 A) (F0 m 0 ls []) by rw [eH, eL] at hgo; exact hgo
  clear eH eL
  refine lv_iload hx hb dX0_product_0 (lv_at hl 4 rfl) ?_
  refine lv_if_eq (tgt := 21) hx hb dX0_product_2 (by decide) (fun c1 => ?_) (fun c1 => ?_)
  · replace hw := hw.1 c1
    refine lv_iload_n hx hb dX0_product_21 rfl (lv_at hl 1 rfl) ?_
    refine lv_i2l (v := (a1.toInt64)) hx hb dX0_product_22 rfl ?_
    refine lv_iload_n hx hb dX0_product_23 rfl (lv_at hl 2 rfl) ?_
    refine lv_i2l (v := (a2.toInt64)) hx hb dX0_product_24 rfl ?_
    refine lv_lmul hx hb dX0_product_25 ?_
    exact b26 ((a1.toInt64) * (a2.toInt64)) u H locs ls hP hD hS (lv_sub hl [0, 3, 4] rfl) hw
  · replace hw := hw.2 c1
    refine lv_iload_n hx hb dX0_product_5 rfl (lv_at hl 1 rfl) ?_
    refine lv_iload_n hx hb dX0_product_6 rfl (lv_at hl 3 rfl) ?_
    refine cl_Si (As := [.int a1, .int a3]) (rest := []) (st := [.int a3, .int a1]) S hK hA hP hD hS Fr_nil (kcX0_signed l D cB cI  H.size a1 a3 () _ hw) (va_cwS 2 hts gX0_product_X0_signed rfl rfl rfl (by decide +kernel) ⟨Nat.le_of_ble_eq_true rfl, Nat.le_of_ble_eq_true rfl⟩) tru_h tru_b rfl rfl hl.1 (Nat.le_of_ble_eq_true rfl) dX0_product_7 ⟨Nat.zero_le _, Nat.zero_le _⟩ (fun r3 u2 H locs hP hD hS hw => ?_)
    replace hP : va_P D vwCl (WA q7 u) H := hP
    replace hD : va_D A (WA q7 u) := hD
    refine lv_i2l (v := (r3.toInt64)) hx hb dX0_product_10 rfl ?_
    refine lv_iload_n hx hb dX0_product_11 rfl (lv_at hl 2 rfl) ?_
    refine lv_iload_n hx hb dX0_product_12 rfl (lv_at hl 3 rfl) ?_
    refine cl_Si (As := [.int a2, .int a3]) (rest := [.long (r3.toInt64)]) (st := [.int a3, .int a2, .long (r3.toInt64)]) S hK hA hP hD hS Fr_nil (kcX0_signed l D cB cI  H.size a2 a3 () _ hw) (va_cwS 2 hts gX0_product_X0_signed rfl rfl rfl (by decide +kernel) ⟨Nat.le_of_ble_eq_true rfl, Nat.le_of_ble_eq_true rfl⟩) tru_h tru_b rfl rfl hl.1 (Nat.le_of_ble_eq_true rfl) dX0_product_13 ⟨Nat.zero_le _, Nat.zero_le _⟩ (fun r5 u4 H locs hP hD hS hw => ?_)
    replace hP : va_P D vwCl (WA q7 u) H := hP
    replace hD : va_D A (WA q7 u) := hD
    refine lv_i2l (v := (r5.toInt64)) hx hb dX0_product_16 rfl ?_
    refine lv_lmul hx hb dX0_product_17 ?_
    refine lv_goto (tgt := 26) hx hb dX0_product_18 (by decide) ?_
    exact b26 ((r3.toInt64) * (r5.toInt64)) u H locs ls hP hD hS (lv_sub hl [0, 3, 4] rfl) hw
-- X0_fits
def wX0_fits_b40 (a0 : Int64) (a2 : Int32) (a3 : Int32) (P : Int32 → Unit → Prop) (s1 : Int64) (u : Unit) : Prop := (((lg_cmp a0 s1) < (0 : Int32) → (P (0 : Int32) u)) ∧ (¬ (lg_cmp a0 s1) < (0 : Int32) → (P (1 : Int32) u)))
def wX0_fits_b19 (a0 : Int64) (a2 : Int32) (a3 : Int32) (P : Int32 → Unit → Prop) (s0 : Int64) (u : Unit) : Prop := (((0 : Int32) < (lg_cmp a0 s0) → (P (0 : Int32) u)) ∧ (¬ (0 : Int32) < (lg_cmp a0 s0) → ((a3 = (0 : Int32) → (wX0_fits_b40 a0 a2 a3 P (0 : Int64) u)) ∧ (¬ a3 = (0 : Int32) → (wX0_fits_b40 a0 a2 a3 P (-s0) u)))))
def wX0_fits (a0 : Int64) (a2 : Int32) (a3 : Int32) (u : Unit) (P : Int32 → Unit → Prop) : Prop := ((a3 = (0 : Int32) → (wX0_mask a2 () (fun r3 u2 => (wX0_fits_b19 a0 a2 a3 P (r3.toInt64) u)))) ∧ (¬ a3 = (0 : Int32) → (wX0_highest a2 () (fun r5 u4 => (wX0_fits_b19 a0 a2 a3 P ((r5 - (1 : Int32)).toInt64) u)))))
set_option maxHeartbeats 4000000 in
set_option maxRecDepth 100000 in
theorem kcX0_fits (l : Launch) (D : va_G) (cB cI : ClassId) (sz : Nat) (a0 : Int64) (a2 : Int32) (a3 : Int32) (u : Unit) (P : Int32 → Unit → Prop) (hw : wX0_fits a0 a2 a3 u P) : Met l yX0_fits wsX0_fits ({ frames := 1, cells := 0, slots := 0, locals := 20 } : Room) (va_Pc [.long a0, .int a2, .int a3] (Pcw D (tyA cB cI) [] sz Tru)) (va_Qi P (fun u t => va_P D vwCl [] t.heap) (va_A [] sz)) 0 0 (va_A [] sz) := by
  refine en_ (cc := cX0_fits) (maxL := 6) (ret := (some .boolean)) (own := RX0) (lv := [(0, .long a0), (2, .int a2), (3, .int a3)]) (Qf := fun A => va_Qi P (fun u t => va_P D vwCl [] t.heap) A) (by decide) rfl rfl (Nat.le_of_ble_eq_true rfl) rfl ?_
  intro p e s m below meth c A ls S hr hlk hname hsz hP hK hD hA hSub hS hE hl
  have hx := S.1
  have hb := S.2.1
  have hown := S.2.2.2.1
  have hts := S.2.2.2.2
  have b40 : ∀ (s1 : Int64) (u : Unit) (H : Heap) (locs : List Loc) (ls : Array Slot), va_P D vwCl [] H → va_D A [] → va_S A s.heap H locs → lv_has ls 6 [] → wX0_fits_b40 a0 a2 a3 P s1 u → W p l e ({ frames := 1, cells := 0, slots := 0, locals := 20 } : Room) s m ([.long a0, .int a2, .int a3] : List Value).toArray below meth c H locs 0 0 (MQ below (va_Qi P (fun u t => va_P D vwCl [] t.heap) A) ([.long a0, .int a2, .int a3] : List Value).toArray s 0 0 A) (F0 m 40 ls [.long s1, .long a0]) := by
    intro s1 u H locs ls hP hD hS hl hw
    unfold wX0_fits_b40 at hw
    refine W.lcmp hx hb dX0_fits_40 ?_
    refine lv_if_lt (tgt := 48) hx hb dX0_fits_41 (by decide) (fun c8 => ?_) (fun c8 => ?_)
    · replace hw := hw.1 c8
      refine lv_iconst (v := (0 : Int32)) hx hb dX0_fits_48 (by decide) ?_
      exact rt_z (wo := (fun _ => [])) S hr hlk u hP hS zB_0 hw dX0_fits_49
    · replace hw := hw.2 c8
      refine lv_iconst (v := (1 : Int32)) hx hb dX0_fits_44 (by decide) ?_
      refine lv_goto (tgt := 49) hx hb dX0_fits_45 (by decide) ?_
      exact rt_z (wo := (fun _ => [])) S hr hlk u hP hS zB_1 hw dX0_fits_49
  have b19 : ∀ (s0 : Int64) (u : Unit) (H : Heap) (locs : List Loc) (ls : Array Slot), va_P D vwCl [] H → va_D A [] → va_S A s.heap H locs → lv_has ls 6 [(0, .long a0), (3, .int a3)] → wX0_fits_b19 a0 a2 a3 P s0 u → W p l e ({ frames := 1, cells := 0, slots := 0, locals := 20 } : Room) s m ([.long a0, .int a2, .int a3] : List Value).toArray below meth c H locs 0 0 (MQ below (va_Qi P (fun u t => va_P D vwCl [] t.heap) A) ([.long a0, .int a2, .int a3] : List Value).toArray s 0 0 A) (F0 m 19 ls [.long s0]) := by
    intro s0 u H locs ls hP hD hS hl hw
    unfold wX0_fits_b19 at hw
    refine lv_lstore (lv' := [(4, .long s0), (0, .long a0), (3, .int a3)]) hx hb dX0_fits_19 hl (by decide) rfl (fun ls hl => ?_)
    refine lv_lload_n hx hb dX0_fits_21 rfl (lv_at hl 1 rfl) ?_
    refine lv_lload hx hb dX0_fits_22 (lv_at hl 0 rfl) ?_
    refine W.lcmp hx hb dX0_fits_24 ?_
    refine lv_if_gt (tgt := 48) hx hb dX0_fits_25 (by decide) (fun c6 => ?_) (fun c6 => ?_)
    · replace hw := hw.1 c6
      refine lv_iconst (v := (0 : Int32)) hx hb dX0_fits_48 (by decide) ?_
      exact rt_z (wo := (fun _ => [])) S hr hlk u hP hS zB_0 hw dX0_fits_49
    · replace hw := hw.2 c6
      refine lv_lload_n hx hb dX0_fits_28 rfl (lv_at hl 1 rfl) ?_
      refine lv_iload_n hx hb dX0_fits_29 rfl (lv_at hl 2 rfl) ?_
      refine lv_if_eq (tgt := 39) hx hb dX0_fits_30 (by decide) (fun c7 => ?_) (fun c7 => ?_)
      · replace hw := hw.1 c7
        refine lv_lconst (v := (0 : Int64)) hx hb dX0_fits_39 (by decide) ?_
        exact b40 (0 : Int64) u H locs ls hP hD hS (lv_sub hl [] rfl) hw
      · replace hw := hw.2 c7
        refine lv_lload hx hb dX0_fits_33 (lv_at hl 0 rfl) ?_
        refine lv_lneg hx hb dX0_fits_35 ?_
        refine lv_goto (tgt := 40) hx hb dX0_fits_36 (by decide) ?_
        exact b40 (-s0) u H locs ls hP hD hS (lv_sub hl [] rfl) hw
  unfold wX0_fits at hw
  obtain ⟨H, eH⟩ : ∃ H, H = s.heap := ⟨_, rfl⟩
  obtain ⟨locs, eL⟩ : ∃ locs : List Loc, locs = [] := ⟨_, rfl⟩
  replace hP : va_P D vwCl [] H := by rw [eH]; exact hP
  replace hS : va_S A s.heap H locs := by rw [eH, eL]; exact hS
  suffices hgo : W p l e ({ frames := 1, cells := 0, slots := 0, locals := 20 } : Room) s m ([.long a0, .int a2, .int a3] : List Value).toArray below meth c H locs 0 0 (MQ below (va_Qi P (fun u t => va_P D vwCl [] t.heap) A) ([.long a0, .int a2, .int a3] : List Value).toArray s 0 0 A) (F0 m 0 ls []) by rw [eH, eL] at hgo; exact hgo
  clear eH eL
  refine lv_iload_n hx hb dX0_fits_0 rfl (lv_at hl 2 rfl) ?_
  refine lv_if_eq (tgt := 14) hx hb dX0_fits_1 (by decide) (fun c1 => ?_) (fun c1 => ?_)
  · replace hw := hw.1 c1
    refine lv_iload_n hx hb dX0_fits_14 rfl (lv_at hl 1 rfl) ?_
    refine cl_Si (As := [.int a2]) (rest := []) (st := [.int a2]) S hK hA hP hD hS Fr_nil (kcX0_mask l D cB cI  H.size a2 () _ hw) (va_cwS 1 hts gX0_fits_X0_mask rfl rfl rfl (by decide +kernel) ⟨Nat.le_of_ble_eq_true rfl, Nat.le_of_ble_eq_true rfl⟩) tru_h tru_b rfl rfl hl.1 (Nat.le_of_ble_eq_true rfl) dX0_fits_15 ⟨Nat.zero_le _, Nat.zero_le _⟩ (fun r3 u2 H locs hP hD hS hw => ?_)
    replace hP : va_P D vwCl [] H := hP
    replace hD : va_D A [] := hD
    refine lv_i2l (v := (r3.toInt64)) hx hb dX0_fits_18 rfl ?_
    exact b19 (r3.toInt64) u H locs ls hP hD hS (lv_sub hl [0, 2] rfl) hw
  · replace hw := hw.2 c1
    refine lv_iload_n hx hb dX0_fits_4 rfl (lv_at hl 1 rfl) ?_
    refine cl_Si (As := [.int a2]) (rest := []) (st := [.int a2]) S hK hA hP hD hS Fr_nil (kcX0_highest l D cB cI  H.size a2 () _ hw) (va_cwS 1 hts gX0_fits_X0_highest rfl rfl rfl (by decide +kernel) ⟨Nat.le_of_ble_eq_true rfl, Nat.le_of_ble_eq_true rfl⟩) tru_h tru_b rfl rfl hl.1 (Nat.le_of_ble_eq_true rfl) dX0_fits_5 ⟨Nat.zero_le _, Nat.zero_le _⟩ (fun r5 u4 H locs hP hD hS hw => ?_)
    replace hP : va_P D vwCl [] H := hP
    replace hD : va_D A [] := hD
    refine lv_iconst (v := (1 : Int32)) hx hb dX0_fits_8 (by decide) ?_
    refine lv_isub hx hb dX0_fits_9 ?_
    refine lv_i2l (v := ((r5 - (1 : Int32)).toInt64)) hx hb dX0_fits_10 rfl ?_
    refine lv_goto (tgt := 19) hx hb dX0_fits_11 (by decide) ?_
    exact b19 ((r5 - (1 : Int32)).toInt64) u H locs ls hP hD hS (lv_sub hl [0, 2] rfl) hw
-- X0_decimal
def wX0_decimal_b133 (a1 : Int32) (a2 : Int32) (P : Int32 → Int32 → Prop) (x7 : Int32) (s2 : Int32) (u : Int32) : Prop := (wX0_mark (1 : Int32) s2 u (fun u18 => (wX0_byAnswer x7 (0 : Int32) u18 (fun r21 u20 => (P ((a1 &&& (65280 : Int32)) ||| x7) u20)))))
def wX0_decimal_b128 (a1 : Int32) (a2 : Int32) (P : Int32 → Int32 → Prop) (x7 : Int32) (u : Int32) : Prop := (wX0_decimal_b133 a1 a2 P x7 (1 : Int32) u)
def wX0_decimal_b99 (a1 : Int32) (a2 : Int32) (P : Int32 → Int32 → Prop) (x4 : Int32) (x5 : Int32) (x6 : Int32) (s0 : Int32) (s2 : Int32) (s3 : Int32) (u : Int32) : Prop := (wX0_mark (16 : Int32) x4 u (fun u14 => ((x5 = (0 : Int32) → ((x6 = (0 : Int32) → (wX0_decimal_b133 a1 a2 P ((s0 + (a2 * (s2 + s3))) &&& (255 : Int32)) (0 : Int32) u14)) ∧ (¬ x6 = (0 : Int32) → (wX0_decimal_b128 a1 a2 P ((s0 + (a2 * (s2 + s3))) &&& (255 : Int32)) u14)))) ∧ (¬ x5 = (0 : Int32) → (wX0_decimal_b128 a1 a2 P ((s0 + (a2 * (s2 + s3))) &&& (255 : Int32)) u14)))))
def wX0_decimal_b88 (a1 : Int32) (a2 : Int32) (P : Int32 → Int32 → Prop) (x4 : Int32) (x5 : Int32) (x6 : Int32) (s0 : Int32) (s2 : Int32) (u : Int32) : Prop := ((x5 = (0 : Int32) → (wX0_decimal_b99 a1 a2 P x4 x5 x6 s0 s2 (0 : Int32) u)) ∧ (¬ x5 = (0 : Int32) → (wX0_decimal_b99 a1 a2 P x4 x5 x6 s0 s2 (96 : Int32) u)))
def wX0_decimal_b73 (a1 : Int32) (a2 : Int32) (P : Int32 → Int32 → Prop) (x3 : Int32) (x4 : Int32) (x5 : Int32) (s0 : Int32) (u : Int32) : Prop := ((x4 = (0 : Int32) → (wX0_decimal_b88 a1 a2 P x4 x5 s0 x3 (0 : Int32) u)) ∧ (¬ x4 = (0 : Int32) → (wX0_decimal_b88 a1 a2 P x4 x5 s0 x3 (6 : Int32) u)))
def wX0_decimal_b72 (a1 : Int32) (a2 : Int32) (P : Int32 → Int32 → Prop) (x3 : Int32) (x4 : Int32) (x5 : Int32) (u : Int32) : Prop := (wX0_decimal_b73 a1 a2 P x3 x4 x5 (0 : Int32) u)
def wX0_decimal_b51 (a1 : Int32) (a2 : Int32) (P : Int32 → Int32 → Prop) (x3 : Int32) (x4 : Int32) (s0 : Int32) (u : Int32) : Prop := (((0 : Int32) ≤ a2 → (wX0_decimal_b72 a1 a2 P x3 x4 s0 u)) ∧ (¬ (0 : Int32) ≤ a2 → ((x4 = (0 : Int32) → (wX0_decimal_b72 a1 a2 P x3 x4 s0 u)) ∧ (¬ x4 = (0 : Int32) → (((6 : Int32) ≤ x3 → (wX0_decimal_b72 a1 a2 P x3 x4 s0 u)) ∧ (¬ (6 : Int32) ≤ x3 → (wX0_decimal_b73 a1 a2 P x3 x4 s0 (1 : Int32) u)))))))
def wX0_decimal_b46 (a1 : Int32) (a2 : Int32) (P : Int32 → Int32 → Prop) (x3 : Int32) (x4 : Int32) (u : Int32) : Prop := (wX0_decimal_b51 a1 a2 P x3 x4 (1 : Int32) u)
def wX0_decimal_b29 (a1 : Int32) (a2 : Int32) (P : Int32 → Int32 → Prop) (x3 : Int32) (s0 : Int32) (u : Int32) : Prop := (((153 : Int32) < x3 → (wX0_decimal_b46 a1 a2 P x3 s0 u)) ∧ (¬ (153 : Int32) < x3 → (wX0_has (1 : Int32) u (fun r7 u6 => ((r7 = (0 : Int32) → (wX0_decimal_b51 a1 a2 P x3 s0 (0 : Int32) u6)) ∧ (¬ r7 = (0 : Int32) → (wX0_decimal_b46 a1 a2 P x3 s0 u6)))))))
def wX0_decimal_b24 (a1 : Int32) (a2 : Int32) (P : Int32 → Int32 → Prop) (x3 : Int32) (u : Int32) : Prop := (wX0_decimal_b29 a1 a2 P x3 (1 : Int32) u)
def wX0_decimal (a1 : Int32) (a2 : Int32) (u : Int32) (P : Int32 → Int32 → Prop) : Prop := (((9 : Int32) < ((a1 &&& (255 : Int32)) &&& (15 : Int32)) → (wX0_decimal_b24 a1 a2 P (a1 &&& (255 : Int32)) u)) ∧ (¬ (9 : Int32) < ((a1 &&& (255 : Int32)) &&& (15 : Int32)) → (wX0_has (16 : Int32) u (fun r3 u2 => ((r3 = (0 : Int32) → (wX0_decimal_b29 a1 a2 P (a1 &&& (255 : Int32)) (0 : Int32) u2)) ∧ (¬ r3 = (0 : Int32) → (wX0_decimal_b24 a1 a2 P (a1 &&& (255 : Int32)) u2)))))))
set_option maxHeartbeats 4000000 in
set_option maxRecDepth 100000 in
theorem kcX0_decimal (l : Launch) (D : va_G) (cB cI : ClassId) (q7 : Nat) (sz : Nat) (a1 : Int32) (a2 : Int32) (u : Int32) (P : Int32 → Int32 → Prop) (hw : wX0_decimal a1 a2 u P) : Met l yX0_decimal wsX0_decimal ({ frames := 2, cells := 0, slots := 0, locals := 42 } : Room) (va_Pc [.ref q7, .int a1, .int a2] (Pcw D (tyA cB cI) (WA q7 u) sz Tru)) (va_Qi P (fun u t => va_P D vwCl (WA q7 u) t.heap) (va_A (WA q7 u) sz)) 0 0 (va_A (WA q7 u) sz) := by
  refine en_ (cc := cX0_decimal) (maxL := 8) (ret := (some .int)) (own := RX0) (lv := [(0, .ref q7), (1, .int a1), (2, .int a2)]) (Qf := fun A => va_Qi P (fun u t => va_P D vwCl (WA q7 u) t.heap) A) (by decide) rfl rfl (Nat.le_of_ble_eq_true rfl) rfl ?_
  intro p e s m below meth c A ls S hr hlk hname hsz hP hK hD hA hSub hS hE hl
  have hx := S.1
  have hb := S.2.1
  have hown := S.2.2.2.1
  have hts := S.2.2.2.2
  have k_81 := hts (.constant RX0 81 (65280)) (by decide +kernel)
  have b133 : ∀ (x7 : Int32) (s2 : Int32) (u : Int32) (H : Heap) (locs : List Loc) (ls : Array Slot), va_P D vwCl (WA q7 u) H → va_D A (WA q7 u) → va_S A s.heap H locs → lv_has ls 8 [(0, .ref q7), (1, .int a1), (7, .int x7)] → wX0_decimal_b133 a1 a2 P x7 s2 u → W p l e ({ frames := 2, cells := 0, slots := 0, locals := 42 } : Room) s m ([.ref q7, .int a1, .int a2] : List Value).toArray below meth c H locs 0 0 (MQ below (va_Qi P (fun u t => va_P D vwCl (WA q7 u) t.heap) A) ([.ref q7, .int a1, .int a2] : List Value).toArray s 0 0 A) (F0 m 133 ls [.int s2, .int (1 : Int32), .ref q7]) := by
    intro x7 s2 u H locs ls hP hD hS hl hw
    unfold wX0_decimal_b133 at hw
    refine cl_Vv (As := [.int (1 : Int32), .int s2]) (rest := []) (st := [.int s2, .int (1 : Int32), .ref q7]) S hK hA hP hD hS (fr_A u) (kcX0_mark l D cB cI q7 H.size (1 : Int32) s2 u _ hw) (cwV 2 hts gX0_decimal_X0_mark rfl rfl rfl (by decide +kernel) ⟨Nat.le_of_ble_eq_true rfl, Nat.le_of_ble_eq_true rfl⟩) tru_h tru_b 0 rfl rfl rfl rfl rfl hl.1 (Nat.le_of_ble_eq_true rfl) dX0_decimal_133 ⟨Nat.zero_le _, Nat.zero_le _⟩ (fun u18 H locs hP hD hS hw => ?_)
    replace hP : va_P D vwCl (WA q7 u18) H := hP
    replace hD : va_D A (WA q7 u18) := hD
    refine lv_aload_n hx hb dX0_decimal_136 rfl (lv_at hl 0 rfl) ?_
    refine lv_iload hx hb dX0_decimal_137 (lv_at hl 2 rfl) ?_
    refine lv_iconst (v := (0 : Int32)) hx hb dX0_decimal_139 (by decide) ?_
    refine cl_Vi (As := [.int x7, .int (0 : Int32)]) (rest := []) (st := [.int (0 : Int32), .int x7, .ref q7]) S hK hA hP hD hS (fr_A u18) (kcX0_byAnswer l D cB cI q7 H.size x7 (0 : Int32) u18 _ hw) (cwV 2 hts gX0_decimal_X0_byAnswer rfl rfl rfl (by decide +kernel) ⟨Nat.le_of_ble_eq_true rfl, Nat.le_of_ble_eq_true rfl⟩) tru_h tru_b 0 rfl rfl rfl rfl rfl hl.1 (Nat.le_of_ble_eq_true rfl) dX0_decimal_140 ⟨Nat.zero_le _, Nat.zero_le _⟩ (fun r21 u20 H locs hP hD hS hw => ?_)
    replace hP : va_P D vwCl (WA q7 u20) H := hP
    replace hD : va_D A (WA q7 u20) := hD
    refine lv_pop hx hb dX0_decimal_143 rfl ?_
    refine lv_iload_n hx hb dX0_decimal_144 rfl (lv_at hl 1 rfl) ?_
    refine lv_ldc (v := (65280 : Int32)) hx hb hown k_81 dX0_decimal_145 ?_
    refine lv_iand hx hb dX0_decimal_147 ?_
    refine lv_iload hx hb dX0_decimal_148 (lv_at hl 2 rfl) ?_
    refine lv_ior hx hb dX0_decimal_150 ?_
    exact rt_i (wo := (fun v => WA q7 v)) S hr hlk u20 hP hS hw dX0_decimal_151
  have b128 : ∀ (x7 : Int32) (u : Int32) (H : Heap) (locs : List Loc) (ls : Array Slot), va_P D vwCl (WA q7 u) H → va_D A (WA q7 u) → va_S A s.heap H locs → lv_has ls 8 [(0, .ref q7), (1, .int a1), (7, .int x7)] → wX0_decimal_b128 a1 a2 P x7 u → W p l e ({ frames := 2, cells := 0, slots := 0, locals := 42 } : Room) s m ([.ref q7, .int a1, .int a2] : List Value).toArray below meth c H locs 0 0 (MQ below (va_Qi P (fun u t => va_P D vwCl (WA q7 u) t.heap) A) ([.ref q7, .int a1, .int a2] : List Value).toArray s 0 0 A) (F0 m 128 ls [.int (1 : Int32), .ref q7]) := by
    intro x7 u H locs ls hP hD hS hl hw
    unfold wX0_decimal_b128 at hw
    refine lv_iconst (v := (1 : Int32)) hx hb dX0_decimal_128 (by decide) ?_
    refine lv_goto (tgt := 133) hx hb dX0_decimal_129 (by decide) ?_
    exact b133 x7 (1 : Int32) u H locs ls hP hD hS (lv_sub hl [0, 1, 2] rfl) hw
  have b99 : ∀ (x4 : Int32) (x5 : Int32) (x6 : Int32) (s0 : Int32) (s2 : Int32) (s3 : Int32) (u : Int32) (H : Heap) (locs : List Loc) (ls : Array Slot), va_P D vwCl (WA q7 u) H → va_D A (WA q7 u) → va_S A s.heap H locs → lv_has ls 8 [(0, .ref q7), (1, .int a1), (4, .int x4), (5, .int x5), (6, .int x6)] → wX0_decimal_b99 a1 a2 P x4 x5 x6 s0 s2 s3 u → W p l e ({ frames := 2, cells := 0, slots := 0, locals := 42 } : Room) s m ([.ref q7, .int a1, .int a2] : List Value).toArray below meth c H locs 0 0 (MQ below (va_Qi P (fun u t => va_P D vwCl (WA q7 u) t.heap) A) ([.ref q7, .int a1, .int a2] : List Value).toArray s 0 0 A) (F0 m 99 ls [.int s3, .int s2, .int a2, .int s0]) := by
    intro x4 x5 x6 s0 s2 s3 u H locs ls hP hD hS hl hw
    unfold wX0_decimal_b99 at hw
    refine lv_iadd hx hb dX0_decimal_99 ?_
    refine lv_imul hx hb dX0_decimal_100 ?_
    refine lv_iadd hx hb dX0_decimal_101 ?_
    refine lv_sipush (v := (255 : Int32)) hx hb dX0_decimal_102 (by decide) ?_
    refine lv_iand hx hb dX0_decimal_105 ?_
    refine lv_istore (lv' := [(7, .int ((s0 + (a2 * (s2 + s3))) &&& (255 : Int32))), (0, .ref q7), (1, .int a1), (4, .int x4), (5, .int x5), (6, .int x6)]) hx hb dX0_decimal_106 hl (by decide) rfl (fun ls hl => ?_)
    refine lv_aload_n hx hb dX0_decimal_108 rfl (lv_at hl 1 rfl) ?_
    refine lv_bipush (v := (16 : Int32)) hx hb dX0_decimal_109 (by decide) ?_
    refine lv_iload hx hb dX0_decimal_111 (lv_at hl 3 rfl) ?_
    refine cl_Vv (As := [.int (16 : Int32), .int x4]) (rest := []) (st := [.int x4, .int (16 : Int32), .ref q7]) S hK hA hP hD hS (fr_A u) (kcX0_mark l D cB cI q7 H.size (16 : Int32) x4 u _ hw) (cwV 2 hts gX0_decimal_X0_mark rfl rfl rfl (by decide +kernel) ⟨Nat.le_of_ble_eq_true rfl, Nat.le_of_ble_eq_true rfl⟩) tru_h tru_b 0 rfl rfl rfl rfl rfl hl.1 (Nat.le_of_ble_eq_true rfl) dX0_decimal_113 ⟨Nat.zero_le _, Nat.zero_le _⟩ (fun u14 H locs hP hD hS hw => ?_)
    replace hP : va_P D vwCl (WA q7 u14) H := hP
    replace hD : va_D A (WA q7 u14) := hD
    refine lv_aload_n hx hb dX0_decimal_116 rfl (lv_at hl 1 rfl) ?_
    refine lv_iconst (v := (1 : Int32)) hx hb dX0_decimal_117 (by decide) ?_
    refine lv_iload hx hb dX0_decimal_118 (lv_at hl 4 rfl) ?_
    refine lv_if_ne (tgt := 128) hx hb dX0_decimal_120 (by decide) (fun c16 => ?_) (fun c16 => ?_)
    · replace hw := hw.2 c16
      exact b128 ((s0 + (a2 * (s2 + s3))) &&& (255 : Int32)) u14 H locs ls hP hD hS (lv_sub hl [1, 2, 0] rfl) hw
    · replace hw := hw.1 c16
      refine lv_iload hx hb dX0_decimal_123 (lv_at hl 5 rfl) ?_
      refine lv_if_eq (tgt := 132) hx hb dX0_decimal_125 (by decide) (fun c17 => ?_) (fun c17 => ?_)
      · replace hw := hw.1 c17
        refine lv_iconst (v := (0 : Int32)) hx hb dX0_decimal_132 (by decide) ?_
        exact b133 ((s0 + (a2 * (s2 + s3))) &&& (255 : Int32)) (0 : Int32) u14 H locs ls hP hD hS (lv_sub hl [1, 2, 0] rfl) hw
      · replace hw := hw.2 c17
        exact b128 ((s0 + (a2 * (s2 + s3))) &&& (255 : Int32)) u14 H locs ls hP hD hS (lv_sub hl [1, 2, 0] rfl) hw
  have b88 : ∀ (x4 : Int32) (x5 : Int32) (x6 : Int32) (s0 : Int32) (s2 : Int32) (u : Int32) (H : Heap) (locs : List Loc) (ls : Array Slot), va_P D vwCl (WA q7 u) H → va_D A (WA q7 u) → va_S A s.heap H locs → lv_has ls 8 [(0, .ref q7), (1, .int a1), (4, .int x4), (5, .int x5), (6, .int x6)] → wX0_decimal_b88 a1 a2 P x4 x5 x6 s0 s2 u → W p l e ({ frames := 2, cells := 0, slots := 0, locals := 42 } : Room) s m ([.ref q7, .int a1, .int a2] : List Value).toArray below meth c H locs 0 0 (MQ below (va_Qi P (fun u t => va_P D vwCl (WA q7 u) t.heap) A) ([.ref q7, .int a1, .int a2] : List Value).toArray s 0 0 A) (F0 m 88 ls [.int s2, .int a2, .int s0]) := by
    intro x4 x5 x6 s0 s2 u H locs ls hP hD hS hl hw
    unfold wX0_decimal_b88 at hw
    refine lv_iload hx hb dX0_decimal_88 (lv_at hl 3 rfl) ?_
    refine lv_if_eq (tgt := 98) hx hb dX0_decimal_90 (by decide) (fun c13 => ?_) (fun c13 => ?_)
    · replace hw := hw.1 c13
      refine lv_iconst (v := (0 : Int32)) hx hb dX0_decimal_98 (by decide) ?_
      exact b99 x4 x5 x6 s0 s2 (0 : Int32) u H locs ls hP hD hS (lv_sub hl [0, 1, 2, 3, 4] rfl) hw
    · replace hw := hw.2 c13
      refine lv_bipush (v := (96 : Int32)) hx hb dX0_decimal_93 (by decide) ?_
      refine lv_goto (tgt := 99) hx hb dX0_decimal_95 (by decide) ?_
      exact b99 x4 x5 x6 s0 s2 (96 : Int32) u H locs ls hP hD hS (lv_sub hl [0, 1, 2, 3, 4] rfl) hw
  have b73 : ∀ (x3 : Int32) (x4 : Int32) (x5 : Int32) (s0 : Int32) (u : Int32) (H : Heap) (locs : List Loc) (ls : Array Slot), va_P D vwCl (WA q7 u) H → va_D A (WA q7 u) → va_S A s.heap H locs → lv_has ls 8 [(0, .ref q7), (1, .int a1), (2, .int a2), (3, .int x3), (4, .int x4), (5, .int x5)] → wX0_decimal_b73 a1 a2 P x3 x4 x5 s0 u → W p l e ({ frames := 2, cells := 0, slots := 0, locals := 42 } : Room) s m ([.ref q7, .int a1, .int a2] : List Value).toArray below meth c H locs 0 0 (MQ below (va_Qi P (fun u t => va_P D vwCl (WA q7 u) t.heap) A) ([.ref q7, .int a1, .int a2] : List Value).toArray s 0 0 A) (F0 m 73 ls [.int s0]) := by
    intro x3 x4 x5 s0 u H locs ls hP hD hS hl hw
    unfold wX0_decimal_b73 at hw
    refine lv_istore (lv' := [(6, .int s0), (0, .ref q7), (1, .int a1), (2, .int a2), (3, .int x3), (4, .int x4), (5, .int x5)]) hx hb dX0_decimal_73 hl (by decide) rfl (fun ls hl => ?_)
    refine lv_iload_n hx hb dX0_decimal_75 rfl (lv_at hl 4 rfl) ?_
    refine lv_iload_n hx hb dX0_decimal_76 rfl (lv_at hl 3 rfl) ?_
    refine lv_iload hx hb dX0_decimal_77 (lv_at hl 5 rfl) ?_
    refine lv_if_eq (tgt := 87) hx hb dX0_decimal_79 (by decide) (fun c12 => ?_) (fun c12 => ?_)
    · replace hw := hw.1 c12
      refine lv_iconst (v := (0 : Int32)) hx hb dX0_decimal_87 (by decide) ?_
      exact b88 x4 x5 s0 x3 (0 : Int32) u H locs ls hP hD hS (lv_sub hl [1, 2, 5, 6, 0] rfl) hw
    · replace hw := hw.2 c12
      refine lv_bipush (v := (6 : Int32)) hx hb dX0_decimal_82 (by decide) ?_
      refine lv_goto (tgt := 88) hx hb dX0_decimal_84 (by decide) ?_
      exact b88 x4 x5 s0 x3 (6 : Int32) u H locs ls hP hD hS (lv_sub hl [1, 2, 5, 6, 0] rfl) hw
  have b72 : ∀ (x3 : Int32) (x4 : Int32) (x5 : Int32) (u : Int32) (H : Heap) (locs : List Loc) (ls : Array Slot), va_P D vwCl (WA q7 u) H → va_D A (WA q7 u) → va_S A s.heap H locs → lv_has ls 8 [(0, .ref q7), (1, .int a1), (2, .int a2), (3, .int x3), (4, .int x4), (5, .int x5)] → wX0_decimal_b72 a1 a2 P x3 x4 x5 u → W p l e ({ frames := 2, cells := 0, slots := 0, locals := 42 } : Room) s m ([.ref q7, .int a1, .int a2] : List Value).toArray below meth c H locs 0 0 (MQ below (va_Qi P (fun u t => va_P D vwCl (WA q7 u) t.heap) A) ([.ref q7, .int a1, .int a2] : List Value).toArray s 0 0 A) (F0 m 72 ls []) := by
    intro x3 x4 x5 u H locs ls hP hD hS hl hw
    unfold wX0_decimal_b72 at hw
    refine lv_iconst (v := (0 : Int32)) hx hb dX0_decimal_72 (by decide) ?_
    exact b73 x3 x4 x5 (0 : Int32) u H locs ls hP hD hS (lv_sub hl [0, 1, 2, 3, 4, 5] rfl) hw
  have b51 : ∀ (x3 : Int32) (x4 : Int32) (s0 : Int32) (u : Int32) (H : Heap) (locs : List Loc) (ls : Array Slot), va_P D vwCl (WA q7 u) H → va_D A (WA q7 u) → va_S A s.heap H locs → lv_has ls 8 [(0, .ref q7), (1, .int a1), (2, .int a2), (3, .int x3), (4, .int x4)] → wX0_decimal_b51 a1 a2 P x3 x4 s0 u → W p l e ({ frames := 2, cells := 0, slots := 0, locals := 42 } : Room) s m ([.ref q7, .int a1, .int a2] : List Value).toArray below meth c H locs 0 0 (MQ below (va_Qi P (fun u t => va_P D vwCl (WA q7 u) t.heap) A) ([.ref q7, .int a1, .int a2] : List Value).toArray s 0 0 A) (F0 m 51 ls [.int s0]) := by
    intro x3 x4 s0 u H locs ls hP hD hS hl hw
    unfold wX0_decimal_b51 at hw
    refine lv_istore (lv' := [(5, .int s0), (0, .ref q7), (1, .int a1), (2, .int a2), (3, .int x3), (4, .int x4)]) hx hb dX0_decimal_51 hl (by decide) rfl (fun ls hl => ?_)
    refine lv_iload_n hx hb dX0_decimal_53 rfl (lv_at hl 3 rfl) ?_
    refine lv_if_ge (tgt := 72) hx hb dX0_decimal_54 (by decide) (fun c9 => ?_) (fun c9 => ?_)
    · replace hw := hw.1 c9
      exact b72 x3 x4 s0 u H locs ls hP hD hS (lv_sub hl [1, 2, 3, 4, 5, 0] rfl) hw
    · replace hw := hw.2 c9
      refine lv_iload hx hb dX0_decimal_57 (lv_at hl 5 rfl) ?_
      refine lv_if_eq (tgt := 72) hx hb dX0_decimal_59 (by decide) (fun c10 => ?_) (fun c10 => ?_)
      · replace hw := hw.1 c10
        exact b72 x3 x4 s0 u H locs ls hP hD hS (lv_sub hl [1, 2, 3, 4, 5, 0] rfl) hw
      · replace hw := hw.2 c10
        refine lv_iload_n hx hb dX0_decimal_62 rfl (lv_at hl 4 rfl) ?_
        refine lv_bipush (v := (6 : Int32)) hx hb dX0_decimal_63 (by decide) ?_
        refine lv_icmp_ge (tgt := 72) hx hb dX0_decimal_65 (by decide) (fun c11 => ?_) (fun c11 => ?_)
        · replace hw := hw.1 c11
          exact b72 x3 x4 s0 u H locs ls hP hD hS (lv_sub hl [1, 2, 3, 4, 5, 0] rfl) hw
        · replace hw := hw.2 c11
          refine lv_iconst (v := (1 : Int32)) hx hb dX0_decimal_68 (by decide) ?_
          refine lv_goto (tgt := 73) hx hb dX0_decimal_69 (by decide) ?_
          exact b73 x3 x4 s0 (1 : Int32) u H locs ls hP hD hS (lv_sub hl [1, 2, 3, 4, 5, 0] rfl) hw
  have b46 : ∀ (x3 : Int32) (x4 : Int32) (u : Int32) (H : Heap) (locs : List Loc) (ls : Array Slot), va_P D vwCl (WA q7 u) H → va_D A (WA q7 u) → va_S A s.heap H locs → lv_has ls 8 [(0, .ref q7), (1, .int a1), (2, .int a2), (3, .int x3), (4, .int x4)] → wX0_decimal_b46 a1 a2 P x3 x4 u → W p l e ({ frames := 2, cells := 0, slots := 0, locals := 42 } : Room) s m ([.ref q7, .int a1, .int a2] : List Value).toArray below meth c H locs 0 0 (MQ below (va_Qi P (fun u t => va_P D vwCl (WA q7 u) t.heap) A) ([.ref q7, .int a1, .int a2] : List Value).toArray s 0 0 A) (F0 m 46 ls []) := by
    intro x3 x4 u H locs ls hP hD hS hl hw
    unfold wX0_decimal_b46 at hw
    refine lv_iconst (v := (1 : Int32)) hx hb dX0_decimal_46 (by decide) ?_
    refine lv_goto (tgt := 51) hx hb dX0_decimal_47 (by decide) ?_
    exact b51 x3 x4 (1 : Int32) u H locs ls hP hD hS (lv_sub hl [0, 1, 2, 3, 4] rfl) hw
  have b29 : ∀ (x3 : Int32) (s0 : Int32) (u : Int32) (H : Heap) (locs : List Loc) (ls : Array Slot), va_P D vwCl (WA q7 u) H → va_D A (WA q7 u) → va_S A s.heap H locs → lv_has ls 8 [(0, .ref q7), (1, .int a1), (2, .int a2), (3, .int x3)] → wX0_decimal_b29 a1 a2 P x3 s0 u → W p l e ({ frames := 2, cells := 0, slots := 0, locals := 42 } : Room) s m ([.ref q7, .int a1, .int a2] : List Value).toArray below meth c H locs 0 0 (MQ below (va_Qi P (fun u t => va_P D vwCl (WA q7 u) t.heap) A) ([.ref q7, .int a1, .int a2] : List Value).toArray s 0 0 A) (F0 m 29 ls [.int s0]) := by
    intro x3 s0 u H locs ls hP hD hS hl hw
    unfold wX0_decimal_b29 at hw
    refine lv_istore (lv' := [(4, .int s0), (0, .ref q7), (1, .int a1), (2, .int a2), (3, .int x3)]) hx hb dX0_decimal_29 hl (by decide) rfl (fun ls hl => ?_)
    refine lv_iload_n hx hb dX0_decimal_31 rfl (lv_at hl 4 rfl) ?_
    refine lv_sipush (v := (153 : Int32)) hx hb dX0_decimal_32 (by decide) ?_
    refine lv_icmp_gt (tgt := 46) hx hb dX0_decimal_35 (by decide) (fun c5 => ?_) (fun c5 => ?_)
    · replace hw := hw.1 c5
      exact b46 x3 s0 u H locs ls hP hD hS (lv_sub hl [1, 2, 3, 4, 0] rfl) hw
    · replace hw := hw.2 c5
      refine lv_aload_n hx hb dX0_decimal_38 rfl (lv_at hl 1 rfl) ?_
      refine lv_iconst (v := (1 : Int32)) hx hb dX0_decimal_39 (by decide) ?_
      refine cl_Vi (As := [.int (1 : Int32)]) (rest := []) (st := [.int (1 : Int32), .ref q7]) S hK hA hP hD hS (fr_A u) (kcX0_has l D cB cI q7 H.size (1 : Int32) u _ hw) (cwV 1 hts gX0_decimal_X0_has rfl rfl rfl (by decide +kernel) ⟨Nat.le_of_ble_eq_true rfl, Nat.le_of_ble_eq_true rfl⟩) tru_h tru_b 0 rfl rfl rfl rfl rfl hl.1 (Nat.le_of_ble_eq_true rfl) dX0_decimal_40 ⟨Nat.zero_le _, Nat.zero_le _⟩ (fun r7 u6 H locs hP hD hS hw => ?_)
      replace hP : va_P D vwCl (WA q7 u6) H := hP
      replace hD : va_D A (WA q7 u6) := hD
      refine lv_if_eq (tgt := 50) hx hb dX0_decimal_43 (by decide) (fun c8 => ?_) (fun c8 => ?_)
      · replace hw := hw.1 c8
        refine lv_iconst (v := (0 : Int32)) hx hb dX0_decimal_50 (by decide) ?_
        exact b51 x3 s0 (0 : Int32) u6 H locs ls hP hD hS (lv_sub hl [1, 2, 3, 4, 0] rfl) hw
      · replace hw := hw.2 c8
        exact b46 x3 s0 u6 H locs ls hP hD hS (lv_sub hl [1, 2, 3, 4, 0] rfl) hw
  have b24 : ∀ (x3 : Int32) (u : Int32) (H : Heap) (locs : List Loc) (ls : Array Slot), va_P D vwCl (WA q7 u) H → va_D A (WA q7 u) → va_S A s.heap H locs → lv_has ls 8 [(0, .ref q7), (1, .int a1), (2, .int a2), (3, .int x3)] → wX0_decimal_b24 a1 a2 P x3 u → W p l e ({ frames := 2, cells := 0, slots := 0, locals := 42 } : Room) s m ([.ref q7, .int a1, .int a2] : List Value).toArray below meth c H locs 0 0 (MQ below (va_Qi P (fun u t => va_P D vwCl (WA q7 u) t.heap) A) ([.ref q7, .int a1, .int a2] : List Value).toArray s 0 0 A) (F0 m 24 ls []) := by
    intro x3 u H locs ls hP hD hS hl hw
    unfold wX0_decimal_b24 at hw
    refine lv_iconst (v := (1 : Int32)) hx hb dX0_decimal_24 (by decide) ?_
    refine lv_goto (tgt := 29) hx hb dX0_decimal_25 (by decide) ?_
    exact b29 x3 (1 : Int32) u H locs ls hP hD hS (lv_sub hl [0, 1, 2, 3] rfl) hw
  unfold wX0_decimal at hw
  obtain ⟨H, eH⟩ : ∃ H, H = s.heap := ⟨_, rfl⟩
  obtain ⟨locs, eL⟩ : ∃ locs : List Loc, locs = [] := ⟨_, rfl⟩
  replace hP : va_P D vwCl (WA q7 u) H := by rw [eH]; exact hP
  replace hS : va_S A s.heap H locs := by rw [eH, eL]; exact hS
  suffices hgo : W p l e ({ frames := 2, cells := 0, slots := 0, locals := 42 } : Room) s m ([.ref q7, .int a1, .int a2] : List Value).toArray below meth c H locs 0 0 (MQ below (va_Qi P (fun u t => va_P D vwCl (WA q7 u) t.heap) A) ([.ref q7, .int a1, .int a2] : List Value).toArray s 0 0 A) (F0 m 0 ls []) by rw [eH, eL] at hgo; exact hgo
  clear eH eL
  refine lv_iload_n hx hb dX0_decimal_0 rfl (lv_at hl 1 rfl) ?_
  refine lv_sipush (v := (255 : Int32)) hx hb dX0_decimal_1 (by decide) ?_
  refine lv_iand hx hb dX0_decimal_4 ?_
  refine lv_istore_n (lv' := [(3, .int (a1 &&& (255 : Int32))), (0, .ref q7), (1, .int a1), (2, .int a2)]) hx hb dX0_decimal_5 rfl hl (by decide) rfl (fun ls hl => ?_)
  refine lv_iload_n hx hb dX0_decimal_6 rfl (lv_at hl 0 rfl) ?_
  refine lv_bipush (v := (15 : Int32)) hx hb dX0_decimal_7 (by decide) ?_
  refine lv_iand hx hb dX0_decimal_9 ?_
  refine lv_bipush (v := (9 : Int32)) hx hb dX0_decimal_10 (by decide) ?_
  refine lv_icmp_gt (tgt := 24) hx hb dX0_decimal_12 (by decide) (fun c1 => ?_) (fun c1 => ?_)
  · replace hw := hw.1 c1
    exact b24 (a1 &&& (255 : Int32)) u H locs ls hP hD hS (lv_sub hl [1, 2, 3, 0] rfl) hw
  · replace hw := hw.2 c1
    refine lv_aload_n hx hb dX0_decimal_15 rfl (lv_at hl 1 rfl) ?_
    refine lv_bipush (v := (16 : Int32)) hx hb dX0_decimal_16 (by decide) ?_
    refine cl_Vi (As := [.int (16 : Int32)]) (rest := []) (st := [.int (16 : Int32), .ref q7]) S hK hA hP hD hS (fr_A u) (kcX0_has l D cB cI q7 H.size (16 : Int32) u _ hw) (cwV 1 hts gX0_decimal_X0_has rfl rfl rfl (by decide +kernel) ⟨Nat.le_of_ble_eq_true rfl, Nat.le_of_ble_eq_true rfl⟩) tru_h tru_b 0 rfl rfl rfl rfl rfl hl.1 (Nat.le_of_ble_eq_true rfl) dX0_decimal_18 ⟨Nat.zero_le _, Nat.zero_le _⟩ (fun r3 u2 H locs hP hD hS hw => ?_)
    replace hP : va_P D vwCl (WA q7 u2) H := hP
    replace hD : va_D A (WA q7 u2) := hD
    refine lv_if_eq (tgt := 28) hx hb dX0_decimal_21 (by decide) (fun c4 => ?_) (fun c4 => ?_)
    · replace hw := hw.1 c4
      refine lv_iconst (v := (0 : Int32)) hx hb dX0_decimal_28 (by decide) ?_
      exact b29 (a1 &&& (255 : Int32)) (0 : Int32) u2 H locs ls hP hD hS (lv_sub hl [1, 2, 3, 0] rfl) hw
    · replace hw := hw.2 c4
      exact b24 (a1 &&& (255 : Int32)) u2 H locs ls hP hD hS (lv_sub hl [1, 2, 3, 0] rfl) hw
-- X0_parts
def wX0_parts (a1 : Int32) (a2 : Int32) (u : Int32) (P : Int32 → Int32 → Prop) : Prop := ((a2 = (0 : Int32) → (P a1 u)) ∧ (¬ a2 = (0 : Int32) → (¬ a2 = (0 : Int32) ∧ (wX0_byAnswer (a1 - a1 / a2 * a2) (0 : Int32) u (fun r3 u2 => (¬ a2 = (0 : Int32) ∧ (¬ a2 = (0 : Int32) ∧ (P (((a1 / a2) <<< ((8 : Int32) &&& 31)) ||| (a1 - a1 / a2 * a2)) u2))))))))
set_option maxHeartbeats 4000000 in
set_option maxRecDepth 100000 in
theorem kcX0_parts (l : Launch) (D : va_G) (cB cI : ClassId) (q7 : Nat) (sz : Nat) (a1 : Int32) (a2 : Int32) (u : Int32) (P : Int32 → Int32 → Prop) (hw : wX0_parts a1 a2 u P) : Met l yX0_parts wsX0_parts ({ frames := 2, cells := 0, slots := 0, locals := 42 } : Room) (va_Pc [.ref q7, .int a1, .int a2] (Pcw D (tyA cB cI) (WA q7 u) sz Tru)) (va_Qi P (fun u t => va_P D vwCl (WA q7 u) t.heap) (va_A (WA q7 u) sz)) 0 0 (va_A (WA q7 u) sz) := by
  refine en_ (cc := cX0_parts) (maxL := 3) (ret := (some .int)) (own := RX0) (lv := [(0, .ref q7), (1, .int a1), (2, .int a2)]) (Qf := fun A => va_Qi P (fun u t => va_P D vwCl (WA q7 u) t.heap) A) (by decide) rfl rfl (Nat.le_of_ble_eq_true rfl) rfl ?_
  intro p e s m below meth c A ls S hr hlk hname hsz hP hK hD hA hSub hS hE hl
  have hx := S.1
  have hb := S.2.1
  have hown := S.2.2.2.1
  have hts := S.2.2.2.2
  unfold wX0_parts at hw
  obtain ⟨H, eH⟩ : ∃ H, H = s.heap := ⟨_, rfl⟩
  obtain ⟨locs, eL⟩ : ∃ locs : List Loc, locs = [] := ⟨_, rfl⟩
  replace hP : va_P D vwCl (WA q7 u) H := by rw [eH]; exact hP
  replace hS : va_S A s.heap H locs := by rw [eH, eL]; exact hS
  suffices hgo : W p l e ({ frames := 2, cells := 0, slots := 0, locals := 42 } : Room) s m ([.ref q7, .int a1, .int a2] : List Value).toArray below meth c H locs 0 0 (MQ below (va_Qi P (fun u t => va_P D vwCl (WA q7 u) t.heap) A) ([.ref q7, .int a1, .int a2] : List Value).toArray s 0 0 A) (F0 m 0 ls []) by rw [eH, eL] at hgo; exact hgo
  clear eH eL
  refine lv_iload_n hx hb dX0_parts_0 rfl (lv_at hl 2 rfl) ?_
  refine lv_if_ne (tgt := 6) hx hb dX0_parts_1 (by decide) (fun c1 => ?_) (fun c1 => ?_)
  · replace hw := hw.2 c1
    refine lv_aload_n hx hb dX0_parts_6 rfl (lv_at hl 0 rfl) ?_
    refine lv_iload_n hx hb dX0_parts_7 rfl (lv_at hl 1 rfl) ?_
    refine lv_iload_n hx hb dX0_parts_8 rfl (lv_at hl 2 rfl) ?_
    refine lv_irem hx hb dX0_parts_9 hw.1 ?_
    replace hw := hw.2
    refine lv_iconst (v := (0 : Int32)) hx hb dX0_parts_10 (by decide) ?_
    refine cl_Vi (As := [.int (a1 - a1 / a2 * a2), .int (0 : Int32)]) (rest := []) (st := [.int (0 : Int32), .int (a1 - a1 / a2 * a2), .ref q7]) S hK hA hP hD hS (fr_A u) (kcX0_byAnswer l D cB cI q7 H.size (a1 - a1 / a2 * a2) (0 : Int32) u _ hw) (cwV 2 hts gX0_parts_X0_byAnswer rfl rfl rfl (by decide +kernel) ⟨Nat.le_of_ble_eq_true rfl, Nat.le_of_ble_eq_true rfl⟩) tru_h tru_b 0 rfl rfl rfl rfl rfl hl.1 (Nat.le_of_ble_eq_true rfl) dX0_parts_11 ⟨Nat.zero_le _, Nat.zero_le _⟩ (fun r3 u2 H locs hP hD hS hw => ?_)
    replace hP : va_P D vwCl (WA q7 u2) H := hP
    replace hD : va_D A (WA q7 u2) := hD
    refine lv_pop hx hb dX0_parts_14 rfl ?_
    refine lv_iload_n hx hb dX0_parts_15 rfl (lv_at hl 1 rfl) ?_
    refine lv_iload_n hx hb dX0_parts_16 rfl (lv_at hl 2 rfl) ?_
    refine lv_idiv hx hb dX0_parts_17 hw.1 ?_
    replace hw := hw.2
    refine lv_bipush (v := (8 : Int32)) hx hb dX0_parts_18 (by decide) ?_
    refine lv_ishl hx hb dX0_parts_20 ?_
    refine lv_iload_n hx hb dX0_parts_21 rfl (lv_at hl 1 rfl) ?_
    refine lv_iload_n hx hb dX0_parts_22 rfl (lv_at hl 2 rfl) ?_
    refine lv_irem hx hb dX0_parts_23 hw.1 ?_
    replace hw := hw.2
    refine lv_ior hx hb dX0_parts_24 ?_
    exact rt_i (wo := (fun v => WA q7 v)) S hr hlk u2 hP hS hw dX0_parts_25
  · replace hw := hw.1 c1
    refine lv_iload_n hx hb dX0_parts_4 rfl (lv_at hl 1 rfl) ?_
    exact rt_i (wo := (fun v => WA q7 v)) S hr hlk u hP hS hw dX0_parts_5
-- X0_unpacked
def wX0_unpacked_b56 (a1 : Int32) (a2 : Int32) (P : Int32 → Int32 → Prop) (x3 : Int32) (x4 : Int32) (s0 : Int32) (s1 : Int32) (u : Int32) : Prop := (wX0_mark (16 : Int32) x3 u (fun u7 => (wX0_mark (1 : Int32) x3 u7 (fun u9 => (P ((((s0 + s1) &&& (255 : Int32)) <<< ((8 : Int32) &&& 31)) ||| x4) u9)))))
def wX0_unpacked_b37 (a1 : Int32) (a2 : Int32) (P : Int32 → Int32 → Prop) (x3 : Int32) (s1 : Int32) (u : Int32) : Prop := ((x3 = (0 : Int32) → (wX0_unpacked_b56 a1 a2 P x3 ((a1 + s1) &&& (15 : Int32)) (a1 >>> ((8 : Int32) &&& 31)) (0 : Int32) u)) ∧ (¬ x3 = (0 : Int32) → (wX0_unpacked_b56 a1 a2 P x3 ((a1 + s1) &&& (15 : Int32)) (a1 >>> ((8 : Int32) &&& 31)) a2 u)))
def wX0_unpacked_b23 (a1 : Int32) (a2 : Int32) (P : Int32 → Int32 → Prop) (s0 : Int32) (u : Int32) : Prop := ((s0 = (0 : Int32) → (wX0_unpacked_b37 a1 a2 P s0 (0 : Int32) u)) ∧ (¬ s0 = (0 : Int32) → (wX0_unpacked_b37 a1 a2 P s0 ((6 : Int32) * a2) u)))
def wX0_unpacked_b18 (a1 : Int32) (a2 : Int32) (P : Int32 → Int32 → Prop)  (u : Int32) : Prop := (wX0_unpacked_b23 a1 a2 P (1 : Int32) u)
def wX0_unpacked (a1 : Int32) (a2 : Int32) (u : Int32) (P : Int32 → Int32 → Prop) : Prop := (((9 : Int32) < (a1 &&& (15 : Int32)) → (wX0_unpacked_b18 a1 a2 P u)) ∧ (¬ (9 : Int32) < (a1 &&& (15 : Int32)) → (wX0_has (16 : Int32) u (fun r3 u2 => ((r3 = (0 : Int32) → (wX0_unpacked_b23 a1 a2 P (0 : Int32) u2)) ∧ (¬ r3 = (0 : Int32) → (wX0_unpacked_b18 a1 a2 P u2)))))))
set_option maxHeartbeats 4000000 in
set_option maxRecDepth 100000 in
theorem kcX0_unpacked (l : Launch) (D : va_G) (cB cI : ClassId) (q7 : Nat) (sz : Nat) (a1 : Int32) (a2 : Int32) (u : Int32) (P : Int32 → Int32 → Prop) (hw : wX0_unpacked a1 a2 u P) : Met l yX0_unpacked wsX0_unpacked ({ frames := 1, cells := 0, slots := 0, locals := 22 } : Room) (va_Pc [.ref q7, .int a1, .int a2] (Pcw D (tyA cB cI) (WA q7 u) sz Tru)) (va_Qi P (fun u t => va_P D vwCl (WA q7 u) t.heap) (va_A (WA q7 u) sz)) 0 0 (va_A (WA q7 u) sz) := by
  refine en_ (cc := cX0_unpacked) (maxL := 6) (ret := (some .int)) (own := RX0) (lv := [(0, .ref q7), (1, .int a1), (2, .int a2)]) (Qf := fun A => va_Qi P (fun u t => va_P D vwCl (WA q7 u) t.heap) A) (by decide) rfl rfl (Nat.le_of_ble_eq_true rfl) rfl ?_
  intro p e s m below meth c A ls S hr hlk hname hsz hP hK hD hA hSub hS hE hl
  have hx := S.1
  have hb := S.2.1
  have hown := S.2.2.2.1
  have hts := S.2.2.2.2
  have b56 : ∀ (x3 : Int32) (x4 : Int32) (s0 : Int32) (s1 : Int32) (u : Int32) (H : Heap) (locs : List Loc) (ls : Array Slot), va_P D vwCl (WA q7 u) H → va_D A (WA q7 u) → va_S A s.heap H locs → lv_has ls 6 [(0, .ref q7), (3, .int x3), (4, .int x4)] → wX0_unpacked_b56 a1 a2 P x3 x4 s0 s1 u → W p l e ({ frames := 1, cells := 0, slots := 0, locals := 22 } : Room) s m ([.ref q7, .int a1, .int a2] : List Value).toArray below meth c H locs 0 0 (MQ below (va_Qi P (fun u t => va_P D vwCl (WA q7 u) t.heap) A) ([.ref q7, .int a1, .int a2] : List Value).toArray s 0 0 A) (F0 m 56 ls [.int s1, .int s0]) := by
    intro x3 x4 s0 s1 u H locs ls hP hD hS hl hw
    unfold wX0_unpacked_b56 at hw
    refine lv_iadd hx hb dX0_unpacked_56 ?_
    refine lv_sipush (v := (255 : Int32)) hx hb dX0_unpacked_57 (by decide) ?_
    refine lv_iand hx hb dX0_unpacked_60 ?_
    refine lv_istore (lv' := [(5, .int ((s0 + s1) &&& (255 : Int32))), (0, .ref q7), (3, .int x3), (4, .int x4)]) hx hb dX0_unpacked_61 hl (by decide) rfl (fun ls hl => ?_)
    refine lv_aload_n hx hb dX0_unpacked_63 rfl (lv_at hl 1 rfl) ?_
    refine lv_bipush (v := (16 : Int32)) hx hb dX0_unpacked_64 (by decide) ?_
    refine lv_iload_n hx hb dX0_unpacked_66 rfl (lv_at hl 2 rfl) ?_
    refine cl_Vv (As := [.int (16 : Int32), .int x3]) (rest := []) (st := [.int x3, .int (16 : Int32), .ref q7]) S hK hA hP hD hS (fr_A u) (kcX0_mark l D cB cI q7 H.size (16 : Int32) x3 u _ hw) (cwV 2 hts gX0_unpacked_X0_mark rfl rfl rfl (by decide +kernel) ⟨Nat.le_of_ble_eq_true rfl, Nat.le_of_ble_eq_true rfl⟩) tru_h tru_b 0 rfl rfl rfl rfl rfl hl.1 (Nat.le_of_ble_eq_true rfl) dX0_unpacked_67 ⟨Nat.zero_le _, Nat.zero_le _⟩ (fun u7 H locs hP hD hS hw => ?_)
    replace hP : va_P D vwCl (WA q7 u7) H := hP
    replace hD : va_D A (WA q7 u7) := hD
    refine lv_aload_n hx hb dX0_unpacked_70 rfl (lv_at hl 1 rfl) ?_
    refine lv_iconst (v := (1 : Int32)) hx hb dX0_unpacked_71 (by decide) ?_
    refine lv_iload_n hx hb dX0_unpacked_72 rfl (lv_at hl 2 rfl) ?_
    refine cl_Vv (As := [.int (1 : Int32), .int x3]) (rest := []) (st := [.int x3, .int (1 : Int32), .ref q7]) S hK hA hP hD hS (fr_A u7) (kcX0_mark l D cB cI q7 H.size (1 : Int32) x3 u7 _ hw) (cwV 2 hts gX0_unpacked_X0_mark rfl rfl rfl (by decide +kernel) ⟨Nat.le_of_ble_eq_true rfl, Nat.le_of_ble_eq_true rfl⟩) tru_h tru_b 0 rfl rfl rfl rfl rfl hl.1 (Nat.le_of_ble_eq_true rfl) dX0_unpacked_73 ⟨Nat.zero_le _, Nat.zero_le _⟩ (fun u9 H locs hP hD hS hw => ?_)
    replace hP : va_P D vwCl (WA q7 u9) H := hP
    replace hD : va_D A (WA q7 u9) := hD
    refine lv_iload hx hb dX0_unpacked_76 (lv_at hl 0 rfl) ?_
    refine lv_bipush (v := (8 : Int32)) hx hb dX0_unpacked_78 (by decide) ?_
    refine lv_ishl hx hb dX0_unpacked_80 ?_
    refine lv_iload hx hb dX0_unpacked_81 (lv_at hl 3 rfl) ?_
    refine lv_ior hx hb dX0_unpacked_83 ?_
    exact rt_i (wo := (fun v => WA q7 v)) S hr hlk u9 hP hS hw dX0_unpacked_84
  have b37 : ∀ (x3 : Int32) (s1 : Int32) (u : Int32) (H : Heap) (locs : List Loc) (ls : Array Slot), va_P D vwCl (WA q7 u) H → va_D A (WA q7 u) → va_S A s.heap H locs → lv_has ls 6 [(0, .ref q7), (1, .int a1), (2, .int a2), (3, .int x3)] → wX0_unpacked_b37 a1 a2 P x3 s1 u → W p l e ({ frames := 1, cells := 0, slots := 0, locals := 22 } : Room) s m ([.ref q7, .int a1, .int a2] : List Value).toArray below meth c H locs 0 0 (MQ below (va_Qi P (fun u t => va_P D vwCl (WA q7 u) t.heap) A) ([.ref q7, .int a1, .int a2] : List Value).toArray s 0 0 A) (F0 m 37 ls [.int s1, .int a1]) := by
    intro x3 s1 u H locs ls hP hD hS hl hw
    unfold wX0_unpacked_b37 at hw
    refine lv_iadd hx hb dX0_unpacked_37 ?_
    refine lv_bipush (v := (15 : Int32)) hx hb dX0_unpacked_38 (by decide) ?_
    refine lv_iand hx hb dX0_unpacked_40 ?_
    refine lv_istore (lv' := [(4, .int ((a1 + s1) &&& (15 : Int32))), (0, .ref q7), (1, .int a1), (2, .int a2), (3, .int x3)]) hx hb dX0_unpacked_41 hl (by decide) rfl (fun ls hl => ?_)
    refine lv_iload_n hx hb dX0_unpacked_43 rfl (lv_at hl 2 rfl) ?_
    refine lv_bipush (v := (8 : Int32)) hx hb dX0_unpacked_44 (by decide) ?_
    refine lv_ishr hx hb dX0_unpacked_46 ?_
    refine lv_iload_n hx hb dX0_unpacked_47 rfl (lv_at hl 4 rfl) ?_
    refine lv_if_eq (tgt := 55) hx hb dX0_unpacked_48 (by decide) (fun c6 => ?_) (fun c6 => ?_)
    · replace hw := hw.1 c6
      refine lv_iconst (v := (0 : Int32)) hx hb dX0_unpacked_55 (by decide) ?_
      exact b56 x3 ((a1 + s1) &&& (15 : Int32)) (a1 >>> ((8 : Int32) &&& 31)) (0 : Int32) u H locs ls hP hD hS (lv_sub hl [1, 4, 0] rfl) hw
    · replace hw := hw.2 c6
      refine lv_iload_n hx hb dX0_unpacked_51 rfl (lv_at hl 3 rfl) ?_
      refine lv_goto (tgt := 56) hx hb dX0_unpacked_52 (by decide) ?_
      exact b56 x3 ((a1 + s1) &&& (15 : Int32)) (a1 >>> ((8 : Int32) &&& 31)) a2 u H locs ls hP hD hS (lv_sub hl [1, 4, 0] rfl) hw
  have b23 : ∀ (s0 : Int32) (u : Int32) (H : Heap) (locs : List Loc) (ls : Array Slot), va_P D vwCl (WA q7 u) H → va_D A (WA q7 u) → va_S A s.heap H locs → lv_has ls 6 [(0, .ref q7), (1, .int a1), (2, .int a2)] → wX0_unpacked_b23 a1 a2 P s0 u → W p l e ({ frames := 1, cells := 0, slots := 0, locals := 22 } : Room) s m ([.ref q7, .int a1, .int a2] : List Value).toArray below meth c H locs 0 0 (MQ below (va_Qi P (fun u t => va_P D vwCl (WA q7 u) t.heap) A) ([.ref q7, .int a1, .int a2] : List Value).toArray s 0 0 A) (F0 m 23 ls [.int s0]) := by
    intro s0 u H locs ls hP hD hS hl hw
    unfold wX0_unpacked_b23 at hw
    refine lv_istore_n (lv' := [(3, .int s0), (0, .ref q7), (1, .int a1), (2, .int a2)]) hx hb dX0_unpacked_23 rfl hl (by decide) rfl (fun ls hl => ?_)
    refine lv_iload_n hx hb dX0_unpacked_24 rfl (lv_at hl 2 rfl) ?_
    refine lv_iload_n hx hb dX0_unpacked_25 rfl (lv_at hl 0 rfl) ?_
    refine lv_if_eq (tgt := 36) hx hb dX0_unpacked_26 (by decide) (fun c5 => ?_) (fun c5 => ?_)
    · replace hw := hw.1 c5
      refine lv_iconst (v := (0 : Int32)) hx hb dX0_unpacked_36 (by decide) ?_
      exact b37 s0 (0 : Int32) u H locs ls hP hD hS (lv_sub hl [1, 2, 3, 0] rfl) hw
    · replace hw := hw.2 c5
      refine lv_bipush (v := (6 : Int32)) hx hb dX0_unpacked_29 (by decide) ?_
      refine lv_iload_n hx hb dX0_unpacked_31 rfl (lv_at hl 3 rfl) ?_
      refine lv_imul hx hb dX0_unpacked_32 ?_
      refine lv_goto (tgt := 37) hx hb dX0_unpacked_33 (by decide) ?_
      exact b37 s0 ((6 : Int32) * a2) u H locs ls hP hD hS (lv_sub hl [1, 2, 3, 0] rfl) hw
  have b18 : ∀  (u : Int32) (H : Heap) (locs : List Loc) (ls : Array Slot), va_P D vwCl (WA q7 u) H → va_D A (WA q7 u) → va_S A s.heap H locs → lv_has ls 6 [(0, .ref q7), (1, .int a1), (2, .int a2)] → wX0_unpacked_b18 a1 a2 P u → W p l e ({ frames := 1, cells := 0, slots := 0, locals := 22 } : Room) s m ([.ref q7, .int a1, .int a2] : List Value).toArray below meth c H locs 0 0 (MQ below (va_Qi P (fun u t => va_P D vwCl (WA q7 u) t.heap) A) ([.ref q7, .int a1, .int a2] : List Value).toArray s 0 0 A) (F0 m 18 ls []) := by
    intro u H locs ls hP hD hS hl hw
    unfold wX0_unpacked_b18 at hw
    refine lv_iconst (v := (1 : Int32)) hx hb dX0_unpacked_18 (by decide) ?_
    refine lv_goto (tgt := 23) hx hb dX0_unpacked_19 (by decide) ?_
    exact b23 (1 : Int32) u H locs ls hP hD hS (lv_sub hl [0, 1, 2] rfl) hw
  unfold wX0_unpacked at hw
  obtain ⟨H, eH⟩ : ∃ H, H = s.heap := ⟨_, rfl⟩
  obtain ⟨locs, eL⟩ : ∃ locs : List Loc, locs = [] := ⟨_, rfl⟩
  replace hP : va_P D vwCl (WA q7 u) H := by rw [eH]; exact hP
  replace hS : va_S A s.heap H locs := by rw [eH, eL]; exact hS
  suffices hgo : W p l e ({ frames := 1, cells := 0, slots := 0, locals := 22 } : Room) s m ([.ref q7, .int a1, .int a2] : List Value).toArray below meth c H locs 0 0 (MQ below (va_Qi P (fun u t => va_P D vwCl (WA q7 u) t.heap) A) ([.ref q7, .int a1, .int a2] : List Value).toArray s 0 0 A) (F0 m 0 ls []) by rw [eH, eL] at hgo; exact hgo
  clear eH eL
  refine lv_iload_n hx hb dX0_unpacked_0 rfl (lv_at hl 1 rfl) ?_
  refine lv_bipush (v := (15 : Int32)) hx hb dX0_unpacked_1 (by decide) ?_
  refine lv_iand hx hb dX0_unpacked_3 ?_
  refine lv_bipush (v := (9 : Int32)) hx hb dX0_unpacked_4 (by decide) ?_
  refine lv_icmp_gt (tgt := 18) hx hb dX0_unpacked_6 (by decide) (fun c1 => ?_) (fun c1 => ?_)
  · replace hw := hw.1 c1
    exact b18 u H locs ls hP hD hS (lv_sub hl [0, 1, 2] rfl) hw
  · replace hw := hw.2 c1
    refine lv_aload_n hx hb dX0_unpacked_9 rfl (lv_at hl 0 rfl) ?_
    refine lv_bipush (v := (16 : Int32)) hx hb dX0_unpacked_10 (by decide) ?_
    refine cl_Vi (As := [.int (16 : Int32)]) (rest := []) (st := [.int (16 : Int32), .ref q7]) S hK hA hP hD hS (fr_A u) (kcX0_has l D cB cI q7 H.size (16 : Int32) u _ hw) (cwV 1 hts gX0_unpacked_X0_has rfl rfl rfl (by decide +kernel) ⟨Nat.le_of_ble_eq_true rfl, Nat.le_of_ble_eq_true rfl⟩) tru_h tru_b 0 rfl rfl rfl rfl rfl hl.1 (Nat.le_of_ble_eq_true rfl) dX0_unpacked_12 ⟨Nat.zero_le _, Nat.zero_le _⟩ (fun r3 u2 H locs hP hD hS hw => ?_)
    replace hP : va_P D vwCl (WA q7 u2) H := hP
    replace hD : va_D A (WA q7 u2) := hD
    refine lv_if_eq (tgt := 22) hx hb dX0_unpacked_15 (by decide) (fun c4 => ?_) (fun c4 => ?_)
    · replace hw := hw.1 c4
      refine lv_iconst (v := (0 : Int32)) hx hb dX0_unpacked_22 (by decide) ?_
      exact b23 (0 : Int32) u2 H locs ls hP hD hS (lv_sub hl [0, 1, 2] rfl) hw
    · replace hw := hw.2 c4
      exact b18 u2 H locs ls hP hD hS (lv_sub hl [0, 1, 2] rfl) hw
-- X0_whole
def wX0_whole (a1 : Int32) (a2 : Int32) (u : Int32) (P : Int32 → Int32 → Prop) : Prop := (wX0_byAnswer ((((a1 >>> ((8 : Int32) &&& 31)) * a2) + a1) &&& (255 : Int32)) (0 : Int32) u (fun r2 u1 => (P ((((a1 >>> ((8 : Int32) &&& 31)) * a2) + a1) &&& (255 : Int32)) u1)))
set_option maxHeartbeats 4000000 in
set_option maxRecDepth 100000 in
theorem kcX0_whole (l : Launch) (D : va_G) (cB cI : ClassId) (q7 : Nat) (sz : Nat) (a1 : Int32) (a2 : Int32) (u : Int32) (P : Int32 → Int32 → Prop) (hw : wX0_whole a1 a2 u P) : Met l yX0_whole wsX0_whole ({ frames := 2, cells := 0, slots := 0, locals := 42 } : Room) (va_Pc [.ref q7, .int a1, .int a2] (Pcw D (tyA cB cI) (WA q7 u) sz Tru)) (va_Qi P (fun u t => va_P D vwCl (WA q7 u) t.heap) (va_A (WA q7 u) sz)) 0 0 (va_A (WA q7 u) sz) := by
  refine en_ (cc := cX0_whole) (maxL := 4) (ret := (some .int)) (own := RX0) (lv := [(0, .ref q7), (1, .int a1), (2, .int a2)]) (Qf := fun A => va_Qi P (fun u t => va_P D vwCl (WA q7 u) t.heap) A) (by decide) rfl rfl (Nat.le_of_ble_eq_true rfl) rfl ?_
  intro p e s m below meth c A ls S hr hlk hname hsz hP hK hD hA hSub hS hE hl
  have hx := S.1
  have hb := S.2.1
  have hown := S.2.2.2.1
  have hts := S.2.2.2.2
  unfold wX0_whole at hw
  obtain ⟨H, eH⟩ : ∃ H, H = s.heap := ⟨_, rfl⟩
  obtain ⟨locs, eL⟩ : ∃ locs : List Loc, locs = [] := ⟨_, rfl⟩
  replace hP : va_P D vwCl (WA q7 u) H := by rw [eH]; exact hP
  replace hS : va_S A s.heap H locs := by rw [eH, eL]; exact hS
  suffices hgo : W p l e ({ frames := 2, cells := 0, slots := 0, locals := 42 } : Room) s m ([.ref q7, .int a1, .int a2] : List Value).toArray below meth c H locs 0 0 (MQ below (va_Qi P (fun u t => va_P D vwCl (WA q7 u) t.heap) A) ([.ref q7, .int a1, .int a2] : List Value).toArray s 0 0 A) (F0 m 0 ls []) by rw [eH, eL] at hgo; exact hgo
  clear eH eL
  refine lv_iload_n hx hb dX0_whole_0 rfl (lv_at hl 1 rfl) ?_
  refine lv_bipush (v := (8 : Int32)) hx hb dX0_whole_1 (by decide) ?_
  refine lv_ishr hx hb dX0_whole_3 ?_
  refine lv_iload_n hx hb dX0_whole_4 rfl (lv_at hl 2 rfl) ?_
  refine lv_imul hx hb dX0_whole_5 ?_
  refine lv_iload_n hx hb dX0_whole_6 rfl (lv_at hl 1 rfl) ?_
  refine lv_iadd hx hb dX0_whole_7 ?_
  refine lv_sipush (v := (255 : Int32)) hx hb dX0_whole_8 (by decide) ?_
  refine lv_iand hx hb dX0_whole_11 ?_
  refine lv_istore_n (lv' := [(3, .int ((((a1 >>> ((8 : Int32) &&& 31)) * a2) + a1) &&& (255 : Int32))), (0, .ref q7), (1, .int a1), (2, .int a2)]) hx hb dX0_whole_12 rfl hl (by decide) rfl (fun ls hl => ?_)
  refine lv_aload_n hx hb dX0_whole_13 rfl (lv_at hl 1 rfl) ?_
  refine lv_iload_n hx hb dX0_whole_14 rfl (lv_at hl 0 rfl) ?_
  refine lv_iconst (v := (0 : Int32)) hx hb dX0_whole_15 (by decide) ?_
  refine cl_Vi (As := [.int ((((a1 >>> ((8 : Int32) &&& 31)) * a2) + a1) &&& (255 : Int32)), .int (0 : Int32)]) (rest := []) (st := [.int (0 : Int32), .int ((((a1 >>> ((8 : Int32) &&& 31)) * a2) + a1) &&& (255 : Int32)), .ref q7]) S hK hA hP hD hS (fr_A u) (kcX0_byAnswer l D cB cI q7 H.size ((((a1 >>> ((8 : Int32) &&& 31)) * a2) + a1) &&& (255 : Int32)) (0 : Int32) u _ hw) (cwV 2 hts gX0_whole_X0_byAnswer rfl rfl rfl (by decide +kernel) ⟨Nat.le_of_ble_eq_true rfl, Nat.le_of_ble_eq_true rfl⟩) tru_h tru_b 0 rfl rfl rfl rfl rfl hl.1 (Nat.le_of_ble_eq_true rfl) dX0_whole_16 ⟨Nat.zero_le _, Nat.zero_le _⟩ (fun r2 u1 H locs hP hD hS hw => ?_)
  replace hP : va_P D vwCl (WA q7 u1) H := hP
  replace hD : va_D A (WA q7 u1) := hD
  refine lv_pop hx hb dX0_whole_19 rfl ?_
  refine lv_iload_n hx hb dX0_whole_20 rfl (lv_at hl 0 rfl) ?_
  exact rt_i (wo := (fun v => WA q7 v)) S hr hlk u1 hP hS hw dX0_whole_21
-- X0_adjustment
def wX0_adjustment (a1 : Int32) (a2 : Int32) (a3 : Int32) (u : Int32) (P : Int32 → Int32 → Prop) : Prop := ((a1 = (0 : Int32) → (wX0_decimal a2 (1 : Int32) u (fun r3 u2 => (P r3 u2)))) ∧ (¬ a1 = (0 : Int32) → ((a1 = (1 : Int32) → (wX0_decimal a2 (-1 : Int32) u (fun r6 u5 => (P r6 u5)))) ∧ (¬ a1 = (1 : Int32) → ((a1 = (2 : Int32) → (wX0_unpacked a2 (1 : Int32) u (fun r9 u8 => (P r9 u8)))) ∧ (¬ a1 = (2 : Int32) → ((a1 = (3 : Int32) → (wX0_unpacked a2 (-1 : Int32) u (fun r12 u11 => (P r12 u11)))) ∧ (¬ a1 = (3 : Int32) → ((a1 = (4 : Int32) → (wX0_parts (a2 &&& (255 : Int32)) a3 u (fun r15 u14 => (P r15 u14)))) ∧ (¬ a1 = (4 : Int32) → (wX0_whole a2 a3 u (fun r17 u16 => (P r17 u16)))))))))))))
set_option maxHeartbeats 4000000 in
set_option maxRecDepth 100000 in
theorem kcX0_adjustment (l : Launch) (D : va_G) (cB cI : ClassId) (q7 : Nat) (sz : Nat) (a1 : Int32) (a2 : Int32) (a3 : Int32) (u : Int32) (P : Int32 → Int32 → Prop) (hw : wX0_adjustment a1 a2 a3 u P) : Met l yX0_adjustment wsX0_adjustment ({ frames := 3, cells := 0, slots := 0, locals := 69 } : Room) (va_Pc [.ref q7, .int a1, .int a2, .int a3] (Pcw D (tyA cB cI) (WA q7 u) sz Tru)) (va_Qi P (fun u t => va_P D vwCl (WA q7 u) t.heap) (va_A (WA q7 u) sz)) 0 0 (va_A (WA q7 u) sz) := by
  refine en_ (cc := cX0_adjustment) (maxL := 4) (ret := (some .int)) (own := RX0) (lv := [(0, .ref q7), (1, .int a1), (2, .int a2), (3, .int a3)]) (Qf := fun A => va_Qi P (fun u t => va_P D vwCl (WA q7 u) t.heap) A) (by decide) rfl rfl (Nat.le_of_ble_eq_true rfl) rfl ?_
  intro p e s m below meth c A ls S hr hlk hname hsz hP hK hD hA hSub hS hE hl
  have hx := S.1
  have hb := S.2.1
  have hown := S.2.2.2.1
  have hts := S.2.2.2.2
  unfold wX0_adjustment at hw
  obtain ⟨H, eH⟩ : ∃ H, H = s.heap := ⟨_, rfl⟩
  obtain ⟨locs, eL⟩ : ∃ locs : List Loc, locs = [] := ⟨_, rfl⟩
  replace hP : va_P D vwCl (WA q7 u) H := by rw [eH]; exact hP
  replace hS : va_S A s.heap H locs := by rw [eH, eL]; exact hS
  suffices hgo : W p l e ({ frames := 3, cells := 0, slots := 0, locals := 69 } : Room) s m ([.ref q7, .int a1, .int a2, .int a3] : List Value).toArray below meth c H locs 0 0 (MQ below (va_Qi P (fun u t => va_P D vwCl (WA q7 u) t.heap) A) ([.ref q7, .int a1, .int a2, .int a3] : List Value).toArray s 0 0 A) (F0 m 0 ls []) by rw [eH, eL] at hgo; exact hgo
  clear eH eL
  refine lv_iload_n hx hb dX0_adjustment_0 rfl (lv_at hl 1 rfl) ?_
  by_cases c1 : a1 = (0 : Int32)
  · replace hw := hw.1 c1
    refine lv_tableIn (off := 35) (tgt := 36) hx hb dX0_adjustment_1 (by rw [c1]; decide) (by rw [c1]; decide) (by rw [c1]; rfl) (by decide) ?_
    refine lv_aload_n hx hb dX0_adjustment_36 rfl (lv_at hl 0 rfl) ?_
    refine lv_iload_n hx hb dX0_adjustment_37 rfl (lv_at hl 2 rfl) ?_
    refine lv_iconst (v := (1 : Int32)) hx hb dX0_adjustment_38 (by decide) ?_
    refine cl_Vi (As := [.int a2, .int (1 : Int32)]) (rest := []) (st := [.int (1 : Int32), .int a2, .ref q7]) S hK hA hP hD hS (fr_A u) (kcX0_decimal l D cB cI q7 H.size a2 (1 : Int32) u _ hw) (cwV 2 hts gX0_adjustment_X0_decimal rfl rfl rfl (by decide +kernel) ⟨Nat.le_of_ble_eq_true rfl, Nat.le_of_ble_eq_true rfl⟩) tru_h tru_b 0 rfl rfl rfl rfl rfl hl.1 (Nat.le_of_ble_eq_true rfl) dX0_adjustment_39 ⟨Nat.zero_le _, Nat.zero_le _⟩ (fun r3 u2 H locs hP hD hS hw => ?_)
    replace hP : va_P D vwCl (WA q7 u2) H := hP
    replace hD : va_D A (WA q7 u2) := hD
    exact rt_i (wo := (fun v => WA q7 v)) S hr hlk u2 hP hS hw dX0_adjustment_42
  replace hw := hw.2 c1
  by_cases c4 : a1 = (1 : Int32)
  · replace hw := hw.1 c4
    refine lv_tableIn (off := 42) (tgt := 43) hx hb dX0_adjustment_1 (by rw [c4]; decide) (by rw [c4]; decide) (by rw [c4]; rfl) (by decide) ?_
    refine lv_aload_n hx hb dX0_adjustment_43 rfl (lv_at hl 0 rfl) ?_
    refine lv_iload_n hx hb dX0_adjustment_44 rfl (lv_at hl 2 rfl) ?_
    refine lv_iconst (v := (-1 : Int32)) hx hb dX0_adjustment_45 (by decide) ?_
    refine cl_Vi (As := [.int a2, .int (-1 : Int32)]) (rest := []) (st := [.int (-1 : Int32), .int a2, .ref q7]) S hK hA hP hD hS (fr_A u) (kcX0_decimal l D cB cI q7 H.size a2 (-1 : Int32) u _ hw) (cwV 2 hts gX0_adjustment_X0_decimal rfl rfl rfl (by decide +kernel) ⟨Nat.le_of_ble_eq_true rfl, Nat.le_of_ble_eq_true rfl⟩) tru_h tru_b 0 rfl rfl rfl rfl rfl hl.1 (Nat.le_of_ble_eq_true rfl) dX0_adjustment_46 ⟨Nat.zero_le _, Nat.zero_le _⟩ (fun r6 u5 H locs hP hD hS hw => ?_)
    replace hP : va_P D vwCl (WA q7 u5) H := hP
    replace hD : va_D A (WA q7 u5) := hD
    exact rt_i (wo := (fun v => WA q7 v)) S hr hlk u5 hP hS hw dX0_adjustment_49
  replace hw := hw.2 c4
  by_cases c7 : a1 = (2 : Int32)
  · replace hw := hw.1 c7
    refine lv_tableIn (off := 49) (tgt := 50) hx hb dX0_adjustment_1 (by rw [c7]; decide) (by rw [c7]; decide) (by rw [c7]; rfl) (by decide) ?_
    refine lv_aload_n hx hb dX0_adjustment_50 rfl (lv_at hl 0 rfl) ?_
    refine lv_iload_n hx hb dX0_adjustment_51 rfl (lv_at hl 2 rfl) ?_
    refine lv_iconst (v := (1 : Int32)) hx hb dX0_adjustment_52 (by decide) ?_
    refine cl_Vi (As := [.int a2, .int (1 : Int32)]) (rest := []) (st := [.int (1 : Int32), .int a2, .ref q7]) S hK hA hP hD hS (fr_A u) (kcX0_unpacked l D cB cI q7 H.size a2 (1 : Int32) u _ hw) (cwV 2 hts gX0_adjustment_X0_unpacked rfl rfl rfl (by decide +kernel) ⟨Nat.le_of_ble_eq_true rfl, Nat.le_of_ble_eq_true rfl⟩) tru_h tru_b 0 rfl rfl rfl rfl rfl hl.1 (Nat.le_of_ble_eq_true rfl) dX0_adjustment_53 ⟨Nat.zero_le _, Nat.zero_le _⟩ (fun r9 u8 H locs hP hD hS hw => ?_)
    replace hP : va_P D vwCl (WA q7 u8) H := hP
    replace hD : va_D A (WA q7 u8) := hD
    exact rt_i (wo := (fun v => WA q7 v)) S hr hlk u8 hP hS hw dX0_adjustment_56
  replace hw := hw.2 c7
  by_cases c10 : a1 = (3 : Int32)
  · replace hw := hw.1 c10
    refine lv_tableIn (off := 56) (tgt := 57) hx hb dX0_adjustment_1 (by rw [c10]; decide) (by rw [c10]; decide) (by rw [c10]; rfl) (by decide) ?_
    refine lv_aload_n hx hb dX0_adjustment_57 rfl (lv_at hl 0 rfl) ?_
    refine lv_iload_n hx hb dX0_adjustment_58 rfl (lv_at hl 2 rfl) ?_
    refine lv_iconst (v := (-1 : Int32)) hx hb dX0_adjustment_59 (by decide) ?_
    refine cl_Vi (As := [.int a2, .int (-1 : Int32)]) (rest := []) (st := [.int (-1 : Int32), .int a2, .ref q7]) S hK hA hP hD hS (fr_A u) (kcX0_unpacked l D cB cI q7 H.size a2 (-1 : Int32) u _ hw) (cwV 2 hts gX0_adjustment_X0_unpacked rfl rfl rfl (by decide +kernel) ⟨Nat.le_of_ble_eq_true rfl, Nat.le_of_ble_eq_true rfl⟩) tru_h tru_b 0 rfl rfl rfl rfl rfl hl.1 (Nat.le_of_ble_eq_true rfl) dX0_adjustment_60 ⟨Nat.zero_le _, Nat.zero_le _⟩ (fun r12 u11 H locs hP hD hS hw => ?_)
    replace hP : va_P D vwCl (WA q7 u11) H := hP
    replace hD : va_D A (WA q7 u11) := hD
    exact rt_i (wo := (fun v => WA q7 v)) S hr hlk u11 hP hS hw dX0_adjustment_63
  replace hw := hw.2 c10
  by_cases c13 : a1 = (4 : Int32)
  · replace hw := hw.1 c13
    refine lv_tableIn (off := 63) (tgt := 64) hx hb dX0_adjustment_1 (by rw [c13]; decide) (by rw [c13]; decide) (by rw [c13]; rfl) (by decide) ?_
    refine lv_aload_n hx hb dX0_adjustment_64 rfl (lv_at hl 0 rfl) ?_
    refine lv_iload_n hx hb dX0_adjustment_65 rfl (lv_at hl 2 rfl) ?_
    refine lv_sipush (v := (255 : Int32)) hx hb dX0_adjustment_66 (by decide) ?_
    refine lv_iand hx hb dX0_adjustment_69 ?_
    refine lv_iload_n hx hb dX0_adjustment_70 rfl (lv_at hl 3 rfl) ?_
    refine cl_Vi (As := [.int (a2 &&& (255 : Int32)), .int a3]) (rest := []) (st := [.int a3, .int (a2 &&& (255 : Int32)), .ref q7]) S hK hA hP hD hS (fr_A u) (kcX0_parts l D cB cI q7 H.size (a2 &&& (255 : Int32)) a3 u _ hw) (cwV 2 hts gX0_adjustment_X0_parts rfl rfl rfl (by decide +kernel) ⟨Nat.le_of_ble_eq_true rfl, Nat.le_of_ble_eq_true rfl⟩) tru_h tru_b 0 rfl rfl rfl rfl rfl hl.1 (Nat.le_of_ble_eq_true rfl) dX0_adjustment_71 ⟨Nat.zero_le _, Nat.zero_le _⟩ (fun r15 u14 H locs hP hD hS hw => ?_)
    replace hP : va_P D vwCl (WA q7 u14) H := hP
    replace hD : va_D A (WA q7 u14) := hD
    exact rt_i (wo := (fun v => WA q7 v)) S hr hlk u14 hP hS hw dX0_adjustment_74
  replace hw := hw.2 c13
  refine lv_tableOut (tgt := 75) hx hb dX0_adjustment_1 (by have e_c1 : ¬ (a1 : Int32).toInt = 0 := sw_ne c1; have e_c4 : ¬ (a1 : Int32).toInt = 1 := sw_ne c4; have e_c7 : ¬ (a1 : Int32).toInt = 2 := sw_ne c7; have e_c10 : ¬ (a1 : Int32).toInt = 3 := sw_ne c10; have e_c13 : ¬ (a1 : Int32).toInt = 4 := sw_ne c13; omega) (by decide) ?_
  refine lv_aload_n hx hb dX0_adjustment_75 rfl (lv_at hl 0 rfl) ?_
  refine lv_iload_n hx hb dX0_adjustment_76 rfl (lv_at hl 2 rfl) ?_
  refine lv_iload_n hx hb dX0_adjustment_77 rfl (lv_at hl 3 rfl) ?_
  refine cl_Vi (As := [.int a2, .int a3]) (rest := []) (st := [.int a3, .int a2, .ref q7]) S hK hA hP hD hS (fr_A u) (kcX0_whole l D cB cI q7 H.size a2 a3 u _ hw) (cwV 2 hts gX0_adjustment_X0_whole rfl rfl rfl (by decide +kernel) ⟨Nat.le_of_ble_eq_true rfl, Nat.le_of_ble_eq_true rfl⟩) tru_h tru_b 0 rfl rfl rfl rfl rfl hl.1 (Nat.le_of_ble_eq_true rfl) dX0_adjustment_78 ⟨Nat.zero_le _, Nat.zero_le _⟩ (fun r17 u16 H locs hP hD hS hw => ?_)
  replace hP : va_P D vwCl (WA q7 u16) H := hP
  replace hD : va_D A (WA q7 u16) := hD
  exact rt_i (wo := (fun v => WA q7 v)) S hr hlk u16 hP hS hw dX0_adjustment_81
-- X0_pairHolds
def wX0_pairHolds_b22 (a1 : Int32) (P : Int32 → Int32 → Prop) (s0 : Int32) (u : Int32) : Prop := ((a1 = (0 : Int32) → (wX0_has (2048 : Int32) u (fun r8 u7 => (zB r8 ∧ P r8 u7)))) ∧ (¬ a1 = (0 : Int32) → ((a1 = (1 : Int32) → (wX0_has (1 : Int32) u (fun r11 u10 => (zB r11 ∧ P r11 u10)))) ∧ (¬ a1 = (1 : Int32) → ((a1 = (2 : Int32) → (wX0_has (64 : Int32) u (fun r14 u13 => (zB r14 ∧ P r14 u13)))) ∧ (¬ a1 = (2 : Int32) → ((a1 = (3 : Int32) → (wX0_has (1 : Int32) u (fun r17 u16 => ((r17 = (0 : Int32) → (wX0_has (64 : Int32) u16 (fun r20 u19 => ((r20 = (0 : Int32) → (P (0 : Int32) u19)) ∧ (¬ r20 = (0 : Int32) → (P (1 : Int32) u19)))))) ∧ (¬ r17 = (0 : Int32) → (P (1 : Int32) u16)))))) ∧ (¬ a1 = (3 : Int32) → ((a1 = (4 : Int32) → (wX0_has (128 : Int32) u (fun r24 u23 => (zB r24 ∧ P r24 u23)))) ∧ (¬ a1 = (4 : Int32) → ((a1 = (5 : Int32) → (wX0_has (4 : Int32) u (fun r27 u26 => (zB r27 ∧ P r27 u26)))) ∧ (¬ a1 = (5 : Int32) → ((a1 = (6 : Int32) → (zB s0 ∧ P s0 u)) ∧ (¬ a1 = (6 : Int32) → ((s0 = (0 : Int32) → (wX0_has (64 : Int32) u (fun r31 u30 => ((r31 = (0 : Int32) → (P (0 : Int32) u30)) ∧ (¬ r31 = (0 : Int32) → (P (1 : Int32) u30)))))) ∧ (¬ s0 = (0 : Int32) → (P (1 : Int32) u)))))))))))))))))
def wX0_pairHolds (a1 : Int32) (u : Int32) (P : Int32 → Int32 → Prop) : Prop := (wX0_has (128 : Int32) u (fun r2 u1 => (wX0_has (2048 : Int32) u1 (fun r4 u3 => ((r2 = r4 → (wX0_pairHolds_b22 a1 P (0 : Int32) u3)) ∧ (¬ r2 = r4 → (wX0_pairHolds_b22 a1 P (1 : Int32) u3)))))))
set_option maxHeartbeats 4000000 in
set_option maxRecDepth 100000 in
theorem kcX0_pairHolds (l : Launch) (D : va_G) (cB cI : ClassId) (q7 : Nat) (sz : Nat) (a1 : Int32) (u : Int32) (P : Int32 → Int32 → Prop) (hw : wX0_pairHolds a1 u P) : Met l yX0_pairHolds wsX0_pairHolds ({ frames := 1, cells := 0, slots := 0, locals := 21 } : Room) (va_Pc [.ref q7, .int a1] (Pcw D (tyA cB cI) (WA q7 u) sz Tru)) (va_Qi P (fun u t => va_P D vwCl (WA q7 u) t.heap) (va_A (WA q7 u) sz)) 0 0 (va_A (WA q7 u) sz) := by
  refine en_ (cc := cX0_pairHolds) (maxL := 3) (ret := (some .boolean)) (own := RX0) (lv := [(0, .ref q7), (1, .int a1)]) (Qf := fun A => va_Qi P (fun u t => va_P D vwCl (WA q7 u) t.heap) A) (by decide) rfl rfl (Nat.le_of_ble_eq_true rfl) rfl ?_
  intro p e s m below meth c A ls S hr hlk hname hsz hP hK hD hA hSub hS hE hl
  have hx := S.1
  have hb := S.2.1
  have hown := S.2.2.2.1
  have hts := S.2.2.2.2
  have b22 : ∀ (s0 : Int32) (u : Int32) (H : Heap) (locs : List Loc) (ls : Array Slot), va_P D vwCl (WA q7 u) H → va_D A (WA q7 u) → va_S A s.heap H locs → lv_has ls 3 [(0, .ref q7), (1, .int a1)] → wX0_pairHolds_b22 a1 P s0 u → W p l e ({ frames := 1, cells := 0, slots := 0, locals := 21 } : Room) s m ([.ref q7, .int a1] : List Value).toArray below meth c H locs 0 0 (MQ below (va_Qi P (fun u t => va_P D vwCl (WA q7 u) t.heap) A) ([.ref q7, .int a1] : List Value).toArray s 0 0 A) (F0 m 22 ls [.int s0]) := by
    intro s0 u H locs ls hP hD hS hl hw
    unfold wX0_pairHolds_b22 at hw
    refine lv_istore_n (lv' := [(2, .int s0), (0, .ref q7), (1, .int a1)]) hx hb dX0_pairHolds_22 rfl hl (by decide) rfl (fun ls hl => ?_)
    refine lv_iload_n hx hb dX0_pairHolds_23 rfl (lv_at hl 2 rfl) ?_
    by_cases c6 : a1 = (0 : Int32)
    · replace hw := hw.1 c6
      refine lv_tableIn (off := 44) (tgt := 68) hx hb dX0_pairHolds_24 (by rw [c6]; decide) (by rw [c6]; decide) (by rw [c6]; rfl) (by decide) ?_
      refine lv_aload_n hx hb dX0_pairHolds_68 rfl (lv_at hl 1 rfl) ?_
      refine lv_sipush (v := (2048 : Int32)) hx hb dX0_pairHolds_69 (by decide) ?_
      refine cl_Vi (As := [.int (2048 : Int32)]) (rest := []) (st := [.int (2048 : Int32), .ref q7]) S hK hA hP hD hS (fr_A u) (kcX0_has l D cB cI q7 H.size (2048 : Int32) u _ hw) (cwV 1 hts gX0_pairHolds_X0_has rfl rfl rfl (by decide +kernel) ⟨Nat.le_of_ble_eq_true rfl, Nat.le_of_ble_eq_true rfl⟩) tru_h tru_b 0 rfl rfl rfl rfl rfl hl.1 (Nat.le_of_ble_eq_true rfl) dX0_pairHolds_72 ⟨Nat.zero_le _, Nat.zero_le _⟩ (fun r8 u7 H locs hP hD hS hw => ?_)
      replace hP : va_P D vwCl (WA q7 u7) H := hP
      replace hD : va_D A (WA q7 u7) := hD
      exact rt_z (wo := (fun v => WA q7 v)) S hr hlk u7 hP hS hw.1 hw.2 dX0_pairHolds_75
    replace hw := hw.2 c6
    by_cases c9 : a1 = (1 : Int32)
    · replace hw := hw.1 c9
      refine lv_tableIn (off := 52) (tgt := 76) hx hb dX0_pairHolds_24 (by rw [c9]; decide) (by rw [c9]; decide) (by rw [c9]; rfl) (by decide) ?_
      refine lv_aload_n hx hb dX0_pairHolds_76 rfl (lv_at hl 1 rfl) ?_
      refine lv_iconst (v := (1 : Int32)) hx hb dX0_pairHolds_77 (by decide) ?_
      refine cl_Vi (As := [.int (1 : Int32)]) (rest := []) (st := [.int (1 : Int32), .ref q7]) S hK hA hP hD hS (fr_A u) (kcX0_has l D cB cI q7 H.size (1 : Int32) u _ hw) (cwV 1 hts gX0_pairHolds_X0_has rfl rfl rfl (by decide +kernel) ⟨Nat.le_of_ble_eq_true rfl, Nat.le_of_ble_eq_true rfl⟩) tru_h tru_b 0 rfl rfl rfl rfl rfl hl.1 (Nat.le_of_ble_eq_true rfl) dX0_pairHolds_78 ⟨Nat.zero_le _, Nat.zero_le _⟩ (fun r11 u10 H locs hP hD hS hw => ?_)
      replace hP : va_P D vwCl (WA q7 u10) H := hP
      replace hD : va_D A (WA q7 u10) := hD
      exact rt_z (wo := (fun v => WA q7 v)) S hr hlk u10 hP hS hw.1 hw.2 dX0_pairHolds_81
    replace hw := hw.2 c9
    by_cases c12 : a1 = (2 : Int32)
    · replace hw := hw.1 c12
      refine lv_tableIn (off := 58) (tgt := 82) hx hb dX0_pairHolds_24 (by rw [c12]; decide) (by rw [c12]; decide) (by rw [c12]; rfl) (by decide) ?_
      refine lv_aload_n hx hb dX0_pairHolds_82 rfl (lv_at hl 1 rfl) ?_
      refine lv_bipush (v := (64 : Int32)) hx hb dX0_pairHolds_83 (by decide) ?_
      refine cl_Vi (As := [.int (64 : Int32)]) (rest := []) (st := [.int (64 : Int32), .ref q7]) S hK hA hP hD hS (fr_A u) (kcX0_has l D cB cI q7 H.size (64 : Int32) u _ hw) (cwV 1 hts gX0_pairHolds_X0_has rfl rfl rfl (by decide +kernel) ⟨Nat.le_of_ble_eq_true rfl, Nat.le_of_ble_eq_true rfl⟩) tru_h tru_b 0 rfl rfl rfl rfl rfl hl.1 (Nat.le_of_ble_eq_true rfl) dX0_pairHolds_85 ⟨Nat.zero_le _, Nat.zero_le _⟩ (fun r14 u13 H locs hP hD hS hw => ?_)
      replace hP : va_P D vwCl (WA q7 u13) H := hP
      replace hD : va_D A (WA q7 u13) := hD
      exact rt_z (wo := (fun v => WA q7 v)) S hr hlk u13 hP hS hw.1 hw.2 dX0_pairHolds_88
    replace hw := hw.2 c12
    by_cases c15 : a1 = (3 : Int32)
    · replace hw := hw.1 c15
      refine lv_tableIn (off := 65) (tgt := 89) hx hb dX0_pairHolds_24 (by rw [c15]; decide) (by rw [c15]; decide) (by rw [c15]; rfl) (by decide) ?_
      refine lv_aload_n hx hb dX0_pairHolds_89 rfl (lv_at hl 1 rfl) ?_
      refine lv_iconst (v := (1 : Int32)) hx hb dX0_pairHolds_90 (by decide) ?_
      refine cl_Vi (As := [.int (1 : Int32)]) (rest := []) (st := [.int (1 : Int32), .ref q7]) S hK hA hP hD hS (fr_A u) (kcX0_has l D cB cI q7 H.size (1 : Int32) u _ hw) (cwV 1 hts gX0_pairHolds_X0_has rfl rfl rfl (by decide +kernel) ⟨Nat.le_of_ble_eq_true rfl, Nat.le_of_ble_eq_true rfl⟩) tru_h tru_b 0 rfl rfl rfl rfl rfl hl.1 (Nat.le_of_ble_eq_true rfl) dX0_pairHolds_91 ⟨Nat.zero_le _, Nat.zero_le _⟩ (fun r17 u16 H locs hP hD hS hw => ?_)
      replace hP : va_P D vwCl (WA q7 u16) H := hP
      replace hD : va_D A (WA q7 u16) := hD
      refine lv_if_ne (tgt := 106) hx hb dX0_pairHolds_94 (by decide) (fun c18 => ?_) (fun c18 => ?_)
      · replace hw := hw.2 c18
        refine lv_iconst (v := (1 : Int32)) hx hb dX0_pairHolds_106 (by decide) ?_
        refine lv_goto (tgt := 111) hx hb dX0_pairHolds_107 (by decide) ?_
        exact rt_z (wo := (fun v => WA q7 v)) S hr hlk u16 hP hS zB_1 hw dX0_pairHolds_111
      · replace hw := hw.1 c18
        refine lv_aload_n hx hb dX0_pairHolds_97 rfl (lv_at hl 1 rfl) ?_
        refine lv_bipush (v := (64 : Int32)) hx hb dX0_pairHolds_98 (by decide) ?_
        refine cl_Vi (As := [.int (64 : Int32)]) (rest := []) (st := [.int (64 : Int32), .ref q7]) S hK hA hP hD hS (fr_A u16) (kcX0_has l D cB cI q7 H.size (64 : Int32) u16 _ hw) (cwV 1 hts gX0_pairHolds_X0_has rfl rfl rfl (by decide +kernel) ⟨Nat.le_of_ble_eq_true rfl, Nat.le_of_ble_eq_true rfl⟩) tru_h tru_b 0 rfl rfl rfl rfl rfl hl.1 (Nat.le_of_ble_eq_true rfl) dX0_pairHolds_100 ⟨Nat.zero_le _, Nat.zero_le _⟩ (fun r20 u19 H locs hP hD hS hw => ?_)
        replace hP : va_P D vwCl (WA q7 u19) H := hP
        replace hD : va_D A (WA q7 u19) := hD
        refine lv_if_eq (tgt := 110) hx hb dX0_pairHolds_103 (by decide) (fun c21 => ?_) (fun c21 => ?_)
        · replace hw := hw.1 c21
          refine lv_iconst (v := (0 : Int32)) hx hb dX0_pairHolds_110 (by decide) ?_
          exact rt_z (wo := (fun v => WA q7 v)) S hr hlk u19 hP hS zB_0 hw dX0_pairHolds_111
        · replace hw := hw.2 c21
          refine lv_iconst (v := (1 : Int32)) hx hb dX0_pairHolds_106 (by decide) ?_
          refine lv_goto (tgt := 111) hx hb dX0_pairHolds_107 (by decide) ?_
          exact rt_z (wo := (fun v => WA q7 v)) S hr hlk u19 hP hS zB_1 hw dX0_pairHolds_111
    replace hw := hw.2 c15
    by_cases c22 : a1 = (4 : Int32)
    · replace hw := hw.1 c22
      refine lv_tableIn (off := 88) (tgt := 112) hx hb dX0_pairHolds_24 (by rw [c22]; decide) (by rw [c22]; decide) (by rw [c22]; rfl) (by decide) ?_
      refine lv_aload_n hx hb dX0_pairHolds_112 rfl (lv_at hl 1 rfl) ?_
      refine lv_sipush (v := (128 : Int32)) hx hb dX0_pairHolds_113 (by decide) ?_
      refine cl_Vi (As := [.int (128 : Int32)]) (rest := []) (st := [.int (128 : Int32), .ref q7]) S hK hA hP hD hS (fr_A u) (kcX0_has l D cB cI q7 H.size (128 : Int32) u _ hw) (cwV 1 hts gX0_pairHolds_X0_has rfl rfl rfl (by decide +kernel) ⟨Nat.le_of_ble_eq_true rfl, Nat.le_of_ble_eq_true rfl⟩) tru_h tru_b 0 rfl rfl rfl rfl rfl hl.1 (Nat.le_of_ble_eq_true rfl) dX0_pairHolds_116 ⟨Nat.zero_le _, Nat.zero_le _⟩ (fun r24 u23 H locs hP hD hS hw => ?_)
      replace hP : va_P D vwCl (WA q7 u23) H := hP
      replace hD : va_D A (WA q7 u23) := hD
      exact rt_z (wo := (fun v => WA q7 v)) S hr hlk u23 hP hS hw.1 hw.2 dX0_pairHolds_119
    replace hw := hw.2 c22
    by_cases c25 : a1 = (5 : Int32)
    · replace hw := hw.1 c25
      refine lv_tableIn (off := 96) (tgt := 120) hx hb dX0_pairHolds_24 (by rw [c25]; decide) (by rw [c25]; decide) (by rw [c25]; rfl) (by decide) ?_
      refine lv_aload_n hx hb dX0_pairHolds_120 rfl (lv_at hl 1 rfl) ?_
      refine lv_iconst (v := (4 : Int32)) hx hb dX0_pairHolds_121 (by decide) ?_
      refine cl_Vi (As := [.int (4 : Int32)]) (rest := []) (st := [.int (4 : Int32), .ref q7]) S hK hA hP hD hS (fr_A u) (kcX0_has l D cB cI q7 H.size (4 : Int32) u _ hw) (cwV 1 hts gX0_pairHolds_X0_has rfl rfl rfl (by decide +kernel) ⟨Nat.le_of_ble_eq_true rfl, Nat.le_of_ble_eq_true rfl⟩) tru_h tru_b 0 rfl rfl rfl rfl rfl hl.1 (Nat.le_of_ble_eq_true rfl) dX0_pairHolds_122 ⟨Nat.zero_le _, Nat.zero_le _⟩ (fun r27 u26 H locs hP hD hS hw => ?_)
      replace hP : va_P D vwCl (WA q7 u26) H := hP
      replace hD : va_D A (WA q7 u26) := hD
      exact rt_z (wo := (fun v => WA q7 v)) S hr hlk u26 hP hS hw.1 hw.2 dX0_pairHolds_125
    replace hw := hw.2 c25
    by_cases c28 : a1 = (6 : Int32)
    · replace hw := hw.1 c28
      refine lv_tableIn (off := 102) (tgt := 126) hx hb dX0_pairHolds_24 (by rw [c28]; decide) (by rw [c28]; decide) (by rw [c28]; rfl) (by decide) ?_
      refine lv_iload_n hx hb dX0_pairHolds_126 rfl (lv_at hl 0 rfl) ?_
      exact rt_z (wo := (fun v => WA q7 v)) S hr hlk u hP hS hw.1 hw.2 dX0_pairHolds_127
    replace hw := hw.2 c28
    refine lv_tableOut (tgt := 128) hx hb dX0_pairHolds_24 (by have e_c6 : ¬ (a1 : Int32).toInt = 0 := sw_ne c6; have e_c9 : ¬ (a1 : Int32).toInt = 1 := sw_ne c9; have e_c12 : ¬ (a1 : Int32).toInt = 2 := sw_ne c12; have e_c15 : ¬ (a1 : Int32).toInt = 3 := sw_ne c15; have e_c22 : ¬ (a1 : Int32).toInt = 4 := sw_ne c22; have e_c25 : ¬ (a1 : Int32).toInt = 5 := sw_ne c25; have e_c28 : ¬ (a1 : Int32).toInt = 6 := sw_ne c28; omega) (by decide) ?_
    refine lv_iload_n hx hb dX0_pairHolds_128 rfl (lv_at hl 0 rfl) ?_
    refine lv_if_ne (tgt := 141) hx hb dX0_pairHolds_129 (by decide) (fun c29 => ?_) (fun c29 => ?_)
    · replace hw := hw.2 c29
      refine lv_iconst (v := (1 : Int32)) hx hb dX0_pairHolds_141 (by decide) ?_
      refine lv_goto (tgt := 146) hx hb dX0_pairHolds_142 (by decide) ?_
      exact rt_z (wo := (fun v => WA q7 v)) S hr hlk u hP hS zB_1 hw dX0_pairHolds_146
    · replace hw := hw.1 c29
      refine lv_aload_n hx hb dX0_pairHolds_132 rfl (lv_at hl 1 rfl) ?_
      refine lv_bipush (v := (64 : Int32)) hx hb dX0_pairHolds_133 (by decide) ?_
      refine cl_Vi (As := [.int (64 : Int32)]) (rest := []) (st := [.int (64 : Int32), .ref q7]) S hK hA hP hD hS (fr_A u) (kcX0_has l D cB cI q7 H.size (64 : Int32) u _ hw) (cwV 1 hts gX0_pairHolds_X0_has rfl rfl rfl (by decide +kernel) ⟨Nat.le_of_ble_eq_true rfl, Nat.le_of_ble_eq_true rfl⟩) tru_h tru_b 0 rfl rfl rfl rfl rfl hl.1 (Nat.le_of_ble_eq_true rfl) dX0_pairHolds_135 ⟨Nat.zero_le _, Nat.zero_le _⟩ (fun r31 u30 H locs hP hD hS hw => ?_)
      replace hP : va_P D vwCl (WA q7 u30) H := hP
      replace hD : va_D A (WA q7 u30) := hD
      refine lv_if_eq (tgt := 145) hx hb dX0_pairHolds_138 (by decide) (fun c32 => ?_) (fun c32 => ?_)
      · replace hw := hw.1 c32
        refine lv_iconst (v := (0 : Int32)) hx hb dX0_pairHolds_145 (by decide) ?_
        exact rt_z (wo := (fun v => WA q7 v)) S hr hlk u30 hP hS zB_0 hw dX0_pairHolds_146
      · replace hw := hw.2 c32
        refine lv_iconst (v := (1 : Int32)) hx hb dX0_pairHolds_141 (by decide) ?_
        refine lv_goto (tgt := 146) hx hb dX0_pairHolds_142 (by decide) ?_
        exact rt_z (wo := (fun v => WA q7 v)) S hr hlk u30 hP hS zB_1 hw dX0_pairHolds_146
  unfold wX0_pairHolds at hw
  obtain ⟨H, eH⟩ : ∃ H, H = s.heap := ⟨_, rfl⟩
  obtain ⟨locs, eL⟩ : ∃ locs : List Loc, locs = [] := ⟨_, rfl⟩
  replace hP : va_P D vwCl (WA q7 u) H := by rw [eH]; exact hP
  replace hS : va_S A s.heap H locs := by rw [eH, eL]; exact hS
  suffices hgo : W p l e ({ frames := 1, cells := 0, slots := 0, locals := 21 } : Room) s m ([.ref q7, .int a1] : List Value).toArray below meth c H locs 0 0 (MQ below (va_Qi P (fun u t => va_P D vwCl (WA q7 u) t.heap) A) ([.ref q7, .int a1] : List Value).toArray s 0 0 A) (F0 m 0 ls []) by rw [eH, eL] at hgo; exact hgo
  clear eH eL
  refine lv_aload_n hx hb dX0_pairHolds_0 rfl (lv_at hl 0 rfl) ?_
  refine lv_sipush (v := (128 : Int32)) hx hb dX0_pairHolds_1 (by decide) ?_
  refine cl_Vi (As := [.int (128 : Int32)]) (rest := []) (st := [.int (128 : Int32), .ref q7]) S hK hA hP hD hS (fr_A u) (kcX0_has l D cB cI q7 H.size (128 : Int32) u _ hw) (cwV 1 hts gX0_pairHolds_X0_has rfl rfl rfl (by decide +kernel) ⟨Nat.le_of_ble_eq_true rfl, Nat.le_of_ble_eq_true rfl⟩) tru_h tru_b 0 rfl rfl rfl rfl rfl hl.1 (Nat.le_of_ble_eq_true rfl) dX0_pairHolds_4 ⟨Nat.zero_le _, Nat.zero_le _⟩ (fun r2 u1 H locs hP hD hS hw => ?_)
  replace hP : va_P D vwCl (WA q7 u1) H := hP
  replace hD : va_D A (WA q7 u1) := hD
  refine lv_aload_n hx hb dX0_pairHolds_7 rfl (lv_at hl 0 rfl) ?_
  refine lv_sipush (v := (2048 : Int32)) hx hb dX0_pairHolds_8 (by decide) ?_
  refine cl_Vi (As := [.int (2048 : Int32)]) (rest := [.int r2]) (st := [.int (2048 : Int32), .ref q7, .int r2]) S hK hA hP hD hS (fr_A u1) (kcX0_has l D cB cI q7 H.size (2048 : Int32) u1 _ hw) (cwV 1 hts gX0_pairHolds_X0_has rfl rfl rfl (by decide +kernel) ⟨Nat.le_of_ble_eq_true rfl, Nat.le_of_ble_eq_true rfl⟩) tru_h tru_b 0 rfl rfl rfl rfl rfl hl.1 (Nat.le_of_ble_eq_true rfl) dX0_pairHolds_11 ⟨Nat.zero_le _, Nat.zero_le _⟩ (fun r4 u3 H locs hP hD hS hw => ?_)
  replace hP : va_P D vwCl (WA q7 u3) H := hP
  replace hD : va_D A (WA q7 u3) := hD
  refine lv_icmp_eq (tgt := 21) hx hb dX0_pairHolds_14 (by decide) (fun c5 => ?_) (fun c5 => ?_)
  · replace hw := hw.1 c5
    refine lv_iconst (v := (0 : Int32)) hx hb dX0_pairHolds_21 (by decide) ?_
    exact b22 (0 : Int32) u3 H locs ls hP hD hS (lv_sub hl [0, 1] rfl) hw
  · replace hw := hw.2 c5
    refine lv_iconst (v := (1 : Int32)) hx hb dX0_pairHolds_17 (by decide) ?_
    refine lv_goto (tgt := 22) hx hb dX0_pairHolds_18 (by decide) ?_
    exact b22 (1 : Int32) u3 H locs ls hP hD hS (lv_sub hl [0, 1] rfl) hw
-- X0_holds
def wX0_holds_b11 (a1 : Int32) (P : Int32 → Int32 → Prop) (s0 : Int32) (u : Int32) : Prop := (wX0_pairHolds (a1 >>> ((1 : Int32) &&& 31)) u (fun r3 u2 => ((r3 = s0 → (P (0 : Int32) u2)) ∧ (¬ r3 = s0 → (P (1 : Int32) u2)))))
def wX0_holds (a1 : Int32) (u : Int32) (P : Int32 → Int32 → Prop) : Prop := (((a1 &&& (1 : Int32)) = (0 : Int32) → (wX0_holds_b11 a1 P (0 : Int32) u)) ∧ (¬ (a1 &&& (1 : Int32)) = (0 : Int32) → (wX0_holds_b11 a1 P (1 : Int32) u)))
set_option maxHeartbeats 4000000 in
set_option maxRecDepth 100000 in
theorem kcX0_holds (l : Launch) (D : va_G) (cB cI : ClassId) (q7 : Nat) (sz : Nat) (a1 : Int32) (u : Int32) (P : Int32 → Int32 → Prop) (hw : wX0_holds a1 u P) : Met l yX0_holds wsX0_holds ({ frames := 2, cells := 0, slots := 0, locals := 43 } : Room) (va_Pc [.ref q7, .int a1] (Pcw D (tyA cB cI) (WA q7 u) sz Tru)) (va_Qi P (fun u t => va_P D vwCl (WA q7 u) t.heap) (va_A (WA q7 u) sz)) 0 0 (va_A (WA q7 u) sz) := by
  refine en_ (cc := cX0_holds) (maxL := 3) (ret := (some .boolean)) (own := RX0) (lv := [(0, .ref q7), (1, .int a1)]) (Qf := fun A => va_Qi P (fun u t => va_P D vwCl (WA q7 u) t.heap) A) (by decide) rfl rfl (Nat.le_of_ble_eq_true rfl) rfl ?_
  intro p e s m below meth c A ls S hr hlk hname hsz hP hK hD hA hSub hS hE hl
  have hx := S.1
  have hb := S.2.1
  have hown := S.2.2.2.1
  have hts := S.2.2.2.2
  have b11 : ∀ (s0 : Int32) (u : Int32) (H : Heap) (locs : List Loc) (ls : Array Slot), va_P D vwCl (WA q7 u) H → va_D A (WA q7 u) → va_S A s.heap H locs → lv_has ls 3 [(0, .ref q7), (1, .int a1)] → wX0_holds_b11 a1 P s0 u → W p l e ({ frames := 2, cells := 0, slots := 0, locals := 43 } : Room) s m ([.ref q7, .int a1] : List Value).toArray below meth c H locs 0 0 (MQ below (va_Qi P (fun u t => va_P D vwCl (WA q7 u) t.heap) A) ([.ref q7, .int a1] : List Value).toArray s 0 0 A) (F0 m 11 ls [.int s0]) := by
    intro s0 u H locs ls hP hD hS hl hw
    unfold wX0_holds_b11 at hw
    refine lv_istore_n (lv' := [(2, .int s0), (0, .ref q7), (1, .int a1)]) hx hb dX0_holds_11 rfl hl (by decide) rfl (fun ls hl => ?_)
    refine lv_aload_n hx hb dX0_holds_12 rfl (lv_at hl 1 rfl) ?_
    refine lv_iload_n hx hb dX0_holds_13 rfl (lv_at hl 2 rfl) ?_
    refine lv_iconst (v := (1 : Int32)) hx hb dX0_holds_14 (by decide) ?_
    refine lv_ishr hx hb dX0_holds_15 ?_
    refine cl_Vi (As := [.int (a1 >>> ((1 : Int32) &&& 31))]) (rest := []) (st := [.int (a1 >>> ((1 : Int32) &&& 31)), .ref q7]) S hK hA hP hD hS (fr_A u) (kcX0_pairHolds l D cB cI q7 H.size (a1 >>> ((1 : Int32) &&& 31)) u _ hw) (cwV 1 hts gX0_holds_X0_pairHolds rfl rfl rfl (by decide +kernel) ⟨Nat.le_of_ble_eq_true rfl, Nat.le_of_ble_eq_true rfl⟩) tru_h tru_b 0 rfl rfl rfl rfl rfl hl.1 (Nat.le_of_ble_eq_true rfl) dX0_holds_16 ⟨Nat.zero_le _, Nat.zero_le _⟩ (fun r3 u2 H locs hP hD hS hw => ?_)
    replace hP : va_P D vwCl (WA q7 u2) H := hP
    replace hD : va_D A (WA q7 u2) := hD
    refine lv_iload_n hx hb dX0_holds_19 rfl (lv_at hl 0 rfl) ?_
    refine lv_icmp_eq (tgt := 27) hx hb dX0_holds_20 (by decide) (fun c4 => ?_) (fun c4 => ?_)
    · replace hw := hw.1 c4
      refine lv_iconst (v := (0 : Int32)) hx hb dX0_holds_27 (by decide) ?_
      exact rt_z (wo := (fun v => WA q7 v)) S hr hlk u2 hP hS zB_0 hw dX0_holds_28
    · replace hw := hw.2 c4
      refine lv_iconst (v := (1 : Int32)) hx hb dX0_holds_23 (by decide) ?_
      refine lv_goto (tgt := 28) hx hb dX0_holds_24 (by decide) ?_
      exact rt_z (wo := (fun v => WA q7 v)) S hr hlk u2 hP hS zB_1 hw dX0_holds_28
  unfold wX0_holds at hw
  obtain ⟨H, eH⟩ : ∃ H, H = s.heap := ⟨_, rfl⟩
  obtain ⟨locs, eL⟩ : ∃ locs : List Loc, locs = [] := ⟨_, rfl⟩
  replace hP : va_P D vwCl (WA q7 u) H := by rw [eH]; exact hP
  replace hS : va_S A s.heap H locs := by rw [eH, eL]; exact hS
  suffices hgo : W p l e ({ frames := 2, cells := 0, slots := 0, locals := 43 } : Room) s m ([.ref q7, .int a1] : List Value).toArray below meth c H locs 0 0 (MQ below (va_Qi P (fun u t => va_P D vwCl (WA q7 u) t.heap) A) ([.ref q7, .int a1] : List Value).toArray s 0 0 A) (F0 m 0 ls []) by rw [eH, eL] at hgo; exact hgo
  clear eH eL
  refine lv_iload_n hx hb dX0_holds_0 rfl (lv_at hl 1 rfl) ?_
  refine lv_iconst (v := (1 : Int32)) hx hb dX0_holds_1 (by decide) ?_
  refine lv_iand hx hb dX0_holds_2 ?_
  refine lv_if_eq (tgt := 10) hx hb dX0_holds_3 (by decide) (fun c1 => ?_) (fun c1 => ?_)
  · replace hw := hw.1 c1
    refine lv_iconst (v := (0 : Int32)) hx hb dX0_holds_10 (by decide) ?_
    exact b11 (0 : Int32) u H locs ls hP hD hS (lv_sub hl [0, 1] rfl) hw
  · replace hw := hw.2 c1
    refine lv_iconst (v := (1 : Int32)) hx hb dX0_holds_6 (by decide) ?_
    refine lv_goto (tgt := 11) hx hb dX0_holds_7 (by decide) ?_
    exact b11 (1 : Int32) u H locs ls hP hD hS (lv_sub hl [0, 1] rfl) hw
