-- X2_at
def wX2_at (a1 : Int32) (u : SM) (P : Int32 → SM → Prop) : Prop := (vp_in ((a1 >>> ((8 : Int32) &&& 31)) &&& (4095 : Int32)) 4096 ∧ ((((m_pn u) ((a1 >>> ((8 : Int32) &&& 31)) &&& (4095 : Int32)).toNatClampNeg) = (0 : Int32) → (P (0 : Int32) u)) ∧ (¬ ((m_pn u) ((a1 >>> ((8 : Int32) &&& 31)) &&& (4095 : Int32)).toNatClampNeg) = (0 : Int32) → (vp_in ((((((m_pn u) ((a1 >>> ((8 : Int32) &&& 31)) &&& (4095 : Int32)).toNatClampNeg) - (1 : Int32)) <<< ((8 : Int32) &&& 31)) ||| (a1 &&& (255 : Int32))) &&& (65535 : Int32)) 65536 ∧ (P (((m_cells u) ((((((m_pn u) ((a1 >>> ((8 : Int32) &&& 31)) &&& (4095 : Int32)).toNatClampNeg) - (1 : Int32)) <<< ((8 : Int32) &&& 31)) ||| (a1 &&& (255 : Int32))) &&& (65535 : Int32)).toNatClampNeg) &&& (255 : Int32)) u)))))
set_option maxHeartbeats 4000000 in
set_option maxRecDepth 100000 in
theorem kcX2_at (l : Launch) (D : va_G) (cB cI : ClassId) (q1 q2 q3 : Nat) (sz : Nat) (a1 : Int32) (u : SM) (P : Int32 → SM → Prop) (hw : wX2_at a1 u P) : Met l yX2_at wsX2_at ({ frames := 0, cells := 0, slots := 0, locals := 0 } : Room) (va_Pc [.ref q1, .int a1] (Pcw D (tyA cB cI) (WM cB cI q1 q2 q3 u) sz Tru)) (va_Qi P (fun u t => va_P D vwCl (WM cB cI q1 q2 q3 u) t.heap) (va_A (WM cB cI q1 q2 q3 u) sz)) 0 0 (va_A (WM cB cI q1 q2 q3 u) sz) := by
  refine en_ (cc := cX2_at) (maxL := 3) (ret := (some .int)) (own := RX2) (lv := [(0, .ref q1), (1, .int a1)]) (Qf := fun A => va_Qi P (fun u t => va_P D vwCl (WM cB cI q1 q2 q3 u) t.heap) A) (by decide) rfl rfl (Nat.le_of_ble_eq_true rfl) rfl ?_
  intro p e s m below meth c A ls S hr hlk hname hsz hP hK hD hA hSub hS hE hl
  have hx := S.1
  have hb := S.2.1
  have hown := S.2.2.2.1
  have hts := S.2.2.2.2
  have i_X2 : ∀ w ∈ u_ws RX2 TX2 4, w ∈ wsX2_at := by decide +kernel
  have f_10 := hts (.fieldLink RX2 10 "MachineCore$Memory" "cells" "[B") (by decide +kernel)
  have f_14 := hts (.fieldLink RX2 14 "MachineCore$Memory" "pageNumbers" "[I") (by decide +kernel)
  have k_18 := hts (.constant RX2 18 (65535)) (by decide +kernel)
  unfold wX2_at at hw
  obtain ⟨H, eH⟩ : ∃ H, H = s.heap := ⟨_, rfl⟩
  obtain ⟨locs, eL⟩ : ∃ locs : List Loc, locs = [] := ⟨_, rfl⟩
  replace hP : va_P D vwCl (WM cB cI q1 q2 q3 u) H := by rw [eH]; exact hP
  replace hS : va_S A s.heap H locs := by rw [eH, eL]; exact hS
  suffices hgo : W p l e ({ frames := 0, cells := 0, slots := 0, locals := 0 } : Room) s m ([.ref q1, .int a1] : List Value).toArray below meth c H locs 0 0 (MQ below (va_Qi P (fun u t => va_P D vwCl (WM cB cI q1 q2 q3 u) t.heap) A) ([.ref q1, .int a1] : List Value).toArray s 0 0 A) (F0 m 0 ls []) by rw [eH, eL] at hgo; exact hgo
  clear eH eL
  refine lv_aload_n hx hb dX2_at_0 rfl (lv_at hl 0 rfl) ?_
  refine va_get (D := D) (ci := 2) (v := .ref q3) (C := RX2) (T := TX2) (N := 4) hx hb hts i_X2 hown hK hP 0 rfl rfl 1 (by decide) f_14 (fun _ h9 => h9) rfl dX2_at_1 ?_
  refine lv_iload_n hx hb dX2_at_4 rfl (lv_at hl 1 rfl) ?_
  refine lv_bipush (v := (8 : Int32)) hx hb dX2_at_5 (by decide) ?_
  refine lv_ishr hx hb dX2_at_7 ?_
  refine lv_sipush (v := (4095 : Int32)) hx hb dX2_at_8 (by decide) ?_
  refine lv_iand hx hb dX2_at_11 ?_
  refine va_iald hx hb hK hP 2 1 (f := (m_pn u)) rfl rfl hw.1 dX2_at_12 ?_
  replace hw := hw.2
  refine lv_istore_n (lv' := [(2, .int ((m_pn u) ((a1 >>> ((8 : Int32) &&& 31)) &&& (4095 : Int32)).toNatClampNeg)), (0, .ref q1), (1, .int a1)]) hx hb dX2_at_13 rfl hl (by decide) rfl (fun ls hl => ?_)
  refine lv_iload_n hx hb dX2_at_14 rfl (lv_at hl 0 rfl) ?_
  refine lv_if_ne (tgt := 22) hx hb dX2_at_15 (by decide) (fun c1 => ?_) (fun c1 => ?_)
  · replace hw := hw.2 c1
    refine lv_aload_n hx hb dX2_at_22 rfl (lv_at hl 1 rfl) ?_
    refine va_get (D := D) (ci := 2) (v := .ref q2) (C := RX2) (T := TX2) (N := 4) hx hb hts i_X2 hown hK hP 0 rfl rfl 0 (by decide) f_10 (fun _ h9 => h9) rfl dX2_at_23 ?_
    refine lv_iload_n hx hb dX2_at_26 rfl (lv_at hl 0 rfl) ?_
    refine lv_iconst (v := (1 : Int32)) hx hb dX2_at_27 (by decide) ?_
    refine lv_isub hx hb dX2_at_28 ?_
    refine lv_bipush (v := (8 : Int32)) hx hb dX2_at_29 (by decide) ?_
    refine lv_ishl hx hb dX2_at_31 ?_
    refine lv_iload_n hx hb dX2_at_32 rfl (lv_at hl 2 rfl) ?_
    refine lv_sipush (v := (255 : Int32)) hx hb dX2_at_33 (by decide) ?_
    refine lv_iand hx hb dX2_at_36 ?_
    refine lv_ior hx hb dX2_at_37 ?_
    refine lv_ldc (v := (65535 : Int32)) hx hb hown k_18 dX2_at_38 ?_
    refine lv_iand hx hb dX2_at_40 ?_
    refine va_bald hx hb hK hP 1 0 (f := (m_cells u)) rfl rfl hw.1 dX2_at_41 ?_
    replace hw := hw.2
    refine lv_sipush (v := (255 : Int32)) hx hb dX2_at_42 (by decide) ?_
    refine lv_iand hx hb dX2_at_45 ?_
    exact rt_i (wo := (fun v => WM cB cI q1 q2 q3 v)) S hr hlk u hP hS hw dX2_at_46
  · replace hw := hw.1 c1
    refine lv_iconst (v := (0 : Int32)) hx hb dX2_at_18 (by decide) ?_
    refine lv_goto (tgt := 46) hx hb dX2_at_19 (by decide) ?_
    exact rt_i (wo := (fun v => WM cB cI q1 q2 q3 v)) S hr hlk u hP hS hw dX2_at_46
-- X2_place
def wX2_place (a0 : Int32) (a1 : Int32) (u : Unit) (P : Int32 → Unit → Prop) : Prop := (P (((a0 <<< ((4 : Int32) &&& 31)) + (a1 &&& (65535 : Int32))) &&& (1048575 : Int32)) u)
set_option maxHeartbeats 4000000 in
set_option maxRecDepth 100000 in
theorem kcX2_place (l : Launch) (D : va_G) (cB cI : ClassId) (sz : Nat) (a0 : Int32) (a1 : Int32) (u : Unit) (P : Int32 → Unit → Prop) (hw : wX2_place a0 a1 u P) : Met l yX2_place wsX2_place ({ frames := 0, cells := 0, slots := 0, locals := 0 } : Room) (va_Pc [.int a0, .int a1] (Pcw D (tyA cB cI) [] sz Tru)) (va_Qi P (fun u t => va_P D vwCl [] t.heap) (va_A [] sz)) 0 0 (va_A [] sz) := by
  refine en_ (cc := cX2_place) (maxL := 2) (ret := (some .int)) (own := RX2) (lv := [(0, .int a0), (1, .int a1)]) (Qf := fun A => va_Qi P (fun u t => va_P D vwCl [] t.heap) A) (by decide) rfl rfl (Nat.le_of_ble_eq_true rfl) rfl ?_
  intro p e s m below meth c A ls S hr hlk hname hsz hP hK hD hA hSub hS hE hl
  have hx := S.1
  have hb := S.2.1
  have hown := S.2.2.2.1
  have hts := S.2.2.2.2
  have k_18 := hts (.constant RX2 18 (65535)) (by decide +kernel)
  have k_19 := hts (.constant RX2 19 (1048575)) (by decide +kernel)
  unfold wX2_place at hw
  obtain ⟨H, eH⟩ : ∃ H, H = s.heap := ⟨_, rfl⟩
  obtain ⟨locs, eL⟩ : ∃ locs : List Loc, locs = [] := ⟨_, rfl⟩
  replace hP : va_P D vwCl [] H := by rw [eH]; exact hP
  replace hS : va_S A s.heap H locs := by rw [eH, eL]; exact hS
  suffices hgo : W p l e ({ frames := 0, cells := 0, slots := 0, locals := 0 } : Room) s m ([.int a0, .int a1] : List Value).toArray below meth c H locs 0 0 (MQ below (va_Qi P (fun u t => va_P D vwCl [] t.heap) A) ([.int a0, .int a1] : List Value).toArray s 0 0 A) (F0 m 0 ls []) by rw [eH, eL] at hgo; exact hgo
  clear eH eL
  refine lv_iload_n hx hb dX2_place_0 rfl (lv_at hl 0 rfl) ?_
  refine lv_iconst (v := (4 : Int32)) hx hb dX2_place_1 (by decide) ?_
  refine lv_ishl hx hb dX2_place_2 ?_
  refine lv_iload_n hx hb dX2_place_3 rfl (lv_at hl 1 rfl) ?_
  refine lv_ldc (v := (65535 : Int32)) hx hb hown k_18 dX2_place_4 ?_
  refine lv_iand hx hb dX2_place_6 ?_
  refine lv_iadd hx hb dX2_place_7 ?_
  refine lv_ldc (v := (1048575 : Int32)) hx hb hown k_19 dX2_place_8 ?_
  refine lv_iand hx hb dX2_place_10 ?_
  exact rt_i (wo := (fun _ => [])) S hr hlk u hP hS hw dX2_place_11
-- X2_load
def wX2_load (a1 : Int32) (a2 : Int32) (a3 : Int32) (u : SM) (P : Int32 → SM → Prop) : Prop := (wX2_place a1 a2 () (fun r2 u1 => (wX2_at r2 u (fun r4 u3 => ((a3 = (0 : Int32) → (P r4 u3)) ∧ (¬ a3 = (0 : Int32) → (wX2_place a1 (a2 + (1 : Int32)) () (fun r7 u6 => (wX2_at r7 u3 (fun r9 u8 => (P (r4 ||| (r9 <<< ((8 : Int32) &&& 31))) u8)))))))))))
set_option maxHeartbeats 4000000 in
set_option maxRecDepth 100000 in
theorem kcX2_load (l : Launch) (D : va_G) (cB cI : ClassId) (q1 q2 q3 : Nat) (sz : Nat) (a1 : Int32) (a2 : Int32) (a3 : Int32) (u : SM) (P : Int32 → SM → Prop) (hw : wX2_load a1 a2 a3 u P) : Met l yX2_load wsX2_load ({ frames := 1, cells := 0, slots := 0, locals := 22 } : Room) (va_Pc [.ref q1, .int a1, .int a2, .int a3] (Pcw D (tyA cB cI) (WM cB cI q1 q2 q3 u) sz Tru)) (va_Qi P (fun u t => va_P D vwCl (WM cB cI q1 q2 q3 u) t.heap) (va_A (WM cB cI q1 q2 q3 u) sz)) 0 0 (va_A (WM cB cI q1 q2 q3 u) sz) := by
  refine en_ (cc := cX2_load) (maxL := 5) (ret := (some .int)) (own := RX2) (lv := [(0, .ref q1), (1, .int a1), (2, .int a2), (3, .int a3)]) (Qf := fun A => va_Qi P (fun u t => va_P D vwCl (WM cB cI q1 q2 q3 u) t.heap) A) (by decide) rfl rfl (Nat.le_of_ble_eq_true rfl) rfl ?_
  intro p e s m below meth c A ls S hr hlk hname hsz hP hK hD hA hSub hS hE hl
  have hx := S.1
  have hb := S.2.1
  have hown := S.2.2.2.1
  have hts := S.2.2.2.2
  unfold wX2_load at hw
  obtain ⟨H, eH⟩ : ∃ H, H = s.heap := ⟨_, rfl⟩
  obtain ⟨locs, eL⟩ : ∃ locs : List Loc, locs = [] := ⟨_, rfl⟩
  replace hP : va_P D vwCl (WM cB cI q1 q2 q3 u) H := by rw [eH]; exact hP
  replace hS : va_S A s.heap H locs := by rw [eH, eL]; exact hS
  suffices hgo : W p l e ({ frames := 1, cells := 0, slots := 0, locals := 22 } : Room) s m ([.ref q1, .int a1, .int a2, .int a3] : List Value).toArray below meth c H locs 0 0 (MQ below (va_Qi P (fun u t => va_P D vwCl (WM cB cI q1 q2 q3 u) t.heap) A) ([.ref q1, .int a1, .int a2, .int a3] : List Value).toArray s 0 0 A) (F0 m 0 ls []) by rw [eH, eL] at hgo; exact hgo
  clear eH eL
  refine lv_aload_n hx hb dX2_load_0 rfl (lv_at hl 0 rfl) ?_
  refine lv_iload_n hx hb dX2_load_1 rfl (lv_at hl 1 rfl) ?_
  refine lv_iload_n hx hb dX2_load_2 rfl (lv_at hl 2 rfl) ?_
  refine cl_Si (As := [.int a1, .int a2]) (rest := [.ref q1]) (st := [.int a2, .int a1, .ref q1]) S hK hA hP hD hS Fr_nil (kcX2_place l D cB cI  H.size a1 a2 () _ hw) (va_cwS 2 hts gX2_load_X2_place rfl rfl rfl (by decide +kernel) ⟨Nat.le_of_ble_eq_true rfl, Nat.le_of_ble_eq_true rfl⟩) tru_h tru_b rfl rfl hl.1 (Nat.le_of_ble_eq_true rfl) dX2_load_3 ⟨Nat.zero_le _, Nat.zero_le _⟩ (fun r2 u1 H locs hP hD hS hw => ?_)
  replace hP : va_P D vwCl (WM cB cI q1 q2 q3 u) H := hP
  replace hD : va_D A (WM cB cI q1 q2 q3 u) := hD
  refine cl_Vi (As := [.int r2]) (rest := []) (st := [.int r2, .ref q1]) S hK hA hP hD hS (fr_M u) (kcX2_at l D cB cI q1 q2 q3 H.size r2 u _ hw) (cwV 1 hts gX2_load_X2_at rfl rfl rfl (by decide +kernel) ⟨Nat.le_of_ble_eq_true rfl, Nat.le_of_ble_eq_true rfl⟩) tru_h tru_b 0 rfl rfl rfl rfl rfl hl.1 (Nat.le_of_ble_eq_true rfl) dX2_load_6 ⟨Nat.zero_le _, Nat.zero_le _⟩ (fun r4 u3 H locs hP hD hS hw => ?_)
  replace hP : va_P D vwCl (WM cB cI q1 q2 q3 u3) H := hP
  replace hD : va_D A (WM cB cI q1 q2 q3 u3) := hD
  refine lv_istore (lv' := [(4, .int r4), (0, .ref q1), (1, .int a1), (2, .int a2), (3, .int a3)]) hx hb dX2_load_9 hl (by decide) rfl (fun ls hl => ?_)
  refine lv_iload_n hx hb dX2_load_11 rfl (lv_at hl 4 rfl) ?_
  refine lv_if_eq (tgt := 35) hx hb dX2_load_12 (by decide) (fun c5 => ?_) (fun c5 => ?_)
  · replace hw := hw.1 c5
    refine lv_iload hx hb dX2_load_35 (lv_at hl 0 rfl) ?_
    exact rt_i (wo := (fun v => WM cB cI q1 q2 q3 v)) S hr hlk u3 hP hS hw dX2_load_37
  · replace hw := hw.2 c5
    refine lv_iload hx hb dX2_load_15 (lv_at hl 0 rfl) ?_
    refine lv_aload_n hx hb dX2_load_17 rfl (lv_at hl 1 rfl) ?_
    refine lv_iload_n hx hb dX2_load_18 rfl (lv_at hl 2 rfl) ?_
    refine lv_iload_n hx hb dX2_load_19 rfl (lv_at hl 3 rfl) ?_
    refine lv_iconst (v := (1 : Int32)) hx hb dX2_load_20 (by decide) ?_
    refine lv_iadd hx hb dX2_load_21 ?_
    refine cl_Si (As := [.int a1, .int (a2 + (1 : Int32))]) (rest := [.ref q1, .int r4]) (st := [.int (a2 + (1 : Int32)), .int a1, .ref q1, .int r4]) S hK hA hP hD hS Fr_nil (kcX2_place l D cB cI  H.size a1 (a2 + (1 : Int32)) () _ hw) (va_cwS 2 hts gX2_load_X2_place rfl rfl rfl (by decide +kernel) ⟨Nat.le_of_ble_eq_true rfl, Nat.le_of_ble_eq_true rfl⟩) tru_h tru_b rfl rfl hl.1 (Nat.le_of_ble_eq_true rfl) dX2_load_22 ⟨Nat.zero_le _, Nat.zero_le _⟩ (fun r7 u6 H locs hP hD hS hw => ?_)
    replace hP : va_P D vwCl (WM cB cI q1 q2 q3 u3) H := hP
    replace hD : va_D A (WM cB cI q1 q2 q3 u3) := hD
    refine cl_Vi (As := [.int r7]) (rest := [.int r4]) (st := [.int r7, .ref q1, .int r4]) S hK hA hP hD hS (fr_M u3) (kcX2_at l D cB cI q1 q2 q3 H.size r7 u3 _ hw) (cwV 1 hts gX2_load_X2_at rfl rfl rfl (by decide +kernel) ⟨Nat.le_of_ble_eq_true rfl, Nat.le_of_ble_eq_true rfl⟩) tru_h tru_b 0 rfl rfl rfl rfl rfl hl.1 (Nat.le_of_ble_eq_true rfl) dX2_load_25 ⟨Nat.zero_le _, Nat.zero_le _⟩ (fun r9 u8 H locs hP hD hS hw => ?_)
    replace hP : va_P D vwCl (WM cB cI q1 q2 q3 u8) H := hP
    replace hD : va_D A (WM cB cI q1 q2 q3 u8) := hD
    refine lv_bipush (v := (8 : Int32)) hx hb dX2_load_28 (by decide) ?_
    refine lv_ishl hx hb dX2_load_30 ?_
    refine lv_ior hx hb dX2_load_31 ?_
    refine lv_goto (tgt := 37) hx hb dX2_load_32 (by decide) ?_
    exact rt_i (wo := (fun v => WM cB cI q1 q2 q3 v)) S hr hlk u8 hP hS hw dX2_load_37
-- X2_put
def wX2_put_b59 (a1 : Int32) (a2 : Int32) (P : SM → Prop) (x3 : Int32) (u : SM) : Prop := (vp_in x3 4096 ∧ (vp_in ((((((m_pn u) x3.toNatClampNeg) - (1 : Int32)) <<< ((8 : Int32) &&& 31)) ||| (a1 &&& (255 : Int32))) &&& (65535 : Int32)) 65536 ∧ (P (ms_cells u (upd (m_cells u) ((((((m_pn u) x3.toNatClampNeg) - (1 : Int32)) <<< ((8 : Int32) &&& 31)) ||| (a1 &&& (255 : Int32))) &&& (65535 : Int32)).toNatClampNeg (vp_nar .byte (a2.toInt8.toInt32)))))))
def wX2_put (a1 : Int32) (a2 : Int32) (u : SM) (P : SM → Prop) : Prop := (vp_in ((a1 >>> ((8 : Int32) &&& 31)) &&& (4095 : Int32)) 4096 ∧ ((((m_pn u) ((a1 >>> ((8 : Int32) &&& 31)) &&& (4095 : Int32)).toNatClampNeg) = (0 : Int32) → (((m_pages u) = (256 : Int32) → (P (ms_lost u ((m_lost u) + (1 : Int32))))) ∧ (¬ (m_pages u) = (256 : Int32) → (vp_in ((a1 >>> ((8 : Int32) &&& 31)) &&& (4095 : Int32)) 4096 ∧ (wX2_put_b59 a1 a2 P ((a1 >>> ((8 : Int32) &&& 31)) &&& (4095 : Int32)) (ms_pages (ms_pn u (upd (m_pn u) ((a1 >>> ((8 : Int32) &&& 31)) &&& (4095 : Int32)).toNatClampNeg ((m_pages u) + (1 : Int32)))) ((m_pages u) + (1 : Int32)))))))) ∧ (¬ ((m_pn u) ((a1 >>> ((8 : Int32) &&& 31)) &&& (4095 : Int32)).toNatClampNeg) = (0 : Int32) → (wX2_put_b59 a1 a2 P ((a1 >>> ((8 : Int32) &&& 31)) &&& (4095 : Int32)) u))))
set_option maxHeartbeats 4000000 in
set_option maxRecDepth 100000 in
theorem kcX2_put (l : Launch) (D : va_G) (cB cI : ClassId) (q1 q2 q3 : Nat) (sz : Nat) (a1 : Int32) (a2 : Int32) (u : SM) (P : SM → Prop) (hw : wX2_put a1 a2 u P) : Met l yX2_put wsX2_put ({ frames := 0, cells := 0, slots := 0, locals := 0 } : Room) (va_Pc [.ref q1, .int a1, .int a2] (Pcw D (tyA cB cI) (WM cB cI q1 q2 q3 u) sz Tru)) (va_Qv P (fun u t => va_P D vwCl (WM cB cI q1 q2 q3 u) t.heap) (va_A (WM cB cI q1 q2 q3 u) sz)) 0 0 (va_A (WM cB cI q1 q2 q3 u) sz) := by
  refine en_ (cc := cX2_put) (maxL := 4) (ret := none) (own := RX2) (lv := [(0, .ref q1), (1, .int a1), (2, .int a2)]) (Qf := fun A => va_Qv P (fun u t => va_P D vwCl (WM cB cI q1 q2 q3 u) t.heap) A) (by decide) rfl rfl (Nat.le_of_ble_eq_true rfl) rfl ?_
  intro p e s m below meth c A ls S hr hlk hname hsz hP hK hD hA hSub hS hE hl
  have hx := S.1
  have hb := S.2.1
  have hown := S.2.2.2.1
  have hts := S.2.2.2.2
  have i_X2 : ∀ w ∈ u_ws RX2 TX2 4, w ∈ wsX2_put := by decide +kernel
  have f_10 := hts (.fieldLink RX2 10 "MachineCore$Memory" "cells" "[B") (by decide +kernel)
  have f_14 := hts (.fieldLink RX2 14 "MachineCore$Memory" "pageNumbers" "[I") (by decide +kernel)
  have f_20 := hts (.fieldLink RX2 20 "MachineCore$Memory" "pages" "I") (by decide +kernel)
  have f_24 := hts (.fieldLink RX2 24 "MachineCore$Memory" "lost" "I") (by decide +kernel)
  have k_18 := hts (.constant RX2 18 (65535)) (by decide +kernel)
  have b59 : ∀ (x3 : Int32) (u : SM) (H : Heap) (locs : List Loc) (ls : Array Slot), va_P D vwCl (WM cB cI q1 q2 q3 u) H → va_D A (WM cB cI q1 q2 q3 u) → va_S A s.heap H locs → lv_has ls 4 [(0, .ref q1), (1, .int a1), (2, .int a2), (3, .int x3)] → wX2_put_b59 a1 a2 P x3 u → W p l e ({ frames := 0, cells := 0, slots := 0, locals := 0 } : Room) s m ([.ref q1, .int a1, .int a2] : List Value).toArray below meth c H locs 0 0 (MQ below (va_Qv P (fun u t => va_P D vwCl (WM cB cI q1 q2 q3 u) t.heap) A) ([.ref q1, .int a1, .int a2] : List Value).toArray s 0 0 A) (F0 m 59 ls []) := by
    intro x3 u H locs ls hP hD hS hl hw
    unfold wX2_put_b59 at hw
    refine lv_aload_n hx hb dX2_put_59 rfl (lv_at hl 0 rfl) ?_
    refine va_get (D := D) (ci := 2) (v := .ref q2) (C := RX2) (T := TX2) (N := 4) hx hb hts i_X2 hown hK hP 0 rfl rfl 0 (by decide) f_10 (fun _ h9 => h9) rfl dX2_put_60 ?_
    refine lv_aload_n hx hb dX2_put_63 rfl (lv_at hl 0 rfl) ?_
    refine va_get (D := D) (ci := 2) (v := .ref q3) (C := RX2) (T := TX2) (N := 4) hx hb hts i_X2 hown hK hP 0 rfl rfl 1 (by decide) f_14 (fun _ h9 => h9) rfl dX2_put_64 ?_
    refine lv_iload_n hx hb dX2_put_67 rfl (lv_at hl 3 rfl) ?_
    refine va_iald hx hb hK hP 2 1 (f := (m_pn u)) rfl rfl hw.1 dX2_put_68 ?_
    replace hw := hw.2
    refine lv_iconst (v := (1 : Int32)) hx hb dX2_put_69 (by decide) ?_
    refine lv_isub hx hb dX2_put_70 ?_
    refine lv_bipush (v := (8 : Int32)) hx hb dX2_put_71 (by decide) ?_
    refine lv_ishl hx hb dX2_put_73 ?_
    refine lv_iload_n hx hb dX2_put_74 rfl (lv_at hl 1 rfl) ?_
    refine lv_sipush (v := (255 : Int32)) hx hb dX2_put_75 (by decide) ?_
    refine lv_iand hx hb dX2_put_78 ?_
    refine lv_ior hx hb dX2_put_79 ?_
    refine lv_ldc (v := (65535 : Int32)) hx hb hown k_18 dX2_put_80 ?_
    refine lv_iand hx hb dX2_put_82 ?_
    refine lv_iload_n hx hb dX2_put_83 rfl (lv_at hl 2 rfl) ?_
    refine lv_i2b (v := (a2.toInt8.toInt32)) hx hb dX2_put_84 rfl ?_
    refine va_bast hx hb hK hP hD hS 1 0 (f := (m_cells u)) rfl rfl hw.1 dX2_put_85 (fun H locs hP hD hS => ?_)
    replace hw := hw.2
    replace hP : va_P D vwCl (WM cB cI q1 q2 q3 (ms_cells u (upd (m_cells u) ((((((m_pn u) x3.toNatClampNeg) - (1 : Int32)) <<< ((8 : Int32) &&& 31)) ||| (a1 &&& (255 : Int32))) &&& (65535 : Int32)).toNatClampNeg (vp_nar .byte (a2.toInt8.toInt32))))) H := hP
    replace hD : va_D A (WM cB cI q1 q2 q3 (ms_cells u (upd (m_cells u) ((((((m_pn u) x3.toNatClampNeg) - (1 : Int32)) <<< ((8 : Int32) &&& 31)) ||| (a1 &&& (255 : Int32))) &&& (65535 : Int32)).toNatClampNeg (vp_nar .byte (a2.toInt8.toInt32))))) := hD
    exact rt_v (wo := (fun v => WM cB cI q1 q2 q3 v)) S hr hlk (ms_cells u (upd (m_cells u) ((((((m_pn u) x3.toNatClampNeg) - (1 : Int32)) <<< ((8 : Int32) &&& 31)) ||| (a1 &&& (255 : Int32))) &&& (65535 : Int32)).toNatClampNeg (vp_nar .byte (a2.toInt8.toInt32)))) hP hS hw dX2_put_86
  unfold wX2_put at hw
  obtain ⟨H, eH⟩ : ∃ H, H = s.heap := ⟨_, rfl⟩
  obtain ⟨locs, eL⟩ : ∃ locs : List Loc, locs = [] := ⟨_, rfl⟩
  replace hP : va_P D vwCl (WM cB cI q1 q2 q3 u) H := by rw [eH]; exact hP
  replace hS : va_S A s.heap H locs := by rw [eH, eL]; exact hS
  suffices hgo : W p l e ({ frames := 0, cells := 0, slots := 0, locals := 0 } : Room) s m ([.ref q1, .int a1, .int a2] : List Value).toArray below meth c H locs 0 0 (MQ below (va_Qv P (fun u t => va_P D vwCl (WM cB cI q1 q2 q3 u) t.heap) A) ([.ref q1, .int a1, .int a2] : List Value).toArray s 0 0 A) (F0 m 0 ls []) by rw [eH, eL] at hgo; exact hgo
  clear eH eL
  refine lv_iload_n hx hb dX2_put_0 rfl (lv_at hl 1 rfl) ?_
  refine lv_bipush (v := (8 : Int32)) hx hb dX2_put_1 (by decide) ?_
  refine lv_ishr hx hb dX2_put_3 ?_
  refine lv_sipush (v := (4095 : Int32)) hx hb dX2_put_4 (by decide) ?_
  refine lv_iand hx hb dX2_put_7 ?_
  refine lv_istore_n (lv' := [(3, .int ((a1 >>> ((8 : Int32) &&& 31)) &&& (4095 : Int32))), (0, .ref q1), (1, .int a1), (2, .int a2)]) hx hb dX2_put_8 rfl hl (by decide) rfl (fun ls hl => ?_)
  refine lv_aload_n hx hb dX2_put_9 rfl (lv_at hl 1 rfl) ?_
  refine va_get (D := D) (ci := 2) (v := .ref q3) (C := RX2) (T := TX2) (N := 4) hx hb hts i_X2 hown hK hP 0 rfl rfl 1 (by decide) f_14 (fun _ h9 => h9) rfl dX2_put_10 ?_
  refine lv_iload_n hx hb dX2_put_13 rfl (lv_at hl 0 rfl) ?_
  refine va_iald hx hb hK hP 2 1 (f := (m_pn u)) rfl rfl hw.1 dX2_put_14 ?_
  replace hw := hw.2
  refine lv_if_ne (tgt := 59) hx hb dX2_put_15 (by decide) (fun c1 => ?_) (fun c1 => ?_)
  · replace hw := hw.2 c1
    exact b59 ((a1 >>> ((8 : Int32) &&& 31)) &&& (4095 : Int32)) u H locs ls hP hD hS (lv_sub hl [1, 2, 3, 0] rfl) hw
  · replace hw := hw.1 c1
    refine lv_aload_n hx hb dX2_put_18 rfl (lv_at hl 1 rfl) ?_
    refine va_get (D := D) (ci := 2) (v := .int (m_pages u)) (C := RX2) (T := TX2) (N := 4) hx hb hts i_X2 hown hK hP 0 rfl rfl 2 (by decide) f_20 (fun _ h9 => h9) rfl dX2_put_19 ?_
    refine lv_sipush (v := (256 : Int32)) hx hb dX2_put_22 (by decide) ?_
    refine lv_icmp_ne (tgt := 39) hx hb dX2_put_25 (by decide) (fun c2 => ?_) (fun c2 => ?_)
    · replace hw := hw.2 c2
      refine lv_aload_n hx hb dX2_put_39 rfl (lv_at hl 1 rfl) ?_
      refine lv_dup hx hb dX2_put_40 rfl ?_
      refine va_get (D := D) (ci := 2) (v := .int (m_pages u)) (C := RX2) (T := TX2) (N := 4) hx hb hts i_X2 hown hK hP 0 rfl rfl 2 (by decide) f_20 (fun _ h9 => h9) rfl dX2_put_41 ?_
      refine lv_iconst (v := (1 : Int32)) hx hb dX2_put_44 (by decide) ?_
      refine lv_iadd hx hb dX2_put_45 ?_
      refine va_put (D := D) (ci := 2) (v := .int ((m_pages u) + (1 : Int32))) (ty := .int) (C := RX2) (T := TX2) (N := 4) hx hb hts i_X2 tyX2 tyX2_ok nmX2 hown hK hP hD hS 0 rfl rfl 2 (by decide) f_20 (fun _ h9 => h9) rfl (by decide +kernel) rfl rfl (Nat.le_of_ble_eq_true rfl) dX2_put_46 (fun H locs hP hD hS => ?_)
      replace hP : va_P D vwCl (WM cB cI q1 q2 q3 (ms_pages u ((m_pages u) + (1 : Int32)))) H := hP
      replace hD : va_D A (WM cB cI q1 q2 q3 (ms_pages u ((m_pages u) + (1 : Int32)))) := hD
      refine lv_aload_n hx hb dX2_put_49 rfl (lv_at hl 1 rfl) ?_
      refine va_get (D := D) (ci := 2) (v := .ref q3) (C := RX2) (T := TX2) (N := 4) hx hb hts i_X2 hown hK hP 0 rfl rfl 1 (by decide) f_14 (fun _ h9 => h9) rfl dX2_put_50 ?_
      refine lv_iload_n hx hb dX2_put_53 rfl (lv_at hl 0 rfl) ?_
      refine lv_aload_n hx hb dX2_put_54 rfl (lv_at hl 1 rfl) ?_
      refine va_get (D := D) (ci := 2) (v := .int ((m_pages u) + (1 : Int32))) (C := RX2) (T := TX2) (N := 4) hx hb hts i_X2 hown hK hP 0 rfl rfl 2 (by decide) f_20 (fun _ h9 => h9) rfl dX2_put_55 ?_
      refine va_iast hx hb hK hP hD hS 2 1 (f := (m_pn u)) rfl rfl hw.1 dX2_put_58 (fun H locs hP hD hS => ?_)
      replace hw := hw.2
      replace hP : va_P D vwCl (WM cB cI q1 q2 q3 (ms_pages (ms_pn u (upd (m_pn u) ((a1 >>> ((8 : Int32) &&& 31)) &&& (4095 : Int32)).toNatClampNeg ((m_pages u) + (1 : Int32)))) ((m_pages u) + (1 : Int32)))) H := hP
      replace hD : va_D A (WM cB cI q1 q2 q3 (ms_pages (ms_pn u (upd (m_pn u) ((a1 >>> ((8 : Int32) &&& 31)) &&& (4095 : Int32)).toNatClampNeg ((m_pages u) + (1 : Int32)))) ((m_pages u) + (1 : Int32)))) := hD
      exact b59 ((a1 >>> ((8 : Int32) &&& 31)) &&& (4095 : Int32)) (ms_pages (ms_pn u (upd (m_pn u) ((a1 >>> ((8 : Int32) &&& 31)) &&& (4095 : Int32)).toNatClampNeg ((m_pages u) + (1 : Int32)))) ((m_pages u) + (1 : Int32))) H locs ls hP hD hS (lv_sub hl [1, 2, 3, 0] rfl) hw
    · replace hw := hw.1 c2
      refine lv_aload_n hx hb dX2_put_28 rfl (lv_at hl 1 rfl) ?_
      refine lv_dup hx hb dX2_put_29 rfl ?_
      refine va_get (D := D) (ci := 2) (v := .int (m_lost u)) (C := RX2) (T := TX2) (N := 4) hx hb hts i_X2 hown hK hP 0 rfl rfl 3 (by decide) f_24 (fun _ h9 => h9) rfl dX2_put_30 ?_
      refine lv_iconst (v := (1 : Int32)) hx hb dX2_put_33 (by decide) ?_
      refine lv_iadd hx hb dX2_put_34 ?_
      refine va_put (D := D) (ci := 2) (v := .int ((m_lost u) + (1 : Int32))) (ty := .int) (C := RX2) (T := TX2) (N := 4) hx hb hts i_X2 tyX2 tyX2_ok nmX2 hown hK hP hD hS 0 rfl rfl 3 (by decide) f_24 (fun _ h9 => h9) rfl (by decide +kernel) rfl rfl (Nat.le_of_ble_eq_true rfl) dX2_put_35 (fun H locs hP hD hS => ?_)
      replace hP : va_P D vwCl (WM cB cI q1 q2 q3 (ms_lost u ((m_lost u) + (1 : Int32)))) H := hP
      replace hD : va_D A (WM cB cI q1 q2 q3 (ms_lost u ((m_lost u) + (1 : Int32)))) := hD
      exact rt_v (wo := (fun v => WM cB cI q1 q2 q3 v)) S hr hlk (ms_lost u ((m_lost u) + (1 : Int32))) hP hS hw dX2_put_38
-- X2_store
def wX2_store (a1 : Int32) (a2 : Int32) (a3 : Int32) (a4 : Int32) (u : SM) (P : SM → Prop) : Prop := (wX2_place a1 a2 () (fun r2 u1 => (wX2_put r2 a3 u (fun u3 => ((a4 = (0 : Int32) → (P u3)) ∧ (¬ a4 = (0 : Int32) → (wX2_place a1 (a2 + (1 : Int32)) () (fun r7 u6 => (wX2_put r7 (a3 >>> ((8 : Int32) &&& 31)) u3 (fun u8 => (P u8)))))))))))
set_option maxHeartbeats 4000000 in
set_option maxRecDepth 100000 in
theorem kcX2_store (l : Launch) (D : va_G) (cB cI : ClassId) (q1 q2 q3 : Nat) (sz : Nat) (a1 : Int32) (a2 : Int32) (a3 : Int32) (a4 : Int32) (u : SM) (P : SM → Prop) (hw : wX2_store a1 a2 a3 a4 u P) : Met l yX2_store wsX2_store ({ frames := 1, cells := 0, slots := 0, locals := 23 } : Room) (va_Pc [.ref q1, .int a1, .int a2, .int a3, .int a4] (Pcw D (tyA cB cI) (WM cB cI q1 q2 q3 u) sz Tru)) (va_Qv P (fun u t => va_P D vwCl (WM cB cI q1 q2 q3 u) t.heap) (va_A (WM cB cI q1 q2 q3 u) sz)) 0 0 (va_A (WM cB cI q1 q2 q3 u) sz) := by
  refine en_ (cc := cX2_store) (maxL := 5) (ret := none) (own := RX2) (lv := [(0, .ref q1), (1, .int a1), (2, .int a2), (3, .int a3), (4, .int a4)]) (Qf := fun A => va_Qv P (fun u t => va_P D vwCl (WM cB cI q1 q2 q3 u) t.heap) A) (by decide) rfl rfl (Nat.le_of_ble_eq_true rfl) rfl ?_
  intro p e s m below meth c A ls S hr hlk hname hsz hP hK hD hA hSub hS hE hl
  have hx := S.1
  have hb := S.2.1
  have hown := S.2.2.2.1
  have hts := S.2.2.2.2
  unfold wX2_store at hw
  obtain ⟨H, eH⟩ : ∃ H, H = s.heap := ⟨_, rfl⟩
  obtain ⟨locs, eL⟩ : ∃ locs : List Loc, locs = [] := ⟨_, rfl⟩
  replace hP : va_P D vwCl (WM cB cI q1 q2 q3 u) H := by rw [eH]; exact hP
  replace hS : va_S A s.heap H locs := by rw [eH, eL]; exact hS
  suffices hgo : W p l e ({ frames := 1, cells := 0, slots := 0, locals := 23 } : Room) s m ([.ref q1, .int a1, .int a2, .int a3, .int a4] : List Value).toArray below meth c H locs 0 0 (MQ below (va_Qv P (fun u t => va_P D vwCl (WM cB cI q1 q2 q3 u) t.heap) A) ([.ref q1, .int a1, .int a2, .int a3, .int a4] : List Value).toArray s 0 0 A) (F0 m 0 ls []) by rw [eH, eL] at hgo; exact hgo
  clear eH eL
  refine lv_aload_n hx hb dX2_store_0 rfl (lv_at hl 0 rfl) ?_
  refine lv_iload_n hx hb dX2_store_1 rfl (lv_at hl 1 rfl) ?_
  refine lv_iload_n hx hb dX2_store_2 rfl (lv_at hl 2 rfl) ?_
  refine cl_Si (As := [.int a1, .int a2]) (rest := [.ref q1]) (st := [.int a2, .int a1, .ref q1]) S hK hA hP hD hS Fr_nil (kcX2_place l D cB cI  H.size a1 a2 () _ hw) (va_cwS 2 hts gX2_store_X2_place rfl rfl rfl (by decide +kernel) ⟨Nat.le_of_ble_eq_true rfl, Nat.le_of_ble_eq_true rfl⟩) tru_h tru_b rfl rfl hl.1 (Nat.le_of_ble_eq_true rfl) dX2_store_3 ⟨Nat.zero_le _, Nat.zero_le _⟩ (fun r2 u1 H locs hP hD hS hw => ?_)
  replace hP : va_P D vwCl (WM cB cI q1 q2 q3 u) H := hP
  replace hD : va_D A (WM cB cI q1 q2 q3 u) := hD
  refine lv_iload_n hx hb dX2_store_6 rfl (lv_at hl 3 rfl) ?_
  refine cl_Vv (As := [.int r2, .int a3]) (rest := []) (st := [.int a3, .int r2, .ref q1]) S hK hA hP hD hS (fr_M u) (kcX2_put l D cB cI q1 q2 q3 H.size r2 a3 u _ hw) (cwV 2 hts gX2_store_X2_put rfl rfl rfl (by decide +kernel) ⟨Nat.le_of_ble_eq_true rfl, Nat.le_of_ble_eq_true rfl⟩) tru_h tru_b 0 rfl rfl rfl rfl rfl hl.1 (Nat.le_of_ble_eq_true rfl) dX2_store_7 ⟨Nat.zero_le _, Nat.zero_le _⟩ (fun u3 H locs hP hD hS hw => ?_)
  replace hP : va_P D vwCl (WM cB cI q1 q2 q3 u3) H := hP
  replace hD : va_D A (WM cB cI q1 q2 q3 u3) := hD
  refine lv_iload hx hb dX2_store_10 (lv_at hl 4 rfl) ?_
  refine lv_if_eq (tgt := 30) hx hb dX2_store_12 (by decide) (fun c5 => ?_) (fun c5 => ?_)
  · replace hw := hw.1 c5
    exact rt_v (wo := (fun v => WM cB cI q1 q2 q3 v)) S hr hlk u3 hP hS hw dX2_store_30
  · replace hw := hw.2 c5
    refine lv_aload_n hx hb dX2_store_15 rfl (lv_at hl 0 rfl) ?_
    refine lv_iload_n hx hb dX2_store_16 rfl (lv_at hl 1 rfl) ?_
    refine lv_iload_n hx hb dX2_store_17 rfl (lv_at hl 2 rfl) ?_
    refine lv_iconst (v := (1 : Int32)) hx hb dX2_store_18 (by decide) ?_
    refine lv_iadd hx hb dX2_store_19 ?_
    refine cl_Si (As := [.int a1, .int (a2 + (1 : Int32))]) (rest := [.ref q1]) (st := [.int (a2 + (1 : Int32)), .int a1, .ref q1]) S hK hA hP hD hS Fr_nil (kcX2_place l D cB cI  H.size a1 (a2 + (1 : Int32)) () _ hw) (va_cwS 2 hts gX2_store_X2_place rfl rfl rfl (by decide +kernel) ⟨Nat.le_of_ble_eq_true rfl, Nat.le_of_ble_eq_true rfl⟩) tru_h tru_b rfl rfl hl.1 (Nat.le_of_ble_eq_true rfl) dX2_store_20 ⟨Nat.zero_le _, Nat.zero_le _⟩ (fun r7 u6 H locs hP hD hS hw => ?_)
    replace hP : va_P D vwCl (WM cB cI q1 q2 q3 u3) H := hP
    replace hD : va_D A (WM cB cI q1 q2 q3 u3) := hD
    refine lv_iload_n hx hb dX2_store_23 rfl (lv_at hl 3 rfl) ?_
    refine lv_bipush (v := (8 : Int32)) hx hb dX2_store_24 (by decide) ?_
    refine lv_ishr hx hb dX2_store_26 ?_
    refine cl_Vv (As := [.int r7, .int (a3 >>> ((8 : Int32) &&& 31))]) (rest := []) (st := [.int (a3 >>> ((8 : Int32) &&& 31)), .int r7, .ref q1]) S hK hA hP hD hS (fr_M u3) (kcX2_put l D cB cI q1 q2 q3 H.size r7 (a3 >>> ((8 : Int32) &&& 31)) u3 _ hw) (cwV 2 hts gX2_store_X2_put rfl rfl rfl (by decide +kernel) ⟨Nat.le_of_ble_eq_true rfl, Nat.le_of_ble_eq_true rfl⟩) tru_h tru_b 0 rfl rfl rfl rfl rfl hl.1 (Nat.le_of_ble_eq_true rfl) dX2_store_27 ⟨Nat.zero_le _, Nat.zero_le _⟩ (fun u8 H locs hP hD hS hw => ?_)
    replace hP : va_P D vwCl (WM cB cI q1 q2 q3 u8) H := hP
    replace hD : va_D A (WM cB cI q1 q2 q3 u8) := hD
    exact rt_v (wo := (fun v => WM cB cI q1 q2 q3 v)) S hr hlk u8 hP hS hw dX2_store_30
