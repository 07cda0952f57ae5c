-- X6_thrown
def wX6_thrown  (u : SQ) (P : Int32 → SQ → Prop) : Prop := (P (q_thrown u) u)
set_option maxHeartbeats 4000000 in
set_option maxRecDepth 100000 in
theorem kcX6_thrown (l : Launch) (D : va_G) (cB cI : ClassId) (h0 h1 h2 h3 h4 h5 : Nat) (sz : Nat)  (u : SQ) (P : Int32 → SQ → Prop) (hw : wX6_thrown  u P) : Met l yX6_thrown wsX6_thrown ({ frames := 0, cells := 0, slots := 0, locals := 0 } : Room) (va_Pc [.ref h0] (Pcw D (tyA cB cI) (WQ cI h0 h1 h2 h3 h4 h5 u) sz Tru)) (va_Qi P (fun u t => va_P D vwCl (WQ cI h0 h1 h2 h3 h4 h5 u) t.heap) (va_A (WQ cI h0 h1 h2 h3 h4 h5 u) sz)) 0 0 (va_A (WQ cI h0 h1 h2 h3 h4 h5 u) sz) := by
  refine en_ (cc := cX6_thrown) (maxL := 1) (ret := (some .int)) (own := RX6) (lv := [(0, .ref h0)]) (Qf := fun A => va_Qi P (fun u t => va_P D vwCl (WQ cI h0 h1 h2 h3 h4 h5 u) t.heap) A) (by decide) rfl rfl (Nat.le_of_ble_eq_true rfl) rfl ?_
  intro p e s m below meth c A ls S hr hlk hname hsz hP hK hD hA hSub hS hE hl
  have hx := S.1
  have hb := S.2.1
  have hown := S.2.2.2.1
  have hts := S.2.2.2.2
  have i_X6 : ∀ w ∈ u_ws RX6 TX6 29, w ∈ wsX6_thrown := by decide +kernel
  have f_30 := hts (.fieldLink RX6 30 "MachineCoreModel" "thrown" "I") (by decide +kernel)
  unfold wX6_thrown at hw
  obtain ⟨H, eH⟩ : ∃ H, H = s.heap := ⟨_, rfl⟩
  obtain ⟨locs, eL⟩ : ∃ locs : List Loc, locs = [] := ⟨_, rfl⟩
  replace hP : va_P D vwCl (WQ cI h0 h1 h2 h3 h4 h5 u) H := by rw [eH]; exact hP
  replace hS : va_S A s.heap H locs := by rw [eH, eL]; exact hS
  suffices hgo : W p l e ({ frames := 0, cells := 0, slots := 0, locals := 0 } : Room) s m ([.ref h0] : List Value).toArray below meth c H locs 0 0 (MQ below (va_Qi P (fun u t => va_P D vwCl (WQ cI h0 h1 h2 h3 h4 h5 u) t.heap) A) ([.ref h0] : List Value).toArray s 0 0 A) (F0 m 0 ls []) by rw [eH, eL] at hgo; exact hgo
  clear eH eL
  refine lv_aload_n hx hb dX6_thrown_0 rfl (lv_at hl 0 rfl) ?_
  refine va_get (D := D) (ci := 6) (v := .int (q_thrown u)) (C := RX6) (T := TX6) (N := 29) hx hb hts i_X6 hown hK hP 0 rfl rfl 0 (by decide) f_30 (fun _ h9 => h9) rfl dX6_thrown_1 ?_
  exact rt_i (wo := (fun v => WQ cI h0 h1 h2 h3 h4 h5 v)) S hr hlk u hP hS hw dX6_thrown_4
-- X6_load
def wX6_load (a1 : Int32) (u : SQ) (P : Int32 → SQ → Prop) : Prop := (vp_in (a1 >>> ((8 : Int32) &&& 31)) 4096 ∧ ((((q_slots u) (a1 >>> ((8 : Int32) &&& 31)).toNatClampNeg) = (0 : Int32) → (P (0 : Int32) u)) ∧ (¬ ((q_slots u) (a1 >>> ((8 : Int32) &&& 31)).toNatClampNeg) = (0 : Int32) → (vp_in (((256 : Int32) * (((q_slots u) (a1 >>> ((8 : Int32) &&& 31)).toNatClampNeg) - (1 : Int32))) + (a1 &&& (255 : Int32))) 65536 ∧ (P ((q_bytes u) (((256 : Int32) * (((q_slots u) (a1 >>> ((8 : Int32) &&& 31)).toNatClampNeg) - (1 : Int32))) + (a1 &&& (255 : Int32))).toNatClampNeg) u)))))
set_option maxHeartbeats 4000000 in
set_option maxRecDepth 100000 in
theorem kcX6_load (l : Launch) (D : va_G) (cB cI : ClassId) (h0 h1 h2 h3 h4 h5 : Nat) (sz : Nat) (a1 : Int32) (u : SQ) (P : Int32 → SQ → Prop) (hw : wX6_load a1 u P) : Met l yX6_load wsX6_load ({ frames := 0, cells := 0, slots := 0, locals := 0 } : Room) (va_Pc [.ref h0, .int a1] (Pcw D (tyA cB cI) (WQ cI h0 h1 h2 h3 h4 h5 u) sz Tru)) (va_Qi P (fun u t => va_P D vwCl (WQ cI h0 h1 h2 h3 h4 h5 u) t.heap) (va_A (WQ cI h0 h1 h2 h3 h4 h5 u) sz)) 0 0 (va_A (WQ cI h0 h1 h2 h3 h4 h5 u) sz) := by
  refine en_ (cc := cX6_load) (maxL := 3) (ret := (some .int)) (own := RX6) (lv := [(0, .ref h0), (1, .int a1)]) (Qf := fun A => va_Qi P (fun u t => va_P D vwCl (WQ cI h0 h1 h2 h3 h4 h5 u) t.heap) A) (by decide) rfl rfl (Nat.le_of_ble_eq_true rfl) rfl ?_
  intro p e s m below meth c A ls S hr hlk hname hsz hP hK hD hA hSub hS hE hl
  have hx := S.1
  have hb := S.2.1
  have hown := S.2.2.2.1
  have hts := S.2.2.2.2
  have i_X6 : ∀ w ∈ u_ws RX6 TX6 29, w ∈ wsX6_load := by decide +kernel
  have f_16 := hts (.fieldLink RX6 16 "MachineCoreModel" "slots" "[I") (by decide +kernel)
  have f_20 := hts (.fieldLink RX6 20 "MachineCoreModel" "bytes" "[I") (by decide +kernel)
  unfold wX6_load at hw
  obtain ⟨H, eH⟩ : ∃ H, H = s.heap := ⟨_, rfl⟩
  obtain ⟨locs, eL⟩ : ∃ locs : List Loc, locs = [] := ⟨_, rfl⟩
  replace hP : va_P D vwCl (WQ cI h0 h1 h2 h3 h4 h5 u) H := by rw [eH]; exact hP
  replace hS : va_S A s.heap H locs := by rw [eH, eL]; exact hS
  suffices hgo : W p l e ({ frames := 0, cells := 0, slots := 0, locals := 0 } : Room) s m ([.ref h0, .int a1] : List Value).toArray below meth c H locs 0 0 (MQ below (va_Qi P (fun u t => va_P D vwCl (WQ cI h0 h1 h2 h3 h4 h5 u) t.heap) A) ([.ref h0, .int a1] : List Value).toArray s 0 0 A) (F0 m 0 ls []) by rw [eH, eL] at hgo; exact hgo
  clear eH eL
  refine lv_aload_n hx hb dX6_load_0 rfl (lv_at hl 0 rfl) ?_
  refine va_get (D := D) (ci := 6) (v := .ref h3) (C := RX6) (T := TX6) (N := 29) hx hb hts i_X6 hown hK hP 0 rfl rfl 5 (by decide) f_16 (fun _ h9 => h9) rfl dX6_load_1 ?_
  refine lv_iload_n hx hb dX6_load_4 rfl (lv_at hl 1 rfl) ?_
  refine lv_bipush (v := (8 : Int32)) hx hb dX6_load_5 (by decide) ?_
  refine lv_ishr hx hb dX6_load_7 ?_
  refine va_iald hx hb hK hP 3 1 (f := (q_slots u)) rfl rfl hw.1 dX6_load_8 ?_
  replace hw := hw.2
  refine lv_istore_n (lv' := [(2, .int ((q_slots u) (a1 >>> ((8 : Int32) &&& 31)).toNatClampNeg)), (0, .ref h0), (1, .int a1)]) hx hb dX6_load_9 rfl hl (by decide) rfl (fun ls hl => ?_)
  refine lv_iload_n hx hb dX6_load_10 rfl (lv_at hl 0 rfl) ?_
  refine lv_if_ne (tgt := 18) hx hb dX6_load_11 (by decide) (fun c1 => ?_) (fun c1 => ?_)
  · replace hw := hw.2 c1
    refine lv_aload_n hx hb dX6_load_18 rfl (lv_at hl 1 rfl) ?_
    refine va_get (D := D) (ci := 6) (v := .ref h4) (C := RX6) (T := TX6) (N := 29) hx hb hts i_X6 hown hK hP 0 rfl rfl 6 (by decide) f_20 (fun _ h9 => h9) rfl dX6_load_19 ?_
    refine lv_sipush (v := (256 : Int32)) hx hb dX6_load_22 (by decide) ?_
    refine lv_iload_n hx hb dX6_load_25 rfl (lv_at hl 0 rfl) ?_
    refine lv_iconst (v := (1 : Int32)) hx hb dX6_load_26 (by decide) ?_
    refine lv_isub hx hb dX6_load_27 ?_
    refine lv_imul hx hb dX6_load_28 ?_
    refine lv_iload_n hx hb dX6_load_29 rfl (lv_at hl 2 rfl) ?_
    refine lv_sipush (v := (255 : Int32)) hx hb dX6_load_30 (by decide) ?_
    refine lv_iand hx hb dX6_load_33 ?_
    refine lv_iadd hx hb dX6_load_34 ?_
    refine va_iald hx hb hK hP 4 1 (f := (q_bytes u)) rfl rfl hw.1 dX6_load_35 ?_
    replace hw := hw.2
    exact rt_i (wo := (fun v => WQ cI h0 h1 h2 h3 h4 h5 v)) S hr hlk u hP hS hw dX6_load_36
  · replace hw := hw.1 c1
    refine lv_iconst (v := (0 : Int32)) hx hb dX6_load_14 (by decide) ?_
    refine lv_goto (tgt := 36) hx hb dX6_load_15 (by decide) ?_
    exact rt_i (wo := (fun v => WQ cI h0 h1 h2 h3 h4 h5 v)) S hr hlk u hP hS hw dX6_load_36
-- X6_store
def wX6_store_b68 (a1 : Int32) (a2 : Int32) (P : SQ → Prop)  (u : SQ) : Prop := (vp_in (a1 >>> ((8 : Int32) &&& 31)) 4096 ∧ (vp_in (((256 : Int32) * (((q_slots u) (a1 >>> ((8 : Int32) &&& 31)).toNatClampNeg) - (1 : Int32))) + (a1 &&& (255 : Int32))) 65536 ∧ (P (qs_bytes u (upd (q_bytes u) (((256 : Int32) * (((q_slots u) (a1 >>> ((8 : Int32) &&& 31)).toNatClampNeg) - (1 : Int32))) + (a1 &&& (255 : Int32))).toNatClampNeg (a2 &&& (255 : Int32)))))))
def wX6_store_b33 (a1 : Int32) (a2 : Int32) (P : SQ → Prop)  (u : SQ) : Prop := (vp_in (a1 >>> ((8 : Int32) &&& 31)) 4096 ∧ ((((q_slots u) (a1 >>> ((8 : Int32) &&& 31)).toNatClampNeg) = (0 : Int32) → (vp_in (a1 >>> ((8 : Int32) &&& 31)) 4096 ∧ (wX6_store_b68 a1 a2 P (qs_pages (qs_slots u (upd (q_slots u) (a1 >>> ((8 : Int32) &&& 31)).toNatClampNeg ((q_pages u) + (1 : Int32)))) ((q_pages u) + (1 : Int32)))))) ∧ (¬ ((q_slots u) (a1 >>> ((8 : Int32) &&& 31)).toNatClampNeg) = (0 : Int32) → (wX6_store_b68 a1 a2 P u))))
def wX6_store (a1 : Int32) (a2 : Int32) (u : SQ) (P : SQ → Prop) : Prop := (vp_in (a1 >>> ((8 : Int32) &&& 31)) 4096 ∧ ((((q_slots u) (a1 >>> ((8 : Int32) &&& 31)).toNatClampNeg) = (0 : Int32) → (((q_pages u) = (256 : Int32) → (P (qs_lost u ((q_lost u) + (1 : Int32))))) ∧ (¬ (q_pages u) = (256 : Int32) → (wX6_store_b33 a1 a2 P u)))) ∧ (¬ ((q_slots u) (a1 >>> ((8 : Int32) &&& 31)).toNatClampNeg) = (0 : Int32) → (wX6_store_b33 a1 a2 P u))))
set_option maxHeartbeats 4000000 in
set_option maxRecDepth 100000 in
theorem kcX6_store (l : Launch) (D : va_G) (cB cI : ClassId) (h0 h1 h2 h3 h4 h5 : Nat) (sz : Nat) (a1 : Int32) (a2 : Int32) (u : SQ) (P : SQ → Prop) (hw : wX6_store a1 a2 u P) : Met l yX6_store wsX6_store ({ frames := 0, cells := 0, slots := 0, locals := 0 } : Room) (va_Pc [.ref h0, .int a1, .int a2] (Pcw D (tyA cB cI) (WQ cI h0 h1 h2 h3 h4 h5 u) sz Tru)) (va_Qv P (fun u t => va_P D vwCl (WQ cI h0 h1 h2 h3 h4 h5 u) t.heap) (va_A (WQ cI h0 h1 h2 h3 h4 h5 u) sz)) 0 0 (va_A (WQ cI h0 h1 h2 h3 h4 h5 u) sz) := by
  refine en_ (cc := cX6_store) (maxL := 3) (ret := none) (own := RX6) (lv := [(0, .ref h0), (1, .int a1), (2, .int a2)]) (Qf := fun A => va_Qv P (fun u t => va_P D vwCl (WQ cI h0 h1 h2 h3 h4 h5 u) t.heap) A) (by decide) rfl rfl (Nat.le_of_ble_eq_true rfl) rfl ?_
  intro p e s m below meth c A ls S hr hlk hname hsz hP hK hD hA hSub hS hE hl
  have hx := S.1
  have hb := S.2.1
  have hown := S.2.2.2.1
  have hts := S.2.2.2.2
  have i_X6 : ∀ w ∈ u_ws RX6 TX6 29, w ∈ wsX6_store := by decide +kernel
  have f_16 := hts (.fieldLink RX6 16 "MachineCoreModel" "slots" "[I") (by decide +kernel)
  have f_20 := hts (.fieldLink RX6 20 "MachineCoreModel" "bytes" "[I") (by decide +kernel)
  have f_33 := hts (.fieldLink RX6 33 "MachineCoreModel" "pages" "I") (by decide +kernel)
  have f_36 := hts (.fieldLink RX6 36 "MachineCoreModel" "lost" "I") (by decide +kernel)
  have b68 : ∀  (u : SQ) (H : Heap) (locs : List Loc) (ls : Array Slot), va_P D vwCl (WQ cI h0 h1 h2 h3 h4 h5 u) H → va_D A (WQ cI h0 h1 h2 h3 h4 h5 u) → va_S A s.heap H locs → lv_has ls 3 [(0, .ref h0), (1, .int a1), (2, .int a2)] → wX6_store_b68 a1 a2 P u → W p l e ({ frames := 0, cells := 0, slots := 0, locals := 0 } : Room) s m ([.ref h0, .int a1, .int a2] : List Value).toArray below meth c H locs 0 0 (MQ below (va_Qv P (fun u t => va_P D vwCl (WQ cI h0 h1 h2 h3 h4 h5 u) t.heap) A) ([.ref h0, .int a1, .int a2] : List Value).toArray s 0 0 A) (F0 m 68 ls []) := by
    intro u H locs ls hP hD hS hl hw
    unfold wX6_store_b68 at hw
    refine lv_aload_n hx hb dX6_store_68 rfl (lv_at hl 0 rfl) ?_
    refine va_get (D := D) (ci := 6) (v := .ref h4) (C := RX6) (T := TX6) (N := 29) hx hb hts i_X6 hown hK hP 0 rfl rfl 6 (by decide) f_20 (fun _ h9 => h9) rfl dX6_store_69 ?_
    refine lv_sipush (v := (256 : Int32)) hx hb dX6_store_72 (by decide) ?_
    refine lv_aload_n hx hb dX6_store_75 rfl (lv_at hl 0 rfl) ?_
    refine va_get (D := D) (ci := 6) (v := .ref h3) (C := RX6) (T := TX6) (N := 29) hx hb hts i_X6 hown hK hP 0 rfl rfl 5 (by decide) f_16 (fun _ h9 => h9) rfl dX6_store_76 ?_
    refine lv_iload_n hx hb dX6_store_79 rfl (lv_at hl 1 rfl) ?_
    refine lv_bipush (v := (8 : Int32)) hx hb dX6_store_80 (by decide) ?_
    refine lv_ishr hx hb dX6_store_82 ?_
    refine va_iald hx hb hK hP 3 1 (f := (q_slots u)) rfl rfl hw.1 dX6_store_83 ?_
    replace hw := hw.2
    refine lv_iconst (v := (1 : Int32)) hx hb dX6_store_84 (by decide) ?_
    refine lv_isub hx hb dX6_store_85 ?_
    refine lv_imul hx hb dX6_store_86 ?_
    refine lv_iload_n hx hb dX6_store_87 rfl (lv_at hl 1 rfl) ?_
    refine lv_sipush (v := (255 : Int32)) hx hb dX6_store_88 (by decide) ?_
    refine lv_iand hx hb dX6_store_91 ?_
    refine lv_iadd hx hb dX6_store_92 ?_
    refine lv_iload_n hx hb dX6_store_93 rfl (lv_at hl 2 rfl) ?_
    refine lv_sipush (v := (255 : Int32)) hx hb dX6_store_94 (by decide) ?_
    refine lv_iand hx hb dX6_store_97 ?_
    refine va_iast hx hb hK hP hD hS 4 1 (f := (q_bytes u)) rfl rfl hw.1 dX6_store_98 (fun H locs hP hD hS => ?_)
    replace hw := hw.2
    replace hP : va_P D vwCl (WQ cI h0 h1 h2 h3 h4 h5 (qs_bytes u (upd (q_bytes u) (((256 : Int32) * (((q_slots u) (a1 >>> ((8 : Int32) &&& 31)).toNatClampNeg) - (1 : Int32))) + (a1 &&& (255 : Int32))).toNatClampNeg (a2 &&& (255 : Int32))))) H := hP
    replace hD : va_D A (WQ cI h0 h1 h2 h3 h4 h5 (qs_bytes u (upd (q_bytes u) (((256 : Int32) * (((q_slots u) (a1 >>> ((8 : Int32) &&& 31)).toNatClampNeg) - (1 : Int32))) + (a1 &&& (255 : Int32))).toNatClampNeg (a2 &&& (255 : Int32))))) := hD
    exact rt_v (wo := (fun v => WQ cI h0 h1 h2 h3 h4 h5 v)) S hr hlk (qs_bytes u (upd (q_bytes u) (((256 : Int32) * (((q_slots u) (a1 >>> ((8 : Int32) &&& 31)).toNatClampNeg) - (1 : Int32))) + (a1 &&& (255 : Int32))).toNatClampNeg (a2 &&& (255 : Int32)))) hP hS hw dX6_store_99
  have b33 : ∀  (u : SQ) (H : Heap) (locs : List Loc) (ls : Array Slot), va_P D vwCl (WQ cI h0 h1 h2 h3 h4 h5 u) H → va_D A (WQ cI h0 h1 h2 h3 h4 h5 u) → va_S A s.heap H locs → lv_has ls 3 [(0, .ref h0), (1, .int a1), (2, .int a2)] → wX6_store_b33 a1 a2 P u → W p l e ({ frames := 0, cells := 0, slots := 0, locals := 0 } : Room) s m ([.ref h0, .int a1, .int a2] : List Value).toArray below meth c H locs 0 0 (MQ below (va_Qv P (fun u t => va_P D vwCl (WQ cI h0 h1 h2 h3 h4 h5 u) t.heap) A) ([.ref h0, .int a1, .int a2] : List Value).toArray s 0 0 A) (F0 m 33 ls []) := by
    intro u H locs ls hP hD hS hl hw
    unfold wX6_store_b33 at hw
    refine lv_aload_n hx hb dX6_store_33 rfl (lv_at hl 0 rfl) ?_
    refine va_get (D := D) (ci := 6) (v := .ref h3) (C := RX6) (T := TX6) (N := 29) hx hb hts i_X6 hown hK hP 0 rfl rfl 5 (by decide) f_16 (fun _ h9 => h9) rfl dX6_store_34 ?_
    refine lv_iload_n hx hb dX6_store_37 rfl (lv_at hl 1 rfl) ?_
    refine lv_bipush (v := (8 : Int32)) hx hb dX6_store_38 (by decide) ?_
    refine lv_ishr hx hb dX6_store_40 ?_
    refine va_iald hx hb hK hP 3 1 (f := (q_slots u)) rfl rfl hw.1 dX6_store_41 ?_
    replace hw := hw.2
    refine lv_if_ne (tgt := 68) hx hb dX6_store_42 (by decide) (fun c3 => ?_) (fun c3 => ?_)
    · replace hw := hw.2 c3
      exact b68 u H locs ls hP hD hS (lv_sub hl [0, 1, 2] rfl) hw
    · replace hw := hw.1 c3
      refine lv_aload_n hx hb dX6_store_45 rfl (lv_at hl 0 rfl) ?_
      refine lv_dup hx hb dX6_store_46 rfl ?_
      refine va_get (D := D) (ci := 6) (v := .int (q_pages u)) (C := RX6) (T := TX6) (N := 29) hx hb hts i_X6 hown hK hP 0 rfl rfl 7 (by decide) f_33 (fun _ h9 => h9) rfl dX6_store_47 ?_
      refine lv_iconst (v := (1 : Int32)) hx hb dX6_store_50 (by decide) ?_
      refine lv_iadd hx hb dX6_store_51 ?_
      refine va_put (D := D) (ci := 6) (v := .int ((q_pages u) + (1 : Int32))) (ty := .int) (C := RX6) (T := TX6) (N := 29) hx hb hts i_X6 tyX6 tyX6_ok nmX6 hown hK hP hD hS 0 rfl rfl 7 (by decide) f_33 (fun _ h9 => h9) rfl (by decide +kernel) rfl rfl (Nat.le_of_ble_eq_true rfl) dX6_store_52 (fun H locs hP hD hS => ?_)
      replace hP : va_P D vwCl (WQ cI h0 h1 h2 h3 h4 h5 (qs_pages u ((q_pages u) + (1 : Int32)))) H := hP
      replace hD : va_D A (WQ cI h0 h1 h2 h3 h4 h5 (qs_pages u ((q_pages u) + (1 : Int32)))) := hD
      refine lv_aload_n hx hb dX6_store_55 rfl (lv_at hl 0 rfl) ?_
      refine va_get (D := D) (ci := 6) (v := .ref h3) (C := RX6) (T := TX6) (N := 29) hx hb hts i_X6 hown hK hP 0 rfl rfl 5 (by decide) f_16 (fun _ h9 => h9) rfl dX6_store_56 ?_
      refine lv_iload_n hx hb dX6_store_59 rfl (lv_at hl 1 rfl) ?_
      refine lv_bipush (v := (8 : Int32)) hx hb dX6_store_60 (by decide) ?_
      refine lv_ishr hx hb dX6_store_62 ?_
      refine lv_aload_n hx hb dX6_store_63 rfl (lv_at hl 0 rfl) ?_
      refine va_get (D := D) (ci := 6) (v := .int ((q_pages u) + (1 : Int32))) (C := RX6) (T := TX6) (N := 29) hx hb hts i_X6 hown hK hP 0 rfl rfl 7 (by decide) f_33 (fun _ h9 => h9) rfl dX6_store_64 ?_
      refine va_iast hx hb hK hP hD hS 3 1 (f := (q_slots u)) rfl rfl hw.1 dX6_store_67 (fun H locs hP hD hS => ?_)
      replace hw := hw.2
      replace hP : va_P D vwCl (WQ cI h0 h1 h2 h3 h4 h5 (qs_pages (qs_slots u (upd (q_slots u) (a1 >>> ((8 : Int32) &&& 31)).toNatClampNeg ((q_pages u) + (1 : Int32)))) ((q_pages u) + (1 : Int32)))) H := hP
      replace hD : va_D A (WQ cI h0 h1 h2 h3 h4 h5 (qs_pages (qs_slots u (upd (q_slots u) (a1 >>> ((8 : Int32) &&& 31)).toNatClampNeg ((q_pages u) + (1 : Int32)))) ((q_pages u) + (1 : Int32)))) := hD
      exact b68 (qs_pages (qs_slots u (upd (q_slots u) (a1 >>> ((8 : Int32) &&& 31)).toNatClampNeg ((q_pages u) + (1 : Int32)))) ((q_pages u) + (1 : Int32))) H locs ls hP hD hS (lv_sub hl [0, 1, 2] rfl) hw
  unfold wX6_store at hw
  obtain ⟨H, eH⟩ : ∃ H, H = s.heap := ⟨_, rfl⟩
  obtain ⟨locs, eL⟩ : ∃ locs : List Loc, locs = [] := ⟨_, rfl⟩
  replace hP : va_P D vwCl (WQ cI h0 h1 h2 h3 h4 h5 u) H := by rw [eH]; exact hP
  replace hS : va_S A s.heap H locs := by rw [eH, eL]; exact hS
  suffices hgo : W p l e ({ frames := 0, cells := 0, slots := 0, locals := 0 } : Room) s m ([.ref h0, .int a1, .int a2] : List Value).toArray below meth c H locs 0 0 (MQ below (va_Qv P (fun u t => va_P D vwCl (WQ cI h0 h1 h2 h3 h4 h5 u) t.heap) A) ([.ref h0, .int a1, .int a2] : List Value).toArray s 0 0 A) (F0 m 0 ls []) by rw [eH, eL] at hgo; exact hgo
  clear eH eL
  refine lv_aload_n hx hb dX6_store_0 rfl (lv_at hl 0 rfl) ?_
  refine va_get (D := D) (ci := 6) (v := .ref h3) (C := RX6) (T := TX6) (N := 29) hx hb hts i_X6 hown hK hP 0 rfl rfl 5 (by decide) f_16 (fun _ h9 => h9) rfl dX6_store_1 ?_
  refine lv_iload_n hx hb dX6_store_4 rfl (lv_at hl 1 rfl) ?_
  refine lv_bipush (v := (8 : Int32)) hx hb dX6_store_5 (by decide) ?_
  refine lv_ishr hx hb dX6_store_7 ?_
  refine va_iald hx hb hK hP 3 1 (f := (q_slots u)) rfl rfl hw.1 dX6_store_8 ?_
  replace hw := hw.2
  refine lv_if_ne (tgt := 33) hx hb dX6_store_9 (by decide) (fun c1 => ?_) (fun c1 => ?_)
  · replace hw := hw.2 c1
    exact b33 u H locs ls hP hD hS (lv_sub hl [0, 1, 2] rfl) hw
  · replace hw := hw.1 c1
    refine lv_aload_n hx hb dX6_store_12 rfl (lv_at hl 0 rfl) ?_
    refine va_get (D := D) (ci := 6) (v := .int (q_pages u)) (C := RX6) (T := TX6) (N := 29) hx hb hts i_X6 hown hK hP 0 rfl rfl 7 (by decide) f_33 (fun _ h9 => h9) rfl dX6_store_13 ?_
    refine lv_sipush (v := (256 : Int32)) hx hb dX6_store_16 (by decide) ?_
    refine lv_icmp_ne (tgt := 33) hx hb dX6_store_19 (by decide) (fun c2 => ?_) (fun c2 => ?_)
    · replace hw := hw.2 c2
      exact b33 u H locs ls hP hD hS (lv_sub hl [0, 1, 2] rfl) hw
    · replace hw := hw.1 c2
      refine lv_aload_n hx hb dX6_store_22 rfl (lv_at hl 0 rfl) ?_
      refine lv_dup hx hb dX6_store_23 rfl ?_
      refine va_get (D := D) (ci := 6) (v := .int (q_lost u)) (C := RX6) (T := TX6) (N := 29) hx hb hts i_X6 hown hK hP 0 rfl rfl 8 (by decide) f_36 (fun _ h9 => h9) rfl dX6_store_24 ?_
      refine lv_iconst (v := (1 : Int32)) hx hb dX6_store_27 (by decide) ?_
      refine lv_iadd hx hb dX6_store_28 ?_
      refine va_put (D := D) (ci := 6) (v := .int ((q_lost u) + (1 : Int32))) (ty := .int) (C := RX6) (T := TX6) (N := 29) hx hb hts i_X6 tyX6 tyX6_ok nmX6 hown hK hP hD hS 0 rfl rfl 8 (by decide) f_36 (fun _ h9 => h9) rfl (by decide +kernel) rfl rfl (Nat.le_of_ble_eq_true rfl) dX6_store_29 (fun H locs hP hD hS => ?_)
      replace hP : va_P D vwCl (WQ cI h0 h1 h2 h3 h4 h5 (qs_lost u ((q_lost u) + (1 : Int32)))) H := hP
      replace hD : va_D A (WQ cI h0 h1 h2 h3 h4 h5 (qs_lost u ((q_lost u) + (1 : Int32)))) := hD
      exact rt_v (wo := (fun v => WQ cI h0 h1 h2 h3 h4 h5 v)) S hr hlk (qs_lost u ((q_lost u) + (1 : Int32))) hP hS hw dX6_store_32
-- X6_placeOf
def wX6_placeOf (a0 : Int32) (a1 : Int32) (u : Unit) (P : Int32 → Unit → Prop) : Prop := (P ((((16 : Int32) * a0) + (a1 &&& (65535 : Int32))) &&& (1048575 : Int32)) u)
set_option maxHeartbeats 4000000 in
set_option maxRecDepth 100000 in
theorem kcX6_placeOf (l : Launch) (D : va_G) (cB cI : ClassId) (sz : Nat) (a0 : Int32) (a1 : Int32) (u : Unit) (P : Int32 → Unit → Prop) (hw : wX6_placeOf a0 a1 u P) : Met l yX6_placeOf wsX6_placeOf ({ frames := 0, cells := 0, slots := 0, locals := 0 } : Room) (va_Pc [.int a0, .int a1] (Pcw D (tyA cB cI) [] sz Tru)) (va_Qi P (fun u t => va_P D vwCl [] t.heap) (va_A [] sz)) 0 0 (va_A [] sz) := by
  refine en_ (cc := cX6_placeOf) (maxL := 2) (ret := (some .int)) (own := RX6) (lv := [(0, .int a0), (1, .int a1)]) (Qf := fun A => va_Qi P (fun u t => va_P D vwCl [] t.heap) A) (by decide) rfl rfl (Nat.le_of_ble_eq_true rfl) rfl ?_
  intro p e s m below meth c A ls S hr hlk hname hsz hP hK hD hA hSub hS hE hl
  have hx := S.1
  have hb := S.2.1
  have hown := S.2.2.2.1
  have hts := S.2.2.2.2
  have k_39 := hts (.constant RX6 39 (65535)) (by decide +kernel)
  have k_40 := hts (.constant RX6 40 (1048575)) (by decide +kernel)
  unfold wX6_placeOf at hw
  obtain ⟨H, eH⟩ : ∃ H, H = s.heap := ⟨_, rfl⟩
  obtain ⟨locs, eL⟩ : ∃ locs : List Loc, locs = [] := ⟨_, rfl⟩
  replace hP : va_P D vwCl [] H := by rw [eH]; exact hP
  replace hS : va_S A s.heap H locs := by rw [eH, eL]; exact hS
  suffices hgo : W p l e ({ frames := 0, cells := 0, slots := 0, locals := 0 } : Room) s m ([.int a0, .int a1] : List Value).toArray below meth c H locs 0 0 (MQ below (va_Qi P (fun u t => va_P D vwCl [] t.heap) A) ([.int a0, .int a1] : List Value).toArray s 0 0 A) (F0 m 0 ls []) by rw [eH, eL] at hgo; exact hgo
  clear eH eL
  refine lv_bipush (v := (16 : Int32)) hx hb dX6_placeOf_0 (by decide) ?_
  refine lv_iload_n hx hb dX6_placeOf_2 rfl (lv_at hl 0 rfl) ?_
  refine lv_imul hx hb dX6_placeOf_3 ?_
  refine lv_iload_n hx hb dX6_placeOf_4 rfl (lv_at hl 1 rfl) ?_
  refine lv_ldc (v := (65535 : Int32)) hx hb hown k_39 dX6_placeOf_5 ?_
  refine lv_iand hx hb dX6_placeOf_7 ?_
  refine lv_iadd hx hb dX6_placeOf_8 ?_
  refine lv_ldc (v := (1048575 : Int32)) hx hb hown k_40 dX6_placeOf_9 ?_
  refine lv_iand hx hb dX6_placeOf_11 ?_
  exact rt_i (wo := (fun _ => [])) S hr hlk u hP hS hw dX6_placeOf_12
-- X6_get
def wX6_get (a1 : Int32) (a2 : Int32) (a3 : Int32) (u : SQ) (P : Int32 → SQ → Prop) : Prop := (wX6_placeOf a1 a2 () (fun r2 u1 => (wX6_load r2 u (fun r4 u3 => ((a3 = (0 : Int32) → (P r4 u3)) ∧ (¬ a3 = (0 : Int32) → (wX6_placeOf a1 (a2 + (1 : Int32)) () (fun r7 u6 => (wX6_load r7 u3 (fun r9 u8 => (P (r4 ||| (r9 <<< ((8 : Int32) &&& 31))) u8)))))))))))
set_option maxHeartbeats 4000000 in
set_option maxRecDepth 100000 in
theorem kcX6_get (l : Launch) (D : va_G) (cB cI : ClassId) (h0 h1 h2 h3 h4 h5 : Nat) (sz : Nat) (a1 : Int32) (a2 : Int32) (a3 : Int32) (u : SQ) (P : Int32 → SQ → Prop) (hw : wX6_get a1 a2 a3 u P) : Met l yX6_get wsX6_get ({ frames := 1, cells := 0, slots := 0, locals := 22 } : Room) (va_Pc [.ref h0, .int a1, .int a2, .int a3] (Pcw D (tyA cB cI) (WQ cI h0 h1 h2 h3 h4 h5 u) sz Tru)) (va_Qi P (fun u t => va_P D vwCl (WQ cI h0 h1 h2 h3 h4 h5 u) t.heap) (va_A (WQ cI h0 h1 h2 h3 h4 h5 u) sz)) 0 0 (va_A (WQ cI h0 h1 h2 h3 h4 h5 u) sz) := by
  refine en_ (cc := cX6_get) (maxL := 5) (ret := (some .int)) (own := RX6) (lv := [(0, .ref h0), (1, .int a1), (2, .int a2), (3, .int a3)]) (Qf := fun A => va_Qi P (fun u t => va_P D vwCl (WQ cI h0 h1 h2 h3 h4 h5 u) t.heap) A) (by decide) rfl rfl (Nat.le_of_ble_eq_true rfl) rfl ?_
  intro p e s m below meth c A ls S hr hlk hname hsz hP hK hD hA hSub hS hE hl
  have hx := S.1
  have hb := S.2.1
  have hown := S.2.2.2.1
  have hts := S.2.2.2.2
  unfold wX6_get at hw
  obtain ⟨H, eH⟩ : ∃ H, H = s.heap := ⟨_, rfl⟩
  obtain ⟨locs, eL⟩ : ∃ locs : List Loc, locs = [] := ⟨_, rfl⟩
  replace hP : va_P D vwCl (WQ cI h0 h1 h2 h3 h4 h5 u) H := by rw [eH]; exact hP
  replace hS : va_S A s.heap H locs := by rw [eH, eL]; exact hS
  suffices hgo : W p l e ({ frames := 1, cells := 0, slots := 0, locals := 22 } : Room) s m ([.ref h0, .int a1, .int a2, .int a3] : List Value).toArray below meth c H locs 0 0 (MQ below (va_Qi P (fun u t => va_P D vwCl (WQ cI h0 h1 h2 h3 h4 h5 u) t.heap) A) ([.ref h0, .int a1, .int a2, .int a3] : List Value).toArray s 0 0 A) (F0 m 0 ls []) by rw [eH, eL] at hgo; exact hgo
  clear eH eL
  refine lv_aload_n hx hb dX6_get_0 rfl (lv_at hl 0 rfl) ?_
  refine lv_iload_n hx hb dX6_get_1 rfl (lv_at hl 1 rfl) ?_
  refine lv_iload_n hx hb dX6_get_2 rfl (lv_at hl 2 rfl) ?_
  refine cl_Si (As := [.int a1, .int a2]) (rest := [.ref h0]) (st := [.int a2, .int a1, .ref h0]) S hK hA hP hD hS Fr_nil (kcX6_placeOf l D cB cI  H.size a1 a2 () _ hw) (va_cwS 2 hts gX6_get_X6_placeOf rfl rfl rfl (by decide +kernel) ⟨Nat.le_of_ble_eq_true rfl, Nat.le_of_ble_eq_true rfl⟩) tru_h tru_b rfl rfl hl.1 (Nat.le_of_ble_eq_true rfl) dX6_get_3 ⟨Nat.zero_le _, Nat.zero_le _⟩ (fun r2 u1 H locs hP hD hS hw => ?_)
  replace hP : va_P D vwCl (WQ cI h0 h1 h2 h3 h4 h5 u) H := hP
  replace hD : va_D A (WQ cI h0 h1 h2 h3 h4 h5 u) := hD
  refine cl_Vi (As := [.int r2]) (rest := []) (st := [.int r2, .ref h0]) S hK hA hP hD hS (fr_Q u) (kcX6_load l D cB cI h0 h1 h2 h3 h4 h5 H.size r2 u _ hw) (cwV 1 hts gX6_get_X6_load rfl rfl rfl (by decide +kernel) ⟨Nat.le_of_ble_eq_true rfl, Nat.le_of_ble_eq_true rfl⟩) tru_h tru_b 0 rfl rfl rfl rfl rfl hl.1 (Nat.le_of_ble_eq_true rfl) dX6_get_6 ⟨Nat.zero_le _, Nat.zero_le _⟩ (fun r4 u3 H locs hP hD hS hw => ?_)
  replace hP : va_P D vwCl (WQ cI h0 h1 h2 h3 h4 h5 u3) H := hP
  replace hD : va_D A (WQ cI h0 h1 h2 h3 h4 h5 u3) := hD
  refine lv_istore (lv' := [(4, .int r4), (0, .ref h0), (1, .int a1), (2, .int a2), (3, .int a3)]) hx hb dX6_get_9 hl (by decide) rfl (fun ls hl => ?_)
  refine lv_iload_n hx hb dX6_get_11 rfl (lv_at hl 4 rfl) ?_
  refine lv_if_eq (tgt := 35) hx hb dX6_get_12 (by decide) (fun c5 => ?_) (fun c5 => ?_)
  · replace hw := hw.1 c5
    refine lv_iload hx hb dX6_get_35 (lv_at hl 0 rfl) ?_
    exact rt_i (wo := (fun v => WQ cI h0 h1 h2 h3 h4 h5 v)) S hr hlk u3 hP hS hw dX6_get_37
  · replace hw := hw.2 c5
    refine lv_iload hx hb dX6_get_15 (lv_at hl 0 rfl) ?_
    refine lv_aload_n hx hb dX6_get_17 rfl (lv_at hl 1 rfl) ?_
    refine lv_iload_n hx hb dX6_get_18 rfl (lv_at hl 2 rfl) ?_
    refine lv_iload_n hx hb dX6_get_19 rfl (lv_at hl 3 rfl) ?_
    refine lv_iconst (v := (1 : Int32)) hx hb dX6_get_20 (by decide) ?_
    refine lv_iadd hx hb dX6_get_21 ?_
    refine cl_Si (As := [.int a1, .int (a2 + (1 : Int32))]) (rest := [.ref h0, .int r4]) (st := [.int (a2 + (1 : Int32)), .int a1, .ref h0, .int r4]) S hK hA hP hD hS Fr_nil (kcX6_placeOf l D cB cI  H.size a1 (a2 + (1 : Int32)) () _ hw) (va_cwS 2 hts gX6_get_X6_placeOf rfl rfl rfl (by decide +kernel) ⟨Nat.le_of_ble_eq_true rfl, Nat.le_of_ble_eq_true rfl⟩) tru_h tru_b rfl rfl hl.1 (Nat.le_of_ble_eq_true rfl) dX6_get_22 ⟨Nat.zero_le _, Nat.zero_le _⟩ (fun r7 u6 H locs hP hD hS hw => ?_)
    replace hP : va_P D vwCl (WQ cI h0 h1 h2 h3 h4 h5 u3) H := hP
    replace hD : va_D A (WQ cI h0 h1 h2 h3 h4 h5 u3) := hD
    refine cl_Vi (As := [.int r7]) (rest := [.int r4]) (st := [.int r7, .ref h0, .int r4]) S hK hA hP hD hS (fr_Q u3) (kcX6_load l D cB cI h0 h1 h2 h3 h4 h5 H.size r7 u3 _ hw) (cwV 1 hts gX6_get_X6_load rfl rfl rfl (by decide +kernel) ⟨Nat.le_of_ble_eq_true rfl, Nat.le_of_ble_eq_true rfl⟩) tru_h tru_b 0 rfl rfl rfl rfl rfl hl.1 (Nat.le_of_ble_eq_true rfl) dX6_get_25 ⟨Nat.zero_le _, Nat.zero_le _⟩ (fun r9 u8 H locs hP hD hS hw => ?_)
    replace hP : va_P D vwCl (WQ cI h0 h1 h2 h3 h4 h5 u8) H := hP
    replace hD : va_D A (WQ cI h0 h1 h2 h3 h4 h5 u8) := hD
    refine lv_bipush (v := (8 : Int32)) hx hb dX6_get_28 (by decide) ?_
    refine lv_ishl hx hb dX6_get_30 ?_
    refine lv_ior hx hb dX6_get_31 ?_
    refine lv_goto (tgt := 37) hx hb dX6_get_32 (by decide) ?_
    exact rt_i (wo := (fun v => WQ cI h0 h1 h2 h3 h4 h5 v)) S hr hlk u8 hP hS hw dX6_get_37
-- X6_put
def wX6_put (a1 : Int32) (a2 : Int32) (a3 : Int32) (a4 : Int32) (u : SQ) (P : SQ → Prop) : Prop := (wX6_placeOf a1 a2 () (fun r2 u1 => (wX6_store r2 a4 u (fun u3 => ((a3 = (0 : Int32) → (P u3)) ∧ (¬ a3 = (0 : Int32) → (wX6_placeOf a1 (a2 + (1 : Int32)) () (fun r7 u6 => (wX6_store r7 (a4 >>> ((8 : Int32) &&& 31)) u3 (fun u8 => (P u8)))))))))))
set_option maxHeartbeats 4000000 in
set_option maxRecDepth 100000 in
theorem kcX6_put (l : Launch) (D : va_G) (cB cI : ClassId) (h0 h1 h2 h3 h4 h5 : Nat) (sz : Nat) (a1 : Int32) (a2 : Int32) (a3 : Int32) (a4 : Int32) (u : SQ) (P : SQ → Prop) (hw : wX6_put a1 a2 a3 a4 u P) : Met l yX6_put wsX6_put ({ frames := 1, cells := 0, slots := 0, locals := 22 } : Room) (va_Pc [.ref h0, .int a1, .int a2, .int a3, .int a4] (Pcw D (tyA cB cI) (WQ cI h0 h1 h2 h3 h4 h5 u) sz Tru)) (va_Qv P (fun u t => va_P D vwCl (WQ cI h0 h1 h2 h3 h4 h5 u) t.heap) (va_A (WQ cI h0 h1 h2 h3 h4 h5 u) sz)) 0 0 (va_A (WQ cI h0 h1 h2 h3 h4 h5 u) sz) := by
  refine en_ (cc := cX6_put) (maxL := 5) (ret := none) (own := RX6) (lv := [(0, .ref h0), (1, .int a1), (2, .int a2), (3, .int a3), (4, .int a4)]) (Qf := fun A => va_Qv P (fun u t => va_P D vwCl (WQ cI h0 h1 h2 h3 h4 h5 u) t.heap) A) (by decide) rfl rfl (Nat.le_of_ble_eq_true rfl) rfl ?_
  intro p e s m below meth c A ls S hr hlk hname hsz hP hK hD hA hSub hS hE hl
  have hx := S.1
  have hb := S.2.1
  have hown := S.2.2.2.1
  have hts := S.2.2.2.2
  unfold wX6_put at hw
  obtain ⟨H, eH⟩ : ∃ H, H = s.heap := ⟨_, rfl⟩
  obtain ⟨locs, eL⟩ : ∃ locs : List Loc, locs = [] := ⟨_, rfl⟩
  replace hP : va_P D vwCl (WQ cI h0 h1 h2 h3 h4 h5 u) H := by rw [eH]; exact hP
  replace hS : va_S A s.heap H locs := by rw [eH, eL]; exact hS
  suffices hgo : W p l e ({ frames := 1, cells := 0, slots := 0, locals := 22 } : Room) s m ([.ref h0, .int a1, .int a2, .int a3, .int a4] : List Value).toArray below meth c H locs 0 0 (MQ below (va_Qv P (fun u t => va_P D vwCl (WQ cI h0 h1 h2 h3 h4 h5 u) t.heap) A) ([.ref h0, .int a1, .int a2, .int a3, .int a4] : List Value).toArray s 0 0 A) (F0 m 0 ls []) by rw [eH, eL] at hgo; exact hgo
  clear eH eL
  refine lv_aload_n hx hb dX6_put_0 rfl (lv_at hl 0 rfl) ?_
  refine lv_iload_n hx hb dX6_put_1 rfl (lv_at hl 1 rfl) ?_
  refine lv_iload_n hx hb dX6_put_2 rfl (lv_at hl 2 rfl) ?_
  refine cl_Si (As := [.int a1, .int a2]) (rest := [.ref h0]) (st := [.int a2, .int a1, .ref h0]) S hK hA hP hD hS Fr_nil (kcX6_placeOf l D cB cI  H.size a1 a2 () _ hw) (va_cwS 2 hts gX6_put_X6_placeOf rfl rfl rfl (by decide +kernel) ⟨Nat.le_of_ble_eq_true rfl, Nat.le_of_ble_eq_true rfl⟩) tru_h tru_b rfl rfl hl.1 (Nat.le_of_ble_eq_true rfl) dX6_put_3 ⟨Nat.zero_le _, Nat.zero_le _⟩ (fun r2 u1 H locs hP hD hS hw => ?_)
  replace hP : va_P D vwCl (WQ cI h0 h1 h2 h3 h4 h5 u) H := hP
  replace hD : va_D A (WQ cI h0 h1 h2 h3 h4 h5 u) := hD
  refine lv_iload hx hb dX6_put_6 (lv_at hl 4 rfl) ?_
  refine cl_Vv (As := [.int r2, .int a4]) (rest := []) (st := [.int a4, .int r2, .ref h0]) S hK hA hP hD hS (fr_Q u) (kcX6_store l D cB cI h0 h1 h2 h3 h4 h5 H.size r2 a4 u _ hw) (cwV 2 hts gX6_put_X6_store rfl rfl rfl (by decide +kernel) ⟨Nat.le_of_ble_eq_true rfl, Nat.le_of_ble_eq_true rfl⟩) tru_h tru_b 0 rfl rfl rfl rfl rfl hl.1 (Nat.le_of_ble_eq_true rfl) dX6_put_8 ⟨Nat.zero_le _, Nat.zero_le _⟩ (fun u3 H locs hP hD hS hw => ?_)
  replace hP : va_P D vwCl (WQ cI h0 h1 h2 h3 h4 h5 u3) H := hP
  replace hD : va_D A (WQ cI h0 h1 h2 h3 h4 h5 u3) := hD
  refine lv_iload_n hx hb dX6_put_11 rfl (lv_at hl 3 rfl) ?_
  refine lv_if_eq (tgt := 31) hx hb dX6_put_12 (by decide) (fun c5 => ?_) (fun c5 => ?_)
  · replace hw := hw.1 c5
    exact rt_v (wo := (fun v => WQ cI h0 h1 h2 h3 h4 h5 v)) S hr hlk u3 hP hS hw dX6_put_31
  · replace hw := hw.2 c5
    refine lv_aload_n hx hb dX6_put_15 rfl (lv_at hl 0 rfl) ?_
    refine lv_iload_n hx hb dX6_put_16 rfl (lv_at hl 1 rfl) ?_
    refine lv_iload_n hx hb dX6_put_17 rfl (lv_at hl 2 rfl) ?_
    refine lv_iconst (v := (1 : Int32)) hx hb dX6_put_18 (by decide) ?_
    refine lv_iadd hx hb dX6_put_19 ?_
    refine cl_Si (As := [.int a1, .int (a2 + (1 : Int32))]) (rest := [.ref h0]) (st := [.int (a2 + (1 : Int32)), .int a1, .ref h0]) S hK hA hP hD hS Fr_nil (kcX6_placeOf l D cB cI  H.size a1 (a2 + (1 : Int32)) () _ hw) (va_cwS 2 hts gX6_put_X6_placeOf rfl rfl rfl (by decide +kernel) ⟨Nat.le_of_ble_eq_true rfl, Nat.le_of_ble_eq_true rfl⟩) tru_h tru_b rfl rfl hl.1 (Nat.le_of_ble_eq_true rfl) dX6_put_20 ⟨Nat.zero_le _, Nat.zero_le _⟩ (fun r7 u6 H locs hP hD hS hw => ?_)
    replace hP : va_P D vwCl (WQ cI h0 h1 h2 h3 h4 h5 u3) H := hP
    replace hD : va_D A (WQ cI h0 h1 h2 h3 h4 h5 u3) := hD
    refine lv_iload hx hb dX6_put_23 (lv_at hl 4 rfl) ?_
    refine lv_bipush (v := (8 : Int32)) hx hb dX6_put_25 (by decide) ?_
    refine lv_ishr hx hb dX6_put_27 ?_
    refine cl_Vv (As := [.int r7, .int (a4 >>> ((8 : Int32) &&& 31))]) (rest := []) (st := [.int (a4 >>> ((8 : Int32) &&& 31)), .int r7, .ref h0]) S hK hA hP hD hS (fr_Q u3) (kcX6_store l D cB cI h0 h1 h2 h3 h4 h5 H.size r7 (a4 >>> ((8 : Int32) &&& 31)) u3 _ hw) (cwV 2 hts gX6_put_X6_store rfl rfl rfl (by decide +kernel) ⟨Nat.le_of_ble_eq_true rfl, Nat.le_of_ble_eq_true rfl⟩) tru_h tru_b 0 rfl rfl rfl rfl rfl hl.1 (Nat.le_of_ble_eq_true rfl) dX6_put_28 ⟨Nat.zero_le _, Nat.zero_le _⟩ (fun u8 H locs hP hD hS hw => ?_)
    replace hP : va_P D vwCl (WQ cI h0 h1 h2 h3 h4 h5 u8) H := hP
    replace hD : va_D A (WQ cI h0 h1 h2 h3 h4 h5 u8) := hD
    exact rt_v (wo := (fun v => WQ cI h0 h1 h2 h3 h4 h5 v)) S hr hlk u8 hP hS hw dX6_put_31
-- X6_register
def wX6_register (a1 : Int32) (a2 : Int32) (u : SQ) (P : Int32 → SQ → Prop) : Prop := ((a2 = (0 : Int32) → (((4 : Int32) ≤ a1 → (vp_in (a1 - (4 : Int32)) 8 ∧ (P (((q_registers u) (a1 - (4 : Int32)).toNatClampNeg) >>> ((8 : Int32) &&& 31)) u))) ∧ (¬ (4 : Int32) ≤ a1 → (vp_in a1 8 ∧ (P (((q_registers u) a1.toNatClampNeg) &&& (255 : Int32)) u))))) ∧ (¬ a2 = (0 : Int32) → (vp_in a1 8 ∧ (P ((q_registers u) a1.toNatClampNeg) u))))
set_option maxHeartbeats 4000000 in
set_option maxRecDepth 100000 in
theorem kcX6_register (l : Launch) (D : va_G) (cB cI : ClassId) (h0 h1 h2 h3 h4 h5 : Nat) (sz : Nat) (a1 : Int32) (a2 : Int32) (u : SQ) (P : Int32 → SQ → Prop) (hw : wX6_register a1 a2 u P) : Met l yX6_register wsX6_register ({ frames := 0, cells := 0, slots := 0, locals := 0 } : Room) (va_Pc [.ref h0, .int a1, .int a2] (Pcw D (tyA cB cI) (WQ cI h0 h1 h2 h3 h4 h5 u) sz Tru)) (va_Qi P (fun u t => va_P D vwCl (WQ cI h0 h1 h2 h3 h4 h5 u) t.heap) (va_A (WQ cI h0 h1 h2 h3 h4 h5 u) sz)) 0 0 (va_A (WQ cI h0 h1 h2 h3 h4 h5 u) sz) := by
  refine en_ (cc := cX6_register) (maxL := 3) (ret := (some .int)) (own := RX6) (lv := [(0, .ref h0), (1, .int a1), (2, .int a2)]) (Qf := fun A => va_Qi P (fun u t => va_P D vwCl (WQ cI h0 h1 h2 h3 h4 h5 u) t.heap) A) (by decide) rfl rfl (Nat.le_of_ble_eq_true rfl) rfl ?_
  intro p e s m below meth c A ls S hr hlk hname hsz hP hK hD hA hSub hS hE hl
  have hx := S.1
  have hb := S.2.1
  have hown := S.2.2.2.1
  have hts := S.2.2.2.2
  have i_X6 : ∀ w ∈ u_ws RX6 TX6 29, w ∈ wsX6_register := by decide +kernel
  have f_7 := hts (.fieldLink RX6 7 "MachineCoreModel" "registers" "[I") (by decide +kernel)
  unfold wX6_register at hw
  obtain ⟨H, eH⟩ : ∃ H, H = s.heap := ⟨_, rfl⟩
  obtain ⟨locs, eL⟩ : ∃ locs : List Loc, locs = [] := ⟨_, rfl⟩
  replace hP : va_P D vwCl (WQ cI h0 h1 h2 h3 h4 h5 u) H := by rw [eH]; exact hP
  replace hS : va_S A s.heap H locs := by rw [eH, eL]; exact hS
  suffices hgo : W p l e ({ frames := 0, cells := 0, slots := 0, locals := 0 } : Room) s m ([.ref h0, .int a1, .int a2] : List Value).toArray below meth c H locs 0 0 (MQ below (va_Qi P (fun u t => va_P D vwCl (WQ cI h0 h1 h2 h3 h4 h5 u) t.heap) A) ([.ref h0, .int a1, .int a2] : List Value).toArray s 0 0 A) (F0 m 0 ls []) by rw [eH, eL] at hgo; exact hgo
  clear eH eL
  refine lv_iload_n hx hb dX6_register_0 rfl (lv_at hl 2 rfl) ?_
  refine lv_if_eq (tgt := 11) hx hb dX6_register_1 (by decide) (fun c1 => ?_) (fun c1 => ?_)
  · replace hw := hw.1 c1
    refine lv_iload_n hx hb dX6_register_11 rfl (lv_at hl 1 rfl) ?_
    refine lv_iconst (v := (4 : Int32)) hx hb dX6_register_12 (by decide) ?_
    refine lv_icmp_ge (tgt := 29) hx hb dX6_register_13 (by decide) (fun c2 => ?_) (fun c2 => ?_)
    · replace hw := hw.1 c2
      refine lv_aload_n hx hb dX6_register_29 rfl (lv_at hl 0 rfl) ?_
      refine va_get (D := D) (ci := 6) (v := .ref h1) (C := RX6) (T := TX6) (N := 29) hx hb hts i_X6 hown hK hP 0 rfl rfl 1 (by decide) f_7 (fun _ h9 => h9) rfl dX6_register_30 ?_
      refine lv_iload_n hx hb dX6_register_33 rfl (lv_at hl 1 rfl) ?_
      refine lv_iconst (v := (4 : Int32)) hx hb dX6_register_34 (by decide) ?_
      refine lv_isub hx hb dX6_register_35 ?_
      refine va_iald hx hb hK hP 1 1 (f := (q_registers u)) rfl rfl hw.1 dX6_register_36 ?_
      replace hw := hw.2
      refine lv_bipush (v := (8 : Int32)) hx hb dX6_register_37 (by decide) ?_
      refine lv_ishr hx hb dX6_register_39 ?_
      exact rt_i (wo := (fun v => WQ cI h0 h1 h2 h3 h4 h5 v)) S hr hlk u hP hS hw dX6_register_40
    · replace hw := hw.2 c2
      refine lv_aload_n hx hb dX6_register_16 rfl (lv_at hl 0 rfl) ?_
      refine va_get (D := D) (ci := 6) (v := .ref h1) (C := RX6) (T := TX6) (N := 29) hx hb hts i_X6 hown hK hP 0 rfl rfl 1 (by decide) f_7 (fun _ h9 => h9) rfl dX6_register_17 ?_
      refine lv_iload_n hx hb dX6_register_20 rfl (lv_at hl 1 rfl) ?_
      refine va_iald hx hb hK hP 1 1 (f := (q_registers u)) rfl rfl hw.1 dX6_register_21 ?_
      replace hw := hw.2
      refine lv_sipush (v := (255 : Int32)) hx hb dX6_register_22 (by decide) ?_
      refine lv_iand hx hb dX6_register_25 ?_
      refine lv_goto (tgt := 40) hx hb dX6_register_26 (by decide) ?_
      exact rt_i (wo := (fun v => WQ cI h0 h1 h2 h3 h4 h5 v)) S hr hlk u hP hS hw dX6_register_40
  · replace hw := hw.2 c1
    refine lv_aload_n hx hb dX6_register_4 rfl (lv_at hl 0 rfl) ?_
    refine va_get (D := D) (ci := 6) (v := .ref h1) (C := RX6) (T := TX6) (N := 29) hx hb hts i_X6 hown hK hP 0 rfl rfl 1 (by decide) f_7 (fun _ h9 => h9) rfl dX6_register_5 ?_
    refine lv_iload_n hx hb dX6_register_8 rfl (lv_at hl 1 rfl) ?_
    refine va_iald hx hb hK hP 1 1 (f := (q_registers u)) rfl rfl hw.1 dX6_register_9 ?_
    replace hw := hw.2
    exact rt_i (wo := (fun v => WQ cI h0 h1 h2 h3 h4 h5 v)) S hr hlk u hP hS hw dX6_register_10
-- X6_setRegister
def wX6_setRegister (a1 : Int32) (a2 : Int32) (a3 : Int32) (u : SQ) (P : SQ → Prop) : Prop := ((a2 = (0 : Int32) → (((4 : Int32) ≤ a1 → (vp_in (a1 - (4 : Int32)) 8 ∧ (vp_in (a1 - (4 : Int32)) 8 ∧ (P (qs_registers u (upd (q_registers u) (a1 - (4 : Int32)).toNatClampNeg ((((q_registers u) (a1 - (4 : Int32)).toNatClampNeg) &&& (255 : Int32)) ||| ((a3 &&& (255 : Int32)) <<< ((8 : Int32) &&& 31))))))))) ∧ (¬ (4 : Int32) ≤ a1 → (vp_in a1 8 ∧ (vp_in a1 8 ∧ (P (qs_registers u (upd (q_registers u) a1.toNatClampNeg ((((q_registers u) a1.toNatClampNeg) &&& (65280 : Int32)) ||| (a3 &&& (255 : Int32))))))))))) ∧ (¬ a2 = (0 : Int32) → (vp_in a1 8 ∧ (P (qs_registers u (upd (q_registers u) a1.toNatClampNeg (a3 &&& (65535 : Int32))))))))
set_option maxHeartbeats 4000000 in
set_option maxRecDepth 100000 in
theorem kcX6_setRegister (l : Launch) (D : va_G) (cB cI : ClassId) (h0 h1 h2 h3 h4 h5 : Nat) (sz : Nat) (a1 : Int32) (a2 : Int32) (a3 : Int32) (u : SQ) (P : SQ → Prop) (hw : wX6_setRegister a1 a2 a3 u P) : Met l yX6_setRegister wsX6_setRegister ({ frames := 0, cells := 0, slots := 0, locals := 0 } : Room) (va_Pc [.ref h0, .int a1, .int a2, .int a3] (Pcw D (tyA cB cI) (WQ cI h0 h1 h2 h3 h4 h5 u) sz Tru)) (va_Qv P (fun u t => va_P D vwCl (WQ cI h0 h1 h2 h3 h4 h5 u) t.heap) (va_A (WQ cI h0 h1 h2 h3 h4 h5 u) sz)) 0 0 (va_A (WQ cI h0 h1 h2 h3 h4 h5 u) sz) := by
  refine en_ (cc := cX6_setRegister) (maxL := 4) (ret := none) (own := RX6) (lv := [(0, .ref h0), (1, .int a1), (2, .int a2), (3, .int a3)]) (Qf := fun A => va_Qv P (fun u t => va_P D vwCl (WQ cI h0 h1 h2 h3 h4 h5 u) t.heap) A) (by decide) rfl rfl (Nat.le_of_ble_eq_true rfl) rfl ?_
  intro p e s m below meth c A ls S hr hlk hname hsz hP hK hD hA hSub hS hE hl
  have hx := S.1
  have hb := S.2.1
  have hown := S.2.2.2.1
  have hts := S.2.2.2.2
  have i_X6 : ∀ w ∈ u_ws RX6 TX6 29, w ∈ wsX6_setRegister := by decide +kernel
  have f_7 := hts (.fieldLink RX6 7 "MachineCoreModel" "registers" "[I") (by decide +kernel)
  have k_39 := hts (.constant RX6 39 (65535)) (by decide +kernel)
  have k_53 := hts (.constant RX6 53 (65280)) (by decide +kernel)
  unfold wX6_setRegister at hw
  obtain ⟨H, eH⟩ : ∃ H, H = s.heap := ⟨_, rfl⟩
  obtain ⟨locs, eL⟩ : ∃ locs : List Loc, locs = [] := ⟨_, rfl⟩
  replace hP : va_P D vwCl (WQ cI h0 h1 h2 h3 h4 h5 u) H := by rw [eH]; exact hP
  replace hS : va_S A s.heap H locs := by rw [eH, eL]; exact hS
  suffices hgo : W p l e ({ frames := 0, cells := 0, slots := 0, locals := 0 } : Room) s m ([.ref h0, .int a1, .int a2, .int a3] : List Value).toArray below meth c H locs 0 0 (MQ below (va_Qv P (fun u t => va_P D vwCl (WQ cI h0 h1 h2 h3 h4 h5 u) t.heap) A) ([.ref h0, .int a1, .int a2, .int a3] : List Value).toArray s 0 0 A) (F0 m 0 ls []) by rw [eH, eL] at hgo; exact hgo
  clear eH eL
  refine lv_iload_n hx hb dX6_setRegister_0 rfl (lv_at hl 2 rfl) ?_
  refine lv_if_eq (tgt := 17) hx hb dX6_setRegister_1 (by decide) (fun c1 => ?_) (fun c1 => ?_)
  · replace hw := hw.1 c1
    refine lv_iload_n hx hb dX6_setRegister_17 rfl (lv_at hl 1 rfl) ?_
    refine lv_iconst (v := (4 : Int32)) hx hb dX6_setRegister_18 (by decide) ?_
    refine lv_icmp_ge (tgt := 46) hx hb dX6_setRegister_19 (by decide) (fun c2 => ?_) (fun c2 => ?_)
    · replace hw := hw.1 c2
      refine lv_aload_n hx hb dX6_setRegister_46 rfl (lv_at hl 0 rfl) ?_
      refine va_get (D := D) (ci := 6) (v := .ref h1) (C := RX6) (T := TX6) (N := 29) hx hb hts i_X6 hown hK hP 0 rfl rfl 1 (by decide) f_7 (fun _ h9 => h9) rfl dX6_setRegister_47 ?_
      refine lv_iload_n hx hb dX6_setRegister_50 rfl (lv_at hl 1 rfl) ?_
      refine lv_iconst (v := (4 : Int32)) hx hb dX6_setRegister_51 (by decide) ?_
      refine lv_isub hx hb dX6_setRegister_52 ?_
      refine lv_aload_n hx hb dX6_setRegister_53 rfl (lv_at hl 0 rfl) ?_
      refine va_get (D := D) (ci := 6) (v := .ref h1) (C := RX6) (T := TX6) (N := 29) hx hb hts i_X6 hown hK hP 0 rfl rfl 1 (by decide) f_7 (fun _ h9 => h9) rfl dX6_setRegister_54 ?_
      refine lv_iload_n hx hb dX6_setRegister_57 rfl (lv_at hl 1 rfl) ?_
      refine lv_iconst (v := (4 : Int32)) hx hb dX6_setRegister_58 (by decide) ?_
      refine lv_isub hx hb dX6_setRegister_59 ?_
      refine va_iald hx hb hK hP 1 1 (f := (q_registers u)) rfl rfl hw.1 dX6_setRegister_60 ?_
      replace hw := hw.2
      refine lv_sipush (v := (255 : Int32)) hx hb dX6_setRegister_61 (by decide) ?_
      refine lv_iand hx hb dX6_setRegister_64 ?_
      refine lv_iload_n hx hb dX6_setRegister_65 rfl (lv_at hl 3 rfl) ?_
      refine lv_sipush (v := (255 : Int32)) hx hb dX6_setRegister_66 (by decide) ?_
      refine lv_iand hx hb dX6_setRegister_69 ?_
      refine lv_bipush (v := (8 : Int32)) hx hb dX6_setRegister_70 (by decide) ?_
      refine lv_ishl hx hb dX6_setRegister_72 ?_
      refine lv_ior hx hb dX6_setRegister_73 ?_
      refine va_iast hx hb hK hP hD hS 1 1 (f := (q_registers u)) rfl rfl hw.1 dX6_setRegister_74 (fun H locs hP hD hS => ?_)
      replace hw := hw.2
      replace hP : va_P D vwCl (WQ cI h0 h1 h2 h3 h4 h5 (qs_registers u (upd (q_registers u) (a1 - (4 : Int32)).toNatClampNeg ((((q_registers u) (a1 - (4 : Int32)).toNatClampNeg) &&& (255 : Int32)) ||| ((a3 &&& (255 : Int32)) <<< ((8 : Int32) &&& 31)))))) H := hP
      replace hD : va_D A (WQ cI h0 h1 h2 h3 h4 h5 (qs_registers u (upd (q_registers u) (a1 - (4 : Int32)).toNatClampNeg ((((q_registers u) (a1 - (4 : Int32)).toNatClampNeg) &&& (255 : Int32)) ||| ((a3 &&& (255 : Int32)) <<< ((8 : Int32) &&& 31)))))) := hD
      exact rt_v (wo := (fun v => WQ cI h0 h1 h2 h3 h4 h5 v)) S hr hlk (qs_registers u (upd (q_registers u) (a1 - (4 : Int32)).toNatClampNeg ((((q_registers u) (a1 - (4 : Int32)).toNatClampNeg) &&& (255 : Int32)) ||| ((a3 &&& (255 : Int32)) <<< ((8 : Int32) &&& 31))))) hP hS hw dX6_setRegister_75
    · replace hw := hw.2 c2
      refine lv_aload_n hx hb dX6_setRegister_22 rfl (lv_at hl 0 rfl) ?_
      refine va_get (D := D) (ci := 6) (v := .ref h1) (C := RX6) (T := TX6) (N := 29) hx hb hts i_X6 hown hK hP 0 rfl rfl 1 (by decide) f_7 (fun _ h9 => h9) rfl dX6_setRegister_23 ?_
      refine lv_iload_n hx hb dX6_setRegister_26 rfl (lv_at hl 1 rfl) ?_
      refine lv_aload_n hx hb dX6_setRegister_27 rfl (lv_at hl 0 rfl) ?_
      refine va_get (D := D) (ci := 6) (v := .ref h1) (C := RX6) (T := TX6) (N := 29) hx hb hts i_X6 hown hK hP 0 rfl rfl 1 (by decide) f_7 (fun _ h9 => h9) rfl dX6_setRegister_28 ?_
      refine lv_iload_n hx hb dX6_setRegister_31 rfl (lv_at hl 1 rfl) ?_
      refine va_iald hx hb hK hP 1 1 (f := (q_registers u)) rfl rfl hw.1 dX6_setRegister_32 ?_
      replace hw := hw.2
      refine lv_ldc (v := (65280 : Int32)) hx hb hown k_53 dX6_setRegister_33 ?_
      refine lv_iand hx hb dX6_setRegister_35 ?_
      refine lv_iload_n hx hb dX6_setRegister_36 rfl (lv_at hl 3 rfl) ?_
      refine lv_sipush (v := (255 : Int32)) hx hb dX6_setRegister_37 (by decide) ?_
      refine lv_iand hx hb dX6_setRegister_40 ?_
      refine lv_ior hx hb dX6_setRegister_41 ?_
      refine va_iast hx hb hK hP hD hS 1 1 (f := (q_registers u)) rfl rfl hw.1 dX6_setRegister_42 (fun H locs hP hD hS => ?_)
      replace hw := hw.2
      replace hP : va_P D vwCl (WQ cI h0 h1 h2 h3 h4 h5 (qs_registers u (upd (q_registers u) a1.toNatClampNeg ((((q_registers u) a1.toNatClampNeg) &&& (65280 : Int32)) ||| (a3 &&& (255 : Int32)))))) H := hP
      replace hD : va_D A (WQ cI h0 h1 h2 h3 h4 h5 (qs_registers u (upd (q_registers u) a1.toNatClampNeg ((((q_registers u) a1.toNatClampNeg) &&& (65280 : Int32)) ||| (a3 &&& (255 : Int32)))))) := hD
      refine lv_goto (tgt := 75) hx hb dX6_setRegister_43 (by decide) ?_
      exact rt_v (wo := (fun v => WQ cI h0 h1 h2 h3 h4 h5 v)) S hr hlk (qs_registers u (upd (q_registers u) a1.toNatClampNeg ((((q_registers u) a1.toNatClampNeg) &&& (65280 : Int32)) ||| (a3 &&& (255 : Int32))))) hP hS hw dX6_setRegister_75
  · replace hw := hw.2 c1
    refine lv_aload_n hx hb dX6_setRegister_4 rfl (lv_at hl 0 rfl) ?_
    refine va_get (D := D) (ci := 6) (v := .ref h1) (C := RX6) (T := TX6) (N := 29) hx hb hts i_X6 hown hK hP 0 rfl rfl 1 (by decide) f_7 (fun _ h9 => h9) rfl dX6_setRegister_5 ?_
    refine lv_iload_n hx hb dX6_setRegister_8 rfl (lv_at hl 1 rfl) ?_
    refine lv_iload_n hx hb dX6_setRegister_9 rfl (lv_at hl 3 rfl) ?_
    refine lv_ldc (v := (65535 : Int32)) hx hb hown k_39 dX6_setRegister_10 ?_
    refine lv_iand hx hb dX6_setRegister_12 ?_
    refine va_iast hx hb hK hP hD hS 1 1 (f := (q_registers u)) rfl rfl hw.1 dX6_setRegister_13 (fun H locs hP hD hS => ?_)
    replace hw := hw.2
    replace hP : va_P D vwCl (WQ cI h0 h1 h2 h3 h4 h5 (qs_registers u (upd (q_registers u) a1.toNatClampNeg (a3 &&& (65535 : Int32))))) H := hP
    replace hD : va_D A (WQ cI h0 h1 h2 h3 h4 h5 (qs_registers u (upd (q_registers u) a1.toNatClampNeg (a3 &&& (65535 : Int32))))) := hD
    refine lv_goto (tgt := 75) hx hb dX6_setRegister_14 (by decide) ?_
    exact rt_v (wo := (fun v => WQ cI h0 h1 h2 h3 h4 h5 v)) S hr hlk (qs_registers u (upd (q_registers u) a1.toNatClampNeg (a3 &&& (65535 : Int32)))) hP hS hw dX6_setRegister_75
-- X6_has
def wX6_has (a1 : Int32) (u : SQ) (P : Int32 → SQ → Prop) : Prop := ((((q_flags u) &&& a1) = (0 : Int32) → (P (0 : Int32) u)) ∧ (¬ ((q_flags u) &&& a1) = (0 : Int32) → (P (1 : Int32) u)))
set_option maxHeartbeats 4000000 in
set_option maxRecDepth 100000 in
theorem kcX6_has (l : Launch) (D : va_G) (cB cI : ClassId) (h0 h1 h2 h3 h4 h5 : Nat) (sz : Nat) (a1 : Int32) (u : SQ) (P : Int32 → SQ → Prop) (hw : wX6_has a1 u P) : Met l yX6_has wsX6_has ({ frames := 0, cells := 0, slots := 0, locals := 0 } : Room) (va_Pc [.ref h0, .int a1] (Pcw D (tyA cB cI) (WQ cI h0 h1 h2 h3 h4 h5 u) sz Tru)) (va_Qi P (fun u t => va_P D vwCl (WQ cI h0 h1 h2 h3 h4 h5 u) t.heap) (va_A (WQ cI h0 h1 h2 h3 h4 h5 u) sz)) 0 0 (va_A (WQ cI h0 h1 h2 h3 h4 h5 u) sz) := by
  refine en_ (cc := cX6_has) (maxL := 2) (ret := (some .boolean)) (own := RX6) (lv := [(0, .ref h0), (1, .int a1)]) (Qf := fun A => va_Qi P (fun u t => va_P D vwCl (WQ cI h0 h1 h2 h3 h4 h5 u) t.heap) A) (by decide) rfl rfl (Nat.le_of_ble_eq_true rfl) rfl ?_
  intro p e s m below meth c A ls S hr hlk hname hsz hP hK hD hA hSub hS hE hl
  have hx := S.1
  have hb := S.2.1
  have hown := S.2.2.2.1
  have hts := S.2.2.2.2
  have i_X6 : ∀ w ∈ u_ws RX6 TX6 29, w ∈ wsX6_has := by decide +kernel
  have f_54 := hts (.fieldLink RX6 54 "MachineCoreModel" "flags" "I") (by decide +kernel)
  unfold wX6_has at hw
  obtain ⟨H, eH⟩ : ∃ H, H = s.heap := ⟨_, rfl⟩
  obtain ⟨locs, eL⟩ : ∃ locs : List Loc, locs = [] := ⟨_, rfl⟩
  replace hP : va_P D vwCl (WQ cI h0 h1 h2 h3 h4 h5 u) H := by rw [eH]; exact hP
  replace hS : va_S A s.heap H locs := by rw [eH, eL]; exact hS
  suffices hgo : W p l e ({ frames := 0, cells := 0, slots := 0, locals := 0 } : Room) s m ([.ref h0, .int a1] : List Value).toArray below meth c H locs 0 0 (MQ below (va_Qi P (fun u t => va_P D vwCl (WQ cI h0 h1 h2 h3 h4 h5 u) t.heap) A) ([.ref h0, .int a1] : List Value).toArray s 0 0 A) (F0 m 0 ls []) by rw [eH, eL] at hgo; exact hgo
  clear eH eL
  refine lv_aload_n hx hb dX6_has_0 rfl (lv_at hl 0 rfl) ?_
  refine va_get (D := D) (ci := 6) (v := .int (q_flags u)) (C := RX6) (T := TX6) (N := 29) hx hb hts i_X6 hown hK hP 0 rfl rfl 4 (by decide) f_54 (fun _ h9 => h9) rfl dX6_has_1 ?_
  refine lv_iload_n hx hb dX6_has_4 rfl (lv_at hl 1 rfl) ?_
  refine lv_iand hx hb dX6_has_5 ?_
  refine lv_if_eq (tgt := 13) hx hb dX6_has_6 (by decide) (fun c1 => ?_) (fun c1 => ?_)
  · replace hw := hw.1 c1
    refine lv_iconst (v := (0 : Int32)) hx hb dX6_has_13 (by decide) ?_
    exact rt_z (wo := (fun v => WQ cI h0 h1 h2 h3 h4 h5 v)) S hr hlk u hP hS zB_0 hw dX6_has_14
  · replace hw := hw.2 c1
    refine lv_iconst (v := (1 : Int32)) hx hb dX6_has_9 (by decide) ?_
    refine lv_goto (tgt := 14) hx hb dX6_has_10 (by decide) ?_
    exact rt_z (wo := (fun v => WQ cI h0 h1 h2 h3 h4 h5 v)) S hr hlk u hP hS zB_1 hw dX6_has_14
-- X6_mark
def wX6_mark_b22 (a1 : Int32) (a2 : Int32) (P : SQ → Prop) (s1 : Int32) (u : SQ) : Prop := (P (qs_flags u s1))
def wX6_mark (a1 : Int32) (a2 : Int32) (u : SQ) (P : SQ → Prop) : Prop := ((a2 = (0 : Int32) → (wX6_mark_b22 a1 a2 P ((q_flags u) &&& (a1 ^^^ (-1 : Int32))) u)) ∧ (¬ a2 = (0 : Int32) → (wX6_mark_b22 a1 a2 P ((q_flags u) ||| a1) u)))
set_option maxHeartbeats 4000000 in
set_option maxRecDepth 100000 in
theorem kcX6_mark (l : Launch) (D : va_G) (cB cI : ClassId) (h0 h1 h2 h3 h4 h5 : Nat) (sz : Nat) (a1 : Int32) (a2 : Int32) (u : SQ) (P : SQ → Prop) (hw : wX6_mark a1 a2 u P) : Met l yX6_mark wsX6_mark ({ frames := 0, cells := 0, slots := 0, locals := 0 } : Room) (va_Pc [.ref h0, .int a1, .int a2] (Pcw D (tyA cB cI) (WQ cI h0 h1 h2 h3 h4 h5 u) sz Tru)) (va_Qv P (fun u t => va_P D vwCl (WQ cI h0 h1 h2 h3 h4 h5 u) t.heap) (va_A (WQ cI h0 h1 h2 h3 h4 h5 u) sz)) 0 0 (va_A (WQ cI h0 h1 h2 h3 h4 h5 u) sz) := by
  refine en_ (cc := cX6_mark) (maxL := 3) (ret := none) (own := RX6) (lv := [(0, .ref h0), (1, .int a1), (2, .int a2)]) (Qf := fun A => va_Qv P (fun u t => va_P D vwCl (WQ cI h0 h1 h2 h3 h4 h5 u) t.heap) A) (by decide) rfl rfl (Nat.le_of_ble_eq_true rfl) rfl ?_
  intro p e s m below meth c A ls S hr hlk hname hsz hP hK hD hA hSub hS hE hl
  have hx := S.1
  have hb := S.2.1
  have hown := S.2.2.2.1
  have hts := S.2.2.2.2
  have i_X6 : ∀ w ∈ u_ws RX6 TX6 29, w ∈ wsX6_mark := by decide +kernel
  have f_54 := hts (.fieldLink RX6 54 "MachineCoreModel" "flags" "I") (by decide +kernel)
  have b22 : ∀ (s1 : Int32) (u : SQ) (H : Heap) (locs : List Loc) (ls : Array Slot), va_P D vwCl (WQ cI h0 h1 h2 h3 h4 h5 u) H → va_D A (WQ cI h0 h1 h2 h3 h4 h5 u) → va_S A s.heap H locs → lv_has ls 3 [] → wX6_mark_b22 a1 a2 P s1 u → W p l e ({ frames := 0, cells := 0, slots := 0, locals := 0 } : Room) s m ([.ref h0, .int a1, .int a2] : List Value).toArray below meth c H locs 0 0 (MQ below (va_Qv P (fun u t => va_P D vwCl (WQ cI h0 h1 h2 h3 h4 h5 u) t.heap) A) ([.ref h0, .int a1, .int a2] : List Value).toArray s 0 0 A) (F0 m 22 ls [.int s1, .ref h0]) := by
    intro s1 u H locs ls hP hD hS hl hw
    unfold wX6_mark_b22 at hw
    refine va_put (D := D) (ci := 6) (v := .int s1) (ty := .int) (C := RX6) (T := TX6) (N := 29) hx hb hts i_X6 tyX6 tyX6_ok nmX6 hown hK hP hD hS 0 rfl rfl 4 (by decide) f_54 (fun _ h9 => h9) rfl (by decide +kernel) rfl rfl (Nat.le_of_ble_eq_true rfl) dX6_mark_22 (fun H locs hP hD hS => ?_)
    replace hP : va_P D vwCl (WQ cI h0 h1 h2 h3 h4 h5 (qs_flags u s1)) H := hP
    replace hD : va_D A (WQ cI h0 h1 h2 h3 h4 h5 (qs_flags u s1)) := hD
    exact rt_v (wo := (fun v => WQ cI h0 h1 h2 h3 h4 h5 v)) S hr hlk (qs_flags u s1) hP hS hw dX6_mark_25
  unfold wX6_mark at hw
  obtain ⟨H, eH⟩ : ∃ H, H = s.heap := ⟨_, rfl⟩
  obtain ⟨locs, eL⟩ : ∃ locs : List Loc, locs = [] := ⟨_, rfl⟩
  replace hP : va_P D vwCl (WQ cI h0 h1 h2 h3 h4 h5 u) H := by rw [eH]; exact hP
  replace hS : va_S A s.heap H locs := by rw [eH, eL]; exact hS
  suffices hgo : W p l e ({ frames := 0, cells := 0, slots := 0, locals := 0 } : Room) s m ([.ref h0, .int a1, .int a2] : List Value).toArray below meth c H locs 0 0 (MQ below (va_Qv P (fun u t => va_P D vwCl (WQ cI h0 h1 h2 h3 h4 h5 u) t.heap) A) ([.ref h0, .int a1, .int a2] : List Value).toArray s 0 0 A) (F0 m 0 ls []) by rw [eH, eL] at hgo; exact hgo
  clear eH eL
  refine lv_aload_n hx hb dX6_mark_0 rfl (lv_at hl 0 rfl) ?_
  refine lv_iload_n hx hb dX6_mark_1 rfl (lv_at hl 2 rfl) ?_
  refine lv_if_eq (tgt := 14) hx hb dX6_mark_2 (by decide) (fun c1 => ?_) (fun c1 => ?_)
  · replace hw := hw.1 c1
    refine lv_aload_n hx hb dX6_mark_14 rfl (lv_at hl 0 rfl) ?_
    refine va_get (D := D) (ci := 6) (v := .int (q_flags u)) (C := RX6) (T := TX6) (N := 29) hx hb hts i_X6 hown hK hP 0 rfl rfl 4 (by decide) f_54 (fun _ h9 => h9) rfl dX6_mark_15 ?_
    refine lv_iload_n hx hb dX6_mark_18 rfl (lv_at hl 1 rfl) ?_
    refine lv_iconst (v := (-1 : Int32)) hx hb dX6_mark_19 (by decide) ?_
    refine lv_ixor hx hb dX6_mark_20 ?_
    refine lv_iand hx hb dX6_mark_21 ?_
    exact b22 ((q_flags u) &&& (a1 ^^^ (-1 : Int32))) u H locs ls hP hD hS (lv_sub hl [] rfl) hw
  · replace hw := hw.2 c1
    refine lv_aload_n hx hb dX6_mark_5 rfl (lv_at hl 0 rfl) ?_
    refine va_get (D := D) (ci := 6) (v := .int (q_flags u)) (C := RX6) (T := TX6) (N := 29) hx hb hts i_X6 hown hK hP 0 rfl rfl 4 (by decide) f_54 (fun _ h9 => h9) rfl dX6_mark_6 ?_
    refine lv_iload_n hx hb dX6_mark_9 rfl (lv_at hl 1 rfl) ?_
    refine lv_ior hx hb dX6_mark_10 ?_
    refine lv_goto (tgt := 22) hx hb dX6_mark_11 (by decide) ?_
    exact b22 ((q_flags u) ||| a1) u H locs ls hP hD hS (lv_sub hl [] rfl) hw
-- X6_push
def wX6_push (a1 : Int32) (u : SQ) (P : SQ → Prop) : Prop := (vp_in (4 : Int32) 8 ∧ (vp_in (4 : Int32) 8 ∧ (vp_in (2 : Int32) 4 ∧ (vp_in (4 : Int32) 8 ∧ (wX6_put ((q_segments u) (2 : Int32).toNatClampNeg) ((upd (q_registers u) (4 : Int32).toNatClampNeg ((((q_registers u) (4 : Int32).toNatClampNeg) - (2 : Int32)) &&& (65535 : Int32))) (4 : Int32).toNatClampNeg) (1 : Int32) a1 (qs_registers u (upd (q_registers u) (4 : Int32).toNatClampNeg ((((q_registers u) (4 : Int32).toNatClampNeg) - (2 : Int32)) &&& (65535 : Int32)))) (fun u1 => (P u1)))))))
set_option maxHeartbeats 4000000 in
set_option maxRecDepth 100000 in
theorem kcX6_push (l : Launch) (D : va_G) (cB cI : ClassId) (h0 h1 h2 h3 h4 h5 : Nat) (sz : Nat) (a1 : Int32) (u : SQ) (P : SQ → Prop) (hw : wX6_push a1 u P) : Met l yX6_push wsX6_push ({ frames := 2, cells := 0, slots := 0, locals := 46 } : Room) (va_Pc [.ref h0, .int a1] (Pcw D (tyA cB cI) (WQ cI h0 h1 h2 h3 h4 h5 u) sz Tru)) (va_Qv P (fun u t => va_P D vwCl (WQ cI h0 h1 h2 h3 h4 h5 u) t.heap) (va_A (WQ cI h0 h1 h2 h3 h4 h5 u) sz)) 0 0 (va_A (WQ cI h0 h1 h2 h3 h4 h5 u) sz) := by
  refine en_ (cc := cX6_push) (maxL := 2) (ret := none) (own := RX6) (lv := [(0, .ref h0), (1, .int a1)]) (Qf := fun A => va_Qv P (fun u t => va_P D vwCl (WQ cI h0 h1 h2 h3 h4 h5 u) t.heap) A) (by decide) rfl rfl (Nat.le_of_ble_eq_true rfl) rfl ?_
  intro p e s m below meth c A ls S hr hlk hname hsz hP hK hD hA hSub hS hE hl
  have hx := S.1
  have hb := S.2.1
  have hown := S.2.2.2.1
  have hts := S.2.2.2.2
  have i_X6 : ∀ w ∈ u_ws RX6 TX6 29, w ∈ wsX6_push := by decide +kernel
  have f_7 := hts (.fieldLink RX6 7 "MachineCoreModel" "registers" "[I") (by decide +kernel)
  have f_13 := hts (.fieldLink RX6 13 "MachineCoreModel" "segments" "[I") (by decide +kernel)
  have k_39 := hts (.constant RX6 39 (65535)) (by decide +kernel)
  unfold wX6_push at hw
  obtain ⟨H, eH⟩ : ∃ H, H = s.heap := ⟨_, rfl⟩
  obtain ⟨locs, eL⟩ : ∃ locs : List Loc, locs = [] := ⟨_, rfl⟩
  replace hP : va_P D vwCl (WQ cI h0 h1 h2 h3 h4 h5 u) H := by rw [eH]; exact hP
  replace hS : va_S A s.heap H locs := by rw [eH, eL]; exact hS
  suffices hgo : W p l e ({ frames := 2, cells := 0, slots := 0, locals := 46 } : Room) s m ([.ref h0, .int a1] : List Value).toArray below meth c H locs 0 0 (MQ below (va_Qv P (fun u t => va_P D vwCl (WQ cI h0 h1 h2 h3 h4 h5 u) t.heap) A) ([.ref h0, .int a1] : List Value).toArray s 0 0 A) (F0 m 0 ls []) by rw [eH, eL] at hgo; exact hgo
  clear eH eL
  refine lv_aload_n hx hb dX6_push_0 rfl (lv_at hl 0 rfl) ?_
  refine va_get (D := D) (ci := 6) (v := .ref h1) (C := RX6) (T := TX6) (N := 29) hx hb hts i_X6 hown hK hP 0 rfl rfl 1 (by decide) f_7 (fun _ h9 => h9) rfl dX6_push_1 ?_
  refine lv_iconst (v := (4 : Int32)) hx hb dX6_push_4 (by decide) ?_
  refine lv_aload_n hx hb dX6_push_5 rfl (lv_at hl 0 rfl) ?_
  refine va_get (D := D) (ci := 6) (v := .ref h1) (C := RX6) (T := TX6) (N := 29) hx hb hts i_X6 hown hK hP 0 rfl rfl 1 (by decide) f_7 (fun _ h9 => h9) rfl dX6_push_6 ?_
  refine lv_iconst (v := (4 : Int32)) hx hb dX6_push_9 (by decide) ?_
  refine va_iald hx hb hK hP 1 1 (f := (q_registers u)) rfl rfl hw.1 dX6_push_10 ?_
  replace hw := hw.2
  refine lv_iconst (v := (2 : Int32)) hx hb dX6_push_11 (by decide) ?_
  refine lv_isub hx hb dX6_push_12 ?_
  refine lv_ldc (v := (65535 : Int32)) hx hb hown k_39 dX6_push_13 ?_
  refine lv_iand hx hb dX6_push_15 ?_
  refine va_iast hx hb hK hP hD hS 1 1 (f := (q_registers u)) rfl rfl hw.1 dX6_push_16 (fun H locs hP hD hS => ?_)
  replace hw := hw.2
  replace hP : va_P D vwCl (WQ cI h0 h1 h2 h3 h4 h5 (qs_registers u (upd (q_registers u) (4 : Int32).toNatClampNeg ((((q_registers u) (4 : Int32).toNatClampNeg) - (2 : Int32)) &&& (65535 : Int32))))) H := hP
  replace hD : va_D A (WQ cI h0 h1 h2 h3 h4 h5 (qs_registers u (upd (q_registers u) (4 : Int32).toNatClampNeg ((((q_registers u) (4 : Int32).toNatClampNeg) - (2 : Int32)) &&& (65535 : Int32))))) := hD
  refine lv_aload_n hx hb dX6_push_17 rfl (lv_at hl 0 rfl) ?_
  refine lv_aload_n hx hb dX6_push_18 rfl (lv_at hl 0 rfl) ?_
  refine va_get (D := D) (ci := 6) (v := .ref h2) (C := RX6) (T := TX6) (N := 29) hx hb hts i_X6 hown hK hP 0 rfl rfl 2 (by decide) f_13 (fun _ h9 => h9) rfl dX6_push_19 ?_
  refine lv_iconst (v := (2 : Int32)) hx hb dX6_push_22 (by decide) ?_
  refine va_iald hx hb hK hP 2 1 (f := (q_segments u)) rfl rfl hw.1 dX6_push_23 ?_
  replace hw := hw.2
  refine lv_aload_n hx hb dX6_push_24 rfl (lv_at hl 0 rfl) ?_
  refine va_get (D := D) (ci := 6) (v := .ref h1) (C := RX6) (T := TX6) (N := 29) hx hb hts i_X6 hown hK hP 0 rfl rfl 1 (by decide) f_7 (fun _ h9 => h9) rfl dX6_push_25 ?_
  refine lv_iconst (v := (4 : Int32)) hx hb dX6_push_28 (by decide) ?_
  refine va_iald hx hb hK hP 1 1 (f := (upd (q_registers u) (4 : Int32).toNatClampNeg ((((q_registers u) (4 : Int32).toNatClampNeg) - (2 : Int32)) &&& (65535 : Int32)))) rfl rfl hw.1 dX6_push_29 ?_
  replace hw := hw.2
  refine lv_iconst (v := (1 : Int32)) hx hb dX6_push_30 (by decide) ?_
  refine lv_iload_n hx hb dX6_push_31 rfl (lv_at hl 1 rfl) ?_
  refine cl_Vv (As := [.int ((q_segments u) (2 : Int32).toNatClampNeg), .int ((upd (q_registers u) (4 : Int32).toNatClampNeg ((((q_registers u) (4 : Int32).toNatClampNeg) - (2 : Int32)) &&& (65535 : Int32))) (4 : Int32).toNatClampNeg), .int (1 : Int32), .int a1]) (rest := []) (st := [.int a1, .int (1 : Int32), .int ((upd (q_registers u) (4 : Int32).toNatClampNeg ((((q_registers u) (4 : Int32).toNatClampNeg) - (2 : Int32)) &&& (65535 : Int32))) (4 : Int32).toNatClampNeg), .int ((q_segments u) (2 : Int32).toNatClampNeg), .ref h0]) S hK hA hP hD hS (fr_Q (qs_registers u (upd (q_registers u) (4 : Int32).toNatClampNeg ((((q_registers u) (4 : Int32).toNatClampNeg) - (2 : Int32)) &&& (65535 : Int32))))) (kcX6_put l D cB cI h0 h1 h2 h3 h4 h5 H.size ((q_segments u) (2 : Int32).toNatClampNeg) ((upd (q_registers u) (4 : Int32).toNatClampNeg ((((q_registers u) (4 : Int32).toNatClampNeg) - (2 : Int32)) &&& (65535 : Int32))) (4 : Int32).toNatClampNeg) (1 : Int32) a1 (qs_registers u (upd (q_registers u) (4 : Int32).toNatClampNeg ((((q_registers u) (4 : Int32).toNatClampNeg) - (2 : Int32)) &&& (65535 : Int32)))) _ hw) (cwV 4 hts gX6_push_X6_put rfl rfl rfl (by decide +kernel) ⟨Nat.le_of_ble_eq_true rfl, Nat.le_of_ble_eq_true rfl⟩) tru_h tru_b 0 rfl rfl rfl rfl rfl hl.1 (Nat.le_of_ble_eq_true rfl) dX6_push_32 ⟨Nat.zero_le _, Nat.zero_le _⟩ (fun u1 H locs hP hD hS hw => ?_)
  replace hP : va_P D vwCl (WQ cI h0 h1 h2 h3 h4 h5 u1) H := hP
  replace hD : va_D A (WQ cI h0 h1 h2 h3 h4 h5 u1) := hD
  exact rt_v (wo := (fun v => WQ cI h0 h1 h2 h3 h4 h5 v)) S hr hlk u1 hP hS hw dX6_push_35
-- X6_pop
def wX6_pop  (u : SQ) (P : Int32 → SQ → Prop) : Prop := (vp_in (2 : Int32) 4 ∧ (vp_in (4 : Int32) 8 ∧ (wX6_get ((q_segments u) (2 : Int32).toNatClampNeg) ((q_registers u) (4 : Int32).toNatClampNeg) (1 : Int32) u (fun r2 u1 => (vp_in (4 : Int32) 8 ∧ (vp_in (4 : Int32) 8 ∧ (P r2 (qs_registers u1 (upd (q_registers u1) (4 : Int32).toNatClampNeg ((((q_registers u1) (4 : Int32).toNatClampNeg) + (2 : Int32)) &&& (65535 : Int32)))))))))))
set_option maxHeartbeats 4000000 in
set_option maxRecDepth 100000 in
theorem kcX6_pop (l : Launch) (D : va_G) (cB cI : ClassId) (h0 h1 h2 h3 h4 h5 : Nat) (sz : Nat)  (u : SQ) (P : Int32 → SQ → Prop) (hw : wX6_pop  u P) : Met l yX6_pop wsX6_pop ({ frames := 2, cells := 0, slots := 0, locals := 46 } : Room) (va_Pc [.ref h0] (Pcw D (tyA cB cI) (WQ cI h0 h1 h2 h3 h4 h5 u) sz Tru)) (va_Qi P (fun u t => va_P D vwCl (WQ cI h0 h1 h2 h3 h4 h5 u) t.heap) (va_A (WQ cI h0 h1 h2 h3 h4 h5 u) sz)) 0 0 (va_A (WQ cI h0 h1 h2 h3 h4 h5 u) sz) := by
  refine en_ (cc := cX6_pop) (maxL := 2) (ret := (some .int)) (own := RX6) (lv := [(0, .ref h0)]) (Qf := fun A => va_Qi P (fun u t => va_P D vwCl (WQ cI h0 h1 h2 h3 h4 h5 u) t.heap) A) (by decide) rfl rfl (Nat.le_of_ble_eq_true rfl) rfl ?_
  intro p e s m below meth c A ls S hr hlk hname hsz hP hK hD hA hSub hS hE hl
  have hx := S.1
  have hb := S.2.1
  have hown := S.2.2.2.1
  have hts := S.2.2.2.2
  have i_X6 : ∀ w ∈ u_ws RX6 TX6 29, w ∈ wsX6_pop := by decide +kernel
  have f_7 := hts (.fieldLink RX6 7 "MachineCoreModel" "registers" "[I") (by decide +kernel)
  have f_13 := hts (.fieldLink RX6 13 "MachineCoreModel" "segments" "[I") (by decide +kernel)
  have k_39 := hts (.constant RX6 39 (65535)) (by decide +kernel)
  unfold wX6_pop at hw
  obtain ⟨H, eH⟩ : ∃ H, H = s.heap := ⟨_, rfl⟩
  obtain ⟨locs, eL⟩ : ∃ locs : List Loc, locs = [] := ⟨_, rfl⟩
  replace hP : va_P D vwCl (WQ cI h0 h1 h2 h3 h4 h5 u) H := by rw [eH]; exact hP
  replace hS : va_S A s.heap H locs := by rw [eH, eL]; exact hS
  suffices hgo : W p l e ({ frames := 2, cells := 0, slots := 0, locals := 46 } : Room) s m ([.ref h0] : List Value).toArray below meth c H locs 0 0 (MQ below (va_Qi P (fun u t => va_P D vwCl (WQ cI h0 h1 h2 h3 h4 h5 u) t.heap) A) ([.ref h0] : List Value).toArray s 0 0 A) (F0 m 0 ls []) by rw [eH, eL] at hgo; exact hgo
  clear eH eL
  refine lv_aload_n hx hb dX6_pop_0 rfl (lv_at hl 0 rfl) ?_
  refine lv_aload_n hx hb dX6_pop_1 rfl (lv_at hl 0 rfl) ?_
  refine va_get (D := D) (ci := 6) (v := .ref h2) (C := RX6) (T := TX6) (N := 29) hx hb hts i_X6 hown hK hP 0 rfl rfl 2 (by decide) f_13 (fun _ h9 => h9) rfl dX6_pop_2 ?_
  refine lv_iconst (v := (2 : Int32)) hx hb dX6_pop_5 (by decide) ?_
  refine va_iald hx hb hK hP 2 1 (f := (q_segments u)) rfl rfl hw.1 dX6_pop_6 ?_
  replace hw := hw.2
  refine lv_aload_n hx hb dX6_pop_7 rfl (lv_at hl 0 rfl) ?_
  refine va_get (D := D) (ci := 6) (v := .ref h1) (C := RX6) (T := TX6) (N := 29) hx hb hts i_X6 hown hK hP 0 rfl rfl 1 (by decide) f_7 (fun _ h9 => h9) rfl dX6_pop_8 ?_
  refine lv_iconst (v := (4 : Int32)) hx hb dX6_pop_11 (by decide) ?_
  refine va_iald hx hb hK hP 1 1 (f := (q_registers u)) rfl rfl hw.1 dX6_pop_12 ?_
  replace hw := hw.2
  refine lv_iconst (v := (1 : Int32)) hx hb dX6_pop_13 (by decide) ?_
  refine cl_Vi (As := [.int ((q_segments u) (2 : Int32).toNatClampNeg), .int ((q_registers u) (4 : Int32).toNatClampNeg), .int (1 : Int32)]) (rest := []) (st := [.int (1 : Int32), .int ((q_registers u) (4 : Int32).toNatClampNeg), .int ((q_segments u) (2 : Int32).toNatClampNeg), .ref h0]) S hK hA hP hD hS (fr_Q u) (kcX6_get l D cB cI h0 h1 h2 h3 h4 h5 H.size ((q_segments u) (2 : Int32).toNatClampNeg) ((q_registers u) (4 : Int32).toNatClampNeg) (1 : Int32) u _ hw) (cwV 3 hts gX6_pop_X6_get rfl rfl rfl (by decide +kernel) ⟨Nat.le_of_ble_eq_true rfl, Nat.le_of_ble_eq_true rfl⟩) tru_h tru_b 0 rfl rfl rfl rfl rfl hl.1 (Nat.le_of_ble_eq_true rfl) dX6_pop_14 ⟨Nat.zero_le _, Nat.zero_le _⟩ (fun r2 u1 H locs hP hD hS hw => ?_)
  replace hP : va_P D vwCl (WQ cI h0 h1 h2 h3 h4 h5 u1) H := hP
  replace hD : va_D A (WQ cI h0 h1 h2 h3 h4 h5 u1) := hD
  refine lv_istore_n (lv' := [(1, .int r2), (0, .ref h0)]) hx hb dX6_pop_17 rfl hl (by decide) rfl (fun ls hl => ?_)
  refine lv_aload_n hx hb dX6_pop_18 rfl (lv_at hl 1 rfl) ?_
  refine va_get (D := D) (ci := 6) (v := .ref h1) (C := RX6) (T := TX6) (N := 29) hx hb hts i_X6 hown hK hP 0 rfl rfl 1 (by decide) f_7 (fun _ h9 => h9) rfl dX6_pop_19 ?_
  refine lv_iconst (v := (4 : Int32)) hx hb dX6_pop_22 (by decide) ?_
  refine lv_aload_n hx hb dX6_pop_23 rfl (lv_at hl 1 rfl) ?_
  refine va_get (D := D) (ci := 6) (v := .ref h1) (C := RX6) (T := TX6) (N := 29) hx hb hts i_X6 hown hK hP 0 rfl rfl 1 (by decide) f_7 (fun _ h9 => h9) rfl dX6_pop_24 ?_
  refine lv_iconst (v := (4 : Int32)) hx hb dX6_pop_27 (by decide) ?_
  refine va_iald hx hb hK hP 1 1 (f := (q_registers u1)) rfl rfl hw.1 dX6_pop_28 ?_
  replace hw := hw.2
  refine lv_iconst (v := (2 : Int32)) hx hb dX6_pop_29 (by decide) ?_
  refine lv_iadd hx hb dX6_pop_30 ?_
  refine lv_ldc (v := (65535 : Int32)) hx hb hown k_39 dX6_pop_31 ?_
  refine lv_iand hx hb dX6_pop_33 ?_
  refine va_iast hx hb hK hP hD hS 1 1 (f := (q_registers u1)) rfl rfl hw.1 dX6_pop_34 (fun H locs hP hD hS => ?_)
  replace hw := hw.2
  replace hP : va_P D vwCl (WQ cI h0 h1 h2 h3 h4 h5 (qs_registers u1 (upd (q_registers u1) (4 : Int32).toNatClampNeg ((((q_registers u1) (4 : Int32).toNatClampNeg) + (2 : Int32)) &&& (65535 : Int32))))) H := hP
  replace hD : va_D A (WQ cI h0 h1 h2 h3 h4 h5 (qs_registers u1 (upd (q_registers u1) (4 : Int32).toNatClampNeg ((((q_registers u1) (4 : Int32).toNatClampNeg) + (2 : Int32)) &&& (65535 : Int32))))) := hD
  refine lv_iload_n hx hb dX6_pop_35 rfl (lv_at hl 0 rfl) ?_
  exact rt_i (wo := (fun v => WQ cI h0 h1 h2 h3 h4 h5 v)) S hr hlk (qs_registers u1 (upd (q_registers u1) (4 : Int32).toNatClampNeg ((((q_registers u1) (4 : Int32).toNatClampNeg) + (2 : Int32)) &&& (65535 : Int32)))) hP hS hw dX6_pop_36
-- X6_top
def wX6_top (a0 : Int32) (u : Unit) (P : Int32 → Unit → Prop) : Prop := ((a0 = (0 : Int32) → (P (128 : Int32) u)) ∧ (¬ a0 = (0 : Int32) → (P (32768 : Int32) u)))
set_option maxHeartbeats 4000000 in
set_option maxRecDepth 100000 in
theorem kcX6_top (l : Launch) (D : va_G) (cB cI : ClassId) (sz : Nat) (a0 : Int32) (u : Unit) (P : Int32 → Unit → Prop) (hw : wX6_top a0 u P) : Met l yX6_top wsX6_top ({ frames := 0, cells := 0, slots := 0, locals := 0 } : Room) (va_Pc [.int a0] (Pcw D (tyA cB cI) [] sz Tru)) (va_Qi P (fun u t => va_P D vwCl [] t.heap) (va_A [] sz)) 0 0 (va_A [] sz) := by
  refine en_ (cc := cX6_top) (maxL := 1) (ret := (some .int)) (own := RX6) (lv := [(0, .int a0)]) (Qf := fun A => va_Qi P (fun u t => va_P D vwCl [] t.heap) A) (by decide) rfl rfl (Nat.le_of_ble_eq_true rfl) rfl ?_
  intro p e s m below meth c A ls S hr hlk hname hsz hP hK hD hA hSub hS hE hl
  have hx := S.1
  have hb := S.2.1
  have hown := S.2.2.2.1
  have hts := S.2.2.2.2
  have k_65 := hts (.constant RX6 65 (32768)) (by decide +kernel)
  unfold wX6_top at hw
  obtain ⟨H, eH⟩ : ∃ H, H = s.heap := ⟨_, rfl⟩
  obtain ⟨locs, eL⟩ : ∃ locs : List Loc, locs = [] := ⟨_, rfl⟩
  replace hP : va_P D vwCl [] H := by rw [eH]; exact hP
  replace hS : va_S A s.heap H locs := by rw [eH, eL]; exact hS
  suffices hgo : W p l e ({ frames := 0, cells := 0, slots := 0, locals := 0 } : Room) s m ([.int a0] : List Value).toArray below meth c H locs 0 0 (MQ below (va_Qi P (fun u t => va_P D vwCl [] t.heap) A) ([.int a0] : List Value).toArray s 0 0 A) (F0 m 0 ls []) by rw [eH, eL] at hgo; exact hgo
  clear eH eL
  refine lv_iload_n hx hb dX6_top_0 rfl (lv_at hl 0 rfl) ?_
  refine lv_if_eq (tgt := 9) hx hb dX6_top_1 (by decide) (fun c1 => ?_) (fun c1 => ?_)
  · replace hw := hw.1 c1
    refine lv_sipush (v := (128 : Int32)) hx hb dX6_top_9 (by decide) ?_
    exact rt_i (wo := (fun _ => [])) S hr hlk u hP hS hw dX6_top_12
  · replace hw := hw.2 c1
    refine lv_ldc (v := (32768 : Int32)) hx hb hown k_65 dX6_top_4 ?_
    refine lv_goto (tgt := 12) hx hb dX6_top_6 (by decide) ?_
    exact rt_i (wo := (fun _ => [])) S hr hlk u hP hS hw dX6_top_12
-- X6_all
def wX6_all (a0 : Int32) (u : Unit) (P : Int32 → Unit → Prop) : Prop := ((a0 = (0 : Int32) → (P (255 : Int32) u)) ∧ (¬ a0 = (0 : Int32) → (P (65535 : Int32) u)))
set_option maxHeartbeats 4000000 in
set_option maxRecDepth 100000 in
theorem kcX6_all (l : Launch) (D : va_G) (cB cI : ClassId) (sz : Nat) (a0 : Int32) (u : Unit) (P : Int32 → Unit → Prop) (hw : wX6_all a0 u P) : Met l yX6_all wsX6_all ({ frames := 0, cells := 0, slots := 0, locals := 0 } : Room) (va_Pc [.int a0] (Pcw D (tyA cB cI) [] sz Tru)) (va_Qi P (fun u t => va_P D vwCl [] t.heap) (va_A [] sz)) 0 0 (va_A [] sz) := by
  refine en_ (cc := cX6_all) (maxL := 1) (ret := (some .int)) (own := RX6) (lv := [(0, .int a0)]) (Qf := fun A => va_Qi P (fun u t => va_P D vwCl [] t.heap) A) (by decide) rfl rfl (Nat.le_of_ble_eq_true rfl) rfl ?_
  intro p e s m below meth c A ls S hr hlk hname hsz hP hK hD hA hSub hS hE hl
  have hx := S.1
  have hb := S.2.1
  have hown := S.2.2.2.1
  have hts := S.2.2.2.2
  have k_39 := hts (.constant RX6 39 (65535)) (by decide +kernel)
  unfold wX6_all at hw
  obtain ⟨H, eH⟩ : ∃ H, H = s.heap := ⟨_, rfl⟩
  obtain ⟨locs, eL⟩ : ∃ locs : List Loc, locs = [] := ⟨_, rfl⟩
  replace hP : va_P D vwCl [] H := by rw [eH]; exact hP
  replace hS : va_S A s.heap H locs := by rw [eH, eL]; exact hS
  suffices hgo : W p l e ({ frames := 0, cells := 0, slots := 0, locals := 0 } : Room) s m ([.int a0] : List Value).toArray below meth c H locs 0 0 (MQ below (va_Qi P (fun u t => va_P D vwCl [] t.heap) A) ([.int a0] : List Value).toArray s 0 0 A) (F0 m 0 ls []) by rw [eH, eL] at hgo; exact hgo
  clear eH eL
  refine lv_iload_n hx hb dX6_all_0 rfl (lv_at hl 0 rfl) ?_
  refine lv_if_eq (tgt := 9) hx hb dX6_all_1 (by decide) (fun c1 => ?_) (fun c1 => ?_)
  · replace hw := hw.1 c1
    refine lv_sipush (v := (255 : Int32)) hx hb dX6_all_9 (by decide) ?_
    exact rt_i (wo := (fun _ => [])) S hr hlk u hP hS hw dX6_all_12
  · replace hw := hw.2 c1
    refine lv_ldc (v := (65535 : Int32)) hx hb hown k_39 dX6_all_4 ?_
    refine lv_goto (tgt := 12) hx hb dX6_all_6 (by decide) ?_
    exact rt_i (wo := (fun _ => [])) S hr hlk u hP hS hw dX6_all_12
-- X6_signed
def wX6_signed (a0 : Int32) (a1 : Int32) (u : Unit) (P : Int32 → Unit → Prop) : Prop := (wX6_top a1 () (fun r2 u1 => (((a0 &&& r2) = (0 : Int32) → (P a0 u)) ∧ (¬ (a0 &&& r2) = (0 : Int32) → (wX6_all a1 () (fun r5 u4 => (P ((a0 - r5) - (1 : Int32)) u)))))))
set_option maxHeartbeats 4000000 in
set_option maxRecDepth 100000 in
theorem kcX6_signed (l : Launch) (D : va_G) (cB cI : ClassId) (sz : Nat) (a0 : Int32) (a1 : Int32) (u : Unit) (P : Int32 → Unit → Prop) (hw : wX6_signed a0 a1 u P) : Met l yX6_signed wsX6_signed ({ frames := 1, cells := 0, slots := 0, locals := 20 } : Room) (va_Pc [.int a0, .int a1] (Pcw D (tyA cB cI) [] sz Tru)) (va_Qi P (fun u t => va_P D vwCl [] t.heap) (va_A [] sz)) 0 0 (va_A [] sz) := by
  refine en_ (cc := cX6_signed) (maxL := 2) (ret := (some .int)) (own := RX6) (lv := [(0, .int a0), (1, .int a1)]) (Qf := fun A => va_Qi P (fun u t => va_P D vwCl [] t.heap) A) (by decide) rfl rfl (Nat.le_of_ble_eq_true rfl) rfl ?_
  intro p e s m below meth c A ls S hr hlk hname hsz hP hK hD hA hSub hS hE hl
  have hx := S.1
  have hb := S.2.1
  have hown := S.2.2.2.1
  have hts := S.2.2.2.2
  unfold wX6_signed at hw
  obtain ⟨H, eH⟩ : ∃ H, H = s.heap := ⟨_, rfl⟩
  obtain ⟨locs, eL⟩ : ∃ locs : List Loc, locs = [] := ⟨_, rfl⟩
  replace hP : va_P D vwCl [] H := by rw [eH]; exact hP
  replace hS : va_S A s.heap H locs := by rw [eH, eL]; exact hS
  suffices hgo : W p l e ({ frames := 1, cells := 0, slots := 0, locals := 20 } : Room) s m ([.int a0, .int a1] : List Value).toArray below meth c H locs 0 0 (MQ below (va_Qi P (fun u t => va_P D vwCl [] t.heap) A) ([.int a0, .int a1] : List Value).toArray s 0 0 A) (F0 m 0 ls []) by rw [eH, eL] at hgo; exact hgo
  clear eH eL
  refine lv_iload_n hx hb dX6_signed_0 rfl (lv_at hl 0 rfl) ?_
  refine lv_iload_n hx hb dX6_signed_1 rfl (lv_at hl 1 rfl) ?_
  refine cl_Si (As := [.int a1]) (rest := [.int a0]) (st := [.int a1, .int a0]) S hK hA hP hD hS Fr_nil (kcX6_top l D cB cI  H.size a1 () _ hw) (va_cwS 1 hts gX6_signed_X6_top rfl rfl rfl (by decide +kernel) ⟨Nat.le_of_ble_eq_true rfl, Nat.le_of_ble_eq_true rfl⟩) tru_h tru_b rfl rfl hl.1 (Nat.le_of_ble_eq_true rfl) dX6_signed_2 ⟨Nat.zero_le _, Nat.zero_le _⟩ (fun r2 u1 H locs hP hD hS hw => ?_)
  replace hP : va_P D vwCl [] H := hP
  replace hD : va_D A [] := hD
  refine lv_iand hx hb dX6_signed_5 ?_
  refine lv_if_eq (tgt := 20) hx hb dX6_signed_6 (by decide) (fun c3 => ?_) (fun c3 => ?_)
  · replace hw := hw.1 c3
    refine lv_iload_n hx hb dX6_signed_20 rfl (lv_at hl 0 rfl) ?_
    exact rt_i (wo := (fun _ => [])) S hr hlk u hP hS hw dX6_signed_21
  · replace hw := hw.2 c3
    refine lv_iload_n hx hb dX6_signed_9 rfl (lv_at hl 0 rfl) ?_
    refine lv_iload_n hx hb dX6_signed_10 rfl (lv_at hl 1 rfl) ?_
    refine cl_Si (As := [.int a1]) (rest := [.int a0]) (st := [.int a1, .int a0]) S hK hA hP hD hS Fr_nil (kcX6_all l D cB cI  H.size a1 () _ hw) (va_cwS 1 hts gX6_signed_X6_all rfl rfl rfl (by decide +kernel) ⟨Nat.le_of_ble_eq_true rfl, Nat.le_of_ble_eq_true rfl⟩) tru_h tru_b rfl rfl hl.1 (Nat.le_of_ble_eq_true rfl) dX6_signed_11 ⟨Nat.zero_le _, Nat.zero_le _⟩ (fun r5 u4 H locs hP hD hS hw => ?_)
    replace hP : va_P D vwCl [] H := hP
    replace hD : va_D A [] := hD
    refine lv_isub hx hb dX6_signed_14 ?_
    refine lv_iconst (v := (1 : Int32)) hx hb dX6_signed_15 (by decide) ?_
    refine lv_isub hx hb dX6_signed_16 ?_
    refine lv_goto (tgt := 21) hx hb dX6_signed_17 (by decide) ?_
    exact rt_i (wo := (fun _ => [])) S hr hlk u hP hS hw dX6_signed_21
-- X6_byAnswer
def wX6_byAnswer_b76 (a1 : Int32) (a2 : Int32) (P : SQ → Prop) (s2 : Int32) (u : SQ) : Prop := (wX6_mark (4 : Int32) s2 u (fun u11 => (P u11)))
def wX6_byAnswer_b41 (a1 : Int32) (a2 : Int32) (P : SQ → Prop) : Nat → Int32 → Int32 → SQ → Prop
  | 0, _, _, _ => False
  | n + 1, x3, x4, u => (((8 : Int32) ≤ x4 → (¬ (2 : Int32) = (0 : Int32) ∧ (((x3 - x3 / (2 : Int32) * (2 : Int32)) = (0 : Int32) → (wX6_byAnswer_b76 a1 a2 P (1 : Int32) u)) ∧ (¬ (x3 - x3 / (2 : Int32) * (2 : Int32)) = (0 : Int32) → (wX6_byAnswer_b76 a1 a2 P (0 : Int32) u))))) ∧ (¬ (8 : Int32) ≤ x4 → (wX6_byAnswer_b41 a1 a2 P n (x3 + ((a1 >>> (x4 &&& 31)) &&& (1 : Int32))) (x4 + (1 : Int32)) u)))
def wX6_byAnswer_b33 (a1 : Int32) (a2 : Int32) (P : SQ → Prop) (s2 : Int32) (u : SQ) : Prop := (wX6_mark (128 : Int32) s2 u (fun u7 => (∃ n, wX6_byAnswer_b41 a1 a2 P n (0 : Int32) (0 : Int32) u7)))
def wX6_byAnswer_b12 (a1 : Int32) (a2 : Int32) (P : SQ → Prop) (s2 : Int32) (u : SQ) : Prop := (wX6_mark (64 : Int32) s2 u (fun u2 => (wX6_top a2 () (fun r5 u4 => (((a1 &&& r5) = (0 : Int32) → (wX6_byAnswer_b33 a1 a2 P (0 : Int32) u2)) ∧ (¬ (a1 &&& r5) = (0 : Int32) → (wX6_byAnswer_b33 a1 a2 P (1 : Int32) u2)))))))
def wX6_byAnswer (a1 : Int32) (a2 : Int32) (u : SQ) (P : SQ → Prop) : Prop := ((a1 = (0 : Int32) → (wX6_byAnswer_b12 a1 a2 P (1 : Int32) u)) ∧ (¬ a1 = (0 : Int32) → (wX6_byAnswer_b12 a1 a2 P (0 : Int32) u)))
set_option maxHeartbeats 4000000 in
set_option maxRecDepth 100000 in
theorem kcX6_byAnswer (l : Launch) (D : va_G) (cB cI : ClassId) (h0 h1 h2 h3 h4 h5 : Nat) (sz : Nat) (a1 : Int32) (a2 : Int32) (u : SQ) (P : SQ → Prop) (hw : wX6_byAnswer a1 a2 u P) : Met l yX6_byAnswer wsX6_byAnswer ({ frames := 1, cells := 0, slots := 0, locals := 22 } : Room) (va_Pc [.ref h0, .int a1, .int a2] (Pcw D (tyA cB cI) (WQ cI h0 h1 h2 h3 h4 h5 u) sz Tru)) (va_Qv P (fun u t => va_P D vwCl (WQ cI h0 h1 h2 h3 h4 h5 u) t.heap) (va_A (WQ cI h0 h1 h2 h3 h4 h5 u) sz)) 0 0 (va_A (WQ cI h0 h1 h2 h3 h4 h5 u) sz) := by
  refine en_ (cc := cX6_byAnswer) (maxL := 5) (ret := none) (own := RX6) (lv := [(0, .ref h0), (1, .int a1), (2, .int a2)]) (Qf := fun A => va_Qv P (fun u t => va_P D vwCl (WQ cI h0 h1 h2 h3 h4 h5 u) t.heap) A) (by decide) rfl rfl (Nat.le_of_ble_eq_true rfl) rfl ?_
  intro p e s m below meth c A ls S hr hlk hname hsz hP hK hD hA hSub hS hE hl
  have hx := S.1
  have hb := S.2.1
  have hown := S.2.2.2.1
  have hts := S.2.2.2.2
  have b76 : ∀ (s2 : Int32) (u : SQ) (H : Heap) (locs : List Loc) (ls : Array Slot), va_P D vwCl (WQ cI h0 h1 h2 h3 h4 h5 u) H → va_D A (WQ cI h0 h1 h2 h3 h4 h5 u) → va_S A s.heap H locs → lv_has ls 5 [] → wX6_byAnswer_b76 a1 a2 P s2 u → W p l e ({ frames := 1, cells := 0, slots := 0, locals := 22 } : Room) s m ([.ref h0, .int a1, .int a2] : List Value).toArray below meth c H locs 0 0 (MQ below (va_Qv P (fun u t => va_P D vwCl (WQ cI h0 h1 h2 h3 h4 h5 u) t.heap) A) ([.ref h0, .int a1, .int a2] : List Value).toArray s 0 0 A) (F0 m 76 ls [.int s2, .int (4 : Int32), .ref h0]) := by
    intro s2 u H locs ls hP hD hS hl hw
    unfold wX6_byAnswer_b76 at hw
    refine cl_Vv (As := [.int (4 : Int32), .int s2]) (rest := []) (st := [.int s2, .int (4 : Int32), .ref h0]) S hK hA hP hD hS (fr_Q u) (kcX6_mark l D cB cI h0 h1 h2 h3 h4 h5 H.size (4 : Int32) s2 u _ hw) (cwV 2 hts gX6_byAnswer_X6_mark rfl rfl rfl (by decide +kernel) ⟨Nat.le_of_ble_eq_true rfl, Nat.le_of_ble_eq_true rfl⟩) tru_h tru_b 0 rfl rfl rfl rfl rfl hl.1 (Nat.le_of_ble_eq_true rfl) dX6_byAnswer_76 ⟨Nat.zero_le _, Nat.zero_le _⟩ (fun u11 H locs hP hD hS hw => ?_)
    replace hP : va_P D vwCl (WQ cI h0 h1 h2 h3 h4 h5 u11) H := hP
    replace hD : va_D A (WQ cI h0 h1 h2 h3 h4 h5 u11) := hD
    exact rt_v (wo := (fun v => WQ cI h0 h1 h2 h3 h4 h5 v)) S hr hlk u11 hP hS hw dX6_byAnswer_79
  have b41 : ∀ (n : Nat) (x3 : Int32) (x4 : Int32) (u : SQ) (H : Heap) (locs : List Loc) (ls : Array Slot), va_P D vwCl (WQ cI h0 h1 h2 h3 h4 h5 u) H → va_D A (WQ cI h0 h1 h2 h3 h4 h5 u) → va_S A s.heap H locs → lv_has ls 5 [(0, .ref h0), (1, .int a1), (3, .int x3), (4, .int x4)] → wX6_byAnswer_b41 a1 a2 P n x3 x4 u → W p l e ({ frames := 1, cells := 0, slots := 0, locals := 22 } : Room) s m ([.ref h0, .int a1, .int a2] : List Value).toArray below meth c H locs 0 0 (MQ below (va_Qv P (fun u t => va_P D vwCl (WQ cI h0 h1 h2 h3 h4 h5 u) t.heap) A) ([.ref h0, .int a1, .int a2] : List Value).toArray s 0 0 A) (F0 m 41 ls []) := by
    intro n
    induction n with
    | zero => intro x3 x4 u H locs ls hP hD hS hl hw; exact False.elim hw
    | succ n ih =>
      intro x3 x4 u H locs ls hP hD hS hl hw
      rw [wX6_byAnswer_b41] at hw
      refine lv_iload hx hb dX6_byAnswer_41 (lv_at hl 3 rfl) ?_
      refine lv_bipush (v := (8 : Int32)) hx hb dX6_byAnswer_43 (by decide) ?_
      refine lv_icmp_ge (tgt := 63) hx hb dX6_byAnswer_45 (by decide) (fun c9 => ?_) (fun c9 => ?_)
      · replace hw := hw.1 c9
        refine lv_aload_n hx hb dX6_byAnswer_63 rfl (lv_at hl 0 rfl) ?_
        refine lv_iconst (v := (4 : Int32)) hx hb dX6_byAnswer_64 (by decide) ?_
        refine lv_iload_n hx hb dX6_byAnswer_65 rfl (lv_at hl 2 rfl) ?_
        refine lv_iconst (v := (2 : Int32)) hx hb dX6_byAnswer_66 (by decide) ?_
        refine lv_irem hx hb dX6_byAnswer_67 hw.1 ?_
        replace hw := hw.2
        refine lv_if_ne (tgt := 75) hx hb dX6_byAnswer_68 (by decide) (fun c10 => ?_) (fun c10 => ?_)
        · replace hw := hw.2 c10
          refine lv_iconst (v := (0 : Int32)) hx hb dX6_byAnswer_75 (by decide) ?_
          exact b76 (0 : Int32) u H locs ls hP hD hS (lv_sub hl [] rfl) hw
        · replace hw := hw.1 c10
          refine lv_iconst (v := (1 : Int32)) hx hb dX6_byAnswer_71 (by decide) ?_
          refine lv_goto (tgt := 76) hx hb dX6_byAnswer_72 (by decide) ?_
          exact b76 (1 : Int32) u H locs ls hP hD hS (lv_sub hl [] rfl) hw
      · replace hw := hw.2 c9
        refine lv_iload_n hx hb dX6_byAnswer_48 rfl (lv_at hl 2 rfl) ?_
        refine lv_iload_n hx hb dX6_byAnswer_49 rfl (lv_at hl 1 rfl) ?_
        refine lv_iload hx hb dX6_byAnswer_50 (lv_at hl 3 rfl) ?_
        refine lv_ishr hx hb dX6_byAnswer_52 ?_
        refine lv_iconst (v := (1 : Int32)) hx hb dX6_byAnswer_53 (by decide) ?_
        refine lv_iand hx hb dX6_byAnswer_54 ?_
        refine lv_iadd hx hb dX6_byAnswer_55 ?_
        refine lv_istore_n (lv' := [(3, .int (x3 + ((a1 >>> (x4 &&& 31)) &&& (1 : Int32)))), (0, .ref h0), (1, .int a1), (4, .int x4)]) hx hb dX6_byAnswer_56 rfl hl (by decide) rfl (fun ls hl => ?_)
        refine lv_iinc (v := (x4 + (1 : Int32))) (lv' := [(4, .int (x4 + (1 : Int32))), (3, .int (x3 + ((a1 >>> (x4 &&& 31)) &&& (1 : Int32)))), (0, .ref h0), (1, .int a1)]) hx hb dX6_byAnswer_57 hl (k := 3) rfl rfl (by decide) rfl (fun ls hl => ?_)
        refine lv_goto (tgt := 41) hx hb dX6_byAnswer_60 (by decide) ?_
        exact ih (x3 + ((a1 >>> (x4 &&& 31)) &&& (1 : Int32))) (x4 + (1 : Int32)) u H locs ls hP hD hS (lv_sub hl [2, 3, 1, 0] rfl) hw
  have b33 : ∀ (s2 : Int32) (u : SQ) (H : Heap) (locs : List Loc) (ls : Array Slot), va_P D vwCl (WQ cI h0 h1 h2 h3 h4 h5 u) H → va_D A (WQ cI h0 h1 h2 h3 h4 h5 u) → va_S A s.heap H locs → lv_has ls 5 [(0, .ref h0), (1, .int a1)] → wX6_byAnswer_b33 a1 a2 P s2 u → W p l e ({ frames := 1, cells := 0, slots := 0, locals := 22 } : Room) s m ([.ref h0, .int a1, .int a2] : List Value).toArray below meth c H locs 0 0 (MQ below (va_Qv P (fun u t => va_P D vwCl (WQ cI h0 h1 h2 h3 h4 h5 u) t.heap) A) ([.ref h0, .int a1, .int a2] : List Value).toArray s 0 0 A) (F0 m 33 ls [.int s2, .int (128 : Int32), .ref h0]) := by
    intro s2 u H locs ls hP hD hS hl hw
    unfold wX6_byAnswer_b33 at hw
    refine cl_Vv (As := [.int (128 : Int32), .int s2]) (rest := []) (st := [.int s2, .int (128 : Int32), .ref h0]) S hK hA hP hD hS (fr_Q u) (kcX6_mark l D cB cI h0 h1 h2 h3 h4 h5 H.size (128 : Int32) s2 u _ hw) (cwV 2 hts gX6_byAnswer_X6_mark rfl rfl rfl (by decide +kernel) ⟨Nat.le_of_ble_eq_true rfl, Nat.le_of_ble_eq_true rfl⟩) tru_h tru_b 0 rfl rfl rfl rfl rfl hl.1 (Nat.le_of_ble_eq_true rfl) dX6_byAnswer_33 ⟨Nat.zero_le _, Nat.zero_le _⟩ (fun u7 H locs hP hD hS hw => ?_)
    replace hP : va_P D vwCl (WQ cI h0 h1 h2 h3 h4 h5 u7) H := hP
    replace hD : va_D A (WQ cI h0 h1 h2 h3 h4 h5 u7) := hD
    refine lv_iconst (v := (0 : Int32)) hx hb dX6_byAnswer_36 (by decide) ?_
    refine lv_istore_n (lv' := [(3, .int (0 : Int32)), (0, .ref h0), (1, .int a1)]) hx hb dX6_byAnswer_37 rfl hl (by decide) rfl (fun ls hl => ?_)
    refine lv_iconst (v := (0 : Int32)) hx hb dX6_byAnswer_38 (by decide) ?_
    refine lv_istore (lv' := [(4, .int (0 : Int32)), (3, .int (0 : Int32)), (0, .ref h0), (1, .int a1)]) hx hb dX6_byAnswer_39 hl (by decide) rfl (fun ls hl => ?_)
    obtain ⟨n, hw⟩ := hw
    exact b41 n (0 : Int32) (0 : Int32) u7 H locs ls hP hD hS (lv_sub hl [2, 3, 1, 0] rfl) hw
  have b12 : ∀ (s2 : Int32) (u : SQ) (H : Heap) (locs : List Loc) (ls : Array Slot), va_P D vwCl (WQ cI h0 h1 h2 h3 h4 h5 u) H → va_D A (WQ cI h0 h1 h2 h3 h4 h5 u) → va_S A s.heap H locs → lv_has ls 5 [(0, .ref h0), (1, .int a1), (2, .int a2)] → wX6_byAnswer_b12 a1 a2 P s2 u → W p l e ({ frames := 1, cells := 0, slots := 0, locals := 22 } : Room) s m ([.ref h0, .int a1, .int a2] : List Value).toArray below meth c H locs 0 0 (MQ below (va_Qv P (fun u t => va_P D vwCl (WQ cI h0 h1 h2 h3 h4 h5 u) t.heap) A) ([.ref h0, .int a1, .int a2] : List Value).toArray s 0 0 A) (F0 m 12 ls [.int s2, .int (64 : Int32), .ref h0]) := by
    intro s2 u H locs ls hP hD hS hl hw
    unfold wX6_byAnswer_b12 at hw
    refine cl_Vv (As := [.int (64 : Int32), .int s2]) (rest := []) (st := [.int s2, .int (64 : Int32), .ref h0]) S hK hA hP hD hS (fr_Q u) (kcX6_mark l D cB cI h0 h1 h2 h3 h4 h5 H.size (64 : Int32) s2 u _ hw) (cwV 2 hts gX6_byAnswer_X6_mark rfl rfl rfl (by decide +kernel) ⟨Nat.le_of_ble_eq_true rfl, Nat.le_of_ble_eq_true rfl⟩) tru_h tru_b 0 rfl rfl rfl rfl rfl hl.1 (Nat.le_of_ble_eq_true rfl) dX6_byAnswer_12 ⟨Nat.zero_le _, Nat.zero_le _⟩ (fun u2 H locs hP hD hS hw => ?_)
    replace hP : va_P D vwCl (WQ cI h0 h1 h2 h3 h4 h5 u2) H := hP
    replace hD : va_D A (WQ cI h0 h1 h2 h3 h4 h5 u2) := hD
    refine lv_aload_n hx hb dX6_byAnswer_15 rfl (lv_at hl 0 rfl) ?_
    refine lv_sipush (v := (128 : Int32)) hx hb dX6_byAnswer_16 (by decide) ?_
    refine lv_iload_n hx hb dX6_byAnswer_19 rfl (lv_at hl 1 rfl) ?_
    refine lv_iload_n hx hb dX6_byAnswer_20 rfl (lv_at hl 2 rfl) ?_
    refine cl_Si (As := [.int a2]) (rest := [.int a1, .int (128 : Int32), .ref h0]) (st := [.int a2, .int a1, .int (128 : Int32), .ref h0]) S hK hA hP hD hS Fr_nil (kcX6_top l D cB cI  H.size a2 () _ hw) (va_cwS 1 hts gX6_byAnswer_X6_top rfl rfl rfl (by decide +kernel) ⟨Nat.le_of_ble_eq_true rfl, Nat.le_of_ble_eq_true rfl⟩) tru_h tru_b rfl rfl hl.1 (Nat.le_of_ble_eq_true rfl) dX6_byAnswer_21 ⟨Nat.zero_le _, Nat.zero_le _⟩ (fun r5 u4 H locs hP hD hS hw => ?_)
    replace hP : va_P D vwCl (WQ cI h0 h1 h2 h3 h4 h5 u2) H := hP
    replace hD : va_D A (WQ cI h0 h1 h2 h3 h4 h5 u2) := hD
    refine lv_iand hx hb dX6_byAnswer_24 ?_
    refine lv_if_eq (tgt := 32) hx hb dX6_byAnswer_25 (by decide) (fun c6 => ?_) (fun c6 => ?_)
    · replace hw := hw.1 c6
      refine lv_iconst (v := (0 : Int32)) hx hb dX6_byAnswer_32 (by decide) ?_
      exact b33 (0 : Int32) u2 H locs ls hP hD hS (lv_sub hl [0, 1] rfl) hw
    · replace hw := hw.2 c6
      refine lv_iconst (v := (1 : Int32)) hx hb dX6_byAnswer_28 (by decide) ?_
      refine lv_goto (tgt := 33) hx hb dX6_byAnswer_29 (by decide) ?_
      exact b33 (1 : Int32) u2 H locs ls hP hD hS (lv_sub hl [0, 1] rfl) hw
  unfold wX6_byAnswer at hw
  obtain ⟨H, eH⟩ : ∃ H, H = s.heap := ⟨_, rfl⟩
  obtain ⟨locs, eL⟩ : ∃ locs : List Loc, locs = [] := ⟨_, rfl⟩
  replace hP : va_P D vwCl (WQ cI h0 h1 h2 h3 h4 h5 u) H := by rw [eH]; exact hP
  replace hS : va_S A s.heap H locs := by rw [eH, eL]; exact hS
  suffices hgo : W p l e ({ frames := 1, cells := 0, slots := 0, locals := 22 } : Room) s m ([.ref h0, .int a1, .int a2] : List Value).toArray below meth c H locs 0 0 (MQ below (va_Qv P (fun u t => va_P D vwCl (WQ cI h0 h1 h2 h3 h4 h5 u) t.heap) A) ([.ref h0, .int a1, .int a2] : List Value).toArray s 0 0 A) (F0 m 0 ls []) by rw [eH, eL] at hgo; exact hgo
  clear eH eL
  refine lv_aload_n hx hb dX6_byAnswer_0 rfl (lv_at hl 0 rfl) ?_
  refine lv_bipush (v := (64 : Int32)) hx hb dX6_byAnswer_1 (by decide) ?_
  refine lv_iload_n hx hb dX6_byAnswer_3 rfl (lv_at hl 1 rfl) ?_
  refine lv_if_ne (tgt := 11) hx hb dX6_byAnswer_4 (by decide) (fun c1 => ?_) (fun c1 => ?_)
  · replace hw := hw.2 c1
    refine lv_iconst (v := (0 : Int32)) hx hb dX6_byAnswer_11 (by decide) ?_
    exact b12 (0 : Int32) u H locs ls hP hD hS (lv_sub hl [0, 1, 2] rfl) hw
  · replace hw := hw.1 c1
    refine lv_iconst (v := (1 : Int32)) hx hb dX6_byAnswer_7 (by decide) ?_
    refine lv_goto (tgt := 12) hx hb dX6_byAnswer_8 (by decide) ?_
    exact b12 (1 : Int32) u H locs ls hP hD hS (lv_sub hl [0, 1, 2] rfl) hw
-- X6_sum
def wX6_sum_b101 (a1 : Int32) (a2 : Int32) (a3 : Int32) (a4 : Int32) (P : Int32 → SQ → Prop) (x5 : Int32) (s2 : Int32) (u : SQ) : Prop := (wX6_mark (2048 : Int32) s2 u (fun u19 => (wX6_all a4 () (fun r22 u21 => (wX6_byAnswer (x5 &&& r22) a4 u19 (fun u23 => (wX6_all a4 () (fun r26 u25 => (P (x5 &&& r26) u23)))))))))
def wX6_sum_b96 (a1 : Int32) (a2 : Int32) (a3 : Int32) (a4 : Int32) (P : Int32 → SQ → Prop) (x5 : Int32) (u : SQ) : Prop := (wX6_sum_b101 a1 a2 a3 a4 P x5 (1 : Int32) u)
def wX6_sum_b68 (a1 : Int32) (a2 : Int32) (a3 : Int32) (a4 : Int32) (P : Int32 → SQ → Prop) (x5 : Int32) (x6 : Int32) (s2 : Int32) (u : SQ) : Prop := (wX6_mark (16 : Int32) s2 u (fun u11 => (wX6_top a4 () (fun r14 u13 => ((x6 < (-r14) → (wX6_sum_b96 a1 a2 a3 a4 P x5 u11)) ∧ (¬ x6 < (-r14) → (wX6_top a4 () (fun r17 u16 => ((x6 < r17 → (wX6_sum_b101 a1 a2 a3 a4 P x5 (0 : Int32) u11)) ∧ (¬ x6 < r17 → (wX6_sum_b96 a1 a2 a3 a4 P x5 u11)))))))))))
def wX6_sum_b41 (a1 : Int32) (a2 : Int32) (a3 : Int32) (a4 : Int32) (P : Int32 → SQ → Prop) (x5 : Int32) (x6 : Int32) (s2 : Int32) (u : SQ) : Prop := (wX6_mark (1 : Int32) s2 u (fun u8 => (((((a1 &&& (15 : Int32)) + (a2 &&& (15 : Int32))) + a3) ≤ (15 : Int32) → (wX6_sum_b68 a1 a2 a3 a4 P x5 x6 (0 : Int32) u8)) ∧ (¬ (((a1 &&& (15 : Int32)) + (a2 &&& (15 : Int32))) + a3) ≤ (15 : Int32) → (wX6_sum_b68 a1 a2 a3 a4 P x5 x6 (1 : Int32) u8)))))
def wX6_sum (a1 : Int32) (a2 : Int32) (a3 : Int32) (a4 : Int32) (u : SQ) (P : Int32 → SQ → Prop) : Prop := (wX6_signed a1 a4 () (fun r2 u1 => (wX6_signed a2 a4 () (fun r4 u3 => (wX6_all a4 () (fun r6 u5 => ((((a1 + a2) + a3) ≤ r6 → (wX6_sum_b41 a1 a2 a3 a4 P ((a1 + a2) + a3) ((r2 + r4) + a3) (0 : Int32) u)) ∧ (¬ ((a1 + a2) + a3) ≤ r6 → (wX6_sum_b41 a1 a2 a3 a4 P ((a1 + a2) + a3) ((r2 + r4) + a3) (1 : Int32) u)))))))))
set_option maxHeartbeats 4000000 in
set_option maxRecDepth 100000 in
theorem kcX6_sum (l : Launch) (D : va_G) (cB cI : ClassId) (h0 h1 h2 h3 h4 h5 : Nat) (sz : Nat) (a1 : Int32) (a2 : Int32) (a3 : Int32) (a4 : Int32) (u : SQ) (P : Int32 → SQ → Prop) (hw : wX6_sum a1 a2 a3 a4 u P) : Met l yX6_sum wsX6_sum ({ frames := 2, cells := 0, slots := 0, locals := 46 } : Room) (va_Pc [.ref h0, .int a1, .int a2, .int a3, .int a4] (Pcw D (tyA cB cI) (WQ cI h0 h1 h2 h3 h4 h5 u) sz Tru)) (va_Qi P (fun u t => va_P D vwCl (WQ cI h0 h1 h2 h3 h4 h5 u) t.heap) (va_A (WQ cI h0 h1 h2 h3 h4 h5 u) sz)) 0 0 (va_A (WQ cI h0 h1 h2 h3 h4 h5 u) sz) := by
  refine en_ (cc := cX6_sum) (maxL := 7) (ret := (some .int)) (own := RX6) (lv := [(0, .ref h0), (1, .int a1), (2, .int a2), (3, .int a3), (4, .int a4)]) (Qf := fun A => va_Qi P (fun u t => va_P D vwCl (WQ cI h0 h1 h2 h3 h4 h5 u) t.heap) A) (by decide) rfl rfl (Nat.le_of_ble_eq_true rfl) rfl ?_
  intro p e s m below meth c A ls S hr hlk hname hsz hP hK hD hA hSub hS hE hl
  have hx := S.1
  have hb := S.2.1
  have hown := S.2.2.2.1
  have hts := S.2.2.2.2
  have b101 : ∀ (x5 : Int32) (s2 : Int32) (u : SQ) (H : Heap) (locs : List Loc) (ls : Array Slot), va_P D vwCl (WQ cI h0 h1 h2 h3 h4 h5 u) H → va_D A (WQ cI h0 h1 h2 h3 h4 h5 u) → va_S A s.heap H locs → lv_has ls 7 [(0, .ref h0), (4, .int a4), (5, .int x5)] → wX6_sum_b101 a1 a2 a3 a4 P x5 s2 u → W p l e ({ frames := 2, cells := 0, slots := 0, locals := 46 } : Room) s m ([.ref h0, .int a1, .int a2, .int a3, .int a4] : List Value).toArray below meth c H locs 0 0 (MQ below (va_Qi P (fun u t => va_P D vwCl (WQ cI h0 h1 h2 h3 h4 h5 u) t.heap) A) ([.ref h0, .int a1, .int a2, .int a3, .int a4] : List Value).toArray s 0 0 A) (F0 m 101 ls [.int s2, .int (2048 : Int32), .ref h0]) := by
    intro x5 s2 u H locs ls hP hD hS hl hw
    unfold wX6_sum_b101 at hw
    refine cl_Vv (As := [.int (2048 : Int32), .int s2]) (rest := []) (st := [.int s2, .int (2048 : Int32), .ref h0]) S hK hA hP hD hS (fr_Q u) (kcX6_mark l D cB cI h0 h1 h2 h3 h4 h5 H.size (2048 : Int32) s2 u _ hw) (cwV 2 hts gX6_sum_X6_mark rfl rfl rfl (by decide +kernel) ⟨Nat.le_of_ble_eq_true rfl, Nat.le_of_ble_eq_true rfl⟩) tru_h tru_b 0 rfl rfl rfl rfl rfl hl.1 (Nat.le_of_ble_eq_true rfl) dX6_sum_101 ⟨Nat.zero_le _, Nat.zero_le _⟩ (fun u19 H locs hP hD hS hw => ?_)
    replace hP : va_P D vwCl (WQ cI h0 h1 h2 h3 h4 h5 u19) H := hP
    replace hD : va_D A (WQ cI h0 h1 h2 h3 h4 h5 u19) := hD
    refine lv_aload_n hx hb dX6_sum_104 rfl (lv_at hl 0 rfl) ?_
    refine lv_iload hx hb dX6_sum_105 (lv_at hl 2 rfl) ?_
    refine lv_iload hx hb dX6_sum_107 (lv_at hl 1 rfl) ?_
    refine cl_Si (As := [.int a4]) (rest := [.int x5, .ref h0]) (st := [.int a4, .int x5, .ref h0]) S hK hA hP hD hS Fr_nil (kcX6_all l D cB cI  H.size a4 () _ hw) (va_cwS 1 hts gX6_sum_X6_all rfl rfl rfl (by decide +kernel) ⟨Nat.le_of_ble_eq_true rfl, Nat.le_of_ble_eq_true rfl⟩) tru_h tru_b rfl rfl hl.1 (Nat.le_of_ble_eq_true rfl) dX6_sum_109 ⟨Nat.zero_le _, Nat.zero_le _⟩ (fun r22 u21 H locs hP hD hS hw => ?_)
    replace hP : va_P D vwCl (WQ cI h0 h1 h2 h3 h4 h5 u19) H := hP
    replace hD : va_D A (WQ cI h0 h1 h2 h3 h4 h5 u19) := hD
    refine lv_iand hx hb dX6_sum_112 ?_
    refine lv_iload hx hb dX6_sum_113 (lv_at hl 1 rfl) ?_
    refine cl_Vv (As := [.int (x5 &&& r22), .int a4]) (rest := []) (st := [.int a4, .int (x5 &&& r22), .ref h0]) S hK hA hP hD hS (fr_Q u19) (kcX6_byAnswer l D cB cI h0 h1 h2 h3 h4 h5 H.size (x5 &&& r22) a4 u19 _ hw) (cwV 2 hts gX6_sum_X6_byAnswer rfl rfl rfl (by decide +kernel) ⟨Nat.le_of_ble_eq_true rfl, Nat.le_of_ble_eq_true rfl⟩) tru_h tru_b 0 rfl rfl rfl rfl rfl hl.1 (Nat.le_of_ble_eq_true rfl) dX6_sum_115 ⟨Nat.zero_le _, Nat.zero_le _⟩ (fun u23 H locs hP hD hS hw => ?_)
    replace hP : va_P D vwCl (WQ cI h0 h1 h2 h3 h4 h5 u23) H := hP
    replace hD : va_D A (WQ cI h0 h1 h2 h3 h4 h5 u23) := hD
    refine lv_iload hx hb dX6_sum_118 (lv_at hl 2 rfl) ?_
    refine lv_iload hx hb dX6_sum_120 (lv_at hl 1 rfl) ?_
    refine cl_Si (As := [.int a4]) (rest := [.int x5]) (st := [.int a4, .int x5]) S hK hA hP hD hS Fr_nil (kcX6_all l D cB cI  H.size a4 () _ hw) (va_cwS 1 hts gX6_sum_X6_all rfl rfl rfl (by decide +kernel) ⟨Nat.le_of_ble_eq_true rfl, Nat.le_of_ble_eq_true rfl⟩) tru_h tru_b rfl rfl hl.1 (Nat.le_of_ble_eq_true rfl) dX6_sum_122 ⟨Nat.zero_le _, Nat.zero_le _⟩ (fun r26 u25 H locs hP hD hS hw => ?_)
    replace hP : va_P D vwCl (WQ cI h0 h1 h2 h3 h4 h5 u23) H := hP
    replace hD : va_D A (WQ cI h0 h1 h2 h3 h4 h5 u23) := hD
    refine lv_iand hx hb dX6_sum_125 ?_
    exact rt_i (wo := (fun v => WQ cI h0 h1 h2 h3 h4 h5 v)) S hr hlk u23 hP hS hw dX6_sum_126
  have b96 : ∀ (x5 : Int32) (u : SQ) (H : Heap) (locs : List Loc) (ls : Array Slot), va_P D vwCl (WQ cI h0 h1 h2 h3 h4 h5 u) H → va_D A (WQ cI h0 h1 h2 h3 h4 h5 u) → va_S A s.heap H locs → lv_has ls 7 [(0, .ref h0), (4, .int a4), (5, .int x5)] → wX6_sum_b96 a1 a2 a3 a4 P x5 u → W p l e ({ frames := 2, cells := 0, slots := 0, locals := 46 } : Room) s m ([.ref h0, .int a1, .int a2, .int a3, .int a4] : List Value).toArray below meth c H locs 0 0 (MQ below (va_Qi P (fun u t => va_P D vwCl (WQ cI h0 h1 h2 h3 h4 h5 u) t.heap) A) ([.ref h0, .int a1, .int a2, .int a3, .int a4] : List Value).toArray s 0 0 A) (F0 m 96 ls [.int (2048 : Int32), .ref h0]) := by
    intro x5 u H locs ls hP hD hS hl hw
    unfold wX6_sum_b96 at hw
    refine lv_iconst (v := (1 : Int32)) hx hb dX6_sum_96 (by decide) ?_
    refine lv_goto (tgt := 101) hx hb dX6_sum_97 (by decide) ?_
    exact b101 x5 (1 : Int32) u H locs ls hP hD hS (lv_sub hl [0, 1, 2] rfl) hw
  have b68 : ∀ (x5 : Int32) (x6 : Int32) (s2 : Int32) (u : SQ) (H : Heap) (locs : List Loc) (ls : Array Slot), va_P D vwCl (WQ cI h0 h1 h2 h3 h4 h5 u) H → va_D A (WQ cI h0 h1 h2 h3 h4 h5 u) → va_S A s.heap H locs → lv_has ls 7 [(0, .ref h0), (4, .int a4), (5, .int x5), (6, .int x6)] → wX6_sum_b68 a1 a2 a3 a4 P x5 x6 s2 u → W p l e ({ frames := 2, cells := 0, slots := 0, locals := 46 } : Room) s m ([.ref h0, .int a1, .int a2, .int a3, .int a4] : List Value).toArray below meth c H locs 0 0 (MQ below (va_Qi P (fun u t => va_P D vwCl (WQ cI h0 h1 h2 h3 h4 h5 u) t.heap) A) ([.ref h0, .int a1, .int a2, .int a3, .int a4] : List Value).toArray s 0 0 A) (F0 m 68 ls [.int s2, .int (16 : Int32), .ref h0]) := by
    intro x5 x6 s2 u H locs ls hP hD hS hl hw
    unfold wX6_sum_b68 at hw
    refine cl_Vv (As := [.int (16 : Int32), .int s2]) (rest := []) (st := [.int s2, .int (16 : Int32), .ref h0]) S hK hA hP hD hS (fr_Q u) (kcX6_mark l D cB cI h0 h1 h2 h3 h4 h5 H.size (16 : Int32) s2 u _ hw) (cwV 2 hts gX6_sum_X6_mark rfl rfl rfl (by decide +kernel) ⟨Nat.le_of_ble_eq_true rfl, Nat.le_of_ble_eq_true rfl⟩) tru_h tru_b 0 rfl rfl rfl rfl rfl hl.1 (Nat.le_of_ble_eq_true rfl) dX6_sum_68 ⟨Nat.zero_le _, Nat.zero_le _⟩ (fun u11 H locs hP hD hS hw => ?_)
    replace hP : va_P D vwCl (WQ cI h0 h1 h2 h3 h4 h5 u11) H := hP
    replace hD : va_D A (WQ cI h0 h1 h2 h3 h4 h5 u11) := hD
    refine lv_aload_n hx hb dX6_sum_71 rfl (lv_at hl 0 rfl) ?_
    refine lv_sipush (v := (2048 : Int32)) hx hb dX6_sum_72 (by decide) ?_
    refine lv_iload hx hb dX6_sum_75 (lv_at hl 3 rfl) ?_
    refine lv_iload hx hb dX6_sum_77 (lv_at hl 1 rfl) ?_
    refine cl_Si (As := [.int a4]) (rest := [.int x6, .int (2048 : Int32), .ref h0]) (st := [.int a4, .int x6, .int (2048 : Int32), .ref h0]) S hK hA hP hD hS Fr_nil (kcX6_top l D cB cI  H.size a4 () _ hw) (va_cwS 1 hts gX6_sum_X6_top rfl rfl rfl (by decide +kernel) ⟨Nat.le_of_ble_eq_true rfl, Nat.le_of_ble_eq_true rfl⟩) tru_h tru_b rfl rfl hl.1 (Nat.le_of_ble_eq_true rfl) dX6_sum_79 ⟨Nat.zero_le _, Nat.zero_le _⟩ (fun r14 u13 H locs hP hD hS hw => ?_)
    replace hP : va_P D vwCl (WQ cI h0 h1 h2 h3 h4 h5 u11) H := hP
    replace hD : va_D A (WQ cI h0 h1 h2 h3 h4 h5 u11) := hD
    refine lv_ineg hx hb dX6_sum_82 ?_
    refine lv_icmp_lt (tgt := 96) hx hb dX6_sum_83 (by decide) (fun c15 => ?_) (fun c15 => ?_)
    · replace hw := hw.1 c15
      exact b96 x5 u11 H locs ls hP hD hS (lv_sub hl [0, 1, 2] rfl) hw
    · replace hw := hw.2 c15
      refine lv_iload hx hb dX6_sum_86 (lv_at hl 3 rfl) ?_
      refine lv_iload hx hb dX6_sum_88 (lv_at hl 1 rfl) ?_
      refine cl_Si (As := [.int a4]) (rest := [.int x6, .int (2048 : Int32), .ref h0]) (st := [.int a4, .int x6, .int (2048 : Int32), .ref h0]) S hK hA hP hD hS Fr_nil (kcX6_top l D cB cI  H.size a4 () _ hw) (va_cwS 1 hts gX6_sum_X6_top rfl rfl rfl (by decide +kernel) ⟨Nat.le_of_ble_eq_true rfl, Nat.le_of_ble_eq_true rfl⟩) tru_h tru_b rfl rfl hl.1 (Nat.le_of_ble_eq_true rfl) dX6_sum_90 ⟨Nat.zero_le _, Nat.zero_le _⟩ (fun r17 u16 H locs hP hD hS hw => ?_)
      replace hP : va_P D vwCl (WQ cI h0 h1 h2 h3 h4 h5 u11) H := hP
      replace hD : va_D A (WQ cI h0 h1 h2 h3 h4 h5 u11) := hD
      refine lv_icmp_lt (tgt := 100) hx hb dX6_sum_93 (by decide) (fun c18 => ?_) (fun c18 => ?_)
      · replace hw := hw.1 c18
        refine lv_iconst (v := (0 : Int32)) hx hb dX6_sum_100 (by decide) ?_
        exact b101 x5 (0 : Int32) u11 H locs ls hP hD hS (lv_sub hl [0, 1, 2] rfl) hw
      · replace hw := hw.2 c18
        exact b96 x5 u11 H locs ls hP hD hS (lv_sub hl [0, 1, 2] rfl) hw
  have b41 : ∀ (x5 : Int32) (x6 : Int32) (s2 : Int32) (u : SQ) (H : Heap) (locs : List Loc) (ls : Array Slot), va_P D vwCl (WQ cI h0 h1 h2 h3 h4 h5 u) H → va_D A (WQ cI h0 h1 h2 h3 h4 h5 u) → va_S A s.heap H locs → lv_has ls 7 [(0, .ref h0), (1, .int a1), (2, .int a2), (3, .int a3), (4, .int a4), (5, .int x5), (6, .int x6)] → wX6_sum_b41 a1 a2 a3 a4 P x5 x6 s2 u → W p l e ({ frames := 2, cells := 0, slots := 0, locals := 46 } : Room) s m ([.ref h0, .int a1, .int a2, .int a3, .int a4] : List Value).toArray below meth c H locs 0 0 (MQ below (va_Qi P (fun u t => va_P D vwCl (WQ cI h0 h1 h2 h3 h4 h5 u) t.heap) A) ([.ref h0, .int a1, .int a2, .int a3, .int a4] : List Value).toArray s 0 0 A) (F0 m 41 ls [.int s2, .int (1 : Int32), .ref h0]) := by
    intro x5 x6 s2 u H locs ls hP hD hS hl hw
    unfold wX6_sum_b41 at hw
    refine cl_Vv (As := [.int (1 : Int32), .int s2]) (rest := []) (st := [.int s2, .int (1 : Int32), .ref h0]) S hK hA hP hD hS (fr_Q u) (kcX6_mark l D cB cI h0 h1 h2 h3 h4 h5 H.size (1 : Int32) s2 u _ hw) (cwV 2 hts gX6_sum_X6_mark rfl rfl rfl (by decide +kernel) ⟨Nat.le_of_ble_eq_true rfl, Nat.le_of_ble_eq_true rfl⟩) tru_h tru_b 0 rfl rfl rfl rfl rfl hl.1 (Nat.le_of_ble_eq_true rfl) dX6_sum_41 ⟨Nat.zero_le _, Nat.zero_le _⟩ (fun u8 H locs hP hD hS hw => ?_)
    replace hP : va_P D vwCl (WQ cI h0 h1 h2 h3 h4 h5 u8) H := hP
    replace hD : va_D A (WQ cI h0 h1 h2 h3 h4 h5 u8) := hD
    refine lv_aload_n hx hb dX6_sum_44 rfl (lv_at hl 0 rfl) ?_
    refine lv_bipush (v := (16 : Int32)) hx hb dX6_sum_45 (by decide) ?_
    refine lv_iload_n hx hb dX6_sum_47 rfl (lv_at hl 1 rfl) ?_
    refine lv_bipush (v := (15 : Int32)) hx hb dX6_sum_48 (by decide) ?_
    refine lv_iand hx hb dX6_sum_50 ?_
    refine lv_iload_n hx hb dX6_sum_51 rfl (lv_at hl 2 rfl) ?_
    refine lv_bipush (v := (15 : Int32)) hx hb dX6_sum_52 (by decide) ?_
    refine lv_iand hx hb dX6_sum_54 ?_
    refine lv_iadd hx hb dX6_sum_55 ?_
    refine lv_iload_n hx hb dX6_sum_56 rfl (lv_at hl 3 rfl) ?_
    refine lv_iadd hx hb dX6_sum_57 ?_
    refine lv_bipush (v := (15 : Int32)) hx hb dX6_sum_58 (by decide) ?_
    refine lv_icmp_le (tgt := 67) hx hb dX6_sum_60 (by decide) (fun c10 => ?_) (fun c10 => ?_)
    · replace hw := hw.1 c10
      refine lv_iconst (v := (0 : Int32)) hx hb dX6_sum_67 (by decide) ?_
      exact b68 x5 x6 (0 : Int32) u8 H locs ls hP hD hS (lv_sub hl [0, 4, 5, 6] rfl) hw
    · replace hw := hw.2 c10
      refine lv_iconst (v := (1 : Int32)) hx hb dX6_sum_63 (by decide) ?_
      refine lv_goto (tgt := 68) hx hb dX6_sum_64 (by decide) ?_
      exact b68 x5 x6 (1 : Int32) u8 H locs ls hP hD hS (lv_sub hl [0, 4, 5, 6] rfl) hw
  unfold wX6_sum at hw
  obtain ⟨H, eH⟩ : ∃ H, H = s.heap := ⟨_, rfl⟩
  obtain ⟨locs, eL⟩ : ∃ locs : List Loc, locs = [] := ⟨_, rfl⟩
  replace hP : va_P D vwCl (WQ cI h0 h1 h2 h3 h4 h5 u) H := by rw [eH]; exact hP
  replace hS : va_S A s.heap H locs := by rw [eH, eL]; exact hS
  suffices hgo : W p l e ({ frames := 2, cells := 0, slots := 0, locals := 46 } : Room) s m ([.ref h0, .int a1, .int a2, .int a3, .int a4] : List Value).toArray below meth c H locs 0 0 (MQ below (va_Qi P (fun u t => va_P D vwCl (WQ cI h0 h1 h2 h3 h4 h5 u) t.heap) A) ([.ref h0, .int a1, .int a2, .int a3, .int a4] : List Value).toArray s 0 0 A) (F0 m 0 ls []) by rw [eH, eL] at hgo; exact hgo
  clear eH eL
  refine lv_iload_n hx hb dX6_sum_0 rfl (lv_at hl 1 rfl) ?_
  refine lv_iload_n hx hb dX6_sum_1 rfl (lv_at hl 2 rfl) ?_
  refine lv_iadd hx hb dX6_sum_2 ?_
  refine lv_iload_n hx hb dX6_sum_3 rfl (lv_at hl 3 rfl) ?_
  refine lv_iadd hx hb dX6_sum_4 ?_
  refine lv_istore (lv' := [(5, .int ((a1 + a2) + a3)), (0, .ref h0), (1, .int a1), (2, .int a2), (3, .int a3), (4, .int a4)]) hx hb dX6_sum_5 hl (by decide) rfl (fun ls hl => ?_)
  refine lv_iload_n hx hb dX6_sum_7 rfl (lv_at hl 2 rfl) ?_
  refine lv_iload hx hb dX6_sum_8 (lv_at hl 5 rfl) ?_
  refine cl_Si (As := [.int a1, .int a4]) (rest := []) (st := [.int a4, .int a1]) S hK hA hP hD hS Fr_nil (kcX6_signed l D cB cI  H.size a1 a4 () _ hw) (va_cwS 2 hts gX6_sum_X6_signed rfl rfl rfl (by decide +kernel) ⟨Nat.le_of_ble_eq_true rfl, Nat.le_of_ble_eq_true rfl⟩) tru_h tru_b rfl rfl hl.1 (Nat.le_of_ble_eq_true rfl) dX6_sum_10 ⟨Nat.zero_le _, Nat.zero_le _⟩ (fun r2 u1 H locs hP hD hS hw => ?_)
  replace hP : va_P D vwCl (WQ cI h0 h1 h2 h3 h4 h5 u) H := hP
  replace hD : va_D A (WQ cI h0 h1 h2 h3 h4 h5 u) := hD
  refine lv_iload_n hx hb dX6_sum_13 rfl (lv_at hl 3 rfl) ?_
  refine lv_iload hx hb dX6_sum_14 (lv_at hl 5 rfl) ?_
  refine cl_Si (As := [.int a2, .int a4]) (rest := [.int r2]) (st := [.int a4, .int a2, .int r2]) S hK hA hP hD hS Fr_nil (kcX6_signed l D cB cI  H.size a2 a4 () _ hw) (va_cwS 2 hts gX6_sum_X6_signed rfl rfl rfl (by decide +kernel) ⟨Nat.le_of_ble_eq_true rfl, Nat.le_of_ble_eq_true rfl⟩) tru_h tru_b rfl rfl hl.1 (Nat.le_of_ble_eq_true rfl) dX6_sum_16 ⟨Nat.zero_le _, Nat.zero_le _⟩ (fun r4 u3 H locs hP hD hS hw => ?_)
  replace hP : va_P D vwCl (WQ cI h0 h1 h2 h3 h4 h5 u) H := hP
  replace hD : va_D A (WQ cI h0 h1 h2 h3 h4 h5 u) := hD
  refine lv_iadd hx hb dX6_sum_19 ?_
  refine lv_iload_n hx hb dX6_sum_20 rfl (lv_at hl 4 rfl) ?_
  refine lv_iadd hx hb dX6_sum_21 ?_
  refine lv_istore (lv' := [(6, .int ((r2 + r4) + a3)), (5, .int ((a1 + a2) + a3)), (0, .ref h0), (1, .int a1), (2, .int a2), (3, .int a3), (4, .int a4)]) hx hb dX6_sum_22 hl (by decide) rfl (fun ls hl => ?_)
  refine lv_aload_n hx hb dX6_sum_24 rfl (lv_at hl 2 rfl) ?_
  refine lv_iconst (v := (1 : Int32)) hx hb dX6_sum_25 (by decide) ?_
  refine lv_iload hx hb dX6_sum_26 (lv_at hl 1 rfl) ?_
  refine lv_iload hx hb dX6_sum_28 (lv_at hl 6 rfl) ?_
  refine cl_Si (As := [.int a4]) (rest := [.int ((a1 + a2) + a3), .int (1 : Int32), .ref h0]) (st := [.int a4, .int ((a1 + a2) + a3), .int (1 : Int32), .ref h0]) S hK hA hP hD hS Fr_nil (kcX6_all l D cB cI  H.size a4 () _ hw) (va_cwS 1 hts gX6_sum_X6_all rfl rfl rfl (by decide +kernel) ⟨Nat.le_of_ble_eq_true rfl, Nat.le_of_ble_eq_true rfl⟩) tru_h tru_b rfl rfl hl.1 (Nat.le_of_ble_eq_true rfl) dX6_sum_30 ⟨Nat.zero_le _, Nat.zero_le _⟩ (fun r6 u5 H locs hP hD hS hw => ?_)
  replace hP : va_P D vwCl (WQ cI h0 h1 h2 h3 h4 h5 u) H := hP
  replace hD : va_D A (WQ cI h0 h1 h2 h3 h4 h5 u) := hD
  refine lv_icmp_le (tgt := 40) hx hb dX6_sum_33 (by decide) (fun c7 => ?_) (fun c7 => ?_)
  · replace hw := hw.1 c7
    refine lv_iconst (v := (0 : Int32)) hx hb dX6_sum_40 (by decide) ?_
    exact b41 ((a1 + a2) + a3) ((r2 + r4) + a3) (0 : Int32) u H locs ls hP hD hS (lv_sub hl [2, 3, 4, 5, 6, 1, 0] rfl) hw
  · replace hw := hw.2 c7
    refine lv_iconst (v := (1 : Int32)) hx hb dX6_sum_36 (by decide) ?_
    refine lv_goto (tgt := 41) hx hb dX6_sum_37 (by decide) ?_
    exact b41 ((a1 + a2) + a3) ((r2 + r4) + a3) (1 : Int32) u H locs ls hP hD hS (lv_sub hl [2, 3, 4, 5, 6, 1, 0] rfl) hw
-- X6_difference
def wX6_difference_b94 (a1 : Int32) (a2 : Int32) (a3 : Int32) (a4 : Int32) (P : Int32 → SQ → Prop) (x5 : Int32) (s2 : Int32) (u : SQ) : Prop := (wX6_mark (2048 : Int32) s2 u (fun u17 => (wX6_all a4 () (fun r20 u19 => (wX6_byAnswer (x5 &&& r20) a4 u17 (fun u21 => (wX6_all a4 () (fun r24 u23 => (P (x5 &&& r24) u21)))))))))
def wX6_difference_b89 (a1 : Int32) (a2 : Int32) (a3 : Int32) (a4 : Int32) (P : Int32 → SQ → Prop) (x5 : Int32) (u : SQ) : Prop := (wX6_difference_b94 a1 a2 a3 a4 P x5 (1 : Int32) u)
def wX6_difference_b61 (a1 : Int32) (a2 : Int32) (a3 : Int32) (a4 : Int32) (P : Int32 → SQ → Prop) (x5 : Int32) (x6 : Int32) (s2 : Int32) (u : SQ) : Prop := (wX6_mark (16 : Int32) s2 u (fun u9 => (wX6_top a4 () (fun r12 u11 => ((x6 < (-r12) → (wX6_difference_b89 a1 a2 a3 a4 P x5 u9)) ∧ (¬ x6 < (-r12) → (wX6_top a4 () (fun r15 u14 => ((x6 < r15 → (wX6_difference_b94 a1 a2 a3 a4 P x5 (0 : Int32) u9)) ∧ (¬ x6 < r15 → (wX6_difference_b89 a1 a2 a3 a4 P x5 u9)))))))))))
def wX6_difference_b36 (a1 : Int32) (a2 : Int32) (a3 : Int32) (a4 : Int32) (P : Int32 → SQ → Prop) (x5 : Int32) (x6 : Int32) (s2 : Int32) (u : SQ) : Prop := (wX6_mark (1 : Int32) s2 u (fun u6 => (((0 : Int32) ≤ (((a1 &&& (15 : Int32)) - (a2 &&& (15 : Int32))) - a3) → (wX6_difference_b61 a1 a2 a3 a4 P x5 x6 (0 : Int32) u6)) ∧ (¬ (0 : Int32) ≤ (((a1 &&& (15 : Int32)) - (a2 &&& (15 : Int32))) - a3) → (wX6_difference_b61 a1 a2 a3 a4 P x5 x6 (1 : Int32) u6)))))
def wX6_difference (a1 : Int32) (a2 : Int32) (a3 : Int32) (a4 : Int32) (u : SQ) (P : Int32 → SQ → Prop) : Prop := (wX6_signed a1 a4 () (fun r2 u1 => (wX6_signed a2 a4 () (fun r4 u3 => (((0 : Int32) ≤ ((a1 - a2) - a3) → (wX6_difference_b36 a1 a2 a3 a4 P ((a1 - a2) - a3) ((r2 - r4) - a3) (0 : Int32) u)) ∧ (¬ (0 : Int32) ≤ ((a1 - a2) - a3) → (wX6_difference_b36 a1 a2 a3 a4 P ((a1 - a2) - a3) ((r2 - r4) - a3) (1 : Int32) u)))))))
set_option maxHeartbeats 4000000 in
set_option maxRecDepth 100000 in
theorem kcX6_difference (l : Launch) (D : va_G) (cB cI : ClassId) (h0 h1 h2 h3 h4 h5 : Nat) (sz : Nat) (a1 : Int32) (a2 : Int32) (a3 : Int32) (a4 : Int32) (u : SQ) (P : Int32 → SQ → Prop) (hw : wX6_difference a1 a2 a3 a4 u P) : Met l yX6_difference wsX6_difference ({ frames := 2, cells := 0, slots := 0, locals := 46 } : Room) (va_Pc [.ref h0, .int a1, .int a2, .int a3, .int a4] (Pcw D (tyA cB cI) (WQ cI h0 h1 h2 h3 h4 h5 u) sz Tru)) (va_Qi P (fun u t => va_P D vwCl (WQ cI h0 h1 h2 h3 h4 h5 u) t.heap) (va_A (WQ cI h0 h1 h2 h3 h4 h5 u) sz)) 0 0 (va_A (WQ cI h0 h1 h2 h3 h4 h5 u) sz) := by
  refine en_ (cc := cX6_difference) (maxL := 7) (ret := (some .int)) (own := RX6) (lv := [(0, .ref h0), (1, .int a1), (2, .int a2), (3, .int a3), (4, .int a4)]) (Qf := fun A => va_Qi P (fun u t => va_P D vwCl (WQ cI h0 h1 h2 h3 h4 h5 u) t.heap) A) (by decide) rfl rfl (Nat.le_of_ble_eq_true rfl) rfl ?_
  intro p e s m below meth c A ls S hr hlk hname hsz hP hK hD hA hSub hS hE hl
  have hx := S.1
  have hb := S.2.1
  have hown := S.2.2.2.1
  have hts := S.2.2.2.2
  have b94 : ∀ (x5 : Int32) (s2 : Int32) (u : SQ) (H : Heap) (locs : List Loc) (ls : Array Slot), va_P D vwCl (WQ cI h0 h1 h2 h3 h4 h5 u) H → va_D A (WQ cI h0 h1 h2 h3 h4 h5 u) → va_S A s.heap H locs → lv_has ls 7 [(0, .ref h0), (4, .int a4), (5, .int x5)] → wX6_difference_b94 a1 a2 a3 a4 P x5 s2 u → W p l e ({ frames := 2, cells := 0, slots := 0, locals := 46 } : Room) s m ([.ref h0, .int a1, .int a2, .int a3, .int a4] : List Value).toArray below meth c H locs 0 0 (MQ below (va_Qi P (fun u t => va_P D vwCl (WQ cI h0 h1 h2 h3 h4 h5 u) t.heap) A) ([.ref h0, .int a1, .int a2, .int a3, .int a4] : List Value).toArray s 0 0 A) (F0 m 94 ls [.int s2, .int (2048 : Int32), .ref h0]) := by
    intro x5 s2 u H locs ls hP hD hS hl hw
    unfold wX6_difference_b94 at hw
    refine cl_Vv (As := [.int (2048 : Int32), .int s2]) (rest := []) (st := [.int s2, .int (2048 : Int32), .ref h0]) S hK hA hP hD hS (fr_Q u) (kcX6_mark l D cB cI h0 h1 h2 h3 h4 h5 H.size (2048 : Int32) s2 u _ hw) (cwV 2 hts gX6_difference_X6_mark rfl rfl rfl (by decide +kernel) ⟨Nat.le_of_ble_eq_true rfl, Nat.le_of_ble_eq_true rfl⟩) tru_h tru_b 0 rfl rfl rfl rfl rfl hl.1 (Nat.le_of_ble_eq_true rfl) dX6_difference_94 ⟨Nat.zero_le _, Nat.zero_le _⟩ (fun u17 H locs hP hD hS hw => ?_)
    replace hP : va_P D vwCl (WQ cI h0 h1 h2 h3 h4 h5 u17) H := hP
    replace hD : va_D A (WQ cI h0 h1 h2 h3 h4 h5 u17) := hD
    refine lv_aload_n hx hb dX6_difference_97 rfl (lv_at hl 0 rfl) ?_
    refine lv_iload hx hb dX6_difference_98 (lv_at hl 2 rfl) ?_
    refine lv_iload hx hb dX6_difference_100 (lv_at hl 1 rfl) ?_
    refine cl_Si (As := [.int a4]) (rest := [.int x5, .ref h0]) (st := [.int a4, .int x5, .ref h0]) S hK hA hP hD hS Fr_nil (kcX6_all l D cB cI  H.size a4 () _ hw) (va_cwS 1 hts gX6_difference_X6_all rfl rfl rfl (by decide +kernel) ⟨Nat.le_of_ble_eq_true rfl, Nat.le_of_ble_eq_true rfl⟩) tru_h tru_b rfl rfl hl.1 (Nat.le_of_ble_eq_true rfl) dX6_difference_102 ⟨Nat.zero_le _, Nat.zero_le _⟩ (fun r20 u19 H locs hP hD hS hw => ?_)
    replace hP : va_P D vwCl (WQ cI h0 h1 h2 h3 h4 h5 u17) H := hP
    replace hD : va_D A (WQ cI h0 h1 h2 h3 h4 h5 u17) := hD
    refine lv_iand hx hb dX6_difference_105 ?_
    refine lv_iload hx hb dX6_difference_106 (lv_at hl 1 rfl) ?_
    refine cl_Vv (As := [.int (x5 &&& r20), .int a4]) (rest := []) (st := [.int a4, .int (x5 &&& r20), .ref h0]) S hK hA hP hD hS (fr_Q u17) (kcX6_byAnswer l D cB cI h0 h1 h2 h3 h4 h5 H.size (x5 &&& r20) a4 u17 _ hw) (cwV 2 hts gX6_difference_X6_byAnswer rfl rfl rfl (by decide +kernel) ⟨Nat.le_of_ble_eq_true rfl, Nat.le_of_ble_eq_true rfl⟩) tru_h tru_b 0 rfl rfl rfl rfl rfl hl.1 (Nat.le_of_ble_eq_true rfl) dX6_difference_108 ⟨Nat.zero_le _, Nat.zero_le _⟩ (fun u21 H locs hP hD hS hw => ?_)
    replace hP : va_P D vwCl (WQ cI h0 h1 h2 h3 h4 h5 u21) H := hP
    replace hD : va_D A (WQ cI h0 h1 h2 h3 h4 h5 u21) := hD
    refine lv_iload hx hb dX6_difference_111 (lv_at hl 2 rfl) ?_
    refine lv_iload hx hb dX6_difference_113 (lv_at hl 1 rfl) ?_
    refine cl_Si (As := [.int a4]) (rest := [.int x5]) (st := [.int a4, .int x5]) S hK hA hP hD hS Fr_nil (kcX6_all l D cB cI  H.size a4 () _ hw) (va_cwS 1 hts gX6_difference_X6_all rfl rfl rfl (by decide +kernel) ⟨Nat.le_of_ble_eq_true rfl, Nat.le_of_ble_eq_true rfl⟩) tru_h tru_b rfl rfl hl.1 (Nat.le_of_ble_eq_true rfl) dX6_difference_115 ⟨Nat.zero_le _, Nat.zero_le _⟩ (fun r24 u23 H locs hP hD hS hw => ?_)
    replace hP : va_P D vwCl (WQ cI h0 h1 h2 h3 h4 h5 u21) H := hP
    replace hD : va_D A (WQ cI h0 h1 h2 h3 h4 h5 u21) := hD
    refine lv_iand hx hb dX6_difference_118 ?_
    exact rt_i (wo := (fun v => WQ cI h0 h1 h2 h3 h4 h5 v)) S hr hlk u21 hP hS hw dX6_difference_119
  have b89 : ∀ (x5 : Int32) (u : SQ) (H : Heap) (locs : List Loc) (ls : Array Slot), va_P D vwCl (WQ cI h0 h1 h2 h3 h4 h5 u) H → va_D A (WQ cI h0 h1 h2 h3 h4 h5 u) → va_S A s.heap H locs → lv_has ls 7 [(0, .ref h0), (4, .int a4), (5, .int x5)] → wX6_difference_b89 a1 a2 a3 a4 P x5 u → W p l e ({ frames := 2, cells := 0, slots := 0, locals := 46 } : Room) s m ([.ref h0, .int a1, .int a2, .int a3, .int a4] : List Value).toArray below meth c H locs 0 0 (MQ below (va_Qi P (fun u t => va_P D vwCl (WQ cI h0 h1 h2 h3 h4 h5 u) t.heap) A) ([.ref h0, .int a1, .int a2, .int a3, .int a4] : List Value).toArray s 0 0 A) (F0 m 89 ls [.int (2048 : Int32), .ref h0]) := by
    intro x5 u H locs ls hP hD hS hl hw
    unfold wX6_difference_b89 at hw
    refine lv_iconst (v := (1 : Int32)) hx hb dX6_difference_89 (by decide) ?_
    refine lv_goto (tgt := 94) hx hb dX6_difference_90 (by decide) ?_
    exact b94 x5 (1 : Int32) u H locs ls hP hD hS (lv_sub hl [0, 1, 2] rfl) hw
  have b61 : ∀ (x5 : Int32) (x6 : Int32) (s2 : Int32) (u : SQ) (H : Heap) (locs : List Loc) (ls : Array Slot), va_P D vwCl (WQ cI h0 h1 h2 h3 h4 h5 u) H → va_D A (WQ cI h0 h1 h2 h3 h4 h5 u) → va_S A s.heap H locs → lv_has ls 7 [(0, .ref h0), (4, .int a4), (5, .int x5), (6, .int x6)] → wX6_difference_b61 a1 a2 a3 a4 P x5 x6 s2 u → W p l e ({ frames := 2, cells := 0, slots := 0, locals := 46 } : Room) s m ([.ref h0, .int a1, .int a2, .int a3, .int a4] : List Value).toArray below meth c H locs 0 0 (MQ below (va_Qi P (fun u t => va_P D vwCl (WQ cI h0 h1 h2 h3 h4 h5 u) t.heap) A) ([.ref h0, .int a1, .int a2, .int a3, .int a4] : List Value).toArray s 0 0 A) (F0 m 61 ls [.int s2, .int (16 : Int32), .ref h0]) := by
    intro x5 x6 s2 u H locs ls hP hD hS hl hw
    unfold wX6_difference_b61 at hw
    refine cl_Vv (As := [.int (16 : Int32), .int s2]) (rest := []) (st := [.int s2, .int (16 : Int32), .ref h0]) S hK hA hP hD hS (fr_Q u) (kcX6_mark l D cB cI h0 h1 h2 h3 h4 h5 H.size (16 : Int32) s2 u _ hw) (cwV 2 hts gX6_difference_X6_mark rfl rfl rfl (by decide +kernel) ⟨Nat.le_of_ble_eq_true rfl, Nat.le_of_ble_eq_true rfl⟩) tru_h tru_b 0 rfl rfl rfl rfl rfl hl.1 (Nat.le_of_ble_eq_true rfl) dX6_difference_61 ⟨Nat.zero_le _, Nat.zero_le _⟩ (fun u9 H locs hP hD hS hw => ?_)
    replace hP : va_P D vwCl (WQ cI h0 h1 h2 h3 h4 h5 u9) H := hP
    replace hD : va_D A (WQ cI h0 h1 h2 h3 h4 h5 u9) := hD
    refine lv_aload_n hx hb dX6_difference_64 rfl (lv_at hl 0 rfl) ?_
    refine lv_sipush (v := (2048 : Int32)) hx hb dX6_difference_65 (by decide) ?_
    refine lv_iload hx hb dX6_difference_68 (lv_at hl 3 rfl) ?_
    refine lv_iload hx hb dX6_difference_70 (lv_at hl 1 rfl) ?_
    refine cl_Si (As := [.int a4]) (rest := [.int x6, .int (2048 : Int32), .ref h0]) (st := [.int a4, .int x6, .int (2048 : Int32), .ref h0]) S hK hA hP hD hS Fr_nil (kcX6_top l D cB cI  H.size a4 () _ hw) (va_cwS 1 hts gX6_difference_X6_top rfl rfl rfl (by decide +kernel) ⟨Nat.le_of_ble_eq_true rfl, Nat.le_of_ble_eq_true rfl⟩) tru_h tru_b rfl rfl hl.1 (Nat.le_of_ble_eq_true rfl) dX6_difference_72 ⟨Nat.zero_le _, Nat.zero_le _⟩ (fun r12 u11 H locs hP hD hS hw => ?_)
    replace hP : va_P D vwCl (WQ cI h0 h1 h2 h3 h4 h5 u9) H := hP
    replace hD : va_D A (WQ cI h0 h1 h2 h3 h4 h5 u9) := hD
    refine lv_ineg hx hb dX6_difference_75 ?_
    refine lv_icmp_lt (tgt := 89) hx hb dX6_difference_76 (by decide) (fun c13 => ?_) (fun c13 => ?_)
    · replace hw := hw.1 c13
      exact b89 x5 u9 H locs ls hP hD hS (lv_sub hl [0, 1, 2] rfl) hw
    · replace hw := hw.2 c13
      refine lv_iload hx hb dX6_difference_79 (lv_at hl 3 rfl) ?_
      refine lv_iload hx hb dX6_difference_81 (lv_at hl 1 rfl) ?_
      refine cl_Si (As := [.int a4]) (rest := [.int x6, .int (2048 : Int32), .ref h0]) (st := [.int a4, .int x6, .int (2048 : Int32), .ref h0]) S hK hA hP hD hS Fr_nil (kcX6_top l D cB cI  H.size a4 () _ hw) (va_cwS 1 hts gX6_difference_X6_top rfl rfl rfl (by decide +kernel) ⟨Nat.le_of_ble_eq_true rfl, Nat.le_of_ble_eq_true rfl⟩) tru_h tru_b rfl rfl hl.1 (Nat.le_of_ble_eq_true rfl) dX6_difference_83 ⟨Nat.zero_le _, Nat.zero_le _⟩ (fun r15 u14 H locs hP hD hS hw => ?_)
      replace hP : va_P D vwCl (WQ cI h0 h1 h2 h3 h4 h5 u9) H := hP
      replace hD : va_D A (WQ cI h0 h1 h2 h3 h4 h5 u9) := hD
      refine lv_icmp_lt (tgt := 93) hx hb dX6_difference_86 (by decide) (fun c16 => ?_) (fun c16 => ?_)
      · replace hw := hw.1 c16
        refine lv_iconst (v := (0 : Int32)) hx hb dX6_difference_93 (by decide) ?_
        exact b94 x5 (0 : Int32) u9 H locs ls hP hD hS (lv_sub hl [0, 1, 2] rfl) hw
      · replace hw := hw.2 c16
        exact b89 x5 u9 H locs ls hP hD hS (lv_sub hl [0, 1, 2] rfl) hw
  have b36 : ∀ (x5 : Int32) (x6 : Int32) (s2 : Int32) (u : SQ) (H : Heap) (locs : List Loc) (ls : Array Slot), va_P D vwCl (WQ cI h0 h1 h2 h3 h4 h5 u) H → va_D A (WQ cI h0 h1 h2 h3 h4 h5 u) → va_S A s.heap H locs → lv_has ls 7 [(0, .ref h0), (1, .int a1), (2, .int a2), (3, .int a3), (4, .int a4), (5, .int x5), (6, .int x6)] → wX6_difference_b36 a1 a2 a3 a4 P x5 x6 s2 u → W p l e ({ frames := 2, cells := 0, slots := 0, locals := 46 } : Room) s m ([.ref h0, .int a1, .int a2, .int a3, .int a4] : List Value).toArray below meth c H locs 0 0 (MQ below (va_Qi P (fun u t => va_P D vwCl (WQ cI h0 h1 h2 h3 h4 h5 u) t.heap) A) ([.ref h0, .int a1, .int a2, .int a3, .int a4] : List Value).toArray s 0 0 A) (F0 m 36 ls [.int s2, .int (1 : Int32), .ref h0]) := by
    intro x5 x6 s2 u H locs ls hP hD hS hl hw
    unfold wX6_difference_b36 at hw
    refine cl_Vv (As := [.int (1 : Int32), .int s2]) (rest := []) (st := [.int s2, .int (1 : Int32), .ref h0]) S hK hA hP hD hS (fr_Q u) (kcX6_mark l D cB cI h0 h1 h2 h3 h4 h5 H.size (1 : Int32) s2 u _ hw) (cwV 2 hts gX6_difference_X6_mark rfl rfl rfl (by decide +kernel) ⟨Nat.le_of_ble_eq_true rfl, Nat.le_of_ble_eq_true rfl⟩) tru_h tru_b 0 rfl rfl rfl rfl rfl hl.1 (Nat.le_of_ble_eq_true rfl) dX6_difference_36 ⟨Nat.zero_le _, Nat.zero_le _⟩ (fun u6 H locs hP hD hS hw => ?_)
    replace hP : va_P D vwCl (WQ cI h0 h1 h2 h3 h4 h5 u6) H := hP
    replace hD : va_D A (WQ cI h0 h1 h2 h3 h4 h5 u6) := hD
    refine lv_aload_n hx hb dX6_difference_39 rfl (lv_at hl 0 rfl) ?_
    refine lv_bipush (v := (16 : Int32)) hx hb dX6_difference_40 (by decide) ?_
    refine lv_iload_n hx hb dX6_difference_42 rfl (lv_at hl 1 rfl) ?_
    refine lv_bipush (v := (15 : Int32)) hx hb dX6_difference_43 (by decide) ?_
    refine lv_iand hx hb dX6_difference_45 ?_
    refine lv_iload_n hx hb dX6_difference_46 rfl (lv_at hl 2 rfl) ?_
    refine lv_bipush (v := (15 : Int32)) hx hb dX6_difference_47 (by decide) ?_
    refine lv_iand hx hb dX6_difference_49 ?_
    refine lv_isub hx hb dX6_difference_50 ?_
    refine lv_iload_n hx hb dX6_difference_51 rfl (lv_at hl 3 rfl) ?_
    refine lv_isub hx hb dX6_difference_52 ?_
    refine lv_if_ge (tgt := 60) hx hb dX6_difference_53 (by decide) (fun c8 => ?_) (fun c8 => ?_)
    · replace hw := hw.1 c8
      refine lv_iconst (v := (0 : Int32)) hx hb dX6_difference_60 (by decide) ?_
      exact b61 x5 x6 (0 : Int32) u6 H locs ls hP hD hS (lv_sub hl [0, 4, 5, 6] rfl) hw
    · replace hw := hw.2 c8
      refine lv_iconst (v := (1 : Int32)) hx hb dX6_difference_56 (by decide) ?_
      refine lv_goto (tgt := 61) hx hb dX6_difference_57 (by decide) ?_
      exact b61 x5 x6 (1 : Int32) u6 H locs ls hP hD hS (lv_sub hl [0, 4, 5, 6] rfl) hw
  unfold wX6_difference at hw
  obtain ⟨H, eH⟩ : ∃ H, H = s.heap := ⟨_, rfl⟩
  obtain ⟨locs, eL⟩ : ∃ locs : List Loc, locs = [] := ⟨_, rfl⟩
  replace hP : va_P D vwCl (WQ cI h0 h1 h2 h3 h4 h5 u) H := by rw [eH]; exact hP
  replace hS : va_S A s.heap H locs := by rw [eH, eL]; exact hS
  suffices hgo : W p l e ({ frames := 2, cells := 0, slots := 0, locals := 46 } : Room) s m ([.ref h0, .int a1, .int a2, .int a3, .int a4] : List Value).toArray below meth c H locs 0 0 (MQ below (va_Qi P (fun u t => va_P D vwCl (WQ cI h0 h1 h2 h3 h4 h5 u) t.heap) A) ([.ref h0, .int a1, .int a2, .int a3, .int a4] : List Value).toArray s 0 0 A) (F0 m 0 ls []) by rw [eH, eL] at hgo; exact hgo
  clear eH eL
  refine lv_iload_n hx hb dX6_difference_0 rfl (lv_at hl 1 rfl) ?_
  refine lv_iload_n hx hb dX6_difference_1 rfl (lv_at hl 2 rfl) ?_
  refine lv_isub hx hb dX6_difference_2 ?_
  refine lv_iload_n hx hb dX6_difference_3 rfl (lv_at hl 3 rfl) ?_
  refine lv_isub hx hb dX6_difference_4 ?_
  refine lv_istore (lv' := [(5, .int ((a1 - a2) - a3)), (0, .ref h0), (1, .int a1), (2, .int a2), (3, .int a3), (4, .int a4)]) hx hb dX6_difference_5 hl (by decide) rfl (fun ls hl => ?_)
  refine lv_iload_n hx hb dX6_difference_7 rfl (lv_at hl 2 rfl) ?_
  refine lv_iload hx hb dX6_difference_8 (lv_at hl 5 rfl) ?_
  refine cl_Si (As := [.int a1, .int a4]) (rest := []) (st := [.int a4, .int a1]) S hK hA hP hD hS Fr_nil (kcX6_signed l D cB cI  H.size a1 a4 () _ hw) (va_cwS 2 hts gX6_difference_X6_signed rfl rfl rfl (by decide +kernel) ⟨Nat.le_of_ble_eq_true rfl, Nat.le_of_ble_eq_true rfl⟩) tru_h tru_b rfl rfl hl.1 (Nat.le_of_ble_eq_true rfl) dX6_difference_10 ⟨Nat.zero_le _, Nat.zero_le _⟩ (fun r2 u1 H locs hP hD hS hw => ?_)
  replace hP : va_P D vwCl (WQ cI h0 h1 h2 h3 h4 h5 u) H := hP
  replace hD : va_D A (WQ cI h0 h1 h2 h3 h4 h5 u) := hD
  refine lv_iload_n hx hb dX6_difference_13 rfl (lv_at hl 3 rfl) ?_
  refine lv_iload hx hb dX6_difference_14 (lv_at hl 5 rfl) ?_
  refine cl_Si (As := [.int a2, .int a4]) (rest := [.int r2]) (st := [.int a4, .int a2, .int r2]) S hK hA hP hD hS Fr_nil (kcX6_signed l D cB cI  H.size a2 a4 () _ hw) (va_cwS 2 hts gX6_difference_X6_signed rfl rfl rfl (by decide +kernel) ⟨Nat.le_of_ble_eq_true rfl, Nat.le_of_ble_eq_true rfl⟩) tru_h tru_b rfl rfl hl.1 (Nat.le_of_ble_eq_true rfl) dX6_difference_16 ⟨Nat.zero_le _, Nat.zero_le _⟩ (fun r4 u3 H locs hP hD hS hw => ?_)
  replace hP : va_P D vwCl (WQ cI h0 h1 h2 h3 h4 h5 u) H := hP
  replace hD : va_D A (WQ cI h0 h1 h2 h3 h4 h5 u) := hD
  refine lv_isub hx hb dX6_difference_19 ?_
  refine lv_iload_n hx hb dX6_difference_20 rfl (lv_at hl 4 rfl) ?_
  refine lv_isub hx hb dX6_difference_21 ?_
  refine lv_istore (lv' := [(6, .int ((r2 - r4) - a3)), (5, .int ((a1 - a2) - a3)), (0, .ref h0), (1, .int a1), (2, .int a2), (3, .int a3), (4, .int a4)]) hx hb dX6_difference_22 hl (by decide) rfl (fun ls hl => ?_)
  refine lv_aload_n hx hb dX6_difference_24 rfl (lv_at hl 2 rfl) ?_
  refine lv_iconst (v := (1 : Int32)) hx hb dX6_difference_25 (by decide) ?_
  refine lv_iload hx hb dX6_difference_26 (lv_at hl 1 rfl) ?_
  refine lv_if_ge (tgt := 35) hx hb dX6_difference_28 (by decide) (fun c5 => ?_) (fun c5 => ?_)
  · replace hw := hw.1 c5
    refine lv_iconst (v := (0 : Int32)) hx hb dX6_difference_35 (by decide) ?_
    exact b36 ((a1 - a2) - a3) ((r2 - r4) - a3) (0 : Int32) u H locs ls hP hD hS (lv_sub hl [2, 3, 4, 5, 6, 1, 0] rfl) hw
  · replace hw := hw.2 c5
    refine lv_iconst (v := (1 : Int32)) hx hb dX6_difference_31 (by decide) ?_
    refine lv_goto (tgt := 36) hx hb dX6_difference_32 (by decide) ?_
    exact b36 ((a1 - a2) - a3) ((r2 - r4) - a3) (1 : Int32) u H locs ls hP hD hS (lv_sub hl [2, 3, 4, 5, 6, 1, 0] rfl) hw
-- X6_bits
def wX6_bits (a1 : Int32) (a2 : Int32) (u : SQ) (P : Int32 → SQ → Prop) : Prop := (wX6_byAnswer a1 a2 (qs_flags u ((q_flags u) &&& (-2066 : Int32))) (fun u1 => (P a1 u1)))
set_option maxHeartbeats 4000000 in
set_option maxRecDepth 100000 in
theorem kcX6_bits (l : Launch) (D : va_G) (cB cI : ClassId) (h0 h1 h2 h3 h4 h5 : Nat) (sz : Nat) (a1 : Int32) (a2 : Int32) (u : SQ) (P : Int32 → SQ → Prop) (hw : wX6_bits a1 a2 u P) : Met l yX6_bits wsX6_bits ({ frames := 2, cells := 0, slots := 0, locals := 46 } : Room) (va_Pc [.ref h0, .int a1, .int a2] (Pcw D (tyA cB cI) (WQ cI h0 h1 h2 h3 h4 h5 u) sz Tru)) (va_Qi P (fun u t => va_P D vwCl (WQ cI h0 h1 h2 h3 h4 h5 u) t.heap) (va_A (WQ cI h0 h1 h2 h3 h4 h5 u) sz)) 0 0 (va_A (WQ cI h0 h1 h2 h3 h4 h5 u) sz) := by
  refine en_ (cc := cX6_bits) (maxL := 3) (ret := (some .int)) (own := RX6) (lv := [(0, .ref h0), (1, .int a1), (2, .int a2)]) (Qf := fun A => va_Qi P (fun u t => va_P D vwCl (WQ cI h0 h1 h2 h3 h4 h5 u) t.heap) A) (by decide) rfl rfl (Nat.le_of_ble_eq_true rfl) rfl ?_
  intro p e s m below meth c A ls S hr hlk hname hsz hP hK hD hA hSub hS hE hl
  have hx := S.1
  have hb := S.2.1
  have hown := S.2.2.2.1
  have hts := S.2.2.2.2
  have i_X6 : ∀ w ∈ u_ws RX6 TX6 29, w ∈ wsX6_bits := by decide +kernel
  have f_54 := hts (.fieldLink RX6 54 "MachineCoreModel" "flags" "I") (by decide +kernel)
  unfold wX6_bits at hw
  obtain ⟨H, eH⟩ : ∃ H, H = s.heap := ⟨_, rfl⟩
  obtain ⟨locs, eL⟩ : ∃ locs : List Loc, locs = [] := ⟨_, rfl⟩
  replace hP : va_P D vwCl (WQ cI h0 h1 h2 h3 h4 h5 u) H := by rw [eH]; exact hP
  replace hS : va_S A s.heap H locs := by rw [eH, eL]; exact hS
  suffices hgo : W p l e ({ frames := 2, cells := 0, slots := 0, locals := 46 } : Room) s m ([.ref h0, .int a1, .int a2] : List Value).toArray below meth c H locs 0 0 (MQ below (va_Qi P (fun u t => va_P D vwCl (WQ cI h0 h1 h2 h3 h4 h5 u) t.heap) A) ([.ref h0, .int a1, .int a2] : List Value).toArray s 0 0 A) (F0 m 0 ls []) by rw [eH, eL] at hgo; exact hgo
  clear eH eL
  refine lv_aload_n hx hb dX6_bits_0 rfl (lv_at hl 0 rfl) ?_
  refine lv_aload_n hx hb dX6_bits_1 rfl (lv_at hl 0 rfl) ?_
  refine va_get (D := D) (ci := 6) (v := .int (q_flags u)) (C := RX6) (T := TX6) (N := 29) hx hb hts i_X6 hown hK hP 0 rfl rfl 4 (by decide) f_54 (fun _ h9 => h9) rfl dX6_bits_2 ?_
  refine lv_sipush (v := (-2066 : Int32)) hx hb dX6_bits_5 (by decide) ?_
  refine lv_iand hx hb dX6_bits_8 ?_
  refine va_put (D := D) (ci := 6) (v := .int ((q_flags u) &&& (-2066 : Int32))) (ty := .int) (C := RX6) (T := TX6) (N := 29) hx hb hts i_X6 tyX6 tyX6_ok nmX6 hown hK hP hD hS 0 rfl rfl 4 (by decide) f_54 (fun _ h9 => h9) rfl (by decide +kernel) rfl rfl (Nat.le_of_ble_eq_true rfl) dX6_bits_9 (fun H locs hP hD hS => ?_)
  replace hP : va_P D vwCl (WQ cI h0 h1 h2 h3 h4 h5 (qs_flags u ((q_flags u) &&& (-2066 : Int32)))) H := hP
  replace hD : va_D A (WQ cI h0 h1 h2 h3 h4 h5 (qs_flags u ((q_flags u) &&& (-2066 : Int32)))) := hD
  refine lv_aload_n hx hb dX6_bits_12 rfl (lv_at hl 0 rfl) ?_
  refine lv_iload_n hx hb dX6_bits_13 rfl (lv_at hl 1 rfl) ?_
  refine lv_iload_n hx hb dX6_bits_14 rfl (lv_at hl 2 rfl) ?_
  refine cl_Vv (As := [.int a1, .int a2]) (rest := []) (st := [.int a2, .int a1, .ref h0]) S hK hA hP hD hS (fr_Q (qs_flags u ((q_flags u) &&& (-2066 : Int32)))) (kcX6_byAnswer l D cB cI h0 h1 h2 h3 h4 h5 H.size a1 a2 (qs_flags u ((q_flags u) &&& (-2066 : Int32))) _ hw) (cwV 2 hts gX6_bits_X6_byAnswer rfl rfl rfl (by decide +kernel) ⟨Nat.le_of_ble_eq_true rfl, Nat.le_of_ble_eq_true rfl⟩) tru_h tru_b 0 rfl rfl rfl rfl rfl hl.1 (Nat.le_of_ble_eq_true rfl) dX6_bits_15 ⟨Nat.zero_le _, Nat.zero_le _⟩ (fun u1 H locs hP hD hS hw => ?_)
  replace hP : va_P D vwCl (WQ cI h0 h1 h2 h3 h4 h5 u1) H := hP
  replace hD : va_D A (WQ cI h0 h1 h2 h3 h4 h5 u1) := hD
  refine lv_iload_n hx hb dX6_bits_18 rfl (lv_at hl 1 rfl) ?_
  exact rt_i (wo := (fun v => WQ cI h0 h1 h2 h3 h4 h5 v)) S hr hlk u1 hP hS hw dX6_bits_19
-- X6_operation
def wX6_operation_b222 (a1 : Int32) (a2 : Int32) (a3 : Int32) (a4 : Int32) (P : Int32 → SQ → Prop) (x6 : Int32) (s2 : Int32) (u : SQ) : Prop := (wX6_mark (1 : Int32) s2 u (fun u43 => (P x6 u43)))
def wX6_operation_b193 (a1 : Int32) (a2 : Int32) (a3 : Int32) (a4 : Int32) (P : Int32 → SQ → Prop) (x6 : Int32) (s2 : Int32) (u : SQ) : Prop := (wX6_mark (1 : Int32) s2 u (fun u41 => (P x6 u41)))
def wX6_operation (a1 : Int32) (a2 : Int32) (a3 : Int32) (a4 : Int32) (u : SQ) (P : Int32 → SQ → Prop) : Prop := ((a1 = (0 : Int32) → (wX6_sum a2 a3 (0 : Int32) a4 u (fun r3 u2 => (P r3 u2)))) ∧ (¬ a1 = (0 : Int32) → ((a1 = (1 : Int32) → (wX6_bits (a2 ||| a3) a4 u (fun r6 u5 => (P r6 u5)))) ∧ (¬ a1 = (1 : Int32) → ((a1 = (2 : Int32) → (wX6_sum a2 a3 ((q_flags u) &&& (1 : Int32)) a4 u (fun r9 u8 => (P r9 u8)))) ∧ (¬ a1 = (2 : Int32) → ((a1 = (3 : Int32) → (wX6_difference a2 a3 ((q_flags u) &&& (1 : Int32)) a4 u (fun r12 u11 => (P r12 u11)))) ∧ (¬ a1 = (3 : Int32) → ((a1 = (4 : Int32) → (wX6_bits (a2 &&& a3) a4 u (fun r15 u14 => (P r15 u14)))) ∧ (¬ a1 = (4 : Int32) → ((a1 = (5 : Int32) → (wX6_difference a2 a3 (0 : Int32) a4 u (fun r18 u17 => (P r18 u17)))) ∧ (¬ a1 = (5 : Int32) → ((a1 = (6 : Int32) → (wX6_bits (a2 ^^^ a3) a4 u (fun r21 u20 => (P r21 u20)))) ∧ (¬ a1 = (6 : Int32) → ((a1 = (7 : Int32) → (wX6_difference a2 a3 (0 : Int32) a4 u (fun r24 u23 => (P a2 u23)))) ∧ (¬ a1 = (7 : Int32) → ((a1 = (8 : Int32) → (wX6_bits (a2 &&& a3) a4 u (fun r27 u26 => (P a2 u26)))) ∧ (¬ a1 = (8 : Int32) → ((a1 = (9 : Int32) → (wX6_sum a2 (1 : Int32) (0 : Int32) a4 u (fun r30 u29 => ((((q_flags u) &&& (1 : Int32)) ≤ (0 : Int32) → (wX6_operation_b193 a1 a2 a3 a4 P r30 (0 : Int32) u29)) ∧ (¬ ((q_flags u) &&& (1 : Int32)) ≤ (0 : Int32) → (wX6_operation_b193 a1 a2 a3 a4 P r30 (1 : Int32) u29)))))) ∧ (¬ a1 = (9 : Int32) → ((a1 = (10 : Int32) → (wX6_difference a2 (1 : Int32) (0 : Int32) a4 u (fun r34 u33 => ((((q_flags u) &&& (1 : Int32)) ≤ (0 : Int32) → (wX6_operation_b222 a1 a2 a3 a4 P r34 (0 : Int32) u33)) ∧ (¬ ((q_flags u) &&& (1 : Int32)) ≤ (0 : Int32) → (wX6_operation_b222 a1 a2 a3 a4 P r34 (1 : Int32) u33)))))) ∧ (¬ a1 = (10 : Int32) → ((a1 = (11 : Int32) → (wX6_difference (0 : Int32) a2 (0 : Int32) a4 u (fun r38 u37 => (P r38 u37)))) ∧ (¬ a1 = (11 : Int32) → (wX6_all a4 () (fun r40 u39 => (P (a2 ^^^ r40) u)))))))))))))))))))))))))))
set_option maxHeartbeats 4000000 in
set_option maxRecDepth 100000 in
theorem kcX6_operation (l : Launch) (D : va_G) (cB cI : ClassId) (h0 h1 h2 h3 h4 h5 : Nat) (sz : Nat) (a1 : Int32) (a2 : Int32) (a3 : Int32) (a4 : Int32) (u : SQ) (P : Int32 → SQ → Prop) (hw : wX6_operation a1 a2 a3 a4 u P) : Met l yX6_operation wsX6_operation ({ frames := 3, cells := 0, slots := 0, locals := 72 } : Room) (va_Pc [.ref h0, .int a1, .int a2, .int a3, .int a4] (Pcw D (tyA cB cI) (WQ cI h0 h1 h2 h3 h4 h5 u) sz Tru)) (va_Qi P (fun u t => va_P D vwCl (WQ cI h0 h1 h2 h3 h4 h5 u) t.heap) (va_A (WQ cI h0 h1 h2 h3 h4 h5 u) sz)) 0 0 (va_A (WQ cI h0 h1 h2 h3 h4 h5 u) sz) := by
  refine en_ (cc := cX6_operation) (maxL := 7) (ret := (some .int)) (own := RX6) (lv := [(0, .ref h0), (1, .int a1), (2, .int a2), (3, .int a3), (4, .int a4)]) (Qf := fun A => va_Qi P (fun u t => va_P D vwCl (WQ cI h0 h1 h2 h3 h4 h5 u) t.heap) A) (by decide) rfl rfl (Nat.le_of_ble_eq_true rfl) rfl ?_
  intro p e s m below meth c A ls S hr hlk hname hsz hP hK hD hA hSub hS hE hl
  have hx := S.1
  have hb := S.2.1
  have hown := S.2.2.2.1
  have hts := S.2.2.2.2
  have i_X6 : ∀ w ∈ u_ws RX6 TX6 29, w ∈ wsX6_operation := by decide +kernel
  have f_54 := hts (.fieldLink RX6 54 "MachineCoreModel" "flags" "I") (by decide +kernel)
  have b222 : ∀ (x6 : Int32) (s2 : Int32) (u : SQ) (H : Heap) (locs : List Loc) (ls : Array Slot), va_P D vwCl (WQ cI h0 h1 h2 h3 h4 h5 u) H → va_D A (WQ cI h0 h1 h2 h3 h4 h5 u) → va_S A s.heap H locs → lv_has ls 7 [(6, .int x6)] → wX6_operation_b222 a1 a2 a3 a4 P x6 s2 u → W p l e ({ frames := 3, cells := 0, slots := 0, locals := 72 } : Room) s m ([.ref h0, .int a1, .int a2, .int a3, .int a4] : List Value).toArray below meth c H locs 0 0 (MQ below (va_Qi P (fun u t => va_P D vwCl (WQ cI h0 h1 h2 h3 h4 h5 u) t.heap) A) ([.ref h0, .int a1, .int a2, .int a3, .int a4] : List Value).toArray s 0 0 A) (F0 m 222 ls [.int s2, .int (1 : Int32), .ref h0]) := by
    intro x6 s2 u H locs ls hP hD hS hl hw
    unfold wX6_operation_b222 at hw
    refine cl_Vv (As := [.int (1 : Int32), .int s2]) (rest := []) (st := [.int s2, .int (1 : Int32), .ref h0]) S hK hA hP hD hS (fr_Q u) (kcX6_mark l D cB cI h0 h1 h2 h3 h4 h5 H.size (1 : Int32) s2 u _ hw) (cwV 2 hts gX6_operation_X6_mark rfl rfl rfl (by decide +kernel) ⟨Nat.le_of_ble_eq_true rfl, Nat.le_of_ble_eq_true rfl⟩) tru_h tru_b 0 rfl rfl rfl rfl rfl hl.1 (Nat.le_of_ble_eq_true rfl) dX6_operation_222 ⟨Nat.zero_le _, Nat.zero_le _⟩ (fun u43 H locs hP hD hS hw => ?_)
    replace hP : va_P D vwCl (WQ cI h0 h1 h2 h3 h4 h5 u43) H := hP
    replace hD : va_D A (WQ cI h0 h1 h2 h3 h4 h5 u43) := hD
    refine lv_iload hx hb dX6_operation_225 (lv_at hl 0 rfl) ?_
    exact rt_i (wo := (fun v => WQ cI h0 h1 h2 h3 h4 h5 v)) S hr hlk u43 hP hS hw dX6_operation_227
  have b193 : ∀ (x6 : Int32) (s2 : Int32) (u : SQ) (H : Heap) (locs : List Loc) (ls : Array Slot), va_P D vwCl (WQ cI h0 h1 h2 h3 h4 h5 u) H → va_D A (WQ cI h0 h1 h2 h3 h4 h5 u) → va_S A s.heap H locs → lv_has ls 7 [(6, .int x6)] → wX6_operation_b193 a1 a2 a3 a4 P x6 s2 u → W p l e ({ frames := 3, cells := 0, slots := 0, locals := 72 } : Room) s m ([.ref h0, .int a1, .int a2, .int a3, .int a4] : List Value).toArray below meth c H locs 0 0 (MQ below (va_Qi P (fun u t => va_P D vwCl (WQ cI h0 h1 h2 h3 h4 h5 u) t.heap) A) ([.ref h0, .int a1, .int a2, .int a3, .int a4] : List Value).toArray s 0 0 A) (F0 m 193 ls [.int s2, .int (1 : Int32), .ref h0]) := by
    intro x6 s2 u H locs ls hP hD hS hl hw
    unfold wX6_operation_b193 at hw
    refine cl_Vv (As := [.int (1 : Int32), .int s2]) (rest := []) (st := [.int s2, .int (1 : Int32), .ref h0]) S hK hA hP hD hS (fr_Q u) (kcX6_mark l D cB cI h0 h1 h2 h3 h4 h5 H.size (1 : Int32) s2 u _ hw) (cwV 2 hts gX6_operation_X6_mark rfl rfl rfl (by decide +kernel) ⟨Nat.le_of_ble_eq_true rfl, Nat.le_of_ble_eq_true rfl⟩) tru_h tru_b 0 rfl rfl rfl rfl rfl hl.1 (Nat.le_of_ble_eq_true rfl) dX6_operation_193 ⟨Nat.zero_le _, Nat.zero_le _⟩ (fun u41 H locs hP hD hS hw => ?_)
    replace hP : va_P D vwCl (WQ cI h0 h1 h2 h3 h4 h5 u41) H := hP
    replace hD : va_D A (WQ cI h0 h1 h2 h3 h4 h5 u41) := hD
    refine lv_iload hx hb dX6_operation_196 (lv_at hl 0 rfl) ?_
    exact rt_i (wo := (fun v => WQ cI h0 h1 h2 h3 h4 h5 v)) S hr hlk u41 hP hS hw dX6_operation_198
  unfold wX6_operation at hw
  obtain ⟨H, eH⟩ : ∃ H, H = s.heap := ⟨_, rfl⟩
  obtain ⟨locs, eL⟩ : ∃ locs : List Loc, locs = [] := ⟨_, rfl⟩
  replace hP : va_P D vwCl (WQ cI h0 h1 h2 h3 h4 h5 u) H := by rw [eH]; exact hP
  replace hS : va_S A s.heap H locs := by rw [eH, eL]; exact hS
  suffices hgo : W p l e ({ frames := 3, cells := 0, slots := 0, locals := 72 } : Room) s m ([.ref h0, .int a1, .int a2, .int a3, .int a4] : List Value).toArray below meth c H locs 0 0 (MQ below (va_Qi P (fun u t => va_P D vwCl (WQ cI h0 h1 h2 h3 h4 h5 u) t.heap) A) ([.ref h0, .int a1, .int a2, .int a3, .int a4] : List Value).toArray s 0 0 A) (F0 m 0 ls []) by rw [eH, eL] at hgo; exact hgo
  clear eH eL
  refine lv_aload_n hx hb dX6_operation_0 rfl (lv_at hl 0 rfl) ?_
  refine va_get (D := D) (ci := 6) (v := .int (q_flags u)) (C := RX6) (T := TX6) (N := 29) hx hb hts i_X6 hown hK hP 0 rfl rfl 4 (by decide) f_54 (fun _ h9 => h9) rfl dX6_operation_1 ?_
  refine lv_iconst (v := (1 : Int32)) hx hb dX6_operation_4 (by decide) ?_
  refine lv_iand hx hb dX6_operation_5 ?_
  refine lv_istore (lv' := [(5, .int ((q_flags u) &&& (1 : Int32))), (0, .ref h0), (1, .int a1), (2, .int a2), (3, .int a3), (4, .int a4)]) hx hb dX6_operation_6 hl (by decide) rfl (fun ls hl => ?_)
  refine lv_iload_n hx hb dX6_operation_8 rfl (lv_at hl 2 rfl) ?_
  by_cases c1 : a1 = (0 : Int32)
  · replace hw := hw.1 c1
    refine lv_tableIn (off := 63) (tgt := 72) hx hb dX6_operation_9 (by rw [c1]; decide) (by rw [c1]; decide) (by rw [c1]; rfl) (by decide) ?_
    refine lv_aload_n hx hb dX6_operation_72 rfl (lv_at hl 1 rfl) ?_
    refine lv_iload_n hx hb dX6_operation_73 rfl (lv_at hl 3 rfl) ?_
    refine lv_iload_n hx hb dX6_operation_74 rfl (lv_at hl 4 rfl) ?_
    refine lv_iconst (v := (0 : Int32)) hx hb dX6_operation_75 (by decide) ?_
    refine lv_iload hx hb dX6_operation_76 (lv_at hl 5 rfl) ?_
    refine cl_Vi (As := [.int a2, .int a3, .int (0 : Int32), .int a4]) (rest := []) (st := [.int a4, .int (0 : Int32), .int a3, .int a2, .ref h0]) S hK hA hP hD hS (fr_Q u) (kcX6_sum l D cB cI h0 h1 h2 h3 h4 h5 H.size a2 a3 (0 : Int32) a4 u _ hw) (cwV 4 hts gX6_operation_X6_sum rfl rfl rfl (by decide +kernel) ⟨Nat.le_of_ble_eq_true rfl, Nat.le_of_ble_eq_true rfl⟩) tru_h tru_b 0 rfl rfl rfl rfl rfl hl.1 (Nat.le_of_ble_eq_true rfl) dX6_operation_78 ⟨Nat.zero_le _, Nat.zero_le _⟩ (fun r3 u2 H locs hP hD hS hw => ?_)
    replace hP : va_P D vwCl (WQ cI h0 h1 h2 h3 h4 h5 u2) H := hP
    replace hD : va_D A (WQ cI h0 h1 h2 h3 h4 h5 u2) := hD
    exact rt_i (wo := (fun v => WQ cI h0 h1 h2 h3 h4 h5 v)) S hr hlk u2 hP hS hw dX6_operation_81
  replace hw := hw.2 c1
  by_cases c4 : a1 = (1 : Int32)
  · replace hw := hw.1 c4
    refine lv_tableIn (off := 73) (tgt := 82) hx hb dX6_operation_9 (by rw [c4]; decide) (by rw [c4]; decide) (by rw [c4]; rfl) (by decide) ?_
    refine lv_aload_n hx hb dX6_operation_82 rfl (lv_at hl 1 rfl) ?_
    refine lv_iload_n hx hb dX6_operation_83 rfl (lv_at hl 3 rfl) ?_
    refine lv_iload_n hx hb dX6_operation_84 rfl (lv_at hl 4 rfl) ?_
    refine lv_ior hx hb dX6_operation_85 ?_
    refine lv_iload hx hb dX6_operation_86 (lv_at hl 5 rfl) ?_
    refine cl_Vi (As := [.int (a2 ||| a3), .int a4]) (rest := []) (st := [.int a4, .int (a2 ||| a3), .ref h0]) S hK hA hP hD hS (fr_Q u) (kcX6_bits l D cB cI h0 h1 h2 h3 h4 h5 H.size (a2 ||| a3) a4 u _ hw) (cwV 2 hts gX6_operation_X6_bits rfl rfl rfl (by decide +kernel) ⟨Nat.le_of_ble_eq_true rfl, Nat.le_of_ble_eq_true rfl⟩) tru_h tru_b 0 rfl rfl rfl rfl rfl hl.1 (Nat.le_of_ble_eq_true rfl) dX6_operation_88 ⟨Nat.zero_le _, Nat.zero_le _⟩ (fun r6 u5 H locs hP hD hS hw => ?_)
    replace hP : va_P D vwCl (WQ cI h0 h1 h2 h3 h4 h5 u5) H := hP
    replace hD : va_D A (WQ cI h0 h1 h2 h3 h4 h5 u5) := hD
    exact rt_i (wo := (fun v => WQ cI h0 h1 h2 h3 h4 h5 v)) S hr hlk u5 hP hS hw dX6_operation_91
  replace hw := hw.2 c4
  by_cases c7 : a1 = (2 : Int32)
  · replace hw := hw.1 c7
    refine lv_tableIn (off := 83) (tgt := 92) hx hb dX6_operation_9 (by rw [c7]; decide) (by rw [c7]; decide) (by rw [c7]; rfl) (by decide) ?_
    refine lv_aload_n hx hb dX6_operation_92 rfl (lv_at hl 1 rfl) ?_
    refine lv_iload_n hx hb dX6_operation_93 rfl (lv_at hl 3 rfl) ?_
    refine lv_iload_n hx hb dX6_operation_94 rfl (lv_at hl 4 rfl) ?_
    refine lv_iload hx hb dX6_operation_95 (lv_at hl 0 rfl) ?_
    refine lv_iload hx hb dX6_operation_97 (lv_at hl 5 rfl) ?_
    refine cl_Vi (As := [.int a2, .int a3, .int ((q_flags u) &&& (1 : Int32)), .int a4]) (rest := []) (st := [.int a4, .int ((q_flags u) &&& (1 : Int32)), .int a3, .int a2, .ref h0]) S hK hA hP hD hS (fr_Q u) (kcX6_sum l D cB cI h0 h1 h2 h3 h4 h5 H.size a2 a3 ((q_flags u) &&& (1 : Int32)) a4 u _ hw) (cwV 4 hts gX6_operation_X6_sum rfl rfl rfl (by decide +kernel) ⟨Nat.le_of_ble_eq_true rfl, Nat.le_of_ble_eq_true rfl⟩) tru_h tru_b 0 rfl rfl rfl rfl rfl hl.1 (Nat.le_of_ble_eq_true rfl) dX6_operation_99 ⟨Nat.zero_le _, Nat.zero_le _⟩ (fun r9 u8 H locs hP hD hS hw => ?_)
    replace hP : va_P D vwCl (WQ cI h0 h1 h2 h3 h4 h5 u8) H := hP
    replace hD : va_D A (WQ cI h0 h1 h2 h3 h4 h5 u8) := hD
    exact rt_i (wo := (fun v => WQ cI h0 h1 h2 h3 h4 h5 v)) S hr hlk u8 hP hS hw dX6_operation_102
  replace hw := hw.2 c7
  by_cases c10 : a1 = (3 : Int32)
  · replace hw := hw.1 c10
    refine lv_tableIn (off := 94) (tgt := 103) hx hb dX6_operation_9 (by rw [c10]; decide) (by rw [c10]; decide) (by rw [c10]; rfl) (by decide) ?_
    refine lv_aload_n hx hb dX6_operation_103 rfl (lv_at hl 1 rfl) ?_
    refine lv_iload_n hx hb dX6_operation_104 rfl (lv_at hl 3 rfl) ?_
    refine lv_iload_n hx hb dX6_operation_105 rfl (lv_at hl 4 rfl) ?_
    refine lv_iload hx hb dX6_operation_106 (lv_at hl 0 rfl) ?_
    refine lv_iload hx hb dX6_operation_108 (lv_at hl 5 rfl) ?_
    refine cl_Vi (As := [.int a2, .int a3, .int ((q_flags u) &&& (1 : Int32)), .int a4]) (rest := []) (st := [.int a4, .int ((q_flags u) &&& (1 : Int32)), .int a3, .int a2, .ref h0]) S hK hA hP hD hS (fr_Q u) (kcX6_difference l D cB cI h0 h1 h2 h3 h4 h5 H.size a2 a3 ((q_flags u) &&& (1 : Int32)) a4 u _ hw) (cwV 4 hts gX6_operation_X6_difference rfl rfl rfl (by decide +kernel) ⟨Nat.le_of_ble_eq_true rfl, Nat.le_of_ble_eq_true rfl⟩) tru_h tru_b 0 rfl rfl rfl rfl rfl hl.1 (Nat.le_of_ble_eq_true rfl) dX6_operation_110 ⟨Nat.zero_le _, Nat.zero_le _⟩ (fun r12 u11 H locs hP hD hS hw => ?_)
    replace hP : va_P D vwCl (WQ cI h0 h1 h2 h3 h4 h5 u11) H := hP
    replace hD : va_D A (WQ cI h0 h1 h2 h3 h4 h5 u11) := hD
    exact rt_i (wo := (fun v => WQ cI h0 h1 h2 h3 h4 h5 v)) S hr hlk u11 hP hS hw dX6_operation_113
  replace hw := hw.2 c10
  by_cases c13 : a1 = (4 : Int32)
  · replace hw := hw.1 c13
    refine lv_tableIn (off := 105) (tgt := 114) hx hb dX6_operation_9 (by rw [c13]; decide) (by rw [c13]; decide) (by rw [c13]; rfl) (by decide) ?_
    refine lv_aload_n hx hb dX6_operation_114 rfl (lv_at hl 1 rfl) ?_
    refine lv_iload_n hx hb dX6_operation_115 rfl (lv_at hl 3 rfl) ?_
    refine lv_iload_n hx hb dX6_operation_116 rfl (lv_at hl 4 rfl) ?_
    refine lv_iand hx hb dX6_operation_117 ?_
    refine lv_iload hx hb dX6_operation_118 (lv_at hl 5 rfl) ?_
    refine cl_Vi (As := [.int (a2 &&& a3), .int a4]) (rest := []) (st := [.int a4, .int (a2 &&& a3), .ref h0]) S hK hA hP hD hS (fr_Q u) (kcX6_bits l D cB cI h0 h1 h2 h3 h4 h5 H.size (a2 &&& a3) a4 u _ hw) (cwV 2 hts gX6_operation_X6_bits rfl rfl rfl (by decide +kernel) ⟨Nat.le_of_ble_eq_true rfl, Nat.le_of_ble_eq_true rfl⟩) tru_h tru_b 0 rfl rfl rfl rfl rfl hl.1 (Nat.le_of_ble_eq_true rfl) dX6_operation_120 ⟨Nat.zero_le _, Nat.zero_le _⟩ (fun r15 u14 H locs hP hD hS hw => ?_)
    replace hP : va_P D vwCl (WQ cI h0 h1 h2 h3 h4 h5 u14) H := hP
    replace hD : va_D A (WQ cI h0 h1 h2 h3 h4 h5 u14) := hD
    exact rt_i (wo := (fun v => WQ cI h0 h1 h2 h3 h4 h5 v)) S hr hlk u14 hP hS hw dX6_operation_123
  replace hw := hw.2 c13
  by_cases c16 : a1 = (5 : Int32)
  · replace hw := hw.1 c16
    refine lv_tableIn (off := 115) (tgt := 124) hx hb dX6_operation_9 (by rw [c16]; decide) (by rw [c16]; decide) (by rw [c16]; rfl) (by decide) ?_
    refine lv_aload_n hx hb dX6_operation_124 rfl (lv_at hl 1 rfl) ?_
    refine lv_iload_n hx hb dX6_operation_125 rfl (lv_at hl 3 rfl) ?_
    refine lv_iload_n hx hb dX6_operation_126 rfl (lv_at hl 4 rfl) ?_
    refine lv_iconst (v := (0 : Int32)) hx hb dX6_operation_127 (by decide) ?_
    refine lv_iload hx hb dX6_operation_128 (lv_at hl 5 rfl) ?_
    refine cl_Vi (As := [.int a2, .int a3, .int (0 : Int32), .int a4]) (rest := []) (st := [.int a4, .int (0 : Int32), .int a3, .int a2, .ref h0]) S hK hA hP hD hS (fr_Q u) (kcX6_difference l D cB cI h0 h1 h2 h3 h4 h5 H.size a2 a3 (0 : Int32) a4 u _ hw) (cwV 4 hts gX6_operation_X6_difference rfl rfl rfl (by decide +kernel) ⟨Nat.le_of_ble_eq_true rfl, Nat.le_of_ble_eq_true rfl⟩) tru_h tru_b 0 rfl rfl rfl rfl rfl hl.1 (Nat.le_of_ble_eq_true rfl) dX6_operation_130 ⟨Nat.zero_le _, Nat.zero_le _⟩ (fun r18 u17 H locs hP hD hS hw => ?_)
    replace hP : va_P D vwCl (WQ cI h0 h1 h2 h3 h4 h5 u17) H := hP
    replace hD : va_D A (WQ cI h0 h1 h2 h3 h4 h5 u17) := hD
    exact rt_i (wo := (fun v => WQ cI h0 h1 h2 h3 h4 h5 v)) S hr hlk u17 hP hS hw dX6_operation_133
  replace hw := hw.2 c16
  by_cases c19 : a1 = (6 : Int32)
  · replace hw := hw.1 c19
    refine lv_tableIn (off := 125) (tgt := 134) hx hb dX6_operation_9 (by rw [c19]; decide) (by rw [c19]; decide) (by rw [c19]; rfl) (by decide) ?_
    refine lv_aload_n hx hb dX6_operation_134 rfl (lv_at hl 1 rfl) ?_
    refine lv_iload_n hx hb dX6_operation_135 rfl (lv_at hl 3 rfl) ?_
    refine lv_iload_n hx hb dX6_operation_136 rfl (lv_at hl 4 rfl) ?_
    refine lv_ixor hx hb dX6_operation_137 ?_
    refine lv_iload hx hb dX6_operation_138 (lv_at hl 5 rfl) ?_
    refine cl_Vi (As := [.int (a2 ^^^ a3), .int a4]) (rest := []) (st := [.int a4, .int (a2 ^^^ a3), .ref h0]) S hK hA hP hD hS (fr_Q u) (kcX6_bits l D cB cI h0 h1 h2 h3 h4 h5 H.size (a2 ^^^ a3) a4 u _ hw) (cwV 2 hts gX6_operation_X6_bits rfl rfl rfl (by decide +kernel) ⟨Nat.le_of_ble_eq_true rfl, Nat.le_of_ble_eq_true rfl⟩) tru_h tru_b 0 rfl rfl rfl rfl rfl hl.1 (Nat.le_of_ble_eq_true rfl) dX6_operation_140 ⟨Nat.zero_le _, Nat.zero_le _⟩ (fun r21 u20 H locs hP hD hS hw => ?_)
    replace hP : va_P D vwCl (WQ cI h0 h1 h2 h3 h4 h5 u20) H := hP
    replace hD : va_D A (WQ cI h0 h1 h2 h3 h4 h5 u20) := hD
    exact rt_i (wo := (fun v => WQ cI h0 h1 h2 h3 h4 h5 v)) S hr hlk u20 hP hS hw dX6_operation_143
  replace hw := hw.2 c19
  by_cases c22 : a1 = (7 : Int32)
  · replace hw := hw.1 c22
    refine lv_tableIn (off := 135) (tgt := 144) hx hb dX6_operation_9 (by rw [c22]; decide) (by rw [c22]; decide) (by rw [c22]; rfl) (by decide) ?_
    refine lv_aload_n hx hb dX6_operation_144 rfl (lv_at hl 1 rfl) ?_
    refine lv_iload_n hx hb dX6_operation_145 rfl (lv_at hl 3 rfl) ?_
    refine lv_iload_n hx hb dX6_operation_146 rfl (lv_at hl 4 rfl) ?_
    refine lv_iconst (v := (0 : Int32)) hx hb dX6_operation_147 (by decide) ?_
    refine lv_iload hx hb dX6_operation_148 (lv_at hl 5 rfl) ?_
    refine cl_Vi (As := [.int a2, .int a3, .int (0 : Int32), .int a4]) (rest := []) (st := [.int a4, .int (0 : Int32), .int a3, .int a2, .ref h0]) S hK hA hP hD hS (fr_Q u) (kcX6_difference l D cB cI h0 h1 h2 h3 h4 h5 H.size a2 a3 (0 : Int32) a4 u _ hw) (cwV 4 hts gX6_operation_X6_difference rfl rfl rfl (by decide +kernel) ⟨Nat.le_of_ble_eq_true rfl, Nat.le_of_ble_eq_true rfl⟩) tru_h tru_b 0 rfl rfl rfl rfl rfl hl.1 (Nat.le_of_ble_eq_true rfl) dX6_operation_150 ⟨Nat.zero_le _, Nat.zero_le _⟩ (fun r24 u23 H locs hP hD hS hw => ?_)
    replace hP : va_P D vwCl (WQ cI h0 h1 h2 h3 h4 h5 u23) H := hP
    replace hD : va_D A (WQ cI h0 h1 h2 h3 h4 h5 u23) := hD
    refine lv_istore (lv' := [(6, .int r24), (5, .int ((q_flags u) &&& (1 : Int32))), (0, .ref h0), (1, .int a1), (2, .int a2), (3, .int a3), (4, .int a4)]) hx hb dX6_operation_153 hl (by decide) rfl (fun ls hl => ?_)
    refine lv_iload_n hx hb dX6_operation_155 rfl (lv_at hl 4 rfl) ?_
    exact rt_i (wo := (fun v => WQ cI h0 h1 h2 h3 h4 h5 v)) S hr hlk u23 hP hS hw dX6_operation_156
  replace hw := hw.2 c22
  by_cases c25 : a1 = (8 : Int32)
  · replace hw := hw.1 c25
    refine lv_tableIn (off := 148) (tgt := 157) hx hb dX6_operation_9 (by rw [c25]; decide) (by rw [c25]; decide) (by rw [c25]; rfl) (by decide) ?_
    refine lv_aload_n hx hb dX6_operation_157 rfl (lv_at hl 1 rfl) ?_
    refine lv_iload_n hx hb dX6_operation_158 rfl (lv_at hl 3 rfl) ?_
    refine lv_iload_n hx hb dX6_operation_159 rfl (lv_at hl 4 rfl) ?_
    refine lv_iand hx hb dX6_operation_160 ?_
    refine lv_iload hx hb dX6_operation_161 (lv_at hl 5 rfl) ?_
    refine cl_Vi (As := [.int (a2 &&& a3), .int a4]) (rest := []) (st := [.int a4, .int (a2 &&& a3), .ref h0]) S hK hA hP hD hS (fr_Q u) (kcX6_bits l D cB cI h0 h1 h2 h3 h4 h5 H.size (a2 &&& a3) a4 u _ hw) (cwV 2 hts gX6_operation_X6_bits rfl rfl rfl (by decide +kernel) ⟨Nat.le_of_ble_eq_true rfl, Nat.le_of_ble_eq_true rfl⟩) tru_h tru_b 0 rfl rfl rfl rfl rfl hl.1 (Nat.le_of_ble_eq_true rfl) dX6_operation_163 ⟨Nat.zero_le _, Nat.zero_le _⟩ (fun r27 u26 H locs hP hD hS hw => ?_)
    replace hP : va_P D vwCl (WQ cI h0 h1 h2 h3 h4 h5 u26) H := hP
    replace hD : va_D A (WQ cI h0 h1 h2 h3 h4 h5 u26) := hD
    refine lv_istore (lv' := [(6, .int r27), (5, .int ((q_flags u) &&& (1 : Int32))), (0, .ref h0), (1, .int a1), (2, .int a2), (3, .int a3), (4, .int a4)]) hx hb dX6_operation_166 hl (by decide) rfl (fun ls hl => ?_)
    refine lv_iload_n hx hb dX6_operation_168 rfl (lv_at hl 4 rfl) ?_
    exact rt_i (wo := (fun v => WQ cI h0 h1 h2 h3 h4 h5 v)) S hr hlk u26 hP hS hw dX6_operation_169
  replace hw := hw.2 c25
  by_cases c28 : a1 = (9 : Int32)
  · replace hw := hw.1 c28
    refine lv_tableIn (off := 161) (tgt := 170) hx hb dX6_operation_9 (by rw [c28]; decide) (by rw [c28]; decide) (by rw [c28]; rfl) (by decide) ?_
    refine lv_aload_n hx hb dX6_operation_170 rfl (lv_at hl 1 rfl) ?_
    refine lv_iload_n hx hb dX6_operation_171 rfl (lv_at hl 3 rfl) ?_
    refine lv_iconst (v := (1 : Int32)) hx hb dX6_operation_172 (by decide) ?_
    refine lv_iconst (v := (0 : Int32)) hx hb dX6_operation_173 (by decide) ?_
    refine lv_iload hx hb dX6_operation_174 (lv_at hl 5 rfl) ?_
    refine cl_Vi (As := [.int a2, .int (1 : Int32), .int (0 : Int32), .int a4]) (rest := []) (st := [.int a4, .int (0 : Int32), .int (1 : Int32), .int a2, .ref h0]) S hK hA hP hD hS (fr_Q u) (kcX6_sum l D cB cI h0 h1 h2 h3 h4 h5 H.size a2 (1 : Int32) (0 : Int32) a4 u _ hw) (cwV 4 hts gX6_operation_X6_sum rfl rfl rfl (by decide +kernel) ⟨Nat.le_of_ble_eq_true rfl, Nat.le_of_ble_eq_true rfl⟩) tru_h tru_b 0 rfl rfl rfl rfl rfl hl.1 (Nat.le_of_ble_eq_true rfl) dX6_operation_176 ⟨Nat.zero_le _, Nat.zero_le _⟩ (fun r30 u29 H locs hP hD hS hw => ?_)
    replace hP : va_P D vwCl (WQ cI h0 h1 h2 h3 h4 h5 u29) H := hP
    replace hD : va_D A (WQ cI h0 h1 h2 h3 h4 h5 u29) := hD
    refine lv_istore (lv' := [(6, .int r30), (5, .int ((q_flags u) &&& (1 : Int32))), (0, .ref h0), (1, .int a1), (2, .int a2), (3, .int a3), (4, .int a4)]) hx hb dX6_operation_179 hl (by decide) rfl (fun ls hl => ?_)
    refine lv_aload_n hx hb dX6_operation_181 rfl (lv_at hl 2 rfl) ?_
    refine lv_iconst (v := (1 : Int32)) hx hb dX6_operation_182 (by decide) ?_
    refine lv_iload hx hb dX6_operation_183 (lv_at hl 1 rfl) ?_
    refine lv_if_le (tgt := 192) hx hb dX6_operation_185 (by decide) (fun c31 => ?_) (fun c31 => ?_)
    · replace hw := hw.1 c31
      refine lv_iconst (v := (0 : Int32)) hx hb dX6_operation_192 (by decide) ?_
      exact b193 r30 (0 : Int32) u29 H locs ls hP hD hS (lv_sub hl [0] rfl) hw
    · replace hw := hw.2 c31
      refine lv_iconst (v := (1 : Int32)) hx hb dX6_operation_188 (by decide) ?_
      refine lv_goto (tgt := 193) hx hb dX6_operation_189 (by decide) ?_
      exact b193 r30 (1 : Int32) u29 H locs ls hP hD hS (lv_sub hl [0] rfl) hw
  replace hw := hw.2 c28
  by_cases c32 : a1 = (10 : Int32)
  · replace hw := hw.1 c32
    refine lv_tableIn (off := 190) (tgt := 199) hx hb dX6_operation_9 (by rw [c32]; decide) (by rw [c32]; decide) (by rw [c32]; rfl) (by decide) ?_
    refine lv_aload_n hx hb dX6_operation_199 rfl (lv_at hl 1 rfl) ?_
    refine lv_iload_n hx hb dX6_operation_200 rfl (lv_at hl 3 rfl) ?_
    refine lv_iconst (v := (1 : Int32)) hx hb dX6_operation_201 (by decide) ?_
    refine lv_iconst (v := (0 : Int32)) hx hb dX6_operation_202 (by decide) ?_
    refine lv_iload hx hb dX6_operation_203 (lv_at hl 5 rfl) ?_
    refine cl_Vi (As := [.int a2, .int (1 : Int32), .int (0 : Int32), .int a4]) (rest := []) (st := [.int a4, .int (0 : Int32), .int (1 : Int32), .int a2, .ref h0]) S hK hA hP hD hS (fr_Q u) (kcX6_difference l D cB cI h0 h1 h2 h3 h4 h5 H.size a2 (1 : Int32) (0 : Int32) a4 u _ hw) (cwV 4 hts gX6_operation_X6_difference rfl rfl rfl (by decide +kernel) ⟨Nat.le_of_ble_eq_true rfl, Nat.le_of_ble_eq_true rfl⟩) tru_h tru_b 0 rfl rfl rfl rfl rfl hl.1 (Nat.le_of_ble_eq_true rfl) dX6_operation_205 ⟨Nat.zero_le _, Nat.zero_le _⟩ (fun r34 u33 H locs hP hD hS hw => ?_)
    replace hP : va_P D vwCl (WQ cI h0 h1 h2 h3 h4 h5 u33) H := hP
    replace hD : va_D A (WQ cI h0 h1 h2 h3 h4 h5 u33) := hD
    refine lv_istore (lv' := [(6, .int r34), (5, .int ((q_flags u) &&& (1 : Int32))), (0, .ref h0), (1, .int a1), (2, .int a2), (3, .int a3), (4, .int a4)]) hx hb dX6_operation_208 hl (by decide) rfl (fun ls hl => ?_)
    refine lv_aload_n hx hb dX6_operation_210 rfl (lv_at hl 2 rfl) ?_
    refine lv_iconst (v := (1 : Int32)) hx hb dX6_operation_211 (by decide) ?_
    refine lv_iload hx hb dX6_operation_212 (lv_at hl 1 rfl) ?_
    refine lv_if_le (tgt := 221) hx hb dX6_operation_214 (by decide) (fun c35 => ?_) (fun c35 => ?_)
    · replace hw := hw.1 c35
      refine lv_iconst (v := (0 : Int32)) hx hb dX6_operation_221 (by decide) ?_
      exact b222 r34 (0 : Int32) u33 H locs ls hP hD hS (lv_sub hl [0] rfl) hw
    · replace hw := hw.2 c35
      refine lv_iconst (v := (1 : Int32)) hx hb dX6_operation_217 (by decide) ?_
      refine lv_goto (tgt := 222) hx hb dX6_operation_218 (by decide) ?_
      exact b222 r34 (1 : Int32) u33 H locs ls hP hD hS (lv_sub hl [0] rfl) hw
  replace hw := hw.2 c32
  by_cases c36 : a1 = (11 : Int32)
  · replace hw := hw.1 c36
    refine lv_tableIn (off := 219) (tgt := 228) hx hb dX6_operation_9 (by rw [c36]; decide) (by rw [c36]; decide) (by rw [c36]; rfl) (by decide) ?_
    refine lv_aload_n hx hb dX6_operation_228 rfl (lv_at hl 1 rfl) ?_
    refine lv_iconst (v := (0 : Int32)) hx hb dX6_operation_229 (by decide) ?_
    refine lv_iload_n hx hb dX6_operation_230 rfl (lv_at hl 3 rfl) ?_
    refine lv_iconst (v := (0 : Int32)) hx hb dX6_operation_231 (by decide) ?_
    refine lv_iload hx hb dX6_operation_232 (lv_at hl 5 rfl) ?_
    refine cl_Vi (As := [.int (0 : Int32), .int a2, .int (0 : Int32), .int a4]) (rest := []) (st := [.int a4, .int (0 : Int32), .int a2, .int (0 : Int32), .ref h0]) S hK hA hP hD hS (fr_Q u) (kcX6_difference l D cB cI h0 h1 h2 h3 h4 h5 H.size (0 : Int32) a2 (0 : Int32) a4 u _ hw) (cwV 4 hts gX6_operation_X6_difference rfl rfl rfl (by decide +kernel) ⟨Nat.le_of_ble_eq_true rfl, Nat.le_of_ble_eq_true rfl⟩) tru_h tru_b 0 rfl rfl rfl rfl rfl hl.1 (Nat.le_of_ble_eq_true rfl) dX6_operation_234 ⟨Nat.zero_le _, Nat.zero_le _⟩ (fun r38 u37 H locs hP hD hS hw => ?_)
    replace hP : va_P D vwCl (WQ cI h0 h1 h2 h3 h4 h5 u37) H := hP
    replace hD : va_D A (WQ cI h0 h1 h2 h3 h4 h5 u37) := hD
    exact rt_i (wo := (fun v => WQ cI h0 h1 h2 h3 h4 h5 v)) S hr hlk u37 hP hS hw dX6_operation_237
  replace hw := hw.2 c36
  refine lv_tableOut (tgt := 238) hx hb dX6_operation_9 (by have e_c1 : ¬ (a1 : Int32).toInt = 0 := sw_ne c1; have e_c4 : ¬ (a1 : Int32).toInt = 1 := sw_ne c4; have e_c7 : ¬ (a1 : Int32).toInt = 2 := sw_ne c7; have e_c10 : ¬ (a1 : Int32).toInt = 3 := sw_ne c10; have e_c13 : ¬ (a1 : Int32).toInt = 4 := sw_ne c13; have e_c16 : ¬ (a1 : Int32).toInt = 5 := sw_ne c16; have e_c19 : ¬ (a1 : Int32).toInt = 6 := sw_ne c19; have e_c22 : ¬ (a1 : Int32).toInt = 7 := sw_ne c22; have e_c25 : ¬ (a1 : Int32).toInt = 8 := sw_ne c25; have e_c28 : ¬ (a1 : Int32).toInt = 9 := sw_ne c28; have e_c32 : ¬ (a1 : Int32).toInt = 10 := sw_ne c32; have e_c36 : ¬ (a1 : Int32).toInt = 11 := sw_ne c36; omega) (by decide) ?_
  refine lv_iload_n hx hb dX6_operation_238 rfl (lv_at hl 3 rfl) ?_
  refine lv_iload hx hb dX6_operation_239 (lv_at hl 5 rfl) ?_
  refine cl_Si (As := [.int a4]) (rest := [.int a2]) (st := [.int a4, .int a2]) S hK hA hP hD hS Fr_nil (kcX6_all l D cB cI  H.size a4 () _ hw) (va_cwS 1 hts gX6_operation_X6_all rfl rfl rfl (by decide +kernel) ⟨Nat.le_of_ble_eq_true rfl, Nat.le_of_ble_eq_true rfl⟩) tru_h tru_b rfl rfl hl.1 (Nat.le_of_ble_eq_true rfl) dX6_operation_241 ⟨Nat.zero_le _, Nat.zero_le _⟩ (fun r40 u39 H locs hP hD hS hw => ?_)
  replace hP : va_P D vwCl (WQ cI h0 h1 h2 h3 h4 h5 u) H := hP
  replace hD : va_D A (WQ cI h0 h1 h2 h3 h4 h5 u) := hD
  refine lv_ixor hx hb dX6_operation_244 ?_
  exact rt_i (wo := (fun v => WQ cI h0 h1 h2 h3 h4 h5 v)) S hr hlk u hP hS hw dX6_operation_245
-- X6_shift
def wX6_shift_b253 (a1 : Int32) (a2 : Int32) (a3 : Int32) (P : Int32 → SQ → Prop) (x10 : Int32) (s2 : Int32) (u : SQ) : Prop := (wX6_mark (2048 : Int32) s2 u (fun u27 => ((a1 ≤ (3 : Int32) → (P x10 u27)) ∧ (¬ a1 ≤ (3 : Int32) → (wX6_byAnswer x10 a3 u27 (fun u30 => (P x10 u30)))))))
def wX6_shift_b252 (a1 : Int32) (a2 : Int32) (a3 : Int32) (P : Int32 → SQ → Prop) (x10 : Int32) (u : SQ) : Prop := (wX6_shift_b253 a1 a2 a3 P x10 (0 : Int32) u)
def wX6_shift_b220 (a1 : Int32) (a2 : Int32) (a3 : Int32) (P : Int32 → SQ → Prop) (x10 : Int32) (x11 : Int32) (x12 : Int32) (u : SQ) : Prop := ((x11 = x12 → (wX6_shift_b253 a1 a2 a3 P x10 (0 : Int32) u)) ∧ (¬ x11 = x12 → (wX6_shift_b253 a1 a2 a3 P x10 (1 : Int32) u)))
def wX6_shift_b199 (a1 : Int32) (a2 : Int32) (a3 : Int32) (P : Int32 → SQ → Prop) (x10 : Int32) (s2 : Int32) (s3 : Int32) (u : SQ) : Prop := ((s2 = s3 → (wX6_shift_b253 a1 a2 a3 P x10 (0 : Int32) u)) ∧ (¬ s2 = s3 → (wX6_shift_b253 a1 a2 a3 P x10 (1 : Int32) u)))
def wX6_shift_b175 (a1 : Int32) (a2 : Int32) (a3 : Int32) (P : Int32 → SQ → Prop) (x4 : Int32) (x6 : Int32) (x7 : Int32) (x10 : Int32) (x11 : Int32) (s0 : Int32) (u : SQ) : Prop := ((x6 = (0 : Int32) → ((a1 = (1 : Int32) → (wX6_shift_b220 a1 a2 a3 P x10 x11 s0 u)) ∧ (¬ a1 = (1 : Int32) → ((a1 = (3 : Int32) → (wX6_shift_b220 a1 a2 a3 P x10 x11 s0 u)) ∧ (¬ a1 = (3 : Int32) → ((a1 = (5 : Int32) → (¬ x4 = (0 : Int32) ∧ (((a2 / x4) = (1 : Int32) → (wX6_shift_b253 a1 a2 a3 P x10 (1 : Int32) u)) ∧ (¬ (a2 / x4) = (1 : Int32) → (wX6_shift_b252 a1 a2 a3 P x10 u))))) ∧ (¬ a1 = (5 : Int32) → (wX6_shift_b252 a1 a2 a3 P x10 u)))))))) ∧ (¬ x6 = (0 : Int32) → ((x7 = (1 : Int32) → (wX6_shift_b199 a1 a2 a3 P x10 x11 (1 : Int32) u)) ∧ (¬ x7 = (1 : Int32) → (wX6_shift_b199 a1 a2 a3 P x10 x11 (0 : Int32) u)))))
def wX6_shift_b158 (a1 : Int32) (a2 : Int32) (a3 : Int32) (P : Int32 → SQ → Prop) (x4 : Int32) (x6 : Int32) (x7 : Int32) (x10 : Int32) (s0 : Int32) (u : SQ) : Prop := (¬ (2 : Int32) = (0 : Int32) ∧ (((x10 &&& (x4 / (2 : Int32))) = (0 : Int32) → (wX6_shift_b175 a1 a2 a3 P x4 x6 x7 x10 s0 (0 : Int32) u)) ∧ (¬ (x10 &&& (x4 / (2 : Int32))) = (0 : Int32) → (wX6_shift_b175 a1 a2 a3 P x4 x6 x7 x10 s0 (1 : Int32) u))))
def wX6_shift_b141 (a1 : Int32) (a2 : Int32) (a3 : Int32) (P : Int32 → SQ → Prop) (x4 : Int32) (x6 : Int32) (x7 : Int32) (x10 : Int32) (s2 : Int32) (u : SQ) : Prop := (wX6_mark (1 : Int32) s2 u (fun u15 => (¬ x4 = (0 : Int32) ∧ (((x10 / x4) = (1 : Int32) → (wX6_shift_b158 a1 a2 a3 P x4 x6 x7 x10 (1 : Int32) u15)) ∧ (¬ (x10 / x4) = (1 : Int32) → (wX6_shift_b158 a1 a2 a3 P x4 x6 x7 x10 (0 : Int32) u15))))))
def wX6_shift_b126 (a1 : Int32) (a2 : Int32) (a3 : Int32) (P : Int32 → SQ → Prop) (x4 : Int32) (x6 : Int32) (x7 : Int32) (s0 : Int32) (u : SQ) : Prop := ((x7 = (1 : Int32) → (wX6_shift_b141 a1 a2 a3 P x4 x6 x7 s0 (1 : Int32) u)) ∧ (¬ x7 = (1 : Int32) → (wX6_shift_b141 a1 a2 a3 P x4 x6 x7 s0 (0 : Int32) u)))
def wX6_shift_b98 (a1 : Int32) (a2 : Int32) (a3 : Int32) (P : Int32 → SQ → Prop) (x4 : Int32) (x5 : Int32) (x6 : Int32) (x7 : Int32) (s0 : Int32) (u : SQ) : Prop := ((x6 = (0 : Int32) → (¬ (2 : Int32) = (0 : Int32) ∧ (wX6_shift_b126 a1 a2 a3 P x4 x6 x7 ((a2 / (2 : Int32)) + (s0 * x4)) u))) ∧ (¬ x6 = (0 : Int32) → (wX6_shift_b126 a1 a2 a3 P x4 x6 x7 ((((2 : Int32) * a2) + s0) &&& x5) u)))
def wX6_shift_b54 (a1 : Int32) (a2 : Int32) (a3 : Int32) (P : Int32 → SQ → Prop) (x4 : Int32) (x5 : Int32) (x6 : Int32) (s0 : Int32) (u : SQ) : Prop := (((2 : Int32) ≤ a1 → (((4 : Int32) ≤ a1 → ((a1 = (7 : Int32) → (¬ x4 = (0 : Int32) ∧ (wX6_shift_b98 a1 a2 a3 P x4 x5 x6 s0 (a2 / x4) u))) ∧ (¬ a1 = (7 : Int32) → (wX6_shift_b98 a1 a2 a3 P x4 x5 x6 s0 (0 : Int32) u)))) ∧ (¬ (4 : Int32) ≤ a1 → (wX6_shift_b98 a1 a2 a3 P x4 x5 x6 s0 ((q_flags u) &&& (1 : Int32)) u)))) ∧ (¬ (2 : Int32) ≤ a1 → (wX6_shift_b98 a1 a2 a3 P x4 x5 x6 s0 s0 u)))
def wX6_shift_b37 (a1 : Int32) (a2 : Int32) (a3 : Int32) (P : Int32 → SQ → Prop) (x4 : Int32) (x5 : Int32) (s0 : Int32) (u : SQ) : Prop := ((s0 = (0 : Int32) → (wX6_shift_b54 a1 a2 a3 P x4 x5 s0 (a2 &&& (1 : Int32)) u)) ∧ (¬ s0 = (0 : Int32) → (¬ x4 = (0 : Int32) ∧ (wX6_shift_b54 a1 a2 a3 P x4 x5 s0 (a2 / x4) u))))
def wX6_shift_b32 (a1 : Int32) (a2 : Int32) (a3 : Int32) (P : Int32 → SQ → Prop) (x4 : Int32) (x5 : Int32) (u : SQ) : Prop := (wX6_shift_b37 a1 a2 a3 P x4 x5 (1 : Int32) u)
def wX6_shift (a1 : Int32) (a2 : Int32) (a3 : Int32) (u : SQ) (P : Int32 → SQ → Prop) : Prop := (wX6_top a3 () (fun r2 u1 => (wX6_all a3 () (fun r4 u3 => ((a1 = (0 : Int32) → (wX6_shift_b32 a1 a2 a3 P r2 r4 u)) ∧ (¬ a1 = (0 : Int32) → ((a1 = (2 : Int32) → (wX6_shift_b32 a1 a2 a3 P r2 r4 u)) ∧ (¬ a1 = (2 : Int32) → ((a1 = (4 : Int32) → (wX6_shift_b32 a1 a2 a3 P r2 r4 u)) ∧ (¬ a1 = (4 : Int32) → ((a1 = (6 : Int32) → (wX6_shift_b32 a1 a2 a3 P r2 r4 u)) ∧ (¬ a1 = (6 : Int32) → (wX6_shift_b37 a1 a2 a3 P r2 r4 (0 : Int32) u)))))))))))))
set_option maxHeartbeats 4000000 in
set_option maxRecDepth 100000 in
theorem kcX6_shift (l : Launch) (D : va_G) (cB cI : ClassId) (h0 h1 h2 h3 h4 h5 : Nat) (sz : Nat) (a1 : Int32) (a2 : Int32) (a3 : Int32) (u : SQ) (P : Int32 → SQ → Prop) (hw : wX6_shift a1 a2 a3 u P) : Met l yX6_shift wsX6_shift ({ frames := 2, cells := 0, slots := 0, locals := 46 } : Room) (va_Pc [.ref h0, .int a1, .int a2, .int a3] (Pcw D (tyA cB cI) (WQ cI h0 h1 h2 h3 h4 h5 u) sz Tru)) (va_Qi P (fun u t => va_P D vwCl (WQ cI h0 h1 h2 h3 h4 h5 u) t.heap) (va_A (WQ cI h0 h1 h2 h3 h4 h5 u) sz)) 0 0 (va_A (WQ cI h0 h1 h2 h3 h4 h5 u) sz) := by
  refine en_ (cc := cX6_shift) (maxL := 13) (ret := (some .int)) (own := RX6) (lv := [(0, .ref h0), (1, .int a1), (2, .int a2), (3, .int a3)]) (Qf := fun A => va_Qi P (fun u t => va_P D vwCl (WQ cI h0 h1 h2 h3 h4 h5 u) t.heap) A) (by decide) rfl rfl (Nat.le_of_ble_eq_true rfl) rfl ?_
  intro p e s m below meth c A ls S hr hlk hname hsz hP hK hD hA hSub hS hE hl
  have hx := S.1
  have hb := S.2.1
  have hown := S.2.2.2.1
  have hts := S.2.2.2.2
  have i_X6 : ∀ w ∈ u_ws RX6 TX6 29, w ∈ wsX6_shift := by decide +kernel
  have f_54 := hts (.fieldLink RX6 54 "MachineCoreModel" "flags" "I") (by decide +kernel)
  have b253 : ∀ (x10 : Int32) (s2 : Int32) (u : SQ) (H : Heap) (locs : List Loc) (ls : Array Slot), va_P D vwCl (WQ cI h0 h1 h2 h3 h4 h5 u) H → va_D A (WQ cI h0 h1 h2 h3 h4 h5 u) → va_S A s.heap H locs → lv_has ls 13 [(0, .ref h0), (1, .int a1), (3, .int a3), (10, .int x10)] → wX6_shift_b253 a1 a2 a3 P x10 s2 u → W p l e ({ frames := 2, cells := 0, slots := 0, locals := 46 } : Room) s m ([.ref h0, .int a1, .int a2, .int a3] : List Value).toArray below meth c H locs 0 0 (MQ below (va_Qi P (fun u t => va_P D vwCl (WQ cI h0 h1 h2 h3 h4 h5 u) t.heap) A) ([.ref h0, .int a1, .int a2, .int a3] : List Value).toArray s 0 0 A) (F0 m 253 ls [.int s2, .int (2048 : Int32), .ref h0]) := by
    intro x10 s2 u H locs ls hP hD hS hl hw
    unfold wX6_shift_b253 at hw
    refine cl_Vv (As := [.int (2048 : Int32), .int s2]) (rest := []) (st := [.int s2, .int (2048 : Int32), .ref h0]) S hK hA hP hD hS (fr_Q u) (kcX6_mark l D cB cI h0 h1 h2 h3 h4 h5 H.size (2048 : Int32) s2 u _ hw) (cwV 2 hts gX6_shift_X6_mark rfl rfl rfl (by decide +kernel) ⟨Nat.le_of_ble_eq_true rfl, Nat.le_of_ble_eq_true rfl⟩) tru_h tru_b 0 rfl rfl rfl rfl rfl hl.1 (Nat.le_of_ble_eq_true rfl) dX6_shift_253 ⟨Nat.zero_le _, Nat.zero_le _⟩ (fun u27 H locs hP hD hS hw => ?_)
    replace hP : va_P D vwCl (WQ cI h0 h1 h2 h3 h4 h5 u27) H := hP
    replace hD : va_D A (WQ cI h0 h1 h2 h3 h4 h5 u27) := hD
    refine lv_iload_n hx hb dX6_shift_256 rfl (lv_at hl 1 rfl) ?_
    refine lv_iconst (v := (3 : Int32)) hx hb dX6_shift_257 (by decide) ?_
    refine lv_icmp_le (tgt := 268) hx hb dX6_shift_258 (by decide) (fun c29 => ?_) (fun c29 => ?_)
    · replace hw := hw.1 c29
      refine lv_iload hx hb dX6_shift_268 (lv_at hl 3 rfl) ?_
      exact rt_i (wo := (fun v => WQ cI h0 h1 h2 h3 h4 h5 v)) S hr hlk u27 hP hS hw dX6_shift_270
    · replace hw := hw.2 c29
      refine lv_aload_n hx hb dX6_shift_261 rfl (lv_at hl 0 rfl) ?_
      refine lv_iload hx hb dX6_shift_262 (lv_at hl 3 rfl) ?_
      refine lv_iload_n hx hb dX6_shift_264 rfl (lv_at hl 2 rfl) ?_
      refine cl_Vv (As := [.int x10, .int a3]) (rest := []) (st := [.int a3, .int x10, .ref h0]) S hK hA hP hD hS (fr_Q u27) (kcX6_byAnswer l D cB cI h0 h1 h2 h3 h4 h5 H.size x10 a3 u27 _ hw) (cwV 2 hts gX6_shift_X6_byAnswer rfl rfl rfl (by decide +kernel) ⟨Nat.le_of_ble_eq_true rfl, Nat.le_of_ble_eq_true rfl⟩) tru_h tru_b 0 rfl rfl rfl rfl rfl hl.1 (Nat.le_of_ble_eq_true rfl) dX6_shift_265 ⟨Nat.zero_le _, Nat.zero_le _⟩ (fun u30 H locs hP hD hS hw => ?_)
      replace hP : va_P D vwCl (WQ cI h0 h1 h2 h3 h4 h5 u30) H := hP
      replace hD : va_D A (WQ cI h0 h1 h2 h3 h4 h5 u30) := hD
      refine lv_iload hx hb dX6_shift_268 (lv_at hl 3 rfl) ?_
      exact rt_i (wo := (fun v => WQ cI h0 h1 h2 h3 h4 h5 v)) S hr hlk u30 hP hS hw dX6_shift_270
  have b252 : ∀ (x10 : Int32) (u : SQ) (H : Heap) (locs : List Loc) (ls : Array Slot), va_P D vwCl (WQ cI h0 h1 h2 h3 h4 h5 u) H → va_D A (WQ cI h0 h1 h2 h3 h4 h5 u) → va_S A s.heap H locs → lv_has ls 13 [(0, .ref h0), (1, .int a1), (3, .int a3), (10, .int x10)] → wX6_shift_b252 a1 a2 a3 P x10 u → W p l e ({ frames := 2, cells := 0, slots := 0, locals := 46 } : Room) s m ([.ref h0, .int a1, .int a2, .int a3] : List Value).toArray below meth c H locs 0 0 (MQ below (va_Qi P (fun u t => va_P D vwCl (WQ cI h0 h1 h2 h3 h4 h5 u) t.heap) A) ([.ref h0, .int a1, .int a2, .int a3] : List Value).toArray s 0 0 A) (F0 m 252 ls [.int (2048 : Int32), .ref h0]) := by
    intro x10 u H locs ls hP hD hS hl hw
    unfold wX6_shift_b252 at hw
    refine lv_iconst (v := (0 : Int32)) hx hb dX6_shift_252 (by decide) ?_
    exact b253 x10 (0 : Int32) u H locs ls hP hD hS (lv_sub hl [0, 1, 2, 3] rfl) hw
  have b220 : ∀ (x10 : Int32) (x11 : Int32) (x12 : Int32) (u : SQ) (H : Heap) (locs : List Loc) (ls : Array Slot), va_P D vwCl (WQ cI h0 h1 h2 h3 h4 h5 u) H → va_D A (WQ cI h0 h1 h2 h3 h4 h5 u) → va_S A s.heap H locs → lv_has ls 13 [(0, .ref h0), (1, .int a1), (3, .int a3), (10, .int x10), (11, .int x11), (12, .int x12)] → wX6_shift_b220 a1 a2 a3 P x10 x11 x12 u → W p l e ({ frames := 2, cells := 0, slots := 0, locals := 46 } : Room) s m ([.ref h0, .int a1, .int a2, .int a3] : List Value).toArray below meth c H locs 0 0 (MQ below (va_Qi P (fun u t => va_P D vwCl (WQ cI h0 h1 h2 h3 h4 h5 u) t.heap) A) ([.ref h0, .int a1, .int a2, .int a3] : List Value).toArray s 0 0 A) (F0 m 220 ls [.int (2048 : Int32), .ref h0]) := by
    intro x10 x11 x12 u H locs ls hP hD hS hl hw
    unfold wX6_shift_b220 at hw
    refine lv_iload hx hb dX6_shift_220 (lv_at hl 4 rfl) ?_
    refine lv_iload hx hb dX6_shift_222 (lv_at hl 5 rfl) ?_
    refine lv_icmp_eq (tgt := 231) hx hb dX6_shift_224 (by decide) (fun c26 => ?_) (fun c26 => ?_)
    · replace hw := hw.1 c26
      refine lv_iconst (v := (0 : Int32)) hx hb dX6_shift_231 (by decide) ?_
      refine lv_goto (tgt := 253) hx hb dX6_shift_232 (by decide) ?_
      exact b253 x10 (0 : Int32) u H locs ls hP hD hS (lv_sub hl [0, 1, 2, 3] rfl) hw
    · replace hw := hw.2 c26
      refine lv_iconst (v := (1 : Int32)) hx hb dX6_shift_227 (by decide) ?_
      refine lv_goto (tgt := 253) hx hb dX6_shift_228 (by decide) ?_
      exact b253 x10 (1 : Int32) u H locs ls hP hD hS (lv_sub hl [0, 1, 2, 3] rfl) hw
  have b199 : ∀ (x10 : Int32) (s2 : Int32) (s3 : Int32) (u : SQ) (H : Heap) (locs : List Loc) (ls : Array Slot), va_P D vwCl (WQ cI h0 h1 h2 h3 h4 h5 u) H → va_D A (WQ cI h0 h1 h2 h3 h4 h5 u) → va_S A s.heap H locs → lv_has ls 13 [(0, .ref h0), (1, .int a1), (3, .int a3), (10, .int x10)] → wX6_shift_b199 a1 a2 a3 P x10 s2 s3 u → W p l e ({ frames := 2, cells := 0, slots := 0, locals := 46 } : Room) s m ([.ref h0, .int a1, .int a2, .int a3] : List Value).toArray below meth c H locs 0 0 (MQ below (va_Qi P (fun u t => va_P D vwCl (WQ cI h0 h1 h2 h3 h4 h5 u) t.heap) A) ([.ref h0, .int a1, .int a2, .int a3] : List Value).toArray s 0 0 A) (F0 m 199 ls [.int s3, .int s2, .int (2048 : Int32), .ref h0]) := by
    intro x10 s2 s3 u H locs ls hP hD hS hl hw
    unfold wX6_shift_b199 at hw
    refine lv_icmp_eq (tgt := 206) hx hb dX6_shift_199 (by decide) (fun c25 => ?_) (fun c25 => ?_)
    · replace hw := hw.1 c25
      refine lv_iconst (v := (0 : Int32)) hx hb dX6_shift_206 (by decide) ?_
      refine lv_goto (tgt := 253) hx hb dX6_shift_207 (by decide) ?_
      exact b253 x10 (0 : Int32) u H locs ls hP hD hS (lv_sub hl [0, 1, 2, 3] rfl) hw
    · replace hw := hw.2 c25
      refine lv_iconst (v := (1 : Int32)) hx hb dX6_shift_202 (by decide) ?_
      refine lv_goto (tgt := 253) hx hb dX6_shift_203 (by decide) ?_
      exact b253 x10 (1 : Int32) u H locs ls hP hD hS (lv_sub hl [0, 1, 2, 3] rfl) hw
  have b175 : ∀ (x4 : Int32) (x6 : Int32) (x7 : Int32) (x10 : Int32) (x11 : Int32) (s0 : Int32) (u : SQ) (H : Heap) (locs : List Loc) (ls : Array Slot), va_P D vwCl (WQ cI h0 h1 h2 h3 h4 h5 u) H → va_D A (WQ cI h0 h1 h2 h3 h4 h5 u) → va_S A s.heap H locs → lv_has ls 13 [(0, .ref h0), (1, .int a1), (2, .int a2), (3, .int a3), (4, .int x4), (6, .int x6), (7, .int x7), (10, .int x10), (11, .int x11)] → wX6_shift_b175 a1 a2 a3 P x4 x6 x7 x10 x11 s0 u → W p l e ({ frames := 2, cells := 0, slots := 0, locals := 46 } : Room) s m ([.ref h0, .int a1, .int a2, .int a3] : List Value).toArray below meth c H locs 0 0 (MQ below (va_Qi P (fun u t => va_P D vwCl (WQ cI h0 h1 h2 h3 h4 h5 u) t.heap) A) ([.ref h0, .int a1, .int a2, .int a3] : List Value).toArray s 0 0 A) (F0 m 175 ls [.int s0]) := by
    intro x4 x6 x7 x10 x11 s0 u H locs ls hP hD hS hl hw
    unfold wX6_shift_b175 at hw
    refine lv_istore (lv' := [(12, .int s0), (0, .ref h0), (1, .int a1), (2, .int a2), (3, .int a3), (4, .int x4), (6, .int x6), (7, .int x7), (10, .int x10), (11, .int x11)]) hx hb dX6_shift_175 hl (by decide) rfl (fun ls hl => ?_)
    refine lv_aload_n hx hb dX6_shift_177 rfl (lv_at hl 1 rfl) ?_
    refine lv_sipush (v := (2048 : Int32)) hx hb dX6_shift_178 (by decide) ?_
    refine lv_iload hx hb dX6_shift_181 (lv_at hl 6 rfl) ?_
    refine lv_if_eq (tgt := 210) hx hb dX6_shift_183 (by decide) (fun c19 => ?_) (fun c19 => ?_)
    · replace hw := hw.1 c19
      refine lv_iload_n hx hb dX6_shift_210 rfl (lv_at hl 2 rfl) ?_
      refine lv_iconst (v := (1 : Int32)) hx hb dX6_shift_211 (by decide) ?_
      refine lv_icmp_eq (tgt := 220) hx hb dX6_shift_212 (by decide) (fun c20 => ?_) (fun c20 => ?_)
      · replace hw := hw.1 c20
        exact b220 x10 x11 s0 u H locs ls hP hD hS (lv_sub hl [1, 2, 4, 8, 9, 0] rfl) hw
      · replace hw := hw.2 c20
        refine lv_iload_n hx hb dX6_shift_215 rfl (lv_at hl 2 rfl) ?_
        refine lv_iconst (v := (3 : Int32)) hx hb dX6_shift_216 (by decide) ?_
        refine lv_icmp_ne (tgt := 235) hx hb dX6_shift_217 (by decide) (fun c21 => ?_) (fun c21 => ?_)
        · replace hw := hw.2 c21
          refine lv_iload_n hx hb dX6_shift_235 rfl (lv_at hl 2 rfl) ?_
          refine lv_iconst (v := (5 : Int32)) hx hb dX6_shift_236 (by decide) ?_
          refine lv_icmp_ne (tgt := 252) hx hb dX6_shift_237 (by decide) (fun c22 => ?_) (fun c22 => ?_)
          · replace hw := hw.2 c22
            exact b252 x10 u H locs ls hP hD hS (lv_sub hl [1, 2, 4, 8] rfl) hw
          · replace hw := hw.1 c22
            refine lv_iload_n hx hb dX6_shift_240 rfl (lv_at hl 3 rfl) ?_
            refine lv_iload hx hb dX6_shift_241 (lv_at hl 5 rfl) ?_
            refine lv_idiv hx hb dX6_shift_243 hw.1 ?_
            replace hw := hw.2
            refine lv_iconst (v := (1 : Int32)) hx hb dX6_shift_244 (by decide) ?_
            refine lv_icmp_ne (tgt := 252) hx hb dX6_shift_245 (by decide) (fun c23 => ?_) (fun c23 => ?_)
            · replace hw := hw.2 c23
              exact b252 x10 u H locs ls hP hD hS (lv_sub hl [1, 2, 4, 8] rfl) hw
            · replace hw := hw.1 c23
              refine lv_iconst (v := (1 : Int32)) hx hb dX6_shift_248 (by decide) ?_
              refine lv_goto (tgt := 253) hx hb dX6_shift_249 (by decide) ?_
              exact b253 x10 (1 : Int32) u H locs ls hP hD hS (lv_sub hl [1, 2, 4, 8] rfl) hw
        · replace hw := hw.1 c21
          exact b220 x10 x11 s0 u H locs ls hP hD hS (lv_sub hl [1, 2, 4, 8, 9, 0] rfl) hw
    · replace hw := hw.2 c19
      refine lv_iload hx hb dX6_shift_186 (lv_at hl 9 rfl) ?_
      refine lv_iload hx hb dX6_shift_188 (lv_at hl 7 rfl) ?_
      refine lv_iconst (v := (1 : Int32)) hx hb dX6_shift_190 (by decide) ?_
      refine lv_icmp_ne (tgt := 198) hx hb dX6_shift_191 (by decide) (fun c24 => ?_) (fun c24 => ?_)
      · replace hw := hw.2 c24
        refine lv_iconst (v := (0 : Int32)) hx hb dX6_shift_198 (by decide) ?_
        exact b199 x10 x11 (0 : Int32) u H locs ls hP hD hS (lv_sub hl [1, 2, 4, 8] rfl) hw
      · replace hw := hw.1 c24
        refine lv_iconst (v := (1 : Int32)) hx hb dX6_shift_194 (by decide) ?_
        refine lv_goto (tgt := 199) hx hb dX6_shift_195 (by decide) ?_
        exact b199 x10 x11 (1 : Int32) u H locs ls hP hD hS (lv_sub hl [1, 2, 4, 8] rfl) hw
  have b158 : ∀ (x4 : Int32) (x6 : Int32) (x7 : Int32) (x10 : Int32) (s0 : Int32) (u : SQ) (H : Heap) (locs : List Loc) (ls : Array Slot), va_P D vwCl (WQ cI h0 h1 h2 h3 h4 h5 u) H → va_D A (WQ cI h0 h1 h2 h3 h4 h5 u) → va_S A s.heap H locs → lv_has ls 13 [(0, .ref h0), (1, .int a1), (2, .int a2), (3, .int a3), (4, .int x4), (6, .int x6), (7, .int x7), (10, .int x10)] → wX6_shift_b158 a1 a2 a3 P x4 x6 x7 x10 s0 u → W p l e ({ frames := 2, cells := 0, slots := 0, locals := 46 } : Room) s m ([.ref h0, .int a1, .int a2, .int a3] : List Value).toArray below meth c H locs 0 0 (MQ below (va_Qi P (fun u t => va_P D vwCl (WQ cI h0 h1 h2 h3 h4 h5 u) t.heap) A) ([.ref h0, .int a1, .int a2, .int a3] : List Value).toArray s 0 0 A) (F0 m 158 ls [.int s0]) := by
    intro x4 x6 x7 x10 s0 u H locs ls hP hD hS hl hw
    unfold wX6_shift_b158 at hw
    refine lv_istore (lv' := [(11, .int s0), (0, .ref h0), (1, .int a1), (2, .int a2), (3, .int a3), (4, .int x4), (6, .int x6), (7, .int x7), (10, .int x10)]) hx hb dX6_shift_158 hl (by decide) rfl (fun ls hl => ?_)
    refine lv_iload hx hb dX6_shift_160 (lv_at hl 8 rfl) ?_
    refine lv_iload hx hb dX6_shift_162 (lv_at hl 5 rfl) ?_
    refine lv_iconst (v := (2 : Int32)) hx hb dX6_shift_164 (by decide) ?_
    refine lv_idiv hx hb dX6_shift_165 hw.1 ?_
    replace hw := hw.2
    refine lv_iand hx hb dX6_shift_166 ?_
    refine lv_if_eq (tgt := 174) hx hb dX6_shift_167 (by decide) (fun c18 => ?_) (fun c18 => ?_)
    · replace hw := hw.1 c18
      refine lv_iconst (v := (0 : Int32)) hx hb dX6_shift_174 (by decide) ?_
      exact b175 x4 x6 x7 x10 s0 (0 : Int32) u H locs ls hP hD hS (lv_sub hl [1, 2, 3, 4, 5, 6, 7, 8, 0] rfl) hw
    · replace hw := hw.2 c18
      refine lv_iconst (v := (1 : Int32)) hx hb dX6_shift_170 (by decide) ?_
      refine lv_goto (tgt := 175) hx hb dX6_shift_171 (by decide) ?_
      exact b175 x4 x6 x7 x10 s0 (1 : Int32) u H locs ls hP hD hS (lv_sub hl [1, 2, 3, 4, 5, 6, 7, 8, 0] rfl) hw
  have b141 : ∀ (x4 : Int32) (x6 : Int32) (x7 : Int32) (x10 : Int32) (s2 : Int32) (u : SQ) (H : Heap) (locs : List Loc) (ls : Array Slot), va_P D vwCl (WQ cI h0 h1 h2 h3 h4 h5 u) H → va_D A (WQ cI h0 h1 h2 h3 h4 h5 u) → va_S A s.heap H locs → lv_has ls 13 [(0, .ref h0), (1, .int a1), (2, .int a2), (3, .int a3), (4, .int x4), (6, .int x6), (7, .int x7), (10, .int x10)] → wX6_shift_b141 a1 a2 a3 P x4 x6 x7 x10 s2 u → W p l e ({ frames := 2, cells := 0, slots := 0, locals := 46 } : Room) s m ([.ref h0, .int a1, .int a2, .int a3] : List Value).toArray below meth c H locs 0 0 (MQ below (va_Qi P (fun u t => va_P D vwCl (WQ cI h0 h1 h2 h3 h4 h5 u) t.heap) A) ([.ref h0, .int a1, .int a2, .int a3] : List Value).toArray s 0 0 A) (F0 m 141 ls [.int s2, .int (1 : Int32), .ref h0]) := by
    intro x4 x6 x7 x10 s2 u H locs ls hP hD hS hl hw
    unfold wX6_shift_b141 at hw
    refine cl_Vv (As := [.int (1 : Int32), .int s2]) (rest := []) (st := [.int s2, .int (1 : Int32), .ref h0]) S hK hA hP hD hS (fr_Q u) (kcX6_mark l D cB cI h0 h1 h2 h3 h4 h5 H.size (1 : Int32) s2 u _ hw) (cwV 2 hts gX6_shift_X6_mark rfl rfl rfl (by decide +kernel) ⟨Nat.le_of_ble_eq_true rfl, Nat.le_of_ble_eq_true rfl⟩) tru_h tru_b 0 rfl rfl rfl rfl rfl hl.1 (Nat.le_of_ble_eq_true rfl) dX6_shift_141 ⟨Nat.zero_le _, Nat.zero_le _⟩ (fun u15 H locs hP hD hS hw => ?_)
    replace hP : va_P D vwCl (WQ cI h0 h1 h2 h3 h4 h5 u15) H := hP
    replace hD : va_D A (WQ cI h0 h1 h2 h3 h4 h5 u15) := hD
    refine lv_iload hx hb dX6_shift_144 (lv_at hl 7 rfl) ?_
    refine lv_iload hx hb dX6_shift_146 (lv_at hl 4 rfl) ?_
    refine lv_idiv hx hb dX6_shift_148 hw.1 ?_
    replace hw := hw.2
    refine lv_iconst (v := (1 : Int32)) hx hb dX6_shift_149 (by decide) ?_
    refine lv_icmp_ne (tgt := 157) hx hb dX6_shift_150 (by decide) (fun c17 => ?_) (fun c17 => ?_)
    · replace hw := hw.2 c17
      refine lv_iconst (v := (0 : Int32)) hx hb dX6_shift_157 (by decide) ?_
      exact b158 x4 x6 x7 x10 (0 : Int32) u15 H locs ls hP hD hS (lv_sub hl [0, 1, 2, 3, 4, 5, 6, 7] rfl) hw
    · replace hw := hw.1 c17
      refine lv_iconst (v := (1 : Int32)) hx hb dX6_shift_153 (by decide) ?_
      refine lv_goto (tgt := 158) hx hb dX6_shift_154 (by decide) ?_
      exact b158 x4 x6 x7 x10 (1 : Int32) u15 H locs ls hP hD hS (lv_sub hl [0, 1, 2, 3, 4, 5, 6, 7] rfl) hw
  have b126 : ∀ (x4 : Int32) (x6 : Int32) (x7 : Int32) (s0 : Int32) (u : SQ) (H : Heap) (locs : List Loc) (ls : Array Slot), va_P D vwCl (WQ cI h0 h1 h2 h3 h4 h5 u) H → va_D A (WQ cI h0 h1 h2 h3 h4 h5 u) → va_S A s.heap H locs → lv_has ls 13 [(0, .ref h0), (1, .int a1), (2, .int a2), (3, .int a3), (4, .int x4), (6, .int x6), (7, .int x7)] → wX6_shift_b126 a1 a2 a3 P x4 x6 x7 s0 u → W p l e ({ frames := 2, cells := 0, slots := 0, locals := 46 } : Room) s m ([.ref h0, .int a1, .int a2, .int a3] : List Value).toArray below meth c H locs 0 0 (MQ below (va_Qi P (fun u t => va_P D vwCl (WQ cI h0 h1 h2 h3 h4 h5 u) t.heap) A) ([.ref h0, .int a1, .int a2, .int a3] : List Value).toArray s 0 0 A) (F0 m 126 ls [.int s0]) := by
    intro x4 x6 x7 s0 u H locs ls hP hD hS hl hw
    unfold wX6_shift_b126 at hw
    refine lv_istore (lv' := [(10, .int s0), (0, .ref h0), (1, .int a1), (2, .int a2), (3, .int a3), (4, .int x4), (6, .int x6), (7, .int x7)]) hx hb dX6_shift_126 hl (by decide) rfl (fun ls hl => ?_)
    refine lv_aload_n hx hb dX6_shift_128 rfl (lv_at hl 1 rfl) ?_
    refine lv_iconst (v := (1 : Int32)) hx hb dX6_shift_129 (by decide) ?_
    refine lv_iload hx hb dX6_shift_130 (lv_at hl 7 rfl) ?_
    refine lv_iconst (v := (1 : Int32)) hx hb dX6_shift_132 (by decide) ?_
    refine lv_icmp_ne (tgt := 140) hx hb dX6_shift_133 (by decide) (fun c14 => ?_) (fun c14 => ?_)
    · replace hw := hw.2 c14
      refine lv_iconst (v := (0 : Int32)) hx hb dX6_shift_140 (by decide) ?_
      exact b141 x4 x6 x7 s0 (0 : Int32) u H locs ls hP hD hS (lv_sub hl [1, 2, 3, 4, 5, 6, 7, 0] rfl) hw
    · replace hw := hw.1 c14
      refine lv_iconst (v := (1 : Int32)) hx hb dX6_shift_136 (by decide) ?_
      refine lv_goto (tgt := 141) hx hb dX6_shift_137 (by decide) ?_
      exact b141 x4 x6 x7 s0 (1 : Int32) u H locs ls hP hD hS (lv_sub hl [1, 2, 3, 4, 5, 6, 7, 0] rfl) hw
  have b98 : ∀ (x4 : Int32) (x5 : Int32) (x6 : Int32) (x7 : Int32) (s0 : Int32) (u : SQ) (H : Heap) (locs : List Loc) (ls : Array Slot), va_P D vwCl (WQ cI h0 h1 h2 h3 h4 h5 u) H → va_D A (WQ cI h0 h1 h2 h3 h4 h5 u) → va_S A s.heap H locs → lv_has ls 13 [(0, .ref h0), (1, .int a1), (2, .int a2), (3, .int a3), (4, .int x4), (5, .int x5), (6, .int x6), (7, .int x7)] → wX6_shift_b98 a1 a2 a3 P x4 x5 x6 x7 s0 u → W p l e ({ frames := 2, cells := 0, slots := 0, locals := 46 } : Room) s m ([.ref h0, .int a1, .int a2, .int a3] : List Value).toArray below meth c H locs 0 0 (MQ below (va_Qi P (fun u t => va_P D vwCl (WQ cI h0 h1 h2 h3 h4 h5 u) t.heap) A) ([.ref h0, .int a1, .int a2, .int a3] : List Value).toArray s 0 0 A) (F0 m 98 ls [.int s0]) := by
    intro x4 x5 x6 x7 s0 u H locs ls hP hD hS hl hw
    unfold wX6_shift_b98 at hw
    refine lv_istore (lv' := [(9, .int s0), (0, .ref h0), (1, .int a1), (2, .int a2), (3, .int a3), (4, .int x4), (5, .int x5), (6, .int x6), (7, .int x7)]) hx hb dX6_shift_98 hl (by decide) rfl (fun ls hl => ?_)
    refine lv_iload hx hb dX6_shift_100 (lv_at hl 7 rfl) ?_
    refine lv_if_eq (tgt := 117) hx hb dX6_shift_102 (by decide) (fun c13 => ?_) (fun c13 => ?_)
    · replace hw := hw.1 c13
      refine lv_iload_n hx hb dX6_shift_117 rfl (lv_at hl 3 rfl) ?_
      refine lv_iconst (v := (2 : Int32)) hx hb dX6_shift_118 (by decide) ?_
      refine lv_idiv hx hb dX6_shift_119 hw.1 ?_
      replace hw := hw.2
      refine lv_iload hx hb dX6_shift_120 (lv_at hl 0 rfl) ?_
      refine lv_iload hx hb dX6_shift_122 (lv_at hl 5 rfl) ?_
      refine lv_imul hx hb dX6_shift_124 ?_
      refine lv_iadd hx hb dX6_shift_125 ?_
      exact b126 x4 x6 x7 ((a2 / (2 : Int32)) + (s0 * x4)) u H locs ls hP hD hS (lv_sub hl [1, 2, 3, 4, 5, 7, 8] rfl) hw
    · replace hw := hw.2 c13
      refine lv_iconst (v := (2 : Int32)) hx hb dX6_shift_105 (by decide) ?_
      refine lv_iload_n hx hb dX6_shift_106 rfl (lv_at hl 3 rfl) ?_
      refine lv_imul hx hb dX6_shift_107 ?_
      refine lv_iload hx hb dX6_shift_108 (lv_at hl 0 rfl) ?_
      refine lv_iadd hx hb dX6_shift_110 ?_
      refine lv_iload hx hb dX6_shift_111 (lv_at hl 6 rfl) ?_
      refine lv_iand hx hb dX6_shift_113 ?_
      refine lv_goto (tgt := 126) hx hb dX6_shift_114 (by decide) ?_
      exact b126 x4 x6 x7 ((((2 : Int32) * a2) + s0) &&& x5) u H locs ls hP hD hS (lv_sub hl [1, 2, 3, 4, 5, 7, 8] rfl) hw
  have b54 : ∀ (x4 : Int32) (x5 : Int32) (x6 : Int32) (s0 : Int32) (u : SQ) (H : Heap) (locs : List Loc) (ls : Array Slot), va_P D vwCl (WQ cI h0 h1 h2 h3 h4 h5 u) H → va_D A (WQ cI h0 h1 h2 h3 h4 h5 u) → va_S A s.heap H locs → lv_has ls 13 [(0, .ref h0), (1, .int a1), (2, .int a2), (3, .int a3), (4, .int x4), (5, .int x5), (6, .int x6)] → wX6_shift_b54 a1 a2 a3 P x4 x5 x6 s0 u → W p l e ({ frames := 2, cells := 0, slots := 0, locals := 46 } : Room) s m ([.ref h0, .int a1, .int a2, .int a3] : List Value).toArray below meth c H locs 0 0 (MQ below (va_Qi P (fun u t => va_P D vwCl (WQ cI h0 h1 h2 h3 h4 h5 u) t.heap) A) ([.ref h0, .int a1, .int a2, .int a3] : List Value).toArray s 0 0 A) (F0 m 54 ls [.int s0]) := by
    intro x4 x5 x6 s0 u H locs ls hP hD hS hl hw
    unfold wX6_shift_b54 at hw
    refine lv_istore (lv' := [(7, .int s0), (0, .ref h0), (1, .int a1), (2, .int a2), (3, .int a3), (4, .int x4), (5, .int x5), (6, .int x6)]) hx hb dX6_shift_54 hl (by decide) rfl (fun ls hl => ?_)
    refine lv_aload_n hx hb dX6_shift_56 rfl (lv_at hl 1 rfl) ?_
    refine va_get (D := D) (ci := 6) (v := .int (q_flags u)) (C := RX6) (T := TX6) (N := 29) hx hb hts i_X6 hown hK hP 0 rfl rfl 4 (by decide) f_54 (fun _ h9 => h9) rfl dX6_shift_57 ?_
    refine lv_iconst (v := (1 : Int32)) hx hb dX6_shift_60 (by decide) ?_
    refine lv_iand hx hb dX6_shift_61 ?_
    refine lv_istore (lv' := [(8, .int ((q_flags u) &&& (1 : Int32))), (7, .int s0), (0, .ref h0), (1, .int a1), (2, .int a2), (3, .int a3), (4, .int x4), (5, .int x5), (6, .int x6)]) hx hb dX6_shift_62 hl (by decide) rfl (fun ls hl => ?_)
    refine lv_iload_n hx hb dX6_shift_64 rfl (lv_at hl 3 rfl) ?_
    refine lv_iconst (v := (2 : Int32)) hx hb dX6_shift_65 (by decide) ?_
    refine lv_icmp_ge (tgt := 74) hx hb dX6_shift_66 (by decide) (fun c10 => ?_) (fun c10 => ?_)
    · replace hw := hw.1 c10
      refine lv_iload_n hx hb dX6_shift_74 rfl (lv_at hl 3 rfl) ?_
      refine lv_iconst (v := (4 : Int32)) hx hb dX6_shift_75 (by decide) ?_
      refine lv_icmp_ge (tgt := 84) hx hb dX6_shift_76 (by decide) (fun c11 => ?_) (fun c11 => ?_)
      · replace hw := hw.1 c11
        refine lv_iload_n hx hb dX6_shift_84 rfl (lv_at hl 3 rfl) ?_
        refine lv_bipush (v := (7 : Int32)) hx hb dX6_shift_85 (by decide) ?_
        refine lv_icmp_ne (tgt := 97) hx hb dX6_shift_87 (by decide) (fun c12 => ?_) (fun c12 => ?_)
        · replace hw := hw.2 c12
          refine lv_iconst (v := (0 : Int32)) hx hb dX6_shift_97 (by decide) ?_
          exact b98 x4 x5 x6 s0 (0 : Int32) u H locs ls hP hD hS (lv_sub hl [2, 3, 4, 5, 6, 7, 8, 1] rfl) hw
        · replace hw := hw.1 c12
          refine lv_iload_n hx hb dX6_shift_90 rfl (lv_at hl 4 rfl) ?_
          refine lv_iload hx hb dX6_shift_91 (lv_at hl 6 rfl) ?_
          refine lv_idiv hx hb dX6_shift_93 hw.1 ?_
          replace hw := hw.2
          refine lv_goto (tgt := 98) hx hb dX6_shift_94 (by decide) ?_
          exact b98 x4 x5 x6 s0 (a2 / x4) u H locs ls hP hD hS (lv_sub hl [2, 3, 4, 5, 6, 7, 8, 1] rfl) hw
      · replace hw := hw.2 c11
        refine lv_iload hx hb dX6_shift_79 (lv_at hl 0 rfl) ?_
        refine lv_goto (tgt := 98) hx hb dX6_shift_81 (by decide) ?_
        exact b98 x4 x5 x6 s0 ((q_flags u) &&& (1 : Int32)) u H locs ls hP hD hS (lv_sub hl [2, 3, 4, 5, 6, 7, 8, 1] rfl) hw
    · replace hw := hw.2 c10
      refine lv_iload hx hb dX6_shift_69 (lv_at hl 1 rfl) ?_
      refine lv_goto (tgt := 98) hx hb dX6_shift_71 (by decide) ?_
      exact b98 x4 x5 x6 s0 s0 u H locs ls hP hD hS (lv_sub hl [2, 3, 4, 5, 6, 7, 8, 1] rfl) hw
  have b37 : ∀ (x4 : Int32) (x5 : Int32) (s0 : Int32) (u : SQ) (H : Heap) (locs : List Loc) (ls : Array Slot), va_P D vwCl (WQ cI h0 h1 h2 h3 h4 h5 u) H → va_D A (WQ cI h0 h1 h2 h3 h4 h5 u) → va_S A s.heap H locs → lv_has ls 13 [(0, .ref h0), (1, .int a1), (2, .int a2), (3, .int a3), (4, .int x4), (5, .int x5)] → wX6_shift_b37 a1 a2 a3 P x4 x5 s0 u → W p l e ({ frames := 2, cells := 0, slots := 0, locals := 46 } : Room) s m ([.ref h0, .int a1, .int a2, .int a3] : List Value).toArray below meth c H locs 0 0 (MQ below (va_Qi P (fun u t => va_P D vwCl (WQ cI h0 h1 h2 h3 h4 h5 u) t.heap) A) ([.ref h0, .int a1, .int a2, .int a3] : List Value).toArray s 0 0 A) (F0 m 37 ls [.int s0]) := by
    intro x4 x5 s0 u H locs ls hP hD hS hl hw
    unfold wX6_shift_b37 at hw
    refine lv_istore (lv' := [(6, .int s0), (0, .ref h0), (1, .int a1), (2, .int a2), (3, .int a3), (4, .int x4), (5, .int x5)]) hx hb dX6_shift_37 hl (by decide) rfl (fun ls hl => ?_)
    refine lv_iload hx hb dX6_shift_39 (lv_at hl 0 rfl) ?_
    refine lv_if_eq (tgt := 51) hx hb dX6_shift_41 (by decide) (fun c9 => ?_) (fun c9 => ?_)
    · replace hw := hw.1 c9
      refine lv_iload_n hx hb dX6_shift_51 rfl (lv_at hl 3 rfl) ?_
      refine lv_iconst (v := (1 : Int32)) hx hb dX6_shift_52 (by decide) ?_
      refine lv_iand hx hb dX6_shift_53 ?_
      exact b54 x4 x5 s0 (a2 &&& (1 : Int32)) u H locs ls hP hD hS (lv_sub hl [1, 2, 3, 4, 5, 6, 0] rfl) hw
    · replace hw := hw.2 c9
      refine lv_iload_n hx hb dX6_shift_44 rfl (lv_at hl 3 rfl) ?_
      refine lv_iload hx hb dX6_shift_45 (lv_at hl 5 rfl) ?_
      refine lv_idiv hx hb dX6_shift_47 hw.1 ?_
      replace hw := hw.2
      refine lv_goto (tgt := 54) hx hb dX6_shift_48 (by decide) ?_
      exact b54 x4 x5 s0 (a2 / x4) u H locs ls hP hD hS (lv_sub hl [1, 2, 3, 4, 5, 6, 0] rfl) hw
  have b32 : ∀ (x4 : Int32) (x5 : Int32) (u : SQ) (H : Heap) (locs : List Loc) (ls : Array Slot), va_P D vwCl (WQ cI h0 h1 h2 h3 h4 h5 u) H → va_D A (WQ cI h0 h1 h2 h3 h4 h5 u) → va_S A s.heap H locs → lv_has ls 13 [(0, .ref h0), (1, .int a1), (2, .int a2), (3, .int a3), (4, .int x4), (5, .int x5)] → wX6_shift_b32 a1 a2 a3 P x4 x5 u → W p l e ({ frames := 2, cells := 0, slots := 0, locals := 46 } : Room) s m ([.ref h0, .int a1, .int a2, .int a3] : List Value).toArray below meth c H locs 0 0 (MQ below (va_Qi P (fun u t => va_P D vwCl (WQ cI h0 h1 h2 h3 h4 h5 u) t.heap) A) ([.ref h0, .int a1, .int a2, .int a3] : List Value).toArray s 0 0 A) (F0 m 32 ls []) := by
    intro x4 x5 u H locs ls hP hD hS hl hw
    unfold wX6_shift_b32 at hw
    refine lv_iconst (v := (1 : Int32)) hx hb dX6_shift_32 (by decide) ?_
    refine lv_goto (tgt := 37) hx hb dX6_shift_33 (by decide) ?_
    exact b37 x4 x5 (1 : Int32) u H locs ls hP hD hS (lv_sub hl [0, 1, 2, 3, 4, 5] rfl) hw
  unfold wX6_shift at hw
  obtain ⟨H, eH⟩ : ∃ H, H = s.heap := ⟨_, rfl⟩
  obtain ⟨locs, eL⟩ : ∃ locs : List Loc, locs = [] := ⟨_, rfl⟩
  replace hP : va_P D vwCl (WQ cI h0 h1 h2 h3 h4 h5 u) H := by rw [eH]; exact hP
  replace hS : va_S A s.heap H locs := by rw [eH, eL]; exact hS
  suffices hgo : W p l e ({ frames := 2, cells := 0, slots := 0, locals := 46 } : Room) s m ([.ref h0, .int a1, .int a2, .int a3] : List Value).toArray below meth c H locs 0 0 (MQ below (va_Qi P (fun u t => va_P D vwCl (WQ cI h0 h1 h2 h3 h4 h5 u) t.heap) A) ([.ref h0, .int a1, .int a2, .int a3] : List Value).toArray s 0 0 A) (F0 m 0 ls []) by rw [eH, eL] at hgo; exact hgo
  clear eH eL
  refine lv_iload_n hx hb dX6_shift_0 rfl (lv_at hl 3 rfl) ?_
  refine cl_Si (As := [.int a3]) (rest := []) (st := [.int a3]) S hK hA hP hD hS Fr_nil (kcX6_top l D cB cI  H.size a3 () _ hw) (va_cwS 1 hts gX6_shift_X6_top rfl rfl rfl (by decide +kernel) ⟨Nat.le_of_ble_eq_true rfl, Nat.le_of_ble_eq_true rfl⟩) tru_h tru_b rfl rfl hl.1 (Nat.le_of_ble_eq_true rfl) dX6_shift_1 ⟨Nat.zero_le _, Nat.zero_le _⟩ (fun r2 u1 H locs hP hD hS hw => ?_)
  replace hP : va_P D vwCl (WQ cI h0 h1 h2 h3 h4 h5 u) H := hP
  replace hD : va_D A (WQ cI h0 h1 h2 h3 h4 h5 u) := hD
  refine lv_istore (lv' := [(4, .int r2), (0, .ref h0), (1, .int a1), (2, .int a2), (3, .int a3)]) hx hb dX6_shift_4 hl (by decide) rfl (fun ls hl => ?_)
  refine lv_iload_n hx hb dX6_shift_6 rfl (lv_at hl 4 rfl) ?_
  refine cl_Si (As := [.int a3]) (rest := []) (st := [.int a3]) S hK hA hP hD hS Fr_nil (kcX6_all l D cB cI  H.size a3 () _ hw) (va_cwS 1 hts gX6_shift_X6_all rfl rfl rfl (by decide +kernel) ⟨Nat.le_of_ble_eq_true rfl, Nat.le_of_ble_eq_true rfl⟩) tru_h tru_b rfl rfl hl.1 (Nat.le_of_ble_eq_true rfl) dX6_shift_7 ⟨Nat.zero_le _, Nat.zero_le _⟩ (fun r4 u3 H locs hP hD hS hw => ?_)
  replace hP : va_P D vwCl (WQ cI h0 h1 h2 h3 h4 h5 u) H := hP
  replace hD : va_D A (WQ cI h0 h1 h2 h3 h4 h5 u) := hD
  refine lv_istore (lv' := [(5, .int r4), (4, .int r2), (0, .ref h0), (1, .int a1), (2, .int a2), (3, .int a3)]) hx hb dX6_shift_10 hl (by decide) rfl (fun ls hl => ?_)
  refine lv_iload_n hx hb dX6_shift_12 rfl (lv_at hl 3 rfl) ?_
  refine lv_if_eq (tgt := 32) hx hb dX6_shift_13 (by decide) (fun c5 => ?_) (fun c5 => ?_)
  · replace hw := hw.1 c5
    exact b32 r2 r4 u H locs ls hP hD hS (lv_sub hl [2, 3, 4, 5, 1, 0] rfl) hw
  · replace hw := hw.2 c5
    refine lv_iload_n hx hb dX6_shift_16 rfl (lv_at hl 3 rfl) ?_
    refine lv_iconst (v := (2 : Int32)) hx hb dX6_shift_17 (by decide) ?_
    refine lv_icmp_eq (tgt := 32) hx hb dX6_shift_18 (by decide) (fun c6 => ?_) (fun c6 => ?_)
    · replace hw := hw.1 c6
      exact b32 r2 r4 u H locs ls hP hD hS (lv_sub hl [2, 3, 4, 5, 1, 0] rfl) hw
    · replace hw := hw.2 c6
      refine lv_iload_n hx hb dX6_shift_21 rfl (lv_at hl 3 rfl) ?_
      refine lv_iconst (v := (4 : Int32)) hx hb dX6_shift_22 (by decide) ?_
      refine lv_icmp_eq (tgt := 32) hx hb dX6_shift_23 (by decide) (fun c7 => ?_) (fun c7 => ?_)
      · replace hw := hw.1 c7
        exact b32 r2 r4 u H locs ls hP hD hS (lv_sub hl [2, 3, 4, 5, 1, 0] rfl) hw
      · replace hw := hw.2 c7
        refine lv_iload_n hx hb dX6_shift_26 rfl (lv_at hl 3 rfl) ?_
        refine lv_bipush (v := (6 : Int32)) hx hb dX6_shift_27 (by decide) ?_
        refine lv_icmp_ne (tgt := 36) hx hb dX6_shift_29 (by decide) (fun c8 => ?_) (fun c8 => ?_)
        · replace hw := hw.2 c8
          refine lv_iconst (v := (0 : Int32)) hx hb dX6_shift_36 (by decide) ?_
          exact b37 r2 r4 (0 : Int32) u H locs ls hP hD hS (lv_sub hl [2, 3, 4, 5, 1, 0] rfl) hw
        · replace hw := hw.1 c8
          exact b32 r2 r4 u H locs ls hP hD hS (lv_sub hl [2, 3, 4, 5, 1, 0] rfl) hw
-- X6_shifts
def wX6_shifts_b6 (a1 : Int32) (a2 : Int32) (a3 : Int32) (a4 : Int32) (P : Int32 → SQ → Prop) : Nat → Int32 → Int32 → SQ → Prop
  | 0, _, _, _ => False
  | n + 1, x5, x6, u => ((a3 ≤ x6 → (P x5 u)) ∧ (¬ a3 ≤ x6 → (wX6_shift a1 x5 a4 u (fun r3 u2 => (wX6_shifts_b6 a1 a2 a3 a4 P n r3 (x6 + (1 : Int32)) u2)))))
def wX6_shifts (a1 : Int32) (a2 : Int32) (a3 : Int32) (a4 : Int32) (u : SQ) (P : Int32 → SQ → Prop) : Prop := (∃ n, wX6_shifts_b6 a1 a2 a3 a4 P n a2 (0 : Int32) u)
set_option maxHeartbeats 4000000 in
set_option maxRecDepth 100000 in
theorem kcX6_shifts (l : Launch) (D : va_G) (cB cI : ClassId) (h0 h1 h2 h3 h4 h5 : Nat) (sz : Nat) (a1 : Int32) (a2 : Int32) (a3 : Int32) (a4 : Int32) (u : SQ) (P : Int32 → SQ → Prop) (hw : wX6_shifts a1 a2 a3 a4 u P) : Met l yX6_shifts wsX6_shifts ({ frames := 3, cells := 0, slots := 0, locals := 78 } : Room) (va_Pc [.ref h0, .int a1, .int a2, .int a3, .int a4] (Pcw D (tyA cB cI) (WQ cI h0 h1 h2 h3 h4 h5 u) sz Tru)) (va_Qi P (fun u t => va_P D vwCl (WQ cI h0 h1 h2 h3 h4 h5 u) t.heap) (va_A (WQ cI h0 h1 h2 h3 h4 h5 u) sz)) 0 0 (va_A (WQ cI h0 h1 h2 h3 h4 h5 u) sz) := by
  refine en_ (cc := cX6_shifts) (maxL := 7) (ret := (some .int)) (own := RX6) (lv := [(0, .ref h0), (1, .int a1), (2, .int a2), (3, .int a3), (4, .int a4)]) (Qf := fun A => va_Qi P (fun u t => va_P D vwCl (WQ cI h0 h1 h2 h3 h4 h5 u) t.heap) A) (by decide) rfl rfl (Nat.le_of_ble_eq_true rfl) rfl ?_
  intro p e s m below meth c A ls S hr hlk hname hsz hP hK hD hA hSub hS hE hl
  have hx := S.1
  have hb := S.2.1
  have hown := S.2.2.2.1
  have hts := S.2.2.2.2
  have b6 : ∀ (n : Nat) (x5 : Int32) (x6 : Int32) (u : SQ) (H : Heap) (locs : List Loc) (ls : Array Slot), va_P D vwCl (WQ cI h0 h1 h2 h3 h4 h5 u) H → va_D A (WQ cI h0 h1 h2 h3 h4 h5 u) → va_S A s.heap H locs → lv_has ls 7 [(0, .ref h0), (1, .int a1), (3, .int a3), (4, .int a4), (5, .int x5), (6, .int x6)] → wX6_shifts_b6 a1 a2 a3 a4 P n x5 x6 u → W p l e ({ frames := 3, cells := 0, slots := 0, locals := 78 } : Room) s m ([.ref h0, .int a1, .int a2, .int a3, .int a4] : List Value).toArray below meth c H locs 0 0 (MQ below (va_Qi P (fun u t => va_P D vwCl (WQ cI h0 h1 h2 h3 h4 h5 u) t.heap) A) ([.ref h0, .int a1, .int a2, .int a3, .int a4] : List Value).toArray s 0 0 A) (F0 m 6 ls []) := by
    intro n
    induction n with
    | zero => intro x5 x6 u H locs ls hP hD hS hl hw; exact False.elim hw
    | succ n ih =>
      intro x5 x6 u H locs ls hP hD hS hl hw
      rw [wX6_shifts_b6] at hw
      refine lv_iload hx hb dX6_shifts_6 (lv_at hl 5 rfl) ?_
      refine lv_iload_n hx hb dX6_shifts_8 rfl (lv_at hl 2 rfl) ?_
      refine lv_icmp_ge (tgt := 29) hx hb dX6_shifts_9 (by decide) (fun c1 => ?_) (fun c1 => ?_)
      · replace hw := hw.1 c1
        refine lv_iload hx hb dX6_shifts_29 (lv_at hl 4 rfl) ?_
        exact rt_i (wo := (fun v => WQ cI h0 h1 h2 h3 h4 h5 v)) S hr hlk u hP hS hw dX6_shifts_31
      · replace hw := hw.2 c1
        refine lv_aload_n hx hb dX6_shifts_12 rfl (lv_at hl 0 rfl) ?_
        refine lv_iload_n hx hb dX6_shifts_13 rfl (lv_at hl 1 rfl) ?_
        refine lv_iload hx hb dX6_shifts_14 (lv_at hl 4 rfl) ?_
        refine lv_iload hx hb dX6_shifts_16 (lv_at hl 3 rfl) ?_
        refine cl_Vi (As := [.int a1, .int x5, .int a4]) (rest := []) (st := [.int a4, .int x5, .int a1, .ref h0]) S hK hA hP hD hS (fr_Q u) (kcX6_shift l D cB cI h0 h1 h2 h3 h4 h5 H.size a1 x5 a4 u _ hw) (cwV 3 hts gX6_shifts_X6_shift rfl rfl rfl (by decide +kernel) ⟨Nat.le_of_ble_eq_true rfl, Nat.le_of_ble_eq_true rfl⟩) tru_h tru_b 0 rfl rfl rfl rfl rfl hl.1 (Nat.le_of_ble_eq_true rfl) dX6_shifts_18 ⟨Nat.zero_le _, Nat.zero_le _⟩ (fun r3 u2 H locs hP hD hS hw => ?_)
        replace hP : va_P D vwCl (WQ cI h0 h1 h2 h3 h4 h5 u2) H := hP
        replace hD : va_D A (WQ cI h0 h1 h2 h3 h4 h5 u2) := hD
        refine lv_istore (lv' := [(5, .int r3), (0, .ref h0), (1, .int a1), (3, .int a3), (4, .int a4), (6, .int x6)]) hx hb dX6_shifts_21 hl (by decide) rfl (fun ls hl => ?_)
        refine lv_iinc (v := (x6 + (1 : Int32))) (lv' := [(6, .int (x6 + (1 : Int32))), (5, .int r3), (0, .ref h0), (1, .int a1), (3, .int a3), (4, .int a4)]) hx hb dX6_shifts_23 hl (k := 5) rfl rfl (by decide) rfl (fun ls hl => ?_)
        refine lv_goto (tgt := 6) hx hb dX6_shifts_26 (by decide) ?_
        exact ih r3 (x6 + (1 : Int32)) u2 H locs ls hP hD hS (lv_sub hl [2, 3, 4, 5, 1, 0] rfl) hw
  unfold wX6_shifts at hw
  obtain ⟨H, eH⟩ : ∃ H, H = s.heap := ⟨_, rfl⟩
  obtain ⟨locs, eL⟩ : ∃ locs : List Loc, locs = [] := ⟨_, rfl⟩
  replace hP : va_P D vwCl (WQ cI h0 h1 h2 h3 h4 h5 u) H := by rw [eH]; exact hP
  replace hS : va_S A s.heap H locs := by rw [eH, eL]; exact hS
  suffices hgo : W p l e ({ frames := 3, cells := 0, slots := 0, locals := 78 } : Room) s m ([.ref h0, .int a1, .int a2, .int a3, .int a4] : List Value).toArray below meth c H locs 0 0 (MQ below (va_Qi P (fun u t => va_P D vwCl (WQ cI h0 h1 h2 h3 h4 h5 u) t.heap) A) ([.ref h0, .int a1, .int a2, .int a3, .int a4] : List Value).toArray s 0 0 A) (F0 m 0 ls []) by rw [eH, eL] at hgo; exact hgo
  clear eH eL
  refine lv_iload_n hx hb dX6_shifts_0 rfl (lv_at hl 2 rfl) ?_
  refine lv_istore (lv' := [(5, .int a2), (0, .ref h0), (1, .int a1), (2, .int a2), (3, .int a3), (4, .int a4)]) hx hb dX6_shifts_1 hl (by decide) rfl (fun ls hl => ?_)
  refine lv_iconst (v := (0 : Int32)) hx hb dX6_shifts_3 (by decide) ?_
  refine lv_istore (lv' := [(6, .int (0 : Int32)), (5, .int a2), (0, .ref h0), (1, .int a1), (2, .int a2), (3, .int a3), (4, .int a4)]) hx hb dX6_shifts_4 hl (by decide) rfl (fun ls hl => ?_)
  obtain ⟨n, hw⟩ := hw
  exact b6 n a2 (0 : Int32) u H locs ls hP hD hS (lv_sub hl [2, 3, 5, 6, 1, 0] rfl) hw
-- X6_adjustDecimal
def wX6_adjustDecimal_b139 (a1 : Int32) (P : SQ → Prop) (x6 : Int32) (s2 : Int32) (u : SQ) : Prop := (wX6_mark (1 : Int32) s2 u (fun u18 => (wX6_setRegister (0 : Int32) (0 : Int32) x6 u18 (fun u20 => (wX6_byAnswer x6 (0 : Int32) u20 (fun u22 => (P u22)))))))
def wX6_adjustDecimal_b138 (a1 : Int32) (P : SQ → Prop) (x6 : Int32) (u : SQ) : Prop := (wX6_adjustDecimal_b139 a1 P x6 (0 : Int32) u)
def wX6_adjustDecimal_b134 (a1 : Int32) (P : SQ → Prop) (x6 : Int32) (u : SQ) : Prop := (wX6_adjustDecimal_b139 a1 P x6 (1 : Int32) u)
def wX6_adjustDecimal_b104 (a1 : Int32) (P : SQ → Prop) (x2 : Int32) (x3 : Int32) (x4 : Int32) (s0 : Int32) (u : SQ) : Prop := (wX6_mark (16 : Int32) x3 u (fun u12 => ((x4 = (0 : Int32) → ((a1 = (0 : Int32) → (wX6_adjustDecimal_b138 a1 P s0 u12)) ∧ (¬ a1 = (0 : Int32) → ((x3 = (0 : Int32) → (wX6_adjustDecimal_b138 a1 P s0 u12)) ∧ (¬ x3 = (0 : Int32) → (((6 : Int32) ≤ x2 → (wX6_adjustDecimal_b138 a1 P s0 u12)) ∧ (¬ (6 : Int32) ≤ x2 → (wX6_adjustDecimal_b134 a1 P s0 u12)))))))) ∧ (¬ x4 = (0 : Int32) → (wX6_adjustDecimal_b134 a1 P s0 u12)))))
def wX6_adjustDecimal_b78 (a1 : Int32) (P : SQ → Prop) (x2 : Int32) (x3 : Int32) (x4 : Int32) (s0 : Int32) (s1 : Int32) (u : SQ) : Prop := ((a1 = (0 : Int32) → (wX6_adjustDecimal_b104 a1 P x2 x3 x4 ((x2 + (s0 + s1)) &&& (255 : Int32)) u)) ∧ (¬ a1 = (0 : Int32) → (wX6_adjustDecimal_b104 a1 P x2 x3 x4 ((x2 - (s0 + s1)) &&& (255 : Int32)) u)))
def wX6_adjustDecimal_b67 (a1 : Int32) (P : SQ → Prop) (x2 : Int32) (x3 : Int32) (x4 : Int32) (s0 : Int32) (u : SQ) : Prop := ((x4 = (0 : Int32) → (wX6_adjustDecimal_b78 a1 P x2 x3 x4 s0 (0 : Int32) u)) ∧ (¬ x4 = (0 : Int32) → (wX6_adjustDecimal_b78 a1 P x2 x3 x4 s0 (96 : Int32) u)))
def wX6_adjustDecimal_b55 (a1 : Int32) (P : SQ → Prop) (x2 : Int32) (x3 : Int32) (s0 : Int32) (u : SQ) : Prop := ((x3 = (0 : Int32) → (wX6_adjustDecimal_b67 a1 P x2 x3 s0 (0 : Int32) u)) ∧ (¬ x3 = (0 : Int32) → (wX6_adjustDecimal_b67 a1 P x2 x3 s0 (6 : Int32) u)))
def wX6_adjustDecimal_b50 (a1 : Int32) (P : SQ → Prop) (x2 : Int32) (x3 : Int32) (u : SQ) : Prop := (wX6_adjustDecimal_b55 a1 P x2 x3 (1 : Int32) u)
def wX6_adjustDecimal_b34 (a1 : Int32) (P : SQ → Prop) (x2 : Int32) (s0 : Int32) (u : SQ) : Prop := (((153 : Int32) < x2 → (wX6_adjustDecimal_b50 a1 P x2 s0 u)) ∧ (¬ (153 : Int32) < x2 → (wX6_has (1 : Int32) u (fun r7 u6 => ((r7 = (0 : Int32) → (wX6_adjustDecimal_b55 a1 P x2 s0 (0 : Int32) u6)) ∧ (¬ r7 = (0 : Int32) → (wX6_adjustDecimal_b50 a1 P x2 s0 u6)))))))
def wX6_adjustDecimal_b29 (a1 : Int32) (P : SQ → Prop) (x2 : Int32) (u : SQ) : Prop := (wX6_adjustDecimal_b34 a1 P x2 (1 : Int32) u)
def wX6_adjustDecimal (a1 : Int32) (u : SQ) (P : SQ → Prop) : Prop := (vp_in (0 : Int32) 8 ∧ (((9 : Int32) < ((((q_registers u) (0 : Int32).toNatClampNeg) &&& (255 : Int32)) &&& (15 : Int32)) → (wX6_adjustDecimal_b29 a1 P (((q_registers u) (0 : Int32).toNatClampNeg) &&& (255 : Int32)) u)) ∧ (¬ (9 : Int32) < ((((q_registers u) (0 : Int32).toNatClampNeg) &&& (255 : Int32)) &&& (15 : Int32)) → (wX6_has (16 : Int32) u (fun r3 u2 => ((r3 = (0 : Int32) → (wX6_adjustDecimal_b34 a1 P (((q_registers u) (0 : Int32).toNatClampNeg) &&& (255 : Int32)) (0 : Int32) u2)) ∧ (¬ r3 = (0 : Int32) → (wX6_adjustDecimal_b29 a1 P (((q_registers u) (0 : Int32).toNatClampNeg) &&& (255 : Int32)) u2))))))))
set_option maxHeartbeats 4000000 in
set_option maxRecDepth 100000 in
theorem kcX6_adjustDecimal (l : Launch) (D : va_G) (cB cI : ClassId) (h0 h1 h2 h3 h4 h5 : Nat) (sz : Nat) (a1 : Int32) (u : SQ) (P : SQ → Prop) (hw : wX6_adjustDecimal a1 u P) : Met l yX6_adjustDecimal wsX6_adjustDecimal ({ frames := 2, cells := 0, slots := 0, locals := 46 } : Room) (va_Pc [.ref h0, .int a1] (Pcw D (tyA cB cI) (WQ cI h0 h1 h2 h3 h4 h5 u) sz Tru)) (va_Qv P (fun u t => va_P D vwCl (WQ cI h0 h1 h2 h3 h4 h5 u) t.heap) (va_A (WQ cI h0 h1 h2 h3 h4 h5 u) sz)) 0 0 (va_A (WQ cI h0 h1 h2 h3 h4 h5 u) sz) := by
  refine en_ (cc := cX6_adjustDecimal) (maxL := 7) (ret := none) (own := RX6) (lv := [(0, .ref h0), (1, .int a1)]) (Qf := fun A => va_Qv P (fun u t => va_P D vwCl (WQ cI h0 h1 h2 h3 h4 h5 u) t.heap) A) (by decide) rfl rfl (Nat.le_of_ble_eq_true rfl) rfl ?_
  intro p e s m below meth c A ls S hr hlk hname hsz hP hK hD hA hSub hS hE hl
  have hx := S.1
  have hb := S.2.1
  have hown := S.2.2.2.1
  have hts := S.2.2.2.2
  have i_X6 : ∀ w ∈ u_ws RX6 TX6 29, w ∈ wsX6_adjustDecimal := by decide +kernel
  have f_7 := hts (.fieldLink RX6 7 "MachineCoreModel" "registers" "[I") (by decide +kernel)
  have b139 : ∀ (x6 : Int32) (s2 : Int32) (u : SQ) (H : Heap) (locs : List Loc) (ls : Array Slot), va_P D vwCl (WQ cI h0 h1 h2 h3 h4 h5 u) H → va_D A (WQ cI h0 h1 h2 h3 h4 h5 u) → va_S A s.heap H locs → lv_has ls 7 [(0, .ref h0), (6, .int x6)] → wX6_adjustDecimal_b139 a1 P x6 s2 u → W p l e ({ frames := 2, cells := 0, slots := 0, locals := 46 } : Room) s m ([.ref h0, .int a1] : List Value).toArray below meth c H locs 0 0 (MQ below (va_Qv P (fun u t => va_P D vwCl (WQ cI h0 h1 h2 h3 h4 h5 u) t.heap) A) ([.ref h0, .int a1] : List Value).toArray s 0 0 A) (F0 m 139 ls [.int s2, .int (1 : Int32), .ref h0]) := by
    intro x6 s2 u H locs ls hP hD hS hl hw
    unfold wX6_adjustDecimal_b139 at hw
    refine cl_Vv (As := [.int (1 : Int32), .int s2]) (rest := []) (st := [.int s2, .int (1 : Int32), .ref h0]) S hK hA hP hD hS (fr_Q u) (kcX6_mark l D cB cI h0 h1 h2 h3 h4 h5 H.size (1 : Int32) s2 u _ hw) (cwV 2 hts gX6_adjustDecimal_X6_mark rfl rfl rfl (by decide +kernel) ⟨Nat.le_of_ble_eq_true rfl, Nat.le_of_ble_eq_true rfl⟩) tru_h tru_b 0 rfl rfl rfl rfl rfl hl.1 (Nat.le_of_ble_eq_true rfl) dX6_adjustDecimal_139 ⟨Nat.zero_le _, Nat.zero_le _⟩ (fun u18 H locs hP hD hS hw => ?_)
    replace hP : va_P D vwCl (WQ cI h0 h1 h2 h3 h4 h5 u18) H := hP
    replace hD : va_D A (WQ cI h0 h1 h2 h3 h4 h5 u18) := hD
    refine lv_aload_n hx hb dX6_adjustDecimal_142 rfl (lv_at hl 0 rfl) ?_
    refine lv_iconst (v := (0 : Int32)) hx hb dX6_adjustDecimal_143 (by decide) ?_
    refine lv_iconst (v := (0 : Int32)) hx hb dX6_adjustDecimal_144 (by decide) ?_
    refine lv_iload hx hb dX6_adjustDecimal_145 (lv_at hl 1 rfl) ?_
    refine cl_Vv (As := [.int (0 : Int32), .int (0 : Int32), .int x6]) (rest := []) (st := [.int x6, .int (0 : Int32), .int (0 : Int32), .ref h0]) S hK hA hP hD hS (fr_Q u18) (kcX6_setRegister l D cB cI h0 h1 h2 h3 h4 h5 H.size (0 : Int32) (0 : Int32) x6 u18 _ hw) (cwV 3 hts gX6_adjustDecimal_X6_setRegister rfl rfl rfl (by decide +kernel) ⟨Nat.le_of_ble_eq_true rfl, Nat.le_of_ble_eq_true rfl⟩) tru_h tru_b 0 rfl rfl rfl rfl rfl hl.1 (Nat.le_of_ble_eq_true rfl) dX6_adjustDecimal_147 ⟨Nat.zero_le _, Nat.zero_le _⟩ (fun u20 H locs hP hD hS hw => ?_)
    replace hP : va_P D vwCl (WQ cI h0 h1 h2 h3 h4 h5 u20) H := hP
    replace hD : va_D A (WQ cI h0 h1 h2 h3 h4 h5 u20) := hD
    refine lv_aload_n hx hb dX6_adjustDecimal_150 rfl (lv_at hl 0 rfl) ?_
    refine lv_iload hx hb dX6_adjustDecimal_151 (lv_at hl 1 rfl) ?_
    refine lv_iconst (v := (0 : Int32)) hx hb dX6_adjustDecimal_153 (by decide) ?_
    refine cl_Vv (As := [.int x6, .int (0 : Int32)]) (rest := []) (st := [.int (0 : Int32), .int x6, .ref h0]) S hK hA hP hD hS (fr_Q u20) (kcX6_byAnswer l D cB cI h0 h1 h2 h3 h4 h5 H.size x6 (0 : Int32) u20 _ hw) (cwV 2 hts gX6_adjustDecimal_X6_byAnswer rfl rfl rfl (by decide +kernel) ⟨Nat.le_of_ble_eq_true rfl, Nat.le_of_ble_eq_true rfl⟩) tru_h tru_b 0 rfl rfl rfl rfl rfl hl.1 (Nat.le_of_ble_eq_true rfl) dX6_adjustDecimal_154 ⟨Nat.zero_le _, Nat.zero_le _⟩ (fun u22 H locs hP hD hS hw => ?_)
    replace hP : va_P D vwCl (WQ cI h0 h1 h2 h3 h4 h5 u22) H := hP
    replace hD : va_D A (WQ cI h0 h1 h2 h3 h4 h5 u22) := hD
    exact rt_v (wo := (fun v => WQ cI h0 h1 h2 h3 h4 h5 v)) S hr hlk u22 hP hS hw dX6_adjustDecimal_157
  have b138 : ∀ (x6 : Int32) (u : SQ) (H : Heap) (locs : List Loc) (ls : Array Slot), va_P D vwCl (WQ cI h0 h1 h2 h3 h4 h5 u) H → va_D A (WQ cI h0 h1 h2 h3 h4 h5 u) → va_S A s.heap H locs → lv_has ls 7 [(0, .ref h0), (6, .int x6)] → wX6_adjustDecimal_b138 a1 P x6 u → W p l e ({ frames := 2, cells := 0, slots := 0, locals := 46 } : Room) s m ([.ref h0, .int a1] : List Value).toArray below meth c H locs 0 0 (MQ below (va_Qv P (fun u t => va_P D vwCl (WQ cI h0 h1 h2 h3 h4 h5 u) t.heap) A) ([.ref h0, .int a1] : List Value).toArray s 0 0 A) (F0 m 138 ls [.int (1 : Int32), .ref h0]) := by
    intro x6 u H locs ls hP hD hS hl hw
    unfold wX6_adjustDecimal_b138 at hw
    refine lv_iconst (v := (0 : Int32)) hx hb dX6_adjustDecimal_138 (by decide) ?_
    exact b139 x6 (0 : Int32) u H locs ls hP hD hS (lv_sub hl [0, 1] rfl) hw
  have b134 : ∀ (x6 : Int32) (u : SQ) (H : Heap) (locs : List Loc) (ls : Array Slot), va_P D vwCl (WQ cI h0 h1 h2 h3 h4 h5 u) H → va_D A (WQ cI h0 h1 h2 h3 h4 h5 u) → va_S A s.heap H locs → lv_has ls 7 [(0, .ref h0), (6, .int x6)] → wX6_adjustDecimal_b134 a1 P x6 u → W p l e ({ frames := 2, cells := 0, slots := 0, locals := 46 } : Room) s m ([.ref h0, .int a1] : List Value).toArray below meth c H locs 0 0 (MQ below (va_Qv P (fun u t => va_P D vwCl (WQ cI h0 h1 h2 h3 h4 h5 u) t.heap) A) ([.ref h0, .int a1] : List Value).toArray s 0 0 A) (F0 m 134 ls [.int (1 : Int32), .ref h0]) := by
    intro x6 u H locs ls hP hD hS hl hw
    unfold wX6_adjustDecimal_b134 at hw
    refine lv_iconst (v := (1 : Int32)) hx hb dX6_adjustDecimal_134 (by decide) ?_
    refine lv_goto (tgt := 139) hx hb dX6_adjustDecimal_135 (by decide) ?_
    exact b139 x6 (1 : Int32) u H locs ls hP hD hS (lv_sub hl [0, 1] rfl) hw
  have b104 : ∀ (x2 : Int32) (x3 : Int32) (x4 : Int32) (s0 : Int32) (u : SQ) (H : Heap) (locs : List Loc) (ls : Array Slot), va_P D vwCl (WQ cI h0 h1 h2 h3 h4 h5 u) H → va_D A (WQ cI h0 h1 h2 h3 h4 h5 u) → va_S A s.heap H locs → lv_has ls 7 [(0, .ref h0), (1, .int a1), (2, .int x2), (3, .int x3), (4, .int x4)] → wX6_adjustDecimal_b104 a1 P x2 x3 x4 s0 u → W p l e ({ frames := 2, cells := 0, slots := 0, locals := 46 } : Room) s m ([.ref h0, .int a1] : List Value).toArray below meth c H locs 0 0 (MQ below (va_Qv P (fun u t => va_P D vwCl (WQ cI h0 h1 h2 h3 h4 h5 u) t.heap) A) ([.ref h0, .int a1] : List Value).toArray s 0 0 A) (F0 m 104 ls [.int s0]) := by
    intro x2 x3 x4 s0 u H locs ls hP hD hS hl hw
    unfold wX6_adjustDecimal_b104 at hw
    refine lv_istore (lv' := [(6, .int s0), (0, .ref h0), (1, .int a1), (2, .int x2), (3, .int x3), (4, .int x4)]) hx hb dX6_adjustDecimal_104 hl (by decide) rfl (fun ls hl => ?_)
    refine lv_aload_n hx hb dX6_adjustDecimal_106 rfl (lv_at hl 1 rfl) ?_
    refine lv_bipush (v := (16 : Int32)) hx hb dX6_adjustDecimal_107 (by decide) ?_
    refine lv_iload_n hx hb dX6_adjustDecimal_109 rfl (lv_at hl 4 rfl) ?_
    refine cl_Vv (As := [.int (16 : Int32), .int x3]) (rest := []) (st := [.int x3, .int (16 : Int32), .ref h0]) S hK hA hP hD hS (fr_Q u) (kcX6_mark l D cB cI h0 h1 h2 h3 h4 h5 H.size (16 : Int32) x3 u _ hw) (cwV 2 hts gX6_adjustDecimal_X6_mark rfl rfl rfl (by decide +kernel) ⟨Nat.le_of_ble_eq_true rfl, Nat.le_of_ble_eq_true rfl⟩) tru_h tru_b 0 rfl rfl rfl rfl rfl hl.1 (Nat.le_of_ble_eq_true rfl) dX6_adjustDecimal_110 ⟨Nat.zero_le _, Nat.zero_le _⟩ (fun u12 H locs hP hD hS hw => ?_)
    replace hP : va_P D vwCl (WQ cI h0 h1 h2 h3 h4 h5 u12) H := hP
    replace hD : va_D A (WQ cI h0 h1 h2 h3 h4 h5 u12) := hD
    refine lv_aload_n hx hb dX6_adjustDecimal_113 rfl (lv_at hl 1 rfl) ?_
    refine lv_iconst (v := (1 : Int32)) hx hb dX6_adjustDecimal_114 (by decide) ?_
    refine lv_iload hx hb dX6_adjustDecimal_115 (lv_at hl 5 rfl) ?_
    refine lv_if_ne (tgt := 134) hx hb dX6_adjustDecimal_117 (by decide) (fun c14 => ?_) (fun c14 => ?_)
    · replace hw := hw.2 c14
      exact b134 s0 u12 H locs ls hP hD hS (lv_sub hl [1, 0] rfl) hw
    · replace hw := hw.1 c14
      refine lv_iload_n hx hb dX6_adjustDecimal_120 rfl (lv_at hl 2 rfl) ?_
      refine lv_if_eq (tgt := 138) hx hb dX6_adjustDecimal_121 (by decide) (fun c15 => ?_) (fun c15 => ?_)
      · replace hw := hw.1 c15
        exact b138 s0 u12 H locs ls hP hD hS (lv_sub hl [1, 0] rfl) hw
      · replace hw := hw.2 c15
        refine lv_iload_n hx hb dX6_adjustDecimal_124 rfl (lv_at hl 4 rfl) ?_
        refine lv_if_eq (tgt := 138) hx hb dX6_adjustDecimal_125 (by decide) (fun c16 => ?_) (fun c16 => ?_)
        · replace hw := hw.1 c16
          exact b138 s0 u12 H locs ls hP hD hS (lv_sub hl [1, 0] rfl) hw
        · replace hw := hw.2 c16
          refine lv_iload_n hx hb dX6_adjustDecimal_128 rfl (lv_at hl 3 rfl) ?_
          refine lv_bipush (v := (6 : Int32)) hx hb dX6_adjustDecimal_129 (by decide) ?_
          refine lv_icmp_ge (tgt := 138) hx hb dX6_adjustDecimal_131 (by decide) (fun c17 => ?_) (fun c17 => ?_)
          · replace hw := hw.1 c17
            exact b138 s0 u12 H locs ls hP hD hS (lv_sub hl [1, 0] rfl) hw
          · replace hw := hw.2 c17
            exact b134 s0 u12 H locs ls hP hD hS (lv_sub hl [1, 0] rfl) hw
  have b78 : ∀ (x2 : Int32) (x3 : Int32) (x4 : Int32) (s0 : Int32) (s1 : Int32) (u : SQ) (H : Heap) (locs : List Loc) (ls : Array Slot), va_P D vwCl (WQ cI h0 h1 h2 h3 h4 h5 u) H → va_D A (WQ cI h0 h1 h2 h3 h4 h5 u) → va_S A s.heap H locs → lv_has ls 7 [(0, .ref h0), (1, .int a1), (2, .int x2), (3, .int x3), (4, .int x4)] → wX6_adjustDecimal_b78 a1 P x2 x3 x4 s0 s1 u → W p l e ({ frames := 2, cells := 0, slots := 0, locals := 46 } : Room) s m ([.ref h0, .int a1] : List Value).toArray below meth c H locs 0 0 (MQ below (va_Qv P (fun u t => va_P D vwCl (WQ cI h0 h1 h2 h3 h4 h5 u) t.heap) A) ([.ref h0, .int a1] : List Value).toArray s 0 0 A) (F0 m 78 ls [.int s1, .int s0]) := by
    intro x2 x3 x4 s0 s1 u H locs ls hP hD hS hl hw
    unfold wX6_adjustDecimal_b78 at hw
    refine lv_iadd hx hb dX6_adjustDecimal_78 ?_
    refine lv_istore (lv' := [(5, .int (s0 + s1)), (0, .ref h0), (1, .int a1), (2, .int x2), (3, .int x3), (4, .int x4)]) hx hb dX6_adjustDecimal_79 hl (by decide) rfl (fun ls hl => ?_)
    refine lv_iload_n hx hb dX6_adjustDecimal_81 rfl (lv_at hl 2 rfl) ?_
    refine lv_if_eq (tgt := 96) hx hb dX6_adjustDecimal_82 (by decide) (fun c11 => ?_) (fun c11 => ?_)
    · replace hw := hw.1 c11
      refine lv_iload_n hx hb dX6_adjustDecimal_96 rfl (lv_at hl 3 rfl) ?_
      refine lv_iload hx hb dX6_adjustDecimal_97 (lv_at hl 0 rfl) ?_
      refine lv_iadd hx hb dX6_adjustDecimal_99 ?_
      refine lv_sipush (v := (255 : Int32)) hx hb dX6_adjustDecimal_100 (by decide) ?_
      refine lv_iand hx hb dX6_adjustDecimal_103 ?_
      exact b104 x2 x3 x4 ((x2 + (s0 + s1)) &&& (255 : Int32)) u H locs ls hP hD hS (lv_sub hl [1, 2, 3, 4, 5] rfl) hw
    · replace hw := hw.2 c11
      refine lv_iload_n hx hb dX6_adjustDecimal_85 rfl (lv_at hl 3 rfl) ?_
      refine lv_iload hx hb dX6_adjustDecimal_86 (lv_at hl 0 rfl) ?_
      refine lv_isub hx hb dX6_adjustDecimal_88 ?_
      refine lv_sipush (v := (255 : Int32)) hx hb dX6_adjustDecimal_89 (by decide) ?_
      refine lv_iand hx hb dX6_adjustDecimal_92 ?_
      refine lv_goto (tgt := 104) hx hb dX6_adjustDecimal_93 (by decide) ?_
      exact b104 x2 x3 x4 ((x2 - (s0 + s1)) &&& (255 : Int32)) u H locs ls hP hD hS (lv_sub hl [1, 2, 3, 4, 5] rfl) hw
  have b67 : ∀ (x2 : Int32) (x3 : Int32) (x4 : Int32) (s0 : Int32) (u : SQ) (H : Heap) (locs : List Loc) (ls : Array Slot), va_P D vwCl (WQ cI h0 h1 h2 h3 h4 h5 u) H → va_D A (WQ cI h0 h1 h2 h3 h4 h5 u) → va_S A s.heap H locs → lv_has ls 7 [(0, .ref h0), (1, .int a1), (2, .int x2), (3, .int x3), (4, .int x4)] → wX6_adjustDecimal_b67 a1 P x2 x3 x4 s0 u → W p l e ({ frames := 2, cells := 0, slots := 0, locals := 46 } : Room) s m ([.ref h0, .int a1] : List Value).toArray below meth c H locs 0 0 (MQ below (va_Qv P (fun u t => va_P D vwCl (WQ cI h0 h1 h2 h3 h4 h5 u) t.heap) A) ([.ref h0, .int a1] : List Value).toArray s 0 0 A) (F0 m 67 ls [.int s0]) := by
    intro x2 x3 x4 s0 u H locs ls hP hD hS hl hw
    unfold wX6_adjustDecimal_b67 at hw
    refine lv_iload hx hb dX6_adjustDecimal_67 (lv_at hl 4 rfl) ?_
    refine lv_if_eq (tgt := 77) hx hb dX6_adjustDecimal_69 (by decide) (fun c10 => ?_) (fun c10 => ?_)
    · replace hw := hw.1 c10
      refine lv_iconst (v := (0 : Int32)) hx hb dX6_adjustDecimal_77 (by decide) ?_
      exact b78 x2 x3 x4 s0 (0 : Int32) u H locs ls hP hD hS (lv_sub hl [0, 1, 2, 3, 4] rfl) hw
    · replace hw := hw.2 c10
      refine lv_bipush (v := (96 : Int32)) hx hb dX6_adjustDecimal_72 (by decide) ?_
      refine lv_goto (tgt := 78) hx hb dX6_adjustDecimal_74 (by decide) ?_
      exact b78 x2 x3 x4 s0 (96 : Int32) u H locs ls hP hD hS (lv_sub hl [0, 1, 2, 3, 4] rfl) hw
  have b55 : ∀ (x2 : Int32) (x3 : Int32) (s0 : Int32) (u : SQ) (H : Heap) (locs : List Loc) (ls : Array Slot), va_P D vwCl (WQ cI h0 h1 h2 h3 h4 h5 u) H → va_D A (WQ cI h0 h1 h2 h3 h4 h5 u) → va_S A s.heap H locs → lv_has ls 7 [(0, .ref h0), (1, .int a1), (2, .int x2), (3, .int x3)] → wX6_adjustDecimal_b55 a1 P x2 x3 s0 u → W p l e ({ frames := 2, cells := 0, slots := 0, locals := 46 } : Room) s m ([.ref h0, .int a1] : List Value).toArray below meth c H locs 0 0 (MQ below (va_Qv P (fun u t => va_P D vwCl (WQ cI h0 h1 h2 h3 h4 h5 u) t.heap) A) ([.ref h0, .int a1] : List Value).toArray s 0 0 A) (F0 m 55 ls [.int s0]) := by
    intro x2 x3 s0 u H locs ls hP hD hS hl hw
    unfold wX6_adjustDecimal_b55 at hw
    refine lv_istore (lv' := [(4, .int s0), (0, .ref h0), (1, .int a1), (2, .int x2), (3, .int x3)]) hx hb dX6_adjustDecimal_55 hl (by decide) rfl (fun ls hl => ?_)
    refine lv_iload_n hx hb dX6_adjustDecimal_57 rfl (lv_at hl 4 rfl) ?_
    refine lv_if_eq (tgt := 66) hx hb dX6_adjustDecimal_58 (by decide) (fun c9 => ?_) (fun c9 => ?_)
    · replace hw := hw.1 c9
      refine lv_iconst (v := (0 : Int32)) hx hb dX6_adjustDecimal_66 (by decide) ?_
      exact b67 x2 x3 s0 (0 : Int32) u H locs ls hP hD hS (lv_sub hl [1, 2, 3, 4, 0] rfl) hw
    · replace hw := hw.2 c9
      refine lv_bipush (v := (6 : Int32)) hx hb dX6_adjustDecimal_61 (by decide) ?_
      refine lv_goto (tgt := 67) hx hb dX6_adjustDecimal_63 (by decide) ?_
      exact b67 x2 x3 s0 (6 : Int32) u H locs ls hP hD hS (lv_sub hl [1, 2, 3, 4, 0] rfl) hw
  have b50 : ∀ (x2 : Int32) (x3 : Int32) (u : SQ) (H : Heap) (locs : List Loc) (ls : Array Slot), va_P D vwCl (WQ cI h0 h1 h2 h3 h4 h5 u) H → va_D A (WQ cI h0 h1 h2 h3 h4 h5 u) → va_S A s.heap H locs → lv_has ls 7 [(0, .ref h0), (1, .int a1), (2, .int x2), (3, .int x3)] → wX6_adjustDecimal_b50 a1 P x2 x3 u → W p l e ({ frames := 2, cells := 0, slots := 0, locals := 46 } : Room) s m ([.ref h0, .int a1] : List Value).toArray below meth c H locs 0 0 (MQ below (va_Qv P (fun u t => va_P D vwCl (WQ cI h0 h1 h2 h3 h4 h5 u) t.heap) A) ([.ref h0, .int a1] : List Value).toArray s 0 0 A) (F0 m 50 ls []) := by
    intro x2 x3 u H locs ls hP hD hS hl hw
    unfold wX6_adjustDecimal_b50 at hw
    refine lv_iconst (v := (1 : Int32)) hx hb dX6_adjustDecimal_50 (by decide) ?_
    refine lv_goto (tgt := 55) hx hb dX6_adjustDecimal_51 (by decide) ?_
    exact b55 x2 x3 (1 : Int32) u H locs ls hP hD hS (lv_sub hl [0, 1, 2, 3] rfl) hw
  have b34 : ∀ (x2 : Int32) (s0 : Int32) (u : SQ) (H : Heap) (locs : List Loc) (ls : Array Slot), va_P D vwCl (WQ cI h0 h1 h2 h3 h4 h5 u) H → va_D A (WQ cI h0 h1 h2 h3 h4 h5 u) → va_S A s.heap H locs → lv_has ls 7 [(0, .ref h0), (1, .int a1), (2, .int x2)] → wX6_adjustDecimal_b34 a1 P x2 s0 u → W p l e ({ frames := 2, cells := 0, slots := 0, locals := 46 } : Room) s m ([.ref h0, .int a1] : List Value).toArray below meth c H locs 0 0 (MQ below (va_Qv P (fun u t => va_P D vwCl (WQ cI h0 h1 h2 h3 h4 h5 u) t.heap) A) ([.ref h0, .int a1] : List Value).toArray s 0 0 A) (F0 m 34 ls [.int s0]) := by
    intro x2 s0 u H locs ls hP hD hS hl hw
    unfold wX6_adjustDecimal_b34 at hw
    refine lv_istore_n (lv' := [(3, .int s0), (0, .ref h0), (1, .int a1), (2, .int x2)]) hx hb dX6_adjustDecimal_34 rfl hl (by decide) rfl (fun ls hl => ?_)
    refine lv_iload_n hx hb dX6_adjustDecimal_35 rfl (lv_at hl 3 rfl) ?_
    refine lv_sipush (v := (153 : Int32)) hx hb dX6_adjustDecimal_36 (by decide) ?_
    refine lv_icmp_gt (tgt := 50) hx hb dX6_adjustDecimal_39 (by decide) (fun c5 => ?_) (fun c5 => ?_)
    · replace hw := hw.1 c5
      exact b50 x2 s0 u H locs ls hP hD hS (lv_sub hl [1, 2, 3, 0] rfl) hw
    · replace hw := hw.2 c5
      refine lv_aload_n hx hb dX6_adjustDecimal_42 rfl (lv_at hl 1 rfl) ?_
      refine lv_iconst (v := (1 : Int32)) hx hb dX6_adjustDecimal_43 (by decide) ?_
      refine cl_Vi (As := [.int (1 : Int32)]) (rest := []) (st := [.int (1 : Int32), .ref h0]) S hK hA hP hD hS (fr_Q u) (kcX6_has l D cB cI h0 h1 h2 h3 h4 h5 H.size (1 : Int32) u _ hw) (cwV 1 hts gX6_adjustDecimal_X6_has rfl rfl rfl (by decide +kernel) ⟨Nat.le_of_ble_eq_true rfl, Nat.le_of_ble_eq_true rfl⟩) tru_h tru_b 0 rfl rfl rfl rfl rfl hl.1 (Nat.le_of_ble_eq_true rfl) dX6_adjustDecimal_44 ⟨Nat.zero_le _, Nat.zero_le _⟩ (fun r7 u6 H locs hP hD hS hw => ?_)
      replace hP : va_P D vwCl (WQ cI h0 h1 h2 h3 h4 h5 u6) H := hP
      replace hD : va_D A (WQ cI h0 h1 h2 h3 h4 h5 u6) := hD
      refine lv_if_eq (tgt := 54) hx hb dX6_adjustDecimal_47 (by decide) (fun c8 => ?_) (fun c8 => ?_)
      · replace hw := hw.1 c8
        refine lv_iconst (v := (0 : Int32)) hx hb dX6_adjustDecimal_54 (by decide) ?_
        exact b55 x2 s0 (0 : Int32) u6 H locs ls hP hD hS (lv_sub hl [1, 2, 3, 0] rfl) hw
      · replace hw := hw.2 c8
        exact b50 x2 s0 u6 H locs ls hP hD hS (lv_sub hl [1, 2, 3, 0] rfl) hw
  have b29 : ∀ (x2 : Int32) (u : SQ) (H : Heap) (locs : List Loc) (ls : Array Slot), va_P D vwCl (WQ cI h0 h1 h2 h3 h4 h5 u) H → va_D A (WQ cI h0 h1 h2 h3 h4 h5 u) → va_S A s.heap H locs → lv_has ls 7 [(0, .ref h0), (1, .int a1), (2, .int x2)] → wX6_adjustDecimal_b29 a1 P x2 u → W p l e ({ frames := 2, cells := 0, slots := 0, locals := 46 } : Room) s m ([.ref h0, .int a1] : List Value).toArray below meth c H locs 0 0 (MQ below (va_Qv P (fun u t => va_P D vwCl (WQ cI h0 h1 h2 h3 h4 h5 u) t.heap) A) ([.ref h0, .int a1] : List Value).toArray s 0 0 A) (F0 m 29 ls []) := by
    intro x2 u H locs ls hP hD hS hl hw
    unfold wX6_adjustDecimal_b29 at hw
    refine lv_iconst (v := (1 : Int32)) hx hb dX6_adjustDecimal_29 (by decide) ?_
    refine lv_goto (tgt := 34) hx hb dX6_adjustDecimal_30 (by decide) ?_
    exact b34 x2 (1 : Int32) u H locs ls hP hD hS (lv_sub hl [0, 1, 2] rfl) hw
  unfold wX6_adjustDecimal at hw
  obtain ⟨H, eH⟩ : ∃ H, H = s.heap := ⟨_, rfl⟩
  obtain ⟨locs, eL⟩ : ∃ locs : List Loc, locs = [] := ⟨_, rfl⟩
  replace hP : va_P D vwCl (WQ cI h0 h1 h2 h3 h4 h5 u) H := by rw [eH]; exact hP
  replace hS : va_S A s.heap H locs := by rw [eH, eL]; exact hS
  suffices hgo : W p l e ({ frames := 2, cells := 0, slots := 0, locals := 46 } : Room) s m ([.ref h0, .int a1] : List Value).toArray below meth c H locs 0 0 (MQ below (va_Qv P (fun u t => va_P D vwCl (WQ cI h0 h1 h2 h3 h4 h5 u) t.heap) A) ([.ref h0, .int a1] : List Value).toArray s 0 0 A) (F0 m 0 ls []) by rw [eH, eL] at hgo; exact hgo
  clear eH eL
  refine lv_aload_n hx hb dX6_adjustDecimal_0 rfl (lv_at hl 0 rfl) ?_
  refine va_get (D := D) (ci := 6) (v := .ref h1) (C := RX6) (T := TX6) (N := 29) hx hb hts i_X6 hown hK hP 0 rfl rfl 1 (by decide) f_7 (fun _ h9 => h9) rfl dX6_adjustDecimal_1 ?_
  refine lv_iconst (v := (0 : Int32)) hx hb dX6_adjustDecimal_4 (by decide) ?_
  refine va_iald hx hb hK hP 1 1 (f := (q_registers u)) rfl rfl hw.1 dX6_adjustDecimal_5 ?_
  replace hw := hw.2
  refine lv_sipush (v := (255 : Int32)) hx hb dX6_adjustDecimal_6 (by decide) ?_
  refine lv_iand hx hb dX6_adjustDecimal_9 ?_
  refine lv_istore_n (lv' := [(2, .int (((q_registers u) (0 : Int32).toNatClampNeg) &&& (255 : Int32))), (0, .ref h0), (1, .int a1)]) hx hb dX6_adjustDecimal_10 rfl hl (by decide) rfl (fun ls hl => ?_)
  refine lv_iload_n hx hb dX6_adjustDecimal_11 rfl (lv_at hl 0 rfl) ?_
  refine lv_bipush (v := (15 : Int32)) hx hb dX6_adjustDecimal_12 (by decide) ?_
  refine lv_iand hx hb dX6_adjustDecimal_14 ?_
  refine lv_bipush (v := (9 : Int32)) hx hb dX6_adjustDecimal_15 (by decide) ?_
  refine lv_icmp_gt (tgt := 29) hx hb dX6_adjustDecimal_17 (by decide) (fun c1 => ?_) (fun c1 => ?_)
  · replace hw := hw.1 c1
    exact b29 (((q_registers u) (0 : Int32).toNatClampNeg) &&& (255 : Int32)) u H locs ls hP hD hS (lv_sub hl [1, 2, 0] rfl) hw
  · replace hw := hw.2 c1
    refine lv_aload_n hx hb dX6_adjustDecimal_20 rfl (lv_at hl 1 rfl) ?_
    refine lv_bipush (v := (16 : Int32)) hx hb dX6_adjustDecimal_21 (by decide) ?_
    refine cl_Vi (As := [.int (16 : Int32)]) (rest := []) (st := [.int (16 : Int32), .ref h0]) S hK hA hP hD hS (fr_Q u) (kcX6_has l D cB cI h0 h1 h2 h3 h4 h5 H.size (16 : Int32) u _ hw) (cwV 1 hts gX6_adjustDecimal_X6_has rfl rfl rfl (by decide +kernel) ⟨Nat.le_of_ble_eq_true rfl, Nat.le_of_ble_eq_true rfl⟩) tru_h tru_b 0 rfl rfl rfl rfl rfl hl.1 (Nat.le_of_ble_eq_true rfl) dX6_adjustDecimal_23 ⟨Nat.zero_le _, Nat.zero_le _⟩ (fun r3 u2 H locs hP hD hS hw => ?_)
    replace hP : va_P D vwCl (WQ cI h0 h1 h2 h3 h4 h5 u2) H := hP
    replace hD : va_D A (WQ cI h0 h1 h2 h3 h4 h5 u2) := hD
    refine lv_if_eq (tgt := 33) hx hb dX6_adjustDecimal_26 (by decide) (fun c4 => ?_) (fun c4 => ?_)
    · replace hw := hw.1 c4
      refine lv_iconst (v := (0 : Int32)) hx hb dX6_adjustDecimal_33 (by decide) ?_
      exact b34 (((q_registers u) (0 : Int32).toNatClampNeg) &&& (255 : Int32)) (0 : Int32) u2 H locs ls hP hD hS (lv_sub hl [1, 2, 0] rfl) hw
    · replace hw := hw.2 c4
      exact b29 (((q_registers u) (0 : Int32).toNatClampNeg) &&& (255 : Int32)) u2 H locs ls hP hD hS (lv_sub hl [1, 2, 0] rfl) hw
-- X6_adjustDigit
def wX6_adjustDigit_b81 (a1 : Int32) (P : SQ → Prop) (x2 : Int32) (x3 : Int32) (x4 : Int32) (u : SQ) : Prop := (wX6_mark (16 : Int32) x4 u (fun u8 => (wX6_mark (1 : Int32) x4 u8 (fun u10 => (vp_in (0 : Int32) 8 ∧ (P (qs_registers u10 (upd (q_registers u10) (0 : Int32).toNatClampNeg ((x2 &&& (15 : Int32)) ||| ((x3 &&& (255 : Int32)) <<< ((8 : Int32) &&& 31)))))))))))
def wX6_adjustDigit_b80 (a1 : Int32) (P : SQ → Prop) (x2 : Int32) (x4 : Int32) (s0 : Int32) (u : SQ) : Prop := (wX6_adjustDigit_b81 a1 P x2 s0 x4 u)
def wX6_adjustDigit_b66 (a1 : Int32) (P : SQ → Prop) (x3 : Int32) (x4 : Int32) (s0 : Int32) (u : SQ) : Prop := ((a1 = (0 : Int32) → (wX6_adjustDigit_b80 a1 P s0 x4 (x3 + (1 : Int32)) u)) ∧ (¬ a1 = (0 : Int32) → (wX6_adjustDigit_b80 a1 P s0 x4 (x3 - (1 : Int32)) u)))
def wX6_adjustDigit_b44 (a1 : Int32) (P : SQ → Prop) (x2 : Int32) (x3 : Int32) (s0 : Int32) (u : SQ) : Prop := ((s0 = (0 : Int32) → (wX6_adjustDigit_b81 a1 P x2 x3 s0 u)) ∧ (¬ s0 = (0 : Int32) → ((a1 = (0 : Int32) → (wX6_adjustDigit_b66 a1 P x3 s0 (x2 + (6 : Int32)) u)) ∧ (¬ a1 = (0 : Int32) → (wX6_adjustDigit_b66 a1 P x3 s0 (x2 - (6 : Int32)) u)))))
def wX6_adjustDigit_b39 (a1 : Int32) (P : SQ → Prop) (x2 : Int32) (x3 : Int32) (u : SQ) : Prop := (wX6_adjustDigit_b44 a1 P x2 x3 (1 : Int32) u)
def wX6_adjustDigit (a1 : Int32) (u : SQ) (P : SQ → Prop) : Prop := (vp_in (0 : Int32) 8 ∧ (vp_in (0 : Int32) 8 ∧ (((9 : Int32) < ((((q_registers u) (0 : Int32).toNatClampNeg) &&& (255 : Int32)) &&& (15 : Int32)) → (wX6_adjustDigit_b39 a1 P (((q_registers u) (0 : Int32).toNatClampNeg) &&& (255 : Int32)) (((q_registers u) (0 : Int32).toNatClampNeg) >>> ((8 : Int32) &&& 31)) u)) ∧ (¬ (9 : Int32) < ((((q_registers u) (0 : Int32).toNatClampNeg) &&& (255 : Int32)) &&& (15 : Int32)) → (wX6_has (16 : Int32) u (fun r3 u2 => ((r3 = (0 : Int32) → (wX6_adjustDigit_b44 a1 P (((q_registers u) (0 : Int32).toNatClampNeg) &&& (255 : Int32)) (((q_registers u) (0 : Int32).toNatClampNeg) >>> ((8 : Int32) &&& 31)) (0 : Int32) u2)) ∧ (¬ r3 = (0 : Int32) → (wX6_adjustDigit_b39 a1 P (((q_registers u) (0 : Int32).toNatClampNeg) &&& (255 : Int32)) (((q_registers u) (0 : Int32).toNatClampNeg) >>> ((8 : Int32) &&& 31)) u2)))))))))
set_option maxHeartbeats 4000000 in
set_option maxRecDepth 100000 in
theorem kcX6_adjustDigit (l : Launch) (D : va_G) (cB cI : ClassId) (h0 h1 h2 h3 h4 h5 : Nat) (sz : Nat) (a1 : Int32) (u : SQ) (P : SQ → Prop) (hw : wX6_adjustDigit a1 u P) : Met l yX6_adjustDigit wsX6_adjustDigit ({ frames := 1, cells := 0, slots := 0, locals := 22 } : Room) (va_Pc [.ref h0, .int a1] (Pcw D (tyA cB cI) (WQ cI h0 h1 h2 h3 h4 h5 u) sz Tru)) (va_Qv P (fun u t => va_P D vwCl (WQ cI h0 h1 h2 h3 h4 h5 u) t.heap) (va_A (WQ cI h0 h1 h2 h3 h4 h5 u) sz)) 0 0 (va_A (WQ cI h0 h1 h2 h3 h4 h5 u) sz) := by
  refine en_ (cc := cX6_adjustDigit) (maxL := 5) (ret := none) (own := RX6) (lv := [(0, .ref h0), (1, .int a1)]) (Qf := fun A => va_Qv P (fun u t => va_P D vwCl (WQ cI h0 h1 h2 h3 h4 h5 u) t.heap) A) (by decide) rfl rfl (Nat.le_of_ble_eq_true rfl) rfl ?_
  intro p e s m below meth c A ls S hr hlk hname hsz hP hK hD hA hSub hS hE hl
  have hx := S.1
  have hb := S.2.1
  have hown := S.2.2.2.1
  have hts := S.2.2.2.2
  have i_X6 : ∀ w ∈ u_ws RX6 TX6 29, w ∈ wsX6_adjustDigit := by decide +kernel
  have f_7 := hts (.fieldLink RX6 7 "MachineCoreModel" "registers" "[I") (by decide +kernel)
  have b81 : ∀ (x2 : Int32) (x3 : Int32) (x4 : Int32) (u : SQ) (H : Heap) (locs : List Loc) (ls : Array Slot), va_P D vwCl (WQ cI h0 h1 h2 h3 h4 h5 u) H → va_D A (WQ cI h0 h1 h2 h3 h4 h5 u) → va_S A s.heap H locs → lv_has ls 5 [(0, .ref h0), (2, .int x2), (3, .int x3), (4, .int x4)] → wX6_adjustDigit_b81 a1 P x2 x3 x4 u → W p l e ({ frames := 1, cells := 0, slots := 0, locals := 22 } : Room) s m ([.ref h0, .int a1] : List Value).toArray below meth c H locs 0 0 (MQ below (va_Qv P (fun u t => va_P D vwCl (WQ cI h0 h1 h2 h3 h4 h5 u) t.heap) A) ([.ref h0, .int a1] : List Value).toArray s 0 0 A) (F0 m 81 ls []) := by
    intro x2 x3 x4 u H locs ls hP hD hS hl hw
    unfold wX6_adjustDigit_b81 at hw
    refine lv_aload_n hx hb dX6_adjustDigit_81 rfl (lv_at hl 0 rfl) ?_
    refine lv_bipush (v := (16 : Int32)) hx hb dX6_adjustDigit_82 (by decide) ?_
    refine lv_iload hx hb dX6_adjustDigit_84 (lv_at hl 3 rfl) ?_
    refine cl_Vv (As := [.int (16 : Int32), .int x4]) (rest := []) (st := [.int x4, .int (16 : Int32), .ref h0]) S hK hA hP hD hS (fr_Q u) (kcX6_mark l D cB cI h0 h1 h2 h3 h4 h5 H.size (16 : Int32) x4 u _ hw) (cwV 2 hts gX6_adjustDigit_X6_mark rfl rfl rfl (by decide +kernel) ⟨Nat.le_of_ble_eq_true rfl, Nat.le_of_ble_eq_true rfl⟩) tru_h tru_b 0 rfl rfl rfl rfl rfl hl.1 (Nat.le_of_ble_eq_true rfl) dX6_adjustDigit_86 ⟨Nat.zero_le _, Nat.zero_le _⟩ (fun u8 H locs hP hD hS hw => ?_)
    replace hP : va_P D vwCl (WQ cI h0 h1 h2 h3 h4 h5 u8) H := hP
    replace hD : va_D A (WQ cI h0 h1 h2 h3 h4 h5 u8) := hD
    refine lv_aload_n hx hb dX6_adjustDigit_89 rfl (lv_at hl 0 rfl) ?_
    refine lv_iconst (v := (1 : Int32)) hx hb dX6_adjustDigit_90 (by decide) ?_
    refine lv_iload hx hb dX6_adjustDigit_91 (lv_at hl 3 rfl) ?_
    refine cl_Vv (As := [.int (1 : Int32), .int x4]) (rest := []) (st := [.int x4, .int (1 : Int32), .ref h0]) S hK hA hP hD hS (fr_Q u8) (kcX6_mark l D cB cI h0 h1 h2 h3 h4 h5 H.size (1 : Int32) x4 u8 _ hw) (cwV 2 hts gX6_adjustDigit_X6_mark rfl rfl rfl (by decide +kernel) ⟨Nat.le_of_ble_eq_true rfl, Nat.le_of_ble_eq_true rfl⟩) tru_h tru_b 0 rfl rfl rfl rfl rfl hl.1 (Nat.le_of_ble_eq_true rfl) dX6_adjustDigit_93 ⟨Nat.zero_le _, Nat.zero_le _⟩ (fun u10 H locs hP hD hS hw => ?_)
    replace hP : va_P D vwCl (WQ cI h0 h1 h2 h3 h4 h5 u10) H := hP
    replace hD : va_D A (WQ cI h0 h1 h2 h3 h4 h5 u10) := hD
    refine lv_aload_n hx hb dX6_adjustDigit_96 rfl (lv_at hl 0 rfl) ?_
    refine va_get (D := D) (ci := 6) (v := .ref h1) (C := RX6) (T := TX6) (N := 29) hx hb hts i_X6 hown hK hP 0 rfl rfl 1 (by decide) f_7 (fun _ h9 => h9) rfl dX6_adjustDigit_97 ?_
    refine lv_iconst (v := (0 : Int32)) hx hb dX6_adjustDigit_100 (by decide) ?_
    refine lv_iload_n hx hb dX6_adjustDigit_101 rfl (lv_at hl 1 rfl) ?_
    refine lv_bipush (v := (15 : Int32)) hx hb dX6_adjustDigit_102 (by decide) ?_
    refine lv_iand hx hb dX6_adjustDigit_104 ?_
    refine lv_iload_n hx hb dX6_adjustDigit_105 rfl (lv_at hl 2 rfl) ?_
    refine lv_sipush (v := (255 : Int32)) hx hb dX6_adjustDigit_106 (by decide) ?_
    refine lv_iand hx hb dX6_adjustDigit_109 ?_
    refine lv_bipush (v := (8 : Int32)) hx hb dX6_adjustDigit_110 (by decide) ?_
    refine lv_ishl hx hb dX6_adjustDigit_112 ?_
    refine lv_ior hx hb dX6_adjustDigit_113 ?_
    refine va_iast hx hb hK hP hD hS 1 1 (f := (q_registers u10)) rfl rfl hw.1 dX6_adjustDigit_114 (fun H locs hP hD hS => ?_)
    replace hw := hw.2
    replace hP : va_P D vwCl (WQ cI h0 h1 h2 h3 h4 h5 (qs_registers u10 (upd (q_registers u10) (0 : Int32).toNatClampNeg ((x2 &&& (15 : Int32)) ||| ((x3 &&& (255 : Int32)) <<< ((8 : Int32) &&& 31)))))) H := hP
    replace hD : va_D A (WQ cI h0 h1 h2 h3 h4 h5 (qs_registers u10 (upd (q_registers u10) (0 : Int32).toNatClampNeg ((x2 &&& (15 : Int32)) ||| ((x3 &&& (255 : Int32)) <<< ((8 : Int32) &&& 31)))))) := hD
    exact rt_v (wo := (fun v => WQ cI h0 h1 h2 h3 h4 h5 v)) S hr hlk (qs_registers u10 (upd (q_registers u10) (0 : Int32).toNatClampNeg ((x2 &&& (15 : Int32)) ||| ((x3 &&& (255 : Int32)) <<< ((8 : Int32) &&& 31))))) hP hS hw dX6_adjustDigit_115
  have b80 : ∀ (x2 : Int32) (x4 : Int32) (s0 : Int32) (u : SQ) (H : Heap) (locs : List Loc) (ls : Array Slot), va_P D vwCl (WQ cI h0 h1 h2 h3 h4 h5 u) H → va_D A (WQ cI h0 h1 h2 h3 h4 h5 u) → va_S A s.heap H locs → lv_has ls 5 [(0, .ref h0), (2, .int x2), (4, .int x4)] → wX6_adjustDigit_b80 a1 P x2 x4 s0 u → W p l e ({ frames := 1, cells := 0, slots := 0, locals := 22 } : Room) s m ([.ref h0, .int a1] : List Value).toArray below meth c H locs 0 0 (MQ below (va_Qv P (fun u t => va_P D vwCl (WQ cI h0 h1 h2 h3 h4 h5 u) t.heap) A) ([.ref h0, .int a1] : List Value).toArray s 0 0 A) (F0 m 80 ls [.int s0]) := by
    intro x2 x4 s0 u H locs ls hP hD hS hl hw
    unfold wX6_adjustDigit_b80 at hw
    refine lv_istore_n (lv' := [(3, .int s0), (0, .ref h0), (2, .int x2), (4, .int x4)]) hx hb dX6_adjustDigit_80 rfl hl (by decide) rfl (fun ls hl => ?_)
    exact b81 x2 s0 x4 u H locs ls hP hD hS (lv_sub hl [1, 2, 0, 3] rfl) hw
  have b66 : ∀ (x3 : Int32) (x4 : Int32) (s0 : Int32) (u : SQ) (H : Heap) (locs : List Loc) (ls : Array Slot), va_P D vwCl (WQ cI h0 h1 h2 h3 h4 h5 u) H → va_D A (WQ cI h0 h1 h2 h3 h4 h5 u) → va_S A s.heap H locs → lv_has ls 5 [(0, .ref h0), (1, .int a1), (3, .int x3), (4, .int x4)] → wX6_adjustDigit_b66 a1 P x3 x4 s0 u → W p l e ({ frames := 1, cells := 0, slots := 0, locals := 22 } : Room) s m ([.ref h0, .int a1] : List Value).toArray below meth c H locs 0 0 (MQ below (va_Qv P (fun u t => va_P D vwCl (WQ cI h0 h1 h2 h3 h4 h5 u) t.heap) A) ([.ref h0, .int a1] : List Value).toArray s 0 0 A) (F0 m 66 ls [.int s0]) := by
    intro x3 x4 s0 u H locs ls hP hD hS hl hw
    unfold wX6_adjustDigit_b66 at hw
    refine lv_istore_n (lv' := [(2, .int s0), (0, .ref h0), (1, .int a1), (3, .int x3), (4, .int x4)]) hx hb dX6_adjustDigit_66 rfl hl (by decide) rfl (fun ls hl => ?_)
    refine lv_iload_n hx hb dX6_adjustDigit_67 rfl (lv_at hl 2 rfl) ?_
    refine lv_if_eq (tgt := 77) hx hb dX6_adjustDigit_68 (by decide) (fun c7 => ?_) (fun c7 => ?_)
    · replace hw := hw.1 c7
      refine lv_iload_n hx hb dX6_adjustDigit_77 rfl (lv_at hl 3 rfl) ?_
      refine lv_iconst (v := (1 : Int32)) hx hb dX6_adjustDigit_78 (by decide) ?_
      refine lv_iadd hx hb dX6_adjustDigit_79 ?_
      exact b80 s0 x4 (x3 + (1 : Int32)) u H locs ls hP hD hS (lv_sub hl [1, 0, 4] rfl) hw
    · replace hw := hw.2 c7
      refine lv_iload_n hx hb dX6_adjustDigit_71 rfl (lv_at hl 3 rfl) ?_
      refine lv_iconst (v := (1 : Int32)) hx hb dX6_adjustDigit_72 (by decide) ?_
      refine lv_isub hx hb dX6_adjustDigit_73 ?_
      refine lv_goto (tgt := 80) hx hb dX6_adjustDigit_74 (by decide) ?_
      exact b80 s0 x4 (x3 - (1 : Int32)) u H locs ls hP hD hS (lv_sub hl [1, 0, 4] rfl) hw
  have b44 : ∀ (x2 : Int32) (x3 : Int32) (s0 : Int32) (u : SQ) (H : Heap) (locs : List Loc) (ls : Array Slot), va_P D vwCl (WQ cI h0 h1 h2 h3 h4 h5 u) H → va_D A (WQ cI h0 h1 h2 h3 h4 h5 u) → va_S A s.heap H locs → lv_has ls 5 [(0, .ref h0), (1, .int a1), (2, .int x2), (3, .int x3)] → wX6_adjustDigit_b44 a1 P x2 x3 s0 u → W p l e ({ frames := 1, cells := 0, slots := 0, locals := 22 } : Room) s m ([.ref h0, .int a1] : List Value).toArray below meth c H locs 0 0 (MQ below (va_Qv P (fun u t => va_P D vwCl (WQ cI h0 h1 h2 h3 h4 h5 u) t.heap) A) ([.ref h0, .int a1] : List Value).toArray s 0 0 A) (F0 m 44 ls [.int s0]) := by
    intro x2 x3 s0 u H locs ls hP hD hS hl hw
    unfold wX6_adjustDigit_b44 at hw
    refine lv_istore (lv' := [(4, .int s0), (0, .ref h0), (1, .int a1), (2, .int x2), (3, .int x3)]) hx hb dX6_adjustDigit_44 hl (by decide) rfl (fun ls hl => ?_)
    refine lv_iload hx hb dX6_adjustDigit_46 (lv_at hl 0 rfl) ?_
    refine lv_if_eq (tgt := 81) hx hb dX6_adjustDigit_48 (by decide) (fun c5 => ?_) (fun c5 => ?_)
    · replace hw := hw.1 c5
      exact b81 x2 x3 s0 u H locs ls hP hD hS (lv_sub hl [1, 3, 4, 0] rfl) hw
    · replace hw := hw.2 c5
      refine lv_iload_n hx hb dX6_adjustDigit_51 rfl (lv_at hl 2 rfl) ?_
      refine lv_if_eq (tgt := 62) hx hb dX6_adjustDigit_52 (by decide) (fun c6 => ?_) (fun c6 => ?_)
      · replace hw := hw.1 c6
        refine lv_iload_n hx hb dX6_adjustDigit_62 rfl (lv_at hl 3 rfl) ?_
        refine lv_bipush (v := (6 : Int32)) hx hb dX6_adjustDigit_63 (by decide) ?_
        refine lv_iadd hx hb dX6_adjustDigit_65 ?_
        exact b66 x3 s0 (x2 + (6 : Int32)) u H locs ls hP hD hS (lv_sub hl [1, 2, 4, 0] rfl) hw
      · replace hw := hw.2 c6
        refine lv_iload_n hx hb dX6_adjustDigit_55 rfl (lv_at hl 3 rfl) ?_
        refine lv_bipush (v := (6 : Int32)) hx hb dX6_adjustDigit_56 (by decide) ?_
        refine lv_isub hx hb dX6_adjustDigit_58 ?_
        refine lv_goto (tgt := 66) hx hb dX6_adjustDigit_59 (by decide) ?_
        exact b66 x3 s0 (x2 - (6 : Int32)) u H locs ls hP hD hS (lv_sub hl [1, 2, 4, 0] rfl) hw
  have b39 : ∀ (x2 : Int32) (x3 : Int32) (u : SQ) (H : Heap) (locs : List Loc) (ls : Array Slot), va_P D vwCl (WQ cI h0 h1 h2 h3 h4 h5 u) H → va_D A (WQ cI h0 h1 h2 h3 h4 h5 u) → va_S A s.heap H locs → lv_has ls 5 [(0, .ref h0), (1, .int a1), (2, .int x2), (3, .int x3)] → wX6_adjustDigit_b39 a1 P x2 x3 u → W p l e ({ frames := 1, cells := 0, slots := 0, locals := 22 } : Room) s m ([.ref h0, .int a1] : List Value).toArray below meth c H locs 0 0 (MQ below (va_Qv P (fun u t => va_P D vwCl (WQ cI h0 h1 h2 h3 h4 h5 u) t.heap) A) ([.ref h0, .int a1] : List Value).toArray s 0 0 A) (F0 m 39 ls []) := by
    intro x2 x3 u H locs ls hP hD hS hl hw
    unfold wX6_adjustDigit_b39 at hw
    refine lv_iconst (v := (1 : Int32)) hx hb dX6_adjustDigit_39 (by decide) ?_
    refine lv_goto (tgt := 44) hx hb dX6_adjustDigit_40 (by decide) ?_
    exact b44 x2 x3 (1 : Int32) u H locs ls hP hD hS (lv_sub hl [0, 1, 2, 3] rfl) hw
  unfold wX6_adjustDigit at hw
  obtain ⟨H, eH⟩ : ∃ H, H = s.heap := ⟨_, rfl⟩
  obtain ⟨locs, eL⟩ : ∃ locs : List Loc, locs = [] := ⟨_, rfl⟩
  replace hP : va_P D vwCl (WQ cI h0 h1 h2 h3 h4 h5 u) H := by rw [eH]; exact hP
  replace hS : va_S A s.heap H locs := by rw [eH, eL]; exact hS
  suffices hgo : W p l e ({ frames := 1, cells := 0, slots := 0, locals := 22 } : Room) s m ([.ref h0, .int a1] : List Value).toArray below meth c H locs 0 0 (MQ below (va_Qv P (fun u t => va_P D vwCl (WQ cI h0 h1 h2 h3 h4 h5 u) t.heap) A) ([.ref h0, .int a1] : List Value).toArray s 0 0 A) (F0 m 0 ls []) by rw [eH, eL] at hgo; exact hgo
  clear eH eL
  refine lv_aload_n hx hb dX6_adjustDigit_0 rfl (lv_at hl 0 rfl) ?_
  refine va_get (D := D) (ci := 6) (v := .ref h1) (C := RX6) (T := TX6) (N := 29) hx hb hts i_X6 hown hK hP 0 rfl rfl 1 (by decide) f_7 (fun _ h9 => h9) rfl dX6_adjustDigit_1 ?_
  refine lv_iconst (v := (0 : Int32)) hx hb dX6_adjustDigit_4 (by decide) ?_
  refine va_iald hx hb hK hP 1 1 (f := (q_registers u)) rfl rfl hw.1 dX6_adjustDigit_5 ?_
  replace hw := hw.2
  refine lv_sipush (v := (255 : Int32)) hx hb dX6_adjustDigit_6 (by decide) ?_
  refine lv_iand hx hb dX6_adjustDigit_9 ?_
  refine lv_istore_n (lv' := [(2, .int (((q_registers u) (0 : Int32).toNatClampNeg) &&& (255 : Int32))), (0, .ref h0), (1, .int a1)]) hx hb dX6_adjustDigit_10 rfl hl (by decide) rfl (fun ls hl => ?_)
  refine lv_aload_n hx hb dX6_adjustDigit_11 rfl (lv_at hl 1 rfl) ?_
  refine va_get (D := D) (ci := 6) (v := .ref h1) (C := RX6) (T := TX6) (N := 29) hx hb hts i_X6 hown hK hP 0 rfl rfl 1 (by decide) f_7 (fun _ h9 => h9) rfl dX6_adjustDigit_12 ?_
  refine lv_iconst (v := (0 : Int32)) hx hb dX6_adjustDigit_15 (by decide) ?_
  refine va_iald hx hb hK hP 1 1 (f := (q_registers u)) rfl rfl hw.1 dX6_adjustDigit_16 ?_
  replace hw := hw.2
  refine lv_bipush (v := (8 : Int32)) hx hb dX6_adjustDigit_17 (by decide) ?_
  refine lv_ishr hx hb dX6_adjustDigit_19 ?_
  refine lv_istore_n (lv' := [(3, .int (((q_registers u) (0 : Int32).toNatClampNeg) >>> ((8 : Int32) &&& 31))), (2, .int (((q_registers u) (0 : Int32).toNatClampNeg) &&& (255 : Int32))), (0, .ref h0), (1, .int a1)]) hx hb dX6_adjustDigit_20 rfl hl (by decide) rfl (fun ls hl => ?_)
  refine lv_iload_n hx hb dX6_adjustDigit_21 rfl (lv_at hl 1 rfl) ?_
  refine lv_bipush (v := (15 : Int32)) hx hb dX6_adjustDigit_22 (by decide) ?_
  refine lv_iand hx hb dX6_adjustDigit_24 ?_
  refine lv_bipush (v := (9 : Int32)) hx hb dX6_adjustDigit_25 (by decide) ?_
  refine lv_icmp_gt (tgt := 39) hx hb dX6_adjustDigit_27 (by decide) (fun c1 => ?_) (fun c1 => ?_)
  · replace hw := hw.1 c1
    exact b39 (((q_registers u) (0 : Int32).toNatClampNeg) &&& (255 : Int32)) (((q_registers u) (0 : Int32).toNatClampNeg) >>> ((8 : Int32) &&& 31)) u H locs ls hP hD hS (lv_sub hl [2, 3, 1, 0] rfl) hw
  · replace hw := hw.2 c1
    refine lv_aload_n hx hb dX6_adjustDigit_30 rfl (lv_at hl 2 rfl) ?_
    refine lv_bipush (v := (16 : Int32)) hx hb dX6_adjustDigit_31 (by decide) ?_
    refine cl_Vi (As := [.int (16 : Int32)]) (rest := []) (st := [.int (16 : Int32), .ref h0]) S hK hA hP hD hS (fr_Q u) (kcX6_has l D cB cI h0 h1 h2 h3 h4 h5 H.size (16 : Int32) u _ hw) (cwV 1 hts gX6_adjustDigit_X6_has rfl rfl rfl (by decide +kernel) ⟨Nat.le_of_ble_eq_true rfl, Nat.le_of_ble_eq_true rfl⟩) tru_h tru_b 0 rfl rfl rfl rfl rfl hl.1 (Nat.le_of_ble_eq_true rfl) dX6_adjustDigit_33 ⟨Nat.zero_le _, Nat.zero_le _⟩ (fun r3 u2 H locs hP hD hS hw => ?_)
    replace hP : va_P D vwCl (WQ cI h0 h1 h2 h3 h4 h5 u2) H := hP
    replace hD : va_D A (WQ cI h0 h1 h2 h3 h4 h5 u2) := hD
    refine lv_if_eq (tgt := 43) hx hb dX6_adjustDigit_36 (by decide) (fun c4 => ?_) (fun c4 => ?_)
    · replace hw := hw.1 c4
      refine lv_iconst (v := (0 : Int32)) hx hb dX6_adjustDigit_43 (by decide) ?_
      exact b44 (((q_registers u) (0 : Int32).toNatClampNeg) &&& (255 : Int32)) (((q_registers u) (0 : Int32).toNatClampNeg) >>> ((8 : Int32) &&& 31)) (0 : Int32) u2 H locs ls hP hD hS (lv_sub hl [2, 3, 1, 0] rfl) hw
    · replace hw := hw.2 c4
      exact b39 (((q_registers u) (0 : Int32).toNatClampNeg) &&& (255 : Int32)) (((q_registers u) (0 : Int32).toNatClampNeg) >>> ((8 : Int32) &&& 31)) u2 H locs ls hP hD hS (lv_sub hl [2, 3, 1, 0] rfl) hw
-- X6_product
def wX6_product_b115 (a1 : Int32) (a2 : Int32) (a3 : Int32) (P : SQ → Prop) (x9 : Int64) (x11 : Int32) (s2 : Int32) (u : SQ) : Prop := (wX6_mark (2048 : Int32) s2 u (fun u18 => ((a3 = (0 : Int32) → (vp_in (0 : Int32) 8 ∧ (P (qs_registers u18 (upd (q_registers u18) (0 : Int32).toNatClampNeg ((x9.toInt32) &&& (65535 : Int32))))))) ∧ (¬ a3 = (0 : Int32) → (vp_in (0 : Int32) 8 ∧ (vp_in (2 : Int32) 8 ∧ (P (qs_registers u18 (upd (upd (q_registers u18) (0 : Int32).toNatClampNeg x11) (2 : Int32).toNatClampNeg (((x9 >>> ((16 : Int32).toInt64 &&& 63)).toInt32) &&& (65535 : Int32)))))))))))
def wX6_product_b95 (a1 : Int32) (a2 : Int32) (a3 : Int32) (P : SQ → Prop) (x9 : Int64) (x11 : Int32) (x12 : Int64) (s2 : Int32) (u : SQ) : Prop := (wX6_mark (1 : Int32) s2 u (fun u15 => (((lg_cmp x9 x12) = (0 : Int32) → (wX6_product_b115 a1 a2 a3 P x9 x11 (0 : Int32) u15)) ∧ (¬ (lg_cmp x9 x12) = (0 : Int32) → (wX6_product_b115 a1 a2 a3 P x9 x11 (1 : Int32) u15)))))
def wX6_product_b78 (a1 : Int32) (a2 : Int32) (a3 : Int32) (P : SQ → Prop) (x9 : Int64) (x11 : Int32) (s0 : Int64) (u : SQ) : Prop := (((lg_cmp x9 s0) = (0 : Int32) → (wX6_product_b95 a1 a2 a3 P x9 x11 s0 (0 : Int32) u)) ∧ (¬ (lg_cmp x9 s0) = (0 : Int32) → (wX6_product_b95 a1 a2 a3 P x9 x11 s0 (1 : Int32) u)))
def wX6_product_b42 (a1 : Int32) (a2 : Int32) (a3 : Int32) (P : SQ → Prop) (x5 : Int64) (s0 : Int64) (u : SQ) : Prop := (wX6_all a3 () (fun r10 u9 => ((a2 = (0 : Int32) → (wX6_product_b78 a1 a2 a3 P (x5 * s0) (((x5 * s0).toInt32) &&& r10) ((((x5 * s0).toInt32) &&& r10).toInt64) u)) ∧ (¬ a2 = (0 : Int32) → (wX6_signed (((x5 * s0).toInt32) &&& r10) a3 () (fun r13 u12 => (wX6_product_b78 a1 a2 a3 P (x5 * s0) (((x5 * s0).toInt32) &&& r10) (r13.toInt64) u)))))))
def wX6_product_b25 (a1 : Int32) (a2 : Int32) (a3 : Int32) (P : SQ → Prop) (s0 : Int64) (u : SQ) : Prop := ((a2 = (0 : Int32) → (wX6_product_b42 a1 a2 a3 P s0 (a1.toInt64) u)) ∧ (¬ a2 = (0 : Int32) → (wX6_signed a1 a3 () (fun r8 u7 => (wX6_product_b42 a1 a2 a3 P s0 (r8.toInt64) u)))))
def wX6_product (a1 : Int32) (a2 : Int32) (a3 : Int32) (u : SQ) (P : SQ → Prop) : Prop := (wX6_register (0 : Int32) a3 u (fun r2 u1 => ((a2 = (0 : Int32) → (wX6_product_b25 a1 a2 a3 P (r2.toInt64) u1)) ∧ (¬ a2 = (0 : Int32) → (wX6_signed r2 a3 () (fun r5 u4 => (wX6_product_b25 a1 a2 a3 P (r5.toInt64) u1)))))))
set_option maxHeartbeats 4000000 in
set_option maxRecDepth 100000 in
theorem kcX6_product (l : Launch) (D : va_G) (cB cI : ClassId) (h0 h1 h2 h3 h4 h5 : Nat) (sz : Nat) (a1 : Int32) (a2 : Int32) (a3 : Int32) (u : SQ) (P : SQ → Prop) (hw : wX6_product a1 a2 a3 u P) : Met l yX6_product wsX6_product ({ frames := 2, cells := 0, slots := 0, locals := 41 } : Room) (va_Pc [.ref h0, .int a1, .int a2, .int a3] (Pcw D (tyA cB cI) (WQ cI h0 h1 h2 h3 h4 h5 u) sz Tru)) (va_Qv P (fun u t => va_P D vwCl (WQ cI h0 h1 h2 h3 h4 h5 u) t.heap) (va_A (WQ cI h0 h1 h2 h3 h4 h5 u) sz)) 0 0 (va_A (WQ cI h0 h1 h2 h3 h4 h5 u) sz) := by
  refine en_ (cc := cX6_product) (maxL := 14) (ret := none) (own := RX6) (lv := [(0, .ref h0), (1, .int a1), (2, .int a2), (3, .int a3)]) (Qf := fun A => va_Qv P (fun u t => va_P D vwCl (WQ cI h0 h1 h2 h3 h4 h5 u) t.heap) A) (by decide) rfl rfl (Nat.le_of_ble_eq_true rfl) rfl ?_
  intro p e s m below meth c A ls S hr hlk hname hsz hP hK hD hA hSub hS hE hl
  have hx := S.1
  have hb := S.2.1
  have hown := S.2.2.2.1
  have hts := S.2.2.2.2
  have i_X6 : ∀ w ∈ u_ws RX6 TX6 29, w ∈ wsX6_product := by decide +kernel
  have f_7 := hts (.fieldLink RX6 7 "MachineCoreModel" "registers" "[I") (by decide +kernel)
  have k_39 := hts (.constant RX6 39 (65535)) (by decide +kernel)
  have b115 : ∀ (x9 : Int64) (x11 : Int32) (s2 : Int32) (u : SQ) (H : Heap) (locs : List Loc) (ls : Array Slot), va_P D vwCl (WQ cI h0 h1 h2 h3 h4 h5 u) H → va_D A (WQ cI h0 h1 h2 h3 h4 h5 u) → va_S A s.heap H locs → lv_has ls 14 [(0, .ref h0), (3, .int a3), (9, .long x9), (11, .int x11)] → wX6_product_b115 a1 a2 a3 P x9 x11 s2 u → W p l e ({ frames := 2, cells := 0, slots := 0, locals := 41 } : Room) s m ([.ref h0, .int a1, .int a2, .int a3] : List Value).toArray below meth c H locs 0 0 (MQ below (va_Qv P (fun u t => va_P D vwCl (WQ cI h0 h1 h2 h3 h4 h5 u) t.heap) A) ([.ref h0, .int a1, .int a2, .int a3] : List Value).toArray s 0 0 A) (F0 m 115 ls [.int s2, .int (2048 : Int32), .ref h0]) := by
    intro x9 x11 s2 u H locs ls hP hD hS hl hw
    unfold wX6_product_b115 at hw
    refine cl_Vv (As := [.int (2048 : Int32), .int s2]) (rest := []) (st := [.int s2, .int (2048 : Int32), .ref h0]) S hK hA hP hD hS (fr_Q u) (kcX6_mark l D cB cI h0 h1 h2 h3 h4 h5 H.size (2048 : Int32) s2 u _ hw) (cwV 2 hts gX6_product_X6_mark rfl rfl rfl (by decide +kernel) ⟨Nat.le_of_ble_eq_true rfl, Nat.le_of_ble_eq_true rfl⟩) tru_h tru_b 0 rfl rfl rfl rfl rfl hl.1 (Nat.le_of_ble_eq_true rfl) dX6_product_115 ⟨Nat.zero_le _, Nat.zero_le _⟩ (fun u18 H locs hP hD hS hw => ?_)
    replace hP : va_P D vwCl (WQ cI h0 h1 h2 h3 h4 h5 u18) H := hP
    replace hD : va_D A (WQ cI h0 h1 h2 h3 h4 h5 u18) := hD
    refine lv_iload_n hx hb dX6_product_118 rfl (lv_at hl 1 rfl) ?_
    refine lv_if_eq (tgt := 148) hx hb dX6_product_119 (by decide) (fun c20 => ?_) (fun c20 => ?_)
    · replace hw := hw.1 c20
      refine lv_aload_n hx hb dX6_product_148 rfl (lv_at hl 0 rfl) ?_
      refine va_get (D := D) (ci := 6) (v := .ref h1) (C := RX6) (T := TX6) (N := 29) hx hb hts i_X6 hown hK hP 0 rfl rfl 1 (by decide) f_7 (fun _ h9 => h9) rfl dX6_product_149 ?_
      refine lv_iconst (v := (0 : Int32)) hx hb dX6_product_152 (by decide) ?_
      refine lv_lload hx hb dX6_product_153 (lv_at hl 2 rfl) ?_
      refine lv_l2i (v := (x9.toInt32)) hx hb dX6_product_155 rfl ?_
      refine lv_ldc (v := (65535 : Int32)) hx hb hown k_39 dX6_product_156 ?_
      refine lv_iand hx hb dX6_product_158 ?_
      refine va_iast hx hb hK hP hD hS 1 1 (f := (q_registers u18)) rfl rfl hw.1 dX6_product_159 (fun H locs hP hD hS => ?_)
      replace hw := hw.2
      replace hP : va_P D vwCl (WQ cI h0 h1 h2 h3 h4 h5 (qs_registers u18 (upd (q_registers u18) (0 : Int32).toNatClampNeg ((x9.toInt32) &&& (65535 : Int32))))) H := hP
      replace hD : va_D A (WQ cI h0 h1 h2 h3 h4 h5 (qs_registers u18 (upd (q_registers u18) (0 : Int32).toNatClampNeg ((x9.toInt32) &&& (65535 : Int32))))) := hD
      exact rt_v (wo := (fun v => WQ cI h0 h1 h2 h3 h4 h5 v)) S hr hlk (qs_registers u18 (upd (q_registers u18) (0 : Int32).toNatClampNeg ((x9.toInt32) &&& (65535 : Int32)))) hP hS hw dX6_product_160
    · replace hw := hw.2 c20
      refine lv_aload_n hx hb dX6_product_122 rfl (lv_at hl 0 rfl) ?_
      refine va_get (D := D) (ci := 6) (v := .ref h1) (C := RX6) (T := TX6) (N := 29) hx hb hts i_X6 hown hK hP 0 rfl rfl 1 (by decide) f_7 (fun _ h9 => h9) rfl dX6_product_123 ?_
      refine lv_iconst (v := (0 : Int32)) hx hb dX6_product_126 (by decide) ?_
      refine lv_iload hx hb dX6_product_127 (lv_at hl 3 rfl) ?_
      refine va_iast hx hb hK hP hD hS 1 1 (f := (q_registers u18)) rfl rfl hw.1 dX6_product_129 (fun H locs hP hD hS => ?_)
      replace hw := hw.2
      replace hP : va_P D vwCl (WQ cI h0 h1 h2 h3 h4 h5 (qs_registers u18 (upd (q_registers u18) (0 : Int32).toNatClampNeg x11))) H := hP
      replace hD : va_D A (WQ cI h0 h1 h2 h3 h4 h5 (qs_registers u18 (upd (q_registers u18) (0 : Int32).toNatClampNeg x11))) := hD
      refine lv_aload_n hx hb dX6_product_130 rfl (lv_at hl 0 rfl) ?_
      refine va_get (D := D) (ci := 6) (v := .ref h1) (C := RX6) (T := TX6) (N := 29) hx hb hts i_X6 hown hK hP 0 rfl rfl 1 (by decide) f_7 (fun _ h9 => h9) rfl dX6_product_131 ?_
      refine lv_iconst (v := (2 : Int32)) hx hb dX6_product_134 (by decide) ?_
      refine lv_lload hx hb dX6_product_135 (lv_at hl 2 rfl) ?_
      refine lv_bipush (v := (16 : Int32)) hx hb dX6_product_137 (by decide) ?_
      refine lv_lshr (v := (x9 >>> ((16 : Int32).toInt64 &&& 63))) hx hb dX6_product_139 rfl ?_
      refine lv_l2i (v := ((x9 >>> ((16 : Int32).toInt64 &&& 63)).toInt32)) hx hb dX6_product_140 rfl ?_
      refine lv_ldc (v := (65535 : Int32)) hx hb hown k_39 dX6_product_141 ?_
      refine lv_iand hx hb dX6_product_143 ?_
      refine va_iast hx hb hK hP hD hS 1 1 (f := (upd (q_registers u18) (0 : Int32).toNatClampNeg x11)) rfl rfl hw.1 dX6_product_144 (fun H locs hP hD hS => ?_)
      replace hw := hw.2
      replace hP : va_P D vwCl (WQ cI h0 h1 h2 h3 h4 h5 (qs_registers u18 (upd (upd (q_registers u18) (0 : Int32).toNatClampNeg x11) (2 : Int32).toNatClampNeg (((x9 >>> ((16 : Int32).toInt64 &&& 63)).toInt32) &&& (65535 : Int32))))) H := hP
      replace hD : va_D A (WQ cI h0 h1 h2 h3 h4 h5 (qs_registers u18 (upd (upd (q_registers u18) (0 : Int32).toNatClampNeg x11) (2 : Int32).toNatClampNeg (((x9 >>> ((16 : Int32).toInt64 &&& 63)).toInt32) &&& (65535 : Int32))))) := hD
      refine lv_goto (tgt := 160) hx hb dX6_product_145 (by decide) ?_
      exact rt_v (wo := (fun v => WQ cI h0 h1 h2 h3 h4 h5 v)) S hr hlk (qs_registers u18 (upd (upd (q_registers u18) (0 : Int32).toNatClampNeg x11) (2 : Int32).toNatClampNeg (((x9 >>> ((16 : Int32).toInt64 &&& 63)).toInt32) &&& (65535 : Int32)))) hP hS hw dX6_product_160
  have b95 : ∀ (x9 : Int64) (x11 : Int32) (x12 : Int64) (s2 : Int32) (u : SQ) (H : Heap) (locs : List Loc) (ls : Array Slot), va_P D vwCl (WQ cI h0 h1 h2 h3 h4 h5 u) H → va_D A (WQ cI h0 h1 h2 h3 h4 h5 u) → va_S A s.heap H locs → lv_has ls 14 [(0, .ref h0), (3, .int a3), (9, .long x9), (11, .int x11), (12, .long x12)] → wX6_product_b95 a1 a2 a3 P x9 x11 x12 s2 u → W p l e ({ frames := 2, cells := 0, slots := 0, locals := 41 } : Room) s m ([.ref h0, .int a1, .int a2, .int a3] : List Value).toArray below meth c H locs 0 0 (MQ below (va_Qv P (fun u t => va_P D vwCl (WQ cI h0 h1 h2 h3 h4 h5 u) t.heap) A) ([.ref h0, .int a1, .int a2, .int a3] : List Value).toArray s 0 0 A) (F0 m 95 ls [.int s2, .int (1 : Int32), .ref h0]) := by
    intro x9 x11 x12 s2 u H locs ls hP hD hS hl hw
    unfold wX6_product_b95 at hw
    refine cl_Vv (As := [.int (1 : Int32), .int s2]) (rest := []) (st := [.int s2, .int (1 : Int32), .ref h0]) S hK hA hP hD hS (fr_Q u) (kcX6_mark l D cB cI h0 h1 h2 h3 h4 h5 H.size (1 : Int32) s2 u _ hw) (cwV 2 hts gX6_product_X6_mark rfl rfl rfl (by decide +kernel) ⟨Nat.le_of_ble_eq_true rfl, Nat.le_of_ble_eq_true rfl⟩) tru_h tru_b 0 rfl rfl rfl rfl rfl hl.1 (Nat.le_of_ble_eq_true rfl) dX6_product_95 ⟨Nat.zero_le _, Nat.zero_le _⟩ (fun u15 H locs hP hD hS hw => ?_)
    replace hP : va_P D vwCl (WQ cI h0 h1 h2 h3 h4 h5 u15) H := hP
    replace hD : va_D A (WQ cI h0 h1 h2 h3 h4 h5 u15) := hD
    refine lv_aload_n hx hb dX6_product_98 rfl (lv_at hl 0 rfl) ?_
    refine lv_sipush (v := (2048 : Int32)) hx hb dX6_product_99 (by decide) ?_
    refine lv_lload hx hb dX6_product_102 (lv_at hl 2 rfl) ?_
    refine lv_lload hx hb dX6_product_104 (lv_at hl 4 rfl) ?_
    refine W.lcmp hx hb dX6_product_106 ?_
    refine lv_if_eq (tgt := 114) hx hb dX6_product_107 (by decide) (fun c17 => ?_) (fun c17 => ?_)
    · replace hw := hw.1 c17
      refine lv_iconst (v := (0 : Int32)) hx hb dX6_product_114 (by decide) ?_
      exact b115 x9 x11 (0 : Int32) u15 H locs ls hP hD hS (lv_sub hl [0, 1, 2, 3] rfl) hw
    · replace hw := hw.2 c17
      refine lv_iconst (v := (1 : Int32)) hx hb dX6_product_110 (by decide) ?_
      refine lv_goto (tgt := 115) hx hb dX6_product_111 (by decide) ?_
      exact b115 x9 x11 (1 : Int32) u15 H locs ls hP hD hS (lv_sub hl [0, 1, 2, 3] rfl) hw
  have b78 : ∀ (x9 : Int64) (x11 : Int32) (s0 : Int64) (u : SQ) (H : Heap) (locs : List Loc) (ls : Array Slot), va_P D vwCl (WQ cI h0 h1 h2 h3 h4 h5 u) H → va_D A (WQ cI h0 h1 h2 h3 h4 h5 u) → va_S A s.heap H locs → lv_has ls 14 [(0, .ref h0), (3, .int a3), (9, .long x9), (11, .int x11)] → wX6_product_b78 a1 a2 a3 P x9 x11 s0 u → W p l e ({ frames := 2, cells := 0, slots := 0, locals := 41 } : Room) s m ([.ref h0, .int a1, .int a2, .int a3] : List Value).toArray below meth c H locs 0 0 (MQ below (va_Qv P (fun u t => va_P D vwCl (WQ cI h0 h1 h2 h3 h4 h5 u) t.heap) A) ([.ref h0, .int a1, .int a2, .int a3] : List Value).toArray s 0 0 A) (F0 m 78 ls [.long s0]) := by
    intro x9 x11 s0 u H locs ls hP hD hS hl hw
    unfold wX6_product_b78 at hw
    refine lv_lstore (lv' := [(12, .long s0), (0, .ref h0), (3, .int a3), (9, .long x9), (11, .int x11)]) hx hb dX6_product_78 hl (by decide) rfl (fun ls hl => ?_)
    refine lv_aload_n hx hb dX6_product_80 rfl (lv_at hl 1 rfl) ?_
    refine lv_iconst (v := (1 : Int32)) hx hb dX6_product_81 (by decide) ?_
    refine lv_lload hx hb dX6_product_82 (lv_at hl 3 rfl) ?_
    refine lv_lload hx hb dX6_product_84 (lv_at hl 0 rfl) ?_
    refine W.lcmp hx hb dX6_product_86 ?_
    refine lv_if_eq (tgt := 94) hx hb dX6_product_87 (by decide) (fun c14 => ?_) (fun c14 => ?_)
    · replace hw := hw.1 c14
      refine lv_iconst (v := (0 : Int32)) hx hb dX6_product_94 (by decide) ?_
      exact b95 x9 x11 s0 (0 : Int32) u H locs ls hP hD hS (lv_sub hl [1, 2, 3, 4, 0] rfl) hw
    · replace hw := hw.2 c14
      refine lv_iconst (v := (1 : Int32)) hx hb dX6_product_90 (by decide) ?_
      refine lv_goto (tgt := 95) hx hb dX6_product_91 (by decide) ?_
      exact b95 x9 x11 s0 (1 : Int32) u H locs ls hP hD hS (lv_sub hl [1, 2, 3, 4, 0] rfl) hw
  have b42 : ∀ (x5 : Int64) (s0 : Int64) (u : SQ) (H : Heap) (locs : List Loc) (ls : Array Slot), va_P D vwCl (WQ cI h0 h1 h2 h3 h4 h5 u) H → va_D A (WQ cI h0 h1 h2 h3 h4 h5 u) → va_S A s.heap H locs → lv_has ls 14 [(0, .ref h0), (2, .int a2), (3, .int a3), (5, .long x5)] → wX6_product_b42 a1 a2 a3 P x5 s0 u → W p l e ({ frames := 2, cells := 0, slots := 0, locals := 41 } : Room) s m ([.ref h0, .int a1, .int a2, .int a3] : List Value).toArray below meth c H locs 0 0 (MQ below (va_Qv P (fun u t => va_P D vwCl (WQ cI h0 h1 h2 h3 h4 h5 u) t.heap) A) ([.ref h0, .int a1, .int a2, .int a3] : List Value).toArray s 0 0 A) (F0 m 42 ls [.long s0]) := by
    intro x5 s0 u H locs ls hP hD hS hl hw
    unfold wX6_product_b42 at hw
    refine lv_lstore (lv' := [(7, .long s0), (0, .ref h0), (2, .int a2), (3, .int a3), (5, .long x5)]) hx hb dX6_product_42 hl (by decide) rfl (fun ls hl => ?_)
    refine lv_lload hx hb dX6_product_44 (lv_at hl 4 rfl) ?_
    refine lv_lload hx hb dX6_product_46 (lv_at hl 0 rfl) ?_
    refine lv_lmul hx hb dX6_product_48 ?_
    refine lv_lstore (lv' := [(9, .long (x5 * s0)), (7, .long s0), (0, .ref h0), (2, .int a2), (3, .int a3), (5, .long x5)]) hx hb dX6_product_49 hl (by decide) rfl (fun ls hl => ?_)
    refine lv_lload hx hb dX6_product_51 (lv_at hl 0 rfl) ?_
    refine lv_l2i (v := ((x5 * s0).toInt32)) hx hb dX6_product_53 rfl ?_
    refine lv_iload_n hx hb dX6_product_54 rfl (lv_at hl 4 rfl) ?_
    refine cl_Si (As := [.int a3]) (rest := [.int ((x5 * s0).toInt32)]) (st := [.int a3, .int ((x5 * s0).toInt32)]) S hK hA hP hD hS Fr_nil (kcX6_all l D cB cI  H.size a3 () _ hw) (va_cwS 1 hts gX6_product_X6_all rfl rfl rfl (by decide +kernel) ⟨Nat.le_of_ble_eq_true rfl, Nat.le_of_ble_eq_true rfl⟩) tru_h tru_b rfl rfl hl.1 (Nat.le_of_ble_eq_true rfl) dX6_product_55 ⟨Nat.zero_le _, Nat.zero_le _⟩ (fun r10 u9 H locs hP hD hS hw => ?_)
    replace hP : va_P D vwCl (WQ cI h0 h1 h2 h3 h4 h5 u) H := hP
    replace hD : va_D A (WQ cI h0 h1 h2 h3 h4 h5 u) := hD
    refine lv_iand hx hb dX6_product_58 ?_
    refine lv_istore (lv' := [(11, .int (((x5 * s0).toInt32) &&& r10)), (9, .long (x5 * s0)), (7, .long s0), (0, .ref h0), (2, .int a2), (3, .int a3), (5, .long x5)]) hx hb dX6_product_59 hl (by decide) rfl (fun ls hl => ?_)
    refine lv_iload_n hx hb dX6_product_61 rfl (lv_at hl 4 rfl) ?_
    refine lv_if_eq (tgt := 75) hx hb dX6_product_62 (by decide) (fun c11 => ?_) (fun c11 => ?_)
    · replace hw := hw.1 c11
      refine lv_iload hx hb dX6_product_75 (lv_at hl 0 rfl) ?_
      refine lv_i2l (v := ((((x5 * s0).toInt32) &&& r10).toInt64)) hx hb dX6_product_77 rfl ?_
      exact b78 (x5 * s0) (((x5 * s0).toInt32) &&& r10) ((((x5 * s0).toInt32) &&& r10).toInt64) u H locs ls hP hD hS (lv_sub hl [3, 5, 1, 0] rfl) hw
    · replace hw := hw.2 c11
      refine lv_iload hx hb dX6_product_65 (lv_at hl 0 rfl) ?_
      refine lv_iload_n hx hb dX6_product_67 rfl (lv_at hl 5 rfl) ?_
      refine cl_Si (As := [.int (((x5 * s0).toInt32) &&& r10), .int a3]) (rest := []) (st := [.int a3, .int (((x5 * s0).toInt32) &&& r10)]) S hK hA hP hD hS Fr_nil (kcX6_signed l D cB cI  H.size (((x5 * s0).toInt32) &&& r10) a3 () _ hw) (va_cwS 2 hts gX6_product_X6_signed rfl rfl rfl (by decide +kernel) ⟨Nat.le_of_ble_eq_true rfl, Nat.le_of_ble_eq_true rfl⟩) tru_h tru_b rfl rfl hl.1 (Nat.le_of_ble_eq_true rfl) dX6_product_68 ⟨Nat.zero_le _, Nat.zero_le _⟩ (fun r13 u12 H locs hP hD hS hw => ?_)
      replace hP : va_P D vwCl (WQ cI h0 h1 h2 h3 h4 h5 u) H := hP
      replace hD : va_D A (WQ cI h0 h1 h2 h3 h4 h5 u) := hD
      refine lv_i2l (v := (r13.toInt64)) hx hb dX6_product_71 rfl ?_
      refine lv_goto (tgt := 78) hx hb dX6_product_72 (by decide) ?_
      exact b78 (x5 * s0) (((x5 * s0).toInt32) &&& r10) (r13.toInt64) u H locs ls hP hD hS (lv_sub hl [3, 5, 1, 0] rfl) hw
  have b25 : ∀ (s0 : Int64) (u : SQ) (H : Heap) (locs : List Loc) (ls : Array Slot), va_P D vwCl (WQ cI h0 h1 h2 h3 h4 h5 u) H → va_D A (WQ cI h0 h1 h2 h3 h4 h5 u) → va_S A s.heap H locs → lv_has ls 14 [(0, .ref h0), (1, .int a1), (2, .int a2), (3, .int a3)] → wX6_product_b25 a1 a2 a3 P s0 u → W p l e ({ frames := 2, cells := 0, slots := 0, locals := 41 } : Room) s m ([.ref h0, .int a1, .int a2, .int a3] : List Value).toArray below meth c H locs 0 0 (MQ below (va_Qv P (fun u t => va_P D vwCl (WQ cI h0 h1 h2 h3 h4 h5 u) t.heap) A) ([.ref h0, .int a1, .int a2, .int a3] : List Value).toArray s 0 0 A) (F0 m 25 ls [.long s0]) := by
    intro s0 u H locs ls hP hD hS hl hw
    unfold wX6_product_b25 at hw
    refine lv_lstore (lv' := [(5, .long s0), (0, .ref h0), (1, .int a1), (2, .int a2), (3, .int a3)]) hx hb dX6_product_25 hl (by decide) rfl (fun ls hl => ?_)
    refine lv_iload_n hx hb dX6_product_27 rfl (lv_at hl 3 rfl) ?_
    refine lv_if_eq (tgt := 40) hx hb dX6_product_28 (by decide) (fun c6 => ?_) (fun c6 => ?_)
    · replace hw := hw.1 c6
      refine lv_iload_n hx hb dX6_product_40 rfl (lv_at hl 2 rfl) ?_
      refine lv_i2l (v := (a1.toInt64)) hx hb dX6_product_41 rfl ?_
      exact b42 s0 (a1.toInt64) u H locs ls hP hD hS (lv_sub hl [1, 3, 4, 0] rfl) hw
    · replace hw := hw.2 c6
      refine lv_iload_n hx hb dX6_product_31 rfl (lv_at hl 2 rfl) ?_
      refine lv_iload_n hx hb dX6_product_32 rfl (lv_at hl 4 rfl) ?_
      refine cl_Si (As := [.int a1, .int a3]) (rest := []) (st := [.int a3, .int a1]) S hK hA hP hD hS Fr_nil (kcX6_signed l D cB cI  H.size a1 a3 () _ hw) (va_cwS 2 hts gX6_product_X6_signed rfl rfl rfl (by decide +kernel) ⟨Nat.le_of_ble_eq_true rfl, Nat.le_of_ble_eq_true rfl⟩) tru_h tru_b rfl rfl hl.1 (Nat.le_of_ble_eq_true rfl) dX6_product_33 ⟨Nat.zero_le _, Nat.zero_le _⟩ (fun r8 u7 H locs hP hD hS hw => ?_)
      replace hP : va_P D vwCl (WQ cI h0 h1 h2 h3 h4 h5 u) H := hP
      replace hD : va_D A (WQ cI h0 h1 h2 h3 h4 h5 u) := hD
      refine lv_i2l (v := (r8.toInt64)) hx hb dX6_product_36 rfl ?_
      refine lv_goto (tgt := 42) hx hb dX6_product_37 (by decide) ?_
      exact b42 s0 (r8.toInt64) u H locs ls hP hD hS (lv_sub hl [1, 3, 4, 0] rfl) hw
  unfold wX6_product at hw
  obtain ⟨H, eH⟩ : ∃ H, H = s.heap := ⟨_, rfl⟩
  obtain ⟨locs, eL⟩ : ∃ locs : List Loc, locs = [] := ⟨_, rfl⟩
  replace hP : va_P D vwCl (WQ cI h0 h1 h2 h3 h4 h5 u) H := by rw [eH]; exact hP
  replace hS : va_S A s.heap H locs := by rw [eH, eL]; exact hS
  suffices hgo : W p l e ({ frames := 2, cells := 0, slots := 0, locals := 41 } : Room) s m ([.ref h0, .int a1, .int a2, .int a3] : List Value).toArray below meth c H locs 0 0 (MQ below (va_Qv P (fun u t => va_P D vwCl (WQ cI h0 h1 h2 h3 h4 h5 u) t.heap) A) ([.ref h0, .int a1, .int a2, .int a3] : List Value).toArray s 0 0 A) (F0 m 0 ls []) by rw [eH, eL] at hgo; exact hgo
  clear eH eL
  refine lv_aload_n hx hb dX6_product_0 rfl (lv_at hl 0 rfl) ?_
  refine lv_iconst (v := (0 : Int32)) hx hb dX6_product_1 (by decide) ?_
  refine lv_iload_n hx hb dX6_product_2 rfl (lv_at hl 3 rfl) ?_
  refine cl_Vi (As := [.int (0 : Int32), .int a3]) (rest := []) (st := [.int a3, .int (0 : Int32), .ref h0]) S hK hA hP hD hS (fr_Q u) (kcX6_register l D cB cI h0 h1 h2 h3 h4 h5 H.size (0 : Int32) a3 u _ hw) (cwV 2 hts gX6_product_X6_register rfl rfl rfl (by decide +kernel) ⟨Nat.le_of_ble_eq_true rfl, Nat.le_of_ble_eq_true rfl⟩) tru_h tru_b 0 rfl rfl rfl rfl rfl hl.1 (Nat.le_of_ble_eq_true rfl) dX6_product_3 ⟨Nat.zero_le _, Nat.zero_le _⟩ (fun r2 u1 H locs hP hD hS hw => ?_)
  replace hP : va_P D vwCl (WQ cI h0 h1 h2 h3 h4 h5 u1) H := hP
  replace hD : va_D A (WQ cI h0 h1 h2 h3 h4 h5 u1) := hD
  refine lv_istore (lv' := [(4, .int r2), (0, .ref h0), (1, .int a1), (2, .int a2), (3, .int a3)]) hx hb dX6_product_6 hl (by decide) rfl (fun ls hl => ?_)
  refine lv_iload_n hx hb dX6_product_8 rfl (lv_at hl 3 rfl) ?_
  refine lv_if_eq (tgt := 22) hx hb dX6_product_9 (by decide) (fun c3 => ?_) (fun c3 => ?_)
  · replace hw := hw.1 c3
    refine lv_iload hx hb dX6_product_22 (lv_at hl 0 rfl) ?_
    refine lv_i2l (v := (r2.toInt64)) hx hb dX6_product_24 rfl ?_
    exact b25 (r2.toInt64) u1 H locs ls hP hD hS (lv_sub hl [1, 2, 3, 4] rfl) hw
  · replace hw := hw.2 c3
    refine lv_iload hx hb dX6_product_12 (lv_at hl 0 rfl) ?_
    refine lv_iload_n hx hb dX6_product_14 rfl (lv_at hl 4 rfl) ?_
    refine cl_Si (As := [.int r2, .int a3]) (rest := []) (st := [.int a3, .int r2]) S hK hA hP hD hS Fr_nil (kcX6_signed l D cB cI  H.size r2 a3 () _ hw) (va_cwS 2 hts gX6_product_X6_signed rfl rfl rfl (by decide +kernel) ⟨Nat.le_of_ble_eq_true rfl, Nat.le_of_ble_eq_true rfl⟩) tru_h tru_b rfl rfl hl.1 (Nat.le_of_ble_eq_true rfl) dX6_product_15 ⟨Nat.zero_le _, Nat.zero_le _⟩ (fun r5 u4 H locs hP hD hS hw => ?_)
    replace hP : va_P D vwCl (WQ cI h0 h1 h2 h3 h4 h5 u1) H := hP
    replace hD : va_D A (WQ cI h0 h1 h2 h3 h4 h5 u1) := hD
    refine lv_i2l (v := (r5.toInt64)) hx hb dX6_product_18 rfl ?_
    refine lv_goto (tgt := 25) hx hb dX6_product_19 (by decide) ?_
    exact b25 (r5.toInt64) u1 H locs ls hP hD hS (lv_sub hl [1, 2, 3, 4] rfl) hw
-- X6_quotient
def wX6_quotient_b153 (a1 : Int32) (a2 : Int32) (a3 : Int32) (P : Int32 → SQ → Prop) (x4 : Int64) (x8 : Int64) (x10 : Int64) (s0 : Int64) (s1 : Int64) (u : SQ) : Prop := (((0 : Int32) ≤ (lg_cmp s0 s1) → ((a3 = (0 : Int32) → (vp_in (0 : Int32) 8 ∧ (P (1 : Int32) (qs_registers u (upd (q_registers u) (0 : Int32).toNatClampNeg (((x10.toInt32) &&& (255 : Int32)) ||| ((((x4 - (x10 * x8)).toInt32) &&& (255 : Int32)) <<< ((8 : Int32) &&& 31)))))))) ∧ (¬ a3 = (0 : Int32) → (vp_in (0 : Int32) 8 ∧ (vp_in (2 : Int32) 8 ∧ (P (1 : Int32) (qs_registers u (upd (upd (q_registers u) (0 : Int32).toNatClampNeg ((x10.toInt32) &&& (65535 : Int32))) (2 : Int32).toNatClampNeg (((x4 - (x10 * x8)).toInt32) &&& (65535 : Int32)))))))))) ∧ (¬ (0 : Int32) ≤ (lg_cmp s0 s1) → (P (0 : Int32) u)))
def wX6_quotient_b130 (a1 : Int32) (a2 : Int32) (a3 : Int32) (P : Int32 → SQ → Prop) (x4 : Int64) (x8 : Int64) (x10 : Int64) (s0 : Int64) (u : SQ) : Prop := (((0 : Int32) < (lg_cmp x10 s0) → (P (0 : Int32) u)) ∧ (¬ (0 : Int32) < (lg_cmp x10 s0) → ((a2 = (0 : Int32) → (wX6_quotient_b153 a1 a2 a3 P x4 x8 x10 x10 (0 : Int64) u)) ∧ (¬ a2 = (0 : Int32) → (wX6_quotient_b153 a1 a2 a3 P x4 x8 x10 x10 (-s0) u)))))
def wX6_quotient_b93 (a1 : Int32) (a2 : Int32) (a3 : Int32) (P : Int32 → SQ → Prop) (x4 : Int64) (s0 : Int64) (u : SQ) : Prop := (((lg_cmp s0 (0 : Int64)) = (0 : Int32) → (P (0 : Int32) u)) ∧ (¬ (lg_cmp s0 (0 : Int64)) = (0 : Int32) → (¬ s0 = (0 : Int64) ∧ ((a2 = (0 : Int32) → (wX6_all a3 () (fun r11 u10 => (wX6_quotient_b130 a1 a2 a3 P x4 s0 (x4 / s0) (r11.toInt64) u)))) ∧ (¬ a2 = (0 : Int32) → (wX6_top a3 () (fun r13 u12 => (wX6_quotient_b130 a1 a2 a3 P x4 s0 (x4 / s0) ((r13.toInt64) - (1 : Int64)) u))))))))
def wX6_quotient_b76 (a1 : Int32) (a2 : Int32) (a3 : Int32) (P : Int32 → SQ → Prop) (s0 : Int64) (u : SQ) : Prop := ((a2 = (0 : Int32) → (wX6_quotient_b93 a1 a2 a3 P s0 (a1.toInt64) u)) ∧ (¬ a2 = (0 : Int32) → (wX6_signed a1 a3 () (fun r7 u6 => (wX6_quotient_b93 a1 a2 a3 P s0 (r7.toInt64) u)))))
def wX6_quotient_b74 (a1 : Int32) (a2 : Int32) (a3 : Int32) (P : Int32 → SQ → Prop) (x4 : Int64) (u : SQ) : Prop := (wX6_quotient_b76 a1 a2 a3 P x4 u)
def wX6_quotient_b48 (a1 : Int32) (a2 : Int32) (a3 : Int32) (P : Int32 → SQ → Prop) (x4 : Int64) (s0 : Int64) (u : SQ) : Prop := ((a2 = (0 : Int32) → (wX6_quotient_b74 a1 a2 a3 P x4 u)) ∧ (¬ a2 = (0 : Int32) → (¬ (2 : Int64) = (0 : Int64) ∧ (((lg_cmp x4 (s0 / (2 : Int64))) < (0 : Int32) → (wX6_quotient_b74 a1 a2 a3 P x4 u)) ∧ (¬ (lg_cmp x4 (s0 / (2 : Int64))) < (0 : Int32) → (wX6_quotient_b76 a1 a2 a3 P (x4 - s0) u))))))
def wX6_quotient_b33 (a1 : Int32) (a2 : Int32) (a3 : Int32) (P : Int32 → SQ → Prop) (s0 : Int64) (u : SQ) : Prop := ((a3 = (0 : Int32) → (wX6_quotient_b48 a1 a2 a3 P s0 (65536 : Int64) u)) ∧ (¬ a3 = (0 : Int32) → (wX6_quotient_b48 a1 a2 a3 P s0 (4294967296 : Int64) u)))
def wX6_quotient (a1 : Int32) (a2 : Int32) (a3 : Int32) (u : SQ) (P : Int32 → SQ → Prop) : Prop := ((a3 = (0 : Int32) → (vp_in (0 : Int32) 8 ∧ (wX6_quotient_b33 a1 a2 a3 P (((q_registers u) (0 : Int32).toNatClampNeg).toInt64) u))) ∧ (¬ a3 = (0 : Int32) → (vp_in (2 : Int32) 8 ∧ (vp_in (0 : Int32) 8 ∧ (wX6_quotient_b33 a1 a2 a3 P (((((q_registers u) (2 : Int32).toNatClampNeg).toInt64) * (65536 : Int64)) + (((q_registers u) (0 : Int32).toNatClampNeg).toInt64)) u)))))
set_option maxHeartbeats 4000000 in
set_option maxRecDepth 100000 in
theorem kcX6_quotient (l : Launch) (D : va_G) (cB cI : ClassId) (h0 h1 h2 h3 h4 h5 : Nat) (sz : Nat) (a1 : Int32) (a2 : Int32) (a3 : Int32) (u : SQ) (P : Int32 → SQ → Prop) (hw : wX6_quotient a1 a2 a3 u P) : Met l yX6_quotient wsX6_quotient ({ frames := 2, cells := 0, slots := 0, locals := 41 } : Room) (va_Pc [.ref h0, .int a1, .int a2, .int a3] (Pcw D (tyA cB cI) (WQ cI h0 h1 h2 h3 h4 h5 u) sz Tru)) (va_Qi P (fun u t => va_P D vwCl (WQ cI h0 h1 h2 h3 h4 h5 u) t.heap) (va_A (WQ cI h0 h1 h2 h3 h4 h5 u) sz)) 0 0 (va_A (WQ cI h0 h1 h2 h3 h4 h5 u) sz) := by
  refine en_ (cc := cX6_quotient) (maxL := 16) (ret := (some .boolean)) (own := RX6) (lv := [(0, .ref h0), (1, .int a1), (2, .int a2), (3, .int a3)]) (Qf := fun A => va_Qi P (fun u t => va_P D vwCl (WQ cI h0 h1 h2 h3 h4 h5 u) t.heap) A) (by decide) rfl rfl (Nat.le_of_ble_eq_true rfl) rfl ?_
  intro p e s m below meth c A ls S hr hlk hname hsz hP hK hD hA hSub hS hE hl
  have hx := S.1
  have hb := S.2.1
  have hown := S.2.2.2.1
  have hts := S.2.2.2.2
  have i_X6 : ∀ w ∈ u_ws RX6 TX6 29, w ∈ wsX6_quotient := by decide +kernel
  have f_7 := hts (.fieldLink RX6 7 "MachineCoreModel" "registers" "[I") (by decide +kernel)
  have k_39 := hts (.constant RX6 39 (65535)) (by decide +kernel)
  have k_108 := hts (.constantLong RX6 108 (65536)) (by decide +kernel)
  have k_110 := hts (.constantLong RX6 110 (4294967296)) (by decide +kernel)
  have k_112 := hts (.constantLong RX6 112 (2)) (by decide +kernel)
  have b153 : ∀ (x4 : Int64) (x8 : Int64) (x10 : Int64) (s0 : Int64) (s1 : Int64) (u : SQ) (H : Heap) (locs : List Loc) (ls : Array Slot), va_P D vwCl (WQ cI h0 h1 h2 h3 h4 h5 u) H → va_D A (WQ cI h0 h1 h2 h3 h4 h5 u) → va_S A s.heap H locs → lv_has ls 16 [(0, .ref h0), (3, .int a3), (4, .long x4), (8, .long x8), (10, .long x10)] → wX6_quotient_b153 a1 a2 a3 P x4 x8 x10 s0 s1 u → W p l e ({ frames := 2, cells := 0, slots := 0, locals := 41 } : Room) s m ([.ref h0, .int a1, .int a2, .int a3] : List Value).toArray below meth c H locs 0 0 (MQ below (va_Qi P (fun u t => va_P D vwCl (WQ cI h0 h1 h2 h3 h4 h5 u) t.heap) A) ([.ref h0, .int a1, .int a2, .int a3] : List Value).toArray s 0 0 A) (F0 m 153 ls [.long s1, .long s0]) := by
    intro x4 x8 x10 s0 s1 u H locs ls hP hD hS hl hw
    unfold wX6_quotient_b153 at hw
    refine W.lcmp hx hb dX6_quotient_153 ?_
    refine lv_if_ge (tgt := 159) hx hb dX6_quotient_154 (by decide) (fun c16 => ?_) (fun c16 => ?_)
    · replace hw := hw.1 c16
      refine lv_lload hx hb dX6_quotient_159 (lv_at hl 2 rfl) ?_
      refine lv_lload hx hb dX6_quotient_161 (lv_at hl 4 rfl) ?_
      refine lv_lload hx hb dX6_quotient_163 (lv_at hl 3 rfl) ?_
      refine lv_lmul hx hb dX6_quotient_165 ?_
      refine lv_lsub hx hb dX6_quotient_166 ?_
      refine lv_lstore (lv' := [(14, .long (x4 - (x10 * x8))), (0, .ref h0), (3, .int a3), (4, .long x4), (8, .long x8), (10, .long x10)]) hx hb dX6_quotient_167 hl (by decide) rfl (fun ls hl => ?_)
      refine lv_iload_n hx hb dX6_quotient_169 rfl (lv_at hl 2 rfl) ?_
      refine lv_if_eq (tgt := 200) hx hb dX6_quotient_170 (by decide) (fun c17 => ?_) (fun c17 => ?_)
      · replace hw := hw.1 c17
        refine lv_aload_n hx hb dX6_quotient_200 rfl (lv_at hl 1 rfl) ?_
        refine va_get (D := D) (ci := 6) (v := .ref h1) (C := RX6) (T := TX6) (N := 29) hx hb hts i_X6 hown hK hP 0 rfl rfl 1 (by decide) f_7 (fun _ h9 => h9) rfl dX6_quotient_201 ?_
        refine lv_iconst (v := (0 : Int32)) hx hb dX6_quotient_204 (by decide) ?_
        refine lv_lload hx hb dX6_quotient_205 (lv_at hl 5 rfl) ?_
        refine lv_l2i (v := (x10.toInt32)) hx hb dX6_quotient_207 rfl ?_
        refine lv_sipush (v := (255 : Int32)) hx hb dX6_quotient_208 (by decide) ?_
        refine lv_iand hx hb dX6_quotient_211 ?_
        refine lv_lload hx hb dX6_quotient_212 (lv_at hl 0 rfl) ?_
        refine lv_l2i (v := ((x4 - (x10 * x8)).toInt32)) hx hb dX6_quotient_214 rfl ?_
        refine lv_sipush (v := (255 : Int32)) hx hb dX6_quotient_215 (by decide) ?_
        refine lv_iand hx hb dX6_quotient_218 ?_
        refine lv_bipush (v := (8 : Int32)) hx hb dX6_quotient_219 (by decide) ?_
        refine lv_ishl hx hb dX6_quotient_221 ?_
        refine lv_ior hx hb dX6_quotient_222 ?_
        refine va_iast hx hb hK hP hD hS 1 1 (f := (q_registers u)) rfl rfl hw.1 dX6_quotient_223 (fun H locs hP hD hS => ?_)
        replace hw := hw.2
        replace hP : va_P D vwCl (WQ cI h0 h1 h2 h3 h4 h5 (qs_registers u (upd (q_registers u) (0 : Int32).toNatClampNeg (((x10.toInt32) &&& (255 : Int32)) ||| ((((x4 - (x10 * x8)).toInt32) &&& (255 : Int32)) <<< ((8 : Int32) &&& 31)))))) H := hP
        replace hD : va_D A (WQ cI h0 h1 h2 h3 h4 h5 (qs_registers u (upd (q_registers u) (0 : Int32).toNatClampNeg (((x10.toInt32) &&& (255 : Int32)) ||| ((((x4 - (x10 * x8)).toInt32) &&& (255 : Int32)) <<< ((8 : Int32) &&& 31)))))) := hD
        refine lv_iconst (v := (1 : Int32)) hx hb dX6_quotient_224 (by decide) ?_
        exact rt_z (wo := (fun v => WQ cI h0 h1 h2 h3 h4 h5 v)) S hr hlk (qs_registers u (upd (q_registers u) (0 : Int32).toNatClampNeg (((x10.toInt32) &&& (255 : Int32)) ||| ((((x4 - (x10 * x8)).toInt32) &&& (255 : Int32)) <<< ((8 : Int32) &&& 31))))) hP hS zB_1 hw dX6_quotient_225
      · replace hw := hw.2 c17
        refine lv_aload_n hx hb dX6_quotient_173 rfl (lv_at hl 1 rfl) ?_
        refine va_get (D := D) (ci := 6) (v := .ref h1) (C := RX6) (T := TX6) (N := 29) hx hb hts i_X6 hown hK hP 0 rfl rfl 1 (by decide) f_7 (fun _ h9 => h9) rfl dX6_quotient_174 ?_
        refine lv_iconst (v := (0 : Int32)) hx hb dX6_quotient_177 (by decide) ?_
        refine lv_lload hx hb dX6_quotient_178 (lv_at hl 5 rfl) ?_
        refine lv_l2i (v := (x10.toInt32)) hx hb dX6_quotient_180 rfl ?_
        refine lv_ldc (v := (65535 : Int32)) hx hb hown k_39 dX6_quotient_181 ?_
        refine lv_iand hx hb dX6_quotient_183 ?_
        refine va_iast hx hb hK hP hD hS 1 1 (f := (q_registers u)) rfl rfl hw.1 dX6_quotient_184 (fun H locs hP hD hS => ?_)
        replace hw := hw.2
        replace hP : va_P D vwCl (WQ cI h0 h1 h2 h3 h4 h5 (qs_registers u (upd (q_registers u) (0 : Int32).toNatClampNeg ((x10.toInt32) &&& (65535 : Int32))))) H := hP
        replace hD : va_D A (WQ cI h0 h1 h2 h3 h4 h5 (qs_registers u (upd (q_registers u) (0 : Int32).toNatClampNeg ((x10.toInt32) &&& (65535 : Int32))))) := hD
        refine lv_aload_n hx hb dX6_quotient_185 rfl (lv_at hl 1 rfl) ?_
        refine va_get (D := D) (ci := 6) (v := .ref h1) (C := RX6) (T := TX6) (N := 29) hx hb hts i_X6 hown hK hP 0 rfl rfl 1 (by decide) f_7 (fun _ h9 => h9) rfl dX6_quotient_186 ?_
        refine lv_iconst (v := (2 : Int32)) hx hb dX6_quotient_189 (by decide) ?_
        refine lv_lload hx hb dX6_quotient_190 (lv_at hl 0 rfl) ?_
        refine lv_l2i (v := ((x4 - (x10 * x8)).toInt32)) hx hb dX6_quotient_192 rfl ?_
        refine lv_ldc (v := (65535 : Int32)) hx hb hown k_39 dX6_quotient_193 ?_
        refine lv_iand hx hb dX6_quotient_195 ?_
        refine va_iast hx hb hK hP hD hS 1 1 (f := (upd (q_registers u) (0 : Int32).toNatClampNeg ((x10.toInt32) &&& (65535 : Int32)))) rfl rfl hw.1 dX6_quotient_196 (fun H locs hP hD hS => ?_)
        replace hw := hw.2
        replace hP : va_P D vwCl (WQ cI h0 h1 h2 h3 h4 h5 (qs_registers u (upd (upd (q_registers u) (0 : Int32).toNatClampNeg ((x10.toInt32) &&& (65535 : Int32))) (2 : Int32).toNatClampNeg (((x4 - (x10 * x8)).toInt32) &&& (65535 : Int32))))) H := hP
        replace hD : va_D A (WQ cI h0 h1 h2 h3 h4 h5 (qs_registers u (upd (upd (q_registers u) (0 : Int32).toNatClampNeg ((x10.toInt32) &&& (65535 : Int32))) (2 : Int32).toNatClampNeg (((x4 - (x10 * x8)).toInt32) &&& (65535 : Int32))))) := hD
        refine lv_goto (tgt := 224) hx hb dX6_quotient_197 (by decide) ?_
        refine lv_iconst (v := (1 : Int32)) hx hb dX6_quotient_224 (by decide) ?_
        exact rt_z (wo := (fun v => WQ cI h0 h1 h2 h3 h4 h5 v)) S hr hlk (qs_registers u (upd (upd (q_registers u) (0 : Int32).toNatClampNeg ((x10.toInt32) &&& (65535 : Int32))) (2 : Int32).toNatClampNeg (((x4 - (x10 * x8)).toInt32) &&& (65535 : Int32)))) hP hS zB_1 hw dX6_quotient_225
    · replace hw := hw.2 c16
      refine lv_iconst (v := (0 : Int32)) hx hb dX6_quotient_157 (by decide) ?_
      exact rt_z (wo := (fun v => WQ cI h0 h1 h2 h3 h4 h5 v)) S hr hlk u hP hS zB_0 hw dX6_quotient_158
  have b130 : ∀ (x4 : Int64) (x8 : Int64) (x10 : Int64) (s0 : Int64) (u : SQ) (H : Heap) (locs : List Loc) (ls : Array Slot), va_P D vwCl (WQ cI h0 h1 h2 h3 h4 h5 u) H → va_D A (WQ cI h0 h1 h2 h3 h4 h5 u) → va_S A s.heap H locs → lv_has ls 16 [(0, .ref h0), (2, .int a2), (3, .int a3), (4, .long x4), (8, .long x8), (10, .long x10)] → wX6_quotient_b130 a1 a2 a3 P x4 x8 x10 s0 u → W p l e ({ frames := 2, cells := 0, slots := 0, locals := 41 } : Room) s m ([.ref h0, .int a1, .int a2, .int a3] : List Value).toArray below meth c H locs 0 0 (MQ below (va_Qi P (fun u t => va_P D vwCl (WQ cI h0 h1 h2 h3 h4 h5 u) t.heap) A) ([.ref h0, .int a1, .int a2, .int a3] : List Value).toArray s 0 0 A) (F0 m 130 ls [.long s0]) := by
    intro x4 x8 x10 s0 u H locs ls hP hD hS hl hw
    unfold wX6_quotient_b130 at hw
    refine lv_lstore (lv' := [(12, .long s0), (0, .ref h0), (2, .int a2), (3, .int a3), (4, .long x4), (8, .long x8), (10, .long x10)]) hx hb dX6_quotient_130 hl (by decide) rfl (fun ls hl => ?_)
    refine lv_lload hx hb dX6_quotient_132 (lv_at hl 6 rfl) ?_
    refine lv_lload hx hb dX6_quotient_134 (lv_at hl 0 rfl) ?_
    refine W.lcmp hx hb dX6_quotient_136 ?_
    refine lv_if_gt (tgt := 157) hx hb dX6_quotient_137 (by decide) (fun c14 => ?_) (fun c14 => ?_)
    · replace hw := hw.1 c14
      refine lv_iconst (v := (0 : Int32)) hx hb dX6_quotient_157 (by decide) ?_
      exact rt_z (wo := (fun v => WQ cI h0 h1 h2 h3 h4 h5 v)) S hr hlk u hP hS zB_0 hw dX6_quotient_158
    · replace hw := hw.2 c14
      refine lv_lload hx hb dX6_quotient_140 (lv_at hl 6 rfl) ?_
      refine lv_iload_n hx hb dX6_quotient_142 rfl (lv_at hl 2 rfl) ?_
      refine lv_if_eq (tgt := 152) hx hb dX6_quotient_143 (by decide) (fun c15 => ?_) (fun c15 => ?_)
      · replace hw := hw.1 c15
        refine lv_lconst (v := (0 : Int64)) hx hb dX6_quotient_152 (by decide) ?_
        exact b153 x4 x8 x10 x10 (0 : Int64) u H locs ls hP hD hS (lv_sub hl [1, 3, 4, 5, 6] rfl) hw
      · replace hw := hw.2 c15
        refine lv_lload hx hb dX6_quotient_146 (lv_at hl 0 rfl) ?_
        refine lv_lneg hx hb dX6_quotient_148 ?_
        refine lv_goto (tgt := 153) hx hb dX6_quotient_149 (by decide) ?_
        exact b153 x4 x8 x10 x10 (-s0) u H locs ls hP hD hS (lv_sub hl [1, 3, 4, 5, 6] rfl) hw
  have b93 : ∀ (x4 : Int64) (s0 : Int64) (u : SQ) (H : Heap) (locs : List Loc) (ls : Array Slot), va_P D vwCl (WQ cI h0 h1 h2 h3 h4 h5 u) H → va_D A (WQ cI h0 h1 h2 h3 h4 h5 u) → va_S A s.heap H locs → lv_has ls 16 [(0, .ref h0), (2, .int a2), (3, .int a3), (4, .long x4)] → wX6_quotient_b93 a1 a2 a3 P x4 s0 u → W p l e ({ frames := 2, cells := 0, slots := 0, locals := 41 } : Room) s m ([.ref h0, .int a1, .int a2, .int a3] : List Value).toArray below meth c H locs 0 0 (MQ below (va_Qi P (fun u t => va_P D vwCl (WQ cI h0 h1 h2 h3 h4 h5 u) t.heap) A) ([.ref h0, .int a1, .int a2, .int a3] : List Value).toArray s 0 0 A) (F0 m 93 ls [.long s0]) := by
    intro x4 s0 u H locs ls hP hD hS hl hw
    unfold wX6_quotient_b93 at hw
    refine lv_lstore (lv' := [(8, .long s0), (0, .ref h0), (2, .int a2), (3, .int a3), (4, .long x4)]) hx hb dX6_quotient_93 hl (by decide) rfl (fun ls hl => ?_)
    refine lv_lload hx hb dX6_quotient_95 (lv_at hl 0 rfl) ?_
    refine lv_lconst (v := (0 : Int64)) hx hb dX6_quotient_97 (by decide) ?_
    refine W.lcmp hx hb dX6_quotient_98 ?_
    refine lv_if_ne (tgt := 104) hx hb dX6_quotient_99 (by decide) (fun c8 => ?_) (fun c8 => ?_)
    · replace hw := hw.2 c8
      refine lv_lload hx hb dX6_quotient_104 (lv_at hl 4 rfl) ?_
      refine lv_lload hx hb dX6_quotient_106 (lv_at hl 0 rfl) ?_
      refine lv_ldiv hx hb dX6_quotient_108 hw.1 ?_
      replace hw := hw.2
      refine lv_lstore (lv' := [(10, .long (x4 / s0)), (8, .long s0), (0, .ref h0), (2, .int a2), (3, .int a3), (4, .long x4)]) hx hb dX6_quotient_109 hl (by decide) rfl (fun ls hl => ?_)
      refine lv_iload_n hx hb dX6_quotient_111 rfl (lv_at hl 3 rfl) ?_
      refine lv_if_eq (tgt := 125) hx hb dX6_quotient_112 (by decide) (fun c9 => ?_) (fun c9 => ?_)
      · replace hw := hw.1 c9
        refine lv_iload_n hx hb dX6_quotient_125 rfl (lv_at hl 4 rfl) ?_
        refine cl_Si (As := [.int a3]) (rest := []) (st := [.int a3]) S hK hA hP hD hS Fr_nil (kcX6_all l D cB cI  H.size a3 () _ hw) (va_cwS 1 hts gX6_quotient_X6_all rfl rfl rfl (by decide +kernel) ⟨Nat.le_of_ble_eq_true rfl, Nat.le_of_ble_eq_true rfl⟩) tru_h tru_b rfl rfl hl.1 (Nat.le_of_ble_eq_true rfl) dX6_quotient_126 ⟨Nat.zero_le _, Nat.zero_le _⟩ (fun r11 u10 H locs hP hD hS hw => ?_)
        replace hP : va_P D vwCl (WQ cI h0 h1 h2 h3 h4 h5 u) H := hP
        replace hD : va_D A (WQ cI h0 h1 h2 h3 h4 h5 u) := hD
        refine lv_i2l (v := (r11.toInt64)) hx hb dX6_quotient_129 rfl ?_
        exact b130 x4 s0 (x4 / s0) (r11.toInt64) u H locs ls hP hD hS (lv_sub hl [2, 3, 4, 5, 1, 0] rfl) hw
      · replace hw := hw.2 c9
        refine lv_iload_n hx hb dX6_quotient_115 rfl (lv_at hl 4 rfl) ?_
        refine cl_Si (As := [.int a3]) (rest := []) (st := [.int a3]) S hK hA hP hD hS Fr_nil (kcX6_top l D cB cI  H.size a3 () _ hw) (va_cwS 1 hts gX6_quotient_X6_top rfl rfl rfl (by decide +kernel) ⟨Nat.le_of_ble_eq_true rfl, Nat.le_of_ble_eq_true rfl⟩) tru_h tru_b rfl rfl hl.1 (Nat.le_of_ble_eq_true rfl) dX6_quotient_116 ⟨Nat.zero_le _, Nat.zero_le _⟩ (fun r13 u12 H locs hP hD hS hw => ?_)
        replace hP : va_P D vwCl (WQ cI h0 h1 h2 h3 h4 h5 u) H := hP
        replace hD : va_D A (WQ cI h0 h1 h2 h3 h4 h5 u) := hD
        refine lv_i2l (v := (r13.toInt64)) hx hb dX6_quotient_119 rfl ?_
        refine lv_lconst (v := (1 : Int64)) hx hb dX6_quotient_120 (by decide) ?_
        refine lv_lsub hx hb dX6_quotient_121 ?_
        refine lv_goto (tgt := 130) hx hb dX6_quotient_122 (by decide) ?_
        exact b130 x4 s0 (x4 / s0) ((r13.toInt64) - (1 : Int64)) u H locs ls hP hD hS (lv_sub hl [2, 3, 4, 5, 1, 0] rfl) hw
    · replace hw := hw.1 c8
      refine lv_iconst (v := (0 : Int32)) hx hb dX6_quotient_102 (by decide) ?_
      exact rt_z (wo := (fun v => WQ cI h0 h1 h2 h3 h4 h5 v)) S hr hlk u hP hS zB_0 hw dX6_quotient_103
  have b76 : ∀ (s0 : Int64) (u : SQ) (H : Heap) (locs : List Loc) (ls : Array Slot), va_P D vwCl (WQ cI h0 h1 h2 h3 h4 h5 u) H → va_D A (WQ cI h0 h1 h2 h3 h4 h5 u) → va_S A s.heap H locs → lv_has ls 16 [(0, .ref h0), (1, .int a1), (2, .int a2), (3, .int a3)] → wX6_quotient_b76 a1 a2 a3 P s0 u → W p l e ({ frames := 2, cells := 0, slots := 0, locals := 41 } : Room) s m ([.ref h0, .int a1, .int a2, .int a3] : List Value).toArray below meth c H locs 0 0 (MQ below (va_Qi P (fun u t => va_P D vwCl (WQ cI h0 h1 h2 h3 h4 h5 u) t.heap) A) ([.ref h0, .int a1, .int a2, .int a3] : List Value).toArray s 0 0 A) (F0 m 76 ls [.long s0]) := by
    intro s0 u H locs ls hP hD hS hl hw
    unfold wX6_quotient_b76 at hw
    refine lv_lstore (lv' := [(4, .long s0), (0, .ref h0), (1, .int a1), (2, .int a2), (3, .int a3)]) hx hb dX6_quotient_76 hl (by decide) rfl (fun ls hl => ?_)
    refine lv_iload_n hx hb dX6_quotient_78 rfl (lv_at hl 3 rfl) ?_
    refine lv_if_eq (tgt := 91) hx hb dX6_quotient_79 (by decide) (fun c5 => ?_) (fun c5 => ?_)
    · replace hw := hw.1 c5
      refine lv_iload_n hx hb dX6_quotient_91 rfl (lv_at hl 2 rfl) ?_
      refine lv_i2l (v := (a1.toInt64)) hx hb dX6_quotient_92 rfl ?_
      exact b93 s0 (a1.toInt64) u H locs ls hP hD hS (lv_sub hl [1, 3, 4, 0] rfl) hw
    · replace hw := hw.2 c5
      refine lv_iload_n hx hb dX6_quotient_82 rfl (lv_at hl 2 rfl) ?_
      refine lv_iload_n hx hb dX6_quotient_83 rfl (lv_at hl 4 rfl) ?_
      refine cl_Si (As := [.int a1, .int a3]) (rest := []) (st := [.int a3, .int a1]) S hK hA hP hD hS Fr_nil (kcX6_signed l D cB cI  H.size a1 a3 () _ hw) (va_cwS 2 hts gX6_quotient_X6_signed rfl rfl rfl (by decide +kernel) ⟨Nat.le_of_ble_eq_true rfl, Nat.le_of_ble_eq_true rfl⟩) tru_h tru_b rfl rfl hl.1 (Nat.le_of_ble_eq_true rfl) dX6_quotient_84 ⟨Nat.zero_le _, Nat.zero_le _⟩ (fun r7 u6 H locs hP hD hS hw => ?_)
      replace hP : va_P D vwCl (WQ cI h0 h1 h2 h3 h4 h5 u) H := hP
      replace hD : va_D A (WQ cI h0 h1 h2 h3 h4 h5 u) := hD
      refine lv_i2l (v := (r7.toInt64)) hx hb dX6_quotient_87 rfl ?_
      refine lv_goto (tgt := 93) hx hb dX6_quotient_88 (by decide) ?_
      exact b93 s0 (r7.toInt64) u H locs ls hP hD hS (lv_sub hl [1, 3, 4, 0] rfl) hw
  have b74 : ∀ (x4 : Int64) (u : SQ) (H : Heap) (locs : List Loc) (ls : Array Slot), va_P D vwCl (WQ cI h0 h1 h2 h3 h4 h5 u) H → va_D A (WQ cI h0 h1 h2 h3 h4 h5 u) → va_S A s.heap H locs → lv_has ls 16 [(0, .ref h0), (1, .int a1), (2, .int a2), (3, .int a3), (4, .long x4)] → wX6_quotient_b74 a1 a2 a3 P x4 u → W p l e ({ frames := 2, cells := 0, slots := 0, locals := 41 } : Room) s m ([.ref h0, .int a1, .int a2, .int a3] : List Value).toArray below meth c H locs 0 0 (MQ below (va_Qi P (fun u t => va_P D vwCl (WQ cI h0 h1 h2 h3 h4 h5 u) t.heap) A) ([.ref h0, .int a1, .int a2, .int a3] : List Value).toArray s 0 0 A) (F0 m 74 ls []) := by
    intro x4 u H locs ls hP hD hS hl hw
    unfold wX6_quotient_b74 at hw
    refine lv_lload hx hb dX6_quotient_74 (lv_at hl 4 rfl) ?_
    exact b76 x4 u H locs ls hP hD hS (lv_sub hl [0, 1, 2, 3] rfl) hw
  have b48 : ∀ (x4 : Int64) (s0 : Int64) (u : SQ) (H : Heap) (locs : List Loc) (ls : Array Slot), va_P D vwCl (WQ cI h0 h1 h2 h3 h4 h5 u) H → va_D A (WQ cI h0 h1 h2 h3 h4 h5 u) → va_S A s.heap H locs → lv_has ls 16 [(0, .ref h0), (1, .int a1), (2, .int a2), (3, .int a3), (4, .long x4)] → wX6_quotient_b48 a1 a2 a3 P x4 s0 u → W p l e ({ frames := 2, cells := 0, slots := 0, locals := 41 } : Room) s m ([.ref h0, .int a1, .int a2, .int a3] : List Value).toArray below meth c H locs 0 0 (MQ below (va_Qi P (fun u t => va_P D vwCl (WQ cI h0 h1 h2 h3 h4 h5 u) t.heap) A) ([.ref h0, .int a1, .int a2, .int a3] : List Value).toArray s 0 0 A) (F0 m 48 ls [.long s0]) := by
    intro x4 s0 u H locs ls hP hD hS hl hw
    unfold wX6_quotient_b48 at hw
    refine lv_lstore (lv' := [(6, .long s0), (0, .ref h0), (1, .int a1), (2, .int a2), (3, .int a3), (4, .long x4)]) hx hb dX6_quotient_48 hl (by decide) rfl (fun ls hl => ?_)
    refine lv_iload_n hx hb dX6_quotient_50 rfl (lv_at hl 3 rfl) ?_
    refine lv_if_eq (tgt := 74) hx hb dX6_quotient_51 (by decide) (fun c3 => ?_) (fun c3 => ?_)
    · replace hw := hw.1 c3
      exact b74 x4 u H locs ls hP hD hS (lv_sub hl [1, 2, 3, 4, 5] rfl) hw
    · replace hw := hw.2 c3
      refine lv_lload hx hb dX6_quotient_54 (lv_at hl 5 rfl) ?_
      refine lv_lload hx hb dX6_quotient_56 (lv_at hl 0 rfl) ?_
      refine lv_ldc2 (v := (2 : Int64)) hx hb hown k_112 dX6_quotient_58 ?_
      refine lv_ldiv hx hb dX6_quotient_61 hw.1 ?_
      replace hw := hw.2
      refine W.lcmp hx hb dX6_quotient_62 ?_
      refine lv_if_lt (tgt := 74) hx hb dX6_quotient_63 (by decide) (fun c4 => ?_) (fun c4 => ?_)
      · replace hw := hw.1 c4
        exact b74 x4 u H locs ls hP hD hS (lv_sub hl [1, 2, 3, 4, 5] rfl) hw
      · replace hw := hw.2 c4
        refine lv_lload hx hb dX6_quotient_66 (lv_at hl 5 rfl) ?_
        refine lv_lload hx hb dX6_quotient_68 (lv_at hl 0 rfl) ?_
        refine lv_lsub hx hb dX6_quotient_70 ?_
        refine lv_goto (tgt := 76) hx hb dX6_quotient_71 (by decide) ?_
        exact b76 (x4 - s0) u H locs ls hP hD hS (lv_sub hl [1, 2, 3, 4] rfl) hw
  have b33 : ∀ (s0 : Int64) (u : SQ) (H : Heap) (locs : List Loc) (ls : Array Slot), va_P D vwCl (WQ cI h0 h1 h2 h3 h4 h5 u) H → va_D A (WQ cI h0 h1 h2 h3 h4 h5 u) → va_S A s.heap H locs → lv_has ls 16 [(0, .ref h0), (1, .int a1), (2, .int a2), (3, .int a3)] → wX6_quotient_b33 a1 a2 a3 P s0 u → W p l e ({ frames := 2, cells := 0, slots := 0, locals := 41 } : Room) s m ([.ref h0, .int a1, .int a2, .int a3] : List Value).toArray below meth c H locs 0 0 (MQ below (va_Qi P (fun u t => va_P D vwCl (WQ cI h0 h1 h2 h3 h4 h5 u) t.heap) A) ([.ref h0, .int a1, .int a2, .int a3] : List Value).toArray s 0 0 A) (F0 m 33 ls [.long s0]) := by
    intro s0 u H locs ls hP hD hS hl hw
    unfold wX6_quotient_b33 at hw
    refine lv_lstore (lv' := [(4, .long s0), (0, .ref h0), (1, .int a1), (2, .int a2), (3, .int a3)]) hx hb dX6_quotient_33 hl (by decide) rfl (fun ls hl => ?_)
    refine lv_iload_n hx hb dX6_quotient_35 rfl (lv_at hl 4 rfl) ?_
    refine lv_if_eq (tgt := 45) hx hb dX6_quotient_36 (by decide) (fun c2 => ?_) (fun c2 => ?_)
    · replace hw := hw.1 c2
      refine lv_ldc2 (v := (65536 : Int64)) hx hb hown k_108 dX6_quotient_45 ?_
      exact b48 s0 (65536 : Int64) u H locs ls hP hD hS (lv_sub hl [1, 2, 3, 4, 0] rfl) hw
    · replace hw := hw.2 c2
      refine lv_ldc2 (v := (4294967296 : Int64)) hx hb hown k_110 dX6_quotient_39 ?_
      refine lv_goto (tgt := 48) hx hb dX6_quotient_42 (by decide) ?_
      exact b48 s0 (4294967296 : Int64) u H locs ls hP hD hS (lv_sub hl [1, 2, 3, 4, 0] rfl) hw
  unfold wX6_quotient at hw
  obtain ⟨H, eH⟩ : ∃ H, H = s.heap := ⟨_, rfl⟩
  obtain ⟨locs, eL⟩ : ∃ locs : List Loc, locs = [] := ⟨_, rfl⟩
  replace hP : va_P D vwCl (WQ cI h0 h1 h2 h3 h4 h5 u) H := by rw [eH]; exact hP
  replace hS : va_S A s.heap H locs := by rw [eH, eL]; exact hS
  suffices hgo : W p l e ({ frames := 2, cells := 0, slots := 0, locals := 41 } : Room) s m ([.ref h0, .int a1, .int a2, .int a3] : List Value).toArray below meth c H locs 0 0 (MQ below (va_Qi P (fun u t => va_P D vwCl (WQ cI h0 h1 h2 h3 h4 h5 u) t.heap) A) ([.ref h0, .int a1, .int a2, .int a3] : List Value).toArray s 0 0 A) (F0 m 0 ls []) by rw [eH, eL] at hgo; exact hgo
  clear eH eL
  refine lv_iload_n hx hb dX6_quotient_0 rfl (lv_at hl 3 rfl) ?_
  refine lv_if_eq (tgt := 26) hx hb dX6_quotient_1 (by decide) (fun c1 => ?_) (fun c1 => ?_)
  · replace hw := hw.1 c1
    refine lv_aload_n hx hb dX6_quotient_26 rfl (lv_at hl 0 rfl) ?_
    refine va_get (D := D) (ci := 6) (v := .ref h1) (C := RX6) (T := TX6) (N := 29) hx hb hts i_X6 hown hK hP 0 rfl rfl 1 (by decide) f_7 (fun _ h9 => h9) rfl dX6_quotient_27 ?_
    refine lv_iconst (v := (0 : Int32)) hx hb dX6_quotient_30 (by decide) ?_
    refine va_iald hx hb hK hP 1 1 (f := (q_registers u)) rfl rfl hw.1 dX6_quotient_31 ?_
    replace hw := hw.2
    refine lv_i2l (v := (((q_registers u) (0 : Int32).toNatClampNeg).toInt64)) hx hb dX6_quotient_32 rfl ?_
    exact b33 (((q_registers u) (0 : Int32).toNatClampNeg).toInt64) u H locs ls hP hD hS (lv_sub hl [0, 1, 2, 3] rfl) hw
  · replace hw := hw.2 c1
    refine lv_aload_n hx hb dX6_quotient_4 rfl (lv_at hl 0 rfl) ?_
    refine va_get (D := D) (ci := 6) (v := .ref h1) (C := RX6) (T := TX6) (N := 29) hx hb hts i_X6 hown hK hP 0 rfl rfl 1 (by decide) f_7 (fun _ h9 => h9) rfl dX6_quotient_5 ?_
    refine lv_iconst (v := (2 : Int32)) hx hb dX6_quotient_8 (by decide) ?_
    refine va_iald hx hb hK hP 1 1 (f := (q_registers u)) rfl rfl hw.1 dX6_quotient_9 ?_
    replace hw := hw.2
    refine lv_i2l (v := (((q_registers u) (2 : Int32).toNatClampNeg).toInt64)) hx hb dX6_quotient_10 rfl ?_
    refine lv_ldc2 (v := (65536 : Int64)) hx hb hown k_108 dX6_quotient_11 ?_
    refine lv_lmul hx hb dX6_quotient_14 ?_
    refine lv_aload_n hx hb dX6_quotient_15 rfl (lv_at hl 0 rfl) ?_
    refine va_get (D := D) (ci := 6) (v := .ref h1) (C := RX6) (T := TX6) (N := 29) hx hb hts i_X6 hown hK hP 0 rfl rfl 1 (by decide) f_7 (fun _ h9 => h9) rfl dX6_quotient_16 ?_
    refine lv_iconst (v := (0 : Int32)) hx hb dX6_quotient_19 (by decide) ?_
    refine va_iald hx hb hK hP 1 1 (f := (q_registers u)) rfl rfl hw.1 dX6_quotient_20 ?_
    replace hw := hw.2
    refine lv_i2l (v := (((q_registers u) (0 : Int32).toNatClampNeg).toInt64)) hx hb dX6_quotient_21 rfl ?_
    refine lv_ladd hx hb dX6_quotient_22 ?_
    refine lv_goto (tgt := 33) hx hb dX6_quotient_23 (by decide) ?_
    exact b33 (((((q_registers u) (2 : Int32).toNatClampNeg).toInt64) * (65536 : Int64)) + (((q_registers u) (0 : Int32).toNatClampNeg).toInt64)) u H locs ls hP hD hS (lv_sub hl [0, 1, 2, 3] rfl) hw
-- X6_holds
def wX6_holds_b169 (a1 : Int32) (P : Int32 → SQ → Prop) (s0 : Int32) (s1 : Int32) (u : SQ) : Prop := ((s0 = s1 → (P (1 : Int32) u)) ∧ (¬ s0 = s1 → (P (0 : Int32) u)))
def wX6_holds_b154 (a1 : Int32) (P : Int32 → SQ → Prop) (s0 : Int32) (u : SQ) : Prop := (¬ (2 : Int32) = (0 : Int32) ∧ (((a1 - a1 / (2 : Int32) * (2 : Int32)) = (0 : Int32) → (wX6_holds_b169 a1 P s0 (1 : Int32) u)) ∧ (¬ (a1 - a1 / (2 : Int32) * (2 : Int32)) = (0 : Int32) → (wX6_holds_b169 a1 P s0 (0 : Int32) u))))
def wX6_holds_b149 (a1 : Int32) (P : Int32 → SQ → Prop)  (u : SQ) : Prop := (wX6_holds_b154 a1 P (1 : Int32) u)
def wX6_holds_b90 (a1 : Int32) (P : Int32 → SQ → Prop)  (u : SQ) : Prop := (wX6_holds_b154 a1 P (1 : Int32) u)
def wX6_holds_b22 (a1 : Int32) (P : Int32 → SQ → Prop) (s0 : Int32) (u : SQ) : Prop := (((a1 >>> ((1 : Int32) &&& 31)) = (0 : Int32) → (wX6_has (2048 : Int32) u (fun r32 u31 => (wX6_holds_b154 a1 P r32 u31)))) ∧ (¬ (a1 >>> ((1 : Int32) &&& 31)) = (0 : Int32) → (((a1 >>> ((1 : Int32) &&& 31)) = (1 : Int32) → (wX6_has (1 : Int32) u (fun r30 u29 => (wX6_holds_b154 a1 P r30 u29)))) ∧ (¬ (a1 >>> ((1 : Int32) &&& 31)) = (1 : Int32) → (((a1 >>> ((1 : Int32) &&& 31)) = (2 : Int32) → (wX6_has (64 : Int32) u (fun r28 u27 => (wX6_holds_b154 a1 P r28 u27)))) ∧ (¬ (a1 >>> ((1 : Int32) &&& 31)) = (2 : Int32) → (((a1 >>> ((1 : Int32) &&& 31)) = (3 : Int32) → (wX6_has (1 : Int32) u (fun r22 u21 => ((r22 = (0 : Int32) → (wX6_has (64 : Int32) u21 (fun r25 u24 => ((r25 = (0 : Int32) → (wX6_holds_b154 a1 P (0 : Int32) u24)) ∧ (¬ r25 = (0 : Int32) → (wX6_holds_b90 a1 P u24)))))) ∧ (¬ r22 = (0 : Int32) → (wX6_holds_b90 a1 P u21)))))) ∧ (¬ (a1 >>> ((1 : Int32) &&& 31)) = (3 : Int32) → (((a1 >>> ((1 : Int32) &&& 31)) = (4 : Int32) → (wX6_has (128 : Int32) u (fun r20 u19 => (wX6_holds_b154 a1 P r20 u19)))) ∧ (¬ (a1 >>> ((1 : Int32) &&& 31)) = (4 : Int32) → (((a1 >>> ((1 : Int32) &&& 31)) = (5 : Int32) → (wX6_has (4 : Int32) u (fun r18 u17 => (wX6_holds_b154 a1 P r18 u17)))) ∧ (¬ (a1 >>> ((1 : Int32) &&& 31)) = (5 : Int32) → (((a1 >>> ((1 : Int32) &&& 31)) = (6 : Int32) → (wX6_holds_b154 a1 P s0 u)) ∧ (¬ (a1 >>> ((1 : Int32) &&& 31)) = (6 : Int32) → ((s0 = (0 : Int32) → (wX6_has (64 : Int32) u (fun r15 u14 => ((r15 = (0 : Int32) → (wX6_holds_b154 a1 P (0 : Int32) u14)) ∧ (¬ r15 = (0 : Int32) → (wX6_holds_b149 a1 P u14)))))) ∧ (¬ s0 = (0 : Int32) → (wX6_holds_b149 a1 P u)))))))))))))))))
def wX6_holds (a1 : Int32) (u : SQ) (P : Int32 → SQ → Prop) : Prop := (wX6_has (128 : Int32) u (fun r2 u1 => (wX6_has (2048 : Int32) u1 (fun r4 u3 => ((r2 = r4 → (wX6_holds_b22 a1 P (0 : Int32) u3)) ∧ (¬ r2 = r4 → (wX6_holds_b22 a1 P (1 : Int32) u3)))))))
set_option maxHeartbeats 4000000 in
set_option maxRecDepth 100000 in
theorem kcX6_holds (l : Launch) (D : va_G) (cB cI : ClassId) (h0 h1 h2 h3 h4 h5 : Nat) (sz : Nat) (a1 : Int32) (u : SQ) (P : Int32 → SQ → Prop) (hw : wX6_holds a1 u P) : Met l yX6_holds wsX6_holds ({ frames := 1, cells := 0, slots := 0, locals := 21 } : Room) (va_Pc [.ref h0, .int a1] (Pcw D (tyA cB cI) (WQ cI h0 h1 h2 h3 h4 h5 u) sz Tru)) (va_Qi P (fun u t => va_P D vwCl (WQ cI h0 h1 h2 h3 h4 h5 u) t.heap) (va_A (WQ cI h0 h1 h2 h3 h4 h5 u) sz)) 0 0 (va_A (WQ cI h0 h1 h2 h3 h4 h5 u) sz) := by
  refine en_ (cc := cX6_holds) (maxL := 5) (ret := (some .boolean)) (own := RX6) (lv := [(0, .ref h0), (1, .int a1)]) (Qf := fun A => va_Qi P (fun u t => va_P D vwCl (WQ cI h0 h1 h2 h3 h4 h5 u) t.heap) A) (by decide) rfl rfl (Nat.le_of_ble_eq_true rfl) rfl ?_
  intro p e s m below meth c A ls S hr hlk hname hsz hP hK hD hA hSub hS hE hl
  have hx := S.1
  have hb := S.2.1
  have hown := S.2.2.2.1
  have hts := S.2.2.2.2
  have b169 : ∀ (s0 : Int32) (s1 : Int32) (u : SQ) (H : Heap) (locs : List Loc) (ls : Array Slot), va_P D vwCl (WQ cI h0 h1 h2 h3 h4 h5 u) H → va_D A (WQ cI h0 h1 h2 h3 h4 h5 u) → va_S A s.heap H locs → lv_has ls 5 [] → wX6_holds_b169 a1 P s0 s1 u → W p l e ({ frames := 1, cells := 0, slots := 0, locals := 21 } : Room) s m ([.ref h0, .int a1] : List Value).toArray below meth c H locs 0 0 (MQ below (va_Qi P (fun u t => va_P D vwCl (WQ cI h0 h1 h2 h3 h4 h5 u) t.heap) A) ([.ref h0, .int a1] : List Value).toArray s 0 0 A) (F0 m 169 ls [.int s1, .int s0]) := by
    intro s0 s1 u H locs ls hP hD hS hl hw
    unfold wX6_holds_b169 at hw
    refine lv_icmp_ne (tgt := 176) hx hb dX6_holds_169 (by decide) (fun c34 => ?_) (fun c34 => ?_)
    · replace hw := hw.2 c34
      refine lv_iconst (v := (0 : Int32)) hx hb dX6_holds_176 (by decide) ?_
      exact rt_z (wo := (fun v => WQ cI h0 h1 h2 h3 h4 h5 v)) S hr hlk u hP hS zB_0 hw dX6_holds_177
    · replace hw := hw.1 c34
      refine lv_iconst (v := (1 : Int32)) hx hb dX6_holds_172 (by decide) ?_
      refine lv_goto (tgt := 177) hx hb dX6_holds_173 (by decide) ?_
      exact rt_z (wo := (fun v => WQ cI h0 h1 h2 h3 h4 h5 v)) S hr hlk u hP hS zB_1 hw dX6_holds_177
  have b154 : ∀ (s0 : Int32) (u : SQ) (H : Heap) (locs : List Loc) (ls : Array Slot), va_P D vwCl (WQ cI h0 h1 h2 h3 h4 h5 u) H → va_D A (WQ cI h0 h1 h2 h3 h4 h5 u) → va_S A s.heap H locs → lv_has ls 5 [(1, .int a1)] → wX6_holds_b154 a1 P s0 u → W p l e ({ frames := 1, cells := 0, slots := 0, locals := 21 } : Room) s m ([.ref h0, .int a1] : List Value).toArray below meth c H locs 0 0 (MQ below (va_Qi P (fun u t => va_P D vwCl (WQ cI h0 h1 h2 h3 h4 h5 u) t.heap) A) ([.ref h0, .int a1] : List Value).toArray s 0 0 A) (F0 m 154 ls [.int s0]) := by
    intro s0 u H locs ls hP hD hS hl hw
    unfold wX6_holds_b154 at hw
    refine lv_istore (lv' := [(4, .int s0), (1, .int a1)]) hx hb dX6_holds_154 hl (by decide) rfl (fun ls hl => ?_)
    refine lv_iload hx hb dX6_holds_156 (lv_at hl 0 rfl) ?_
    refine lv_iload_n hx hb dX6_holds_158 rfl (lv_at hl 1 rfl) ?_
    refine lv_iconst (v := (2 : Int32)) hx hb dX6_holds_159 (by decide) ?_
    refine lv_irem hx hb dX6_holds_160 hw.1 ?_
    replace hw := hw.2
    refine lv_if_ne (tgt := 168) hx hb dX6_holds_161 (by decide) (fun c33 => ?_) (fun c33 => ?_)
    · replace hw := hw.2 c33
      refine lv_iconst (v := (0 : Int32)) hx hb dX6_holds_168 (by decide) ?_
      exact b169 s0 (0 : Int32) u H locs ls hP hD hS (lv_sub hl [] rfl) hw
    · replace hw := hw.1 c33
      refine lv_iconst (v := (1 : Int32)) hx hb dX6_holds_164 (by decide) ?_
      refine lv_goto (tgt := 169) hx hb dX6_holds_165 (by decide) ?_
      exact b169 s0 (1 : Int32) u H locs ls hP hD hS (lv_sub hl [] rfl) hw
  have b149 : ∀  (u : SQ) (H : Heap) (locs : List Loc) (ls : Array Slot), va_P D vwCl (WQ cI h0 h1 h2 h3 h4 h5 u) H → va_D A (WQ cI h0 h1 h2 h3 h4 h5 u) → va_S A s.heap H locs → lv_has ls 5 [(1, .int a1)] → wX6_holds_b149 a1 P u → W p l e ({ frames := 1, cells := 0, slots := 0, locals := 21 } : Room) s m ([.ref h0, .int a1] : List Value).toArray below meth c H locs 0 0 (MQ below (va_Qi P (fun u t => va_P D vwCl (WQ cI h0 h1 h2 h3 h4 h5 u) t.heap) A) ([.ref h0, .int a1] : List Value).toArray s 0 0 A) (F0 m 149 ls []) := by
    intro u H locs ls hP hD hS hl hw
    unfold wX6_holds_b149 at hw
    refine lv_iconst (v := (1 : Int32)) hx hb dX6_holds_149 (by decide) ?_
    refine lv_goto (tgt := 154) hx hb dX6_holds_150 (by decide) ?_
    exact b154 (1 : Int32) u H locs ls hP hD hS (lv_sub hl [0] rfl) hw
  have b90 : ∀  (u : SQ) (H : Heap) (locs : List Loc) (ls : Array Slot), va_P D vwCl (WQ cI h0 h1 h2 h3 h4 h5 u) H → va_D A (WQ cI h0 h1 h2 h3 h4 h5 u) → va_S A s.heap H locs → lv_has ls 5 [(1, .int a1)] → wX6_holds_b90 a1 P u → W p l e ({ frames := 1, cells := 0, slots := 0, locals := 21 } : Room) s m ([.ref h0, .int a1] : List Value).toArray below meth c H locs 0 0 (MQ below (va_Qi P (fun u t => va_P D vwCl (WQ cI h0 h1 h2 h3 h4 h5 u) t.heap) A) ([.ref h0, .int a1] : List Value).toArray s 0 0 A) (F0 m 90 ls []) := by
    intro u H locs ls hP hD hS hl hw
    unfold wX6_holds_b90 at hw
    refine lv_iconst (v := (1 : Int32)) hx hb dX6_holds_90 (by decide) ?_
    refine lv_goto (tgt := 154) hx hb dX6_holds_91 (by decide) ?_
    exact b154 (1 : Int32) u H locs ls hP hD hS (lv_sub hl [0] rfl) hw
  have b22 : ∀ (s0 : Int32) (u : SQ) (H : Heap) (locs : List Loc) (ls : Array Slot), va_P D vwCl (WQ cI h0 h1 h2 h3 h4 h5 u) H → va_D A (WQ cI h0 h1 h2 h3 h4 h5 u) → va_S A s.heap H locs → lv_has ls 5 [(0, .ref h0), (1, .int a1)] → wX6_holds_b22 a1 P s0 u → W p l e ({ frames := 1, cells := 0, slots := 0, locals := 21 } : Room) s m ([.ref h0, .int a1] : List Value).toArray below meth c H locs 0 0 (MQ below (va_Qi P (fun u t => va_P D vwCl (WQ cI h0 h1 h2 h3 h4 h5 u) t.heap) A) ([.ref h0, .int a1] : List Value).toArray s 0 0 A) (F0 m 22 ls [.int s0]) := by
    intro s0 u H locs ls hP hD hS hl hw
    unfold wX6_holds_b22 at hw
    refine lv_istore_n (lv' := [(2, .int s0), (0, .ref h0), (1, .int a1)]) hx hb dX6_holds_22 rfl hl (by decide) rfl (fun ls hl => ?_)
    refine lv_iload_n hx hb dX6_holds_23 rfl (lv_at hl 2 rfl) ?_
    refine lv_iconst (v := (1 : Int32)) hx hb dX6_holds_24 (by decide) ?_
    refine lv_ishr hx hb dX6_holds_25 ?_
    refine lv_istore_n (lv' := [(3, .int (a1 >>> ((1 : Int32) &&& 31))), (2, .int s0), (0, .ref h0), (1, .int a1)]) hx hb dX6_holds_26 rfl hl (by decide) rfl (fun ls hl => ?_)
    refine lv_iload_n hx hb dX6_holds_27 rfl (lv_at hl 0 rfl) ?_
    refine lv_if_ne (tgt := 41) hx hb dX6_holds_28 (by decide) (fun c6 => ?_) (fun c6 => ?_)
    · replace hw := hw.2 c6
      refine lv_iload_n hx hb dX6_holds_41 rfl (lv_at hl 0 rfl) ?_
      refine lv_iconst (v := (1 : Int32)) hx hb dX6_holds_42 (by decide) ?_
      refine lv_icmp_ne (tgt := 54) hx hb dX6_holds_43 (by decide) (fun c7 => ?_) (fun c7 => ?_)
      · replace hw := hw.2 c7
        refine lv_iload_n hx hb dX6_holds_54 rfl (lv_at hl 0 rfl) ?_
        refine lv_iconst (v := (2 : Int32)) hx hb dX6_holds_55 (by decide) ?_
        refine lv_icmp_ne (tgt := 68) hx hb dX6_holds_56 (by decide) (fun c8 => ?_) (fun c8 => ?_)
        · replace hw := hw.2 c8
          refine lv_iload_n hx hb dX6_holds_68 rfl (lv_at hl 0 rfl) ?_
          refine lv_iconst (v := (3 : Int32)) hx hb dX6_holds_69 (by decide) ?_
          refine lv_icmp_ne (tgt := 98) hx hb dX6_holds_70 (by decide) (fun c9 => ?_) (fun c9 => ?_)
          · replace hw := hw.2 c9
            refine lv_iload_n hx hb dX6_holds_98 rfl (lv_at hl 0 rfl) ?_
            refine lv_iconst (v := (4 : Int32)) hx hb dX6_holds_99 (by decide) ?_
            refine lv_icmp_ne (tgt := 113) hx hb dX6_holds_100 (by decide) (fun c10 => ?_) (fun c10 => ?_)
            · replace hw := hw.2 c10
              refine lv_iload_n hx hb dX6_holds_113 rfl (lv_at hl 0 rfl) ?_
              refine lv_iconst (v := (5 : Int32)) hx hb dX6_holds_114 (by decide) ?_
              refine lv_icmp_ne (tgt := 126) hx hb dX6_holds_115 (by decide) (fun c11 => ?_) (fun c11 => ?_)
              · replace hw := hw.2 c11
                refine lv_iload_n hx hb dX6_holds_126 rfl (lv_at hl 0 rfl) ?_
                refine lv_bipush (v := (6 : Int32)) hx hb dX6_holds_127 (by decide) ?_
                refine lv_icmp_ne (tgt := 136) hx hb dX6_holds_129 (by decide) (fun c12 => ?_) (fun c12 => ?_)
                · replace hw := hw.2 c12
                  refine lv_iload_n hx hb dX6_holds_136 rfl (lv_at hl 1 rfl) ?_
                  refine lv_if_ne (tgt := 149) hx hb dX6_holds_137 (by decide) (fun c13 => ?_) (fun c13 => ?_)
                  · replace hw := hw.2 c13
                    exact b149 u H locs ls hP hD hS (lv_sub hl [3] rfl) hw
                  · replace hw := hw.1 c13
                    refine lv_aload_n hx hb dX6_holds_140 rfl (lv_at hl 2 rfl) ?_
                    refine lv_bipush (v := (64 : Int32)) hx hb dX6_holds_141 (by decide) ?_
                    refine cl_Vi (As := [.int (64 : Int32)]) (rest := []) (st := [.int (64 : Int32), .ref h0]) S hK hA hP hD hS (fr_Q u) (kcX6_has l D cB cI h0 h1 h2 h3 h4 h5 H.size (64 : Int32) u _ hw) (cwV 1 hts gX6_holds_X6_has rfl rfl rfl (by decide +kernel) ⟨Nat.le_of_ble_eq_true rfl, Nat.le_of_ble_eq_true rfl⟩) tru_h tru_b 0 rfl rfl rfl rfl rfl hl.1 (Nat.le_of_ble_eq_true rfl) dX6_holds_143 ⟨Nat.zero_le _, Nat.zero_le _⟩ (fun r15 u14 H locs hP hD hS hw => ?_)
                    replace hP : va_P D vwCl (WQ cI h0 h1 h2 h3 h4 h5 u14) H := hP
                    replace hD : va_D A (WQ cI h0 h1 h2 h3 h4 h5 u14) := hD
                    refine lv_if_eq (tgt := 153) hx hb dX6_holds_146 (by decide) (fun c16 => ?_) (fun c16 => ?_)
                    · replace hw := hw.1 c16
                      refine lv_iconst (v := (0 : Int32)) hx hb dX6_holds_153 (by decide) ?_
                      exact b154 (0 : Int32) u14 H locs ls hP hD hS (lv_sub hl [3] rfl) hw
                    · replace hw := hw.2 c16
                      exact b149 u14 H locs ls hP hD hS (lv_sub hl [3] rfl) hw
                · replace hw := hw.1 c12
                  refine lv_iload_n hx hb dX6_holds_132 rfl (lv_at hl 1 rfl) ?_
                  refine lv_goto (tgt := 154) hx hb dX6_holds_133 (by decide) ?_
                  exact b154 s0 u H locs ls hP hD hS (lv_sub hl [3] rfl) hw
              · replace hw := hw.1 c11
                refine lv_aload_n hx hb dX6_holds_118 rfl (lv_at hl 2 rfl) ?_
                refine lv_iconst (v := (4 : Int32)) hx hb dX6_holds_119 (by decide) ?_
                refine cl_Vi (As := [.int (4 : Int32)]) (rest := []) (st := [.int (4 : Int32), .ref h0]) S hK hA hP hD hS (fr_Q u) (kcX6_has l D cB cI h0 h1 h2 h3 h4 h5 H.size (4 : Int32) u _ hw) (cwV 1 hts gX6_holds_X6_has rfl rfl rfl (by decide +kernel) ⟨Nat.le_of_ble_eq_true rfl, Nat.le_of_ble_eq_true rfl⟩) tru_h tru_b 0 rfl rfl rfl rfl rfl hl.1 (Nat.le_of_ble_eq_true rfl) dX6_holds_120 ⟨Nat.zero_le _, Nat.zero_le _⟩ (fun r18 u17 H locs hP hD hS hw => ?_)
                replace hP : va_P D vwCl (WQ cI h0 h1 h2 h3 h4 h5 u17) H := hP
                replace hD : va_D A (WQ cI h0 h1 h2 h3 h4 h5 u17) := hD
                refine lv_goto (tgt := 154) hx hb dX6_holds_123 (by decide) ?_
                exact b154 r18 u17 H locs ls hP hD hS (lv_sub hl [3] rfl) hw
            · replace hw := hw.1 c10
              refine lv_aload_n hx hb dX6_holds_103 rfl (lv_at hl 2 rfl) ?_
              refine lv_sipush (v := (128 : Int32)) hx hb dX6_holds_104 (by decide) ?_
              refine cl_Vi (As := [.int (128 : Int32)]) (rest := []) (st := [.int (128 : Int32), .ref h0]) S hK hA hP hD hS (fr_Q u) (kcX6_has l D cB cI h0 h1 h2 h3 h4 h5 H.size (128 : Int32) u _ hw) (cwV 1 hts gX6_holds_X6_has rfl rfl rfl (by decide +kernel) ⟨Nat.le_of_ble_eq_true rfl, Nat.le_of_ble_eq_true rfl⟩) tru_h tru_b 0 rfl rfl rfl rfl rfl hl.1 (Nat.le_of_ble_eq_true rfl) dX6_holds_107 ⟨Nat.zero_le _, Nat.zero_le _⟩ (fun r20 u19 H locs hP hD hS hw => ?_)
              replace hP : va_P D vwCl (WQ cI h0 h1 h2 h3 h4 h5 u19) H := hP
              replace hD : va_D A (WQ cI h0 h1 h2 h3 h4 h5 u19) := hD
              refine lv_goto (tgt := 154) hx hb dX6_holds_110 (by decide) ?_
              exact b154 r20 u19 H locs ls hP hD hS (lv_sub hl [3] rfl) hw
          · replace hw := hw.1 c9
            refine lv_aload_n hx hb dX6_holds_73 rfl (lv_at hl 2 rfl) ?_
            refine lv_iconst (v := (1 : Int32)) hx hb dX6_holds_74 (by decide) ?_
            refine cl_Vi (As := [.int (1 : Int32)]) (rest := []) (st := [.int (1 : Int32), .ref h0]) S hK hA hP hD hS (fr_Q u) (kcX6_has l D cB cI h0 h1 h2 h3 h4 h5 H.size (1 : Int32) u _ hw) (cwV 1 hts gX6_holds_X6_has rfl rfl rfl (by decide +kernel) ⟨Nat.le_of_ble_eq_true rfl, Nat.le_of_ble_eq_true rfl⟩) tru_h tru_b 0 rfl rfl rfl rfl rfl hl.1 (Nat.le_of_ble_eq_true rfl) dX6_holds_75 ⟨Nat.zero_le _, Nat.zero_le _⟩ (fun r22 u21 H locs hP hD hS hw => ?_)
            replace hP : va_P D vwCl (WQ cI h0 h1 h2 h3 h4 h5 u21) H := hP
            replace hD : va_D A (WQ cI h0 h1 h2 h3 h4 h5 u21) := hD
            refine lv_if_ne (tgt := 90) hx hb dX6_holds_78 (by decide) (fun c23 => ?_) (fun c23 => ?_)
            · replace hw := hw.2 c23
              exact b90 u21 H locs ls hP hD hS (lv_sub hl [3] rfl) hw
            · replace hw := hw.1 c23
              refine lv_aload_n hx hb dX6_holds_81 rfl (lv_at hl 2 rfl) ?_
              refine lv_bipush (v := (64 : Int32)) hx hb dX6_holds_82 (by decide) ?_
              refine cl_Vi (As := [.int (64 : Int32)]) (rest := []) (st := [.int (64 : Int32), .ref h0]) S hK hA hP hD hS (fr_Q u21) (kcX6_has l D cB cI h0 h1 h2 h3 h4 h5 H.size (64 : Int32) u21 _ hw) (cwV 1 hts gX6_holds_X6_has rfl rfl rfl (by decide +kernel) ⟨Nat.le_of_ble_eq_true rfl, Nat.le_of_ble_eq_true rfl⟩) tru_h tru_b 0 rfl rfl rfl rfl rfl hl.1 (Nat.le_of_ble_eq_true rfl) dX6_holds_84 ⟨Nat.zero_le _, Nat.zero_le _⟩ (fun r25 u24 H locs hP hD hS hw => ?_)
              replace hP : va_P D vwCl (WQ cI h0 h1 h2 h3 h4 h5 u24) H := hP
              replace hD : va_D A (WQ cI h0 h1 h2 h3 h4 h5 u24) := hD
              refine lv_if_eq (tgt := 94) hx hb dX6_holds_87 (by decide) (fun c26 => ?_) (fun c26 => ?_)
              · replace hw := hw.1 c26
                refine lv_iconst (v := (0 : Int32)) hx hb dX6_holds_94 (by decide) ?_
                refine lv_goto (tgt := 154) hx hb dX6_holds_95 (by decide) ?_
                exact b154 (0 : Int32) u24 H locs ls hP hD hS (lv_sub hl [3] rfl) hw
              · replace hw := hw.2 c26
                exact b90 u24 H locs ls hP hD hS (lv_sub hl [3] rfl) hw
        · replace hw := hw.1 c8
          refine lv_aload_n hx hb dX6_holds_59 rfl (lv_at hl 2 rfl) ?_
          refine lv_bipush (v := (64 : Int32)) hx hb dX6_holds_60 (by decide) ?_
          refine cl_Vi (As := [.int (64 : Int32)]) (rest := []) (st := [.int (64 : Int32), .ref h0]) S hK hA hP hD hS (fr_Q u) (kcX6_has l D cB cI h0 h1 h2 h3 h4 h5 H.size (64 : Int32) u _ hw) (cwV 1 hts gX6_holds_X6_has rfl rfl rfl (by decide +kernel) ⟨Nat.le_of_ble_eq_true rfl, Nat.le_of_ble_eq_true rfl⟩) tru_h tru_b 0 rfl rfl rfl rfl rfl hl.1 (Nat.le_of_ble_eq_true rfl) dX6_holds_62 ⟨Nat.zero_le _, Nat.zero_le _⟩ (fun r28 u27 H locs hP hD hS hw => ?_)
          replace hP : va_P D vwCl (WQ cI h0 h1 h2 h3 h4 h5 u27) H := hP
          replace hD : va_D A (WQ cI h0 h1 h2 h3 h4 h5 u27) := hD
          refine lv_goto (tgt := 154) hx hb dX6_holds_65 (by decide) ?_
          exact b154 r28 u27 H locs ls hP hD hS (lv_sub hl [3] rfl) hw
      · replace hw := hw.1 c7
        refine lv_aload_n hx hb dX6_holds_46 rfl (lv_at hl 2 rfl) ?_
        refine lv_iconst (v := (1 : Int32)) hx hb dX6_holds_47 (by decide) ?_
        refine cl_Vi (As := [.int (1 : Int32)]) (rest := []) (st := [.int (1 : Int32), .ref h0]) S hK hA hP hD hS (fr_Q u) (kcX6_has l D cB cI h0 h1 h2 h3 h4 h5 H.size (1 : Int32) u _ hw) (cwV 1 hts gX6_holds_X6_has rfl rfl rfl (by decide +kernel) ⟨Nat.le_of_ble_eq_true rfl, Nat.le_of_ble_eq_true rfl⟩) tru_h tru_b 0 rfl rfl rfl rfl rfl hl.1 (Nat.le_of_ble_eq_true rfl) dX6_holds_48 ⟨Nat.zero_le _, Nat.zero_le _⟩ (fun r30 u29 H locs hP hD hS hw => ?_)
        replace hP : va_P D vwCl (WQ cI h0 h1 h2 h3 h4 h5 u29) H := hP
        replace hD : va_D A (WQ cI h0 h1 h2 h3 h4 h5 u29) := hD
        refine lv_goto (tgt := 154) hx hb dX6_holds_51 (by decide) ?_
        exact b154 r30 u29 H locs ls hP hD hS (lv_sub hl [3] rfl) hw
    · replace hw := hw.1 c6
      refine lv_aload_n hx hb dX6_holds_31 rfl (lv_at hl 2 rfl) ?_
      refine lv_sipush (v := (2048 : Int32)) hx hb dX6_holds_32 (by decide) ?_
      refine cl_Vi (As := [.int (2048 : Int32)]) (rest := []) (st := [.int (2048 : Int32), .ref h0]) S hK hA hP hD hS (fr_Q u) (kcX6_has l D cB cI h0 h1 h2 h3 h4 h5 H.size (2048 : Int32) u _ hw) (cwV 1 hts gX6_holds_X6_has rfl rfl rfl (by decide +kernel) ⟨Nat.le_of_ble_eq_true rfl, Nat.le_of_ble_eq_true rfl⟩) tru_h tru_b 0 rfl rfl rfl rfl rfl hl.1 (Nat.le_of_ble_eq_true rfl) dX6_holds_35 ⟨Nat.zero_le _, Nat.zero_le _⟩ (fun r32 u31 H locs hP hD hS hw => ?_)
      replace hP : va_P D vwCl (WQ cI h0 h1 h2 h3 h4 h5 u31) H := hP
      replace hD : va_D A (WQ cI h0 h1 h2 h3 h4 h5 u31) := hD
      refine lv_goto (tgt := 154) hx hb dX6_holds_38 (by decide) ?_
      exact b154 r32 u31 H locs ls hP hD hS (lv_sub hl [3] rfl) hw
  unfold wX6_holds at hw
  obtain ⟨H, eH⟩ : ∃ H, H = s.heap := ⟨_, rfl⟩
  obtain ⟨locs, eL⟩ : ∃ locs : List Loc, locs = [] := ⟨_, rfl⟩
  replace hP : va_P D vwCl (WQ cI h0 h1 h2 h3 h4 h5 u) H := by rw [eH]; exact hP
  replace hS : va_S A s.heap H locs := by rw [eH, eL]; exact hS
  suffices hgo : W p l e ({ frames := 1, cells := 0, slots := 0, locals := 21 } : Room) s m ([.ref h0, .int a1] : List Value).toArray below meth c H locs 0 0 (MQ below (va_Qi P (fun u t => va_P D vwCl (WQ cI h0 h1 h2 h3 h4 h5 u) t.heap) A) ([.ref h0, .int a1] : List Value).toArray s 0 0 A) (F0 m 0 ls []) by rw [eH, eL] at hgo; exact hgo
  clear eH eL
  refine lv_aload_n hx hb dX6_holds_0 rfl (lv_at hl 0 rfl) ?_
  refine lv_sipush (v := (128 : Int32)) hx hb dX6_holds_1 (by decide) ?_
  refine cl_Vi (As := [.int (128 : Int32)]) (rest := []) (st := [.int (128 : Int32), .ref h0]) S hK hA hP hD hS (fr_Q u) (kcX6_has l D cB cI h0 h1 h2 h3 h4 h5 H.size (128 : Int32) u _ hw) (cwV 1 hts gX6_holds_X6_has rfl rfl rfl (by decide +kernel) ⟨Nat.le_of_ble_eq_true rfl, Nat.le_of_ble_eq_true rfl⟩) tru_h tru_b 0 rfl rfl rfl rfl rfl hl.1 (Nat.le_of_ble_eq_true rfl) dX6_holds_4 ⟨Nat.zero_le _, Nat.zero_le _⟩ (fun r2 u1 H locs hP hD hS hw => ?_)
  replace hP : va_P D vwCl (WQ cI h0 h1 h2 h3 h4 h5 u1) H := hP
  replace hD : va_D A (WQ cI h0 h1 h2 h3 h4 h5 u1) := hD
  refine lv_aload_n hx hb dX6_holds_7 rfl (lv_at hl 0 rfl) ?_
  refine lv_sipush (v := (2048 : Int32)) hx hb dX6_holds_8 (by decide) ?_
  refine cl_Vi (As := [.int (2048 : Int32)]) (rest := [.int r2]) (st := [.int (2048 : Int32), .ref h0, .int r2]) S hK hA hP hD hS (fr_Q u1) (kcX6_has l D cB cI h0 h1 h2 h3 h4 h5 H.size (2048 : Int32) u1 _ hw) (cwV 1 hts gX6_holds_X6_has rfl rfl rfl (by decide +kernel) ⟨Nat.le_of_ble_eq_true rfl, Nat.le_of_ble_eq_true rfl⟩) tru_h tru_b 0 rfl rfl rfl rfl rfl hl.1 (Nat.le_of_ble_eq_true rfl) dX6_holds_11 ⟨Nat.zero_le _, Nat.zero_le _⟩ (fun r4 u3 H locs hP hD hS hw => ?_)
  replace hP : va_P D vwCl (WQ cI h0 h1 h2 h3 h4 h5 u3) H := hP
  replace hD : va_D A (WQ cI h0 h1 h2 h3 h4 h5 u3) := hD
  refine lv_icmp_eq (tgt := 21) hx hb dX6_holds_14 (by decide) (fun c5 => ?_) (fun c5 => ?_)
  · replace hw := hw.1 c5
    refine lv_iconst (v := (0 : Int32)) hx hb dX6_holds_21 (by decide) ?_
    exact b22 (0 : Int32) u3 H locs ls hP hD hS (lv_sub hl [0, 1] rfl) hw
  · replace hw := hw.2 c5
    refine lv_iconst (v := (1 : Int32)) hx hb dX6_holds_17 (by decide) ?_
    refine lv_goto (tgt := 22) hx hb dX6_holds_18 (by decide) ?_
    exact b22 (1 : Int32) u3 H locs ls hP hD hS (lv_sub hl [0, 1] rfl) hw
