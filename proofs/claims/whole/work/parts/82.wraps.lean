set_option maxHeartbeats 4000000 in
set_option maxRecDepth 100000 in
theorem kcL_set (l : Launch) (hl9 : l.stackTraces = false) (D : va_G) (cB cI : ClassId) (sa : Nat) (q0 q1 q2 q3 q4 q5 q6 q7 q8 q9 q10 : Nat) (sz : Nat) (a1 : Int32) (a2 : Int32) (u : SX) (P : Int32 → SX → Prop) (hw : wX5_set a1 a2 u (P 0) (P 1)) : vx_Met l yL_set wsL_set ({ frames := 7, cells := 1, slots := 6, locals := 104 } : Room) (va_Pc [.ref q10, .int a1, .int a2] (Pcw D (tyA cB cI) (WX cB cI q0 q1 q2 q3 q4 q5 q6 q7 q8 q9 q10 u) sz (Tx "java/lang/IndexOutOfBoundsException" 24 "no such register" 22 sa (WX cB cI q0 q1 q2 q3 q4 q5 q6 q7 q8 q9 q10 u) sz))) (va_Qi P (fun u t => va_P D vwCl (WX cB cI q0 q1 q2 q3 q4 q5 q6 q7 q8 q9 q10 u) t.heap) (va_A (WX cB cI q0 q1 q2 q3 q4 q5 q6 q7 q8 q9 q10 u) sz)) xNo 1 6 (va_A (WX cB cI q0 q1 q2 q3 q4 q5 q6 q7 q8 q9 q10 u) sz) := by
  refine enw_ (cc := cL_set) (maxL := 4) (ret := (some .int)) (hh := [(0, 6, 9, 13)]) (own := RL) (lv := [(0, .ref q10), (1, .int a1), (2, .int a2)]) (Qf := fun A => va_Qi P (fun u t => va_P D vwCl (WX cB cI q0 q1 q2 q3 q4 q5 q6 q7 q8 q9 q10 u) t.heap) A) (by decide) rfl rfl (Nat.le_of_ble_eq_true rfl) rfl ?_
  intro p e s m below meth c A ls S ht hr hlk hname hsz hP hK hD hA hSub hS hE hl
  have hx := S.1
  have hb := S.2.1
  have hown := S.2.2.2.1
  have hts := S.2.2.2.2
  have hE := tx_own hsz hSub hE
  obtain ⟨H, eH⟩ : ∃ H, H = s.heap := ⟨_, rfl⟩
  obtain ⟨locs, eL⟩ : ∃ locs : List Loc, locs = [] := ⟨_, rfl⟩
  replace hP : va_P D vwCl (WX cB cI q0 q1 q2 q3 q4 q5 q6 q7 q8 q9 q10 u) H := by rw [eH]; exact hP
  replace hS : va_S A s.heap H locs := by rw [eH, eL]; exact hS
  suffices hgo : W p l e ({ frames := 7, cells := 1, slots := 6, locals := 104 } : Room) s m ([.ref q10, .int a1, .int a2] : List Value).toArray below meth c H locs 0 0 (vx_MQ below (va_Qi P (fun u t => va_P D vwCl (WX cB cI q0 q1 q2 q3 q4 q5 q6 q7 q8 q9 q10 u) t.heap) A) xNo ([.ref q10, .int a1, .int a2] : List Value).toArray s 1 6 A) (F0 m 0 ls []) by rw [eH, eL] at hgo; exact hgo
  clear eH eL
  refine lv_aload_n hx hb dL_set_0 rfl (lv_at hl 0 rfl) ?_
  refine lv_iload_n hx hb dL_set_1 rfl (lv_at hl 1 rfl) ?_
  refine lv_iload_n hx hb dL_set_2 rfl (lv_at hl 2 rfl) ?_
  refine clx_Vv (As := [.int a1, .int a2]) (rest := []) (st := [.int a2, .int a1, .ref q10]) (tys' := tyA cB cI) S hK (hK.sub [0, 1] rfl) hA hP hD hS (fr_X u) (kcX5_set l hl9 D cB cI sa q0 q1 q2 q3 q4 q5 q6 q7 q8 q9 q10 H.size a1 a2 u _ _ hw) (cwV 2 hts gL_set_X5_set rfl rfl rfl (by decide +kernel) ⟨Nat.le_of_ble_eq_true rfl, Nat.le_of_ble_eq_true rfl⟩) (ex_call hE hA hD hS (fr_X u)) tx_b 0 rfl rfl rfl rfl rfl hl.1 (Nat.le_of_ble_eq_true rfl) dL_set_3 ⟨Nat.le_of_ble_eq_true rfl, Nat.le_of_ble_eq_true rfl⟩ (fun v qe ce H locs hP hD hS hw h1 h2 h3 => ?_) (fun v H locs hP hD hS hw => ?_)
  · refine vx_catch (own := RL) (name := "java/lang/IndexOutOfBoundsException") hown [] ⟨0, 6, 9, 13⟩ [] ht (fun z hz => nomatch hz) (by decide) (by decide) (hts (.classLink RL 13 "java/lang/IndexOutOfBoundsException") (by decide +kernel)) (bad_use (hE.2.2.2 _ bc_24).1 (hE.2.2.2 _ bc_24).2) h1 h2 h3 ?_
    refine lv_astore_n (lv' := [(3, .ref qe), (0, .ref q10), (1, .int a1), (2, .int a2)]) hx hb dL_set_9 rfl hl (by decide) rfl (fun ls hl => ?_)
    refine lv_iconst (v := 1) hx hb dL_set_10 (by decide) ?_
    exact vx_ret (rt_i (wo := fun v => WX cB cI q0 q1 q2 q3 q4 q5 q6 q7 q8 q9 q10 v) S hr hlk v hP hS hw dL_set_11)
  · refine lv_goto (tgt := 12) hx hb dL_set_6 (by decide) ?_
    refine lv_iconst (v := 0) hx hb dL_set_12 (by decide) ?_
    exact vx_ret (rt_i (wo := fun v => WX cB cI q0 q1 q2 q3 q4 q5 q6 q7 q8 q9 q10 v) S hr hlk v hP hS hw dL_set_13)
set_option maxHeartbeats 4000000 in
set_option maxRecDepth 100000 in
theorem kcL_get (l : Launch) (hl9 : l.stackTraces = false) (D : va_G) (cB cI cJ : ClassId) (sa : Nat) (q0 q1 q2 q3 q4 q5 q6 q7 q8 q9 q10 ho : Nat) (sz : Nat) (a1 : Int32) (u : SX × AJ) (P : Int32 → SX × AJ → Prop) (hw : wX5_get a1 u.1 (fun r v => P 0 (v, vp_updL u.2 0 r.toInt64)) (fun v => P 1 (v, u.2))) : vx_Met l yL_get wsL_get ({ frames := 7, cells := 1, slots := 6, locals := 103 } : Room) (va_Pc [.ref q10, .int a1, .ref ho] (Pcw D (tyJ cB cI cJ) (WY cB cI cJ q0 q1 q2 q3 q4 q5 q6 q7 q8 q9 q10 ho u) sz (Tx "java/lang/IndexOutOfBoundsException" 24 "no such register" 22 sa (WY cB cI cJ q0 q1 q2 q3 q4 q5 q6 q7 q8 q9 q10 ho u) sz))) (va_Qi P (fun u t => va_P D vwCl (WY cB cI cJ q0 q1 q2 q3 q4 q5 q6 q7 q8 q9 q10 ho u) t.heap) (va_A (WY cB cI cJ q0 q1 q2 q3 q4 q5 q6 q7 q8 q9 q10 ho u) sz)) xNo 1 6 (va_A (WY cB cI cJ q0 q1 q2 q3 q4 q5 q6 q7 q8 q9 q10 ho u) sz) := by
  refine enw_ (cc := cL_get) (maxL := 4) (ret := (some .int)) (hh := [(0, 9, 12, 13)]) (own := RL) (lv := [(0, .ref q10), (1, .int a1), (2, .ref ho)]) (Qf := fun A => va_Qi P (fun u t => va_P D vwCl (WY cB cI cJ q0 q1 q2 q3 q4 q5 q6 q7 q8 q9 q10 ho u) t.heap) A) (by decide) rfl rfl (Nat.le_of_ble_eq_true rfl) rfl ?_
  intro p e s m below meth c A ls S ht hr hlk hname hsz hP hK hD hA hSub hS hE hl
  have hx := S.1
  have hb := S.2.1
  have hown := S.2.2.2.1
  have hts := S.2.2.2.2
  have hE := tx_own hsz hSub hE
  obtain ⟨H, eH⟩ : ∃ H, H = s.heap := ⟨_, rfl⟩
  obtain ⟨locs, eL⟩ : ∃ locs : List Loc, locs = [] := ⟨_, rfl⟩
  replace hP : va_P D vwCl (WY cB cI cJ q0 q1 q2 q3 q4 q5 q6 q7 q8 q9 q10 ho u) H := by rw [eH]; exact hP
  replace hS : va_S A s.heap H locs := by rw [eH, eL]; exact hS
  suffices hgo : W p l e ({ frames := 7, cells := 1, slots := 6, locals := 103 } : Room) s m ([.ref q10, .int a1, .ref ho] : List Value).toArray below meth c H locs 0 0 (vx_MQ below (va_Qi P (fun u t => va_P D vwCl (WY cB cI cJ q0 q1 q2 q3 q4 q5 q6 q7 q8 q9 q10 ho u) t.heap) A) xNo ([.ref q10, .int a1, .ref ho] : List Value).toArray s 1 6 A) (F0 m 0 ls []) by rw [eH, eL] at hgo; exact hgo
  clear eH eL
  refine lv_aload_n hx hb dL_get_0 rfl (lv_at hl 2 rfl) ?_
  refine lv_iconst (v := 0) hx hb dL_get_1 (by decide) ?_
  refine lv_aload_n hx hb dL_get_2 rfl (lv_at hl 0 rfl) ?_
  refine lv_iload_n hx hb dL_get_3 rfl (lv_at hl 1 rfl) ?_
  refine clx_Vi (As := [.int a1]) (rest := [.int 0, .ref ho]) (st := [.int a1, .ref q10, .int 0, .ref ho]) (tys' := tyA cB cI) S hK (hK.sub [0, 1] rfl) hA hP hD hS (fr_Y_X u) (kcX5_get l hl9 D cB cI sa q0 q1 q2 q3 q4 q5 q6 q7 q8 q9 q10 H.size a1 u.1 _ _ hw) (cwV 1 hts gL_get_X5_get rfl rfl rfl (by decide +kernel) ⟨Nat.le_of_ble_eq_true rfl, Nat.le_of_ble_eq_true rfl⟩) (ex_call hE hA hD hS (fr_Y_X u)) tx_b 0 rfl rfl rfl rfl rfl hl.1 (Nat.le_of_ble_eq_true rfl) dL_get_4 ⟨Nat.le_of_ble_eq_true rfl, Nat.le_of_ble_eq_true rfl⟩ (fun v qe ce H locs hP hD hS hw h1 h2 h3 => ?_) (fun r v H locs hP hD hS hw => ?_)
  · refine vx_catch (own := RL) (name := "java/lang/IndexOutOfBoundsException") hown [] ⟨0, 9, 12, 13⟩ [] ht (fun z hz => nomatch hz) (by decide) (by decide) (hts (.classLink RL 13 "java/lang/IndexOutOfBoundsException") (by decide +kernel)) (bad_use (hE.2.2.2 _ bc_24).1 (hE.2.2.2 _ bc_24).2) h1 h2 h3 ?_
    refine lv_astore_n (lv' := [(3, .ref qe), (0, .ref q10), (1, .int a1), (2, .ref ho)]) hx hb dL_get_12 rfl hl (by decide) rfl (fun ls hl => ?_)
    refine lv_iconst (v := 1) hx hb dL_get_13 (by decide) ?_
    exact vx_ret (rt_i (wo := fun v => WY cB cI cJ q0 q1 q2 q3 q4 q5 q6 q7 q8 q9 q10 ho v) S hr hlk (v, u.2) hP hS hw dL_get_14)
  · refine lv_i2l (v := r.toInt64) hx hb dL_get_7 rfl ?_
    replace hP : va_P D vwCl (WY cB cI cJ q0 q1 q2 q3 q4 q5 q6 q7 q8 q9 q10 ho (v, u.2)) H := hP
    replace hD : va_D A (WY cB cI cJ q0 q1 q2 q3 q4 q5 q6 q7 q8 q9 q10 ho (v, u.2)) := hD
    refine va_last hx hb hK hP hD hS 11 2 (f := u.2) rfl rfl (i := 0) (by unfold vp_in; decide) dL_get_8 (fun H locs hP hD hS => ?_)
    refine lv_goto (tgt := 15) hx hb dL_get_9 (by decide) ?_
    refine lv_iconst (v := 0) hx hb dL_get_15 (by decide) ?_
    exact vx_ret (rt_i (wo := fun v => WY cB cI cJ q0 q1 q2 q3 q4 q5 q6 q7 q8 q9 q10 ho v) S hr hlk (v, vp_updL u.2 0 r.toInt64) hP hS hw dL_get_16)
set_option maxHeartbeats 4000000 in
set_option maxRecDepth 100000 in
theorem kcL_write (l : Launch) (hl9 : l.stackTraces = false) (D : va_G) (cB cI : ClassId) (sa : Nat) (q0 q1 q2 q3 q4 q5 q6 q7 q8 q9 q10 : Nat) (sz : Nat) (a1 : Int32) (a2 : Int32) (u : SX) (P : Int32 → SX → Prop) (hw : wX5_write a1 a2 u (P 0) (P 1)) : vx_Met l yL_write wsL_write ({ frames := 7, cells := 1, slots := 6, locals := 105 } : Room) (va_Pc [.ref q10, .int a1, .int a2] (Pcw D (tyA cB cI) (WX cB cI q0 q1 q2 q3 q4 q5 q6 q7 q8 q9 q10 u) sz (Tx "java/lang/IndexOutOfBoundsException" 24 "no room for four bytes there" 67 sa (WX cB cI q0 q1 q2 q3 q4 q5 q6 q7 q8 q9 q10 u) sz))) (va_Qi P (fun u t => va_P D vwCl (WX cB cI q0 q1 q2 q3 q4 q5 q6 q7 q8 q9 q10 u) t.heap) (va_A (WX cB cI q0 q1 q2 q3 q4 q5 q6 q7 q8 q9 q10 u) sz)) xNo 1 6 (va_A (WX cB cI q0 q1 q2 q3 q4 q5 q6 q7 q8 q9 q10 u) sz) := by
  refine enw_ (cc := cL_write) (maxL := 4) (ret := (some .int)) (hh := [(0, 6, 9, 13)]) (own := RL) (lv := [(0, .ref q10), (1, .int a1), (2, .int a2)]) (Qf := fun A => va_Qi P (fun u t => va_P D vwCl (WX cB cI q0 q1 q2 q3 q4 q5 q6 q7 q8 q9 q10 u) t.heap) A) (by decide) rfl rfl (Nat.le_of_ble_eq_true rfl) rfl ?_
  intro p e s m below meth c A ls S ht hr hlk hname hsz hP hK hD hA hSub hS hE hl
  have hx := S.1
  have hb := S.2.1
  have hown := S.2.2.2.1
  have hts := S.2.2.2.2
  have hE := tx_own hsz hSub hE
  obtain ⟨H, eH⟩ : ∃ H, H = s.heap := ⟨_, rfl⟩
  obtain ⟨locs, eL⟩ : ∃ locs : List Loc, locs = [] := ⟨_, rfl⟩
  replace hP : va_P D vwCl (WX cB cI q0 q1 q2 q3 q4 q5 q6 q7 q8 q9 q10 u) H := by rw [eH]; exact hP
  replace hS : va_S A s.heap H locs := by rw [eH, eL]; exact hS
  suffices hgo : W p l e ({ frames := 7, cells := 1, slots := 6, locals := 105 } : Room) s m ([.ref q10, .int a1, .int a2] : List Value).toArray below meth c H locs 0 0 (vx_MQ below (va_Qi P (fun u t => va_P D vwCl (WX cB cI q0 q1 q2 q3 q4 q5 q6 q7 q8 q9 q10 u) t.heap) A) xNo ([.ref q10, .int a1, .int a2] : List Value).toArray s 1 6 A) (F0 m 0 ls []) by rw [eH, eL] at hgo; exact hgo
  clear eH eL
  refine lv_aload_n hx hb dL_write_0 rfl (lv_at hl 0 rfl) ?_
  refine lv_iload_n hx hb dL_write_1 rfl (lv_at hl 1 rfl) ?_
  refine lv_iload_n hx hb dL_write_2 rfl (lv_at hl 2 rfl) ?_
  refine clx_Vv (As := [.int a1, .int a2]) (rest := []) (st := [.int a2, .int a1, .ref q10]) (tys' := tyA cB cI) S hK (hK.sub [0, 1] rfl) hA hP hD hS (fr_X u) (kcX5_write l hl9 D cB cI sa q0 q1 q2 q3 q4 q5 q6 q7 q8 q9 q10 H.size a1 a2 u _ _ hw) (cwV 2 hts gL_write_X5_write rfl rfl rfl (by decide +kernel) ⟨Nat.le_of_ble_eq_true rfl, Nat.le_of_ble_eq_true rfl⟩) (ex_call hE hA hD hS (fr_X u)) tx_b 0 rfl rfl rfl rfl rfl hl.1 (Nat.le_of_ble_eq_true rfl) dL_write_3 ⟨Nat.le_of_ble_eq_true rfl, Nat.le_of_ble_eq_true rfl⟩ (fun v qe ce H locs hP hD hS hw h1 h2 h3 => ?_) (fun v H locs hP hD hS hw => ?_)
  · refine vx_catch (own := RL) (name := "java/lang/IndexOutOfBoundsException") hown [] ⟨0, 6, 9, 13⟩ [] ht (fun z hz => nomatch hz) (by decide) (by decide) (hts (.classLink RL 13 "java/lang/IndexOutOfBoundsException") (by decide +kernel)) (bad_use (hE.2.2.2 _ bc_24).1 (hE.2.2.2 _ bc_24).2) h1 h2 h3 ?_
    refine lv_astore_n (lv' := [(3, .ref qe), (0, .ref q10), (1, .int a1), (2, .int a2)]) hx hb dL_write_9 rfl hl (by decide) rfl (fun ls hl => ?_)
    refine lv_iconst (v := 1) hx hb dL_write_10 (by decide) ?_
    exact vx_ret (rt_i (wo := fun v => WX cB cI q0 q1 q2 q3 q4 q5 q6 q7 q8 q9 q10 v) S hr hlk v hP hS hw dL_write_11)
  · refine lv_goto (tgt := 12) hx hb dL_write_6 (by decide) ?_
    refine lv_iconst (v := 0) hx hb dL_write_12 (by decide) ?_
    exact vx_ret (rt_i (wo := fun v => WX cB cI q0 q1 q2 q3 q4 q5 q6 q7 q8 q9 q10 v) S hr hlk v hP hS hw dL_write_13)
set_option maxHeartbeats 4000000 in
set_option maxRecDepth 100000 in
theorem kcL_byteAt (l : Launch) (hl9 : l.stackTraces = false) (D : va_G) (cB cI cJ : ClassId) (sa : Nat) (q0 q1 q2 q3 q4 q5 q6 q7 q8 q9 q10 ho : Nat) (sz : Nat) (a1 : Int32) (u : SX × AJ) (P : Int32 → SX × AJ → Prop) (hw : wX5_byteAt a1 u.1 (fun r v => P 0 (v, vp_updL u.2 0 r.toInt64)) (fun v => P 1 (v, u.2))) : vx_Met l yL_byteAt wsL_byteAt ({ frames := 7, cells := 1, slots := 6, locals := 103 } : Room) (va_Pc [.ref q10, .int a1, .ref ho] (Pcw D (tyJ cB cI cJ) (WY cB cI cJ q0 q1 q2 q3 q4 q5 q6 q7 q8 q9 q10 ho u) sz (Tx "java/lang/IndexOutOfBoundsException" 24 "no such place" 79 sa (WY cB cI cJ q0 q1 q2 q3 q4 q5 q6 q7 q8 q9 q10 ho u) sz))) (va_Qi P (fun u t => va_P D vwCl (WY cB cI cJ q0 q1 q2 q3 q4 q5 q6 q7 q8 q9 q10 ho u) t.heap) (va_A (WY cB cI cJ q0 q1 q2 q3 q4 q5 q6 q7 q8 q9 q10 ho u) sz)) xNo 1 6 (va_A (WY cB cI cJ q0 q1 q2 q3 q4 q5 q6 q7 q8 q9 q10 ho u) sz) := by
  refine enw_ (cc := cL_byteAt) (maxL := 4) (ret := (some .int)) (hh := [(0, 9, 12, 13)]) (own := RL) (lv := [(0, .ref q10), (1, .int a1), (2, .ref ho)]) (Qf := fun A => va_Qi P (fun u t => va_P D vwCl (WY cB cI cJ q0 q1 q2 q3 q4 q5 q6 q7 q8 q9 q10 ho u) t.heap) A) (by decide) rfl rfl (Nat.le_of_ble_eq_true rfl) rfl ?_
  intro p e s m below meth c A ls S ht hr hlk hname hsz hP hK hD hA hSub hS hE hl
  have hx := S.1
  have hb := S.2.1
  have hown := S.2.2.2.1
  have hts := S.2.2.2.2
  have hE := tx_own hsz hSub hE
  obtain ⟨H, eH⟩ : ∃ H, H = s.heap := ⟨_, rfl⟩
  obtain ⟨locs, eL⟩ : ∃ locs : List Loc, locs = [] := ⟨_, rfl⟩
  replace hP : va_P D vwCl (WY cB cI cJ q0 q1 q2 q3 q4 q5 q6 q7 q8 q9 q10 ho u) H := by rw [eH]; exact hP
  replace hS : va_S A s.heap H locs := by rw [eH, eL]; exact hS
  suffices hgo : W p l e ({ frames := 7, cells := 1, slots := 6, locals := 103 } : Room) s m ([.ref q10, .int a1, .ref ho] : List Value).toArray below meth c H locs 0 0 (vx_MQ below (va_Qi P (fun u t => va_P D vwCl (WY cB cI cJ q0 q1 q2 q3 q4 q5 q6 q7 q8 q9 q10 ho u) t.heap) A) xNo ([.ref q10, .int a1, .ref ho] : List Value).toArray s 1 6 A) (F0 m 0 ls []) by rw [eH, eL] at hgo; exact hgo
  clear eH eL
  refine lv_aload_n hx hb dL_byteAt_0 rfl (lv_at hl 2 rfl) ?_
  refine lv_iconst (v := 0) hx hb dL_byteAt_1 (by decide) ?_
  refine lv_aload_n hx hb dL_byteAt_2 rfl (lv_at hl 0 rfl) ?_
  refine lv_iload_n hx hb dL_byteAt_3 rfl (lv_at hl 1 rfl) ?_
  refine clx_Vi (As := [.int a1]) (rest := [.int 0, .ref ho]) (st := [.int a1, .ref q10, .int 0, .ref ho]) (tys' := tyA cB cI) S hK (hK.sub [0, 1] rfl) hA hP hD hS (fr_Y_X u) (kcX5_byteAt l hl9 D cB cI sa q0 q1 q2 q3 q4 q5 q6 q7 q8 q9 q10 H.size a1 u.1 _ _ hw) (cwV 1 hts gL_byteAt_X5_byteAt rfl rfl rfl (by decide +kernel) ⟨Nat.le_of_ble_eq_true rfl, Nat.le_of_ble_eq_true rfl⟩) (ex_call hE hA hD hS (fr_Y_X u)) tx_b 0 rfl rfl rfl rfl rfl hl.1 (Nat.le_of_ble_eq_true rfl) dL_byteAt_4 ⟨Nat.le_of_ble_eq_true rfl, Nat.le_of_ble_eq_true rfl⟩ (fun v qe ce H locs hP hD hS hw h1 h2 h3 => ?_) (fun r v H locs hP hD hS hw => ?_)
  · refine vx_catch (own := RL) (name := "java/lang/IndexOutOfBoundsException") hown [] ⟨0, 9, 12, 13⟩ [] ht (fun z hz => nomatch hz) (by decide) (by decide) (hts (.classLink RL 13 "java/lang/IndexOutOfBoundsException") (by decide +kernel)) (bad_use (hE.2.2.2 _ bc_24).1 (hE.2.2.2 _ bc_24).2) h1 h2 h3 ?_
    refine lv_astore_n (lv' := [(3, .ref qe), (0, .ref q10), (1, .int a1), (2, .ref ho)]) hx hb dL_byteAt_12 rfl hl (by decide) rfl (fun ls hl => ?_)
    refine lv_iconst (v := 1) hx hb dL_byteAt_13 (by decide) ?_
    exact vx_ret (rt_i (wo := fun v => WY cB cI cJ q0 q1 q2 q3 q4 q5 q6 q7 q8 q9 q10 ho v) S hr hlk (v, u.2) hP hS hw dL_byteAt_14)
  · refine lv_i2l (v := r.toInt64) hx hb dL_byteAt_7 rfl ?_
    replace hP : va_P D vwCl (WY cB cI cJ q0 q1 q2 q3 q4 q5 q6 q7 q8 q9 q10 ho (v, u.2)) H := hP
    replace hD : va_D A (WY cB cI cJ q0 q1 q2 q3 q4 q5 q6 q7 q8 q9 q10 ho (v, u.2)) := hD
    refine va_last hx hb hK hP hD hS 11 2 (f := u.2) rfl rfl (i := 0) (by unfold vp_in; decide) dL_byteAt_8 (fun H locs hP hD hS => ?_)
    refine lv_goto (tgt := 15) hx hb dL_byteAt_9 (by decide) ?_
    refine lv_iconst (v := 0) hx hb dL_byteAt_15 (by decide) ?_
    exact vx_ret (rt_i (wo := fun v => WY cB cI cJ q0 q1 q2 q3 q4 q5 q6 q7 q8 q9 q10 ho v) S hr hlk (v, vp_updL u.2 0 r.toInt64) hP hS hw dL_byteAt_16)
set_option maxHeartbeats 4000000 in
set_option maxRecDepth 100000 in
theorem kcL_line (l : Launch) (hl9 : l.stackTraces = false) (D : va_G) (cB cI : ClassId) (sa : Nat) (q0 q1 q2 q3 q4 q5 q6 q7 q8 q9 q10 : Nat) (sz : Nat) (a1 : Int32) (u : SX) (P : Int32 → SX → Prop) (hw : wX5_line a1 u (P 0) (P 1)) : vx_Met l yL_line wsL_line ({ frames := 7, cells := 1, slots := 6, locals := 103 } : Room) (va_Pc [.ref q10, .int a1] (Pcw D (tyA cB cI) (WX cB cI q0 q1 q2 q3 q4 q5 q6 q7 q8 q9 q10 u) sz (Tx "java/lang/IllegalArgumentException" 94 "no such interrupt" 92 sa (WX cB cI q0 q1 q2 q3 q4 q5 q6 q7 q8 q9 q10 u) sz))) (va_Qi P (fun u t => va_P D vwCl (WX cB cI q0 q1 q2 q3 q4 q5 q6 q7 q8 q9 q10 u) t.heap) (va_A (WX cB cI q0 q1 q2 q3 q4 q5 q6 q7 q8 q9 q10 u) sz)) xNo 1 6 (va_A (WX cB cI q0 q1 q2 q3 q4 q5 q6 q7 q8 q9 q10 u) sz) := by
  refine enw_ (cc := cL_line) (maxL := 3) (ret := (some .int)) (hh := [(0, 5, 8, 29)]) (own := RL) (lv := [(0, .ref q10), (1, .int a1)]) (Qf := fun A => va_Qi P (fun u t => va_P D vwCl (WX cB cI q0 q1 q2 q3 q4 q5 q6 q7 q8 q9 q10 u) t.heap) A) (by decide) rfl rfl (Nat.le_of_ble_eq_true rfl) rfl ?_
  intro p e s m below meth c A ls S ht hr hlk hname hsz hP hK hD hA hSub hS hE hl
  have hx := S.1
  have hb := S.2.1
  have hown := S.2.2.2.1
  have hts := S.2.2.2.2
  have hE := tx_own hsz hSub hE
  obtain ⟨H, eH⟩ : ∃ H, H = s.heap := ⟨_, rfl⟩
  obtain ⟨locs, eL⟩ : ∃ locs : List Loc, locs = [] := ⟨_, rfl⟩
  replace hP : va_P D vwCl (WX cB cI q0 q1 q2 q3 q4 q5 q6 q7 q8 q9 q10 u) H := by rw [eH]; exact hP
  replace hS : va_S A s.heap H locs := by rw [eH, eL]; exact hS
  suffices hgo : W p l e ({ frames := 7, cells := 1, slots := 6, locals := 103 } : Room) s m ([.ref q10, .int a1] : List Value).toArray below meth c H locs 0 0 (vx_MQ below (va_Qi P (fun u t => va_P D vwCl (WX cB cI q0 q1 q2 q3 q4 q5 q6 q7 q8 q9 q10 u) t.heap) A) xNo ([.ref q10, .int a1] : List Value).toArray s 1 6 A) (F0 m 0 ls []) by rw [eH, eL] at hgo; exact hgo
  clear eH eL
  refine lv_aload_n hx hb dL_line_0 rfl (lv_at hl 0 rfl) ?_
  refine lv_iload_n hx hb dL_line_1 rfl (lv_at hl 1 rfl) ?_
  refine clx_Vv (As := [.int a1]) (rest := []) (st := [.int a1, .ref q10]) (tys' := tyA cB cI) S hK (hK.sub [0, 1] rfl) hA hP hD hS (fr_X u) (kcX5_line l hl9 D cB cI sa q0 q1 q2 q3 q4 q5 q6 q7 q8 q9 q10 H.size a1 u _ _ hw) (cwV 1 hts gL_line_X5_line rfl rfl rfl (by decide +kernel) ⟨Nat.le_of_ble_eq_true rfl, Nat.le_of_ble_eq_true rfl⟩) (ex_call hE hA hD hS (fr_X u)) tx_b 0 rfl rfl rfl rfl rfl hl.1 (Nat.le_of_ble_eq_true rfl) dL_line_2 ⟨Nat.le_of_ble_eq_true rfl, Nat.le_of_ble_eq_true rfl⟩ (fun v qe ce H locs hP hD hS hw h1 h2 h3 => ?_) (fun v H locs hP hD hS hw => ?_)
  · refine vx_catch (own := RL) (name := "java/lang/IllegalArgumentException") hown [] ⟨0, 5, 8, 29⟩ [] ht (fun z hz => nomatch hz) (by decide) (by decide) (hts (.classLink RL 29 "java/lang/IllegalArgumentException") (by decide +kernel)) (bad_use (hE.2.2.2 _ bc_94).1 (hE.2.2.2 _ bc_94).2) h1 h2 h3 ?_
    refine lv_astore_n (lv' := [(2, .ref qe), (0, .ref q10), (1, .int a1)]) hx hb dL_line_8 rfl hl (by decide) rfl (fun ls hl => ?_)
    refine lv_iconst (v := 1) hx hb dL_line_9 (by decide) ?_
    exact vx_ret (rt_i (wo := fun v => WX cB cI q0 q1 q2 q3 q4 q5 q6 q7 q8 q9 q10 v) S hr hlk v hP hS hw dL_line_10)
  · refine lv_goto (tgt := 11) hx hb dL_line_5 (by decide) ?_
    refine lv_iconst (v := 0) hx hb dL_line_11 (by decide) ?_
    exact vx_ret (rt_i (wo := fun v => WX cB cI q0 q1 q2 q3 q4 q5 q6 q7 q8 q9 q10 v) S hr hlk v hP hS hw dL_line_12)
set_option maxHeartbeats 4000000 in
set_option maxRecDepth 100000 in
theorem kcL_run (l : Launch) (hl9 : l.stackTraces = false) (D : va_G) (cB cI cJ : ClassId) (qF : Nat) (sa : Nat) (q0 q1 q2 q3 q4 q5 q6 q7 q8 q9 q10 ho : Nat) (sz : Nat) (a1 : Int32) (u : SX × AJ) (P : Int32 → SX × AJ → Prop) (hw : wX5_run a1 u.1 (fun r v => P 0 (v, vp_updL u.2 0 r.toInt64)) (fun v => P 1 (v, u.2))) : vx_Met l yL_run wsL_run ({ frames := 8, cells := 1, slots := 6, locals := 186 } : Room) (va_Pc [.ref q10, .int a1, .ref ho] (Pcw D (tyJ cB cI cJ) (WY cB cI cJ q0 q1 q2 q3 q4 q5 q6 q7 q8 q9 q10 ho u) sz (fun U => Fz qF (WY cB cI cJ q0 q1 q2 q3 q4 q5 q6 q7 q8 q9 q10 ho u) sz U ∧ Tx "java/lang/IllegalArgumentException" 94 "not 0 to 500 steps" 95 sa (WY cB cI cJ q0 q1 q2 q3 q4 q5 q6 q7 q8 q9 q10 ho u) sz U))) (va_Qi P (fun u t => va_P D vwCl (WY cB cI cJ q0 q1 q2 q3 q4 q5 q6 q7 q8 q9 q10 ho u) t.heap) (va_A (WY cB cI cJ q0 q1 q2 q3 q4 q5 q6 q7 q8 q9 q10 ho u) sz)) xNo 1 6 (va_A (WY cB cI cJ q0 q1 q2 q3 q4 q5 q6 q7 q8 q9 q10 ho u) sz) := by
  refine enw_ (cc := cL_run) (maxL := 4) (ret := (some .int)) (hh := [(0, 9, 12, 29)]) (own := RL) (lv := [(0, .ref q10), (1, .int a1), (2, .ref ho)]) (Qf := fun A => va_Qi P (fun u t => va_P D vwCl (WY cB cI cJ q0 q1 q2 q3 q4 q5 q6 q7 q8 q9 q10 ho u) t.heap) A) (by decide) rfl rfl (Nat.le_of_ble_eq_true rfl) rfl ?_
  intro p e s m below meth c A ls S ht hr hlk hname hsz hP hK hD hA hSub hS hE hl
  have hx := S.1
  have hb := S.2.1
  have hown := S.2.2.2.1
  have hts := S.2.2.2.2
  have hE := And.intro (fz_own hsz hSub hE.1) (tx_own hsz hSub hE.2)
  obtain ⟨H, eH⟩ : ∃ H, H = s.heap := ⟨_, rfl⟩
  obtain ⟨locs, eL⟩ : ∃ locs : List Loc, locs = [] := ⟨_, rfl⟩
  replace hP : va_P D vwCl (WY cB cI cJ q0 q1 q2 q3 q4 q5 q6 q7 q8 q9 q10 ho u) H := by rw [eH]; exact hP
  replace hS : va_S A s.heap H locs := by rw [eH, eL]; exact hS
  suffices hgo : W p l e ({ frames := 8, cells := 1, slots := 6, locals := 186 } : Room) s m ([.ref q10, .int a1, .ref ho] : List Value).toArray below meth c H locs 0 0 (vx_MQ below (va_Qi P (fun u t => va_P D vwCl (WY cB cI cJ q0 q1 q2 q3 q4 q5 q6 q7 q8 q9 q10 ho u) t.heap) A) xNo ([.ref q10, .int a1, .ref ho] : List Value).toArray s 1 6 A) (F0 m 0 ls []) by rw [eH, eL] at hgo; exact hgo
  clear eH eL
  refine lv_aload_n hx hb dL_run_0 rfl (lv_at hl 2 rfl) ?_
  refine lv_iconst (v := 0) hx hb dL_run_1 (by decide) ?_
  refine lv_aload_n hx hb dL_run_2 rfl (lv_at hl 0 rfl) ?_
  refine lv_iload_n hx hb dL_run_3 rfl (lv_at hl 1 rfl) ?_
  refine clx_Vi (As := [.int a1]) (rest := [.int 0, .ref ho]) (st := [.int a1, .ref q10, .int 0, .ref ho]) (tys' := tyA cB cI) S hK (hK.sub [0, 1] rfl) hA hP hD hS (fr_Y_X u) (kcX5_run l hl9 D cB cI qF sa q0 q1 q2 q3 q4 q5 q6 q7 q8 q9 q10 H.size a1 u.1 _ _ hw) (cwV 1 hts gL_run_X5_run rfl rfl rfl (by decide +kernel) ⟨Nat.le_of_ble_eq_true rfl, Nat.le_of_ble_eq_true rfl⟩) (fun U hU hW => ⟨fz_call hE.1 hA hD hS (fr_Y_X u) U hU hW, ex_call hE.2 hA hD hS (fr_Y_X u) U hU hW⟩) (fun a U g mk h => ⟨fz_b a U g mk h.1, tx_b a U g mk h.2⟩) 0 rfl rfl rfl rfl rfl hl.1 (Nat.le_of_ble_eq_true rfl) dL_run_4 ⟨Nat.le_of_ble_eq_true rfl, Nat.le_of_ble_eq_true rfl⟩ (fun v qe ce H locs hP hD hS hw h1 h2 h3 => ?_) (fun r v H locs hP hD hS hw => ?_)
  · refine vx_catch (own := RL) (name := "java/lang/IllegalArgumentException") hown [] ⟨0, 9, 12, 29⟩ [] ht (fun z hz => nomatch hz) (by decide) (by decide) (hts (.classLink RL 29 "java/lang/IllegalArgumentException") (by decide +kernel)) (bad_use (hE.2.2.2.2 _ bc_94).1 (hE.2.2.2.2 _ bc_94).2) h1 h2 h3 ?_
    refine lv_astore_n (lv' := [(3, .ref qe), (0, .ref q10), (1, .int a1), (2, .ref ho)]) hx hb dL_run_12 rfl hl (by decide) rfl (fun ls hl => ?_)
    refine lv_iconst (v := 1) hx hb dL_run_13 (by decide) ?_
    exact vx_ret (rt_i (wo := fun v => WY cB cI cJ q0 q1 q2 q3 q4 q5 q6 q7 q8 q9 q10 ho v) S hr hlk (v, u.2) hP hS hw dL_run_14)
  · refine lv_i2l (v := r.toInt64) hx hb dL_run_7 rfl ?_
    replace hP : va_P D vwCl (WY cB cI cJ q0 q1 q2 q3 q4 q5 q6 q7 q8 q9 q10 ho (v, u.2)) H := hP
    replace hD : va_D A (WY cB cI cJ q0 q1 q2 q3 q4 q5 q6 q7 q8 q9 q10 ho (v, u.2)) := hD
    refine va_last hx hb hK hP hD hS 11 2 (f := u.2) rfl rfl (i := 0) (by unfold vp_in; decide) dL_run_8 (fun H locs hP hD hS => ?_)
    refine lv_goto (tgt := 15) hx hb dL_run_9 (by decide) ?_
    refine lv_iconst (v := 0) hx hb dL_run_15 (by decide) ?_
    exact vx_ret (rt_i (wo := fun v => WY cB cI cJ q0 q1 q2 q3 q4 q5 q6 q7 q8 q9 q10 ho v) S hr hlk (v, vp_updL u.2 0 r.toInt64) hP hS hw dL_run_16)
set_option maxHeartbeats 4000000 in
set_option maxRecDepth 100000 in
theorem kcL_count (l : Launch) (hl9 : l.stackTraces = false) (D : va_G) (cB cI cJ : ClassId) (sa : Nat) (q0 q1 q2 q3 q4 q5 q6 q7 q8 q9 q10 ho : Nat) (sz : Nat) (a1 : Int32) (u : SX × AJ) (P : Int32 → SX × AJ → Prop) (hw : wX5_count a1 u.1 (fun r v => P 0 (v, vp_updL u.2 0 r.toInt64)) (fun v => P 1 (v, u.2))) : vx_Met l yL_count wsL_count ({ frames := 7, cells := 1, slots := 6, locals := 103 } : Room) (va_Pc [.ref q10, .int a1, .ref ho] (Pcw D (tyJ cB cI cJ) (WY cB cI cJ q0 q1 q2 q3 q4 q5 q6 q7 q8 q9 q10 ho u) sz (Tx "java/lang/IllegalArgumentException" 94 "nothing is counted by this number" 139 sa (WY cB cI cJ q0 q1 q2 q3 q4 q5 q6 q7 q8 q9 q10 ho u) sz))) (va_Qi P (fun u t => va_P D vwCl (WY cB cI cJ q0 q1 q2 q3 q4 q5 q6 q7 q8 q9 q10 ho u) t.heap) (va_A (WY cB cI cJ q0 q1 q2 q3 q4 q5 q6 q7 q8 q9 q10 ho u) sz)) xNo 1 6 (va_A (WY cB cI cJ q0 q1 q2 q3 q4 q5 q6 q7 q8 q9 q10 ho u) sz) := by
  refine enw_ (cc := cL_count) (maxL := 4) (ret := (some .int)) (hh := [(0, 9, 12, 29)]) (own := RL) (lv := [(0, .ref q10), (1, .int a1), (2, .ref ho)]) (Qf := fun A => va_Qi P (fun u t => va_P D vwCl (WY cB cI cJ q0 q1 q2 q3 q4 q5 q6 q7 q8 q9 q10 ho u) t.heap) A) (by decide) rfl rfl (Nat.le_of_ble_eq_true rfl) rfl ?_
  intro p e s m below meth c A ls S ht hr hlk hname hsz hP hK hD hA hSub hS hE hl
  have hx := S.1
  have hb := S.2.1
  have hown := S.2.2.2.1
  have hts := S.2.2.2.2
  have hE := tx_own hsz hSub hE
  obtain ⟨H, eH⟩ : ∃ H, H = s.heap := ⟨_, rfl⟩
  obtain ⟨locs, eL⟩ : ∃ locs : List Loc, locs = [] := ⟨_, rfl⟩
  replace hP : va_P D vwCl (WY cB cI cJ q0 q1 q2 q3 q4 q5 q6 q7 q8 q9 q10 ho u) H := by rw [eH]; exact hP
  replace hS : va_S A s.heap H locs := by rw [eH, eL]; exact hS
  suffices hgo : W p l e ({ frames := 7, cells := 1, slots := 6, locals := 103 } : Room) s m ([.ref q10, .int a1, .ref ho] : List Value).toArray below meth c H locs 0 0 (vx_MQ below (va_Qi P (fun u t => va_P D vwCl (WY cB cI cJ q0 q1 q2 q3 q4 q5 q6 q7 q8 q9 q10 ho u) t.heap) A) xNo ([.ref q10, .int a1, .ref ho] : List Value).toArray s 1 6 A) (F0 m 0 ls []) by rw [eH, eL] at hgo; exact hgo
  clear eH eL
  refine lv_aload_n hx hb dL_count_0 rfl (lv_at hl 2 rfl) ?_
  refine lv_iconst (v := 0) hx hb dL_count_1 (by decide) ?_
  refine lv_aload_n hx hb dL_count_2 rfl (lv_at hl 0 rfl) ?_
  refine lv_iload_n hx hb dL_count_3 rfl (lv_at hl 1 rfl) ?_
  refine clx_Vi (As := [.int a1]) (rest := [.int 0, .ref ho]) (st := [.int a1, .ref q10, .int 0, .ref ho]) (tys' := tyA cB cI) S hK (hK.sub [0, 1] rfl) hA hP hD hS (fr_Y_X u) (kcX5_count l hl9 D cB cI sa q0 q1 q2 q3 q4 q5 q6 q7 q8 q9 q10 H.size a1 u.1 _ _ hw) (cwV 1 hts gL_count_X5_count rfl rfl rfl (by decide +kernel) ⟨Nat.le_of_ble_eq_true rfl, Nat.le_of_ble_eq_true rfl⟩) (ex_call hE hA hD hS (fr_Y_X u)) tx_b 0 rfl rfl rfl rfl rfl hl.1 (Nat.le_of_ble_eq_true rfl) dL_count_4 ⟨Nat.le_of_ble_eq_true rfl, Nat.le_of_ble_eq_true rfl⟩ (fun v qe ce H locs hP hD hS hw h1 h2 h3 => ?_) (fun r v H locs hP hD hS hw => ?_)
  · refine vx_catch (own := RL) (name := "java/lang/IllegalArgumentException") hown [] ⟨0, 9, 12, 29⟩ [] ht (fun z hz => nomatch hz) (by decide) (by decide) (hts (.classLink RL 29 "java/lang/IllegalArgumentException") (by decide +kernel)) (bad_use (hE.2.2.2 _ bc_94).1 (hE.2.2.2 _ bc_94).2) h1 h2 h3 ?_
    refine lv_astore_n (lv' := [(3, .ref qe), (0, .ref q10), (1, .int a1), (2, .ref ho)]) hx hb dL_count_12 rfl hl (by decide) rfl (fun ls hl => ?_)
    refine lv_iconst (v := 1) hx hb dL_count_13 (by decide) ?_
    exact vx_ret (rt_i (wo := fun v => WY cB cI cJ q0 q1 q2 q3 q4 q5 q6 q7 q8 q9 q10 ho v) S hr hlk (v, u.2) hP hS hw dL_count_14)
  · refine lv_i2l (v := r.toInt64) hx hb dL_count_7 rfl ?_
    replace hP : va_P D vwCl (WY cB cI cJ q0 q1 q2 q3 q4 q5 q6 q7 q8 q9 q10 ho (v, u.2)) H := hP
    replace hD : va_D A (WY cB cI cJ q0 q1 q2 q3 q4 q5 q6 q7 q8 q9 q10 ho (v, u.2)) := hD
    refine va_last hx hb hK hP hD hS 11 2 (f := u.2) rfl rfl (i := 0) (by unfold vp_in; decide) dL_count_8 (fun H locs hP hD hS => ?_)
    refine lv_goto (tgt := 15) hx hb dL_count_9 (by decide) ?_
    refine lv_iconst (v := 0) hx hb dL_count_15 (by decide) ?_
    exact vx_ret (rt_i (wo := fun v => WY cB cI cJ q0 q1 q2 q3 q4 q5 q6 q7 q8 q9 q10 ho v) S hr hlk (v, vp_updL u.2 0 r.toInt64) hP hS hw dL_count_16)
