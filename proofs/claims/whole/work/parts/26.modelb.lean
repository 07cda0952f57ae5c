-- X6_fetch
def wX6_fetch  (u : SQ) (P : Int32 → SQ → Prop) : Prop := (vp_in (1 : Int32) 4 ∧ (wX6_placeOf ((q_segments u) (1 : Int32).toNatClampNeg) (q_at u) () (fun r2 u1 => (wX6_load r2 u (fun r4 u3 => (P r4 (qs_at u3 ((q_at u3) + (1 : Int32)))))))))
set_option maxHeartbeats 4000000 in
set_option maxRecDepth 100000 in
theorem kcX6_fetch (l : Launch) (D : va_G) (cB cI : ClassId) (h0 h1 h2 h3 h4 h5 : Nat) (sz : Nat)  (u : SQ) (P : Int32 → SQ → Prop) (hw : wX6_fetch  u P) : Met l yX6_fetch wsX6_fetch ({ frames := 1, cells := 0, slots := 0, locals := 22 } : Room) (va_Pc [.ref h0] (Pcw D (tyA cB cI) (WQ cI h0 h1 h2 h3 h4 h5 u) sz Tru)) (va_Qi P (fun u t => va_P D vwCl (WQ cI h0 h1 h2 h3 h4 h5 u) t.heap) (va_A (WQ cI h0 h1 h2 h3 h4 h5 u) sz)) 0 0 (va_A (WQ cI h0 h1 h2 h3 h4 h5 u) sz) := by
  refine en_ (cc := cX6_fetch) (maxL := 2) (ret := (some .int)) (own := RX6) (lv := [(0, .ref h0)]) (Qf := fun A => va_Qi P (fun u t => va_P D vwCl (WQ cI h0 h1 h2 h3 h4 h5 u) t.heap) A) (by decide) rfl rfl (Nat.le_of_ble_eq_true rfl) rfl ?_
  intro p e s m below meth c A ls S hr hlk hname hsz hP hK hD hA hSub hS hE hl
  have hx := S.1
  have hb := S.2.1
  have hown := S.2.2.2.1
  have hts := S.2.2.2.2
  have i_X6 : ∀ w ∈ u_ws RX6 TX6 29, w ∈ wsX6_fetch := by decide +kernel
  have f_13 := hts (.fieldLink RX6 13 "MachineCoreModel" "segments" "[I") (by decide +kernel)
  have f_114 := hts (.fieldLink RX6 114 "MachineCoreModel" "at" "I") (by decide +kernel)
  unfold wX6_fetch at hw
  obtain ⟨H, eH⟩ : ∃ H, H = s.heap := ⟨_, rfl⟩
  obtain ⟨locs, eL⟩ : ∃ locs : List Loc, locs = [] := ⟨_, rfl⟩
  replace hP : va_P D vwCl (WQ cI h0 h1 h2 h3 h4 h5 u) H := by rw [eH]; exact hP
  replace hS : va_S A s.heap H locs := by rw [eH, eL]; exact hS
  suffices hgo : W p l e ({ frames := 1, cells := 0, slots := 0, locals := 22 } : Room) s m ([.ref h0] : List Value).toArray below meth c H locs 0 0 (MQ below (va_Qi P (fun u t => va_P D vwCl (WQ cI h0 h1 h2 h3 h4 h5 u) t.heap) A) ([.ref h0] : List Value).toArray s 0 0 A) (F0 m 0 ls []) by rw [eH, eL] at hgo; exact hgo
  clear eH eL
  refine lv_aload_n hx hb dX6_fetch_0 rfl (lv_at hl 0 rfl) ?_
  refine lv_aload_n hx hb dX6_fetch_1 rfl (lv_at hl 0 rfl) ?_
  refine va_get (D := D) (ci := 6) (v := .ref h2) (C := RX6) (T := TX6) (N := 29) hx hb hts i_X6 hown hK hP 0 rfl rfl 2 (by decide) f_13 (fun _ h9 => h9) rfl dX6_fetch_2 ?_
  refine lv_iconst (v := (1 : Int32)) hx hb dX6_fetch_5 (by decide) ?_
  refine va_iald hx hb hK hP 2 1 (f := (q_segments u)) rfl rfl hw.1 dX6_fetch_6 ?_
  replace hw := hw.2
  refine lv_aload_n hx hb dX6_fetch_7 rfl (lv_at hl 0 rfl) ?_
  refine va_get (D := D) (ci := 6) (v := .int (q_at u)) (C := RX6) (T := TX6) (N := 29) hx hb hts i_X6 hown hK hP 0 rfl rfl 18 (by decide) f_114 (fun _ h9 => h9) rfl dX6_fetch_8 ?_
  refine cl_Si (As := [.int ((q_segments u) (1 : Int32).toNatClampNeg), .int (q_at u)]) (rest := [.ref h0]) (st := [.int (q_at u), .int ((q_segments u) (1 : Int32).toNatClampNeg), .ref h0]) S hK hA hP hD hS Fr_nil (kcX6_placeOf l D cB cI  H.size ((q_segments u) (1 : Int32).toNatClampNeg) (q_at u) () _ hw) (va_cwS 2 hts gX6_fetch_X6_placeOf rfl rfl rfl (by decide +kernel) ⟨Nat.le_of_ble_eq_true rfl, Nat.le_of_ble_eq_true rfl⟩) tru_h tru_b rfl rfl hl.1 (Nat.le_of_ble_eq_true rfl) dX6_fetch_11 ⟨Nat.zero_le _, Nat.zero_le _⟩ (fun r2 u1 H locs hP hD hS hw => ?_)
  replace hP : va_P D vwCl (WQ cI h0 h1 h2 h3 h4 h5 u) H := hP
  replace hD : va_D A (WQ cI h0 h1 h2 h3 h4 h5 u) := hD
  refine cl_Vi (As := [.int r2]) (rest := []) (st := [.int r2, .ref h0]) S hK hA hP hD hS (fr_Q u) (kcX6_load l D cB cI h0 h1 h2 h3 h4 h5 H.size r2 u _ hw) (cwV 1 hts gX6_fetch_X6_load rfl rfl rfl (by decide +kernel) ⟨Nat.le_of_ble_eq_true rfl, Nat.le_of_ble_eq_true rfl⟩) tru_h tru_b 0 rfl rfl rfl rfl rfl hl.1 (Nat.le_of_ble_eq_true rfl) dX6_fetch_14 ⟨Nat.zero_le _, Nat.zero_le _⟩ (fun r4 u3 H locs hP hD hS hw => ?_)
  replace hP : va_P D vwCl (WQ cI h0 h1 h2 h3 h4 h5 u3) H := hP
  replace hD : va_D A (WQ cI h0 h1 h2 h3 h4 h5 u3) := hD
  refine lv_istore_n (lv' := [(1, .int r4), (0, .ref h0)]) hx hb dX6_fetch_17 rfl hl (by decide) rfl (fun ls hl => ?_)
  refine lv_aload_n hx hb dX6_fetch_18 rfl (lv_at hl 1 rfl) ?_
  refine lv_dup hx hb dX6_fetch_19 rfl ?_
  refine va_get (D := D) (ci := 6) (v := .int (q_at u3)) (C := RX6) (T := TX6) (N := 29) hx hb hts i_X6 hown hK hP 0 rfl rfl 18 (by decide) f_114 (fun _ h9 => h9) rfl dX6_fetch_20 ?_
  refine lv_iconst (v := (1 : Int32)) hx hb dX6_fetch_23 (by decide) ?_
  refine lv_iadd hx hb dX6_fetch_24 ?_
  refine va_put (D := D) (ci := 6) (v := .int ((q_at u3) + (1 : Int32))) (ty := .int) (C := RX6) (T := TX6) (N := 29) hx hb hts i_X6 tyX6 tyX6_ok nmX6 hown hK hP hD hS 0 rfl rfl 18 (by decide) f_114 (fun _ h9 => h9) rfl (by decide +kernel) rfl rfl (Nat.le_of_ble_eq_true rfl) dX6_fetch_25 (fun H locs hP hD hS => ?_)
  replace hP : va_P D vwCl (WQ cI h0 h1 h2 h3 h4 h5 (qs_at u3 ((q_at u3) + (1 : Int32)))) H := hP
  replace hD : va_D A (WQ cI h0 h1 h2 h3 h4 h5 (qs_at u3 ((q_at u3) + (1 : Int32)))) := hD
  refine lv_iload_n hx hb dX6_fetch_28 rfl (lv_at hl 0 rfl) ?_
  exact rt_i (wo := (fun v => WQ cI h0 h1 h2 h3 h4 h5 v)) S hr hlk (qs_at u3 ((q_at u3) + (1 : Int32))) hP hS hw dX6_fetch_29
-- X6_fetchWord
def wX6_fetchWord  (u : SQ) (P : Int32 → SQ → Prop) : Prop := (wX6_fetch  u (fun r2 u1 => (wX6_fetch  u1 (fun r4 u3 => (P (r2 ||| (r4 <<< ((8 : Int32) &&& 31))) u3)))))
set_option maxHeartbeats 4000000 in
set_option maxRecDepth 100000 in
theorem kcX6_fetchWord (l : Launch) (D : va_G) (cB cI : ClassId) (h0 h1 h2 h3 h4 h5 : Nat) (sz : Nat)  (u : SQ) (P : Int32 → SQ → Prop) (hw : wX6_fetchWord  u P) : Met l yX6_fetchWord wsX6_fetchWord ({ frames := 2, cells := 0, slots := 0, locals := 43 } : Room) (va_Pc [.ref h0] (Pcw D (tyA cB cI) (WQ cI h0 h1 h2 h3 h4 h5 u) sz Tru)) (va_Qi P (fun u t => va_P D vwCl (WQ cI h0 h1 h2 h3 h4 h5 u) t.heap) (va_A (WQ cI h0 h1 h2 h3 h4 h5 u) sz)) 0 0 (va_A (WQ cI h0 h1 h2 h3 h4 h5 u) sz) := by
  refine en_ (cc := cX6_fetchWord) (maxL := 2) (ret := (some .int)) (own := RX6) (lv := [(0, .ref h0)]) (Qf := fun A => va_Qi P (fun u t => va_P D vwCl (WQ cI h0 h1 h2 h3 h4 h5 u) t.heap) A) (by decide) rfl rfl (Nat.le_of_ble_eq_true rfl) rfl ?_
  intro p e s m below meth c A ls S hr hlk hname hsz hP hK hD hA hSub hS hE hl
  have hx := S.1
  have hb := S.2.1
  have hown := S.2.2.2.1
  have hts := S.2.2.2.2
  unfold wX6_fetchWord at hw
  obtain ⟨H, eH⟩ : ∃ H, H = s.heap := ⟨_, rfl⟩
  obtain ⟨locs, eL⟩ : ∃ locs : List Loc, locs = [] := ⟨_, rfl⟩
  replace hP : va_P D vwCl (WQ cI h0 h1 h2 h3 h4 h5 u) H := by rw [eH]; exact hP
  replace hS : va_S A s.heap H locs := by rw [eH, eL]; exact hS
  suffices hgo : W p l e ({ frames := 2, cells := 0, slots := 0, locals := 43 } : Room) s m ([.ref h0] : List Value).toArray below meth c H locs 0 0 (MQ below (va_Qi P (fun u t => va_P D vwCl (WQ cI h0 h1 h2 h3 h4 h5 u) t.heap) A) ([.ref h0] : List Value).toArray s 0 0 A) (F0 m 0 ls []) by rw [eH, eL] at hgo; exact hgo
  clear eH eL
  refine lv_aload_n hx hb dX6_fetchWord_0 rfl (lv_at hl 0 rfl) ?_
  refine cl_Vi (As := []) (rest := []) (st := [.ref h0]) S hK hA hP hD hS (fr_Q u) (kcX6_fetch l D cB cI h0 h1 h2 h3 h4 h5 H.size  u _ hw) (cwV 0 hts gX6_fetchWord_X6_fetch rfl rfl rfl (by decide +kernel) ⟨Nat.le_of_ble_eq_true rfl, Nat.le_of_ble_eq_true rfl⟩) tru_h tru_b 0 rfl rfl rfl rfl rfl hl.1 (Nat.le_of_ble_eq_true rfl) dX6_fetchWord_1 ⟨Nat.zero_le _, Nat.zero_le _⟩ (fun r2 u1 H locs hP hD hS hw => ?_)
  replace hP : va_P D vwCl (WQ cI h0 h1 h2 h3 h4 h5 u1) H := hP
  replace hD : va_D A (WQ cI h0 h1 h2 h3 h4 h5 u1) := hD
  refine lv_istore_n (lv' := [(1, .int r2), (0, .ref h0)]) hx hb dX6_fetchWord_4 rfl hl (by decide) rfl (fun ls hl => ?_)
  refine lv_iload_n hx hb dX6_fetchWord_5 rfl (lv_at hl 0 rfl) ?_
  refine lv_aload_n hx hb dX6_fetchWord_6 rfl (lv_at hl 1 rfl) ?_
  refine cl_Vi (As := []) (rest := [.int r2]) (st := [.ref h0, .int r2]) S hK hA hP hD hS (fr_Q u1) (kcX6_fetch l D cB cI h0 h1 h2 h3 h4 h5 H.size  u1 _ hw) (cwV 0 hts gX6_fetchWord_X6_fetch rfl rfl rfl (by decide +kernel) ⟨Nat.le_of_ble_eq_true rfl, Nat.le_of_ble_eq_true rfl⟩) tru_h tru_b 0 rfl rfl rfl rfl rfl hl.1 (Nat.le_of_ble_eq_true rfl) dX6_fetchWord_7 ⟨Nat.zero_le _, Nat.zero_le _⟩ (fun r4 u3 H locs hP hD hS hw => ?_)
  replace hP : va_P D vwCl (WQ cI h0 h1 h2 h3 h4 h5 u3) H := hP
  replace hD : va_D A (WQ cI h0 h1 h2 h3 h4 h5 u3) := hD
  refine lv_bipush (v := (8 : Int32)) hx hb dX6_fetchWord_10 (by decide) ?_
  refine lv_ishl hx hb dX6_fetchWord_12 ?_
  refine lv_ior hx hb dX6_fetchWord_13 ?_
  exact rt_i (wo := (fun v => WQ cI h0 h1 h2 h3 h4 h5 v)) S hr hlk u3 hP hS hw dX6_fetchWord_14
-- X6_extended
def wX6_extended (a0 : Int32) (u : Unit) (P : Int32 → Unit → Prop) : Prop := ((a0 ≤ (127 : Int32) → (P a0 u)) ∧ (¬ a0 ≤ (127 : Int32) → (P (a0 - (256 : Int32)) u)))
set_option maxHeartbeats 4000000 in
set_option maxRecDepth 100000 in
theorem kcX6_extended (l : Launch) (D : va_G) (cB cI : ClassId) (sz : Nat) (a0 : Int32) (u : Unit) (P : Int32 → Unit → Prop) (hw : wX6_extended a0 u P) : Met l yX6_extended wsX6_extended ({ frames := 0, cells := 0, slots := 0, locals := 0 } : Room) (va_Pc [.int a0] (Pcw D (tyA cB cI) [] sz Tru)) (va_Qi P (fun u t => va_P D vwCl [] t.heap) (va_A [] sz)) 0 0 (va_A [] sz) := by
  refine en_ (cc := cX6_extended) (maxL := 1) (ret := (some .int)) (own := RX6) (lv := [(0, .int a0)]) (Qf := fun A => va_Qi P (fun u t => va_P D vwCl [] t.heap) A) (by decide) rfl rfl (Nat.le_of_ble_eq_true rfl) rfl ?_
  intro p e s m below meth c A ls S hr hlk hname hsz hP hK hD hA hSub hS hE hl
  have hx := S.1
  have hb := S.2.1
  have hown := S.2.2.2.1
  have hts := S.2.2.2.2
  unfold wX6_extended at hw
  obtain ⟨H, eH⟩ : ∃ H, H = s.heap := ⟨_, rfl⟩
  obtain ⟨locs, eL⟩ : ∃ locs : List Loc, locs = [] := ⟨_, rfl⟩
  replace hP : va_P D vwCl [] H := by rw [eH]; exact hP
  replace hS : va_S A s.heap H locs := by rw [eH, eL]; exact hS
  suffices hgo : W p l e ({ frames := 0, cells := 0, slots := 0, locals := 0 } : Room) s m ([.int a0] : List Value).toArray below meth c H locs 0 0 (MQ below (va_Qi P (fun u t => va_P D vwCl [] t.heap) A) ([.int a0] : List Value).toArray s 0 0 A) (F0 m 0 ls []) by rw [eH, eL] at hgo; exact hgo
  clear eH eL
  refine lv_iload_n hx hb dX6_extended_0 rfl (lv_at hl 0 rfl) ?_
  refine lv_bipush (v := (127 : Int32)) hx hb dX6_extended_1 (by decide) ?_
  refine lv_icmp_le (tgt := 14) hx hb dX6_extended_3 (by decide) (fun c1 => ?_) (fun c1 => ?_)
  · replace hw := hw.1 c1
    refine lv_iload_n hx hb dX6_extended_14 rfl (lv_at hl 0 rfl) ?_
    exact rt_i (wo := (fun _ => [])) S hr hlk u hP hS hw dX6_extended_15
  · replace hw := hw.2 c1
    refine lv_iload_n hx hb dX6_extended_6 rfl (lv_at hl 0 rfl) ?_
    refine lv_sipush (v := (256 : Int32)) hx hb dX6_extended_7 (by decide) ?_
    refine lv_isub hx hb dX6_extended_10 ?_
    refine lv_goto (tgt := 15) hx hb dX6_extended_11 (by decide) ?_
    exact rt_i (wo := (fun _ => [])) S hr hlk u hP hS hw dX6_extended_15
-- X6_fetchNumber
def wX6_fetchNumber (a1 : Int32) (u : SQ) (P : Int32 → SQ → Prop) : Prop := ((a1 = (0 : Int32) → (wX6_fetch  u (fun r3 u2 => (P r3 u2)))) ∧ (¬ a1 = (0 : Int32) → (wX6_fetchWord  u (fun r5 u4 => (P r5 u4)))))
set_option maxHeartbeats 4000000 in
set_option maxRecDepth 100000 in
theorem kcX6_fetchNumber (l : Launch) (D : va_G) (cB cI : ClassId) (h0 h1 h2 h3 h4 h5 : Nat) (sz : Nat) (a1 : Int32) (u : SQ) (P : Int32 → SQ → Prop) (hw : wX6_fetchNumber a1 u P) : Met l yX6_fetchNumber wsX6_fetchNumber ({ frames := 3, cells := 0, slots := 0, locals := 64 } : Room) (va_Pc [.ref h0, .int a1] (Pcw D (tyA cB cI) (WQ cI h0 h1 h2 h3 h4 h5 u) sz Tru)) (va_Qi P (fun u t => va_P D vwCl (WQ cI h0 h1 h2 h3 h4 h5 u) t.heap) (va_A (WQ cI h0 h1 h2 h3 h4 h5 u) sz)) 0 0 (va_A (WQ cI h0 h1 h2 h3 h4 h5 u) sz) := by
  refine en_ (cc := cX6_fetchNumber) (maxL := 2) (ret := (some .int)) (own := RX6) (lv := [(0, .ref h0), (1, .int a1)]) (Qf := fun A => va_Qi P (fun u t => va_P D vwCl (WQ cI h0 h1 h2 h3 h4 h5 u) t.heap) A) (by decide) rfl rfl (Nat.le_of_ble_eq_true rfl) rfl ?_
  intro p e s m below meth c A ls S hr hlk hname hsz hP hK hD hA hSub hS hE hl
  have hx := S.1
  have hb := S.2.1
  have hown := S.2.2.2.1
  have hts := S.2.2.2.2
  unfold wX6_fetchNumber at hw
  obtain ⟨H, eH⟩ : ∃ H, H = s.heap := ⟨_, rfl⟩
  obtain ⟨locs, eL⟩ : ∃ locs : List Loc, locs = [] := ⟨_, rfl⟩
  replace hP : va_P D vwCl (WQ cI h0 h1 h2 h3 h4 h5 u) H := by rw [eH]; exact hP
  replace hS : va_S A s.heap H locs := by rw [eH, eL]; exact hS
  suffices hgo : W p l e ({ frames := 3, cells := 0, slots := 0, locals := 64 } : Room) s m ([.ref h0, .int a1] : List Value).toArray below meth c H locs 0 0 (MQ below (va_Qi P (fun u t => va_P D vwCl (WQ cI h0 h1 h2 h3 h4 h5 u) t.heap) A) ([.ref h0, .int a1] : List Value).toArray s 0 0 A) (F0 m 0 ls []) by rw [eH, eL] at hgo; exact hgo
  clear eH eL
  refine lv_iload_n hx hb dX6_fetchNumber_0 rfl (lv_at hl 1 rfl) ?_
  refine lv_if_eq (tgt := 11) hx hb dX6_fetchNumber_1 (by decide) (fun c1 => ?_) (fun c1 => ?_)
  · replace hw := hw.1 c1
    refine lv_aload_n hx hb dX6_fetchNumber_11 rfl (lv_at hl 0 rfl) ?_
    refine cl_Vi (As := []) (rest := []) (st := [.ref h0]) S hK hA hP hD hS (fr_Q u) (kcX6_fetch l D cB cI h0 h1 h2 h3 h4 h5 H.size  u _ hw) (cwV 0 hts gX6_fetchNumber_X6_fetch rfl rfl rfl (by decide +kernel) ⟨Nat.le_of_ble_eq_true rfl, Nat.le_of_ble_eq_true rfl⟩) tru_h tru_b 0 rfl rfl rfl rfl rfl hl.1 (Nat.le_of_ble_eq_true rfl) dX6_fetchNumber_12 ⟨Nat.zero_le _, Nat.zero_le _⟩ (fun r3 u2 H locs hP hD hS hw => ?_)
    replace hP : va_P D vwCl (WQ cI h0 h1 h2 h3 h4 h5 u2) H := hP
    replace hD : va_D A (WQ cI h0 h1 h2 h3 h4 h5 u2) := hD
    exact rt_i (wo := (fun v => WQ cI h0 h1 h2 h3 h4 h5 v)) S hr hlk u2 hP hS hw dX6_fetchNumber_15
  · replace hw := hw.2 c1
    refine lv_aload_n hx hb dX6_fetchNumber_4 rfl (lv_at hl 0 rfl) ?_
    refine cl_Vi (As := []) (rest := []) (st := [.ref h0]) S hK hA hP hD hS (fr_Q u) (kcX6_fetchWord l D cB cI h0 h1 h2 h3 h4 h5 H.size  u _ hw) (cwV 0 hts gX6_fetchNumber_X6_fetchWord rfl rfl rfl (by decide +kernel) ⟨Nat.le_of_ble_eq_true rfl, Nat.le_of_ble_eq_true rfl⟩) tru_h tru_b 0 rfl rfl rfl rfl rfl hl.1 (Nat.le_of_ble_eq_true rfl) dX6_fetchNumber_5 ⟨Nat.zero_le _, Nat.zero_le _⟩ (fun r5 u4 H locs hP hD hS hw => ?_)
    replace hP : va_P D vwCl (WQ cI h0 h1 h2 h3 h4 h5 u4) H := hP
    replace hD : va_D A (WQ cI h0 h1 h2 h3 h4 h5 u4) := hD
    refine lv_goto (tgt := 15) hx hb dX6_fetchNumber_8 (by decide) ?_
    exact rt_i (wo := (fun v => WQ cI h0 h1 h2 h3 h4 h5 v)) S hr hlk u4 hP hS hw dX6_fetchNumber_15
-- X6_segmentOr
def wX6_segmentOr (a1 : Int32) (u : SQ) (P : Int32 → SQ → Prop) : Prop := (((q_segment u) = (-1 : Int32) → (vp_in a1 4 ∧ (P ((q_segments u) a1.toNatClampNeg) u))) ∧ (¬ (q_segment u) = (-1 : Int32) → (vp_in (q_segment u) 4 ∧ (P ((q_segments u) (q_segment u).toNatClampNeg) u))))
set_option maxHeartbeats 4000000 in
set_option maxRecDepth 100000 in
theorem kcX6_segmentOr (l : Launch) (D : va_G) (cB cI : ClassId) (h0 h1 h2 h3 h4 h5 : Nat) (sz : Nat) (a1 : Int32) (u : SQ) (P : Int32 → SQ → Prop) (hw : wX6_segmentOr a1 u P) : Met l yX6_segmentOr wsX6_segmentOr ({ frames := 0, cells := 0, slots := 0, locals := 0 } : Room) (va_Pc [.ref h0, .int a1] (Pcw D (tyA cB cI) (WQ cI h0 h1 h2 h3 h4 h5 u) sz Tru)) (va_Qi P (fun u t => va_P D vwCl (WQ cI h0 h1 h2 h3 h4 h5 u) t.heap) (va_A (WQ cI h0 h1 h2 h3 h4 h5 u) sz)) 0 0 (va_A (WQ cI h0 h1 h2 h3 h4 h5 u) sz) := by
  refine en_ (cc := cX6_segmentOr) (maxL := 2) (ret := (some .int)) (own := RX6) (lv := [(0, .ref h0), (1, .int a1)]) (Qf := fun A => va_Qi P (fun u t => va_P D vwCl (WQ cI h0 h1 h2 h3 h4 h5 u) t.heap) A) (by decide) rfl rfl (Nat.le_of_ble_eq_true rfl) rfl ?_
  intro p e s m below meth c A ls S hr hlk hname hsz hP hK hD hA hSub hS hE hl
  have hx := S.1
  have hb := S.2.1
  have hown := S.2.2.2.1
  have hts := S.2.2.2.2
  have i_X6 : ∀ w ∈ u_ws RX6 TX6 29, w ∈ wsX6_segmentOr := by decide +kernel
  have f_13 := hts (.fieldLink RX6 13 "MachineCoreModel" "segments" "[I") (by decide +kernel)
  have f_124 := hts (.fieldLink RX6 124 "MachineCoreModel" "segment" "I") (by decide +kernel)
  unfold wX6_segmentOr at hw
  obtain ⟨H, eH⟩ : ∃ H, H = s.heap := ⟨_, rfl⟩
  obtain ⟨locs, eL⟩ : ∃ locs : List Loc, locs = [] := ⟨_, rfl⟩
  replace hP : va_P D vwCl (WQ cI h0 h1 h2 h3 h4 h5 u) H := by rw [eH]; exact hP
  replace hS : va_S A s.heap H locs := by rw [eH, eL]; exact hS
  suffices hgo : W p l e ({ frames := 0, cells := 0, slots := 0, locals := 0 } : Room) s m ([.ref h0, .int a1] : List Value).toArray below meth c H locs 0 0 (MQ below (va_Qi P (fun u t => va_P D vwCl (WQ cI h0 h1 h2 h3 h4 h5 u) t.heap) A) ([.ref h0, .int a1] : List Value).toArray s 0 0 A) (F0 m 0 ls []) by rw [eH, eL] at hgo; exact hgo
  clear eH eL
  refine lv_aload_n hx hb dX6_segmentOr_0 rfl (lv_at hl 0 rfl) ?_
  refine va_get (D := D) (ci := 6) (v := .ref h2) (C := RX6) (T := TX6) (N := 29) hx hb hts i_X6 hown hK hP 0 rfl rfl 2 (by decide) f_13 (fun _ h9 => h9) rfl dX6_segmentOr_1 ?_
  refine lv_aload_n hx hb dX6_segmentOr_4 rfl (lv_at hl 0 rfl) ?_
  refine va_get (D := D) (ci := 6) (v := .int (q_segment u)) (C := RX6) (T := TX6) (N := 29) hx hb hts i_X6 hown hK hP 0 rfl rfl 19 (by decide) f_124 (fun _ h9 => h9) rfl dX6_segmentOr_5 ?_
  refine lv_iconst (v := (-1 : Int32)) hx hb dX6_segmentOr_8 (by decide) ?_
  refine lv_icmp_ne (tgt := 16) hx hb dX6_segmentOr_9 (by decide) (fun c1 => ?_) (fun c1 => ?_)
  · replace hw := hw.2 c1
    refine lv_aload_n hx hb dX6_segmentOr_16 rfl (lv_at hl 0 rfl) ?_
    refine va_get (D := D) (ci := 6) (v := .int (q_segment u)) (C := RX6) (T := TX6) (N := 29) hx hb hts i_X6 hown hK hP 0 rfl rfl 19 (by decide) f_124 (fun _ h9 => h9) rfl dX6_segmentOr_17 ?_
    refine va_iald hx hb hK hP 2 1 (f := (q_segments u)) rfl rfl hw.1 dX6_segmentOr_20 ?_
    replace hw := hw.2
    exact rt_i (wo := (fun v => WQ cI h0 h1 h2 h3 h4 h5 v)) S hr hlk u hP hS hw dX6_segmentOr_21
  · replace hw := hw.1 c1
    refine lv_iload_n hx hb dX6_segmentOr_12 rfl (lv_at hl 1 rfl) ?_
    refine lv_goto (tgt := 20) hx hb dX6_segmentOr_13 (by decide) ?_
    refine va_iald hx hb hK hP 2 1 (f := (q_segments u)) rfl rfl hw.1 dX6_segmentOr_20 ?_
    replace hw := hw.2
    exact rt_i (wo := (fun v => WQ cI h0 h1 h2 h3 h4 h5 v)) S hr hlk u hP hS hw dX6_segmentOr_21
-- X6_fetchMode
def wX6_fetchMode_b300  (P : SQ → Prop) (s2 : Int32) (u : SQ) : Prop := (wX6_segmentOr s2 u (fun r33 u32 => (P (qs_place u32 r33))))
def wX6_fetchMode_b299  (P : SQ → Prop)  (u : SQ) : Prop := (wX6_fetchMode_b300  P (3 : Int32) u)
def wX6_fetchMode_b295  (P : SQ → Prop)  (u : SQ) : Prop := (wX6_fetchMode_b300  P (2 : Int32) u)
def wX6_fetchMode_b261  (P : SQ → Prop) (x2 : Int32) (s1 : Int32) (u : SQ) : Prop := ((x2 = (0 : Int32) → (((q_m u) = (2 : Int32) → (wX6_fetchMode_b295  P (qs_offset u s1))) ∧ (¬ (q_m u) = (2 : Int32) → (((q_m u) = (3 : Int32) → (wX6_fetchMode_b295  P (qs_offset u s1))) ∧ (¬ (q_m u) = (3 : Int32) → (((q_m u) = (6 : Int32) → (wX6_fetchMode_b295  P (qs_offset u s1))) ∧ (¬ (q_m u) = (6 : Int32) → (wX6_fetchMode_b299  P (qs_offset u s1))))))))) ∧ (¬ x2 = (0 : Int32) → (wX6_fetchMode_b299  P (qs_offset u s1))))
def wX6_fetchMode_b239  (P : SQ → Prop) (x2 : Int32) (x3 : Int32) (x4 : Int32) (s0 : Int32) (u : SQ) : Prop := ((x2 = (0 : Int32) → (wX6_fetchMode_b261  P x2 (((x3 + x4) + s0) &&& (65535 : Int32)) u)) ∧ (¬ x2 = (0 : Int32) → (wX6_fetchMode_b261  P x2 s0 u)))
def wX6_fetchMode_b213  (P : SQ → Prop) (x2 : Int32) (x3 : Int32) (x4 : Int32) (u : SQ) : Prop := (wX6_fetchWord  u (fun r26 u25 => (wX6_fetchMode_b239  P x2 x3 x4 r26 u25)))
def wX6_fetchMode_b199  (P : SQ → Prop) (x2 : Int32) (x3 : Int32) (s0 : Int32) (u : SQ) : Prop := ((x2 = (0 : Int32) → (((q_mode u) = (2 : Int32) → (wX6_fetchMode_b213  P x2 x3 s0 u)) ∧ (¬ (q_mode u) = (2 : Int32) → (((q_mode u) = (1 : Int32) → (wX6_fetch  u (fun r22 u21 => (wX6_extended r22 () (fun r24 u23 => (wX6_fetchMode_b239  P x2 x3 s0 r24 u21)))))) ∧ (¬ (q_mode u) = (1 : Int32) → (wX6_fetchMode_b239  P x2 x3 s0 (0 : Int32) u)))))) ∧ (¬ x2 = (0 : Int32) → (wX6_fetchMode_b213  P x2 x3 s0 u)))
def wX6_fetchMode_b188  (P : SQ → Prop) (x2 : Int32) (x3 : Int32) (u : SQ) : Prop := (vp_in (7 : Int32) 8 ∧ (wX6_fetchMode_b199  P x2 x3 ((q_registers u) (7 : Int32).toNatClampNeg) u))
def wX6_fetchMode_b154  (P : SQ → Prop) (x2 : Int32) (x3 : Int32) (u : SQ) : Prop := (vp_in (6 : Int32) 8 ∧ (wX6_fetchMode_b199  P x2 x3 ((q_registers u) (6 : Int32).toNatClampNeg) u))
def wX6_fetchMode_b130  (P : SQ → Prop) (x2 : Int32) (s0 : Int32) (u : SQ) : Prop := (((q_m u) = (0 : Int32) → (wX6_fetchMode_b154  P x2 s0 u)) ∧ (¬ (q_m u) = (0 : Int32) → (((q_m u) = (2 : Int32) → (wX6_fetchMode_b154  P x2 s0 u)) ∧ (¬ (q_m u) = (2 : Int32) → (((q_m u) = (4 : Int32) → (wX6_fetchMode_b154  P x2 s0 u)) ∧ (¬ (q_m u) = (4 : Int32) → (((q_m u) = (1 : Int32) → (wX6_fetchMode_b188  P x2 s0 u)) ∧ (¬ (q_m u) = (1 : Int32) → (((q_m u) = (3 : Int32) → (wX6_fetchMode_b188  P x2 s0 u)) ∧ (¬ (q_m u) = (3 : Int32) → (((q_m u) = (5 : Int32) → (wX6_fetchMode_b188  P x2 s0 u)) ∧ (¬ (q_m u) = (5 : Int32) → (wX6_fetchMode_b199  P x2 s0 (0 : Int32) u)))))))))))))
def wX6_fetchMode_b120  (P : SQ → Prop) (x2 : Int32) (u : SQ) : Prop := (vp_in (5 : Int32) 8 ∧ (wX6_fetchMode_b130  P x2 ((q_registers u) (5 : Int32).toNatClampNeg) u))
def wX6_fetchMode_b86  (P : SQ → Prop) (x2 : Int32) (u : SQ) : Prop := (vp_in (3 : Int32) 8 ∧ (wX6_fetchMode_b130  P x2 ((q_registers u) (3 : Int32).toNatClampNeg) u))
def wX6_fetchMode_b61  (P : SQ → Prop) (s0 : Int32) (u : SQ) : Prop := (((q_m u) = (0 : Int32) → (wX6_fetchMode_b86  P s0 u)) ∧ (¬ (q_m u) = (0 : Int32) → (((q_m u) = (1 : Int32) → (wX6_fetchMode_b86  P s0 u)) ∧ (¬ (q_m u) = (1 : Int32) → (((q_m u) = (7 : Int32) → (wX6_fetchMode_b86  P s0 u)) ∧ (¬ (q_m u) = (7 : Int32) → (((q_m u) = (2 : Int32) → (wX6_fetchMode_b120  P s0 u)) ∧ (¬ (q_m u) = (2 : Int32) → (((q_m u) = (3 : Int32) → (wX6_fetchMode_b120  P s0 u)) ∧ (¬ (q_m u) = (3 : Int32) → (((q_m u) = (6 : Int32) → (wX6_fetchMode_b120  P s0 u)) ∧ (¬ (q_m u) = (6 : Int32) → (wX6_fetchMode_b130  P s0 (0 : Int32) u)))))))))))))
def wX6_fetchMode_b60  (P : SQ → Prop)  (u : SQ) : Prop := (wX6_fetchMode_b61  P (0 : Int32) u)
def wX6_fetchMode  (u : SQ) (P : SQ → Prop) : Prop := (wX6_fetch  u (fun r2 u1 => (((r2 >>> ((6 : Int32) &&& 31)) = (3 : Int32) → (P (qs_m (qs_r (qs_mode u1 (r2 >>> ((6 : Int32) &&& 31))) ((r2 >>> ((3 : Int32) &&& 31)) &&& (7 : Int32))) (r2 &&& (7 : Int32))))) ∧ (¬ (r2 >>> ((6 : Int32) &&& 31)) = (3 : Int32) → (((r2 >>> ((6 : Int32) &&& 31)) = (0 : Int32) → (((r2 &&& (7 : Int32)) = (6 : Int32) → (wX6_fetchMode_b61  P (1 : Int32) (qs_m (qs_r (qs_mode u1 (r2 >>> ((6 : Int32) &&& 31))) ((r2 >>> ((3 : Int32) &&& 31)) &&& (7 : Int32))) (r2 &&& (7 : Int32))))) ∧ (¬ (r2 &&& (7 : Int32)) = (6 : Int32) → (wX6_fetchMode_b60  P (qs_m (qs_r (qs_mode u1 (r2 >>> ((6 : Int32) &&& 31))) ((r2 >>> ((3 : Int32) &&& 31)) &&& (7 : Int32))) (r2 &&& (7 : Int32))))))) ∧ (¬ (r2 >>> ((6 : Int32) &&& 31)) = (0 : Int32) → (wX6_fetchMode_b60  P (qs_m (qs_r (qs_mode u1 (r2 >>> ((6 : Int32) &&& 31))) ((r2 >>> ((3 : Int32) &&& 31)) &&& (7 : Int32))) (r2 &&& (7 : Int32))))))))))
set_option maxHeartbeats 4000000 in
set_option maxRecDepth 100000 in
theorem kcX6_fetchMode (l : Launch) (D : va_G) (cB cI : ClassId) (h0 h1 h2 h3 h4 h5 : Nat) (sz : Nat)  (u : SQ) (P : SQ → Prop) (hw : wX6_fetchMode  u P) : Met l yX6_fetchMode wsX6_fetchMode ({ frames := 3, cells := 0, slots := 0, locals := 64 } : Room) (va_Pc [.ref h0] (Pcw D (tyA cB cI) (WQ cI h0 h1 h2 h3 h4 h5 u) sz Tru)) (va_Qv P (fun u t => va_P D vwCl (WQ cI h0 h1 h2 h3 h4 h5 u) t.heap) (va_A (WQ cI h0 h1 h2 h3 h4 h5 u) sz)) 0 0 (va_A (WQ cI h0 h1 h2 h3 h4 h5 u) sz) := by
  refine en_ (cc := cX6_fetchMode) (maxL := 6) (ret := none) (own := RX6) (lv := [(0, .ref h0)]) (Qf := fun A => va_Qv P (fun u t => va_P D vwCl (WQ cI h0 h1 h2 h3 h4 h5 u) t.heap) A) (by decide) rfl rfl (Nat.le_of_ble_eq_true rfl) rfl ?_
  intro p e s m below meth c A ls S hr hlk hname hsz hP hK hD hA hSub hS hE hl
  have hx := S.1
  have hb := S.2.1
  have hown := S.2.2.2.1
  have hts := S.2.2.2.2
  have i_X6 : ∀ w ∈ u_ws RX6 TX6 29, w ∈ wsX6_fetchMode := by decide +kernel
  have f_7 := hts (.fieldLink RX6 7 "MachineCoreModel" "registers" "[I") (by decide +kernel)
  have f_127 := hts (.fieldLink RX6 127 "MachineCoreModel" "mode" "I") (by decide +kernel)
  have f_130 := hts (.fieldLink RX6 130 "MachineCoreModel" "r" "I") (by decide +kernel)
  have f_133 := hts (.fieldLink RX6 133 "MachineCoreModel" "m" "I") (by decide +kernel)
  have f_139 := hts (.fieldLink RX6 139 "MachineCoreModel" "offset" "I") (by decide +kernel)
  have f_145 := hts (.fieldLink RX6 145 "MachineCoreModel" "place" "I") (by decide +kernel)
  have k_39 := hts (.constant RX6 39 (65535)) (by decide +kernel)
  have b300 : ∀ (s2 : Int32) (u : SQ) (H : Heap) (locs : List Loc) (ls : Array Slot), va_P D vwCl (WQ cI h0 h1 h2 h3 h4 h5 u) H → va_D A (WQ cI h0 h1 h2 h3 h4 h5 u) → va_S A s.heap H locs → lv_has ls 6 [] → wX6_fetchMode_b300  P s2 u → W p l e ({ frames := 3, cells := 0, slots := 0, locals := 64 } : Room) s m ([.ref h0] : List Value).toArray below meth c H locs 0 0 (MQ below (va_Qv P (fun u t => va_P D vwCl (WQ cI h0 h1 h2 h3 h4 h5 u) t.heap) A) ([.ref h0] : List Value).toArray s 0 0 A) (F0 m 300 ls [.int s2, .ref h0, .ref h0]) := by
    intro s2 u H locs ls hP hD hS hl hw
    unfold wX6_fetchMode_b300 at hw
    refine cl_Vi (As := [.int s2]) (rest := [.ref h0]) (st := [.int s2, .ref h0, .ref h0]) S hK hA hP hD hS (fr_Q u) (kcX6_segmentOr l D cB cI h0 h1 h2 h3 h4 h5 H.size s2 u _ hw) (cwV 1 hts gX6_fetchMode_X6_segmentOr rfl rfl rfl (by decide +kernel) ⟨Nat.le_of_ble_eq_true rfl, Nat.le_of_ble_eq_true rfl⟩) tru_h tru_b 0 rfl rfl rfl rfl rfl hl.1 (Nat.le_of_ble_eq_true rfl) dX6_fetchMode_300 ⟨Nat.zero_le _, Nat.zero_le _⟩ (fun r33 u32 H locs hP hD hS hw => ?_)
    replace hP : va_P D vwCl (WQ cI h0 h1 h2 h3 h4 h5 u32) H := hP
    replace hD : va_D A (WQ cI h0 h1 h2 h3 h4 h5 u32) := hD
    refine va_put (D := D) (ci := 6) (v := .int r33) (ty := .int) (C := RX6) (T := TX6) (N := 29) hx hb hts i_X6 tyX6 tyX6_ok nmX6 hown hK hP hD hS 0 rfl rfl 26 (by decide) f_145 (fun _ h9 => h9) rfl (by decide +kernel) rfl rfl (Nat.le_of_ble_eq_true rfl) dX6_fetchMode_303 (fun H locs hP hD hS => ?_)
    replace hP : va_P D vwCl (WQ cI h0 h1 h2 h3 h4 h5 (qs_place u32 r33)) H := hP
    replace hD : va_D A (WQ cI h0 h1 h2 h3 h4 h5 (qs_place u32 r33)) := hD
    exact rt_v (wo := (fun v => WQ cI h0 h1 h2 h3 h4 h5 v)) S hr hlk (qs_place u32 r33) hP hS hw dX6_fetchMode_306
  have b299 : ∀  (u : SQ) (H : Heap) (locs : List Loc) (ls : Array Slot), va_P D vwCl (WQ cI h0 h1 h2 h3 h4 h5 u) H → va_D A (WQ cI h0 h1 h2 h3 h4 h5 u) → va_S A s.heap H locs → lv_has ls 6 [] → wX6_fetchMode_b299  P u → W p l e ({ frames := 3, cells := 0, slots := 0, locals := 64 } : Room) s m ([.ref h0] : List Value).toArray below meth c H locs 0 0 (MQ below (va_Qv P (fun u t => va_P D vwCl (WQ cI h0 h1 h2 h3 h4 h5 u) t.heap) A) ([.ref h0] : List Value).toArray s 0 0 A) (F0 m 299 ls [.ref h0, .ref h0]) := by
    intro u H locs ls hP hD hS hl hw
    unfold wX6_fetchMode_b299 at hw
    refine lv_iconst (v := (3 : Int32)) hx hb dX6_fetchMode_299 (by decide) ?_
    exact b300 (3 : Int32) u H locs ls hP hD hS (lv_sub hl [] rfl) hw
  have b295 : ∀  (u : SQ) (H : Heap) (locs : List Loc) (ls : Array Slot), va_P D vwCl (WQ cI h0 h1 h2 h3 h4 h5 u) H → va_D A (WQ cI h0 h1 h2 h3 h4 h5 u) → va_S A s.heap H locs → lv_has ls 6 [] → wX6_fetchMode_b295  P u → W p l e ({ frames := 3, cells := 0, slots := 0, locals := 64 } : Room) s m ([.ref h0] : List Value).toArray below meth c H locs 0 0 (MQ below (va_Qv P (fun u t => va_P D vwCl (WQ cI h0 h1 h2 h3 h4 h5 u) t.heap) A) ([.ref h0] : List Value).toArray s 0 0 A) (F0 m 295 ls [.ref h0, .ref h0]) := by
    intro u H locs ls hP hD hS hl hw
    unfold wX6_fetchMode_b295 at hw
    refine lv_iconst (v := (2 : Int32)) hx hb dX6_fetchMode_295 (by decide) ?_
    refine lv_goto (tgt := 300) hx hb dX6_fetchMode_296 (by decide) ?_
    exact b300 (2 : Int32) u H locs ls hP hD hS (lv_sub hl [] rfl) hw
  have b261 : ∀ (x2 : Int32) (s1 : Int32) (u : SQ) (H : Heap) (locs : List Loc) (ls : Array Slot), va_P D vwCl (WQ cI h0 h1 h2 h3 h4 h5 u) H → va_D A (WQ cI h0 h1 h2 h3 h4 h5 u) → va_S A s.heap H locs → lv_has ls 6 [(0, .ref h0), (2, .int x2)] → wX6_fetchMode_b261  P x2 s1 u → W p l e ({ frames := 3, cells := 0, slots := 0, locals := 64 } : Room) s m ([.ref h0] : List Value).toArray below meth c H locs 0 0 (MQ below (va_Qv P (fun u t => va_P D vwCl (WQ cI h0 h1 h2 h3 h4 h5 u) t.heap) A) ([.ref h0] : List Value).toArray s 0 0 A) (F0 m 261 ls [.int s1, .ref h0]) := by
    intro x2 s1 u H locs ls hP hD hS hl hw
    unfold wX6_fetchMode_b261 at hw
    refine va_put (D := D) (ci := 6) (v := .int s1) (ty := .int) (C := RX6) (T := TX6) (N := 29) hx hb hts i_X6 tyX6 tyX6_ok nmX6 hown hK hP hD hS 0 rfl rfl 25 (by decide) f_139 (fun _ h9 => h9) rfl (by decide +kernel) rfl rfl (Nat.le_of_ble_eq_true rfl) dX6_fetchMode_261 (fun H locs hP hD hS => ?_)
    replace hP : va_P D vwCl (WQ cI h0 h1 h2 h3 h4 h5 (qs_offset u s1)) H := hP
    replace hD : va_D A (WQ cI h0 h1 h2 h3 h4 h5 (qs_offset u s1)) := hD
    refine lv_aload_n hx hb dX6_fetchMode_264 rfl (lv_at hl 0 rfl) ?_
    refine lv_aload_n hx hb dX6_fetchMode_265 rfl (lv_at hl 0 rfl) ?_
    refine lv_iload_n hx hb dX6_fetchMode_266 rfl (lv_at hl 1 rfl) ?_
    refine lv_if_ne (tgt := 299) hx hb dX6_fetchMode_267 (by decide) (fun c28 => ?_) (fun c28 => ?_)
    · replace hw := hw.2 c28
      exact b299 (qs_offset u s1) H locs ls hP hD hS (lv_sub hl [] rfl) hw
    · replace hw := hw.1 c28
      refine lv_aload_n hx hb dX6_fetchMode_270 rfl (lv_at hl 0 rfl) ?_
      refine va_get (D := D) (ci := 6) (v := .int (q_m u)) (C := RX6) (T := TX6) (N := 29) hx hb hts i_X6 hown hK hP 0 rfl rfl 24 (by decide) f_133 (fun _ h9 => h9) rfl dX6_fetchMode_271 ?_
      refine lv_iconst (v := (2 : Int32)) hx hb dX6_fetchMode_274 (by decide) ?_
      refine lv_icmp_eq (tgt := 295) hx hb dX6_fetchMode_275 (by decide) (fun c29 => ?_) (fun c29 => ?_)
      · replace hw := hw.1 c29
        exact b295 (qs_offset u s1) H locs ls hP hD hS (lv_sub hl [] rfl) hw
      · replace hw := hw.2 c29
        refine lv_aload_n hx hb dX6_fetchMode_278 rfl (lv_at hl 0 rfl) ?_
        refine va_get (D := D) (ci := 6) (v := .int (q_m u)) (C := RX6) (T := TX6) (N := 29) hx hb hts i_X6 hown hK hP 0 rfl rfl 24 (by decide) f_133 (fun _ h9 => h9) rfl dX6_fetchMode_279 ?_
        refine lv_iconst (v := (3 : Int32)) hx hb dX6_fetchMode_282 (by decide) ?_
        refine lv_icmp_eq (tgt := 295) hx hb dX6_fetchMode_283 (by decide) (fun c30 => ?_) (fun c30 => ?_)
        · replace hw := hw.1 c30
          exact b295 (qs_offset u s1) H locs ls hP hD hS (lv_sub hl [] rfl) hw
        · replace hw := hw.2 c30
          refine lv_aload_n hx hb dX6_fetchMode_286 rfl (lv_at hl 0 rfl) ?_
          refine va_get (D := D) (ci := 6) (v := .int (q_m u)) (C := RX6) (T := TX6) (N := 29) hx hb hts i_X6 hown hK hP 0 rfl rfl 24 (by decide) f_133 (fun _ h9 => h9) rfl dX6_fetchMode_287 ?_
          refine lv_bipush (v := (6 : Int32)) hx hb dX6_fetchMode_290 (by decide) ?_
          refine lv_icmp_ne (tgt := 299) hx hb dX6_fetchMode_292 (by decide) (fun c31 => ?_) (fun c31 => ?_)
          · replace hw := hw.2 c31
            exact b299 (qs_offset u s1) H locs ls hP hD hS (lv_sub hl [] rfl) hw
          · replace hw := hw.1 c31
            exact b295 (qs_offset u s1) H locs ls hP hD hS (lv_sub hl [] rfl) hw
  have b239 : ∀ (x2 : Int32) (x3 : Int32) (x4 : Int32) (s0 : Int32) (u : SQ) (H : Heap) (locs : List Loc) (ls : Array Slot), va_P D vwCl (WQ cI h0 h1 h2 h3 h4 h5 u) H → va_D A (WQ cI h0 h1 h2 h3 h4 h5 u) → va_S A s.heap H locs → lv_has ls 6 [(0, .ref h0), (2, .int x2), (3, .int x3), (4, .int x4)] → wX6_fetchMode_b239  P x2 x3 x4 s0 u → W p l e ({ frames := 3, cells := 0, slots := 0, locals := 64 } : Room) s m ([.ref h0] : List Value).toArray below meth c H locs 0 0 (MQ below (va_Qv P (fun u t => va_P D vwCl (WQ cI h0 h1 h2 h3 h4 h5 u) t.heap) A) ([.ref h0] : List Value).toArray s 0 0 A) (F0 m 239 ls [.int s0]) := by
    intro x2 x3 x4 s0 u H locs ls hP hD hS hl hw
    unfold wX6_fetchMode_b239 at hw
    refine lv_istore (lv' := [(5, .int s0), (0, .ref h0), (2, .int x2), (3, .int x3), (4, .int x4)]) hx hb dX6_fetchMode_239 hl (by decide) rfl (fun ls hl => ?_)
    refine lv_aload_n hx hb dX6_fetchMode_241 rfl (lv_at hl 1 rfl) ?_
    refine lv_iload_n hx hb dX6_fetchMode_242 rfl (lv_at hl 2 rfl) ?_
    refine lv_if_eq (tgt := 251) hx hb dX6_fetchMode_243 (by decide) (fun c27 => ?_) (fun c27 => ?_)
    · replace hw := hw.1 c27
      refine lv_iload_n hx hb dX6_fetchMode_251 rfl (lv_at hl 3 rfl) ?_
      refine lv_iload hx hb dX6_fetchMode_252 (lv_at hl 4 rfl) ?_
      refine lv_iadd hx hb dX6_fetchMode_254 ?_
      refine lv_iload hx hb dX6_fetchMode_255 (lv_at hl 0 rfl) ?_
      refine lv_iadd hx hb dX6_fetchMode_257 ?_
      refine lv_ldc (v := (65535 : Int32)) hx hb hown k_39 dX6_fetchMode_258 ?_
      refine lv_iand hx hb dX6_fetchMode_260 ?_
      exact b261 x2 (((x3 + x4) + s0) &&& (65535 : Int32)) u H locs ls hP hD hS (lv_sub hl [1, 2] rfl) hw
    · replace hw := hw.2 c27
      refine lv_iload hx hb dX6_fetchMode_246 (lv_at hl 0 rfl) ?_
      refine lv_goto (tgt := 261) hx hb dX6_fetchMode_248 (by decide) ?_
      exact b261 x2 s0 u H locs ls hP hD hS (lv_sub hl [1, 2] rfl) hw
  have b213 : ∀ (x2 : Int32) (x3 : Int32) (x4 : Int32) (u : SQ) (H : Heap) (locs : List Loc) (ls : Array Slot), va_P D vwCl (WQ cI h0 h1 h2 h3 h4 h5 u) H → va_D A (WQ cI h0 h1 h2 h3 h4 h5 u) → va_S A s.heap H locs → lv_has ls 6 [(0, .ref h0), (2, .int x2), (3, .int x3), (4, .int x4)] → wX6_fetchMode_b213  P x2 x3 x4 u → W p l e ({ frames := 3, cells := 0, slots := 0, locals := 64 } : Room) s m ([.ref h0] : List Value).toArray below meth c H locs 0 0 (MQ below (va_Qv P (fun u t => va_P D vwCl (WQ cI h0 h1 h2 h3 h4 h5 u) t.heap) A) ([.ref h0] : List Value).toArray s 0 0 A) (F0 m 213 ls []) := by
    intro x2 x3 x4 u H locs ls hP hD hS hl hw
    unfold wX6_fetchMode_b213 at hw
    refine lv_aload_n hx hb dX6_fetchMode_213 rfl (lv_at hl 0 rfl) ?_
    refine cl_Vi (As := []) (rest := []) (st := [.ref h0]) S hK hA hP hD hS (fr_Q u) (kcX6_fetchWord l D cB cI h0 h1 h2 h3 h4 h5 H.size  u _ hw) (cwV 0 hts gX6_fetchMode_X6_fetchWord rfl rfl rfl (by decide +kernel) ⟨Nat.le_of_ble_eq_true rfl, Nat.le_of_ble_eq_true rfl⟩) tru_h tru_b 0 rfl rfl rfl rfl rfl hl.1 (Nat.le_of_ble_eq_true rfl) dX6_fetchMode_214 ⟨Nat.zero_le _, Nat.zero_le _⟩ (fun r26 u25 H locs hP hD hS hw => ?_)
    replace hP : va_P D vwCl (WQ cI h0 h1 h2 h3 h4 h5 u25) H := hP
    replace hD : va_D A (WQ cI h0 h1 h2 h3 h4 h5 u25) := hD
    refine lv_goto (tgt := 239) hx hb dX6_fetchMode_217 (by decide) ?_
    exact b239 x2 x3 x4 r26 u25 H locs ls hP hD hS (lv_sub hl [0, 1, 2, 3] rfl) hw
  have b199 : ∀ (x2 : Int32) (x3 : Int32) (s0 : Int32) (u : SQ) (H : Heap) (locs : List Loc) (ls : Array Slot), va_P D vwCl (WQ cI h0 h1 h2 h3 h4 h5 u) H → va_D A (WQ cI h0 h1 h2 h3 h4 h5 u) → va_S A s.heap H locs → lv_has ls 6 [(0, .ref h0), (2, .int x2), (3, .int x3)] → wX6_fetchMode_b199  P x2 x3 s0 u → W p l e ({ frames := 3, cells := 0, slots := 0, locals := 64 } : Room) s m ([.ref h0] : List Value).toArray below meth c H locs 0 0 (MQ below (va_Qv P (fun u t => va_P D vwCl (WQ cI h0 h1 h2 h3 h4 h5 u) t.heap) A) ([.ref h0] : List Value).toArray s 0 0 A) (F0 m 199 ls [.int s0]) := by
    intro x2 x3 s0 u H locs ls hP hD hS hl hw
    unfold wX6_fetchMode_b199 at hw
    refine lv_istore (lv' := [(4, .int s0), (0, .ref h0), (2, .int x2), (3, .int x3)]) hx hb dX6_fetchMode_199 hl (by decide) rfl (fun ls hl => ?_)
    refine lv_iload_n hx hb dX6_fetchMode_201 rfl (lv_at hl 2 rfl) ?_
    refine lv_if_ne (tgt := 213) hx hb dX6_fetchMode_202 (by decide) (fun c18 => ?_) (fun c18 => ?_)
    · replace hw := hw.2 c18
      exact b213 x2 x3 s0 u H locs ls hP hD hS (lv_sub hl [1, 2, 3, 0] rfl) hw
    · replace hw := hw.1 c18
      refine lv_aload_n hx hb dX6_fetchMode_205 rfl (lv_at hl 1 rfl) ?_
      refine va_get (D := D) (ci := 6) (v := .int (q_mode u)) (C := RX6) (T := TX6) (N := 29) hx hb hts i_X6 hown hK hP 0 rfl rfl 22 (by decide) f_127 (fun _ h9 => h9) rfl dX6_fetchMode_206 ?_
      refine lv_iconst (v := (2 : Int32)) hx hb dX6_fetchMode_209 (by decide) ?_
      refine lv_icmp_ne (tgt := 220) hx hb dX6_fetchMode_210 (by decide) (fun c19 => ?_) (fun c19 => ?_)
      · replace hw := hw.2 c19
        refine lv_aload_n hx hb dX6_fetchMode_220 rfl (lv_at hl 1 rfl) ?_
        refine va_get (D := D) (ci := 6) (v := .int (q_mode u)) (C := RX6) (T := TX6) (N := 29) hx hb hts i_X6 hown hK hP 0 rfl rfl 22 (by decide) f_127 (fun _ h9 => h9) rfl dX6_fetchMode_221 ?_
        refine lv_iconst (v := (1 : Int32)) hx hb dX6_fetchMode_224 (by decide) ?_
        refine lv_icmp_ne (tgt := 238) hx hb dX6_fetchMode_225 (by decide) (fun c20 => ?_) (fun c20 => ?_)
        · replace hw := hw.2 c20
          refine lv_iconst (v := (0 : Int32)) hx hb dX6_fetchMode_238 (by decide) ?_
          exact b239 x2 x3 s0 (0 : Int32) u H locs ls hP hD hS (lv_sub hl [1, 2, 3, 0] rfl) hw
        · replace hw := hw.1 c20
          refine lv_aload_n hx hb dX6_fetchMode_228 rfl (lv_at hl 1 rfl) ?_
          refine cl_Vi (As := []) (rest := []) (st := [.ref h0]) S hK hA hP hD hS (fr_Q u) (kcX6_fetch l D cB cI h0 h1 h2 h3 h4 h5 H.size  u _ hw) (cwV 0 hts gX6_fetchMode_X6_fetch rfl rfl rfl (by decide +kernel) ⟨Nat.le_of_ble_eq_true rfl, Nat.le_of_ble_eq_true rfl⟩) tru_h tru_b 0 rfl rfl rfl rfl rfl hl.1 (Nat.le_of_ble_eq_true rfl) dX6_fetchMode_229 ⟨Nat.zero_le _, Nat.zero_le _⟩ (fun r22 u21 H locs hP hD hS hw => ?_)
          replace hP : va_P D vwCl (WQ cI h0 h1 h2 h3 h4 h5 u21) H := hP
          replace hD : va_D A (WQ cI h0 h1 h2 h3 h4 h5 u21) := hD
          refine cl_Si (As := [.int r22]) (rest := []) (st := [.int r22]) S hK hA hP hD hS Fr_nil (kcX6_extended l D cB cI  H.size r22 () _ hw) (va_cwS 1 hts gX6_fetchMode_X6_extended rfl rfl rfl (by decide +kernel) ⟨Nat.le_of_ble_eq_true rfl, Nat.le_of_ble_eq_true rfl⟩) tru_h tru_b rfl rfl hl.1 (Nat.le_of_ble_eq_true rfl) dX6_fetchMode_232 ⟨Nat.zero_le _, Nat.zero_le _⟩ (fun r24 u23 H locs hP hD hS hw => ?_)
          replace hP : va_P D vwCl (WQ cI h0 h1 h2 h3 h4 h5 u21) H := hP
          replace hD : va_D A (WQ cI h0 h1 h2 h3 h4 h5 u21) := hD
          refine lv_goto (tgt := 239) hx hb dX6_fetchMode_235 (by decide) ?_
          exact b239 x2 x3 s0 r24 u21 H locs ls hP hD hS (lv_sub hl [1, 2, 3, 0] rfl) hw
      · replace hw := hw.1 c19
        exact b213 x2 x3 s0 u H locs ls hP hD hS (lv_sub hl [1, 2, 3, 0] rfl) hw
  have b188 : ∀ (x2 : Int32) (x3 : Int32) (u : SQ) (H : Heap) (locs : List Loc) (ls : Array Slot), va_P D vwCl (WQ cI h0 h1 h2 h3 h4 h5 u) H → va_D A (WQ cI h0 h1 h2 h3 h4 h5 u) → va_S A s.heap H locs → lv_has ls 6 [(0, .ref h0), (2, .int x2), (3, .int x3)] → wX6_fetchMode_b188  P x2 x3 u → W p l e ({ frames := 3, cells := 0, slots := 0, locals := 64 } : Room) s m ([.ref h0] : List Value).toArray below meth c H locs 0 0 (MQ below (va_Qv P (fun u t => va_P D vwCl (WQ cI h0 h1 h2 h3 h4 h5 u) t.heap) A) ([.ref h0] : List Value).toArray s 0 0 A) (F0 m 188 ls []) := by
    intro x2 x3 u H locs ls hP hD hS hl hw
    unfold wX6_fetchMode_b188 at hw
    refine lv_aload_n hx hb dX6_fetchMode_188 rfl (lv_at hl 0 rfl) ?_
    refine va_get (D := D) (ci := 6) (v := .ref h1) (C := RX6) (T := TX6) (N := 29) hx hb hts i_X6 hown hK hP 0 rfl rfl 1 (by decide) f_7 (fun _ h9 => h9) rfl dX6_fetchMode_189 ?_
    refine lv_bipush (v := (7 : Int32)) hx hb dX6_fetchMode_192 (by decide) ?_
    refine va_iald hx hb hK hP 1 1 (f := (q_registers u)) rfl rfl hw.1 dX6_fetchMode_194 ?_
    replace hw := hw.2
    refine lv_goto (tgt := 199) hx hb dX6_fetchMode_195 (by decide) ?_
    exact b199 x2 x3 ((q_registers u) (7 : Int32).toNatClampNeg) u H locs ls hP hD hS (lv_sub hl [0, 1, 2] rfl) hw
  have b154 : ∀ (x2 : Int32) (x3 : Int32) (u : SQ) (H : Heap) (locs : List Loc) (ls : Array Slot), va_P D vwCl (WQ cI h0 h1 h2 h3 h4 h5 u) H → va_D A (WQ cI h0 h1 h2 h3 h4 h5 u) → va_S A s.heap H locs → lv_has ls 6 [(0, .ref h0), (2, .int x2), (3, .int x3)] → wX6_fetchMode_b154  P x2 x3 u → W p l e ({ frames := 3, cells := 0, slots := 0, locals := 64 } : Room) s m ([.ref h0] : List Value).toArray below meth c H locs 0 0 (MQ below (va_Qv P (fun u t => va_P D vwCl (WQ cI h0 h1 h2 h3 h4 h5 u) t.heap) A) ([.ref h0] : List Value).toArray s 0 0 A) (F0 m 154 ls []) := by
    intro x2 x3 u H locs ls hP hD hS hl hw
    unfold wX6_fetchMode_b154 at hw
    refine lv_aload_n hx hb dX6_fetchMode_154 rfl (lv_at hl 0 rfl) ?_
    refine va_get (D := D) (ci := 6) (v := .ref h1) (C := RX6) (T := TX6) (N := 29) hx hb hts i_X6 hown hK hP 0 rfl rfl 1 (by decide) f_7 (fun _ h9 => h9) rfl dX6_fetchMode_155 ?_
    refine lv_bipush (v := (6 : Int32)) hx hb dX6_fetchMode_158 (by decide) ?_
    refine va_iald hx hb hK hP 1 1 (f := (q_registers u)) rfl rfl hw.1 dX6_fetchMode_160 ?_
    replace hw := hw.2
    refine lv_goto (tgt := 199) hx hb dX6_fetchMode_161 (by decide) ?_
    exact b199 x2 x3 ((q_registers u) (6 : Int32).toNatClampNeg) u H locs ls hP hD hS (lv_sub hl [0, 1, 2] rfl) hw
  have b130 : ∀ (x2 : Int32) (s0 : Int32) (u : SQ) (H : Heap) (locs : List Loc) (ls : Array Slot), va_P D vwCl (WQ cI h0 h1 h2 h3 h4 h5 u) H → va_D A (WQ cI h0 h1 h2 h3 h4 h5 u) → va_S A s.heap H locs → lv_has ls 6 [(0, .ref h0), (2, .int x2)] → wX6_fetchMode_b130  P x2 s0 u → W p l e ({ frames := 3, cells := 0, slots := 0, locals := 64 } : Room) s m ([.ref h0] : List Value).toArray below meth c H locs 0 0 (MQ below (va_Qv P (fun u t => va_P D vwCl (WQ cI h0 h1 h2 h3 h4 h5 u) t.heap) A) ([.ref h0] : List Value).toArray s 0 0 A) (F0 m 130 ls [.int s0]) := by
    intro x2 s0 u H locs ls hP hD hS hl hw
    unfold wX6_fetchMode_b130 at hw
    refine lv_istore_n (lv' := [(3, .int s0), (0, .ref h0), (2, .int x2)]) hx hb dX6_fetchMode_130 rfl hl (by decide) rfl (fun ls hl => ?_)
    refine lv_aload_n hx hb dX6_fetchMode_131 rfl (lv_at hl 1 rfl) ?_
    refine va_get (D := D) (ci := 6) (v := .int (q_m u)) (C := RX6) (T := TX6) (N := 29) hx hb hts i_X6 hown hK hP 0 rfl rfl 24 (by decide) f_133 (fun _ h9 => h9) rfl dX6_fetchMode_132 ?_
    refine lv_if_eq (tgt := 154) hx hb dX6_fetchMode_135 (by decide) (fun c12 => ?_) (fun c12 => ?_)
    · replace hw := hw.1 c12
      exact b154 x2 s0 u H locs ls hP hD hS (lv_sub hl [1, 2, 0] rfl) hw
    · replace hw := hw.2 c12
      refine lv_aload_n hx hb dX6_fetchMode_138 rfl (lv_at hl 1 rfl) ?_
      refine va_get (D := D) (ci := 6) (v := .int (q_m u)) (C := RX6) (T := TX6) (N := 29) hx hb hts i_X6 hown hK hP 0 rfl rfl 24 (by decide) f_133 (fun _ h9 => h9) rfl dX6_fetchMode_139 ?_
      refine lv_iconst (v := (2 : Int32)) hx hb dX6_fetchMode_142 (by decide) ?_
      refine lv_icmp_eq (tgt := 154) hx hb dX6_fetchMode_143 (by decide) (fun c13 => ?_) (fun c13 => ?_)
      · replace hw := hw.1 c13
        exact b154 x2 s0 u H locs ls hP hD hS (lv_sub hl [1, 2, 0] rfl) hw
      · replace hw := hw.2 c13
        refine lv_aload_n hx hb dX6_fetchMode_146 rfl (lv_at hl 1 rfl) ?_
        refine va_get (D := D) (ci := 6) (v := .int (q_m u)) (C := RX6) (T := TX6) (N := 29) hx hb hts i_X6 hown hK hP 0 rfl rfl 24 (by decide) f_133 (fun _ h9 => h9) rfl dX6_fetchMode_147 ?_
        refine lv_iconst (v := (4 : Int32)) hx hb dX6_fetchMode_150 (by decide) ?_
        refine lv_icmp_ne (tgt := 164) hx hb dX6_fetchMode_151 (by decide) (fun c14 => ?_) (fun c14 => ?_)
        · replace hw := hw.2 c14
          refine lv_aload_n hx hb dX6_fetchMode_164 rfl (lv_at hl 1 rfl) ?_
          refine va_get (D := D) (ci := 6) (v := .int (q_m u)) (C := RX6) (T := TX6) (N := 29) hx hb hts i_X6 hown hK hP 0 rfl rfl 24 (by decide) f_133 (fun _ h9 => h9) rfl dX6_fetchMode_165 ?_
          refine lv_iconst (v := (1 : Int32)) hx hb dX6_fetchMode_168 (by decide) ?_
          refine lv_icmp_eq (tgt := 188) hx hb dX6_fetchMode_169 (by decide) (fun c15 => ?_) (fun c15 => ?_)
          · replace hw := hw.1 c15
            exact b188 x2 s0 u H locs ls hP hD hS (lv_sub hl [1, 2, 0] rfl) hw
          · replace hw := hw.2 c15
            refine lv_aload_n hx hb dX6_fetchMode_172 rfl (lv_at hl 1 rfl) ?_
            refine va_get (D := D) (ci := 6) (v := .int (q_m u)) (C := RX6) (T := TX6) (N := 29) hx hb hts i_X6 hown hK hP 0 rfl rfl 24 (by decide) f_133 (fun _ h9 => h9) rfl dX6_fetchMode_173 ?_
            refine lv_iconst (v := (3 : Int32)) hx hb dX6_fetchMode_176 (by decide) ?_
            refine lv_icmp_eq (tgt := 188) hx hb dX6_fetchMode_177 (by decide) (fun c16 => ?_) (fun c16 => ?_)
            · replace hw := hw.1 c16
              exact b188 x2 s0 u H locs ls hP hD hS (lv_sub hl [1, 2, 0] rfl) hw
            · replace hw := hw.2 c16
              refine lv_aload_n hx hb dX6_fetchMode_180 rfl (lv_at hl 1 rfl) ?_
              refine va_get (D := D) (ci := 6) (v := .int (q_m u)) (C := RX6) (T := TX6) (N := 29) hx hb hts i_X6 hown hK hP 0 rfl rfl 24 (by decide) f_133 (fun _ h9 => h9) rfl dX6_fetchMode_181 ?_
              refine lv_iconst (v := (5 : Int32)) hx hb dX6_fetchMode_184 (by decide) ?_
              refine lv_icmp_ne (tgt := 198) hx hb dX6_fetchMode_185 (by decide) (fun c17 => ?_) (fun c17 => ?_)
              · replace hw := hw.2 c17
                refine lv_iconst (v := (0 : Int32)) hx hb dX6_fetchMode_198 (by decide) ?_
                exact b199 x2 s0 (0 : Int32) u H locs ls hP hD hS (lv_sub hl [1, 2, 0] rfl) hw
              · replace hw := hw.1 c17
                exact b188 x2 s0 u H locs ls hP hD hS (lv_sub hl [1, 2, 0] rfl) hw
        · replace hw := hw.1 c14
          exact b154 x2 s0 u H locs ls hP hD hS (lv_sub hl [1, 2, 0] rfl) hw
  have b120 : ∀ (x2 : Int32) (u : SQ) (H : Heap) (locs : List Loc) (ls : Array Slot), va_P D vwCl (WQ cI h0 h1 h2 h3 h4 h5 u) H → va_D A (WQ cI h0 h1 h2 h3 h4 h5 u) → va_S A s.heap H locs → lv_has ls 6 [(0, .ref h0), (2, .int x2)] → wX6_fetchMode_b120  P x2 u → W p l e ({ frames := 3, cells := 0, slots := 0, locals := 64 } : Room) s m ([.ref h0] : List Value).toArray below meth c H locs 0 0 (MQ below (va_Qv P (fun u t => va_P D vwCl (WQ cI h0 h1 h2 h3 h4 h5 u) t.heap) A) ([.ref h0] : List Value).toArray s 0 0 A) (F0 m 120 ls []) := by
    intro x2 u H locs ls hP hD hS hl hw
    unfold wX6_fetchMode_b120 at hw
    refine lv_aload_n hx hb dX6_fetchMode_120 rfl (lv_at hl 0 rfl) ?_
    refine va_get (D := D) (ci := 6) (v := .ref h1) (C := RX6) (T := TX6) (N := 29) hx hb hts i_X6 hown hK hP 0 rfl rfl 1 (by decide) f_7 (fun _ h9 => h9) rfl dX6_fetchMode_121 ?_
    refine lv_iconst (v := (5 : Int32)) hx hb dX6_fetchMode_124 (by decide) ?_
    refine va_iald hx hb hK hP 1 1 (f := (q_registers u)) rfl rfl hw.1 dX6_fetchMode_125 ?_
    replace hw := hw.2
    refine lv_goto (tgt := 130) hx hb dX6_fetchMode_126 (by decide) ?_
    exact b130 x2 ((q_registers u) (5 : Int32).toNatClampNeg) u H locs ls hP hD hS (lv_sub hl [0, 1] rfl) hw
  have b86 : ∀ (x2 : Int32) (u : SQ) (H : Heap) (locs : List Loc) (ls : Array Slot), va_P D vwCl (WQ cI h0 h1 h2 h3 h4 h5 u) H → va_D A (WQ cI h0 h1 h2 h3 h4 h5 u) → va_S A s.heap H locs → lv_has ls 6 [(0, .ref h0), (2, .int x2)] → wX6_fetchMode_b86  P x2 u → W p l e ({ frames := 3, cells := 0, slots := 0, locals := 64 } : Room) s m ([.ref h0] : List Value).toArray below meth c H locs 0 0 (MQ below (va_Qv P (fun u t => va_P D vwCl (WQ cI h0 h1 h2 h3 h4 h5 u) t.heap) A) ([.ref h0] : List Value).toArray s 0 0 A) (F0 m 86 ls []) := by
    intro x2 u H locs ls hP hD hS hl hw
    unfold wX6_fetchMode_b86 at hw
    refine lv_aload_n hx hb dX6_fetchMode_86 rfl (lv_at hl 0 rfl) ?_
    refine va_get (D := D) (ci := 6) (v := .ref h1) (C := RX6) (T := TX6) (N := 29) hx hb hts i_X6 hown hK hP 0 rfl rfl 1 (by decide) f_7 (fun _ h9 => h9) rfl dX6_fetchMode_87 ?_
    refine lv_iconst (v := (3 : Int32)) hx hb dX6_fetchMode_90 (by decide) ?_
    refine va_iald hx hb hK hP 1 1 (f := (q_registers u)) rfl rfl hw.1 dX6_fetchMode_91 ?_
    replace hw := hw.2
    refine lv_goto (tgt := 130) hx hb dX6_fetchMode_92 (by decide) ?_
    exact b130 x2 ((q_registers u) (3 : Int32).toNatClampNeg) u H locs ls hP hD hS (lv_sub hl [0, 1] rfl) hw
  have b61 : ∀ (s0 : Int32) (u : SQ) (H : Heap) (locs : List Loc) (ls : Array Slot), va_P D vwCl (WQ cI h0 h1 h2 h3 h4 h5 u) H → va_D A (WQ cI h0 h1 h2 h3 h4 h5 u) → va_S A s.heap H locs → lv_has ls 6 [(0, .ref h0)] → wX6_fetchMode_b61  P s0 u → W p l e ({ frames := 3, cells := 0, slots := 0, locals := 64 } : Room) s m ([.ref h0] : List Value).toArray below meth c H locs 0 0 (MQ below (va_Qv P (fun u t => va_P D vwCl (WQ cI h0 h1 h2 h3 h4 h5 u) t.heap) A) ([.ref h0] : List Value).toArray s 0 0 A) (F0 m 61 ls [.int s0]) := by
    intro s0 u H locs ls hP hD hS hl hw
    unfold wX6_fetchMode_b61 at hw
    refine lv_istore_n (lv' := [(2, .int s0), (0, .ref h0)]) hx hb dX6_fetchMode_61 rfl hl (by decide) rfl (fun ls hl => ?_)
    refine lv_aload_n hx hb dX6_fetchMode_62 rfl (lv_at hl 1 rfl) ?_
    refine va_get (D := D) (ci := 6) (v := .int (q_m u)) (C := RX6) (T := TX6) (N := 29) hx hb hts i_X6 hown hK hP 0 rfl rfl 24 (by decide) f_133 (fun _ h9 => h9) rfl dX6_fetchMode_63 ?_
    refine lv_if_eq (tgt := 86) hx hb dX6_fetchMode_66 (by decide) (fun c6 => ?_) (fun c6 => ?_)
    · replace hw := hw.1 c6
      exact b86 s0 u H locs ls hP hD hS (lv_sub hl [1, 0] rfl) hw
    · replace hw := hw.2 c6
      refine lv_aload_n hx hb dX6_fetchMode_69 rfl (lv_at hl 1 rfl) ?_
      refine va_get (D := D) (ci := 6) (v := .int (q_m u)) (C := RX6) (T := TX6) (N := 29) hx hb hts i_X6 hown hK hP 0 rfl rfl 24 (by decide) f_133 (fun _ h9 => h9) rfl dX6_fetchMode_70 ?_
      refine lv_iconst (v := (1 : Int32)) hx hb dX6_fetchMode_73 (by decide) ?_
      refine lv_icmp_eq (tgt := 86) hx hb dX6_fetchMode_74 (by decide) (fun c7 => ?_) (fun c7 => ?_)
      · replace hw := hw.1 c7
        exact b86 s0 u H locs ls hP hD hS (lv_sub hl [1, 0] rfl) hw
      · replace hw := hw.2 c7
        refine lv_aload_n hx hb dX6_fetchMode_77 rfl (lv_at hl 1 rfl) ?_
        refine va_get (D := D) (ci := 6) (v := .int (q_m u)) (C := RX6) (T := TX6) (N := 29) hx hb hts i_X6 hown hK hP 0 rfl rfl 24 (by decide) f_133 (fun _ h9 => h9) rfl dX6_fetchMode_78 ?_
        refine lv_bipush (v := (7 : Int32)) hx hb dX6_fetchMode_81 (by decide) ?_
        refine lv_icmp_ne (tgt := 95) hx hb dX6_fetchMode_83 (by decide) (fun c8 => ?_) (fun c8 => ?_)
        · replace hw := hw.2 c8
          refine lv_aload_n hx hb dX6_fetchMode_95 rfl (lv_at hl 1 rfl) ?_
          refine va_get (D := D) (ci := 6) (v := .int (q_m u)) (C := RX6) (T := TX6) (N := 29) hx hb hts i_X6 hown hK hP 0 rfl rfl 24 (by decide) f_133 (fun _ h9 => h9) rfl dX6_fetchMode_96 ?_
          refine lv_iconst (v := (2 : Int32)) hx hb dX6_fetchMode_99 (by decide) ?_
          refine lv_icmp_eq (tgt := 120) hx hb dX6_fetchMode_100 (by decide) (fun c9 => ?_) (fun c9 => ?_)
          · replace hw := hw.1 c9
            exact b120 s0 u H locs ls hP hD hS (lv_sub hl [1, 0] rfl) hw
          · replace hw := hw.2 c9
            refine lv_aload_n hx hb dX6_fetchMode_103 rfl (lv_at hl 1 rfl) ?_
            refine va_get (D := D) (ci := 6) (v := .int (q_m u)) (C := RX6) (T := TX6) (N := 29) hx hb hts i_X6 hown hK hP 0 rfl rfl 24 (by decide) f_133 (fun _ h9 => h9) rfl dX6_fetchMode_104 ?_
            refine lv_iconst (v := (3 : Int32)) hx hb dX6_fetchMode_107 (by decide) ?_
            refine lv_icmp_eq (tgt := 120) hx hb dX6_fetchMode_108 (by decide) (fun c10 => ?_) (fun c10 => ?_)
            · replace hw := hw.1 c10
              exact b120 s0 u H locs ls hP hD hS (lv_sub hl [1, 0] rfl) hw
            · replace hw := hw.2 c10
              refine lv_aload_n hx hb dX6_fetchMode_111 rfl (lv_at hl 1 rfl) ?_
              refine va_get (D := D) (ci := 6) (v := .int (q_m u)) (C := RX6) (T := TX6) (N := 29) hx hb hts i_X6 hown hK hP 0 rfl rfl 24 (by decide) f_133 (fun _ h9 => h9) rfl dX6_fetchMode_112 ?_
              refine lv_bipush (v := (6 : Int32)) hx hb dX6_fetchMode_115 (by decide) ?_
              refine lv_icmp_ne (tgt := 129) hx hb dX6_fetchMode_117 (by decide) (fun c11 => ?_) (fun c11 => ?_)
              · replace hw := hw.2 c11
                refine lv_iconst (v := (0 : Int32)) hx hb dX6_fetchMode_129 (by decide) ?_
                exact b130 s0 (0 : Int32) u H locs ls hP hD hS (lv_sub hl [1, 0] rfl) hw
              · replace hw := hw.1 c11
                exact b120 s0 u H locs ls hP hD hS (lv_sub hl [1, 0] rfl) hw
        · replace hw := hw.1 c8
          exact b86 s0 u H locs ls hP hD hS (lv_sub hl [1, 0] rfl) hw
  have b60 : ∀  (u : SQ) (H : Heap) (locs : List Loc) (ls : Array Slot), va_P D vwCl (WQ cI h0 h1 h2 h3 h4 h5 u) H → va_D A (WQ cI h0 h1 h2 h3 h4 h5 u) → va_S A s.heap H locs → lv_has ls 6 [(0, .ref h0)] → wX6_fetchMode_b60  P u → W p l e ({ frames := 3, cells := 0, slots := 0, locals := 64 } : Room) s m ([.ref h0] : List Value).toArray below meth c H locs 0 0 (MQ below (va_Qv P (fun u t => va_P D vwCl (WQ cI h0 h1 h2 h3 h4 h5 u) t.heap) A) ([.ref h0] : List Value).toArray s 0 0 A) (F0 m 60 ls []) := by
    intro u H locs ls hP hD hS hl hw
    unfold wX6_fetchMode_b60 at hw
    refine lv_iconst (v := (0 : Int32)) hx hb dX6_fetchMode_60 (by decide) ?_
    exact b61 (0 : Int32) u H locs ls hP hD hS (lv_sub hl [0] rfl) hw
  unfold wX6_fetchMode at hw
  obtain ⟨H, eH⟩ : ∃ H, H = s.heap := ⟨_, rfl⟩
  obtain ⟨locs, eL⟩ : ∃ locs : List Loc, locs = [] := ⟨_, rfl⟩
  replace hP : va_P D vwCl (WQ cI h0 h1 h2 h3 h4 h5 u) H := by rw [eH]; exact hP
  replace hS : va_S A s.heap H locs := by rw [eH, eL]; exact hS
  suffices hgo : W p l e ({ frames := 3, cells := 0, slots := 0, locals := 64 } : Room) s m ([.ref h0] : List Value).toArray below meth c H locs 0 0 (MQ below (va_Qv P (fun u t => va_P D vwCl (WQ cI h0 h1 h2 h3 h4 h5 u) t.heap) A) ([.ref h0] : List Value).toArray s 0 0 A) (F0 m 0 ls []) by rw [eH, eL] at hgo; exact hgo
  clear eH eL
  refine lv_aload_n hx hb dX6_fetchMode_0 rfl (lv_at hl 0 rfl) ?_
  refine cl_Vi (As := []) (rest := []) (st := [.ref h0]) S hK hA hP hD hS (fr_Q u) (kcX6_fetch l D cB cI h0 h1 h2 h3 h4 h5 H.size  u _ hw) (cwV 0 hts gX6_fetchMode_X6_fetch rfl rfl rfl (by decide +kernel) ⟨Nat.le_of_ble_eq_true rfl, Nat.le_of_ble_eq_true rfl⟩) tru_h tru_b 0 rfl rfl rfl rfl rfl hl.1 (Nat.le_of_ble_eq_true rfl) dX6_fetchMode_1 ⟨Nat.zero_le _, Nat.zero_le _⟩ (fun r2 u1 H locs hP hD hS hw => ?_)
  replace hP : va_P D vwCl (WQ cI h0 h1 h2 h3 h4 h5 u1) H := hP
  replace hD : va_D A (WQ cI h0 h1 h2 h3 h4 h5 u1) := hD
  refine lv_istore_n (lv' := [(1, .int r2), (0, .ref h0)]) hx hb dX6_fetchMode_4 rfl hl (by decide) rfl (fun ls hl => ?_)
  refine lv_aload_n hx hb dX6_fetchMode_5 rfl (lv_at hl 1 rfl) ?_
  refine lv_iload_n hx hb dX6_fetchMode_6 rfl (lv_at hl 0 rfl) ?_
  refine lv_bipush (v := (6 : Int32)) hx hb dX6_fetchMode_7 (by decide) ?_
  refine lv_ishr hx hb dX6_fetchMode_9 ?_
  refine va_put (D := D) (ci := 6) (v := .int (r2 >>> ((6 : Int32) &&& 31))) (ty := .int) (C := RX6) (T := TX6) (N := 29) hx hb hts i_X6 tyX6 tyX6_ok nmX6 hown hK hP hD hS 0 rfl rfl 22 (by decide) f_127 (fun _ h9 => h9) rfl (by decide +kernel) rfl rfl (Nat.le_of_ble_eq_true rfl) dX6_fetchMode_10 (fun H locs hP hD hS => ?_)
  replace hP : va_P D vwCl (WQ cI h0 h1 h2 h3 h4 h5 (qs_mode u1 (r2 >>> ((6 : Int32) &&& 31)))) H := hP
  replace hD : va_D A (WQ cI h0 h1 h2 h3 h4 h5 (qs_mode u1 (r2 >>> ((6 : Int32) &&& 31)))) := hD
  refine lv_aload_n hx hb dX6_fetchMode_13 rfl (lv_at hl 1 rfl) ?_
  refine lv_iload_n hx hb dX6_fetchMode_14 rfl (lv_at hl 0 rfl) ?_
  refine lv_iconst (v := (3 : Int32)) hx hb dX6_fetchMode_15 (by decide) ?_
  refine lv_ishr hx hb dX6_fetchMode_16 ?_
  refine lv_bipush (v := (7 : Int32)) hx hb dX6_fetchMode_17 (by decide) ?_
  refine lv_iand hx hb dX6_fetchMode_19 ?_
  refine va_put (D := D) (ci := 6) (v := .int ((r2 >>> ((3 : Int32) &&& 31)) &&& (7 : Int32))) (ty := .int) (C := RX6) (T := TX6) (N := 29) hx hb hts i_X6 tyX6 tyX6_ok nmX6 hown hK hP hD hS 0 rfl rfl 23 (by decide) f_130 (fun _ h9 => h9) rfl (by decide +kernel) rfl rfl (Nat.le_of_ble_eq_true rfl) dX6_fetchMode_20 (fun H locs hP hD hS => ?_)
  replace hP : va_P D vwCl (WQ cI h0 h1 h2 h3 h4 h5 (qs_r (qs_mode u1 (r2 >>> ((6 : Int32) &&& 31))) ((r2 >>> ((3 : Int32) &&& 31)) &&& (7 : Int32)))) H := hP
  replace hD : va_D A (WQ cI h0 h1 h2 h3 h4 h5 (qs_r (qs_mode u1 (r2 >>> ((6 : Int32) &&& 31))) ((r2 >>> ((3 : Int32) &&& 31)) &&& (7 : Int32)))) := hD
  refine lv_aload_n hx hb dX6_fetchMode_23 rfl (lv_at hl 1 rfl) ?_
  refine lv_iload_n hx hb dX6_fetchMode_24 rfl (lv_at hl 0 rfl) ?_
  refine lv_bipush (v := (7 : Int32)) hx hb dX6_fetchMode_25 (by decide) ?_
  refine lv_iand hx hb dX6_fetchMode_27 ?_
  refine va_put (D := D) (ci := 6) (v := .int (r2 &&& (7 : Int32))) (ty := .int) (C := RX6) (T := TX6) (N := 29) hx hb hts i_X6 tyX6 tyX6_ok nmX6 hown hK hP hD hS 0 rfl rfl 24 (by decide) f_133 (fun _ h9 => h9) rfl (by decide +kernel) rfl rfl (Nat.le_of_ble_eq_true rfl) dX6_fetchMode_28 (fun H locs hP hD hS => ?_)
  replace hP : va_P D vwCl (WQ cI h0 h1 h2 h3 h4 h5 (qs_m (qs_r (qs_mode u1 (r2 >>> ((6 : Int32) &&& 31))) ((r2 >>> ((3 : Int32) &&& 31)) &&& (7 : Int32))) (r2 &&& (7 : Int32)))) H := hP
  replace hD : va_D A (WQ cI h0 h1 h2 h3 h4 h5 (qs_m (qs_r (qs_mode u1 (r2 >>> ((6 : Int32) &&& 31))) ((r2 >>> ((3 : Int32) &&& 31)) &&& (7 : Int32))) (r2 &&& (7 : Int32)))) := hD
  refine lv_aload_n hx hb dX6_fetchMode_31 rfl (lv_at hl 1 rfl) ?_
  refine va_get (D := D) (ci := 6) (v := .int (r2 >>> ((6 : Int32) &&& 31))) (C := RX6) (T := TX6) (N := 29) hx hb hts i_X6 hown hK hP 0 rfl rfl 22 (by decide) f_127 (fun _ h9 => h9) rfl dX6_fetchMode_32 ?_
  refine lv_iconst (v := (3 : Int32)) hx hb dX6_fetchMode_35 (by decide) ?_
  refine lv_icmp_ne (tgt := 40) hx hb dX6_fetchMode_36 (by decide) (fun c3 => ?_) (fun c3 => ?_)
  · replace hw := hw.2 c3
    refine lv_aload_n hx hb dX6_fetchMode_40 rfl (lv_at hl 1 rfl) ?_
    refine va_get (D := D) (ci := 6) (v := .int (r2 >>> ((6 : Int32) &&& 31))) (C := RX6) (T := TX6) (N := 29) hx hb hts i_X6 hown hK hP 0 rfl rfl 22 (by decide) f_127 (fun _ h9 => h9) rfl dX6_fetchMode_41 ?_
    refine lv_if_ne (tgt := 60) hx hb dX6_fetchMode_44 (by decide) (fun c4 => ?_) (fun c4 => ?_)
    · replace hw := hw.2 c4
      exact b60 (qs_m (qs_r (qs_mode u1 (r2 >>> ((6 : Int32) &&& 31))) ((r2 >>> ((3 : Int32) &&& 31)) &&& (7 : Int32))) (r2 &&& (7 : Int32))) H locs ls hP hD hS (lv_sub hl [1] rfl) hw
    · replace hw := hw.1 c4
      refine lv_aload_n hx hb dX6_fetchMode_47 rfl (lv_at hl 1 rfl) ?_
      refine va_get (D := D) (ci := 6) (v := .int (r2 &&& (7 : Int32))) (C := RX6) (T := TX6) (N := 29) hx hb hts i_X6 hown hK hP 0 rfl rfl 24 (by decide) f_133 (fun _ h9 => h9) rfl dX6_fetchMode_48 ?_
      refine lv_bipush (v := (6 : Int32)) hx hb dX6_fetchMode_51 (by decide) ?_
      refine lv_icmp_ne (tgt := 60) hx hb dX6_fetchMode_53 (by decide) (fun c5 => ?_) (fun c5 => ?_)
      · replace hw := hw.2 c5
        exact b60 (qs_m (qs_r (qs_mode u1 (r2 >>> ((6 : Int32) &&& 31))) ((r2 >>> ((3 : Int32) &&& 31)) &&& (7 : Int32))) (r2 &&& (7 : Int32))) H locs ls hP hD hS (lv_sub hl [1] rfl) hw
      · replace hw := hw.1 c5
        refine lv_iconst (v := (1 : Int32)) hx hb dX6_fetchMode_56 (by decide) ?_
        refine lv_goto (tgt := 61) hx hb dX6_fetchMode_57 (by decide) ?_
        exact b61 (1 : Int32) (qs_m (qs_r (qs_mode u1 (r2 >>> ((6 : Int32) &&& 31))) ((r2 >>> ((3 : Int32) &&& 31)) &&& (7 : Int32))) (r2 &&& (7 : Int32))) H locs ls hP hD hS (lv_sub hl [1] rfl) hw
  · replace hw := hw.1 c3
    exact rt_v (wo := (fun v => WQ cI h0 h1 h2 h3 h4 h5 v)) S hr hlk (qs_m (qs_r (qs_mode u1 (r2 >>> ((6 : Int32) &&& 31))) ((r2 >>> ((3 : Int32) &&& 31)) &&& (7 : Int32))) (r2 &&& (7 : Int32))) hP hS hw dX6_fetchMode_39
-- X6_hasMode
def wX6_hasMode_b120  (P : Int32 → SQ → Prop)  (u : SQ) : Prop := (((q_code u) = (246 : Int32) → (P (1 : Int32) u)) ∧ (¬ (q_code u) = (246 : Int32) → (((q_code u) = (247 : Int32) → (P (1 : Int32) u)) ∧ (¬ (q_code u) = (247 : Int32) → (((q_code u) = (254 : Int32) → (P (1 : Int32) u)) ∧ (¬ (q_code u) = (254 : Int32) → (((q_code u) = (255 : Int32) → (P (1 : Int32) u)) ∧ (¬ (q_code u) = (255 : Int32) → (P (0 : Int32) u)))))))))
def wX6_hasMode_b100  (P : Int32 → SQ → Prop)  (u : SQ) : Prop := (((q_code u) < (216 : Int32) → (wX6_hasMode_b120  P u)) ∧ (¬ (q_code u) < (216 : Int32) → (((q_code u) < (224 : Int32) → (P (1 : Int32) u)) ∧ (¬ (q_code u) < (224 : Int32) → (wX6_hasMode_b120  P u)))))
def wX6_hasMode_b40  (P : Int32 → SQ → Prop)  (u : SQ) : Prop := (((q_code u) = (196 : Int32) → (P (1 : Int32) u)) ∧ (¬ (q_code u) = (196 : Int32) → (((q_code u) = (197 : Int32) → (P (1 : Int32) u)) ∧ (¬ (q_code u) = (197 : Int32) → (((q_code u) = (198 : Int32) → (P (1 : Int32) u)) ∧ (¬ (q_code u) = (198 : Int32) → (((q_code u) = (199 : Int32) → (P (1 : Int32) u)) ∧ (¬ (q_code u) = (199 : Int32) → (((q_code u) < (208 : Int32) → (wX6_hasMode_b100  P u)) ∧ (¬ (q_code u) < (208 : Int32) → (((q_code u) < (212 : Int32) → (P (1 : Int32) u)) ∧ (¬ (q_code u) < (212 : Int32) → (wX6_hasMode_b100  P u)))))))))))))
def wX6_hasMode_b20  (P : Int32 → SQ → Prop)  (u : SQ) : Prop := (((q_code u) < (128 : Int32) → (wX6_hasMode_b40  P u)) ∧ (¬ (q_code u) < (128 : Int32) → (((q_code u) < (144 : Int32) → (P (1 : Int32) u)) ∧ (¬ (q_code u) < (144 : Int32) → (wX6_hasMode_b40  P u)))))
def wX6_hasMode  (u : SQ) (P : Int32 → SQ → Prop) : Prop := (((64 : Int32) ≤ (q_code u) → (wX6_hasMode_b20  P u)) ∧ (¬ (64 : Int32) ≤ (q_code u) → ((((q_code u) &&& (7 : Int32)) < (4 : Int32) → (P (1 : Int32) u)) ∧ (¬ ((q_code u) &&& (7 : Int32)) < (4 : Int32) → (wX6_hasMode_b20  P u)))))
set_option maxHeartbeats 4000000 in
set_option maxRecDepth 100000 in
theorem kcX6_hasMode (l : Launch) (D : va_G) (cB cI : ClassId) (h0 h1 h2 h3 h4 h5 : Nat) (sz : Nat)  (u : SQ) (P : Int32 → SQ → Prop) (hw : wX6_hasMode  u P) : Met l yX6_hasMode wsX6_hasMode ({ frames := 0, cells := 0, slots := 0, locals := 0 } : Room) (va_Pc [.ref h0] (Pcw D (tyA cB cI) (WQ cI h0 h1 h2 h3 h4 h5 u) sz Tru)) (va_Qi P (fun u t => va_P D vwCl (WQ cI h0 h1 h2 h3 h4 h5 u) t.heap) (va_A (WQ cI h0 h1 h2 h3 h4 h5 u) sz)) 0 0 (va_A (WQ cI h0 h1 h2 h3 h4 h5 u) sz) := by
  refine en_ (cc := cX6_hasMode) (maxL := 1) (ret := (some .boolean)) (own := RX6) (lv := [(0, .ref h0)]) (Qf := fun A => va_Qi P (fun u t => va_P D vwCl (WQ cI h0 h1 h2 h3 h4 h5 u) t.heap) A) (by decide) rfl rfl (Nat.le_of_ble_eq_true rfl) rfl ?_
  intro p e s m below meth c A ls S hr hlk hname hsz hP hK hD hA hSub hS hE hl
  have hx := S.1
  have hb := S.2.1
  have hown := S.2.2.2.1
  have hts := S.2.2.2.2
  have i_X6 : ∀ w ∈ u_ws RX6 TX6 29, w ∈ wsX6_hasMode := by decide +kernel
  have f_148 := hts (.fieldLink RX6 148 "MachineCoreModel" "code" "I") (by decide +kernel)
  have b120 : ∀  (u : SQ) (H : Heap) (locs : List Loc) (ls : Array Slot), va_P D vwCl (WQ cI h0 h1 h2 h3 h4 h5 u) H → va_D A (WQ cI h0 h1 h2 h3 h4 h5 u) → va_S A s.heap H locs → lv_has ls 1 [(0, .ref h0)] → wX6_hasMode_b120  P u → W p l e ({ frames := 0, cells := 0, slots := 0, locals := 0 } : Room) s m ([.ref h0] : List Value).toArray below meth c H locs 0 0 (MQ below (va_Qi P (fun u t => va_P D vwCl (WQ cI h0 h1 h2 h3 h4 h5 u) t.heap) A) ([.ref h0] : List Value).toArray s 0 0 A) (F0 m 120 ls []) := by
    intro u H locs ls hP hD hS hl hw
    unfold wX6_hasMode_b120 at hw
    refine lv_aload_n hx hb dX6_hasMode_120 rfl (lv_at hl 0 rfl) ?_
    refine va_get (D := D) (ci := 6) (v := .int (q_code u)) (C := RX6) (T := TX6) (N := 29) hx hb hts i_X6 hown hK hP 0 rfl rfl 21 (by decide) f_148 (fun _ h9 => h9) rfl dX6_hasMode_121 ?_
    refine lv_sipush (v := (246 : Int32)) hx hb dX6_hasMode_124 (by decide) ?_
    refine lv_icmp_eq (tgt := 160) hx hb dX6_hasMode_127 (by decide) (fun c13 => ?_) (fun c13 => ?_)
    · replace hw := hw.1 c13
      refine lv_iconst (v := (1 : Int32)) hx hb dX6_hasMode_160 (by decide) ?_
      refine lv_goto (tgt := 165) hx hb dX6_hasMode_161 (by decide) ?_
      exact rt_z (wo := (fun v => WQ cI h0 h1 h2 h3 h4 h5 v)) S hr hlk u hP hS zB_1 hw dX6_hasMode_165
    · replace hw := hw.2 c13
      refine lv_aload_n hx hb dX6_hasMode_130 rfl (lv_at hl 0 rfl) ?_
      refine va_get (D := D) (ci := 6) (v := .int (q_code u)) (C := RX6) (T := TX6) (N := 29) hx hb hts i_X6 hown hK hP 0 rfl rfl 21 (by decide) f_148 (fun _ h9 => h9) rfl dX6_hasMode_131 ?_
      refine lv_sipush (v := (247 : Int32)) hx hb dX6_hasMode_134 (by decide) ?_
      refine lv_icmp_eq (tgt := 160) hx hb dX6_hasMode_137 (by decide) (fun c14 => ?_) (fun c14 => ?_)
      · replace hw := hw.1 c14
        refine lv_iconst (v := (1 : Int32)) hx hb dX6_hasMode_160 (by decide) ?_
        refine lv_goto (tgt := 165) hx hb dX6_hasMode_161 (by decide) ?_
        exact rt_z (wo := (fun v => WQ cI h0 h1 h2 h3 h4 h5 v)) S hr hlk u hP hS zB_1 hw dX6_hasMode_165
      · replace hw := hw.2 c14
        refine lv_aload_n hx hb dX6_hasMode_140 rfl (lv_at hl 0 rfl) ?_
        refine va_get (D := D) (ci := 6) (v := .int (q_code u)) (C := RX6) (T := TX6) (N := 29) hx hb hts i_X6 hown hK hP 0 rfl rfl 21 (by decide) f_148 (fun _ h9 => h9) rfl dX6_hasMode_141 ?_
        refine lv_sipush (v := (254 : Int32)) hx hb dX6_hasMode_144 (by decide) ?_
        refine lv_icmp_eq (tgt := 160) hx hb dX6_hasMode_147 (by decide) (fun c15 => ?_) (fun c15 => ?_)
        · replace hw := hw.1 c15
          refine lv_iconst (v := (1 : Int32)) hx hb dX6_hasMode_160 (by decide) ?_
          refine lv_goto (tgt := 165) hx hb dX6_hasMode_161 (by decide) ?_
          exact rt_z (wo := (fun v => WQ cI h0 h1 h2 h3 h4 h5 v)) S hr hlk u hP hS zB_1 hw dX6_hasMode_165
        · replace hw := hw.2 c15
          refine lv_aload_n hx hb dX6_hasMode_150 rfl (lv_at hl 0 rfl) ?_
          refine va_get (D := D) (ci := 6) (v := .int (q_code u)) (C := RX6) (T := TX6) (N := 29) hx hb hts i_X6 hown hK hP 0 rfl rfl 21 (by decide) f_148 (fun _ h9 => h9) rfl dX6_hasMode_151 ?_
          refine lv_sipush (v := (255 : Int32)) hx hb dX6_hasMode_154 (by decide) ?_
          refine lv_icmp_ne (tgt := 164) hx hb dX6_hasMode_157 (by decide) (fun c16 => ?_) (fun c16 => ?_)
          · replace hw := hw.2 c16
            refine lv_iconst (v := (0 : Int32)) hx hb dX6_hasMode_164 (by decide) ?_
            exact rt_z (wo := (fun v => WQ cI h0 h1 h2 h3 h4 h5 v)) S hr hlk u hP hS zB_0 hw dX6_hasMode_165
          · replace hw := hw.1 c16
            refine lv_iconst (v := (1 : Int32)) hx hb dX6_hasMode_160 (by decide) ?_
            refine lv_goto (tgt := 165) hx hb dX6_hasMode_161 (by decide) ?_
            exact rt_z (wo := (fun v => WQ cI h0 h1 h2 h3 h4 h5 v)) S hr hlk u hP hS zB_1 hw dX6_hasMode_165
  have b100 : ∀  (u : SQ) (H : Heap) (locs : List Loc) (ls : Array Slot), va_P D vwCl (WQ cI h0 h1 h2 h3 h4 h5 u) H → va_D A (WQ cI h0 h1 h2 h3 h4 h5 u) → va_S A s.heap H locs → lv_has ls 1 [(0, .ref h0)] → wX6_hasMode_b100  P u → W p l e ({ frames := 0, cells := 0, slots := 0, locals := 0 } : Room) s m ([.ref h0] : List Value).toArray below meth c H locs 0 0 (MQ below (va_Qi P (fun u t => va_P D vwCl (WQ cI h0 h1 h2 h3 h4 h5 u) t.heap) A) ([.ref h0] : List Value).toArray s 0 0 A) (F0 m 100 ls []) := by
    intro u H locs ls hP hD hS hl hw
    unfold wX6_hasMode_b100 at hw
    refine lv_aload_n hx hb dX6_hasMode_100 rfl (lv_at hl 0 rfl) ?_
    refine va_get (D := D) (ci := 6) (v := .int (q_code u)) (C := RX6) (T := TX6) (N := 29) hx hb hts i_X6 hown hK hP 0 rfl rfl 21 (by decide) f_148 (fun _ h9 => h9) rfl dX6_hasMode_101 ?_
    refine lv_sipush (v := (216 : Int32)) hx hb dX6_hasMode_104 (by decide) ?_
    refine lv_icmp_lt (tgt := 120) hx hb dX6_hasMode_107 (by decide) (fun c11 => ?_) (fun c11 => ?_)
    · replace hw := hw.1 c11
      exact b120 u H locs ls hP hD hS (lv_sub hl [0] rfl) hw
    · replace hw := hw.2 c11
      refine lv_aload_n hx hb dX6_hasMode_110 rfl (lv_at hl 0 rfl) ?_
      refine va_get (D := D) (ci := 6) (v := .int (q_code u)) (C := RX6) (T := TX6) (N := 29) hx hb hts i_X6 hown hK hP 0 rfl rfl 21 (by decide) f_148 (fun _ h9 => h9) rfl dX6_hasMode_111 ?_
      refine lv_sipush (v := (224 : Int32)) hx hb dX6_hasMode_114 (by decide) ?_
      refine lv_icmp_lt (tgt := 160) hx hb dX6_hasMode_117 (by decide) (fun c12 => ?_) (fun c12 => ?_)
      · replace hw := hw.1 c12
        refine lv_iconst (v := (1 : Int32)) hx hb dX6_hasMode_160 (by decide) ?_
        refine lv_goto (tgt := 165) hx hb dX6_hasMode_161 (by decide) ?_
        exact rt_z (wo := (fun v => WQ cI h0 h1 h2 h3 h4 h5 v)) S hr hlk u hP hS zB_1 hw dX6_hasMode_165
      · replace hw := hw.2 c12
        exact b120 u H locs ls hP hD hS (lv_sub hl [0] rfl) hw
  have b40 : ∀  (u : SQ) (H : Heap) (locs : List Loc) (ls : Array Slot), va_P D vwCl (WQ cI h0 h1 h2 h3 h4 h5 u) H → va_D A (WQ cI h0 h1 h2 h3 h4 h5 u) → va_S A s.heap H locs → lv_has ls 1 [(0, .ref h0)] → wX6_hasMode_b40  P u → W p l e ({ frames := 0, cells := 0, slots := 0, locals := 0 } : Room) s m ([.ref h0] : List Value).toArray below meth c H locs 0 0 (MQ below (va_Qi P (fun u t => va_P D vwCl (WQ cI h0 h1 h2 h3 h4 h5 u) t.heap) A) ([.ref h0] : List Value).toArray s 0 0 A) (F0 m 40 ls []) := by
    intro u H locs ls hP hD hS hl hw
    unfold wX6_hasMode_b40 at hw
    refine lv_aload_n hx hb dX6_hasMode_40 rfl (lv_at hl 0 rfl) ?_
    refine va_get (D := D) (ci := 6) (v := .int (q_code u)) (C := RX6) (T := TX6) (N := 29) hx hb hts i_X6 hown hK hP 0 rfl rfl 21 (by decide) f_148 (fun _ h9 => h9) rfl dX6_hasMode_41 ?_
    refine lv_sipush (v := (196 : Int32)) hx hb dX6_hasMode_44 (by decide) ?_
    refine lv_icmp_eq (tgt := 160) hx hb dX6_hasMode_47 (by decide) (fun c5 => ?_) (fun c5 => ?_)
    · replace hw := hw.1 c5
      refine lv_iconst (v := (1 : Int32)) hx hb dX6_hasMode_160 (by decide) ?_
      refine lv_goto (tgt := 165) hx hb dX6_hasMode_161 (by decide) ?_
      exact rt_z (wo := (fun v => WQ cI h0 h1 h2 h3 h4 h5 v)) S hr hlk u hP hS zB_1 hw dX6_hasMode_165
    · replace hw := hw.2 c5
      refine lv_aload_n hx hb dX6_hasMode_50 rfl (lv_at hl 0 rfl) ?_
      refine va_get (D := D) (ci := 6) (v := .int (q_code u)) (C := RX6) (T := TX6) (N := 29) hx hb hts i_X6 hown hK hP 0 rfl rfl 21 (by decide) f_148 (fun _ h9 => h9) rfl dX6_hasMode_51 ?_
      refine lv_sipush (v := (197 : Int32)) hx hb dX6_hasMode_54 (by decide) ?_
      refine lv_icmp_eq (tgt := 160) hx hb dX6_hasMode_57 (by decide) (fun c6 => ?_) (fun c6 => ?_)
      · replace hw := hw.1 c6
        refine lv_iconst (v := (1 : Int32)) hx hb dX6_hasMode_160 (by decide) ?_
        refine lv_goto (tgt := 165) hx hb dX6_hasMode_161 (by decide) ?_
        exact rt_z (wo := (fun v => WQ cI h0 h1 h2 h3 h4 h5 v)) S hr hlk u hP hS zB_1 hw dX6_hasMode_165
      · replace hw := hw.2 c6
        refine lv_aload_n hx hb dX6_hasMode_60 rfl (lv_at hl 0 rfl) ?_
        refine va_get (D := D) (ci := 6) (v := .int (q_code u)) (C := RX6) (T := TX6) (N := 29) hx hb hts i_X6 hown hK hP 0 rfl rfl 21 (by decide) f_148 (fun _ h9 => h9) rfl dX6_hasMode_61 ?_
        refine lv_sipush (v := (198 : Int32)) hx hb dX6_hasMode_64 (by decide) ?_
        refine lv_icmp_eq (tgt := 160) hx hb dX6_hasMode_67 (by decide) (fun c7 => ?_) (fun c7 => ?_)
        · replace hw := hw.1 c7
          refine lv_iconst (v := (1 : Int32)) hx hb dX6_hasMode_160 (by decide) ?_
          refine lv_goto (tgt := 165) hx hb dX6_hasMode_161 (by decide) ?_
          exact rt_z (wo := (fun v => WQ cI h0 h1 h2 h3 h4 h5 v)) S hr hlk u hP hS zB_1 hw dX6_hasMode_165
        · replace hw := hw.2 c7
          refine lv_aload_n hx hb dX6_hasMode_70 rfl (lv_at hl 0 rfl) ?_
          refine va_get (D := D) (ci := 6) (v := .int (q_code u)) (C := RX6) (T := TX6) (N := 29) hx hb hts i_X6 hown hK hP 0 rfl rfl 21 (by decide) f_148 (fun _ h9 => h9) rfl dX6_hasMode_71 ?_
          refine lv_sipush (v := (199 : Int32)) hx hb dX6_hasMode_74 (by decide) ?_
          refine lv_icmp_eq (tgt := 160) hx hb dX6_hasMode_77 (by decide) (fun c8 => ?_) (fun c8 => ?_)
          · replace hw := hw.1 c8
            refine lv_iconst (v := (1 : Int32)) hx hb dX6_hasMode_160 (by decide) ?_
            refine lv_goto (tgt := 165) hx hb dX6_hasMode_161 (by decide) ?_
            exact rt_z (wo := (fun v => WQ cI h0 h1 h2 h3 h4 h5 v)) S hr hlk u hP hS zB_1 hw dX6_hasMode_165
          · replace hw := hw.2 c8
            refine lv_aload_n hx hb dX6_hasMode_80 rfl (lv_at hl 0 rfl) ?_
            refine va_get (D := D) (ci := 6) (v := .int (q_code u)) (C := RX6) (T := TX6) (N := 29) hx hb hts i_X6 hown hK hP 0 rfl rfl 21 (by decide) f_148 (fun _ h9 => h9) rfl dX6_hasMode_81 ?_
            refine lv_sipush (v := (208 : Int32)) hx hb dX6_hasMode_84 (by decide) ?_
            refine lv_icmp_lt (tgt := 100) hx hb dX6_hasMode_87 (by decide) (fun c9 => ?_) (fun c9 => ?_)
            · replace hw := hw.1 c9
              exact b100 u H locs ls hP hD hS (lv_sub hl [0] rfl) hw
            · replace hw := hw.2 c9
              refine lv_aload_n hx hb dX6_hasMode_90 rfl (lv_at hl 0 rfl) ?_
              refine va_get (D := D) (ci := 6) (v := .int (q_code u)) (C := RX6) (T := TX6) (N := 29) hx hb hts i_X6 hown hK hP 0 rfl rfl 21 (by decide) f_148 (fun _ h9 => h9) rfl dX6_hasMode_91 ?_
              refine lv_sipush (v := (212 : Int32)) hx hb dX6_hasMode_94 (by decide) ?_
              refine lv_icmp_lt (tgt := 160) hx hb dX6_hasMode_97 (by decide) (fun c10 => ?_) (fun c10 => ?_)
              · replace hw := hw.1 c10
                refine lv_iconst (v := (1 : Int32)) hx hb dX6_hasMode_160 (by decide) ?_
                refine lv_goto (tgt := 165) hx hb dX6_hasMode_161 (by decide) ?_
                exact rt_z (wo := (fun v => WQ cI h0 h1 h2 h3 h4 h5 v)) S hr hlk u hP hS zB_1 hw dX6_hasMode_165
              · replace hw := hw.2 c10
                exact b100 u H locs ls hP hD hS (lv_sub hl [0] rfl) hw
  have b20 : ∀  (u : SQ) (H : Heap) (locs : List Loc) (ls : Array Slot), va_P D vwCl (WQ cI h0 h1 h2 h3 h4 h5 u) H → va_D A (WQ cI h0 h1 h2 h3 h4 h5 u) → va_S A s.heap H locs → lv_has ls 1 [(0, .ref h0)] → wX6_hasMode_b20  P u → W p l e ({ frames := 0, cells := 0, slots := 0, locals := 0 } : Room) s m ([.ref h0] : List Value).toArray below meth c H locs 0 0 (MQ below (va_Qi P (fun u t => va_P D vwCl (WQ cI h0 h1 h2 h3 h4 h5 u) t.heap) A) ([.ref h0] : List Value).toArray s 0 0 A) (F0 m 20 ls []) := by
    intro u H locs ls hP hD hS hl hw
    unfold wX6_hasMode_b20 at hw
    refine lv_aload_n hx hb dX6_hasMode_20 rfl (lv_at hl 0 rfl) ?_
    refine va_get (D := D) (ci := 6) (v := .int (q_code u)) (C := RX6) (T := TX6) (N := 29) hx hb hts i_X6 hown hK hP 0 rfl rfl 21 (by decide) f_148 (fun _ h9 => h9) rfl dX6_hasMode_21 ?_
    refine lv_sipush (v := (128 : Int32)) hx hb dX6_hasMode_24 (by decide) ?_
    refine lv_icmp_lt (tgt := 40) hx hb dX6_hasMode_27 (by decide) (fun c3 => ?_) (fun c3 => ?_)
    · replace hw := hw.1 c3
      exact b40 u H locs ls hP hD hS (lv_sub hl [0] rfl) hw
    · replace hw := hw.2 c3
      refine lv_aload_n hx hb dX6_hasMode_30 rfl (lv_at hl 0 rfl) ?_
      refine va_get (D := D) (ci := 6) (v := .int (q_code u)) (C := RX6) (T := TX6) (N := 29) hx hb hts i_X6 hown hK hP 0 rfl rfl 21 (by decide) f_148 (fun _ h9 => h9) rfl dX6_hasMode_31 ?_
      refine lv_sipush (v := (144 : Int32)) hx hb dX6_hasMode_34 (by decide) ?_
      refine lv_icmp_lt (tgt := 160) hx hb dX6_hasMode_37 (by decide) (fun c4 => ?_) (fun c4 => ?_)
      · replace hw := hw.1 c4
        refine lv_iconst (v := (1 : Int32)) hx hb dX6_hasMode_160 (by decide) ?_
        refine lv_goto (tgt := 165) hx hb dX6_hasMode_161 (by decide) ?_
        exact rt_z (wo := (fun v => WQ cI h0 h1 h2 h3 h4 h5 v)) S hr hlk u hP hS zB_1 hw dX6_hasMode_165
      · replace hw := hw.2 c4
        exact b40 u H locs ls hP hD hS (lv_sub hl [0] rfl) hw
  unfold wX6_hasMode at hw
  obtain ⟨H, eH⟩ : ∃ H, H = s.heap := ⟨_, rfl⟩
  obtain ⟨locs, eL⟩ : ∃ locs : List Loc, locs = [] := ⟨_, rfl⟩
  replace hP : va_P D vwCl (WQ cI h0 h1 h2 h3 h4 h5 u) H := by rw [eH]; exact hP
  replace hS : va_S A s.heap H locs := by rw [eH, eL]; exact hS
  suffices hgo : W p l e ({ frames := 0, cells := 0, slots := 0, locals := 0 } : Room) s m ([.ref h0] : List Value).toArray below meth c H locs 0 0 (MQ below (va_Qi P (fun u t => va_P D vwCl (WQ cI h0 h1 h2 h3 h4 h5 u) t.heap) A) ([.ref h0] : List Value).toArray s 0 0 A) (F0 m 0 ls []) by rw [eH, eL] at hgo; exact hgo
  clear eH eL
  refine lv_aload_n hx hb dX6_hasMode_0 rfl (lv_at hl 0 rfl) ?_
  refine va_get (D := D) (ci := 6) (v := .int (q_code u)) (C := RX6) (T := TX6) (N := 29) hx hb hts i_X6 hown hK hP 0 rfl rfl 21 (by decide) f_148 (fun _ h9 => h9) rfl dX6_hasMode_1 ?_
  refine lv_bipush (v := (64 : Int32)) hx hb dX6_hasMode_4 (by decide) ?_
  refine lv_icmp_ge (tgt := 20) hx hb dX6_hasMode_6 (by decide) (fun c1 => ?_) (fun c1 => ?_)
  · replace hw := hw.1 c1
    exact b20 u H locs ls hP hD hS (lv_sub hl [0] rfl) hw
  · replace hw := hw.2 c1
    refine lv_aload_n hx hb dX6_hasMode_9 rfl (lv_at hl 0 rfl) ?_
    refine va_get (D := D) (ci := 6) (v := .int (q_code u)) (C := RX6) (T := TX6) (N := 29) hx hb hts i_X6 hown hK hP 0 rfl rfl 21 (by decide) f_148 (fun _ h9 => h9) rfl dX6_hasMode_10 ?_
    refine lv_bipush (v := (7 : Int32)) hx hb dX6_hasMode_13 (by decide) ?_
    refine lv_iand hx hb dX6_hasMode_15 ?_
    refine lv_iconst (v := (4 : Int32)) hx hb dX6_hasMode_16 (by decide) ?_
    refine lv_icmp_lt (tgt := 160) hx hb dX6_hasMode_17 (by decide) (fun c2 => ?_) (fun c2 => ?_)
    · replace hw := hw.1 c2
      refine lv_iconst (v := (1 : Int32)) hx hb dX6_hasMode_160 (by decide) ?_
      refine lv_goto (tgt := 165) hx hb dX6_hasMode_161 (by decide) ?_
      exact rt_z (wo := (fun v => WQ cI h0 h1 h2 h3 h4 h5 v)) S hr hlk u hP hS zB_1 hw dX6_hasMode_165
    · replace hw := hw.2 c2
      exact b20 u H locs ls hP hD hS (lv_sub hl [0] rfl) hw
-- X6_isWide
def wX6_isWide  (u : SQ) (P : Int32 → SQ → Prop) : Prop := (¬ (2 : Int32) = (0 : Int32) ∧ ((((q_code u) - (q_code u) / (2 : Int32) * (2 : Int32)) = (1 : Int32) → (P (1 : Int32) u)) ∧ (¬ ((q_code u) - (q_code u) / (2 : Int32) * (2 : Int32)) = (1 : Int32) → (P (0 : Int32) u))))
set_option maxHeartbeats 4000000 in
set_option maxRecDepth 100000 in
theorem kcX6_isWide (l : Launch) (D : va_G) (cB cI : ClassId) (h0 h1 h2 h3 h4 h5 : Nat) (sz : Nat)  (u : SQ) (P : Int32 → SQ → Prop) (hw : wX6_isWide  u P) : Met l yX6_isWide wsX6_isWide ({ frames := 0, cells := 0, slots := 0, locals := 0 } : Room) (va_Pc [.ref h0] (Pcw D (tyA cB cI) (WQ cI h0 h1 h2 h3 h4 h5 u) sz Tru)) (va_Qi P (fun u t => va_P D vwCl (WQ cI h0 h1 h2 h3 h4 h5 u) t.heap) (va_A (WQ cI h0 h1 h2 h3 h4 h5 u) sz)) 0 0 (va_A (WQ cI h0 h1 h2 h3 h4 h5 u) sz) := by
  refine en_ (cc := cX6_isWide) (maxL := 1) (ret := (some .boolean)) (own := RX6) (lv := [(0, .ref h0)]) (Qf := fun A => va_Qi P (fun u t => va_P D vwCl (WQ cI h0 h1 h2 h3 h4 h5 u) t.heap) A) (by decide) rfl rfl (Nat.le_of_ble_eq_true rfl) rfl ?_
  intro p e s m below meth c A ls S hr hlk hname hsz hP hK hD hA hSub hS hE hl
  have hx := S.1
  have hb := S.2.1
  have hown := S.2.2.2.1
  have hts := S.2.2.2.2
  have i_X6 : ∀ w ∈ u_ws RX6 TX6 29, w ∈ wsX6_isWide := by decide +kernel
  have f_148 := hts (.fieldLink RX6 148 "MachineCoreModel" "code" "I") (by decide +kernel)
  unfold wX6_isWide at hw
  obtain ⟨H, eH⟩ : ∃ H, H = s.heap := ⟨_, rfl⟩
  obtain ⟨locs, eL⟩ : ∃ locs : List Loc, locs = [] := ⟨_, rfl⟩
  replace hP : va_P D vwCl (WQ cI h0 h1 h2 h3 h4 h5 u) H := by rw [eH]; exact hP
  replace hS : va_S A s.heap H locs := by rw [eH, eL]; exact hS
  suffices hgo : W p l e ({ frames := 0, cells := 0, slots := 0, locals := 0 } : Room) s m ([.ref h0] : List Value).toArray below meth c H locs 0 0 (MQ below (va_Qi P (fun u t => va_P D vwCl (WQ cI h0 h1 h2 h3 h4 h5 u) t.heap) A) ([.ref h0] : List Value).toArray s 0 0 A) (F0 m 0 ls []) by rw [eH, eL] at hgo; exact hgo
  clear eH eL
  refine lv_aload_n hx hb dX6_isWide_0 rfl (lv_at hl 0 rfl) ?_
  refine va_get (D := D) (ci := 6) (v := .int (q_code u)) (C := RX6) (T := TX6) (N := 29) hx hb hts i_X6 hown hK hP 0 rfl rfl 21 (by decide) f_148 (fun _ h9 => h9) rfl dX6_isWide_1 ?_
  refine lv_iconst (v := (2 : Int32)) hx hb dX6_isWide_4 (by decide) ?_
  refine lv_irem hx hb dX6_isWide_5 hw.1 ?_
  replace hw := hw.2
  refine lv_iconst (v := (1 : Int32)) hx hb dX6_isWide_6 (by decide) ?_
  refine lv_icmp_ne (tgt := 14) hx hb dX6_isWide_7 (by decide) (fun c1 => ?_) (fun c1 => ?_)
  · replace hw := hw.2 c1
    refine lv_iconst (v := (0 : Int32)) hx hb dX6_isWide_14 (by decide) ?_
    exact rt_z (wo := (fun v => WQ cI h0 h1 h2 h3 h4 h5 v)) S hr hlk u hP hS zB_0 hw dX6_isWide_15
  · replace hw := hw.1 c1
    refine lv_iconst (v := (1 : Int32)) hx hb dX6_isWide_10 (by decide) ?_
    refine lv_goto (tgt := 15) hx hb dX6_isWide_11 (by decide) ?_
    exact rt_z (wo := (fun v => WQ cI h0 h1 h2 h3 h4 h5 v)) S hr hlk u hP hS zB_1 hw dX6_isWide_15
-- X6_follows
def wX6_follows_b592  (P : Int32 → SQ → Prop)  (u : SQ) : Prop := (((q_code u) = (254 : Int32) → (((2 : Int32) ≤ (q_r u) → (P (0 : Int32) u)) ∧ (¬ (2 : Int32) ≤ (q_r u) → (P (1 : Int32) u)))) ∧ (¬ (q_code u) = (254 : Int32) → (P (1 : Int32) u)))
def wX6_follows_b579  (P : Int32 → SQ → Prop) (s0 : Int32) (u : SQ) : Prop := ((s0 = (0 : Int32) → (wX6_follows_b592  P u)) ∧ (¬ s0 = (0 : Int32) → (((q_mode u) = (3 : Int32) → (P (0 : Int32) u)) ∧ (¬ (q_mode u) = (3 : Int32) → (wX6_follows_b592  P u)))))
def wX6_follows_b574  (P : Int32 → SQ → Prop)  (u : SQ) : Prop := (wX6_follows_b579  P (1 : Int32) u)
def wX6_follows_b539  (P : Int32 → SQ → Prop) (s0 : Int32) (u : SQ) : Prop := (((q_code u) = (141 : Int32) → (wX6_follows_b574  P u)) ∧ (¬ (q_code u) = (141 : Int32) → (((q_code u) = (196 : Int32) → (wX6_follows_b574  P u)) ∧ (¬ (q_code u) = (196 : Int32) → (((q_code u) = (197 : Int32) → (wX6_follows_b574  P u)) ∧ (¬ (q_code u) = (197 : Int32) → ((s0 = (0 : Int32) → (wX6_follows_b579  P (0 : Int32) u)) ∧ (¬ s0 = (0 : Int32) → (wX6_follows_b574  P u)))))))))
def wX6_follows_b538  (P : Int32 → SQ → Prop)  (u : SQ) : Prop := (wX6_follows_b539  P (0 : Int32) u)
def wX6_follows_b534  (P : Int32 → SQ → Prop)  (u : SQ) : Prop := (wX6_follows_b539  P (1 : Int32) u)
def wX6_follows_b508  (P : Int32 → SQ → Prop)  (u : SQ) : Prop := (((q_code u) = (255 : Int32) → (((q_r u) = (3 : Int32) → (wX6_follows_b534  P u)) ∧ (¬ (q_r u) = (3 : Int32) → (((q_r u) = (5 : Int32) → (wX6_follows_b534  P u)) ∧ (¬ (q_r u) = (5 : Int32) → (wX6_follows_b538  P u)))))) ∧ (¬ (q_code u) = (255 : Int32) → (wX6_follows_b538  P u)))
def wX6_follows_b500  (P : Int32 → SQ → Prop)  (u : SQ) : Prop := (wX6_fetch  u (fun r70 u69 => (wX6_follows_b508  P (qs_i u69 r70))))
def wX6_follows_b450  (P : Int32 → SQ → Prop)  (u : SQ) : Prop := (((q_code u) = (205 : Int32) → (wX6_follows_b500  P u)) ∧ (¬ (q_code u) = (205 : Int32) → (((q_code u) = (212 : Int32) → (wX6_follows_b500  P u)) ∧ (¬ (q_code u) = (212 : Int32) → (((q_code u) = (213 : Int32) → (wX6_follows_b500  P u)) ∧ (¬ (q_code u) = (213 : Int32) → (((q_code u) < (228 : Int32) → (wX6_follows_b508  P u)) ∧ (¬ (q_code u) < (228 : Int32) → (((232 : Int32) ≤ (q_code u) → (wX6_follows_b508  P u)) ∧ (¬ (232 : Int32) ≤ (q_code u) → (wX6_follows_b500  P u)))))))))))
def wX6_follows_b438  (P : Int32 → SQ → Prop) (x1 : Int32) (u : SQ) : Prop := (wX6_fetchNumber x1 u (fun r63 u62 => (wX6_follows_b508  P (qs_i u62 r63))))
def wX6_follows_b430  (P : Int32 → SQ → Prop) (x1 : Int32) (u : SQ) : Prop := (((2 : Int32) ≤ (q_r u) → (wX6_follows_b450  P u)) ∧ (¬ (2 : Int32) ≤ (q_r u) → (wX6_follows_b438  P x1 u)))
def wX6_follows_b390  (P : Int32 → SQ → Prop) (x1 : Int32) (u : SQ) : Prop := (((q_code u) = (198 : Int32) → (wX6_follows_b438  P x1 u)) ∧ (¬ (q_code u) = (198 : Int32) → (((q_code u) = (199 : Int32) → (wX6_follows_b438  P x1 u)) ∧ (¬ (q_code u) = (199 : Int32) → (((q_code u) = (246 : Int32) → (wX6_follows_b430  P x1 u)) ∧ (¬ (q_code u) = (246 : Int32) → (((q_code u) = (247 : Int32) → (wX6_follows_b430  P x1 u)) ∧ (¬ (q_code u) = (247 : Int32) → (wX6_follows_b450  P u)))))))))
def wX6_follows_b381  (P : Int32 → SQ → Prop) (s2 : Int32) (u : SQ) : Prop := (wX6_fetchNumber s2 u (fun r56 u55 => (wX6_follows_b508  P (qs_i u55 r56))))
def wX6_follows_b333  (P : Int32 → SQ → Prop)  (u : SQ) : Prop := (wX6_fetchWord  u (fun r54 u53 => (wX6_follows_b508  P (qs_i u53 r54))))
def wX6_follows_b273  (P : Int32 → SQ → Prop) (x1 : Int32) (u : SQ) : Prop := (((q_code u) = (192 : Int32) → (wX6_follows_b333  P u)) ∧ (¬ (q_code u) = (192 : Int32) → (((q_code u) = (194 : Int32) → (wX6_follows_b333  P u)) ∧ (¬ (q_code u) = (194 : Int32) → (((q_code u) = (200 : Int32) → (wX6_follows_b333  P u)) ∧ (¬ (q_code u) = (200 : Int32) → (((q_code u) = (202 : Int32) → (wX6_follows_b333  P u)) ∧ (¬ (q_code u) = (202 : Int32) → (((q_code u) = (232 : Int32) → (wX6_follows_b333  P u)) ∧ (¬ (q_code u) = (232 : Int32) → (((q_code u) = (233 : Int32) → (wX6_follows_b333  P u)) ∧ (¬ (q_code u) = (233 : Int32) → (((q_code u) < (176 : Int32) → (wX6_follows_b390  P x1 u)) ∧ (¬ (q_code u) < (176 : Int32) → (((192 : Int32) ≤ (q_code u) → (wX6_follows_b390  P x1 u)) ∧ (¬ (192 : Int32) ≤ (q_code u) → (((q_code u) < (184 : Int32) → (wX6_follows_b381  P (0 : Int32) u)) ∧ (¬ (q_code u) < (184 : Int32) → (wX6_follows_b381  P (1 : Int32) u)))))))))))))))))))
def wX6_follows_b234  (P : Int32 → SQ → Prop)  (u : SQ) : Prop := (wX6_fetchWord  u (fun r41 u40 => (wX6_fetchWord  (qs_i u40 r41) (fun r43 u42 => (wX6_follows_b508  P (qs_j u42 r43))))))
def wX6_follows_b214  (P : Int32 → SQ → Prop) (x1 : Int32) (u : SQ) : Prop := (((q_code u) = (154 : Int32) → (wX6_follows_b234  P u)) ∧ (¬ (q_code u) = (154 : Int32) → (((q_code u) = (234 : Int32) → (wX6_follows_b234  P u)) ∧ (¬ (q_code u) = (234 : Int32) → (((q_code u) < (160 : Int32) → (wX6_follows_b273  P x1 u)) ∧ (¬ (q_code u) < (160 : Int32) → (((q_code u) < (164 : Int32) → (wX6_follows_b333  P u)) ∧ (¬ (q_code u) < (164 : Int32) → (wX6_follows_b273  P x1 u)))))))))
def wX6_follows_b208  (P : Int32 → SQ → Prop) (s1 : Int32) (u : SQ) : Prop := (wX6_follows_b508  P (qs_i u s1))
def wX6_follows_b129  (P : Int32 → SQ → Prop)  (u : SQ) : Prop := (wX6_fetch  u (fun r33 u32 => (wX6_extended r33 () (fun r35 u34 => (wX6_follows_b508  P (qs_i u32 r35))))))
def wX6_follows_b119  (P : Int32 → SQ → Prop) (x1 : Int32) (u : SQ) : Prop := (((q_code u) = (235 : Int32) → (wX6_follows_b129  P u)) ∧ (¬ (q_code u) = (235 : Int32) → (((q_code u) < (128 : Int32) → (wX6_follows_b214  P x1 u)) ∧ (¬ (q_code u) < (128 : Int32) → (((132 : Int32) ≤ (q_code u) → (wX6_follows_b214  P x1 u)) ∧ (¬ (132 : Int32) ≤ (q_code u) → (((q_code u) = (129 : Int32) → (wX6_fetchWord  u (fun r31 u30 => (wX6_follows_b208  P r31 u30)))) ∧ (¬ (q_code u) = (129 : Int32) → (((q_code u) = (131 : Int32) → (wX6_fetch  u (fun r27 u26 => (wX6_extended r27 () (fun r29 u28 => (wX6_follows_b208  P (r29 &&& (65535 : Int32)) u26)))))) ∧ (¬ (q_code u) = (131 : Int32) → (wX6_fetch  u (fun r25 u24 => (wX6_follows_b208  P r25 u24)))))))))))))
def wX6_follows_b99  (P : Int32 → SQ → Prop) (x1 : Int32) (u : SQ) : Prop := (((q_code u) < (224 : Int32) → (wX6_follows_b119  P x1 u)) ∧ (¬ (q_code u) < (224 : Int32) → (((q_code u) < (228 : Int32) → (wX6_follows_b129  P u)) ∧ (¬ (q_code u) < (228 : Int32) → (wX6_follows_b119  P x1 u)))))
def wX6_follows_b68  (P : Int32 → SQ → Prop) (x1 : Int32) (u : SQ) : Prop := (wX6_fetchNumber x1 u (fun r16 u15 => (wX6_follows_b508  P (qs_i u15 r16))))
def wX6_follows_b48  (P : Int32 → SQ → Prop) (x1 : Int32) (u : SQ) : Prop := (((q_code u) = (168 : Int32) → (wX6_follows_b68  P x1 u)) ∧ (¬ (q_code u) = (168 : Int32) → (((q_code u) = (169 : Int32) → (wX6_follows_b68  P x1 u)) ∧ (¬ (q_code u) = (169 : Int32) → (((q_code u) < (96 : Int32) → (wX6_follows_b99  P x1 u)) ∧ (¬ (q_code u) < (96 : Int32) → (((q_code u) < (128 : Int32) → (wX6_follows_b129  P u)) ∧ (¬ (q_code u) < (128 : Int32) → (wX6_follows_b99  P x1 u)))))))))
def wX6_follows_b11  (P : Int32 → SQ → Prop)  (u : SQ) : Prop := (wX6_isWide  u (fun r7 u6 => (((64 : Int32) ≤ (q_code u6) → (wX6_follows_b48  P r7 u6)) ∧ (¬ (64 : Int32) ≤ (q_code u6) → ((((q_code u6) &&& (7 : Int32)) ≤ (3 : Int32) → (wX6_follows_b48  P r7 u6)) ∧ (¬ ((q_code u6) &&& (7 : Int32)) ≤ (3 : Int32) → ((((q_code u6) &&& (7 : Int32)) < (6 : Int32) → (wX6_follows_b68  P r7 u6)) ∧ (¬ ((q_code u6) &&& (7 : Int32)) < (6 : Int32) → (wX6_follows_b48  P r7 u6)))))))))
def wX6_follows  (u : SQ) (P : Int32 → SQ → Prop) : Prop := (wX6_hasMode  u (fun r2 u1 => ((r2 = (0 : Int32) → (wX6_follows_b11  P u1)) ∧ (¬ r2 = (0 : Int32) → (wX6_fetchMode  u1 (fun u4 => (wX6_follows_b11  P u4)))))))
set_option maxHeartbeats 4000000 in
set_option maxRecDepth 100000 in
theorem kcX6_follows (l : Launch) (D : va_G) (cB cI : ClassId) (h0 h1 h2 h3 h4 h5 : Nat) (sz : Nat)  (u : SQ) (P : Int32 → SQ → Prop) (hw : wX6_follows  u P) : Met l yX6_follows wsX6_follows ({ frames := 4, cells := 0, slots := 0, locals := 89 } : Room) (va_Pc [.ref h0] (Pcw D (tyA cB cI) (WQ cI h0 h1 h2 h3 h4 h5 u) sz Tru)) (va_Qi P (fun u t => va_P D vwCl (WQ cI h0 h1 h2 h3 h4 h5 u) t.heap) (va_A (WQ cI h0 h1 h2 h3 h4 h5 u) sz)) 0 0 (va_A (WQ cI h0 h1 h2 h3 h4 h5 u) sz) := by
  refine en_ (cc := cX6_follows) (maxL := 4) (ret := (some .boolean)) (own := RX6) (lv := [(0, .ref h0)]) (Qf := fun A => va_Qi P (fun u t => va_P D vwCl (WQ cI h0 h1 h2 h3 h4 h5 u) t.heap) A) (by decide) rfl rfl (Nat.le_of_ble_eq_true rfl) rfl ?_
  intro p e s m below meth c A ls S hr hlk hname hsz hP hK hD hA hSub hS hE hl
  have hx := S.1
  have hb := S.2.1
  have hown := S.2.2.2.1
  have hts := S.2.2.2.2
  have i_X6 : ∀ w ∈ u_ws RX6 TX6 29, w ∈ wsX6_follows := by decide +kernel
  have f_127 := hts (.fieldLink RX6 127 "MachineCoreModel" "mode" "I") (by decide +kernel)
  have f_130 := hts (.fieldLink RX6 130 "MachineCoreModel" "r" "I") (by decide +kernel)
  have f_148 := hts (.fieldLink RX6 148 "MachineCoreModel" "code" "I") (by decide +kernel)
  have f_164 := hts (.fieldLink RX6 164 "MachineCoreModel" "i" "I") (by decide +kernel)
  have f_167 := hts (.fieldLink RX6 167 "MachineCoreModel" "j" "I") (by decide +kernel)
  have k_39 := hts (.constant RX6 39 (65535)) (by decide +kernel)
  have b592 : ∀  (u : SQ) (H : Heap) (locs : List Loc) (ls : Array Slot), va_P D vwCl (WQ cI h0 h1 h2 h3 h4 h5 u) H → va_D A (WQ cI h0 h1 h2 h3 h4 h5 u) → va_S A s.heap H locs → lv_has ls 4 [(0, .ref h0)] → wX6_follows_b592  P u → W p l e ({ frames := 4, cells := 0, slots := 0, locals := 89 } : Room) s m ([.ref h0] : List Value).toArray below meth c H locs 0 0 (MQ below (va_Qi P (fun u t => va_P D vwCl (WQ cI h0 h1 h2 h3 h4 h5 u) t.heap) A) ([.ref h0] : List Value).toArray s 0 0 A) (F0 m 592 ls []) := by
    intro u H locs ls hP hD hS hl hw
    unfold wX6_follows_b592 at hw
    refine lv_aload_n hx hb dX6_follows_592 rfl (lv_at hl 0 rfl) ?_
    refine va_get (D := D) (ci := 6) (v := .int (q_code u)) (C := RX6) (T := TX6) (N := 29) hx hb hts i_X6 hown hK hP 0 rfl rfl 21 (by decide) f_148 (fun _ h9 => h9) rfl dX6_follows_593 ?_
    refine lv_sipush (v := (254 : Int32)) hx hb dX6_follows_596 (by decide) ?_
    refine lv_icmp_ne (tgt := 610) hx hb dX6_follows_599 (by decide) (fun c80 => ?_) (fun c80 => ?_)
    · replace hw := hw.2 c80
      refine lv_iconst (v := (1 : Int32)) hx hb dX6_follows_610 (by decide) ?_
      refine lv_goto (tgt := 615) hx hb dX6_follows_611 (by decide) ?_
      exact rt_z (wo := (fun v => WQ cI h0 h1 h2 h3 h4 h5 v)) S hr hlk u hP hS zB_1 hw dX6_follows_615
    · replace hw := hw.1 c80
      refine lv_aload_n hx hb dX6_follows_602 rfl (lv_at hl 0 rfl) ?_
      refine va_get (D := D) (ci := 6) (v := .int (q_r u)) (C := RX6) (T := TX6) (N := 29) hx hb hts i_X6 hown hK hP 0 rfl rfl 23 (by decide) f_130 (fun _ h9 => h9) rfl dX6_follows_603 ?_
      refine lv_iconst (v := (2 : Int32)) hx hb dX6_follows_606 (by decide) ?_
      refine lv_icmp_ge (tgt := 614) hx hb dX6_follows_607 (by decide) (fun c81 => ?_) (fun c81 => ?_)
      · replace hw := hw.1 c81
        refine lv_iconst (v := (0 : Int32)) hx hb dX6_follows_614 (by decide) ?_
        exact rt_z (wo := (fun v => WQ cI h0 h1 h2 h3 h4 h5 v)) S hr hlk u hP hS zB_0 hw dX6_follows_615
      · replace hw := hw.2 c81
        refine lv_iconst (v := (1 : Int32)) hx hb dX6_follows_610 (by decide) ?_
        refine lv_goto (tgt := 615) hx hb dX6_follows_611 (by decide) ?_
        exact rt_z (wo := (fun v => WQ cI h0 h1 h2 h3 h4 h5 v)) S hr hlk u hP hS zB_1 hw dX6_follows_615
  have b579 : ∀ (s0 : Int32) (u : SQ) (H : Heap) (locs : List Loc) (ls : Array Slot), va_P D vwCl (WQ cI h0 h1 h2 h3 h4 h5 u) H → va_D A (WQ cI h0 h1 h2 h3 h4 h5 u) → va_S A s.heap H locs → lv_has ls 4 [(0, .ref h0)] → wX6_follows_b579  P s0 u → W p l e ({ frames := 4, cells := 0, slots := 0, locals := 89 } : Room) s m ([.ref h0] : List Value).toArray below meth c H locs 0 0 (MQ below (va_Qi P (fun u t => va_P D vwCl (WQ cI h0 h1 h2 h3 h4 h5 u) t.heap) A) ([.ref h0] : List Value).toArray s 0 0 A) (F0 m 579 ls [.int s0]) := by
    intro s0 u H locs ls hP hD hS hl hw
    unfold wX6_follows_b579 at hw
    refine lv_istore_n (lv' := [(3, .int s0), (0, .ref h0)]) hx hb dX6_follows_579 rfl hl (by decide) rfl (fun ls hl => ?_)
    refine lv_iload_n hx hb dX6_follows_580 rfl (lv_at hl 0 rfl) ?_
    refine lv_if_eq (tgt := 592) hx hb dX6_follows_581 (by decide) (fun c78 => ?_) (fun c78 => ?_)
    · replace hw := hw.1 c78
      exact b592 u H locs ls hP hD hS (lv_sub hl [1] rfl) hw
    · replace hw := hw.2 c78
      refine lv_aload_n hx hb dX6_follows_584 rfl (lv_at hl 1 rfl) ?_
      refine va_get (D := D) (ci := 6) (v := .int (q_mode u)) (C := RX6) (T := TX6) (N := 29) hx hb hts i_X6 hown hK hP 0 rfl rfl 22 (by decide) f_127 (fun _ h9 => h9) rfl dX6_follows_585 ?_
      refine lv_iconst (v := (3 : Int32)) hx hb dX6_follows_588 (by decide) ?_
      refine lv_icmp_eq (tgt := 614) hx hb dX6_follows_589 (by decide) (fun c79 => ?_) (fun c79 => ?_)
      · replace hw := hw.1 c79
        refine lv_iconst (v := (0 : Int32)) hx hb dX6_follows_614 (by decide) ?_
        exact rt_z (wo := (fun v => WQ cI h0 h1 h2 h3 h4 h5 v)) S hr hlk u hP hS zB_0 hw dX6_follows_615
      · replace hw := hw.2 c79
        exact b592 u H locs ls hP hD hS (lv_sub hl [1] rfl) hw
  have b574 : ∀  (u : SQ) (H : Heap) (locs : List Loc) (ls : Array Slot), va_P D vwCl (WQ cI h0 h1 h2 h3 h4 h5 u) H → va_D A (WQ cI h0 h1 h2 h3 h4 h5 u) → va_S A s.heap H locs → lv_has ls 4 [(0, .ref h0)] → wX6_follows_b574  P u → W p l e ({ frames := 4, cells := 0, slots := 0, locals := 89 } : Room) s m ([.ref h0] : List Value).toArray below meth c H locs 0 0 (MQ below (va_Qi P (fun u t => va_P D vwCl (WQ cI h0 h1 h2 h3 h4 h5 u) t.heap) A) ([.ref h0] : List Value).toArray s 0 0 A) (F0 m 574 ls []) := by
    intro u H locs ls hP hD hS hl hw
    unfold wX6_follows_b574 at hw
    refine lv_iconst (v := (1 : Int32)) hx hb dX6_follows_574 (by decide) ?_
    refine lv_goto (tgt := 579) hx hb dX6_follows_575 (by decide) ?_
    exact b579 (1 : Int32) u H locs ls hP hD hS (lv_sub hl [0] rfl) hw
  have b539 : ∀ (s0 : Int32) (u : SQ) (H : Heap) (locs : List Loc) (ls : Array Slot), va_P D vwCl (WQ cI h0 h1 h2 h3 h4 h5 u) H → va_D A (WQ cI h0 h1 h2 h3 h4 h5 u) → va_S A s.heap H locs → lv_has ls 4 [(0, .ref h0)] → wX6_follows_b539  P s0 u → W p l e ({ frames := 4, cells := 0, slots := 0, locals := 89 } : Room) s m ([.ref h0] : List Value).toArray below meth c H locs 0 0 (MQ below (va_Qi P (fun u t => va_P D vwCl (WQ cI h0 h1 h2 h3 h4 h5 u) t.heap) A) ([.ref h0] : List Value).toArray s 0 0 A) (F0 m 539 ls [.int s0]) := by
    intro s0 u H locs ls hP hD hS hl hw
    unfold wX6_follows_b539 at hw
    refine lv_istore_n (lv' := [(2, .int s0), (0, .ref h0)]) hx hb dX6_follows_539 rfl hl (by decide) rfl (fun ls hl => ?_)
    refine lv_aload_n hx hb dX6_follows_540 rfl (lv_at hl 1 rfl) ?_
    refine va_get (D := D) (ci := 6) (v := .int (q_code u)) (C := RX6) (T := TX6) (N := 29) hx hb hts i_X6 hown hK hP 0 rfl rfl 21 (by decide) f_148 (fun _ h9 => h9) rfl dX6_follows_541 ?_
    refine lv_sipush (v := (141 : Int32)) hx hb dX6_follows_544 (by decide) ?_
    refine lv_icmp_eq (tgt := 574) hx hb dX6_follows_547 (by decide) (fun c74 => ?_) (fun c74 => ?_)
    · replace hw := hw.1 c74
      exact b574 u H locs ls hP hD hS (lv_sub hl [1] rfl) hw
    · replace hw := hw.2 c74
      refine lv_aload_n hx hb dX6_follows_550 rfl (lv_at hl 1 rfl) ?_
      refine va_get (D := D) (ci := 6) (v := .int (q_code u)) (C := RX6) (T := TX6) (N := 29) hx hb hts i_X6 hown hK hP 0 rfl rfl 21 (by decide) f_148 (fun _ h9 => h9) rfl dX6_follows_551 ?_
      refine lv_sipush (v := (196 : Int32)) hx hb dX6_follows_554 (by decide) ?_
      refine lv_icmp_eq (tgt := 574) hx hb dX6_follows_557 (by decide) (fun c75 => ?_) (fun c75 => ?_)
      · replace hw := hw.1 c75
        exact b574 u H locs ls hP hD hS (lv_sub hl [1] rfl) hw
      · replace hw := hw.2 c75
        refine lv_aload_n hx hb dX6_follows_560 rfl (lv_at hl 1 rfl) ?_
        refine va_get (D := D) (ci := 6) (v := .int (q_code u)) (C := RX6) (T := TX6) (N := 29) hx hb hts i_X6 hown hK hP 0 rfl rfl 21 (by decide) f_148 (fun _ h9 => h9) rfl dX6_follows_561 ?_
        refine lv_sipush (v := (197 : Int32)) hx hb dX6_follows_564 (by decide) ?_
        refine lv_icmp_eq (tgt := 574) hx hb dX6_follows_567 (by decide) (fun c76 => ?_) (fun c76 => ?_)
        · replace hw := hw.1 c76
          exact b574 u H locs ls hP hD hS (lv_sub hl [1] rfl) hw
        · replace hw := hw.2 c76
          refine lv_iload_n hx hb dX6_follows_570 rfl (lv_at hl 0 rfl) ?_
          refine lv_if_eq (tgt := 578) hx hb dX6_follows_571 (by decide) (fun c77 => ?_) (fun c77 => ?_)
          · replace hw := hw.1 c77
            refine lv_iconst (v := (0 : Int32)) hx hb dX6_follows_578 (by decide) ?_
            exact b579 (0 : Int32) u H locs ls hP hD hS (lv_sub hl [1] rfl) hw
          · replace hw := hw.2 c77
            exact b574 u H locs ls hP hD hS (lv_sub hl [1] rfl) hw
  have b538 : ∀  (u : SQ) (H : Heap) (locs : List Loc) (ls : Array Slot), va_P D vwCl (WQ cI h0 h1 h2 h3 h4 h5 u) H → va_D A (WQ cI h0 h1 h2 h3 h4 h5 u) → va_S A s.heap H locs → lv_has ls 4 [(0, .ref h0)] → wX6_follows_b538  P u → W p l e ({ frames := 4, cells := 0, slots := 0, locals := 89 } : Room) s m ([.ref h0] : List Value).toArray below meth c H locs 0 0 (MQ below (va_Qi P (fun u t => va_P D vwCl (WQ cI h0 h1 h2 h3 h4 h5 u) t.heap) A) ([.ref h0] : List Value).toArray s 0 0 A) (F0 m 538 ls []) := by
    intro u H locs ls hP hD hS hl hw
    unfold wX6_follows_b538 at hw
    refine lv_iconst (v := (0 : Int32)) hx hb dX6_follows_538 (by decide) ?_
    exact b539 (0 : Int32) u H locs ls hP hD hS (lv_sub hl [0] rfl) hw
  have b534 : ∀  (u : SQ) (H : Heap) (locs : List Loc) (ls : Array Slot), va_P D vwCl (WQ cI h0 h1 h2 h3 h4 h5 u) H → va_D A (WQ cI h0 h1 h2 h3 h4 h5 u) → va_S A s.heap H locs → lv_has ls 4 [(0, .ref h0)] → wX6_follows_b534  P u → W p l e ({ frames := 4, cells := 0, slots := 0, locals := 89 } : Room) s m ([.ref h0] : List Value).toArray below meth c H locs 0 0 (MQ below (va_Qi P (fun u t => va_P D vwCl (WQ cI h0 h1 h2 h3 h4 h5 u) t.heap) A) ([.ref h0] : List Value).toArray s 0 0 A) (F0 m 534 ls []) := by
    intro u H locs ls hP hD hS hl hw
    unfold wX6_follows_b534 at hw
    refine lv_iconst (v := (1 : Int32)) hx hb dX6_follows_534 (by decide) ?_
    refine lv_goto (tgt := 539) hx hb dX6_follows_535 (by decide) ?_
    exact b539 (1 : Int32) u H locs ls hP hD hS (lv_sub hl [0] rfl) hw
  have b508 : ∀  (u : SQ) (H : Heap) (locs : List Loc) (ls : Array Slot), va_P D vwCl (WQ cI h0 h1 h2 h3 h4 h5 u) H → va_D A (WQ cI h0 h1 h2 h3 h4 h5 u) → va_S A s.heap H locs → lv_has ls 4 [(0, .ref h0)] → wX6_follows_b508  P u → W p l e ({ frames := 4, cells := 0, slots := 0, locals := 89 } : Room) s m ([.ref h0] : List Value).toArray below meth c H locs 0 0 (MQ below (va_Qi P (fun u t => va_P D vwCl (WQ cI h0 h1 h2 h3 h4 h5 u) t.heap) A) ([.ref h0] : List Value).toArray s 0 0 A) (F0 m 508 ls []) := by
    intro u H locs ls hP hD hS hl hw
    unfold wX6_follows_b508 at hw
    refine lv_aload_n hx hb dX6_follows_508 rfl (lv_at hl 0 rfl) ?_
    refine va_get (D := D) (ci := 6) (v := .int (q_code u)) (C := RX6) (T := TX6) (N := 29) hx hb hts i_X6 hown hK hP 0 rfl rfl 21 (by decide) f_148 (fun _ h9 => h9) rfl dX6_follows_509 ?_
    refine lv_sipush (v := (255 : Int32)) hx hb dX6_follows_512 (by decide) ?_
    refine lv_icmp_ne (tgt := 538) hx hb dX6_follows_515 (by decide) (fun c71 => ?_) (fun c71 => ?_)
    · replace hw := hw.2 c71
      exact b538 u H locs ls hP hD hS (lv_sub hl [0] rfl) hw
    · replace hw := hw.1 c71
      refine lv_aload_n hx hb dX6_follows_518 rfl (lv_at hl 0 rfl) ?_
      refine va_get (D := D) (ci := 6) (v := .int (q_r u)) (C := RX6) (T := TX6) (N := 29) hx hb hts i_X6 hown hK hP 0 rfl rfl 23 (by decide) f_130 (fun _ h9 => h9) rfl dX6_follows_519 ?_
      refine lv_iconst (v := (3 : Int32)) hx hb dX6_follows_522 (by decide) ?_
      refine lv_icmp_eq (tgt := 534) hx hb dX6_follows_523 (by decide) (fun c72 => ?_) (fun c72 => ?_)
      · replace hw := hw.1 c72
        exact b534 u H locs ls hP hD hS (lv_sub hl [0] rfl) hw
      · replace hw := hw.2 c72
        refine lv_aload_n hx hb dX6_follows_526 rfl (lv_at hl 0 rfl) ?_
        refine va_get (D := D) (ci := 6) (v := .int (q_r u)) (C := RX6) (T := TX6) (N := 29) hx hb hts i_X6 hown hK hP 0 rfl rfl 23 (by decide) f_130 (fun _ h9 => h9) rfl dX6_follows_527 ?_
        refine lv_iconst (v := (5 : Int32)) hx hb dX6_follows_530 (by decide) ?_
        refine lv_icmp_ne (tgt := 538) hx hb dX6_follows_531 (by decide) (fun c73 => ?_) (fun c73 => ?_)
        · replace hw := hw.2 c73
          exact b538 u H locs ls hP hD hS (lv_sub hl [0] rfl) hw
        · replace hw := hw.1 c73
          exact b534 u H locs ls hP hD hS (lv_sub hl [0] rfl) hw
  have b500 : ∀  (u : SQ) (H : Heap) (locs : List Loc) (ls : Array Slot), va_P D vwCl (WQ cI h0 h1 h2 h3 h4 h5 u) H → va_D A (WQ cI h0 h1 h2 h3 h4 h5 u) → va_S A s.heap H locs → lv_has ls 4 [(0, .ref h0)] → wX6_follows_b500  P u → W p l e ({ frames := 4, cells := 0, slots := 0, locals := 89 } : Room) s m ([.ref h0] : List Value).toArray below meth c H locs 0 0 (MQ below (va_Qi P (fun u t => va_P D vwCl (WQ cI h0 h1 h2 h3 h4 h5 u) t.heap) A) ([.ref h0] : List Value).toArray s 0 0 A) (F0 m 500 ls []) := by
    intro u H locs ls hP hD hS hl hw
    unfold wX6_follows_b500 at hw
    refine lv_aload_n hx hb dX6_follows_500 rfl (lv_at hl 0 rfl) ?_
    refine lv_aload_n hx hb dX6_follows_501 rfl (lv_at hl 0 rfl) ?_
    refine cl_Vi (As := []) (rest := [.ref h0]) (st := [.ref h0, .ref h0]) S hK hA hP hD hS (fr_Q u) (kcX6_fetch l D cB cI h0 h1 h2 h3 h4 h5 H.size  u _ hw) (cwV 0 hts gX6_follows_X6_fetch rfl rfl rfl (by decide +kernel) ⟨Nat.le_of_ble_eq_true rfl, Nat.le_of_ble_eq_true rfl⟩) tru_h tru_b 0 rfl rfl rfl rfl rfl hl.1 (Nat.le_of_ble_eq_true rfl) dX6_follows_502 ⟨Nat.zero_le _, Nat.zero_le _⟩ (fun r70 u69 H locs hP hD hS hw => ?_)
    replace hP : va_P D vwCl (WQ cI h0 h1 h2 h3 h4 h5 u69) H := hP
    replace hD : va_D A (WQ cI h0 h1 h2 h3 h4 h5 u69) := hD
    refine va_put (D := D) (ci := 6) (v := .int r70) (ty := .int) (C := RX6) (T := TX6) (N := 29) hx hb hts i_X6 tyX6 tyX6_ok nmX6 hown hK hP hD hS 0 rfl rfl 27 (by decide) f_164 (fun _ h9 => h9) rfl (by decide +kernel) rfl rfl (Nat.le_of_ble_eq_true rfl) dX6_follows_505 (fun H locs hP hD hS => ?_)
    replace hP : va_P D vwCl (WQ cI h0 h1 h2 h3 h4 h5 (qs_i u69 r70)) H := hP
    replace hD : va_D A (WQ cI h0 h1 h2 h3 h4 h5 (qs_i u69 r70)) := hD
    exact b508 (qs_i u69 r70) H locs ls hP hD hS (lv_sub hl [0] rfl) hw
  have b450 : ∀  (u : SQ) (H : Heap) (locs : List Loc) (ls : Array Slot), va_P D vwCl (WQ cI h0 h1 h2 h3 h4 h5 u) H → va_D A (WQ cI h0 h1 h2 h3 h4 h5 u) → va_S A s.heap H locs → lv_has ls 4 [(0, .ref h0)] → wX6_follows_b450  P u → W p l e ({ frames := 4, cells := 0, slots := 0, locals := 89 } : Room) s m ([.ref h0] : List Value).toArray below meth c H locs 0 0 (MQ below (va_Qi P (fun u t => va_P D vwCl (WQ cI h0 h1 h2 h3 h4 h5 u) t.heap) A) ([.ref h0] : List Value).toArray s 0 0 A) (F0 m 450 ls []) := by
    intro u H locs ls hP hD hS hl hw
    unfold wX6_follows_b450 at hw
    refine lv_aload_n hx hb dX6_follows_450 rfl (lv_at hl 0 rfl) ?_
    refine va_get (D := D) (ci := 6) (v := .int (q_code u)) (C := RX6) (T := TX6) (N := 29) hx hb hts i_X6 hown hK hP 0 rfl rfl 21 (by decide) f_148 (fun _ h9 => h9) rfl dX6_follows_451 ?_
    refine lv_sipush (v := (205 : Int32)) hx hb dX6_follows_454 (by decide) ?_
    refine lv_icmp_eq (tgt := 500) hx hb dX6_follows_457 (by decide) (fun c64 => ?_) (fun c64 => ?_)
    · replace hw := hw.1 c64
      exact b500 u H locs ls hP hD hS (lv_sub hl [0] rfl) hw
    · replace hw := hw.2 c64
      refine lv_aload_n hx hb dX6_follows_460 rfl (lv_at hl 0 rfl) ?_
      refine va_get (D := D) (ci := 6) (v := .int (q_code u)) (C := RX6) (T := TX6) (N := 29) hx hb hts i_X6 hown hK hP 0 rfl rfl 21 (by decide) f_148 (fun _ h9 => h9) rfl dX6_follows_461 ?_
      refine lv_sipush (v := (212 : Int32)) hx hb dX6_follows_464 (by decide) ?_
      refine lv_icmp_eq (tgt := 500) hx hb dX6_follows_467 (by decide) (fun c65 => ?_) (fun c65 => ?_)
      · replace hw := hw.1 c65
        exact b500 u H locs ls hP hD hS (lv_sub hl [0] rfl) hw
      · replace hw := hw.2 c65
        refine lv_aload_n hx hb dX6_follows_470 rfl (lv_at hl 0 rfl) ?_
        refine va_get (D := D) (ci := 6) (v := .int (q_code u)) (C := RX6) (T := TX6) (N := 29) hx hb hts i_X6 hown hK hP 0 rfl rfl 21 (by decide) f_148 (fun _ h9 => h9) rfl dX6_follows_471 ?_
        refine lv_sipush (v := (213 : Int32)) hx hb dX6_follows_474 (by decide) ?_
        refine lv_icmp_eq (tgt := 500) hx hb dX6_follows_477 (by decide) (fun c66 => ?_) (fun c66 => ?_)
        · replace hw := hw.1 c66
          exact b500 u H locs ls hP hD hS (lv_sub hl [0] rfl) hw
        · replace hw := hw.2 c66
          refine lv_aload_n hx hb dX6_follows_480 rfl (lv_at hl 0 rfl) ?_
          refine va_get (D := D) (ci := 6) (v := .int (q_code u)) (C := RX6) (T := TX6) (N := 29) hx hb hts i_X6 hown hK hP 0 rfl rfl 21 (by decide) f_148 (fun _ h9 => h9) rfl dX6_follows_481 ?_
          refine lv_sipush (v := (228 : Int32)) hx hb dX6_follows_484 (by decide) ?_
          refine lv_icmp_lt (tgt := 508) hx hb dX6_follows_487 (by decide) (fun c67 => ?_) (fun c67 => ?_)
          · replace hw := hw.1 c67
            exact b508 u H locs ls hP hD hS (lv_sub hl [0] rfl) hw
          · replace hw := hw.2 c67
            refine lv_aload_n hx hb dX6_follows_490 rfl (lv_at hl 0 rfl) ?_
            refine va_get (D := D) (ci := 6) (v := .int (q_code u)) (C := RX6) (T := TX6) (N := 29) hx hb hts i_X6 hown hK hP 0 rfl rfl 21 (by decide) f_148 (fun _ h9 => h9) rfl dX6_follows_491 ?_
            refine lv_sipush (v := (232 : Int32)) hx hb dX6_follows_494 (by decide) ?_
            refine lv_icmp_ge (tgt := 508) hx hb dX6_follows_497 (by decide) (fun c68 => ?_) (fun c68 => ?_)
            · replace hw := hw.1 c68
              exact b508 u H locs ls hP hD hS (lv_sub hl [0] rfl) hw
            · replace hw := hw.2 c68
              exact b500 u H locs ls hP hD hS (lv_sub hl [0] rfl) hw
  have b438 : ∀ (x1 : Int32) (u : SQ) (H : Heap) (locs : List Loc) (ls : Array Slot), va_P D vwCl (WQ cI h0 h1 h2 h3 h4 h5 u) H → va_D A (WQ cI h0 h1 h2 h3 h4 h5 u) → va_S A s.heap H locs → lv_has ls 4 [(0, .ref h0), (1, .int x1)] → wX6_follows_b438  P x1 u → W p l e ({ frames := 4, cells := 0, slots := 0, locals := 89 } : Room) s m ([.ref h0] : List Value).toArray below meth c H locs 0 0 (MQ below (va_Qi P (fun u t => va_P D vwCl (WQ cI h0 h1 h2 h3 h4 h5 u) t.heap) A) ([.ref h0] : List Value).toArray s 0 0 A) (F0 m 438 ls []) := by
    intro x1 u H locs ls hP hD hS hl hw
    unfold wX6_follows_b438 at hw
    refine lv_aload_n hx hb dX6_follows_438 rfl (lv_at hl 0 rfl) ?_
    refine lv_aload_n hx hb dX6_follows_439 rfl (lv_at hl 0 rfl) ?_
    refine lv_iload_n hx hb dX6_follows_440 rfl (lv_at hl 1 rfl) ?_
    refine cl_Vi (As := [.int x1]) (rest := [.ref h0]) (st := [.int x1, .ref h0, .ref h0]) S hK hA hP hD hS (fr_Q u) (kcX6_fetchNumber l D cB cI h0 h1 h2 h3 h4 h5 H.size x1 u _ hw) (cwV 1 hts gX6_follows_X6_fetchNumber rfl rfl rfl (by decide +kernel) ⟨Nat.le_of_ble_eq_true rfl, Nat.le_of_ble_eq_true rfl⟩) tru_h tru_b 0 rfl rfl rfl rfl rfl hl.1 (Nat.le_of_ble_eq_true rfl) dX6_follows_441 ⟨Nat.zero_le _, Nat.zero_le _⟩ (fun r63 u62 H locs hP hD hS hw => ?_)
    replace hP : va_P D vwCl (WQ cI h0 h1 h2 h3 h4 h5 u62) H := hP
    replace hD : va_D A (WQ cI h0 h1 h2 h3 h4 h5 u62) := hD
    refine va_put (D := D) (ci := 6) (v := .int r63) (ty := .int) (C := RX6) (T := TX6) (N := 29) hx hb hts i_X6 tyX6 tyX6_ok nmX6 hown hK hP hD hS 0 rfl rfl 27 (by decide) f_164 (fun _ h9 => h9) rfl (by decide +kernel) rfl rfl (Nat.le_of_ble_eq_true rfl) dX6_follows_444 (fun H locs hP hD hS => ?_)
    replace hP : va_P D vwCl (WQ cI h0 h1 h2 h3 h4 h5 (qs_i u62 r63)) H := hP
    replace hD : va_D A (WQ cI h0 h1 h2 h3 h4 h5 (qs_i u62 r63)) := hD
    refine lv_goto (tgt := 508) hx hb dX6_follows_447 (by decide) ?_
    exact b508 (qs_i u62 r63) H locs ls hP hD hS (lv_sub hl [0] rfl) hw
  have b430 : ∀ (x1 : Int32) (u : SQ) (H : Heap) (locs : List Loc) (ls : Array Slot), va_P D vwCl (WQ cI h0 h1 h2 h3 h4 h5 u) H → va_D A (WQ cI h0 h1 h2 h3 h4 h5 u) → va_S A s.heap H locs → lv_has ls 4 [(0, .ref h0), (1, .int x1)] → wX6_follows_b430  P x1 u → W p l e ({ frames := 4, cells := 0, slots := 0, locals := 89 } : Room) s m ([.ref h0] : List Value).toArray below meth c H locs 0 0 (MQ below (va_Qi P (fun u t => va_P D vwCl (WQ cI h0 h1 h2 h3 h4 h5 u) t.heap) A) ([.ref h0] : List Value).toArray s 0 0 A) (F0 m 430 ls []) := by
    intro x1 u H locs ls hP hD hS hl hw
    unfold wX6_follows_b430 at hw
    refine lv_aload_n hx hb dX6_follows_430 rfl (lv_at hl 0 rfl) ?_
    refine va_get (D := D) (ci := 6) (v := .int (q_r u)) (C := RX6) (T := TX6) (N := 29) hx hb hts i_X6 hown hK hP 0 rfl rfl 23 (by decide) f_130 (fun _ h9 => h9) rfl dX6_follows_431 ?_
    refine lv_iconst (v := (2 : Int32)) hx hb dX6_follows_434 (by decide) ?_
    refine lv_icmp_ge (tgt := 450) hx hb dX6_follows_435 (by decide) (fun c61 => ?_) (fun c61 => ?_)
    · replace hw := hw.1 c61
      exact b450 u H locs ls hP hD hS (lv_sub hl [0] rfl) hw
    · replace hw := hw.2 c61
      exact b438 x1 u H locs ls hP hD hS (lv_sub hl [0, 1] rfl) hw
  have b390 : ∀ (x1 : Int32) (u : SQ) (H : Heap) (locs : List Loc) (ls : Array Slot), va_P D vwCl (WQ cI h0 h1 h2 h3 h4 h5 u) H → va_D A (WQ cI h0 h1 h2 h3 h4 h5 u) → va_S A s.heap H locs → lv_has ls 4 [(0, .ref h0), (1, .int x1)] → wX6_follows_b390  P x1 u → W p l e ({ frames := 4, cells := 0, slots := 0, locals := 89 } : Room) s m ([.ref h0] : List Value).toArray below meth c H locs 0 0 (MQ below (va_Qi P (fun u t => va_P D vwCl (WQ cI h0 h1 h2 h3 h4 h5 u) t.heap) A) ([.ref h0] : List Value).toArray s 0 0 A) (F0 m 390 ls []) := by
    intro x1 u H locs ls hP hD hS hl hw
    unfold wX6_follows_b390 at hw
    refine lv_aload_n hx hb dX6_follows_390 rfl (lv_at hl 0 rfl) ?_
    refine va_get (D := D) (ci := 6) (v := .int (q_code u)) (C := RX6) (T := TX6) (N := 29) hx hb hts i_X6 hown hK hP 0 rfl rfl 21 (by decide) f_148 (fun _ h9 => h9) rfl dX6_follows_391 ?_
    refine lv_sipush (v := (198 : Int32)) hx hb dX6_follows_394 (by decide) ?_
    refine lv_icmp_eq (tgt := 438) hx hb dX6_follows_397 (by decide) (fun c57 => ?_) (fun c57 => ?_)
    · replace hw := hw.1 c57
      exact b438 x1 u H locs ls hP hD hS (lv_sub hl [0, 1] rfl) hw
    · replace hw := hw.2 c57
      refine lv_aload_n hx hb dX6_follows_400 rfl (lv_at hl 0 rfl) ?_
      refine va_get (D := D) (ci := 6) (v := .int (q_code u)) (C := RX6) (T := TX6) (N := 29) hx hb hts i_X6 hown hK hP 0 rfl rfl 21 (by decide) f_148 (fun _ h9 => h9) rfl dX6_follows_401 ?_
      refine lv_sipush (v := (199 : Int32)) hx hb dX6_follows_404 (by decide) ?_
      refine lv_icmp_eq (tgt := 438) hx hb dX6_follows_407 (by decide) (fun c58 => ?_) (fun c58 => ?_)
      · replace hw := hw.1 c58
        exact b438 x1 u H locs ls hP hD hS (lv_sub hl [0, 1] rfl) hw
      · replace hw := hw.2 c58
        refine lv_aload_n hx hb dX6_follows_410 rfl (lv_at hl 0 rfl) ?_
        refine va_get (D := D) (ci := 6) (v := .int (q_code u)) (C := RX6) (T := TX6) (N := 29) hx hb hts i_X6 hown hK hP 0 rfl rfl 21 (by decide) f_148 (fun _ h9 => h9) rfl dX6_follows_411 ?_
        refine lv_sipush (v := (246 : Int32)) hx hb dX6_follows_414 (by decide) ?_
        refine lv_icmp_eq (tgt := 430) hx hb dX6_follows_417 (by decide) (fun c59 => ?_) (fun c59 => ?_)
        · replace hw := hw.1 c59
          exact b430 x1 u H locs ls hP hD hS (lv_sub hl [0, 1] rfl) hw
        · replace hw := hw.2 c59
          refine lv_aload_n hx hb dX6_follows_420 rfl (lv_at hl 0 rfl) ?_
          refine va_get (D := D) (ci := 6) (v := .int (q_code u)) (C := RX6) (T := TX6) (N := 29) hx hb hts i_X6 hown hK hP 0 rfl rfl 21 (by decide) f_148 (fun _ h9 => h9) rfl dX6_follows_421 ?_
          refine lv_sipush (v := (247 : Int32)) hx hb dX6_follows_424 (by decide) ?_
          refine lv_icmp_ne (tgt := 450) hx hb dX6_follows_427 (by decide) (fun c60 => ?_) (fun c60 => ?_)
          · replace hw := hw.2 c60
            exact b450 u H locs ls hP hD hS (lv_sub hl [0] rfl) hw
          · replace hw := hw.1 c60
            exact b430 x1 u H locs ls hP hD hS (lv_sub hl [0, 1] rfl) hw
  have b381 : ∀ (s2 : Int32) (u : SQ) (H : Heap) (locs : List Loc) (ls : Array Slot), va_P D vwCl (WQ cI h0 h1 h2 h3 h4 h5 u) H → va_D A (WQ cI h0 h1 h2 h3 h4 h5 u) → va_S A s.heap H locs → lv_has ls 4 [(0, .ref h0)] → wX6_follows_b381  P s2 u → W p l e ({ frames := 4, cells := 0, slots := 0, locals := 89 } : Room) s m ([.ref h0] : List Value).toArray below meth c H locs 0 0 (MQ below (va_Qi P (fun u t => va_P D vwCl (WQ cI h0 h1 h2 h3 h4 h5 u) t.heap) A) ([.ref h0] : List Value).toArray s 0 0 A) (F0 m 381 ls [.int s2, .ref h0, .ref h0]) := by
    intro s2 u H locs ls hP hD hS hl hw
    unfold wX6_follows_b381 at hw
    refine cl_Vi (As := [.int s2]) (rest := [.ref h0]) (st := [.int s2, .ref h0, .ref h0]) S hK hA hP hD hS (fr_Q u) (kcX6_fetchNumber l D cB cI h0 h1 h2 h3 h4 h5 H.size s2 u _ hw) (cwV 1 hts gX6_follows_X6_fetchNumber rfl rfl rfl (by decide +kernel) ⟨Nat.le_of_ble_eq_true rfl, Nat.le_of_ble_eq_true rfl⟩) tru_h tru_b 0 rfl rfl rfl rfl rfl hl.1 (Nat.le_of_ble_eq_true rfl) dX6_follows_381 ⟨Nat.zero_le _, Nat.zero_le _⟩ (fun r56 u55 H locs hP hD hS hw => ?_)
    replace hP : va_P D vwCl (WQ cI h0 h1 h2 h3 h4 h5 u55) H := hP
    replace hD : va_D A (WQ cI h0 h1 h2 h3 h4 h5 u55) := hD
    refine va_put (D := D) (ci := 6) (v := .int r56) (ty := .int) (C := RX6) (T := TX6) (N := 29) hx hb hts i_X6 tyX6 tyX6_ok nmX6 hown hK hP hD hS 0 rfl rfl 27 (by decide) f_164 (fun _ h9 => h9) rfl (by decide +kernel) rfl rfl (Nat.le_of_ble_eq_true rfl) dX6_follows_384 (fun H locs hP hD hS => ?_)
    replace hP : va_P D vwCl (WQ cI h0 h1 h2 h3 h4 h5 (qs_i u55 r56)) H := hP
    replace hD : va_D A (WQ cI h0 h1 h2 h3 h4 h5 (qs_i u55 r56)) := hD
    refine lv_goto (tgt := 508) hx hb dX6_follows_387 (by decide) ?_
    exact b508 (qs_i u55 r56) H locs ls hP hD hS (lv_sub hl [0] rfl) hw
  have b333 : ∀  (u : SQ) (H : Heap) (locs : List Loc) (ls : Array Slot), va_P D vwCl (WQ cI h0 h1 h2 h3 h4 h5 u) H → va_D A (WQ cI h0 h1 h2 h3 h4 h5 u) → va_S A s.heap H locs → lv_has ls 4 [(0, .ref h0)] → wX6_follows_b333  P u → W p l e ({ frames := 4, cells := 0, slots := 0, locals := 89 } : Room) s m ([.ref h0] : List Value).toArray below meth c H locs 0 0 (MQ below (va_Qi P (fun u t => va_P D vwCl (WQ cI h0 h1 h2 h3 h4 h5 u) t.heap) A) ([.ref h0] : List Value).toArray s 0 0 A) (F0 m 333 ls []) := by
    intro u H locs ls hP hD hS hl hw
    unfold wX6_follows_b333 at hw
    refine lv_aload_n hx hb dX6_follows_333 rfl (lv_at hl 0 rfl) ?_
    refine lv_aload_n hx hb dX6_follows_334 rfl (lv_at hl 0 rfl) ?_
    refine cl_Vi (As := []) (rest := [.ref h0]) (st := [.ref h0, .ref h0]) S hK hA hP hD hS (fr_Q u) (kcX6_fetchWord l D cB cI h0 h1 h2 h3 h4 h5 H.size  u _ hw) (cwV 0 hts gX6_follows_X6_fetchWord rfl rfl rfl (by decide +kernel) ⟨Nat.le_of_ble_eq_true rfl, Nat.le_of_ble_eq_true rfl⟩) tru_h tru_b 0 rfl rfl rfl rfl rfl hl.1 (Nat.le_of_ble_eq_true rfl) dX6_follows_335 ⟨Nat.zero_le _, Nat.zero_le _⟩ (fun r54 u53 H locs hP hD hS hw => ?_)
    replace hP : va_P D vwCl (WQ cI h0 h1 h2 h3 h4 h5 u53) H := hP
    replace hD : va_D A (WQ cI h0 h1 h2 h3 h4 h5 u53) := hD
    refine va_put (D := D) (ci := 6) (v := .int r54) (ty := .int) (C := RX6) (T := TX6) (N := 29) hx hb hts i_X6 tyX6 tyX6_ok nmX6 hown hK hP hD hS 0 rfl rfl 27 (by decide) f_164 (fun _ h9 => h9) rfl (by decide +kernel) rfl rfl (Nat.le_of_ble_eq_true rfl) dX6_follows_338 (fun H locs hP hD hS => ?_)
    replace hP : va_P D vwCl (WQ cI h0 h1 h2 h3 h4 h5 (qs_i u53 r54)) H := hP
    replace hD : va_D A (WQ cI h0 h1 h2 h3 h4 h5 (qs_i u53 r54)) := hD
    refine lv_goto (tgt := 508) hx hb dX6_follows_341 (by decide) ?_
    exact b508 (qs_i u53 r54) H locs ls hP hD hS (lv_sub hl [0] rfl) hw
  have b273 : ∀ (x1 : Int32) (u : SQ) (H : Heap) (locs : List Loc) (ls : Array Slot), va_P D vwCl (WQ cI h0 h1 h2 h3 h4 h5 u) H → va_D A (WQ cI h0 h1 h2 h3 h4 h5 u) → va_S A s.heap H locs → lv_has ls 4 [(0, .ref h0), (1, .int x1)] → wX6_follows_b273  P x1 u → W p l e ({ frames := 4, cells := 0, slots := 0, locals := 89 } : Room) s m ([.ref h0] : List Value).toArray below meth c H locs 0 0 (MQ below (va_Qi P (fun u t => va_P D vwCl (WQ cI h0 h1 h2 h3 h4 h5 u) t.heap) A) ([.ref h0] : List Value).toArray s 0 0 A) (F0 m 273 ls []) := by
    intro x1 u H locs ls hP hD hS hl hw
    unfold wX6_follows_b273 at hw
    refine lv_aload_n hx hb dX6_follows_273 rfl (lv_at hl 0 rfl) ?_
    refine va_get (D := D) (ci := 6) (v := .int (q_code u)) (C := RX6) (T := TX6) (N := 29) hx hb hts i_X6 hown hK hP 0 rfl rfl 21 (by decide) f_148 (fun _ h9 => h9) rfl dX6_follows_274 ?_
    refine lv_sipush (v := (192 : Int32)) hx hb dX6_follows_277 (by decide) ?_
    refine lv_icmp_eq (tgt := 333) hx hb dX6_follows_280 (by decide) (fun c44 => ?_) (fun c44 => ?_)
    · replace hw := hw.1 c44
      exact b333 u H locs ls hP hD hS (lv_sub hl [0] rfl) hw
    · replace hw := hw.2 c44
      refine lv_aload_n hx hb dX6_follows_283 rfl (lv_at hl 0 rfl) ?_
      refine va_get (D := D) (ci := 6) (v := .int (q_code u)) (C := RX6) (T := TX6) (N := 29) hx hb hts i_X6 hown hK hP 0 rfl rfl 21 (by decide) f_148 (fun _ h9 => h9) rfl dX6_follows_284 ?_
      refine lv_sipush (v := (194 : Int32)) hx hb dX6_follows_287 (by decide) ?_
      refine lv_icmp_eq (tgt := 333) hx hb dX6_follows_290 (by decide) (fun c45 => ?_) (fun c45 => ?_)
      · replace hw := hw.1 c45
        exact b333 u H locs ls hP hD hS (lv_sub hl [0] rfl) hw
      · replace hw := hw.2 c45
        refine lv_aload_n hx hb dX6_follows_293 rfl (lv_at hl 0 rfl) ?_
        refine va_get (D := D) (ci := 6) (v := .int (q_code u)) (C := RX6) (T := TX6) (N := 29) hx hb hts i_X6 hown hK hP 0 rfl rfl 21 (by decide) f_148 (fun _ h9 => h9) rfl dX6_follows_294 ?_
        refine lv_sipush (v := (200 : Int32)) hx hb dX6_follows_297 (by decide) ?_
        refine lv_icmp_eq (tgt := 333) hx hb dX6_follows_300 (by decide) (fun c46 => ?_) (fun c46 => ?_)
        · replace hw := hw.1 c46
          exact b333 u H locs ls hP hD hS (lv_sub hl [0] rfl) hw
        · replace hw := hw.2 c46
          refine lv_aload_n hx hb dX6_follows_303 rfl (lv_at hl 0 rfl) ?_
          refine va_get (D := D) (ci := 6) (v := .int (q_code u)) (C := RX6) (T := TX6) (N := 29) hx hb hts i_X6 hown hK hP 0 rfl rfl 21 (by decide) f_148 (fun _ h9 => h9) rfl dX6_follows_304 ?_
          refine lv_sipush (v := (202 : Int32)) hx hb dX6_follows_307 (by decide) ?_
          refine lv_icmp_eq (tgt := 333) hx hb dX6_follows_310 (by decide) (fun c47 => ?_) (fun c47 => ?_)
          · replace hw := hw.1 c47
            exact b333 u H locs ls hP hD hS (lv_sub hl [0] rfl) hw
          · replace hw := hw.2 c47
            refine lv_aload_n hx hb dX6_follows_313 rfl (lv_at hl 0 rfl) ?_
            refine va_get (D := D) (ci := 6) (v := .int (q_code u)) (C := RX6) (T := TX6) (N := 29) hx hb hts i_X6 hown hK hP 0 rfl rfl 21 (by decide) f_148 (fun _ h9 => h9) rfl dX6_follows_314 ?_
            refine lv_sipush (v := (232 : Int32)) hx hb dX6_follows_317 (by decide) ?_
            refine lv_icmp_eq (tgt := 333) hx hb dX6_follows_320 (by decide) (fun c48 => ?_) (fun c48 => ?_)
            · replace hw := hw.1 c48
              exact b333 u H locs ls hP hD hS (lv_sub hl [0] rfl) hw
            · replace hw := hw.2 c48
              refine lv_aload_n hx hb dX6_follows_323 rfl (lv_at hl 0 rfl) ?_
              refine va_get (D := D) (ci := 6) (v := .int (q_code u)) (C := RX6) (T := TX6) (N := 29) hx hb hts i_X6 hown hK hP 0 rfl rfl 21 (by decide) f_148 (fun _ h9 => h9) rfl dX6_follows_324 ?_
              refine lv_sipush (v := (233 : Int32)) hx hb dX6_follows_327 (by decide) ?_
              refine lv_icmp_ne (tgt := 344) hx hb dX6_follows_330 (by decide) (fun c49 => ?_) (fun c49 => ?_)
              · replace hw := hw.2 c49
                refine lv_aload_n hx hb dX6_follows_344 rfl (lv_at hl 0 rfl) ?_
                refine va_get (D := D) (ci := 6) (v := .int (q_code u)) (C := RX6) (T := TX6) (N := 29) hx hb hts i_X6 hown hK hP 0 rfl rfl 21 (by decide) f_148 (fun _ h9 => h9) rfl dX6_follows_345 ?_
                refine lv_sipush (v := (176 : Int32)) hx hb dX6_follows_348 (by decide) ?_
                refine lv_icmp_lt (tgt := 390) hx hb dX6_follows_351 (by decide) (fun c50 => ?_) (fun c50 => ?_)
                · replace hw := hw.1 c50
                  exact b390 x1 u H locs ls hP hD hS (lv_sub hl [0, 1] rfl) hw
                · replace hw := hw.2 c50
                  refine lv_aload_n hx hb dX6_follows_354 rfl (lv_at hl 0 rfl) ?_
                  refine va_get (D := D) (ci := 6) (v := .int (q_code u)) (C := RX6) (T := TX6) (N := 29) hx hb hts i_X6 hown hK hP 0 rfl rfl 21 (by decide) f_148 (fun _ h9 => h9) rfl dX6_follows_355 ?_
                  refine lv_sipush (v := (192 : Int32)) hx hb dX6_follows_358 (by decide) ?_
                  refine lv_icmp_ge (tgt := 390) hx hb dX6_follows_361 (by decide) (fun c51 => ?_) (fun c51 => ?_)
                  · replace hw := hw.1 c51
                    exact b390 x1 u H locs ls hP hD hS (lv_sub hl [0, 1] rfl) hw
                  · replace hw := hw.2 c51
                    refine lv_aload_n hx hb dX6_follows_364 rfl (lv_at hl 0 rfl) ?_
                    refine lv_aload_n hx hb dX6_follows_365 rfl (lv_at hl 0 rfl) ?_
                    refine lv_aload_n hx hb dX6_follows_366 rfl (lv_at hl 0 rfl) ?_
                    refine va_get (D := D) (ci := 6) (v := .int (q_code u)) (C := RX6) (T := TX6) (N := 29) hx hb hts i_X6 hown hK hP 0 rfl rfl 21 (by decide) f_148 (fun _ h9 => h9) rfl dX6_follows_367 ?_
                    refine lv_sipush (v := (184 : Int32)) hx hb dX6_follows_370 (by decide) ?_
                    refine lv_icmp_lt (tgt := 380) hx hb dX6_follows_373 (by decide) (fun c52 => ?_) (fun c52 => ?_)
                    · replace hw := hw.1 c52
                      refine lv_iconst (v := (0 : Int32)) hx hb dX6_follows_380 (by decide) ?_
                      exact b381 (0 : Int32) u H locs ls hP hD hS (lv_sub hl [0] rfl) hw
                    · replace hw := hw.2 c52
                      refine lv_iconst (v := (1 : Int32)) hx hb dX6_follows_376 (by decide) ?_
                      refine lv_goto (tgt := 381) hx hb dX6_follows_377 (by decide) ?_
                      exact b381 (1 : Int32) u H locs ls hP hD hS (lv_sub hl [0] rfl) hw
              · replace hw := hw.1 c49
                exact b333 u H locs ls hP hD hS (lv_sub hl [0] rfl) hw
  have b234 : ∀  (u : SQ) (H : Heap) (locs : List Loc) (ls : Array Slot), va_P D vwCl (WQ cI h0 h1 h2 h3 h4 h5 u) H → va_D A (WQ cI h0 h1 h2 h3 h4 h5 u) → va_S A s.heap H locs → lv_has ls 4 [(0, .ref h0)] → wX6_follows_b234  P u → W p l e ({ frames := 4, cells := 0, slots := 0, locals := 89 } : Room) s m ([.ref h0] : List Value).toArray below meth c H locs 0 0 (MQ below (va_Qi P (fun u t => va_P D vwCl (WQ cI h0 h1 h2 h3 h4 h5 u) t.heap) A) ([.ref h0] : List Value).toArray s 0 0 A) (F0 m 234 ls []) := by
    intro u H locs ls hP hD hS hl hw
    unfold wX6_follows_b234 at hw
    refine lv_aload_n hx hb dX6_follows_234 rfl (lv_at hl 0 rfl) ?_
    refine lv_aload_n hx hb dX6_follows_235 rfl (lv_at hl 0 rfl) ?_
    refine cl_Vi (As := []) (rest := [.ref h0]) (st := [.ref h0, .ref h0]) S hK hA hP hD hS (fr_Q u) (kcX6_fetchWord l D cB cI h0 h1 h2 h3 h4 h5 H.size  u _ hw) (cwV 0 hts gX6_follows_X6_fetchWord rfl rfl rfl (by decide +kernel) ⟨Nat.le_of_ble_eq_true rfl, Nat.le_of_ble_eq_true rfl⟩) tru_h tru_b 0 rfl rfl rfl rfl rfl hl.1 (Nat.le_of_ble_eq_true rfl) dX6_follows_236 ⟨Nat.zero_le _, Nat.zero_le _⟩ (fun r41 u40 H locs hP hD hS hw => ?_)
    replace hP : va_P D vwCl (WQ cI h0 h1 h2 h3 h4 h5 u40) H := hP
    replace hD : va_D A (WQ cI h0 h1 h2 h3 h4 h5 u40) := hD
    refine va_put (D := D) (ci := 6) (v := .int r41) (ty := .int) (C := RX6) (T := TX6) (N := 29) hx hb hts i_X6 tyX6 tyX6_ok nmX6 hown hK hP hD hS 0 rfl rfl 27 (by decide) f_164 (fun _ h9 => h9) rfl (by decide +kernel) rfl rfl (Nat.le_of_ble_eq_true rfl) dX6_follows_239 (fun H locs hP hD hS => ?_)
    replace hP : va_P D vwCl (WQ cI h0 h1 h2 h3 h4 h5 (qs_i u40 r41)) H := hP
    replace hD : va_D A (WQ cI h0 h1 h2 h3 h4 h5 (qs_i u40 r41)) := hD
    refine lv_aload_n hx hb dX6_follows_242 rfl (lv_at hl 0 rfl) ?_
    refine lv_aload_n hx hb dX6_follows_243 rfl (lv_at hl 0 rfl) ?_
    refine cl_Vi (As := []) (rest := [.ref h0]) (st := [.ref h0, .ref h0]) S hK hA hP hD hS (fr_Q (qs_i u40 r41)) (kcX6_fetchWord l D cB cI h0 h1 h2 h3 h4 h5 H.size  (qs_i u40 r41) _ hw) (cwV 0 hts gX6_follows_X6_fetchWord rfl rfl rfl (by decide +kernel) ⟨Nat.le_of_ble_eq_true rfl, Nat.le_of_ble_eq_true rfl⟩) tru_h tru_b 0 rfl rfl rfl rfl rfl hl.1 (Nat.le_of_ble_eq_true rfl) dX6_follows_244 ⟨Nat.zero_le _, Nat.zero_le _⟩ (fun r43 u42 H locs hP hD hS hw => ?_)
    replace hP : va_P D vwCl (WQ cI h0 h1 h2 h3 h4 h5 u42) H := hP
    replace hD : va_D A (WQ cI h0 h1 h2 h3 h4 h5 u42) := hD
    refine va_put (D := D) (ci := 6) (v := .int r43) (ty := .int) (C := RX6) (T := TX6) (N := 29) hx hb hts i_X6 tyX6 tyX6_ok nmX6 hown hK hP hD hS 0 rfl rfl 28 (by decide) f_167 (fun _ h9 => h9) rfl (by decide +kernel) rfl rfl (Nat.le_of_ble_eq_true rfl) dX6_follows_247 (fun H locs hP hD hS => ?_)
    replace hP : va_P D vwCl (WQ cI h0 h1 h2 h3 h4 h5 (qs_j u42 r43)) H := hP
    replace hD : va_D A (WQ cI h0 h1 h2 h3 h4 h5 (qs_j u42 r43)) := hD
    refine lv_goto (tgt := 508) hx hb dX6_follows_250 (by decide) ?_
    exact b508 (qs_j u42 r43) H locs ls hP hD hS (lv_sub hl [0] rfl) hw
  have b214 : ∀ (x1 : Int32) (u : SQ) (H : Heap) (locs : List Loc) (ls : Array Slot), va_P D vwCl (WQ cI h0 h1 h2 h3 h4 h5 u) H → va_D A (WQ cI h0 h1 h2 h3 h4 h5 u) → va_S A s.heap H locs → lv_has ls 4 [(0, .ref h0), (1, .int x1)] → wX6_follows_b214  P x1 u → W p l e ({ frames := 4, cells := 0, slots := 0, locals := 89 } : Room) s m ([.ref h0] : List Value).toArray below meth c H locs 0 0 (MQ below (va_Qi P (fun u t => va_P D vwCl (WQ cI h0 h1 h2 h3 h4 h5 u) t.heap) A) ([.ref h0] : List Value).toArray s 0 0 A) (F0 m 214 ls []) := by
    intro x1 u H locs ls hP hD hS hl hw
    unfold wX6_follows_b214 at hw
    refine lv_aload_n hx hb dX6_follows_214 rfl (lv_at hl 0 rfl) ?_
    refine va_get (D := D) (ci := 6) (v := .int (q_code u)) (C := RX6) (T := TX6) (N := 29) hx hb hts i_X6 hown hK hP 0 rfl rfl 21 (by decide) f_148 (fun _ h9 => h9) rfl dX6_follows_215 ?_
    refine lv_sipush (v := (154 : Int32)) hx hb dX6_follows_218 (by decide) ?_
    refine lv_icmp_eq (tgt := 234) hx hb dX6_follows_221 (by decide) (fun c36 => ?_) (fun c36 => ?_)
    · replace hw := hw.1 c36
      exact b234 u H locs ls hP hD hS (lv_sub hl [0] rfl) hw
    · replace hw := hw.2 c36
      refine lv_aload_n hx hb dX6_follows_224 rfl (lv_at hl 0 rfl) ?_
      refine va_get (D := D) (ci := 6) (v := .int (q_code u)) (C := RX6) (T := TX6) (N := 29) hx hb hts i_X6 hown hK hP 0 rfl rfl 21 (by decide) f_148 (fun _ h9 => h9) rfl dX6_follows_225 ?_
      refine lv_sipush (v := (234 : Int32)) hx hb dX6_follows_228 (by decide) ?_
      refine lv_icmp_ne (tgt := 253) hx hb dX6_follows_231 (by decide) (fun c37 => ?_) (fun c37 => ?_)
      · replace hw := hw.2 c37
        refine lv_aload_n hx hb dX6_follows_253 rfl (lv_at hl 0 rfl) ?_
        refine va_get (D := D) (ci := 6) (v := .int (q_code u)) (C := RX6) (T := TX6) (N := 29) hx hb hts i_X6 hown hK hP 0 rfl rfl 21 (by decide) f_148 (fun _ h9 => h9) rfl dX6_follows_254 ?_
        refine lv_sipush (v := (160 : Int32)) hx hb dX6_follows_257 (by decide) ?_
        refine lv_icmp_lt (tgt := 273) hx hb dX6_follows_260 (by decide) (fun c38 => ?_) (fun c38 => ?_)
        · replace hw := hw.1 c38
          exact b273 x1 u H locs ls hP hD hS (lv_sub hl [0, 1] rfl) hw
        · replace hw := hw.2 c38
          refine lv_aload_n hx hb dX6_follows_263 rfl (lv_at hl 0 rfl) ?_
          refine va_get (D := D) (ci := 6) (v := .int (q_code u)) (C := RX6) (T := TX6) (N := 29) hx hb hts i_X6 hown hK hP 0 rfl rfl 21 (by decide) f_148 (fun _ h9 => h9) rfl dX6_follows_264 ?_
          refine lv_sipush (v := (164 : Int32)) hx hb dX6_follows_267 (by decide) ?_
          refine lv_icmp_lt (tgt := 333) hx hb dX6_follows_270 (by decide) (fun c39 => ?_) (fun c39 => ?_)
          · replace hw := hw.1 c39
            exact b333 u H locs ls hP hD hS (lv_sub hl [0] rfl) hw
          · replace hw := hw.2 c39
            exact b273 x1 u H locs ls hP hD hS (lv_sub hl [0, 1] rfl) hw
      · replace hw := hw.1 c37
        exact b234 u H locs ls hP hD hS (lv_sub hl [0] rfl) hw
  have b208 : ∀ (s1 : Int32) (u : SQ) (H : Heap) (locs : List Loc) (ls : Array Slot), va_P D vwCl (WQ cI h0 h1 h2 h3 h4 h5 u) H → va_D A (WQ cI h0 h1 h2 h3 h4 h5 u) → va_S A s.heap H locs → lv_has ls 4 [(0, .ref h0)] → wX6_follows_b208  P s1 u → W p l e ({ frames := 4, cells := 0, slots := 0, locals := 89 } : Room) s m ([.ref h0] : List Value).toArray below meth c H locs 0 0 (MQ below (va_Qi P (fun u t => va_P D vwCl (WQ cI h0 h1 h2 h3 h4 h5 u) t.heap) A) ([.ref h0] : List Value).toArray s 0 0 A) (F0 m 208 ls [.int s1, .ref h0]) := by
    intro s1 u H locs ls hP hD hS hl hw
    unfold wX6_follows_b208 at hw
    refine va_put (D := D) (ci := 6) (v := .int s1) (ty := .int) (C := RX6) (T := TX6) (N := 29) hx hb hts i_X6 tyX6 tyX6_ok nmX6 hown hK hP hD hS 0 rfl rfl 27 (by decide) f_164 (fun _ h9 => h9) rfl (by decide +kernel) rfl rfl (Nat.le_of_ble_eq_true rfl) dX6_follows_208 (fun H locs hP hD hS => ?_)
    replace hP : va_P D vwCl (WQ cI h0 h1 h2 h3 h4 h5 (qs_i u s1)) H := hP
    replace hD : va_D A (WQ cI h0 h1 h2 h3 h4 h5 (qs_i u s1)) := hD
    refine lv_goto (tgt := 508) hx hb dX6_follows_211 (by decide) ?_
    exact b508 (qs_i u s1) H locs ls hP hD hS (lv_sub hl [0] rfl) hw
  have b129 : ∀  (u : SQ) (H : Heap) (locs : List Loc) (ls : Array Slot), va_P D vwCl (WQ cI h0 h1 h2 h3 h4 h5 u) H → va_D A (WQ cI h0 h1 h2 h3 h4 h5 u) → va_S A s.heap H locs → lv_has ls 4 [(0, .ref h0)] → wX6_follows_b129  P u → W p l e ({ frames := 4, cells := 0, slots := 0, locals := 89 } : Room) s m ([.ref h0] : List Value).toArray below meth c H locs 0 0 (MQ below (va_Qi P (fun u t => va_P D vwCl (WQ cI h0 h1 h2 h3 h4 h5 u) t.heap) A) ([.ref h0] : List Value).toArray s 0 0 A) (F0 m 129 ls []) := by
    intro u H locs ls hP hD hS hl hw
    unfold wX6_follows_b129 at hw
    refine lv_aload_n hx hb dX6_follows_129 rfl (lv_at hl 0 rfl) ?_
    refine lv_aload_n hx hb dX6_follows_130 rfl (lv_at hl 0 rfl) ?_
    refine cl_Vi (As := []) (rest := [.ref h0]) (st := [.ref h0, .ref h0]) S hK hA hP hD hS (fr_Q u) (kcX6_fetch l D cB cI h0 h1 h2 h3 h4 h5 H.size  u _ hw) (cwV 0 hts gX6_follows_X6_fetch rfl rfl rfl (by decide +kernel) ⟨Nat.le_of_ble_eq_true rfl, Nat.le_of_ble_eq_true rfl⟩) tru_h tru_b 0 rfl rfl rfl rfl rfl hl.1 (Nat.le_of_ble_eq_true rfl) dX6_follows_131 ⟨Nat.zero_le _, Nat.zero_le _⟩ (fun r33 u32 H locs hP hD hS hw => ?_)
    replace hP : va_P D vwCl (WQ cI h0 h1 h2 h3 h4 h5 u32) H := hP
    replace hD : va_D A (WQ cI h0 h1 h2 h3 h4 h5 u32) := hD
    refine cl_Si (As := [.int r33]) (rest := [.ref h0]) (st := [.int r33, .ref h0]) S hK hA hP hD hS Fr_nil (kcX6_extended l D cB cI  H.size r33 () _ hw) (va_cwS 1 hts gX6_follows_X6_extended rfl rfl rfl (by decide +kernel) ⟨Nat.le_of_ble_eq_true rfl, Nat.le_of_ble_eq_true rfl⟩) tru_h tru_b rfl rfl hl.1 (Nat.le_of_ble_eq_true rfl) dX6_follows_134 ⟨Nat.zero_le _, Nat.zero_le _⟩ (fun r35 u34 H locs hP hD hS hw => ?_)
    replace hP : va_P D vwCl (WQ cI h0 h1 h2 h3 h4 h5 u32) H := hP
    replace hD : va_D A (WQ cI h0 h1 h2 h3 h4 h5 u32) := hD
    refine va_put (D := D) (ci := 6) (v := .int r35) (ty := .int) (C := RX6) (T := TX6) (N := 29) hx hb hts i_X6 tyX6 tyX6_ok nmX6 hown hK hP hD hS 0 rfl rfl 27 (by decide) f_164 (fun _ h9 => h9) rfl (by decide +kernel) rfl rfl (Nat.le_of_ble_eq_true rfl) dX6_follows_137 (fun H locs hP hD hS => ?_)
    replace hP : va_P D vwCl (WQ cI h0 h1 h2 h3 h4 h5 (qs_i u32 r35)) H := hP
    replace hD : va_D A (WQ cI h0 h1 h2 h3 h4 h5 (qs_i u32 r35)) := hD
    refine lv_goto (tgt := 508) hx hb dX6_follows_140 (by decide) ?_
    exact b508 (qs_i u32 r35) H locs ls hP hD hS (lv_sub hl [0] rfl) hw
  have b119 : ∀ (x1 : Int32) (u : SQ) (H : Heap) (locs : List Loc) (ls : Array Slot), va_P D vwCl (WQ cI h0 h1 h2 h3 h4 h5 u) H → va_D A (WQ cI h0 h1 h2 h3 h4 h5 u) → va_S A s.heap H locs → lv_has ls 4 [(0, .ref h0), (1, .int x1)] → wX6_follows_b119  P x1 u → W p l e ({ frames := 4, cells := 0, slots := 0, locals := 89 } : Room) s m ([.ref h0] : List Value).toArray below meth c H locs 0 0 (MQ below (va_Qi P (fun u t => va_P D vwCl (WQ cI h0 h1 h2 h3 h4 h5 u) t.heap) A) ([.ref h0] : List Value).toArray s 0 0 A) (F0 m 119 ls []) := by
    intro x1 u H locs ls hP hD hS hl hw
    unfold wX6_follows_b119 at hw
    refine lv_aload_n hx hb dX6_follows_119 rfl (lv_at hl 0 rfl) ?_
    refine va_get (D := D) (ci := 6) (v := .int (q_code u)) (C := RX6) (T := TX6) (N := 29) hx hb hts i_X6 hown hK hP 0 rfl rfl 21 (by decide) f_148 (fun _ h9 => h9) rfl dX6_follows_120 ?_
    refine lv_sipush (v := (235 : Int32)) hx hb dX6_follows_123 (by decide) ?_
    refine lv_icmp_ne (tgt := 143) hx hb dX6_follows_126 (by decide) (fun c19 => ?_) (fun c19 => ?_)
    · replace hw := hw.2 c19
      refine lv_aload_n hx hb dX6_follows_143 rfl (lv_at hl 0 rfl) ?_
      refine va_get (D := D) (ci := 6) (v := .int (q_code u)) (C := RX6) (T := TX6) (N := 29) hx hb hts i_X6 hown hK hP 0 rfl rfl 21 (by decide) f_148 (fun _ h9 => h9) rfl dX6_follows_144 ?_
      refine lv_sipush (v := (128 : Int32)) hx hb dX6_follows_147 (by decide) ?_
      refine lv_icmp_lt (tgt := 214) hx hb dX6_follows_150 (by decide) (fun c20 => ?_) (fun c20 => ?_)
      · replace hw := hw.1 c20
        exact b214 x1 u H locs ls hP hD hS (lv_sub hl [0, 1] rfl) hw
      · replace hw := hw.2 c20
        refine lv_aload_n hx hb dX6_follows_153 rfl (lv_at hl 0 rfl) ?_
        refine va_get (D := D) (ci := 6) (v := .int (q_code u)) (C := RX6) (T := TX6) (N := 29) hx hb hts i_X6 hown hK hP 0 rfl rfl 21 (by decide) f_148 (fun _ h9 => h9) rfl dX6_follows_154 ?_
        refine lv_sipush (v := (132 : Int32)) hx hb dX6_follows_157 (by decide) ?_
        refine lv_icmp_ge (tgt := 214) hx hb dX6_follows_160 (by decide) (fun c21 => ?_) (fun c21 => ?_)
        · replace hw := hw.1 c21
          exact b214 x1 u H locs ls hP hD hS (lv_sub hl [0, 1] rfl) hw
        · replace hw := hw.2 c21
          refine lv_aload_n hx hb dX6_follows_163 rfl (lv_at hl 0 rfl) ?_
          refine lv_aload_n hx hb dX6_follows_164 rfl (lv_at hl 0 rfl) ?_
          refine va_get (D := D) (ci := 6) (v := .int (q_code u)) (C := RX6) (T := TX6) (N := 29) hx hb hts i_X6 hown hK hP 0 rfl rfl 21 (by decide) f_148 (fun _ h9 => h9) rfl dX6_follows_165 ?_
          refine lv_sipush (v := (129 : Int32)) hx hb dX6_follows_168 (by decide) ?_
          refine lv_icmp_ne (tgt := 181) hx hb dX6_follows_171 (by decide) (fun c22 => ?_) (fun c22 => ?_)
          · replace hw := hw.2 c22
            refine lv_aload_n hx hb dX6_follows_181 rfl (lv_at hl 0 rfl) ?_
            refine va_get (D := D) (ci := 6) (v := .int (q_code u)) (C := RX6) (T := TX6) (N := 29) hx hb hts i_X6 hown hK hP 0 rfl rfl 21 (by decide) f_148 (fun _ h9 => h9) rfl dX6_follows_182 ?_
            refine lv_sipush (v := (131 : Int32)) hx hb dX6_follows_185 (by decide) ?_
            refine lv_icmp_ne (tgt := 204) hx hb dX6_follows_188 (by decide) (fun c23 => ?_) (fun c23 => ?_)
            · replace hw := hw.2 c23
              refine lv_aload_n hx hb dX6_follows_204 rfl (lv_at hl 0 rfl) ?_
              refine cl_Vi (As := []) (rest := [.ref h0]) (st := [.ref h0, .ref h0]) S hK hA hP hD hS (fr_Q u) (kcX6_fetch l D cB cI h0 h1 h2 h3 h4 h5 H.size  u _ hw) (cwV 0 hts gX6_follows_X6_fetch rfl rfl rfl (by decide +kernel) ⟨Nat.le_of_ble_eq_true rfl, Nat.le_of_ble_eq_true rfl⟩) tru_h tru_b 0 rfl rfl rfl rfl rfl hl.1 (Nat.le_of_ble_eq_true rfl) dX6_follows_205 ⟨Nat.zero_le _, Nat.zero_le _⟩ (fun r25 u24 H locs hP hD hS hw => ?_)
              replace hP : va_P D vwCl (WQ cI h0 h1 h2 h3 h4 h5 u24) H := hP
              replace hD : va_D A (WQ cI h0 h1 h2 h3 h4 h5 u24) := hD
              exact b208 r25 u24 H locs ls hP hD hS (lv_sub hl [0] rfl) hw
            · replace hw := hw.1 c23
              refine lv_aload_n hx hb dX6_follows_191 rfl (lv_at hl 0 rfl) ?_
              refine cl_Vi (As := []) (rest := [.ref h0]) (st := [.ref h0, .ref h0]) S hK hA hP hD hS (fr_Q u) (kcX6_fetch l D cB cI h0 h1 h2 h3 h4 h5 H.size  u _ hw) (cwV 0 hts gX6_follows_X6_fetch rfl rfl rfl (by decide +kernel) ⟨Nat.le_of_ble_eq_true rfl, Nat.le_of_ble_eq_true rfl⟩) tru_h tru_b 0 rfl rfl rfl rfl rfl hl.1 (Nat.le_of_ble_eq_true rfl) dX6_follows_192 ⟨Nat.zero_le _, Nat.zero_le _⟩ (fun r27 u26 H locs hP hD hS hw => ?_)
              replace hP : va_P D vwCl (WQ cI h0 h1 h2 h3 h4 h5 u26) H := hP
              replace hD : va_D A (WQ cI h0 h1 h2 h3 h4 h5 u26) := hD
              refine cl_Si (As := [.int r27]) (rest := [.ref h0]) (st := [.int r27, .ref h0]) S hK hA hP hD hS Fr_nil (kcX6_extended l D cB cI  H.size r27 () _ hw) (va_cwS 1 hts gX6_follows_X6_extended rfl rfl rfl (by decide +kernel) ⟨Nat.le_of_ble_eq_true rfl, Nat.le_of_ble_eq_true rfl⟩) tru_h tru_b rfl rfl hl.1 (Nat.le_of_ble_eq_true rfl) dX6_follows_195 ⟨Nat.zero_le _, Nat.zero_le _⟩ (fun r29 u28 H locs hP hD hS hw => ?_)
              replace hP : va_P D vwCl (WQ cI h0 h1 h2 h3 h4 h5 u26) H := hP
              replace hD : va_D A (WQ cI h0 h1 h2 h3 h4 h5 u26) := hD
              refine lv_ldc (v := (65535 : Int32)) hx hb hown k_39 dX6_follows_198 ?_
              refine lv_iand hx hb dX6_follows_200 ?_
              refine lv_goto (tgt := 208) hx hb dX6_follows_201 (by decide) ?_
              exact b208 (r29 &&& (65535 : Int32)) u26 H locs ls hP hD hS (lv_sub hl [0] rfl) hw
          · replace hw := hw.1 c22
            refine lv_aload_n hx hb dX6_follows_174 rfl (lv_at hl 0 rfl) ?_
            refine cl_Vi (As := []) (rest := [.ref h0]) (st := [.ref h0, .ref h0]) S hK hA hP hD hS (fr_Q u) (kcX6_fetchWord l D cB cI h0 h1 h2 h3 h4 h5 H.size  u _ hw) (cwV 0 hts gX6_follows_X6_fetchWord rfl rfl rfl (by decide +kernel) ⟨Nat.le_of_ble_eq_true rfl, Nat.le_of_ble_eq_true rfl⟩) tru_h tru_b 0 rfl rfl rfl rfl rfl hl.1 (Nat.le_of_ble_eq_true rfl) dX6_follows_175 ⟨Nat.zero_le _, Nat.zero_le _⟩ (fun r31 u30 H locs hP hD hS hw => ?_)
            replace hP : va_P D vwCl (WQ cI h0 h1 h2 h3 h4 h5 u30) H := hP
            replace hD : va_D A (WQ cI h0 h1 h2 h3 h4 h5 u30) := hD
            refine lv_goto (tgt := 208) hx hb dX6_follows_178 (by decide) ?_
            exact b208 r31 u30 H locs ls hP hD hS (lv_sub hl [0] rfl) hw
    · replace hw := hw.1 c19
      exact b129 u H locs ls hP hD hS (lv_sub hl [0] rfl) hw
  have b99 : ∀ (x1 : Int32) (u : SQ) (H : Heap) (locs : List Loc) (ls : Array Slot), va_P D vwCl (WQ cI h0 h1 h2 h3 h4 h5 u) H → va_D A (WQ cI h0 h1 h2 h3 h4 h5 u) → va_S A s.heap H locs → lv_has ls 4 [(0, .ref h0), (1, .int x1)] → wX6_follows_b99  P x1 u → W p l e ({ frames := 4, cells := 0, slots := 0, locals := 89 } : Room) s m ([.ref h0] : List Value).toArray below meth c H locs 0 0 (MQ below (va_Qi P (fun u t => va_P D vwCl (WQ cI h0 h1 h2 h3 h4 h5 u) t.heap) A) ([.ref h0] : List Value).toArray s 0 0 A) (F0 m 99 ls []) := by
    intro x1 u H locs ls hP hD hS hl hw
    unfold wX6_follows_b99 at hw
    refine lv_aload_n hx hb dX6_follows_99 rfl (lv_at hl 0 rfl) ?_
    refine va_get (D := D) (ci := 6) (v := .int (q_code u)) (C := RX6) (T := TX6) (N := 29) hx hb hts i_X6 hown hK hP 0 rfl rfl 21 (by decide) f_148 (fun _ h9 => h9) rfl dX6_follows_100 ?_
    refine lv_sipush (v := (224 : Int32)) hx hb dX6_follows_103 (by decide) ?_
    refine lv_icmp_lt (tgt := 119) hx hb dX6_follows_106 (by decide) (fun c17 => ?_) (fun c17 => ?_)
    · replace hw := hw.1 c17
      exact b119 x1 u H locs ls hP hD hS (lv_sub hl [0, 1] rfl) hw
    · replace hw := hw.2 c17
      refine lv_aload_n hx hb dX6_follows_109 rfl (lv_at hl 0 rfl) ?_
      refine va_get (D := D) (ci := 6) (v := .int (q_code u)) (C := RX6) (T := TX6) (N := 29) hx hb hts i_X6 hown hK hP 0 rfl rfl 21 (by decide) f_148 (fun _ h9 => h9) rfl dX6_follows_110 ?_
      refine lv_sipush (v := (228 : Int32)) hx hb dX6_follows_113 (by decide) ?_
      refine lv_icmp_lt (tgt := 129) hx hb dX6_follows_116 (by decide) (fun c18 => ?_) (fun c18 => ?_)
      · replace hw := hw.1 c18
        exact b129 u H locs ls hP hD hS (lv_sub hl [0] rfl) hw
      · replace hw := hw.2 c18
        exact b119 x1 u H locs ls hP hD hS (lv_sub hl [0, 1] rfl) hw
  have b68 : ∀ (x1 : Int32) (u : SQ) (H : Heap) (locs : List Loc) (ls : Array Slot), va_P D vwCl (WQ cI h0 h1 h2 h3 h4 h5 u) H → va_D A (WQ cI h0 h1 h2 h3 h4 h5 u) → va_S A s.heap H locs → lv_has ls 4 [(0, .ref h0), (1, .int x1)] → wX6_follows_b68  P x1 u → W p l e ({ frames := 4, cells := 0, slots := 0, locals := 89 } : Room) s m ([.ref h0] : List Value).toArray below meth c H locs 0 0 (MQ below (va_Qi P (fun u t => va_P D vwCl (WQ cI h0 h1 h2 h3 h4 h5 u) t.heap) A) ([.ref h0] : List Value).toArray s 0 0 A) (F0 m 68 ls []) := by
    intro x1 u H locs ls hP hD hS hl hw
    unfold wX6_follows_b68 at hw
    refine lv_aload_n hx hb dX6_follows_68 rfl (lv_at hl 0 rfl) ?_
    refine lv_aload_n hx hb dX6_follows_69 rfl (lv_at hl 0 rfl) ?_
    refine lv_iload_n hx hb dX6_follows_70 rfl (lv_at hl 1 rfl) ?_
    refine cl_Vi (As := [.int x1]) (rest := [.ref h0]) (st := [.int x1, .ref h0, .ref h0]) S hK hA hP hD hS (fr_Q u) (kcX6_fetchNumber l D cB cI h0 h1 h2 h3 h4 h5 H.size x1 u _ hw) (cwV 1 hts gX6_follows_X6_fetchNumber rfl rfl rfl (by decide +kernel) ⟨Nat.le_of_ble_eq_true rfl, Nat.le_of_ble_eq_true rfl⟩) tru_h tru_b 0 rfl rfl rfl rfl rfl hl.1 (Nat.le_of_ble_eq_true rfl) dX6_follows_71 ⟨Nat.zero_le _, Nat.zero_le _⟩ (fun r16 u15 H locs hP hD hS hw => ?_)
    replace hP : va_P D vwCl (WQ cI h0 h1 h2 h3 h4 h5 u15) H := hP
    replace hD : va_D A (WQ cI h0 h1 h2 h3 h4 h5 u15) := hD
    refine va_put (D := D) (ci := 6) (v := .int r16) (ty := .int) (C := RX6) (T := TX6) (N := 29) hx hb hts i_X6 tyX6 tyX6_ok nmX6 hown hK hP hD hS 0 rfl rfl 27 (by decide) f_164 (fun _ h9 => h9) rfl (by decide +kernel) rfl rfl (Nat.le_of_ble_eq_true rfl) dX6_follows_74 (fun H locs hP hD hS => ?_)
    replace hP : va_P D vwCl (WQ cI h0 h1 h2 h3 h4 h5 (qs_i u15 r16)) H := hP
    replace hD : va_D A (WQ cI h0 h1 h2 h3 h4 h5 (qs_i u15 r16)) := hD
    refine lv_goto (tgt := 508) hx hb dX6_follows_77 (by decide) ?_
    exact b508 (qs_i u15 r16) H locs ls hP hD hS (lv_sub hl [0] rfl) hw
  have b48 : ∀ (x1 : Int32) (u : SQ) (H : Heap) (locs : List Loc) (ls : Array Slot), va_P D vwCl (WQ cI h0 h1 h2 h3 h4 h5 u) H → va_D A (WQ cI h0 h1 h2 h3 h4 h5 u) → va_S A s.heap H locs → lv_has ls 4 [(0, .ref h0), (1, .int x1)] → wX6_follows_b48  P x1 u → W p l e ({ frames := 4, cells := 0, slots := 0, locals := 89 } : Room) s m ([.ref h0] : List Value).toArray below meth c H locs 0 0 (MQ below (va_Qi P (fun u t => va_P D vwCl (WQ cI h0 h1 h2 h3 h4 h5 u) t.heap) A) ([.ref h0] : List Value).toArray s 0 0 A) (F0 m 48 ls []) := by
    intro x1 u H locs ls hP hD hS hl hw
    unfold wX6_follows_b48 at hw
    refine lv_aload_n hx hb dX6_follows_48 rfl (lv_at hl 0 rfl) ?_
    refine va_get (D := D) (ci := 6) (v := .int (q_code u)) (C := RX6) (T := TX6) (N := 29) hx hb hts i_X6 hown hK hP 0 rfl rfl 21 (by decide) f_148 (fun _ h9 => h9) rfl dX6_follows_49 ?_
    refine lv_sipush (v := (168 : Int32)) hx hb dX6_follows_52 (by decide) ?_
    refine lv_icmp_eq (tgt := 68) hx hb dX6_follows_55 (by decide) (fun c11 => ?_) (fun c11 => ?_)
    · replace hw := hw.1 c11
      exact b68 x1 u H locs ls hP hD hS (lv_sub hl [0, 1] rfl) hw
    · replace hw := hw.2 c11
      refine lv_aload_n hx hb dX6_follows_58 rfl (lv_at hl 0 rfl) ?_
      refine va_get (D := D) (ci := 6) (v := .int (q_code u)) (C := RX6) (T := TX6) (N := 29) hx hb hts i_X6 hown hK hP 0 rfl rfl 21 (by decide) f_148 (fun _ h9 => h9) rfl dX6_follows_59 ?_
      refine lv_sipush (v := (169 : Int32)) hx hb dX6_follows_62 (by decide) ?_
      refine lv_icmp_ne (tgt := 80) hx hb dX6_follows_65 (by decide) (fun c12 => ?_) (fun c12 => ?_)
      · replace hw := hw.2 c12
        refine lv_aload_n hx hb dX6_follows_80 rfl (lv_at hl 0 rfl) ?_
        refine va_get (D := D) (ci := 6) (v := .int (q_code u)) (C := RX6) (T := TX6) (N := 29) hx hb hts i_X6 hown hK hP 0 rfl rfl 21 (by decide) f_148 (fun _ h9 => h9) rfl dX6_follows_81 ?_
        refine lv_bipush (v := (96 : Int32)) hx hb dX6_follows_84 (by decide) ?_
        refine lv_icmp_lt (tgt := 99) hx hb dX6_follows_86 (by decide) (fun c13 => ?_) (fun c13 => ?_)
        · replace hw := hw.1 c13
          exact b99 x1 u H locs ls hP hD hS (lv_sub hl [0, 1] rfl) hw
        · replace hw := hw.2 c13
          refine lv_aload_n hx hb dX6_follows_89 rfl (lv_at hl 0 rfl) ?_
          refine va_get (D := D) (ci := 6) (v := .int (q_code u)) (C := RX6) (T := TX6) (N := 29) hx hb hts i_X6 hown hK hP 0 rfl rfl 21 (by decide) f_148 (fun _ h9 => h9) rfl dX6_follows_90 ?_
          refine lv_sipush (v := (128 : Int32)) hx hb dX6_follows_93 (by decide) ?_
          refine lv_icmp_lt (tgt := 129) hx hb dX6_follows_96 (by decide) (fun c14 => ?_) (fun c14 => ?_)
          · replace hw := hw.1 c14
            exact b129 u H locs ls hP hD hS (lv_sub hl [0] rfl) hw
          · replace hw := hw.2 c14
            exact b99 x1 u H locs ls hP hD hS (lv_sub hl [0, 1] rfl) hw
      · replace hw := hw.1 c12
        exact b68 x1 u H locs ls hP hD hS (lv_sub hl [0, 1] rfl) hw
  have b11 : ∀  (u : SQ) (H : Heap) (locs : List Loc) (ls : Array Slot), va_P D vwCl (WQ cI h0 h1 h2 h3 h4 h5 u) H → va_D A (WQ cI h0 h1 h2 h3 h4 h5 u) → va_S A s.heap H locs → lv_has ls 4 [(0, .ref h0)] → wX6_follows_b11  P u → W p l e ({ frames := 4, cells := 0, slots := 0, locals := 89 } : Room) s m ([.ref h0] : List Value).toArray below meth c H locs 0 0 (MQ below (va_Qi P (fun u t => va_P D vwCl (WQ cI h0 h1 h2 h3 h4 h5 u) t.heap) A) ([.ref h0] : List Value).toArray s 0 0 A) (F0 m 11 ls []) := by
    intro u H locs ls hP hD hS hl hw
    unfold wX6_follows_b11 at hw
    refine lv_aload_n hx hb dX6_follows_11 rfl (lv_at hl 0 rfl) ?_
    refine cl_Vi (As := []) (rest := []) (st := [.ref h0]) S hK hA hP hD hS (fr_Q u) (kcX6_isWide l D cB cI h0 h1 h2 h3 h4 h5 H.size  u _ hw) (cwV 0 hts gX6_follows_X6_isWide rfl rfl rfl (by decide +kernel) ⟨Nat.le_of_ble_eq_true rfl, Nat.le_of_ble_eq_true rfl⟩) tru_h tru_b 0 rfl rfl rfl rfl rfl hl.1 (Nat.le_of_ble_eq_true rfl) dX6_follows_12 ⟨Nat.zero_le _, Nat.zero_le _⟩ (fun r7 u6 H locs hP hD hS hw => ?_)
    replace hP : va_P D vwCl (WQ cI h0 h1 h2 h3 h4 h5 u6) H := hP
    replace hD : va_D A (WQ cI h0 h1 h2 h3 h4 h5 u6) := hD
    refine lv_istore_n (lv' := [(1, .int r7), (0, .ref h0)]) hx hb dX6_follows_15 rfl hl (by decide) rfl (fun ls hl => ?_)
    refine lv_aload_n hx hb dX6_follows_16 rfl (lv_at hl 1 rfl) ?_
    refine va_get (D := D) (ci := 6) (v := .int (q_code u6)) (C := RX6) (T := TX6) (N := 29) hx hb hts i_X6 hown hK hP 0 rfl rfl 21 (by decide) f_148 (fun _ h9 => h9) rfl dX6_follows_17 ?_
    refine lv_bipush (v := (64 : Int32)) hx hb dX6_follows_20 (by decide) ?_
    refine lv_icmp_ge (tgt := 48) hx hb dX6_follows_22 (by decide) (fun c8 => ?_) (fun c8 => ?_)
    · replace hw := hw.1 c8
      exact b48 r7 u6 H locs ls hP hD hS (lv_sub hl [1, 0] rfl) hw
    · replace hw := hw.2 c8
      refine lv_aload_n hx hb dX6_follows_25 rfl (lv_at hl 1 rfl) ?_
      refine va_get (D := D) (ci := 6) (v := .int (q_code u6)) (C := RX6) (T := TX6) (N := 29) hx hb hts i_X6 hown hK hP 0 rfl rfl 21 (by decide) f_148 (fun _ h9 => h9) rfl dX6_follows_26 ?_
      refine lv_bipush (v := (7 : Int32)) hx hb dX6_follows_29 (by decide) ?_
      refine lv_iand hx hb dX6_follows_31 ?_
      refine lv_iconst (v := (3 : Int32)) hx hb dX6_follows_32 (by decide) ?_
      refine lv_icmp_le (tgt := 48) hx hb dX6_follows_33 (by decide) (fun c9 => ?_) (fun c9 => ?_)
      · replace hw := hw.1 c9
        exact b48 r7 u6 H locs ls hP hD hS (lv_sub hl [1, 0] rfl) hw
      · replace hw := hw.2 c9
        refine lv_aload_n hx hb dX6_follows_36 rfl (lv_at hl 1 rfl) ?_
        refine va_get (D := D) (ci := 6) (v := .int (q_code u6)) (C := RX6) (T := TX6) (N := 29) hx hb hts i_X6 hown hK hP 0 rfl rfl 21 (by decide) f_148 (fun _ h9 => h9) rfl dX6_follows_37 ?_
        refine lv_bipush (v := (7 : Int32)) hx hb dX6_follows_40 (by decide) ?_
        refine lv_iand hx hb dX6_follows_42 ?_
        refine lv_bipush (v := (6 : Int32)) hx hb dX6_follows_43 (by decide) ?_
        refine lv_icmp_lt (tgt := 68) hx hb dX6_follows_45 (by decide) (fun c10 => ?_) (fun c10 => ?_)
        · replace hw := hw.1 c10
          exact b68 r7 u6 H locs ls hP hD hS (lv_sub hl [1, 0] rfl) hw
        · replace hw := hw.2 c10
          exact b48 r7 u6 H locs ls hP hD hS (lv_sub hl [1, 0] rfl) hw
  unfold wX6_follows at hw
  obtain ⟨H, eH⟩ : ∃ H, H = s.heap := ⟨_, rfl⟩
  obtain ⟨locs, eL⟩ : ∃ locs : List Loc, locs = [] := ⟨_, rfl⟩
  replace hP : va_P D vwCl (WQ cI h0 h1 h2 h3 h4 h5 u) H := by rw [eH]; exact hP
  replace hS : va_S A s.heap H locs := by rw [eH, eL]; exact hS
  suffices hgo : W p l e ({ frames := 4, cells := 0, slots := 0, locals := 89 } : Room) s m ([.ref h0] : List Value).toArray below meth c H locs 0 0 (MQ below (va_Qi P (fun u t => va_P D vwCl (WQ cI h0 h1 h2 h3 h4 h5 u) t.heap) A) ([.ref h0] : List Value).toArray s 0 0 A) (F0 m 0 ls []) by rw [eH, eL] at hgo; exact hgo
  clear eH eL
  refine lv_aload_n hx hb dX6_follows_0 rfl (lv_at hl 0 rfl) ?_
  refine cl_Vi (As := []) (rest := []) (st := [.ref h0]) S hK hA hP hD hS (fr_Q u) (kcX6_hasMode l D cB cI h0 h1 h2 h3 h4 h5 H.size  u _ hw) (cwV 0 hts gX6_follows_X6_hasMode rfl rfl rfl (by decide +kernel) ⟨Nat.le_of_ble_eq_true rfl, Nat.le_of_ble_eq_true rfl⟩) tru_h tru_b 0 rfl rfl rfl rfl rfl hl.1 (Nat.le_of_ble_eq_true rfl) dX6_follows_1 ⟨Nat.zero_le _, Nat.zero_le _⟩ (fun r2 u1 H locs hP hD hS hw => ?_)
  replace hP : va_P D vwCl (WQ cI h0 h1 h2 h3 h4 h5 u1) H := hP
  replace hD : va_D A (WQ cI h0 h1 h2 h3 h4 h5 u1) := hD
  refine lv_if_eq (tgt := 11) hx hb dX6_follows_4 (by decide) (fun c3 => ?_) (fun c3 => ?_)
  · replace hw := hw.1 c3
    exact b11 u1 H locs ls hP hD hS (lv_sub hl [0] rfl) hw
  · replace hw := hw.2 c3
    refine lv_aload_n hx hb dX6_follows_7 rfl (lv_at hl 0 rfl) ?_
    refine cl_Vv (As := []) (rest := []) (st := [.ref h0]) S hK hA hP hD hS (fr_Q u1) (kcX6_fetchMode l D cB cI h0 h1 h2 h3 h4 h5 H.size  u1 _ hw) (cwV 0 hts gX6_follows_X6_fetchMode rfl rfl rfl (by decide +kernel) ⟨Nat.le_of_ble_eq_true rfl, Nat.le_of_ble_eq_true rfl⟩) tru_h tru_b 0 rfl rfl rfl rfl rfl hl.1 (Nat.le_of_ble_eq_true rfl) dX6_follows_8 ⟨Nat.zero_le _, Nat.zero_le _⟩ (fun u4 H locs hP hD hS hw => ?_)
    replace hP : va_P D vwCl (WQ cI h0 h1 h2 h3 h4 h5 u4) H := hP
    replace hD : va_D A (WQ cI h0 h1 h2 h3 h4 h5 u4) := hD
    exact b11 u4 H locs ls hP hD hS (lv_sub hl [0] rfl) hw
-- X6_decode
def wX6_decode_b152  (P : Int32 → SQ → Prop) (x1 : Int32) (u : SQ) : Prop := ((x1 = (0 : Int32) → (wX6_follows  u (fun r22 u21 => ((r22 = (0 : Int32) → (P (0 : Int32) u21)) ∧ (¬ r22 = (0 : Int32) → (((15 : Int32) < ((q_at u21) - (q_begin u21)) → (P (0 : Int32) u21)) ∧ (¬ (15 : Int32) < ((q_at u21) - (q_begin u21)) → (P (1 : Int32) u21)))))))) ∧ (¬ x1 = (0 : Int32) → (P (0 : Int32) u)))
def wX6_decode_b28  (P : Int32 → SQ → Prop) : Nat → Int32 → SQ → Prop
  | 0, _, _ => False
  | n + 1, x1, u => ((x1 = (0 : Int32) → (wX6_decode_b152  P x1 u)) ∧ (¬ x1 = (0 : Int32) → (((16 : Int32) ≤ ((q_at u) - (q_begin u)) → (wX6_decode_b152  P x1 u)) ∧ (¬ (16 : Int32) ≤ ((q_at u) - (q_begin u)) → (wX6_fetch  u (fun r4 u3 => (((r4 &&& (231 : Int32)) = (38 : Int32) → (((r4 &&& (231 : Int32)) = (38 : Int32) → (wX6_decode_b28  P n (1 : Int32) (qs_code (qs_segment u3 ((r4 >>> ((3 : Int32) &&& 31)) &&& (3 : Int32))) r4))) ∧ (¬ (r4 &&& (231 : Int32)) = (38 : Int32) → ((r4 = (242 : Int32) → (wX6_decode_b28  P n (1 : Int32) (qs_code (qs_repeat u3 r4) r4))) ∧ (¬ r4 = (242 : Int32) → ((r4 = (243 : Int32) → (wX6_decode_b28  P n (1 : Int32) (qs_code (qs_repeat u3 r4) r4))) ∧ (¬ r4 = (243 : Int32) → (wX6_decode_b28  P n (1 : Int32) (qs_code u3 r4))))))))) ∧ (¬ (r4 &&& (231 : Int32)) = (38 : Int32) → ((r4 < (240 : Int32) → (((r4 &&& (231 : Int32)) = (38 : Int32) → (wX6_decode_b28  P n (0 : Int32) (qs_code (qs_segment u3 ((r4 >>> ((3 : Int32) &&& 31)) &&& (3 : Int32))) r4))) ∧ (¬ (r4 &&& (231 : Int32)) = (38 : Int32) → ((r4 = (242 : Int32) → (wX6_decode_b28  P n (0 : Int32) (qs_code (qs_repeat u3 r4) r4))) ∧ (¬ r4 = (242 : Int32) → ((r4 = (243 : Int32) → (wX6_decode_b28  P n (0 : Int32) (qs_code (qs_repeat u3 r4) r4))) ∧ (¬ r4 = (243 : Int32) → (wX6_decode_b28  P n (0 : Int32) (qs_code u3 r4))))))))) ∧ (¬ r4 < (240 : Int32) → (((244 : Int32) ≤ r4 → (((r4 &&& (231 : Int32)) = (38 : Int32) → (wX6_decode_b28  P n (0 : Int32) (qs_code (qs_segment u3 ((r4 >>> ((3 : Int32) &&& 31)) &&& (3 : Int32))) r4))) ∧ (¬ (r4 &&& (231 : Int32)) = (38 : Int32) → ((r4 = (242 : Int32) → (wX6_decode_b28  P n (0 : Int32) (qs_code (qs_repeat u3 r4) r4))) ∧ (¬ r4 = (242 : Int32) → ((r4 = (243 : Int32) → (wX6_decode_b28  P n (0 : Int32) (qs_code (qs_repeat u3 r4) r4))) ∧ (¬ r4 = (243 : Int32) → (wX6_decode_b28  P n (0 : Int32) (qs_code u3 r4))))))))) ∧ (¬ (244 : Int32) ≤ r4 → (((r4 &&& (231 : Int32)) = (38 : Int32) → (wX6_decode_b28  P n (1 : Int32) (qs_code (qs_segment u3 ((r4 >>> ((3 : Int32) &&& 31)) &&& (3 : Int32))) r4))) ∧ (¬ (r4 &&& (231 : Int32)) = (38 : Int32) → ((r4 = (242 : Int32) → (wX6_decode_b28  P n (1 : Int32) (qs_code (qs_repeat u3 r4) r4))) ∧ (¬ r4 = (242 : Int32) → ((r4 = (243 : Int32) → (wX6_decode_b28  P n (1 : Int32) (qs_code (qs_repeat u3 r4) r4))) ∧ (¬ r4 = (243 : Int32) → (wX6_decode_b28  P n (1 : Int32) (qs_code u3 r4))))))))))))))))))))
def wX6_decode  (u : SQ) (P : Int32 → SQ → Prop) : Prop := (∃ n, wX6_decode_b28  P n (1 : Int32) (qs_repeat (qs_segment (qs_at (qs_begin u (q_ip u)) (q_ip u)) (-1 : Int32)) (0 : Int32)))
set_option maxHeartbeats 4000000 in
set_option maxRecDepth 100000 in
theorem kcX6_decode (l : Launch) (D : va_G) (cB cI : ClassId) (h0 h1 h2 h3 h4 h5 : Nat) (sz : Nat)  (u : SQ) (P : Int32 → SQ → Prop) (hw : wX6_decode  u P) : Met l yX6_decode wsX6_decode ({ frames := 5, cells := 0, slots := 0, locals := 112 } : Room) (va_Pc [.ref h0] (Pcw D (tyA cB cI) (WQ cI h0 h1 h2 h3 h4 h5 u) sz Tru)) (va_Qi P (fun u t => va_P D vwCl (WQ cI h0 h1 h2 h3 h4 h5 u) t.heap) (va_A (WQ cI h0 h1 h2 h3 h4 h5 u) sz)) 0 0 (va_A (WQ cI h0 h1 h2 h3 h4 h5 u) sz) := by
  refine en_ (cc := cX6_decode) (maxL := 2) (ret := (some .boolean)) (own := RX6) (lv := [(0, .ref h0)]) (Qf := fun A => va_Qi P (fun u t => va_P D vwCl (WQ cI h0 h1 h2 h3 h4 h5 u) t.heap) A) (by decide) rfl rfl (Nat.le_of_ble_eq_true rfl) rfl ?_
  intro p e s m below meth c A ls S hr hlk hname hsz hP hK hD hA hSub hS hE hl
  have hx := S.1
  have hb := S.2.1
  have hown := S.2.2.2.1
  have hts := S.2.2.2.2
  have i_X6 : ∀ w ∈ u_ws RX6 TX6 29, w ∈ wsX6_decode := by decide +kernel
  have f_114 := hts (.fieldLink RX6 114 "MachineCoreModel" "at" "I") (by decide +kernel)
  have f_124 := hts (.fieldLink RX6 124 "MachineCoreModel" "segment" "I") (by decide +kernel)
  have f_148 := hts (.fieldLink RX6 148 "MachineCoreModel" "code" "I") (by decide +kernel)
  have f_170 := hts (.fieldLink RX6 170 "MachineCoreModel" "ip" "I") (by decide +kernel)
  have f_173 := hts (.fieldLink RX6 173 "MachineCoreModel" "begin" "I") (by decide +kernel)
  have f_176 := hts (.fieldLink RX6 176 "MachineCoreModel" "repeat" "I") (by decide +kernel)
  have b152 : ∀ (x1 : Int32) (u : SQ) (H : Heap) (locs : List Loc) (ls : Array Slot), va_P D vwCl (WQ cI h0 h1 h2 h3 h4 h5 u) H → va_D A (WQ cI h0 h1 h2 h3 h4 h5 u) → va_S A s.heap H locs → lv_has ls 2 [(0, .ref h0), (1, .int x1)] → wX6_decode_b152  P x1 u → W p l e ({ frames := 5, cells := 0, slots := 0, locals := 112 } : Room) s m ([.ref h0] : List Value).toArray below meth c H locs 0 0 (MQ below (va_Qi P (fun u t => va_P D vwCl (WQ cI h0 h1 h2 h3 h4 h5 u) t.heap) A) ([.ref h0] : List Value).toArray s 0 0 A) (F0 m 152 ls []) := by
    intro x1 u H locs ls hP hD hS hl hw
    unfold wX6_decode_b152 at hw
    refine lv_iload_n hx hb dX6_decode_152 rfl (lv_at hl 1 rfl) ?_
    refine lv_if_ne (tgt := 181) hx hb dX6_decode_153 (by decide) (fun c20 => ?_) (fun c20 => ?_)
    · replace hw := hw.2 c20
      refine lv_iconst (v := (0 : Int32)) hx hb dX6_decode_181 (by decide) ?_
      exact rt_z (wo := (fun v => WQ cI h0 h1 h2 h3 h4 h5 v)) S hr hlk u hP hS zB_0 hw dX6_decode_182
    · replace hw := hw.1 c20
      refine lv_aload_n hx hb dX6_decode_156 rfl (lv_at hl 0 rfl) ?_
      refine cl_Vi (As := []) (rest := []) (st := [.ref h0]) S hK hA hP hD hS (fr_Q u) (kcX6_follows l D cB cI h0 h1 h2 h3 h4 h5 H.size  u _ hw) (cwV 0 hts gX6_decode_X6_follows rfl rfl rfl (by decide +kernel) ⟨Nat.le_of_ble_eq_true rfl, Nat.le_of_ble_eq_true rfl⟩) tru_h tru_b 0 rfl rfl rfl rfl rfl hl.1 (Nat.le_of_ble_eq_true rfl) dX6_decode_157 ⟨Nat.zero_le _, Nat.zero_le _⟩ (fun r22 u21 H locs hP hD hS hw => ?_)
      replace hP : va_P D vwCl (WQ cI h0 h1 h2 h3 h4 h5 u21) H := hP
      replace hD : va_D A (WQ cI h0 h1 h2 h3 h4 h5 u21) := hD
      refine lv_if_eq (tgt := 181) hx hb dX6_decode_160 (by decide) (fun c23 => ?_) (fun c23 => ?_)
      · replace hw := hw.1 c23
        refine lv_iconst (v := (0 : Int32)) hx hb dX6_decode_181 (by decide) ?_
        exact rt_z (wo := (fun v => WQ cI h0 h1 h2 h3 h4 h5 v)) S hr hlk u21 hP hS zB_0 hw dX6_decode_182
      · replace hw := hw.2 c23
        refine lv_aload_n hx hb dX6_decode_163 rfl (lv_at hl 0 rfl) ?_
        refine va_get (D := D) (ci := 6) (v := .int (q_at u21)) (C := RX6) (T := TX6) (N := 29) hx hb hts i_X6 hown hK hP 0 rfl rfl 18 (by decide) f_114 (fun _ h9 => h9) rfl dX6_decode_164 ?_
        refine lv_aload_n hx hb dX6_decode_167 rfl (lv_at hl 0 rfl) ?_
        refine va_get (D := D) (ci := 6) (v := .int (q_begin u21)) (C := RX6) (T := TX6) (N := 29) hx hb hts i_X6 hown hK hP 0 rfl rfl 17 (by decide) f_173 (fun _ h9 => h9) rfl dX6_decode_168 ?_
        refine lv_isub hx hb dX6_decode_171 ?_
        refine lv_bipush (v := (15 : Int32)) hx hb dX6_decode_172 (by decide) ?_
        refine lv_icmp_gt (tgt := 181) hx hb dX6_decode_174 (by decide) (fun c24 => ?_) (fun c24 => ?_)
        · replace hw := hw.1 c24
          refine lv_iconst (v := (0 : Int32)) hx hb dX6_decode_181 (by decide) ?_
          exact rt_z (wo := (fun v => WQ cI h0 h1 h2 h3 h4 h5 v)) S hr hlk u21 hP hS zB_0 hw dX6_decode_182
        · replace hw := hw.2 c24
          refine lv_iconst (v := (1 : Int32)) hx hb dX6_decode_177 (by decide) ?_
          refine lv_goto (tgt := 182) hx hb dX6_decode_178 (by decide) ?_
          exact rt_z (wo := (fun v => WQ cI h0 h1 h2 h3 h4 h5 v)) S hr hlk u21 hP hS zB_1 hw dX6_decode_182
  have b28 : ∀ (n : Nat) (x1 : Int32) (u : SQ) (H : Heap) (locs : List Loc) (ls : Array Slot), va_P D vwCl (WQ cI h0 h1 h2 h3 h4 h5 u) H → va_D A (WQ cI h0 h1 h2 h3 h4 h5 u) → va_S A s.heap H locs → lv_has ls 2 [(0, .ref h0), (1, .int x1)] → wX6_decode_b28  P n x1 u → W p l e ({ frames := 5, cells := 0, slots := 0, locals := 112 } : Room) s m ([.ref h0] : List Value).toArray below meth c H locs 0 0 (MQ below (va_Qi P (fun u t => va_P D vwCl (WQ cI h0 h1 h2 h3 h4 h5 u) t.heap) A) ([.ref h0] : List Value).toArray s 0 0 A) (F0 m 28 ls []) := by
    intro n
    induction n with
    | zero => intro x1 u H locs ls hP hD hS hl hw; exact False.elim hw
    | succ n ih =>
      intro x1 u H locs ls hP hD hS hl hw
      rw [wX6_decode_b28] at hw
      refine lv_iload_n hx hb dX6_decode_28 rfl (lv_at hl 1 rfl) ?_
      refine lv_if_eq (tgt := 152) hx hb dX6_decode_29 (by decide) (fun c1 => ?_) (fun c1 => ?_)
      · replace hw := hw.1 c1
        exact b152 x1 u H locs ls hP hD hS (lv_sub hl [0, 1] rfl) hw
      · replace hw := hw.2 c1
        refine lv_aload_n hx hb dX6_decode_32 rfl (lv_at hl 0 rfl) ?_
        refine va_get (D := D) (ci := 6) (v := .int (q_at u)) (C := RX6) (T := TX6) (N := 29) hx hb hts i_X6 hown hK hP 0 rfl rfl 18 (by decide) f_114 (fun _ h9 => h9) rfl dX6_decode_33 ?_
        refine lv_aload_n hx hb dX6_decode_36 rfl (lv_at hl 0 rfl) ?_
        refine va_get (D := D) (ci := 6) (v := .int (q_begin u)) (C := RX6) (T := TX6) (N := 29) hx hb hts i_X6 hown hK hP 0 rfl rfl 17 (by decide) f_173 (fun _ h9 => h9) rfl dX6_decode_37 ?_
        refine lv_isub hx hb dX6_decode_40 ?_
        refine lv_bipush (v := (16 : Int32)) hx hb dX6_decode_41 (by decide) ?_
        refine lv_icmp_ge (tgt := 152) hx hb dX6_decode_43 (by decide) (fun c2 => ?_) (fun c2 => ?_)
        · replace hw := hw.1 c2
          exact b152 x1 u H locs ls hP hD hS (lv_sub hl [0, 1] rfl) hw
        · replace hw := hw.2 c2
          refine lv_aload_n hx hb dX6_decode_46 rfl (lv_at hl 0 rfl) ?_
          refine lv_aload_n hx hb dX6_decode_47 rfl (lv_at hl 0 rfl) ?_
          refine cl_Vi (As := []) (rest := [.ref h0]) (st := [.ref h0, .ref h0]) S hK hA hP hD hS (fr_Q u) (kcX6_fetch l D cB cI h0 h1 h2 h3 h4 h5 H.size  u _ hw) (cwV 0 hts gX6_decode_X6_fetch rfl rfl rfl (by decide +kernel) ⟨Nat.le_of_ble_eq_true rfl, Nat.le_of_ble_eq_true rfl⟩) tru_h tru_b 0 rfl rfl rfl rfl rfl hl.1 (Nat.le_of_ble_eq_true rfl) dX6_decode_48 ⟨Nat.zero_le _, Nat.zero_le _⟩ (fun r4 u3 H locs hP hD hS hw => ?_)
          replace hP : va_P D vwCl (WQ cI h0 h1 h2 h3 h4 h5 u3) H := hP
          replace hD : va_D A (WQ cI h0 h1 h2 h3 h4 h5 u3) := hD
          refine va_put (D := D) (ci := 6) (v := .int r4) (ty := .int) (C := RX6) (T := TX6) (N := 29) hx hb hts i_X6 tyX6 tyX6_ok nmX6 hown hK hP hD hS 0 rfl rfl 21 (by decide) f_148 (fun _ h9 => h9) rfl (by decide +kernel) rfl rfl (Nat.le_of_ble_eq_true rfl) dX6_decode_51 (fun H locs hP hD hS => ?_)
          replace hP : va_P D vwCl (WQ cI h0 h1 h2 h3 h4 h5 (qs_code u3 r4)) H := hP
          replace hD : va_D A (WQ cI h0 h1 h2 h3 h4 h5 (qs_code u3 r4)) := hD
          refine lv_aload_n hx hb dX6_decode_54 rfl (lv_at hl 0 rfl) ?_
          refine va_get (D := D) (ci := 6) (v := .int r4) (C := RX6) (T := TX6) (N := 29) hx hb hts i_X6 hown hK hP 0 rfl rfl 21 (by decide) f_148 (fun _ h9 => h9) rfl dX6_decode_55 ?_
          refine lv_sipush (v := (231 : Int32)) hx hb dX6_decode_58 (by decide) ?_
          refine lv_iand hx hb dX6_decode_61 ?_
          refine lv_bipush (v := (38 : Int32)) hx hb dX6_decode_62 (by decide) ?_
          refine lv_icmp_eq (tgt := 87) hx hb dX6_decode_64 (by decide) (fun c5 => ?_) (fun c5 => ?_)
          · replace hw := hw.1 c5
            refine lv_iconst (v := (1 : Int32)) hx hb dX6_decode_87 (by decide) ?_
            refine lv_goto (tgt := 92) hx hb dX6_decode_88 (by decide) ?_
            refine lv_istore_n (lv' := [(1, .int (1 : Int32)), (0, .ref h0)]) hx hb dX6_decode_92 rfl hl (by decide) rfl (fun ls hl => ?_)
            refine lv_aload_n hx hb dX6_decode_93 rfl (lv_at hl 1 rfl) ?_
            refine va_get (D := D) (ci := 6) (v := .int r4) (C := RX6) (T := TX6) (N := 29) hx hb hts i_X6 hown hK hP 0 rfl rfl 21 (by decide) f_148 (fun _ h9 => h9) rfl dX6_decode_94 ?_
            refine lv_sipush (v := (231 : Int32)) hx hb dX6_decode_97 (by decide) ?_
            refine lv_iand hx hb dX6_decode_100 ?_
            refine lv_bipush (v := (38 : Int32)) hx hb dX6_decode_101 (by decide) ?_
            refine lv_icmp_ne (tgt := 121) hx hb dX6_decode_103 (by decide) (fun c6 => ?_) (fun c6 => ?_)
            · replace hw := hw.2 c6
              refine lv_aload_n hx hb dX6_decode_121 rfl (lv_at hl 1 rfl) ?_
              refine va_get (D := D) (ci := 6) (v := .int r4) (C := RX6) (T := TX6) (N := 29) hx hb hts i_X6 hown hK hP 0 rfl rfl 21 (by decide) f_148 (fun _ h9 => h9) rfl dX6_decode_122 ?_
              refine lv_sipush (v := (242 : Int32)) hx hb dX6_decode_125 (by decide) ?_
              refine lv_icmp_eq (tgt := 141) hx hb dX6_decode_128 (by decide) (fun c7 => ?_) (fun c7 => ?_)
              · replace hw := hw.1 c7
                refine lv_aload_n hx hb dX6_decode_141 rfl (lv_at hl 1 rfl) ?_
                refine lv_aload_n hx hb dX6_decode_142 rfl (lv_at hl 1 rfl) ?_
                refine va_get (D := D) (ci := 6) (v := .int r4) (C := RX6) (T := TX6) (N := 29) hx hb hts i_X6 hown hK hP 0 rfl rfl 21 (by decide) f_148 (fun _ h9 => h9) rfl dX6_decode_143 ?_
                refine va_put (D := D) (ci := 6) (v := .int r4) (ty := .int) (C := RX6) (T := TX6) (N := 29) hx hb hts i_X6 tyX6 tyX6_ok nmX6 hown hK hP hD hS 0 rfl rfl 20 (by decide) f_176 (fun _ h9 => h9) rfl (by decide +kernel) rfl rfl (Nat.le_of_ble_eq_true rfl) dX6_decode_146 (fun H locs hP hD hS => ?_)
                replace hP : va_P D vwCl (WQ cI h0 h1 h2 h3 h4 h5 (qs_code (qs_repeat u3 r4) r4)) H := hP
                replace hD : va_D A (WQ cI h0 h1 h2 h3 h4 h5 (qs_code (qs_repeat u3 r4) r4)) := hD
                refine lv_goto (tgt := 28) hx hb dX6_decode_149 (by decide) ?_
                exact ih (1 : Int32) (qs_code (qs_repeat u3 r4) r4) H locs ls hP hD hS (lv_sub hl [1, 0] rfl) hw
              · replace hw := hw.2 c7
                refine lv_aload_n hx hb dX6_decode_131 rfl (lv_at hl 1 rfl) ?_
                refine va_get (D := D) (ci := 6) (v := .int r4) (C := RX6) (T := TX6) (N := 29) hx hb hts i_X6 hown hK hP 0 rfl rfl 21 (by decide) f_148 (fun _ h9 => h9) rfl dX6_decode_132 ?_
                refine lv_sipush (v := (243 : Int32)) hx hb dX6_decode_135 (by decide) ?_
                refine lv_icmp_ne (tgt := 28) hx hb dX6_decode_138 (by decide) (fun c8 => ?_) (fun c8 => ?_)
                · replace hw := hw.2 c8
                  exact ih (1 : Int32) (qs_code u3 r4) H locs ls hP hD hS (lv_sub hl [1, 0] rfl) hw
                · replace hw := hw.1 c8
                  refine lv_aload_n hx hb dX6_decode_141 rfl (lv_at hl 1 rfl) ?_
                  refine lv_aload_n hx hb dX6_decode_142 rfl (lv_at hl 1 rfl) ?_
                  refine va_get (D := D) (ci := 6) (v := .int r4) (C := RX6) (T := TX6) (N := 29) hx hb hts i_X6 hown hK hP 0 rfl rfl 21 (by decide) f_148 (fun _ h9 => h9) rfl dX6_decode_143 ?_
                  refine va_put (D := D) (ci := 6) (v := .int r4) (ty := .int) (C := RX6) (T := TX6) (N := 29) hx hb hts i_X6 tyX6 tyX6_ok nmX6 hown hK hP hD hS 0 rfl rfl 20 (by decide) f_176 (fun _ h9 => h9) rfl (by decide +kernel) rfl rfl (Nat.le_of_ble_eq_true rfl) dX6_decode_146 (fun H locs hP hD hS => ?_)
                  replace hP : va_P D vwCl (WQ cI h0 h1 h2 h3 h4 h5 (qs_code (qs_repeat u3 r4) r4)) H := hP
                  replace hD : va_D A (WQ cI h0 h1 h2 h3 h4 h5 (qs_code (qs_repeat u3 r4) r4)) := hD
                  refine lv_goto (tgt := 28) hx hb dX6_decode_149 (by decide) ?_
                  exact ih (1 : Int32) (qs_code (qs_repeat u3 r4) r4) H locs ls hP hD hS (lv_sub hl [1, 0] rfl) hw
            · replace hw := hw.1 c6
              refine lv_aload_n hx hb dX6_decode_106 rfl (lv_at hl 1 rfl) ?_
              refine lv_aload_n hx hb dX6_decode_107 rfl (lv_at hl 1 rfl) ?_
              refine va_get (D := D) (ci := 6) (v := .int r4) (C := RX6) (T := TX6) (N := 29) hx hb hts i_X6 hown hK hP 0 rfl rfl 21 (by decide) f_148 (fun _ h9 => h9) rfl dX6_decode_108 ?_
              refine lv_iconst (v := (3 : Int32)) hx hb dX6_decode_111 (by decide) ?_
              refine lv_ishr hx hb dX6_decode_112 ?_
              refine lv_iconst (v := (3 : Int32)) hx hb dX6_decode_113 (by decide) ?_
              refine lv_iand hx hb dX6_decode_114 ?_
              refine va_put (D := D) (ci := 6) (v := .int ((r4 >>> ((3 : Int32) &&& 31)) &&& (3 : Int32))) (ty := .int) (C := RX6) (T := TX6) (N := 29) hx hb hts i_X6 tyX6 tyX6_ok nmX6 hown hK hP hD hS 0 rfl rfl 19 (by decide) f_124 (fun _ h9 => h9) rfl (by decide +kernel) rfl rfl (Nat.le_of_ble_eq_true rfl) dX6_decode_115 (fun H locs hP hD hS => ?_)
              replace hP : va_P D vwCl (WQ cI h0 h1 h2 h3 h4 h5 (qs_code (qs_segment u3 ((r4 >>> ((3 : Int32) &&& 31)) &&& (3 : Int32))) r4)) H := hP
              replace hD : va_D A (WQ cI h0 h1 h2 h3 h4 h5 (qs_code (qs_segment u3 ((r4 >>> ((3 : Int32) &&& 31)) &&& (3 : Int32))) r4)) := hD
              refine lv_goto (tgt := 28) hx hb dX6_decode_118 (by decide) ?_
              exact ih (1 : Int32) (qs_code (qs_segment u3 ((r4 >>> ((3 : Int32) &&& 31)) &&& (3 : Int32))) r4) H locs ls hP hD hS (lv_sub hl [1, 0] rfl) hw
          · replace hw := hw.2 c5
            refine lv_aload_n hx hb dX6_decode_67 rfl (lv_at hl 0 rfl) ?_
            refine va_get (D := D) (ci := 6) (v := .int r4) (C := RX6) (T := TX6) (N := 29) hx hb hts i_X6 hown hK hP 0 rfl rfl 21 (by decide) f_148 (fun _ h9 => h9) rfl dX6_decode_68 ?_
            refine lv_sipush (v := (240 : Int32)) hx hb dX6_decode_71 (by decide) ?_
            refine lv_icmp_lt (tgt := 91) hx hb dX6_decode_74 (by decide) (fun c9 => ?_) (fun c9 => ?_)
            · replace hw := hw.1 c9
              refine lv_iconst (v := (0 : Int32)) hx hb dX6_decode_91 (by decide) ?_
              refine lv_istore_n (lv' := [(1, .int (0 : Int32)), (0, .ref h0)]) hx hb dX6_decode_92 rfl hl (by decide) rfl (fun ls hl => ?_)
              refine lv_aload_n hx hb dX6_decode_93 rfl (lv_at hl 1 rfl) ?_
              refine va_get (D := D) (ci := 6) (v := .int r4) (C := RX6) (T := TX6) (N := 29) hx hb hts i_X6 hown hK hP 0 rfl rfl 21 (by decide) f_148 (fun _ h9 => h9) rfl dX6_decode_94 ?_
              refine lv_sipush (v := (231 : Int32)) hx hb dX6_decode_97 (by decide) ?_
              refine lv_iand hx hb dX6_decode_100 ?_
              refine lv_bipush (v := (38 : Int32)) hx hb dX6_decode_101 (by decide) ?_
              refine lv_icmp_ne (tgt := 121) hx hb dX6_decode_103 (by decide) (fun c10 => ?_) (fun c10 => ?_)
              · replace hw := hw.2 c10
                refine lv_aload_n hx hb dX6_decode_121 rfl (lv_at hl 1 rfl) ?_
                refine va_get (D := D) (ci := 6) (v := .int r4) (C := RX6) (T := TX6) (N := 29) hx hb hts i_X6 hown hK hP 0 rfl rfl 21 (by decide) f_148 (fun _ h9 => h9) rfl dX6_decode_122 ?_
                refine lv_sipush (v := (242 : Int32)) hx hb dX6_decode_125 (by decide) ?_
                refine lv_icmp_eq (tgt := 141) hx hb dX6_decode_128 (by decide) (fun c11 => ?_) (fun c11 => ?_)
                · replace hw := hw.1 c11
                  refine lv_aload_n hx hb dX6_decode_141 rfl (lv_at hl 1 rfl) ?_
                  refine lv_aload_n hx hb dX6_decode_142 rfl (lv_at hl 1 rfl) ?_
                  refine va_get (D := D) (ci := 6) (v := .int r4) (C := RX6) (T := TX6) (N := 29) hx hb hts i_X6 hown hK hP 0 rfl rfl 21 (by decide) f_148 (fun _ h9 => h9) rfl dX6_decode_143 ?_
                  refine va_put (D := D) (ci := 6) (v := .int r4) (ty := .int) (C := RX6) (T := TX6) (N := 29) hx hb hts i_X6 tyX6 tyX6_ok nmX6 hown hK hP hD hS 0 rfl rfl 20 (by decide) f_176 (fun _ h9 => h9) rfl (by decide +kernel) rfl rfl (Nat.le_of_ble_eq_true rfl) dX6_decode_146 (fun H locs hP hD hS => ?_)
                  replace hP : va_P D vwCl (WQ cI h0 h1 h2 h3 h4 h5 (qs_code (qs_repeat u3 r4) r4)) H := hP
                  replace hD : va_D A (WQ cI h0 h1 h2 h3 h4 h5 (qs_code (qs_repeat u3 r4) r4)) := hD
                  refine lv_goto (tgt := 28) hx hb dX6_decode_149 (by decide) ?_
                  exact ih (0 : Int32) (qs_code (qs_repeat u3 r4) r4) H locs ls hP hD hS (lv_sub hl [1, 0] rfl) hw
                · replace hw := hw.2 c11
                  refine lv_aload_n hx hb dX6_decode_131 rfl (lv_at hl 1 rfl) ?_
                  refine va_get (D := D) (ci := 6) (v := .int r4) (C := RX6) (T := TX6) (N := 29) hx hb hts i_X6 hown hK hP 0 rfl rfl 21 (by decide) f_148 (fun _ h9 => h9) rfl dX6_decode_132 ?_
                  refine lv_sipush (v := (243 : Int32)) hx hb dX6_decode_135 (by decide) ?_
                  refine lv_icmp_ne (tgt := 28) hx hb dX6_decode_138 (by decide) (fun c12 => ?_) (fun c12 => ?_)
                  · replace hw := hw.2 c12
                    exact ih (0 : Int32) (qs_code u3 r4) H locs ls hP hD hS (lv_sub hl [1, 0] rfl) hw
                  · replace hw := hw.1 c12
                    refine lv_aload_n hx hb dX6_decode_141 rfl (lv_at hl 1 rfl) ?_
                    refine lv_aload_n hx hb dX6_decode_142 rfl (lv_at hl 1 rfl) ?_
                    refine va_get (D := D) (ci := 6) (v := .int r4) (C := RX6) (T := TX6) (N := 29) hx hb hts i_X6 hown hK hP 0 rfl rfl 21 (by decide) f_148 (fun _ h9 => h9) rfl dX6_decode_143 ?_
                    refine va_put (D := D) (ci := 6) (v := .int r4) (ty := .int) (C := RX6) (T := TX6) (N := 29) hx hb hts i_X6 tyX6 tyX6_ok nmX6 hown hK hP hD hS 0 rfl rfl 20 (by decide) f_176 (fun _ h9 => h9) rfl (by decide +kernel) rfl rfl (Nat.le_of_ble_eq_true rfl) dX6_decode_146 (fun H locs hP hD hS => ?_)
                    replace hP : va_P D vwCl (WQ cI h0 h1 h2 h3 h4 h5 (qs_code (qs_repeat u3 r4) r4)) H := hP
                    replace hD : va_D A (WQ cI h0 h1 h2 h3 h4 h5 (qs_code (qs_repeat u3 r4) r4)) := hD
                    refine lv_goto (tgt := 28) hx hb dX6_decode_149 (by decide) ?_
                    exact ih (0 : Int32) (qs_code (qs_repeat u3 r4) r4) H locs ls hP hD hS (lv_sub hl [1, 0] rfl) hw
              · replace hw := hw.1 c10
                refine lv_aload_n hx hb dX6_decode_106 rfl (lv_at hl 1 rfl) ?_
                refine lv_aload_n hx hb dX6_decode_107 rfl (lv_at hl 1 rfl) ?_
                refine va_get (D := D) (ci := 6) (v := .int r4) (C := RX6) (T := TX6) (N := 29) hx hb hts i_X6 hown hK hP 0 rfl rfl 21 (by decide) f_148 (fun _ h9 => h9) rfl dX6_decode_108 ?_
                refine lv_iconst (v := (3 : Int32)) hx hb dX6_decode_111 (by decide) ?_
                refine lv_ishr hx hb dX6_decode_112 ?_
                refine lv_iconst (v := (3 : Int32)) hx hb dX6_decode_113 (by decide) ?_
                refine lv_iand hx hb dX6_decode_114 ?_
                refine va_put (D := D) (ci := 6) (v := .int ((r4 >>> ((3 : Int32) &&& 31)) &&& (3 : Int32))) (ty := .int) (C := RX6) (T := TX6) (N := 29) hx hb hts i_X6 tyX6 tyX6_ok nmX6 hown hK hP hD hS 0 rfl rfl 19 (by decide) f_124 (fun _ h9 => h9) rfl (by decide +kernel) rfl rfl (Nat.le_of_ble_eq_true rfl) dX6_decode_115 (fun H locs hP hD hS => ?_)
                replace hP : va_P D vwCl (WQ cI h0 h1 h2 h3 h4 h5 (qs_code (qs_segment u3 ((r4 >>> ((3 : Int32) &&& 31)) &&& (3 : Int32))) r4)) H := hP
                replace hD : va_D A (WQ cI h0 h1 h2 h3 h4 h5 (qs_code (qs_segment u3 ((r4 >>> ((3 : Int32) &&& 31)) &&& (3 : Int32))) r4)) := hD
                refine lv_goto (tgt := 28) hx hb dX6_decode_118 (by decide) ?_
                exact ih (0 : Int32) (qs_code (qs_segment u3 ((r4 >>> ((3 : Int32) &&& 31)) &&& (3 : Int32))) r4) H locs ls hP hD hS (lv_sub hl [1, 0] rfl) hw
            · replace hw := hw.2 c9
              refine lv_aload_n hx hb dX6_decode_77 rfl (lv_at hl 0 rfl) ?_
              refine va_get (D := D) (ci := 6) (v := .int r4) (C := RX6) (T := TX6) (N := 29) hx hb hts i_X6 hown hK hP 0 rfl rfl 21 (by decide) f_148 (fun _ h9 => h9) rfl dX6_decode_78 ?_
              refine lv_sipush (v := (244 : Int32)) hx hb dX6_decode_81 (by decide) ?_
              refine lv_icmp_ge (tgt := 91) hx hb dX6_decode_84 (by decide) (fun c13 => ?_) (fun c13 => ?_)
              · replace hw := hw.1 c13
                refine lv_iconst (v := (0 : Int32)) hx hb dX6_decode_91 (by decide) ?_
                refine lv_istore_n (lv' := [(1, .int (0 : Int32)), (0, .ref h0)]) hx hb dX6_decode_92 rfl hl (by decide) rfl (fun ls hl => ?_)
                refine lv_aload_n hx hb dX6_decode_93 rfl (lv_at hl 1 rfl) ?_
                refine va_get (D := D) (ci := 6) (v := .int r4) (C := RX6) (T := TX6) (N := 29) hx hb hts i_X6 hown hK hP 0 rfl rfl 21 (by decide) f_148 (fun _ h9 => h9) rfl dX6_decode_94 ?_
                refine lv_sipush (v := (231 : Int32)) hx hb dX6_decode_97 (by decide) ?_
                refine lv_iand hx hb dX6_decode_100 ?_
                refine lv_bipush (v := (38 : Int32)) hx hb dX6_decode_101 (by decide) ?_
                refine lv_icmp_ne (tgt := 121) hx hb dX6_decode_103 (by decide) (fun c14 => ?_) (fun c14 => ?_)
                · replace hw := hw.2 c14
                  refine lv_aload_n hx hb dX6_decode_121 rfl (lv_at hl 1 rfl) ?_
                  refine va_get (D := D) (ci := 6) (v := .int r4) (C := RX6) (T := TX6) (N := 29) hx hb hts i_X6 hown hK hP 0 rfl rfl 21 (by decide) f_148 (fun _ h9 => h9) rfl dX6_decode_122 ?_
                  refine lv_sipush (v := (242 : Int32)) hx hb dX6_decode_125 (by decide) ?_
                  refine lv_icmp_eq (tgt := 141) hx hb dX6_decode_128 (by decide) (fun c15 => ?_) (fun c15 => ?_)
                  · replace hw := hw.1 c15
                    refine lv_aload_n hx hb dX6_decode_141 rfl (lv_at hl 1 rfl) ?_
                    refine lv_aload_n hx hb dX6_decode_142 rfl (lv_at hl 1 rfl) ?_
                    refine va_get (D := D) (ci := 6) (v := .int r4) (C := RX6) (T := TX6) (N := 29) hx hb hts i_X6 hown hK hP 0 rfl rfl 21 (by decide) f_148 (fun _ h9 => h9) rfl dX6_decode_143 ?_
                    refine va_put (D := D) (ci := 6) (v := .int r4) (ty := .int) (C := RX6) (T := TX6) (N := 29) hx hb hts i_X6 tyX6 tyX6_ok nmX6 hown hK hP hD hS 0 rfl rfl 20 (by decide) f_176 (fun _ h9 => h9) rfl (by decide +kernel) rfl rfl (Nat.le_of_ble_eq_true rfl) dX6_decode_146 (fun H locs hP hD hS => ?_)
                    replace hP : va_P D vwCl (WQ cI h0 h1 h2 h3 h4 h5 (qs_code (qs_repeat u3 r4) r4)) H := hP
                    replace hD : va_D A (WQ cI h0 h1 h2 h3 h4 h5 (qs_code (qs_repeat u3 r4) r4)) := hD
                    refine lv_goto (tgt := 28) hx hb dX6_decode_149 (by decide) ?_
                    exact ih (0 : Int32) (qs_code (qs_repeat u3 r4) r4) H locs ls hP hD hS (lv_sub hl [1, 0] rfl) hw
                  · replace hw := hw.2 c15
                    refine lv_aload_n hx hb dX6_decode_131 rfl (lv_at hl 1 rfl) ?_
                    refine va_get (D := D) (ci := 6) (v := .int r4) (C := RX6) (T := TX6) (N := 29) hx hb hts i_X6 hown hK hP 0 rfl rfl 21 (by decide) f_148 (fun _ h9 => h9) rfl dX6_decode_132 ?_
                    refine lv_sipush (v := (243 : Int32)) hx hb dX6_decode_135 (by decide) ?_
                    refine lv_icmp_ne (tgt := 28) hx hb dX6_decode_138 (by decide) (fun c16 => ?_) (fun c16 => ?_)
                    · replace hw := hw.2 c16
                      exact ih (0 : Int32) (qs_code u3 r4) H locs ls hP hD hS (lv_sub hl [1, 0] rfl) hw
                    · replace hw := hw.1 c16
                      refine lv_aload_n hx hb dX6_decode_141 rfl (lv_at hl 1 rfl) ?_
                      refine lv_aload_n hx hb dX6_decode_142 rfl (lv_at hl 1 rfl) ?_
                      refine va_get (D := D) (ci := 6) (v := .int r4) (C := RX6) (T := TX6) (N := 29) hx hb hts i_X6 hown hK hP 0 rfl rfl 21 (by decide) f_148 (fun _ h9 => h9) rfl dX6_decode_143 ?_
                      refine va_put (D := D) (ci := 6) (v := .int r4) (ty := .int) (C := RX6) (T := TX6) (N := 29) hx hb hts i_X6 tyX6 tyX6_ok nmX6 hown hK hP hD hS 0 rfl rfl 20 (by decide) f_176 (fun _ h9 => h9) rfl (by decide +kernel) rfl rfl (Nat.le_of_ble_eq_true rfl) dX6_decode_146 (fun H locs hP hD hS => ?_)
                      replace hP : va_P D vwCl (WQ cI h0 h1 h2 h3 h4 h5 (qs_code (qs_repeat u3 r4) r4)) H := hP
                      replace hD : va_D A (WQ cI h0 h1 h2 h3 h4 h5 (qs_code (qs_repeat u3 r4) r4)) := hD
                      refine lv_goto (tgt := 28) hx hb dX6_decode_149 (by decide) ?_
                      exact ih (0 : Int32) (qs_code (qs_repeat u3 r4) r4) H locs ls hP hD hS (lv_sub hl [1, 0] rfl) hw
                · replace hw := hw.1 c14
                  refine lv_aload_n hx hb dX6_decode_106 rfl (lv_at hl 1 rfl) ?_
                  refine lv_aload_n hx hb dX6_decode_107 rfl (lv_at hl 1 rfl) ?_
                  refine va_get (D := D) (ci := 6) (v := .int r4) (C := RX6) (T := TX6) (N := 29) hx hb hts i_X6 hown hK hP 0 rfl rfl 21 (by decide) f_148 (fun _ h9 => h9) rfl dX6_decode_108 ?_
                  refine lv_iconst (v := (3 : Int32)) hx hb dX6_decode_111 (by decide) ?_
                  refine lv_ishr hx hb dX6_decode_112 ?_
                  refine lv_iconst (v := (3 : Int32)) hx hb dX6_decode_113 (by decide) ?_
                  refine lv_iand hx hb dX6_decode_114 ?_
                  refine va_put (D := D) (ci := 6) (v := .int ((r4 >>> ((3 : Int32) &&& 31)) &&& (3 : Int32))) (ty := .int) (C := RX6) (T := TX6) (N := 29) hx hb hts i_X6 tyX6 tyX6_ok nmX6 hown hK hP hD hS 0 rfl rfl 19 (by decide) f_124 (fun _ h9 => h9) rfl (by decide +kernel) rfl rfl (Nat.le_of_ble_eq_true rfl) dX6_decode_115 (fun H locs hP hD hS => ?_)
                  replace hP : va_P D vwCl (WQ cI h0 h1 h2 h3 h4 h5 (qs_code (qs_segment u3 ((r4 >>> ((3 : Int32) &&& 31)) &&& (3 : Int32))) r4)) H := hP
                  replace hD : va_D A (WQ cI h0 h1 h2 h3 h4 h5 (qs_code (qs_segment u3 ((r4 >>> ((3 : Int32) &&& 31)) &&& (3 : Int32))) r4)) := hD
                  refine lv_goto (tgt := 28) hx hb dX6_decode_118 (by decide) ?_
                  exact ih (0 : Int32) (qs_code (qs_segment u3 ((r4 >>> ((3 : Int32) &&& 31)) &&& (3 : Int32))) r4) H locs ls hP hD hS (lv_sub hl [1, 0] rfl) hw
              · replace hw := hw.2 c13
                refine lv_iconst (v := (1 : Int32)) hx hb dX6_decode_87 (by decide) ?_
                refine lv_goto (tgt := 92) hx hb dX6_decode_88 (by decide) ?_
                refine lv_istore_n (lv' := [(1, .int (1 : Int32)), (0, .ref h0)]) hx hb dX6_decode_92 rfl hl (by decide) rfl (fun ls hl => ?_)
                refine lv_aload_n hx hb dX6_decode_93 rfl (lv_at hl 1 rfl) ?_
                refine va_get (D := D) (ci := 6) (v := .int r4) (C := RX6) (T := TX6) (N := 29) hx hb hts i_X6 hown hK hP 0 rfl rfl 21 (by decide) f_148 (fun _ h9 => h9) rfl dX6_decode_94 ?_
                refine lv_sipush (v := (231 : Int32)) hx hb dX6_decode_97 (by decide) ?_
                refine lv_iand hx hb dX6_decode_100 ?_
                refine lv_bipush (v := (38 : Int32)) hx hb dX6_decode_101 (by decide) ?_
                refine lv_icmp_ne (tgt := 121) hx hb dX6_decode_103 (by decide) (fun c17 => ?_) (fun c17 => ?_)
                · replace hw := hw.2 c17
                  refine lv_aload_n hx hb dX6_decode_121 rfl (lv_at hl 1 rfl) ?_
                  refine va_get (D := D) (ci := 6) (v := .int r4) (C := RX6) (T := TX6) (N := 29) hx hb hts i_X6 hown hK hP 0 rfl rfl 21 (by decide) f_148 (fun _ h9 => h9) rfl dX6_decode_122 ?_
                  refine lv_sipush (v := (242 : Int32)) hx hb dX6_decode_125 (by decide) ?_
                  refine lv_icmp_eq (tgt := 141) hx hb dX6_decode_128 (by decide) (fun c18 => ?_) (fun c18 => ?_)
                  · replace hw := hw.1 c18
                    refine lv_aload_n hx hb dX6_decode_141 rfl (lv_at hl 1 rfl) ?_
                    refine lv_aload_n hx hb dX6_decode_142 rfl (lv_at hl 1 rfl) ?_
                    refine va_get (D := D) (ci := 6) (v := .int r4) (C := RX6) (T := TX6) (N := 29) hx hb hts i_X6 hown hK hP 0 rfl rfl 21 (by decide) f_148 (fun _ h9 => h9) rfl dX6_decode_143 ?_
                    refine va_put (D := D) (ci := 6) (v := .int r4) (ty := .int) (C := RX6) (T := TX6) (N := 29) hx hb hts i_X6 tyX6 tyX6_ok nmX6 hown hK hP hD hS 0 rfl rfl 20 (by decide) f_176 (fun _ h9 => h9) rfl (by decide +kernel) rfl rfl (Nat.le_of_ble_eq_true rfl) dX6_decode_146 (fun H locs hP hD hS => ?_)
                    replace hP : va_P D vwCl (WQ cI h0 h1 h2 h3 h4 h5 (qs_code (qs_repeat u3 r4) r4)) H := hP
                    replace hD : va_D A (WQ cI h0 h1 h2 h3 h4 h5 (qs_code (qs_repeat u3 r4) r4)) := hD
                    refine lv_goto (tgt := 28) hx hb dX6_decode_149 (by decide) ?_
                    exact ih (1 : Int32) (qs_code (qs_repeat u3 r4) r4) H locs ls hP hD hS (lv_sub hl [1, 0] rfl) hw
                  · replace hw := hw.2 c18
                    refine lv_aload_n hx hb dX6_decode_131 rfl (lv_at hl 1 rfl) ?_
                    refine va_get (D := D) (ci := 6) (v := .int r4) (C := RX6) (T := TX6) (N := 29) hx hb hts i_X6 hown hK hP 0 rfl rfl 21 (by decide) f_148 (fun _ h9 => h9) rfl dX6_decode_132 ?_
                    refine lv_sipush (v := (243 : Int32)) hx hb dX6_decode_135 (by decide) ?_
                    refine lv_icmp_ne (tgt := 28) hx hb dX6_decode_138 (by decide) (fun c19 => ?_) (fun c19 => ?_)
                    · replace hw := hw.2 c19
                      exact ih (1 : Int32) (qs_code u3 r4) H locs ls hP hD hS (lv_sub hl [1, 0] rfl) hw
                    · replace hw := hw.1 c19
                      refine lv_aload_n hx hb dX6_decode_141 rfl (lv_at hl 1 rfl) ?_
                      refine lv_aload_n hx hb dX6_decode_142 rfl (lv_at hl 1 rfl) ?_
                      refine va_get (D := D) (ci := 6) (v := .int r4) (C := RX6) (T := TX6) (N := 29) hx hb hts i_X6 hown hK hP 0 rfl rfl 21 (by decide) f_148 (fun _ h9 => h9) rfl dX6_decode_143 ?_
                      refine va_put (D := D) (ci := 6) (v := .int r4) (ty := .int) (C := RX6) (T := TX6) (N := 29) hx hb hts i_X6 tyX6 tyX6_ok nmX6 hown hK hP hD hS 0 rfl rfl 20 (by decide) f_176 (fun _ h9 => h9) rfl (by decide +kernel) rfl rfl (Nat.le_of_ble_eq_true rfl) dX6_decode_146 (fun H locs hP hD hS => ?_)
                      replace hP : va_P D vwCl (WQ cI h0 h1 h2 h3 h4 h5 (qs_code (qs_repeat u3 r4) r4)) H := hP
                      replace hD : va_D A (WQ cI h0 h1 h2 h3 h4 h5 (qs_code (qs_repeat u3 r4) r4)) := hD
                      refine lv_goto (tgt := 28) hx hb dX6_decode_149 (by decide) ?_
                      exact ih (1 : Int32) (qs_code (qs_repeat u3 r4) r4) H locs ls hP hD hS (lv_sub hl [1, 0] rfl) hw
                · replace hw := hw.1 c17
                  refine lv_aload_n hx hb dX6_decode_106 rfl (lv_at hl 1 rfl) ?_
                  refine lv_aload_n hx hb dX6_decode_107 rfl (lv_at hl 1 rfl) ?_
                  refine va_get (D := D) (ci := 6) (v := .int r4) (C := RX6) (T := TX6) (N := 29) hx hb hts i_X6 hown hK hP 0 rfl rfl 21 (by decide) f_148 (fun _ h9 => h9) rfl dX6_decode_108 ?_
                  refine lv_iconst (v := (3 : Int32)) hx hb dX6_decode_111 (by decide) ?_
                  refine lv_ishr hx hb dX6_decode_112 ?_
                  refine lv_iconst (v := (3 : Int32)) hx hb dX6_decode_113 (by decide) ?_
                  refine lv_iand hx hb dX6_decode_114 ?_
                  refine va_put (D := D) (ci := 6) (v := .int ((r4 >>> ((3 : Int32) &&& 31)) &&& (3 : Int32))) (ty := .int) (C := RX6) (T := TX6) (N := 29) hx hb hts i_X6 tyX6 tyX6_ok nmX6 hown hK hP hD hS 0 rfl rfl 19 (by decide) f_124 (fun _ h9 => h9) rfl (by decide +kernel) rfl rfl (Nat.le_of_ble_eq_true rfl) dX6_decode_115 (fun H locs hP hD hS => ?_)
                  replace hP : va_P D vwCl (WQ cI h0 h1 h2 h3 h4 h5 (qs_code (qs_segment u3 ((r4 >>> ((3 : Int32) &&& 31)) &&& (3 : Int32))) r4)) H := hP
                  replace hD : va_D A (WQ cI h0 h1 h2 h3 h4 h5 (qs_code (qs_segment u3 ((r4 >>> ((3 : Int32) &&& 31)) &&& (3 : Int32))) r4)) := hD
                  refine lv_goto (tgt := 28) hx hb dX6_decode_118 (by decide) ?_
                  exact ih (1 : Int32) (qs_code (qs_segment u3 ((r4 >>> ((3 : Int32) &&& 31)) &&& (3 : Int32))) r4) H locs ls hP hD hS (lv_sub hl [1, 0] rfl) hw
  unfold wX6_decode at hw
  obtain ⟨H, eH⟩ : ∃ H, H = s.heap := ⟨_, rfl⟩
  obtain ⟨locs, eL⟩ : ∃ locs : List Loc, locs = [] := ⟨_, rfl⟩
  replace hP : va_P D vwCl (WQ cI h0 h1 h2 h3 h4 h5 u) H := by rw [eH]; exact hP
  replace hS : va_S A s.heap H locs := by rw [eH, eL]; exact hS
  suffices hgo : W p l e ({ frames := 5, cells := 0, slots := 0, locals := 112 } : Room) s m ([.ref h0] : List Value).toArray below meth c H locs 0 0 (MQ below (va_Qi P (fun u t => va_P D vwCl (WQ cI h0 h1 h2 h3 h4 h5 u) t.heap) A) ([.ref h0] : List Value).toArray s 0 0 A) (F0 m 0 ls []) by rw [eH, eL] at hgo; exact hgo
  clear eH eL
  refine lv_aload_n hx hb dX6_decode_0 rfl (lv_at hl 0 rfl) ?_
  refine lv_aload_n hx hb dX6_decode_1 rfl (lv_at hl 0 rfl) ?_
  refine va_get (D := D) (ci := 6) (v := .int (q_ip u)) (C := RX6) (T := TX6) (N := 29) hx hb hts i_X6 hown hK hP 0 rfl rfl 3 (by decide) f_170 (fun _ h9 => h9) rfl dX6_decode_2 ?_
  refine va_put (D := D) (ci := 6) (v := .int (q_ip u)) (ty := .int) (C := RX6) (T := TX6) (N := 29) hx hb hts i_X6 tyX6 tyX6_ok nmX6 hown hK hP hD hS 0 rfl rfl 17 (by decide) f_173 (fun _ h9 => h9) rfl (by decide +kernel) rfl rfl (Nat.le_of_ble_eq_true rfl) dX6_decode_5 (fun H locs hP hD hS => ?_)
  replace hP : va_P D vwCl (WQ cI h0 h1 h2 h3 h4 h5 (qs_begin u (q_ip u))) H := hP
  replace hD : va_D A (WQ cI h0 h1 h2 h3 h4 h5 (qs_begin u (q_ip u))) := hD
  refine lv_aload_n hx hb dX6_decode_8 rfl (lv_at hl 0 rfl) ?_
  refine lv_aload_n hx hb dX6_decode_9 rfl (lv_at hl 0 rfl) ?_
  refine va_get (D := D) (ci := 6) (v := .int (q_ip u)) (C := RX6) (T := TX6) (N := 29) hx hb hts i_X6 hown hK hP 0 rfl rfl 3 (by decide) f_170 (fun _ h9 => h9) rfl dX6_decode_10 ?_
  refine va_put (D := D) (ci := 6) (v := .int (q_ip u)) (ty := .int) (C := RX6) (T := TX6) (N := 29) hx hb hts i_X6 tyX6 tyX6_ok nmX6 hown hK hP hD hS 0 rfl rfl 18 (by decide) f_114 (fun _ h9 => h9) rfl (by decide +kernel) rfl rfl (Nat.le_of_ble_eq_true rfl) dX6_decode_13 (fun H locs hP hD hS => ?_)
  replace hP : va_P D vwCl (WQ cI h0 h1 h2 h3 h4 h5 (qs_at (qs_begin u (q_ip u)) (q_ip u))) H := hP
  replace hD : va_D A (WQ cI h0 h1 h2 h3 h4 h5 (qs_at (qs_begin u (q_ip u)) (q_ip u))) := hD
  refine lv_aload_n hx hb dX6_decode_16 rfl (lv_at hl 0 rfl) ?_
  refine lv_iconst (v := (-1 : Int32)) hx hb dX6_decode_17 (by decide) ?_
  refine va_put (D := D) (ci := 6) (v := .int (-1 : Int32)) (ty := .int) (C := RX6) (T := TX6) (N := 29) hx hb hts i_X6 tyX6 tyX6_ok nmX6 hown hK hP hD hS 0 rfl rfl 19 (by decide) f_124 (fun _ h9 => h9) rfl (by decide +kernel) rfl rfl (Nat.le_of_ble_eq_true rfl) dX6_decode_18 (fun H locs hP hD hS => ?_)
  replace hP : va_P D vwCl (WQ cI h0 h1 h2 h3 h4 h5 (qs_segment (qs_at (qs_begin u (q_ip u)) (q_ip u)) (-1 : Int32))) H := hP
  replace hD : va_D A (WQ cI h0 h1 h2 h3 h4 h5 (qs_segment (qs_at (qs_begin u (q_ip u)) (q_ip u)) (-1 : Int32))) := hD
  refine lv_aload_n hx hb dX6_decode_21 rfl (lv_at hl 0 rfl) ?_
  refine lv_iconst (v := (0 : Int32)) hx hb dX6_decode_22 (by decide) ?_
  refine va_put (D := D) (ci := 6) (v := .int (0 : Int32)) (ty := .int) (C := RX6) (T := TX6) (N := 29) hx hb hts i_X6 tyX6 tyX6_ok nmX6 hown hK hP hD hS 0 rfl rfl 20 (by decide) f_176 (fun _ h9 => h9) rfl (by decide +kernel) rfl rfl (Nat.le_of_ble_eq_true rfl) dX6_decode_23 (fun H locs hP hD hS => ?_)
  replace hP : va_P D vwCl (WQ cI h0 h1 h2 h3 h4 h5 (qs_repeat (qs_segment (qs_at (qs_begin u (q_ip u)) (q_ip u)) (-1 : Int32)) (0 : Int32))) H := hP
  replace hD : va_D A (WQ cI h0 h1 h2 h3 h4 h5 (qs_repeat (qs_segment (qs_at (qs_begin u (q_ip u)) (q_ip u)) (-1 : Int32)) (0 : Int32))) := hD
  refine lv_iconst (v := (1 : Int32)) hx hb dX6_decode_26 (by decide) ?_
  refine lv_istore_n (lv' := [(1, .int (1 : Int32)), (0, .ref h0)]) hx hb dX6_decode_27 rfl hl (by decide) rfl (fun ls hl => ?_)
  obtain ⟨n, hw⟩ := hw
  exact b28 n (1 : Int32) (qs_repeat (qs_segment (qs_at (qs_begin u (q_ip u)) (q_ip u)) (-1 : Int32)) (0 : Int32)) H locs ls hP hD hS (lv_sub hl [1, 0] rfl) hw
-- X6_operand
def wX6_operand (a1 : Int32) (u : SQ) (P : Int32 → SQ → Prop) : Prop := (((q_mode u) = (3 : Int32) → (wX6_register (q_m u) a1 u (fun r5 u4 => (P r5 u4)))) ∧ (¬ (q_mode u) = (3 : Int32) → (wX6_get (q_place u) (q_offset u) a1 u (fun r3 u2 => (P r3 u2)))))
set_option maxHeartbeats 4000000 in
set_option maxRecDepth 100000 in
theorem kcX6_operand (l : Launch) (D : va_G) (cB cI : ClassId) (h0 h1 h2 h3 h4 h5 : Nat) (sz : Nat) (a1 : Int32) (u : SQ) (P : Int32 → SQ → Prop) (hw : wX6_operand a1 u P) : Met l yX6_operand wsX6_operand ({ frames := 2, cells := 0, slots := 0, locals := 46 } : Room) (va_Pc [.ref h0, .int a1] (Pcw D (tyA cB cI) (WQ cI h0 h1 h2 h3 h4 h5 u) sz Tru)) (va_Qi P (fun u t => va_P D vwCl (WQ cI h0 h1 h2 h3 h4 h5 u) t.heap) (va_A (WQ cI h0 h1 h2 h3 h4 h5 u) sz)) 0 0 (va_A (WQ cI h0 h1 h2 h3 h4 h5 u) sz) := by
  refine en_ (cc := cX6_operand) (maxL := 2) (ret := (some .int)) (own := RX6) (lv := [(0, .ref h0), (1, .int a1)]) (Qf := fun A => va_Qi P (fun u t => va_P D vwCl (WQ cI h0 h1 h2 h3 h4 h5 u) t.heap) A) (by decide) rfl rfl (Nat.le_of_ble_eq_true rfl) rfl ?_
  intro p e s m below meth c A ls S hr hlk hname hsz hP hK hD hA hSub hS hE hl
  have hx := S.1
  have hb := S.2.1
  have hown := S.2.2.2.1
  have hts := S.2.2.2.2
  have i_X6 : ∀ w ∈ u_ws RX6 TX6 29, w ∈ wsX6_operand := by decide +kernel
  have f_127 := hts (.fieldLink RX6 127 "MachineCoreModel" "mode" "I") (by decide +kernel)
  have f_133 := hts (.fieldLink RX6 133 "MachineCoreModel" "m" "I") (by decide +kernel)
  have f_139 := hts (.fieldLink RX6 139 "MachineCoreModel" "offset" "I") (by decide +kernel)
  have f_145 := hts (.fieldLink RX6 145 "MachineCoreModel" "place" "I") (by decide +kernel)
  unfold wX6_operand at hw
  obtain ⟨H, eH⟩ : ∃ H, H = s.heap := ⟨_, rfl⟩
  obtain ⟨locs, eL⟩ : ∃ locs : List Loc, locs = [] := ⟨_, rfl⟩
  replace hP : va_P D vwCl (WQ cI h0 h1 h2 h3 h4 h5 u) H := by rw [eH]; exact hP
  replace hS : va_S A s.heap H locs := by rw [eH, eL]; exact hS
  suffices hgo : W p l e ({ frames := 2, cells := 0, slots := 0, locals := 46 } : Room) s m ([.ref h0, .int a1] : List Value).toArray below meth c H locs 0 0 (MQ below (va_Qi P (fun u t => va_P D vwCl (WQ cI h0 h1 h2 h3 h4 h5 u) t.heap) A) ([.ref h0, .int a1] : List Value).toArray s 0 0 A) (F0 m 0 ls []) by rw [eH, eL] at hgo; exact hgo
  clear eH eL
  refine lv_aload_n hx hb dX6_operand_0 rfl (lv_at hl 0 rfl) ?_
  refine va_get (D := D) (ci := 6) (v := .int (q_mode u)) (C := RX6) (T := TX6) (N := 29) hx hb hts i_X6 hown hK hP 0 rfl rfl 22 (by decide) f_127 (fun _ h9 => h9) rfl dX6_operand_1 ?_
  refine lv_iconst (v := (3 : Int32)) hx hb dX6_operand_4 (by decide) ?_
  refine lv_icmp_ne (tgt := 20) hx hb dX6_operand_5 (by decide) (fun c1 => ?_) (fun c1 => ?_)
  · replace hw := hw.2 c1
    refine lv_aload_n hx hb dX6_operand_20 rfl (lv_at hl 0 rfl) ?_
    refine lv_aload_n hx hb dX6_operand_21 rfl (lv_at hl 0 rfl) ?_
    refine va_get (D := D) (ci := 6) (v := .int (q_place u)) (C := RX6) (T := TX6) (N := 29) hx hb hts i_X6 hown hK hP 0 rfl rfl 26 (by decide) f_145 (fun _ h9 => h9) rfl dX6_operand_22 ?_
    refine lv_aload_n hx hb dX6_operand_25 rfl (lv_at hl 0 rfl) ?_
    refine va_get (D := D) (ci := 6) (v := .int (q_offset u)) (C := RX6) (T := TX6) (N := 29) hx hb hts i_X6 hown hK hP 0 rfl rfl 25 (by decide) f_139 (fun _ h9 => h9) rfl dX6_operand_26 ?_
    refine lv_iload_n hx hb dX6_operand_29 rfl (lv_at hl 1 rfl) ?_
    refine cl_Vi (As := [.int (q_place u), .int (q_offset u), .int a1]) (rest := []) (st := [.int a1, .int (q_offset u), .int (q_place u), .ref h0]) S hK hA hP hD hS (fr_Q u) (kcX6_get l D cB cI h0 h1 h2 h3 h4 h5 H.size (q_place u) (q_offset u) a1 u _ hw) (cwV 3 hts gX6_operand_X6_get rfl rfl rfl (by decide +kernel) ⟨Nat.le_of_ble_eq_true rfl, Nat.le_of_ble_eq_true rfl⟩) tru_h tru_b 0 rfl rfl rfl rfl rfl hl.1 (Nat.le_of_ble_eq_true rfl) dX6_operand_30 ⟨Nat.zero_le _, Nat.zero_le _⟩ (fun r3 u2 H locs hP hD hS hw => ?_)
    replace hP : va_P D vwCl (WQ cI h0 h1 h2 h3 h4 h5 u2) H := hP
    replace hD : va_D A (WQ cI h0 h1 h2 h3 h4 h5 u2) := hD
    exact rt_i (wo := (fun v => WQ cI h0 h1 h2 h3 h4 h5 v)) S hr hlk u2 hP hS hw dX6_operand_33
  · replace hw := hw.1 c1
    refine lv_aload_n hx hb dX6_operand_8 rfl (lv_at hl 0 rfl) ?_
    refine lv_aload_n hx hb dX6_operand_9 rfl (lv_at hl 0 rfl) ?_
    refine va_get (D := D) (ci := 6) (v := .int (q_m u)) (C := RX6) (T := TX6) (N := 29) hx hb hts i_X6 hown hK hP 0 rfl rfl 24 (by decide) f_133 (fun _ h9 => h9) rfl dX6_operand_10 ?_
    refine lv_iload_n hx hb dX6_operand_13 rfl (lv_at hl 1 rfl) ?_
    refine cl_Vi (As := [.int (q_m u), .int a1]) (rest := []) (st := [.int a1, .int (q_m u), .ref h0]) S hK hA hP hD hS (fr_Q u) (kcX6_register l D cB cI h0 h1 h2 h3 h4 h5 H.size (q_m u) a1 u _ hw) (cwV 2 hts gX6_operand_X6_register rfl rfl rfl (by decide +kernel) ⟨Nat.le_of_ble_eq_true rfl, Nat.le_of_ble_eq_true rfl⟩) tru_h tru_b 0 rfl rfl rfl rfl rfl hl.1 (Nat.le_of_ble_eq_true rfl) dX6_operand_14 ⟨Nat.zero_le _, Nat.zero_le _⟩ (fun r5 u4 H locs hP hD hS hw => ?_)
    replace hP : va_P D vwCl (WQ cI h0 h1 h2 h3 h4 h5 u4) H := hP
    replace hD : va_D A (WQ cI h0 h1 h2 h3 h4 h5 u4) := hD
    refine lv_goto (tgt := 33) hx hb dX6_operand_17 (by decide) ?_
    exact rt_i (wo := (fun v => WQ cI h0 h1 h2 h3 h4 h5 v)) S hr hlk u4 hP hS hw dX6_operand_33
-- X6_give
def wX6_give (a1 : Int32) (a2 : Int32) (u : SQ) (P : SQ → Prop) : Prop := (((q_mode u) = (3 : Int32) → (wX6_setRegister (q_m u) a1 a2 u (fun u4 => (P u4)))) ∧ (¬ (q_mode u) = (3 : Int32) → (wX6_put (q_place u) (q_offset u) a1 a2 u (fun u2 => (P u2)))))
set_option maxHeartbeats 4000000 in
set_option maxRecDepth 100000 in
theorem kcX6_give (l : Launch) (D : va_G) (cB cI : ClassId) (h0 h1 h2 h3 h4 h5 : Nat) (sz : Nat) (a1 : Int32) (a2 : Int32) (u : SQ) (P : SQ → Prop) (hw : wX6_give a1 a2 u P) : Met l yX6_give wsX6_give ({ frames := 2, cells := 0, slots := 0, locals := 46 } : Room) (va_Pc [.ref h0, .int a1, .int a2] (Pcw D (tyA cB cI) (WQ cI h0 h1 h2 h3 h4 h5 u) sz Tru)) (va_Qv P (fun u t => va_P D vwCl (WQ cI h0 h1 h2 h3 h4 h5 u) t.heap) (va_A (WQ cI h0 h1 h2 h3 h4 h5 u) sz)) 0 0 (va_A (WQ cI h0 h1 h2 h3 h4 h5 u) sz) := by
  refine en_ (cc := cX6_give) (maxL := 3) (ret := none) (own := RX6) (lv := [(0, .ref h0), (1, .int a1), (2, .int a2)]) (Qf := fun A => va_Qv P (fun u t => va_P D vwCl (WQ cI h0 h1 h2 h3 h4 h5 u) t.heap) A) (by decide) rfl rfl (Nat.le_of_ble_eq_true rfl) rfl ?_
  intro p e s m below meth c A ls S hr hlk hname hsz hP hK hD hA hSub hS hE hl
  have hx := S.1
  have hb := S.2.1
  have hown := S.2.2.2.1
  have hts := S.2.2.2.2
  have i_X6 : ∀ w ∈ u_ws RX6 TX6 29, w ∈ wsX6_give := by decide +kernel
  have f_127 := hts (.fieldLink RX6 127 "MachineCoreModel" "mode" "I") (by decide +kernel)
  have f_133 := hts (.fieldLink RX6 133 "MachineCoreModel" "m" "I") (by decide +kernel)
  have f_139 := hts (.fieldLink RX6 139 "MachineCoreModel" "offset" "I") (by decide +kernel)
  have f_145 := hts (.fieldLink RX6 145 "MachineCoreModel" "place" "I") (by decide +kernel)
  unfold wX6_give at hw
  obtain ⟨H, eH⟩ : ∃ H, H = s.heap := ⟨_, rfl⟩
  obtain ⟨locs, eL⟩ : ∃ locs : List Loc, locs = [] := ⟨_, rfl⟩
  replace hP : va_P D vwCl (WQ cI h0 h1 h2 h3 h4 h5 u) H := by rw [eH]; exact hP
  replace hS : va_S A s.heap H locs := by rw [eH, eL]; exact hS
  suffices hgo : W p l e ({ frames := 2, cells := 0, slots := 0, locals := 46 } : Room) s m ([.ref h0, .int a1, .int a2] : List Value).toArray below meth c H locs 0 0 (MQ below (va_Qv P (fun u t => va_P D vwCl (WQ cI h0 h1 h2 h3 h4 h5 u) t.heap) A) ([.ref h0, .int a1, .int a2] : List Value).toArray s 0 0 A) (F0 m 0 ls []) by rw [eH, eL] at hgo; exact hgo
  clear eH eL
  refine lv_aload_n hx hb dX6_give_0 rfl (lv_at hl 0 rfl) ?_
  refine va_get (D := D) (ci := 6) (v := .int (q_mode u)) (C := RX6) (T := TX6) (N := 29) hx hb hts i_X6 hown hK hP 0 rfl rfl 22 (by decide) f_127 (fun _ h9 => h9) rfl dX6_give_1 ?_
  refine lv_iconst (v := (3 : Int32)) hx hb dX6_give_4 (by decide) ?_
  refine lv_icmp_ne (tgt := 21) hx hb dX6_give_5 (by decide) (fun c1 => ?_) (fun c1 => ?_)
  · replace hw := hw.2 c1
    refine lv_aload_n hx hb dX6_give_21 rfl (lv_at hl 0 rfl) ?_
    refine lv_aload_n hx hb dX6_give_22 rfl (lv_at hl 0 rfl) ?_
    refine va_get (D := D) (ci := 6) (v := .int (q_place u)) (C := RX6) (T := TX6) (N := 29) hx hb hts i_X6 hown hK hP 0 rfl rfl 26 (by decide) f_145 (fun _ h9 => h9) rfl dX6_give_23 ?_
    refine lv_aload_n hx hb dX6_give_26 rfl (lv_at hl 0 rfl) ?_
    refine va_get (D := D) (ci := 6) (v := .int (q_offset u)) (C := RX6) (T := TX6) (N := 29) hx hb hts i_X6 hown hK hP 0 rfl rfl 25 (by decide) f_139 (fun _ h9 => h9) rfl dX6_give_27 ?_
    refine lv_iload_n hx hb dX6_give_30 rfl (lv_at hl 1 rfl) ?_
    refine lv_iload_n hx hb dX6_give_31 rfl (lv_at hl 2 rfl) ?_
    refine cl_Vv (As := [.int (q_place u), .int (q_offset u), .int a1, .int a2]) (rest := []) (st := [.int a2, .int a1, .int (q_offset u), .int (q_place u), .ref h0]) S hK hA hP hD hS (fr_Q u) (kcX6_put l D cB cI h0 h1 h2 h3 h4 h5 H.size (q_place u) (q_offset u) a1 a2 u _ hw) (cwV 4 hts gX6_give_X6_put rfl rfl rfl (by decide +kernel) ⟨Nat.le_of_ble_eq_true rfl, Nat.le_of_ble_eq_true rfl⟩) tru_h tru_b 0 rfl rfl rfl rfl rfl hl.1 (Nat.le_of_ble_eq_true rfl) dX6_give_32 ⟨Nat.zero_le _, Nat.zero_le _⟩ (fun u2 H locs hP hD hS hw => ?_)
    replace hP : va_P D vwCl (WQ cI h0 h1 h2 h3 h4 h5 u2) H := hP
    replace hD : va_D A (WQ cI h0 h1 h2 h3 h4 h5 u2) := hD
    exact rt_v (wo := (fun v => WQ cI h0 h1 h2 h3 h4 h5 v)) S hr hlk u2 hP hS hw dX6_give_35
  · replace hw := hw.1 c1
    refine lv_aload_n hx hb dX6_give_8 rfl (lv_at hl 0 rfl) ?_
    refine lv_aload_n hx hb dX6_give_9 rfl (lv_at hl 0 rfl) ?_
    refine va_get (D := D) (ci := 6) (v := .int (q_m u)) (C := RX6) (T := TX6) (N := 29) hx hb hts i_X6 hown hK hP 0 rfl rfl 24 (by decide) f_133 (fun _ h9 => h9) rfl dX6_give_10 ?_
    refine lv_iload_n hx hb dX6_give_13 rfl (lv_at hl 1 rfl) ?_
    refine lv_iload_n hx hb dX6_give_14 rfl (lv_at hl 2 rfl) ?_
    refine cl_Vv (As := [.int (q_m u), .int a1, .int a2]) (rest := []) (st := [.int a2, .int a1, .int (q_m u), .ref h0]) S hK hA hP hD hS (fr_Q u) (kcX6_setRegister l D cB cI h0 h1 h2 h3 h4 h5 H.size (q_m u) a1 a2 u _ hw) (cwV 3 hts gX6_give_X6_setRegister rfl rfl rfl (by decide +kernel) ⟨Nat.le_of_ble_eq_true rfl, Nat.le_of_ble_eq_true rfl⟩) tru_h tru_b 0 rfl rfl rfl rfl rfl hl.1 (Nat.le_of_ble_eq_true rfl) dX6_give_15 ⟨Nat.zero_le _, Nat.zero_le _⟩ (fun u4 H locs hP hD hS hw => ?_)
    replace hP : va_P D vwCl (WQ cI h0 h1 h2 h3 h4 h5 u4) H := hP
    replace hD : va_D A (WQ cI h0 h1 h2 h3 h4 h5 u4) := hD
    refine lv_goto (tgt := 35) hx hb dX6_give_18 (by decide) ?_
    exact rt_v (wo := (fun v => WQ cI h0 h1 h2 h3 h4 h5 v)) S hr hlk u4 hP hS hw dX6_give_35
-- X6_interrupt
def wX6_interrupt (a1 : Int32) (u : SQ) (P : SQ → Prop) : Prop := (wX6_push ((q_flags u) ||| (61442 : Int32)) u (fun u1 => (vp_in (1 : Int32) 4 ∧ (wX6_push ((q_segments u1) (1 : Int32).toNatClampNeg) (qs_flags u1 ((q_flags u1) &&& (-769 : Int32))) (fun u3 => (wX6_push (q_ip u3) u3 (fun u5 => (wX6_get (0 : Int32) ((4 : Int32) * a1) (1 : Int32) u5 (fun r8 u7 => (wX6_get (0 : Int32) (((4 : Int32) * a1) + (2 : Int32)) (1 : Int32) (qs_ip u7 r8) (fun r10 u9 => (vp_in (1 : Int32) 4 ∧ (P (qs_segments u9 (upd (q_segments u9) (1 : Int32).toNatClampNeg r10)))))))))))))))
set_option maxHeartbeats 4000000 in
set_option maxRecDepth 100000 in
theorem kcX6_interrupt (l : Launch) (D : va_G) (cB cI : ClassId) (h0 h1 h2 h3 h4 h5 : Nat) (sz : Nat) (a1 : Int32) (u : SQ) (P : SQ → Prop) (hw : wX6_interrupt a1 u P) : Met l yX6_interrupt wsX6_interrupt ({ frames := 3, cells := 0, slots := 0, locals := 67 } : Room) (va_Pc [.ref h0, .int a1] (Pcw D (tyA cB cI) (WQ cI h0 h1 h2 h3 h4 h5 u) sz Tru)) (va_Qv P (fun u t => va_P D vwCl (WQ cI h0 h1 h2 h3 h4 h5 u) t.heap) (va_A (WQ cI h0 h1 h2 h3 h4 h5 u) sz)) 0 0 (va_A (WQ cI h0 h1 h2 h3 h4 h5 u) sz) := by
  refine en_ (cc := cX6_interrupt) (maxL := 2) (ret := none) (own := RX6) (lv := [(0, .ref h0), (1, .int a1)]) (Qf := fun A => va_Qv P (fun u t => va_P D vwCl (WQ cI h0 h1 h2 h3 h4 h5 u) t.heap) A) (by decide) rfl rfl (Nat.le_of_ble_eq_true rfl) rfl ?_
  intro p e s m below meth c A ls S hr hlk hname hsz hP hK hD hA hSub hS hE hl
  have hx := S.1
  have hb := S.2.1
  have hown := S.2.2.2.1
  have hts := S.2.2.2.2
  have i_X6 : ∀ w ∈ u_ws RX6 TX6 29, w ∈ wsX6_interrupt := by decide +kernel
  have f_13 := hts (.fieldLink RX6 13 "MachineCoreModel" "segments" "[I") (by decide +kernel)
  have f_54 := hts (.fieldLink RX6 54 "MachineCoreModel" "flags" "I") (by decide +kernel)
  have f_170 := hts (.fieldLink RX6 170 "MachineCoreModel" "ip" "I") (by decide +kernel)
  have k_182 := hts (.constant RX6 182 (61442)) (by decide +kernel)
  unfold wX6_interrupt at hw
  obtain ⟨H, eH⟩ : ∃ H, H = s.heap := ⟨_, rfl⟩
  obtain ⟨locs, eL⟩ : ∃ locs : List Loc, locs = [] := ⟨_, rfl⟩
  replace hP : va_P D vwCl (WQ cI h0 h1 h2 h3 h4 h5 u) H := by rw [eH]; exact hP
  replace hS : va_S A s.heap H locs := by rw [eH, eL]; exact hS
  suffices hgo : W p l e ({ frames := 3, cells := 0, slots := 0, locals := 67 } : Room) s m ([.ref h0, .int a1] : List Value).toArray below meth c H locs 0 0 (MQ below (va_Qv P (fun u t => va_P D vwCl (WQ cI h0 h1 h2 h3 h4 h5 u) t.heap) A) ([.ref h0, .int a1] : List Value).toArray s 0 0 A) (F0 m 0 ls []) by rw [eH, eL] at hgo; exact hgo
  clear eH eL
  refine lv_aload_n hx hb dX6_interrupt_0 rfl (lv_at hl 0 rfl) ?_
  refine lv_aload_n hx hb dX6_interrupt_1 rfl (lv_at hl 0 rfl) ?_
  refine va_get (D := D) (ci := 6) (v := .int (q_flags u)) (C := RX6) (T := TX6) (N := 29) hx hb hts i_X6 hown hK hP 0 rfl rfl 4 (by decide) f_54 (fun _ h9 => h9) rfl dX6_interrupt_2 ?_
  refine lv_ldc (v := (61442 : Int32)) hx hb hown k_182 dX6_interrupt_5 ?_
  refine lv_ior hx hb dX6_interrupt_7 ?_
  refine cl_Vv (As := [.int ((q_flags u) ||| (61442 : Int32))]) (rest := []) (st := [.int ((q_flags u) ||| (61442 : Int32)), .ref h0]) S hK hA hP hD hS (fr_Q u) (kcX6_push l D cB cI h0 h1 h2 h3 h4 h5 H.size ((q_flags u) ||| (61442 : Int32)) u _ hw) (cwV 1 hts gX6_interrupt_X6_push rfl rfl rfl (by decide +kernel) ⟨Nat.le_of_ble_eq_true rfl, Nat.le_of_ble_eq_true rfl⟩) tru_h tru_b 0 rfl rfl rfl rfl rfl hl.1 (Nat.le_of_ble_eq_true rfl) dX6_interrupt_8 ⟨Nat.zero_le _, Nat.zero_le _⟩ (fun u1 H locs hP hD hS hw => ?_)
  replace hP : va_P D vwCl (WQ cI h0 h1 h2 h3 h4 h5 u1) H := hP
  replace hD : va_D A (WQ cI h0 h1 h2 h3 h4 h5 u1) := hD
  refine lv_aload_n hx hb dX6_interrupt_11 rfl (lv_at hl 0 rfl) ?_
  refine lv_aload_n hx hb dX6_interrupt_12 rfl (lv_at hl 0 rfl) ?_
  refine va_get (D := D) (ci := 6) (v := .int (q_flags u1)) (C := RX6) (T := TX6) (N := 29) hx hb hts i_X6 hown hK hP 0 rfl rfl 4 (by decide) f_54 (fun _ h9 => h9) rfl dX6_interrupt_13 ?_
  refine lv_sipush (v := (-769 : Int32)) hx hb dX6_interrupt_16 (by decide) ?_
  refine lv_iand hx hb dX6_interrupt_19 ?_
  refine va_put (D := D) (ci := 6) (v := .int ((q_flags u1) &&& (-769 : Int32))) (ty := .int) (C := RX6) (T := TX6) (N := 29) hx hb hts i_X6 tyX6 tyX6_ok nmX6 hown hK hP hD hS 0 rfl rfl 4 (by decide) f_54 (fun _ h9 => h9) rfl (by decide +kernel) rfl rfl (Nat.le_of_ble_eq_true rfl) dX6_interrupt_20 (fun H locs hP hD hS => ?_)
  replace hP : va_P D vwCl (WQ cI h0 h1 h2 h3 h4 h5 (qs_flags u1 ((q_flags u1) &&& (-769 : Int32)))) H := hP
  replace hD : va_D A (WQ cI h0 h1 h2 h3 h4 h5 (qs_flags u1 ((q_flags u1) &&& (-769 : Int32)))) := hD
  refine lv_aload_n hx hb dX6_interrupt_23 rfl (lv_at hl 0 rfl) ?_
  refine lv_aload_n hx hb dX6_interrupt_24 rfl (lv_at hl 0 rfl) ?_
  refine va_get (D := D) (ci := 6) (v := .ref h2) (C := RX6) (T := TX6) (N := 29) hx hb hts i_X6 hown hK hP 0 rfl rfl 2 (by decide) f_13 (fun _ h9 => h9) rfl dX6_interrupt_25 ?_
  refine lv_iconst (v := (1 : Int32)) hx hb dX6_interrupt_28 (by decide) ?_
  refine va_iald hx hb hK hP 2 1 (f := (q_segments u1)) rfl rfl hw.1 dX6_interrupt_29 ?_
  replace hw := hw.2
  refine cl_Vv (As := [.int ((q_segments u1) (1 : Int32).toNatClampNeg)]) (rest := []) (st := [.int ((q_segments u1) (1 : Int32).toNatClampNeg), .ref h0]) S hK hA hP hD hS (fr_Q (qs_flags u1 ((q_flags u1) &&& (-769 : Int32)))) (kcX6_push l D cB cI h0 h1 h2 h3 h4 h5 H.size ((q_segments u1) (1 : Int32).toNatClampNeg) (qs_flags u1 ((q_flags u1) &&& (-769 : Int32))) _ hw) (cwV 1 hts gX6_interrupt_X6_push rfl rfl rfl (by decide +kernel) ⟨Nat.le_of_ble_eq_true rfl, Nat.le_of_ble_eq_true rfl⟩) tru_h tru_b 0 rfl rfl rfl rfl rfl hl.1 (Nat.le_of_ble_eq_true rfl) dX6_interrupt_30 ⟨Nat.zero_le _, Nat.zero_le _⟩ (fun u3 H locs hP hD hS hw => ?_)
  replace hP : va_P D vwCl (WQ cI h0 h1 h2 h3 h4 h5 u3) H := hP
  replace hD : va_D A (WQ cI h0 h1 h2 h3 h4 h5 u3) := hD
  refine lv_aload_n hx hb dX6_interrupt_33 rfl (lv_at hl 0 rfl) ?_
  refine lv_aload_n hx hb dX6_interrupt_34 rfl (lv_at hl 0 rfl) ?_
  refine va_get (D := D) (ci := 6) (v := .int (q_ip u3)) (C := RX6) (T := TX6) (N := 29) hx hb hts i_X6 hown hK hP 0 rfl rfl 3 (by decide) f_170 (fun _ h9 => h9) rfl dX6_interrupt_35 ?_
  refine cl_Vv (As := [.int (q_ip u3)]) (rest := []) (st := [.int (q_ip u3), .ref h0]) S hK hA hP hD hS (fr_Q u3) (kcX6_push l D cB cI h0 h1 h2 h3 h4 h5 H.size (q_ip u3) u3 _ hw) (cwV 1 hts gX6_interrupt_X6_push rfl rfl rfl (by decide +kernel) ⟨Nat.le_of_ble_eq_true rfl, Nat.le_of_ble_eq_true rfl⟩) tru_h tru_b 0 rfl rfl rfl rfl rfl hl.1 (Nat.le_of_ble_eq_true rfl) dX6_interrupt_38 ⟨Nat.zero_le _, Nat.zero_le _⟩ (fun u5 H locs hP hD hS hw => ?_)
  replace hP : va_P D vwCl (WQ cI h0 h1 h2 h3 h4 h5 u5) H := hP
  replace hD : va_D A (WQ cI h0 h1 h2 h3 h4 h5 u5) := hD
  refine lv_aload_n hx hb dX6_interrupt_41 rfl (lv_at hl 0 rfl) ?_
  refine lv_aload_n hx hb dX6_interrupt_42 rfl (lv_at hl 0 rfl) ?_
  refine lv_iconst (v := (0 : Int32)) hx hb dX6_interrupt_43 (by decide) ?_
  refine lv_iconst (v := (4 : Int32)) hx hb dX6_interrupt_44 (by decide) ?_
  refine lv_iload_n hx hb dX6_interrupt_45 rfl (lv_at hl 1 rfl) ?_
  refine lv_imul hx hb dX6_interrupt_46 ?_
  refine lv_iconst (v := (1 : Int32)) hx hb dX6_interrupt_47 (by decide) ?_
  refine cl_Vi (As := [.int (0 : Int32), .int ((4 : Int32) * a1), .int (1 : Int32)]) (rest := [.ref h0]) (st := [.int (1 : Int32), .int ((4 : Int32) * a1), .int (0 : Int32), .ref h0, .ref h0]) S hK hA hP hD hS (fr_Q u5) (kcX6_get l D cB cI h0 h1 h2 h3 h4 h5 H.size (0 : Int32) ((4 : Int32) * a1) (1 : Int32) u5 _ hw) (cwV 3 hts gX6_interrupt_X6_get rfl rfl rfl (by decide +kernel) ⟨Nat.le_of_ble_eq_true rfl, Nat.le_of_ble_eq_true rfl⟩) tru_h tru_b 0 rfl rfl rfl rfl rfl hl.1 (Nat.le_of_ble_eq_true rfl) dX6_interrupt_48 ⟨Nat.zero_le _, Nat.zero_le _⟩ (fun r8 u7 H locs hP hD hS hw => ?_)
  replace hP : va_P D vwCl (WQ cI h0 h1 h2 h3 h4 h5 u7) H := hP
  replace hD : va_D A (WQ cI h0 h1 h2 h3 h4 h5 u7) := hD
  refine va_put (D := D) (ci := 6) (v := .int r8) (ty := .int) (C := RX6) (T := TX6) (N := 29) hx hb hts i_X6 tyX6 tyX6_ok nmX6 hown hK hP hD hS 0 rfl rfl 3 (by decide) f_170 (fun _ h9 => h9) rfl (by decide +kernel) rfl rfl (Nat.le_of_ble_eq_true rfl) dX6_interrupt_51 (fun H locs hP hD hS => ?_)
  replace hP : va_P D vwCl (WQ cI h0 h1 h2 h3 h4 h5 (qs_ip u7 r8)) H := hP
  replace hD : va_D A (WQ cI h0 h1 h2 h3 h4 h5 (qs_ip u7 r8)) := hD
  refine lv_aload_n hx hb dX6_interrupt_54 rfl (lv_at hl 0 rfl) ?_
  refine va_get (D := D) (ci := 6) (v := .ref h2) (C := RX6) (T := TX6) (N := 29) hx hb hts i_X6 hown hK hP 0 rfl rfl 2 (by decide) f_13 (fun _ h9 => h9) rfl dX6_interrupt_55 ?_
  refine lv_iconst (v := (1 : Int32)) hx hb dX6_interrupt_58 (by decide) ?_
  refine lv_aload_n hx hb dX6_interrupt_59 rfl (lv_at hl 0 rfl) ?_
  refine lv_iconst (v := (0 : Int32)) hx hb dX6_interrupt_60 (by decide) ?_
  refine lv_iconst (v := (4 : Int32)) hx hb dX6_interrupt_61 (by decide) ?_
  refine lv_iload_n hx hb dX6_interrupt_62 rfl (lv_at hl 1 rfl) ?_
  refine lv_imul hx hb dX6_interrupt_63 ?_
  refine lv_iconst (v := (2 : Int32)) hx hb dX6_interrupt_64 (by decide) ?_
  refine lv_iadd hx hb dX6_interrupt_65 ?_
  refine lv_iconst (v := (1 : Int32)) hx hb dX6_interrupt_66 (by decide) ?_
  refine cl_Vi (As := [.int (0 : Int32), .int (((4 : Int32) * a1) + (2 : Int32)), .int (1 : Int32)]) (rest := [.int (1 : Int32), .ref h2]) (st := [.int (1 : Int32), .int (((4 : Int32) * a1) + (2 : Int32)), .int (0 : Int32), .ref h0, .int (1 : Int32), .ref h2]) S hK hA hP hD hS (fr_Q (qs_ip u7 r8)) (kcX6_get l D cB cI h0 h1 h2 h3 h4 h5 H.size (0 : Int32) (((4 : Int32) * a1) + (2 : Int32)) (1 : Int32) (qs_ip u7 r8) _ hw) (cwV 3 hts gX6_interrupt_X6_get rfl rfl rfl (by decide +kernel) ⟨Nat.le_of_ble_eq_true rfl, Nat.le_of_ble_eq_true rfl⟩) tru_h tru_b 0 rfl rfl rfl rfl rfl hl.1 (Nat.le_of_ble_eq_true rfl) dX6_interrupt_67 ⟨Nat.zero_le _, Nat.zero_le _⟩ (fun r10 u9 H locs hP hD hS hw => ?_)
  replace hP : va_P D vwCl (WQ cI h0 h1 h2 h3 h4 h5 u9) H := hP
  replace hD : va_D A (WQ cI h0 h1 h2 h3 h4 h5 u9) := hD
  refine va_iast hx hb hK hP hD hS 2 1 (f := (q_segments u9)) rfl rfl hw.1 dX6_interrupt_70 (fun H locs hP hD hS => ?_)
  replace hw := hw.2
  replace hP : va_P D vwCl (WQ cI h0 h1 h2 h3 h4 h5 (qs_segments u9 (upd (q_segments u9) (1 : Int32).toNatClampNeg r10))) H := hP
  replace hD : va_D A (WQ cI h0 h1 h2 h3 h4 h5 (qs_segments u9 (upd (q_segments u9) (1 : Int32).toNatClampNeg r10))) := hD
  exact rt_v (wo := (fun v => WQ cI h0 h1 h2 h3 h4 h5 v)) S hr hlk (qs_segments u9 (upd (q_segments u9) (1 : Int32).toNatClampNeg r10)) hP hS hw dX6_interrupt_71
-- X6_jump
def wX6_jump (a1 : Int32) (u : SQ) (P : SQ → Prop) : Prop := (P (qs_ip u (((q_ip u) + a1) &&& (65535 : Int32))))
set_option maxHeartbeats 4000000 in
set_option maxRecDepth 100000 in
theorem kcX6_jump (l : Launch) (D : va_G) (cB cI : ClassId) (h0 h1 h2 h3 h4 h5 : Nat) (sz : Nat) (a1 : Int32) (u : SQ) (P : SQ → Prop) (hw : wX6_jump a1 u P) : Met l yX6_jump wsX6_jump ({ frames := 0, cells := 0, slots := 0, locals := 0 } : Room) (va_Pc [.ref h0, .int a1] (Pcw D (tyA cB cI) (WQ cI h0 h1 h2 h3 h4 h5 u) sz Tru)) (va_Qv P (fun u t => va_P D vwCl (WQ cI h0 h1 h2 h3 h4 h5 u) t.heap) (va_A (WQ cI h0 h1 h2 h3 h4 h5 u) sz)) 0 0 (va_A (WQ cI h0 h1 h2 h3 h4 h5 u) sz) := by
  refine en_ (cc := cX6_jump) (maxL := 2) (ret := none) (own := RX6) (lv := [(0, .ref h0), (1, .int a1)]) (Qf := fun A => va_Qv P (fun u t => va_P D vwCl (WQ cI h0 h1 h2 h3 h4 h5 u) t.heap) A) (by decide) rfl rfl (Nat.le_of_ble_eq_true rfl) rfl ?_
  intro p e s m below meth c A ls S hr hlk hname hsz hP hK hD hA hSub hS hE hl
  have hx := S.1
  have hb := S.2.1
  have hown := S.2.2.2.1
  have hts := S.2.2.2.2
  have i_X6 : ∀ w ∈ u_ws RX6 TX6 29, w ∈ wsX6_jump := by decide +kernel
  have f_170 := hts (.fieldLink RX6 170 "MachineCoreModel" "ip" "I") (by decide +kernel)
  have k_39 := hts (.constant RX6 39 (65535)) (by decide +kernel)
  unfold wX6_jump at hw
  obtain ⟨H, eH⟩ : ∃ H, H = s.heap := ⟨_, rfl⟩
  obtain ⟨locs, eL⟩ : ∃ locs : List Loc, locs = [] := ⟨_, rfl⟩
  replace hP : va_P D vwCl (WQ cI h0 h1 h2 h3 h4 h5 u) H := by rw [eH]; exact hP
  replace hS : va_S A s.heap H locs := by rw [eH, eL]; exact hS
  suffices hgo : W p l e ({ frames := 0, cells := 0, slots := 0, locals := 0 } : Room) s m ([.ref h0, .int a1] : List Value).toArray below meth c H locs 0 0 (MQ below (va_Qv P (fun u t => va_P D vwCl (WQ cI h0 h1 h2 h3 h4 h5 u) t.heap) A) ([.ref h0, .int a1] : List Value).toArray s 0 0 A) (F0 m 0 ls []) by rw [eH, eL] at hgo; exact hgo
  clear eH eL
  refine lv_aload_n hx hb dX6_jump_0 rfl (lv_at hl 0 rfl) ?_
  refine lv_aload_n hx hb dX6_jump_1 rfl (lv_at hl 0 rfl) ?_
  refine va_get (D := D) (ci := 6) (v := .int (q_ip u)) (C := RX6) (T := TX6) (N := 29) hx hb hts i_X6 hown hK hP 0 rfl rfl 3 (by decide) f_170 (fun _ h9 => h9) rfl dX6_jump_2 ?_
  refine lv_iload_n hx hb dX6_jump_5 rfl (lv_at hl 1 rfl) ?_
  refine lv_iadd hx hb dX6_jump_6 ?_
  refine lv_ldc (v := (65535 : Int32)) hx hb hown k_39 dX6_jump_7 ?_
  refine lv_iand hx hb dX6_jump_9 ?_
  refine va_put (D := D) (ci := 6) (v := .int (((q_ip u) + a1) &&& (65535 : Int32))) (ty := .int) (C := RX6) (T := TX6) (N := 29) hx hb hts i_X6 tyX6 tyX6_ok nmX6 hown hK hP hD hS 0 rfl rfl 3 (by decide) f_170 (fun _ h9 => h9) rfl (by decide +kernel) rfl rfl (Nat.le_of_ble_eq_true rfl) dX6_jump_10 (fun H locs hP hD hS => ?_)
  replace hP : va_P D vwCl (WQ cI h0 h1 h2 h3 h4 h5 (qs_ip u (((q_ip u) + a1) &&& (65535 : Int32)))) H := hP
  replace hD : va_D A (WQ cI h0 h1 h2 h3 h4 h5 (qs_ip u (((q_ip u) + a1) &&& (65535 : Int32)))) := hD
  exact rt_v (wo := (fun v => WQ cI h0 h1 h2 h3 h4 h5 v)) S hr hlk (qs_ip u (((q_ip u) + a1) &&& (65535 : Int32))) hP hS hw dX6_jump_13
-- X6_callFar
def wX6_callFar (a1 : Int32) (a2 : Int32) (u : SQ) (P : SQ → Prop) : Prop := (vp_in (1 : Int32) 4 ∧ (wX6_push ((q_segments u) (1 : Int32).toNatClampNeg) u (fun u1 => (wX6_push (q_ip u1) u1 (fun u3 => (vp_in (1 : Int32) 4 ∧ (P (qs_ip (qs_segments u3 (upd (q_segments u3) (1 : Int32).toNatClampNeg a2)) a1))))))))
set_option maxHeartbeats 4000000 in
set_option maxRecDepth 100000 in
theorem kcX6_callFar (l : Launch) (D : va_G) (cB cI : ClassId) (h0 h1 h2 h3 h4 h5 : Nat) (sz : Nat) (a1 : Int32) (a2 : Int32) (u : SQ) (P : SQ → Prop) (hw : wX6_callFar a1 a2 u P) : Met l yX6_callFar wsX6_callFar ({ frames := 3, cells := 0, slots := 0, locals := 67 } : Room) (va_Pc [.ref h0, .int a1, .int a2] (Pcw D (tyA cB cI) (WQ cI h0 h1 h2 h3 h4 h5 u) sz Tru)) (va_Qv P (fun u t => va_P D vwCl (WQ cI h0 h1 h2 h3 h4 h5 u) t.heap) (va_A (WQ cI h0 h1 h2 h3 h4 h5 u) sz)) 0 0 (va_A (WQ cI h0 h1 h2 h3 h4 h5 u) sz) := by
  refine en_ (cc := cX6_callFar) (maxL := 3) (ret := none) (own := RX6) (lv := [(0, .ref h0), (1, .int a1), (2, .int a2)]) (Qf := fun A => va_Qv P (fun u t => va_P D vwCl (WQ cI h0 h1 h2 h3 h4 h5 u) t.heap) A) (by decide) rfl rfl (Nat.le_of_ble_eq_true rfl) rfl ?_
  intro p e s m below meth c A ls S hr hlk hname hsz hP hK hD hA hSub hS hE hl
  have hx := S.1
  have hb := S.2.1
  have hown := S.2.2.2.1
  have hts := S.2.2.2.2
  have i_X6 : ∀ w ∈ u_ws RX6 TX6 29, w ∈ wsX6_callFar := by decide +kernel
  have f_13 := hts (.fieldLink RX6 13 "MachineCoreModel" "segments" "[I") (by decide +kernel)
  have f_170 := hts (.fieldLink RX6 170 "MachineCoreModel" "ip" "I") (by decide +kernel)
  unfold wX6_callFar at hw
  obtain ⟨H, eH⟩ : ∃ H, H = s.heap := ⟨_, rfl⟩
  obtain ⟨locs, eL⟩ : ∃ locs : List Loc, locs = [] := ⟨_, rfl⟩
  replace hP : va_P D vwCl (WQ cI h0 h1 h2 h3 h4 h5 u) H := by rw [eH]; exact hP
  replace hS : va_S A s.heap H locs := by rw [eH, eL]; exact hS
  suffices hgo : W p l e ({ frames := 3, cells := 0, slots := 0, locals := 67 } : Room) s m ([.ref h0, .int a1, .int a2] : List Value).toArray below meth c H locs 0 0 (MQ below (va_Qv P (fun u t => va_P D vwCl (WQ cI h0 h1 h2 h3 h4 h5 u) t.heap) A) ([.ref h0, .int a1, .int a2] : List Value).toArray s 0 0 A) (F0 m 0 ls []) by rw [eH, eL] at hgo; exact hgo
  clear eH eL
  refine lv_aload_n hx hb dX6_callFar_0 rfl (lv_at hl 0 rfl) ?_
  refine lv_aload_n hx hb dX6_callFar_1 rfl (lv_at hl 0 rfl) ?_
  refine va_get (D := D) (ci := 6) (v := .ref h2) (C := RX6) (T := TX6) (N := 29) hx hb hts i_X6 hown hK hP 0 rfl rfl 2 (by decide) f_13 (fun _ h9 => h9) rfl dX6_callFar_2 ?_
  refine lv_iconst (v := (1 : Int32)) hx hb dX6_callFar_5 (by decide) ?_
  refine va_iald hx hb hK hP 2 1 (f := (q_segments u)) rfl rfl hw.1 dX6_callFar_6 ?_
  replace hw := hw.2
  refine cl_Vv (As := [.int ((q_segments u) (1 : Int32).toNatClampNeg)]) (rest := []) (st := [.int ((q_segments u) (1 : Int32).toNatClampNeg), .ref h0]) S hK hA hP hD hS (fr_Q u) (kcX6_push l D cB cI h0 h1 h2 h3 h4 h5 H.size ((q_segments u) (1 : Int32).toNatClampNeg) u _ hw) (cwV 1 hts gX6_callFar_X6_push rfl rfl rfl (by decide +kernel) ⟨Nat.le_of_ble_eq_true rfl, Nat.le_of_ble_eq_true rfl⟩) tru_h tru_b 0 rfl rfl rfl rfl rfl hl.1 (Nat.le_of_ble_eq_true rfl) dX6_callFar_7 ⟨Nat.zero_le _, Nat.zero_le _⟩ (fun u1 H locs hP hD hS hw => ?_)
  replace hP : va_P D vwCl (WQ cI h0 h1 h2 h3 h4 h5 u1) H := hP
  replace hD : va_D A (WQ cI h0 h1 h2 h3 h4 h5 u1) := hD
  refine lv_aload_n hx hb dX6_callFar_10 rfl (lv_at hl 0 rfl) ?_
  refine lv_aload_n hx hb dX6_callFar_11 rfl (lv_at hl 0 rfl) ?_
  refine va_get (D := D) (ci := 6) (v := .int (q_ip u1)) (C := RX6) (T := TX6) (N := 29) hx hb hts i_X6 hown hK hP 0 rfl rfl 3 (by decide) f_170 (fun _ h9 => h9) rfl dX6_callFar_12 ?_
  refine cl_Vv (As := [.int (q_ip u1)]) (rest := []) (st := [.int (q_ip u1), .ref h0]) S hK hA hP hD hS (fr_Q u1) (kcX6_push l D cB cI h0 h1 h2 h3 h4 h5 H.size (q_ip u1) u1 _ hw) (cwV 1 hts gX6_callFar_X6_push rfl rfl rfl (by decide +kernel) ⟨Nat.le_of_ble_eq_true rfl, Nat.le_of_ble_eq_true rfl⟩) tru_h tru_b 0 rfl rfl rfl rfl rfl hl.1 (Nat.le_of_ble_eq_true rfl) dX6_callFar_15 ⟨Nat.zero_le _, Nat.zero_le _⟩ (fun u3 H locs hP hD hS hw => ?_)
  replace hP : va_P D vwCl (WQ cI h0 h1 h2 h3 h4 h5 u3) H := hP
  replace hD : va_D A (WQ cI h0 h1 h2 h3 h4 h5 u3) := hD
  refine lv_aload_n hx hb dX6_callFar_18 rfl (lv_at hl 0 rfl) ?_
  refine lv_iload_n hx hb dX6_callFar_19 rfl (lv_at hl 1 rfl) ?_
  refine va_put (D := D) (ci := 6) (v := .int a1) (ty := .int) (C := RX6) (T := TX6) (N := 29) hx hb hts i_X6 tyX6 tyX6_ok nmX6 hown hK hP hD hS 0 rfl rfl 3 (by decide) f_170 (fun _ h9 => h9) rfl (by decide +kernel) rfl rfl (Nat.le_of_ble_eq_true rfl) dX6_callFar_20 (fun H locs hP hD hS => ?_)
  replace hP : va_P D vwCl (WQ cI h0 h1 h2 h3 h4 h5 (qs_ip u3 a1)) H := hP
  replace hD : va_D A (WQ cI h0 h1 h2 h3 h4 h5 (qs_ip u3 a1)) := hD
  refine lv_aload_n hx hb dX6_callFar_23 rfl (lv_at hl 0 rfl) ?_
  refine va_get (D := D) (ci := 6) (v := .ref h2) (C := RX6) (T := TX6) (N := 29) hx hb hts i_X6 hown hK hP 0 rfl rfl 2 (by decide) f_13 (fun _ h9 => h9) rfl dX6_callFar_24 ?_
  refine lv_iconst (v := (1 : Int32)) hx hb dX6_callFar_27 (by decide) ?_
  refine lv_iload_n hx hb dX6_callFar_28 rfl (lv_at hl 2 rfl) ?_
  refine va_iast hx hb hK hP hD hS 2 1 (f := (q_segments u3)) rfl rfl hw.1 dX6_callFar_29 (fun H locs hP hD hS => ?_)
  replace hw := hw.2
  replace hP : va_P D vwCl (WQ cI h0 h1 h2 h3 h4 h5 (qs_ip (qs_segments u3 (upd (q_segments u3) (1 : Int32).toNatClampNeg a2)) a1)) H := hP
  replace hD : va_D A (WQ cI h0 h1 h2 h3 h4 h5 (qs_ip (qs_segments u3 (upd (q_segments u3) (1 : Int32).toNatClampNeg a2)) a1)) := hD
  exact rt_v (wo := (fun v => WQ cI h0 h1 h2 h3 h4 h5 v)) S hr hlk (qs_ip (qs_segments u3 (upd (q_segments u3) (1 : Int32).toNatClampNeg a2)) a1) hP hS hw dX6_callFar_30
-- X6_isString
def wX6_isString_b20  (P : Int32 → SQ → Prop)  (u : SQ) : Prop := (((q_code u) < (170 : Int32) → (P (0 : Int32) u)) ∧ (¬ (q_code u) < (170 : Int32) → (((176 : Int32) ≤ (q_code u) → (P (0 : Int32) u)) ∧ (¬ (176 : Int32) ≤ (q_code u) → (P (1 : Int32) u)))))
def wX6_isString  (u : SQ) (P : Int32 → SQ → Prop) : Prop := (((q_code u) < (164 : Int32) → (wX6_isString_b20  P u)) ∧ (¬ (q_code u) < (164 : Int32) → (((q_code u) < (168 : Int32) → (P (1 : Int32) u)) ∧ (¬ (q_code u) < (168 : Int32) → (wX6_isString_b20  P u)))))
set_option maxHeartbeats 4000000 in
set_option maxRecDepth 100000 in
theorem kcX6_isString (l : Launch) (D : va_G) (cB cI : ClassId) (h0 h1 h2 h3 h4 h5 : Nat) (sz : Nat)  (u : SQ) (P : Int32 → SQ → Prop) (hw : wX6_isString  u P) : Met l yX6_isString wsX6_isString ({ frames := 0, cells := 0, slots := 0, locals := 0 } : Room) (va_Pc [.ref h0] (Pcw D (tyA cB cI) (WQ cI h0 h1 h2 h3 h4 h5 u) sz Tru)) (va_Qi P (fun u t => va_P D vwCl (WQ cI h0 h1 h2 h3 h4 h5 u) t.heap) (va_A (WQ cI h0 h1 h2 h3 h4 h5 u) sz)) 0 0 (va_A (WQ cI h0 h1 h2 h3 h4 h5 u) sz) := by
  refine en_ (cc := cX6_isString) (maxL := 1) (ret := (some .boolean)) (own := RX6) (lv := [(0, .ref h0)]) (Qf := fun A => va_Qi P (fun u t => va_P D vwCl (WQ cI h0 h1 h2 h3 h4 h5 u) t.heap) A) (by decide) rfl rfl (Nat.le_of_ble_eq_true rfl) rfl ?_
  intro p e s m below meth c A ls S hr hlk hname hsz hP hK hD hA hSub hS hE hl
  have hx := S.1
  have hb := S.2.1
  have hown := S.2.2.2.1
  have hts := S.2.2.2.2
  have i_X6 : ∀ w ∈ u_ws RX6 TX6 29, w ∈ wsX6_isString := by decide +kernel
  have f_148 := hts (.fieldLink RX6 148 "MachineCoreModel" "code" "I") (by decide +kernel)
  have b20 : ∀  (u : SQ) (H : Heap) (locs : List Loc) (ls : Array Slot), va_P D vwCl (WQ cI h0 h1 h2 h3 h4 h5 u) H → va_D A (WQ cI h0 h1 h2 h3 h4 h5 u) → va_S A s.heap H locs → lv_has ls 1 [(0, .ref h0)] → wX6_isString_b20  P u → W p l e ({ frames := 0, cells := 0, slots := 0, locals := 0 } : Room) s m ([.ref h0] : List Value).toArray below meth c H locs 0 0 (MQ below (va_Qi P (fun u t => va_P D vwCl (WQ cI h0 h1 h2 h3 h4 h5 u) t.heap) A) ([.ref h0] : List Value).toArray s 0 0 A) (F0 m 20 ls []) := by
    intro u H locs ls hP hD hS hl hw
    unfold wX6_isString_b20 at hw
    refine lv_aload_n hx hb dX6_isString_20 rfl (lv_at hl 0 rfl) ?_
    refine va_get (D := D) (ci := 6) (v := .int (q_code u)) (C := RX6) (T := TX6) (N := 29) hx hb hts i_X6 hown hK hP 0 rfl rfl 21 (by decide) f_148 (fun _ h9 => h9) rfl dX6_isString_21 ?_
    refine lv_sipush (v := (170 : Int32)) hx hb dX6_isString_24 (by decide) ?_
    refine lv_icmp_lt (tgt := 44) hx hb dX6_isString_27 (by decide) (fun c3 => ?_) (fun c3 => ?_)
    · replace hw := hw.1 c3
      refine lv_iconst (v := (0 : Int32)) hx hb dX6_isString_44 (by decide) ?_
      exact rt_z (wo := (fun v => WQ cI h0 h1 h2 h3 h4 h5 v)) S hr hlk u hP hS zB_0 hw dX6_isString_45
    · replace hw := hw.2 c3
      refine lv_aload_n hx hb dX6_isString_30 rfl (lv_at hl 0 rfl) ?_
      refine va_get (D := D) (ci := 6) (v := .int (q_code u)) (C := RX6) (T := TX6) (N := 29) hx hb hts i_X6 hown hK hP 0 rfl rfl 21 (by decide) f_148 (fun _ h9 => h9) rfl dX6_isString_31 ?_
      refine lv_sipush (v := (176 : Int32)) hx hb dX6_isString_34 (by decide) ?_
      refine lv_icmp_ge (tgt := 44) hx hb dX6_isString_37 (by decide) (fun c4 => ?_) (fun c4 => ?_)
      · replace hw := hw.1 c4
        refine lv_iconst (v := (0 : Int32)) hx hb dX6_isString_44 (by decide) ?_
        exact rt_z (wo := (fun v => WQ cI h0 h1 h2 h3 h4 h5 v)) S hr hlk u hP hS zB_0 hw dX6_isString_45
      · replace hw := hw.2 c4
        refine lv_iconst (v := (1 : Int32)) hx hb dX6_isString_40 (by decide) ?_
        refine lv_goto (tgt := 45) hx hb dX6_isString_41 (by decide) ?_
        exact rt_z (wo := (fun v => WQ cI h0 h1 h2 h3 h4 h5 v)) S hr hlk u hP hS zB_1 hw dX6_isString_45
  unfold wX6_isString at hw
  obtain ⟨H, eH⟩ : ∃ H, H = s.heap := ⟨_, rfl⟩
  obtain ⟨locs, eL⟩ : ∃ locs : List Loc, locs = [] := ⟨_, rfl⟩
  replace hP : va_P D vwCl (WQ cI h0 h1 h2 h3 h4 h5 u) H := by rw [eH]; exact hP
  replace hS : va_S A s.heap H locs := by rw [eH, eL]; exact hS
  suffices hgo : W p l e ({ frames := 0, cells := 0, slots := 0, locals := 0 } : Room) s m ([.ref h0] : List Value).toArray below meth c H locs 0 0 (MQ below (va_Qi P (fun u t => va_P D vwCl (WQ cI h0 h1 h2 h3 h4 h5 u) t.heap) A) ([.ref h0] : List Value).toArray s 0 0 A) (F0 m 0 ls []) by rw [eH, eL] at hgo; exact hgo
  clear eH eL
  refine lv_aload_n hx hb dX6_isString_0 rfl (lv_at hl 0 rfl) ?_
  refine va_get (D := D) (ci := 6) (v := .int (q_code u)) (C := RX6) (T := TX6) (N := 29) hx hb hts i_X6 hown hK hP 0 rfl rfl 21 (by decide) f_148 (fun _ h9 => h9) rfl dX6_isString_1 ?_
  refine lv_sipush (v := (164 : Int32)) hx hb dX6_isString_4 (by decide) ?_
  refine lv_icmp_lt (tgt := 20) hx hb dX6_isString_7 (by decide) (fun c1 => ?_) (fun c1 => ?_)
  · replace hw := hw.1 c1
    exact b20 u H locs ls hP hD hS (lv_sub hl [0] rfl) hw
  · replace hw := hw.2 c1
    refine lv_aload_n hx hb dX6_isString_10 rfl (lv_at hl 0 rfl) ?_
    refine va_get (D := D) (ci := 6) (v := .int (q_code u)) (C := RX6) (T := TX6) (N := 29) hx hb hts i_X6 hown hK hP 0 rfl rfl 21 (by decide) f_148 (fun _ h9 => h9) rfl dX6_isString_11 ?_
    refine lv_sipush (v := (168 : Int32)) hx hb dX6_isString_14 (by decide) ?_
    refine lv_icmp_lt (tgt := 40) hx hb dX6_isString_17 (by decide) (fun c2 => ?_) (fun c2 => ?_)
    · replace hw := hw.1 c2
      refine lv_iconst (v := (1 : Int32)) hx hb dX6_isString_40 (by decide) ?_
      refine lv_goto (tgt := 45) hx hb dX6_isString_41 (by decide) ?_
      exact rt_z (wo := (fun v => WQ cI h0 h1 h2 h3 h4 h5 v)) S hr hlk u hP hS zB_1 hw dX6_isString_45
    · replace hw := hw.2 c2
      exact b20 u H locs ls hP hD hS (lv_sub hl [0] rfl) hw
-- X6_compares
def wX6_compares  (u : SQ) (P : Int32 → SQ → Prop) : Prop := (((q_code u) = (166 : Int32) → (P (1 : Int32) u)) ∧ (¬ (q_code u) = (166 : Int32) → (((q_code u) = (167 : Int32) → (P (1 : Int32) u)) ∧ (¬ (q_code u) = (167 : Int32) → (((q_code u) = (174 : Int32) → (P (1 : Int32) u)) ∧ (¬ (q_code u) = (174 : Int32) → (((q_code u) = (175 : Int32) → (P (1 : Int32) u)) ∧ (¬ (q_code u) = (175 : Int32) → (P (0 : Int32) u)))))))))
set_option maxHeartbeats 4000000 in
set_option maxRecDepth 100000 in
theorem kcX6_compares (l : Launch) (D : va_G) (cB cI : ClassId) (h0 h1 h2 h3 h4 h5 : Nat) (sz : Nat)  (u : SQ) (P : Int32 → SQ → Prop) (hw : wX6_compares  u P) : Met l yX6_compares wsX6_compares ({ frames := 0, cells := 0, slots := 0, locals := 0 } : Room) (va_Pc [.ref h0] (Pcw D (tyA cB cI) (WQ cI h0 h1 h2 h3 h4 h5 u) sz Tru)) (va_Qi P (fun u t => va_P D vwCl (WQ cI h0 h1 h2 h3 h4 h5 u) t.heap) (va_A (WQ cI h0 h1 h2 h3 h4 h5 u) sz)) 0 0 (va_A (WQ cI h0 h1 h2 h3 h4 h5 u) sz) := by
  refine en_ (cc := cX6_compares) (maxL := 1) (ret := (some .boolean)) (own := RX6) (lv := [(0, .ref h0)]) (Qf := fun A => va_Qi P (fun u t => va_P D vwCl (WQ cI h0 h1 h2 h3 h4 h5 u) t.heap) A) (by decide) rfl rfl (Nat.le_of_ble_eq_true rfl) rfl ?_
  intro p e s m below meth c A ls S hr hlk hname hsz hP hK hD hA hSub hS hE hl
  have hx := S.1
  have hb := S.2.1
  have hown := S.2.2.2.1
  have hts := S.2.2.2.2
  have i_X6 : ∀ w ∈ u_ws RX6 TX6 29, w ∈ wsX6_compares := by decide +kernel
  have f_148 := hts (.fieldLink RX6 148 "MachineCoreModel" "code" "I") (by decide +kernel)
  unfold wX6_compares at hw
  obtain ⟨H, eH⟩ : ∃ H, H = s.heap := ⟨_, rfl⟩
  obtain ⟨locs, eL⟩ : ∃ locs : List Loc, locs = [] := ⟨_, rfl⟩
  replace hP : va_P D vwCl (WQ cI h0 h1 h2 h3 h4 h5 u) H := by rw [eH]; exact hP
  replace hS : va_S A s.heap H locs := by rw [eH, eL]; exact hS
  suffices hgo : W p l e ({ frames := 0, cells := 0, slots := 0, locals := 0 } : Room) s m ([.ref h0] : List Value).toArray below meth c H locs 0 0 (MQ below (va_Qi P (fun u t => va_P D vwCl (WQ cI h0 h1 h2 h3 h4 h5 u) t.heap) A) ([.ref h0] : List Value).toArray s 0 0 A) (F0 m 0 ls []) by rw [eH, eL] at hgo; exact hgo
  clear eH eL
  refine lv_aload_n hx hb dX6_compares_0 rfl (lv_at hl 0 rfl) ?_
  refine va_get (D := D) (ci := 6) (v := .int (q_code u)) (C := RX6) (T := TX6) (N := 29) hx hb hts i_X6 hown hK hP 0 rfl rfl 21 (by decide) f_148 (fun _ h9 => h9) rfl dX6_compares_1 ?_
  refine lv_sipush (v := (166 : Int32)) hx hb dX6_compares_4 (by decide) ?_
  refine lv_icmp_eq (tgt := 40) hx hb dX6_compares_7 (by decide) (fun c1 => ?_) (fun c1 => ?_)
  · replace hw := hw.1 c1
    refine lv_iconst (v := (1 : Int32)) hx hb dX6_compares_40 (by decide) ?_
    refine lv_goto (tgt := 45) hx hb dX6_compares_41 (by decide) ?_
    exact rt_z (wo := (fun v => WQ cI h0 h1 h2 h3 h4 h5 v)) S hr hlk u hP hS zB_1 hw dX6_compares_45
  · replace hw := hw.2 c1
    refine lv_aload_n hx hb dX6_compares_10 rfl (lv_at hl 0 rfl) ?_
    refine va_get (D := D) (ci := 6) (v := .int (q_code u)) (C := RX6) (T := TX6) (N := 29) hx hb hts i_X6 hown hK hP 0 rfl rfl 21 (by decide) f_148 (fun _ h9 => h9) rfl dX6_compares_11 ?_
    refine lv_sipush (v := (167 : Int32)) hx hb dX6_compares_14 (by decide) ?_
    refine lv_icmp_eq (tgt := 40) hx hb dX6_compares_17 (by decide) (fun c2 => ?_) (fun c2 => ?_)
    · replace hw := hw.1 c2
      refine lv_iconst (v := (1 : Int32)) hx hb dX6_compares_40 (by decide) ?_
      refine lv_goto (tgt := 45) hx hb dX6_compares_41 (by decide) ?_
      exact rt_z (wo := (fun v => WQ cI h0 h1 h2 h3 h4 h5 v)) S hr hlk u hP hS zB_1 hw dX6_compares_45
    · replace hw := hw.2 c2
      refine lv_aload_n hx hb dX6_compares_20 rfl (lv_at hl 0 rfl) ?_
      refine va_get (D := D) (ci := 6) (v := .int (q_code u)) (C := RX6) (T := TX6) (N := 29) hx hb hts i_X6 hown hK hP 0 rfl rfl 21 (by decide) f_148 (fun _ h9 => h9) rfl dX6_compares_21 ?_
      refine lv_sipush (v := (174 : Int32)) hx hb dX6_compares_24 (by decide) ?_
      refine lv_icmp_eq (tgt := 40) hx hb dX6_compares_27 (by decide) (fun c3 => ?_) (fun c3 => ?_)
      · replace hw := hw.1 c3
        refine lv_iconst (v := (1 : Int32)) hx hb dX6_compares_40 (by decide) ?_
        refine lv_goto (tgt := 45) hx hb dX6_compares_41 (by decide) ?_
        exact rt_z (wo := (fun v => WQ cI h0 h1 h2 h3 h4 h5 v)) S hr hlk u hP hS zB_1 hw dX6_compares_45
      · replace hw := hw.2 c3
        refine lv_aload_n hx hb dX6_compares_30 rfl (lv_at hl 0 rfl) ?_
        refine va_get (D := D) (ci := 6) (v := .int (q_code u)) (C := RX6) (T := TX6) (N := 29) hx hb hts i_X6 hown hK hP 0 rfl rfl 21 (by decide) f_148 (fun _ h9 => h9) rfl dX6_compares_31 ?_
        refine lv_sipush (v := (175 : Int32)) hx hb dX6_compares_34 (by decide) ?_
        refine lv_icmp_ne (tgt := 44) hx hb dX6_compares_37 (by decide) (fun c4 => ?_) (fun c4 => ?_)
        · replace hw := hw.2 c4
          refine lv_iconst (v := (0 : Int32)) hx hb dX6_compares_44 (by decide) ?_
          exact rt_z (wo := (fun v => WQ cI h0 h1 h2 h3 h4 h5 v)) S hr hlk u hP hS zB_0 hw dX6_compares_45
        · replace hw := hw.1 c4
          refine lv_iconst (v := (1 : Int32)) hx hb dX6_compares_40 (by decide) ?_
          refine lv_goto (tgt := 45) hx hb dX6_compares_41 (by decide) ?_
          exact rt_z (wo := (fun v => WQ cI h0 h1 h2 h3 h4 h5 v)) S hr hlk u hP hS zB_1 hw dX6_compares_45
-- X6_string
def wX6_string_b236  (P : SQ → Prop) (x2 : Int32) (x5 : Int32) (s2 : Int32) (u : SQ) : Prop := (vp_in (6 : Int32) 8 ∧ ((x5 = (0 : Int32) → (vp_in (7 : Int32) 8 ∧ (vp_in (7 : Int32) 8 ∧ (P (qs_registers u (upd (upd (q_registers u) (6 : Int32).toNatClampNeg s2) (7 : Int32).toNatClampNeg ((upd (q_registers u) (6 : Int32).toNatClampNeg s2) (7 : Int32).toNatClampNeg))))))) ∧ (¬ x5 = (0 : Int32) → (vp_in (7 : Int32) 8 ∧ (vp_in (7 : Int32) 8 ∧ (P (qs_registers u (upd (upd (q_registers u) (6 : Int32).toNatClampNeg s2) (7 : Int32).toNatClampNeg ((((upd (q_registers u) (6 : Int32).toNatClampNeg s2) (7 : Int32).toNatClampNeg) + x2) &&& (65535 : Int32))))))))))
def wX6_string_b203  (P : SQ → Prop) (x2 : Int32) (x4 : Int32) (x5 : Int32) (u : SQ) : Prop := ((x4 = (0 : Int32) → (vp_in (6 : Int32) 8 ∧ (wX6_string_b236  P x2 x5 ((q_registers u) (6 : Int32).toNatClampNeg) u))) ∧ (¬ x4 = (0 : Int32) → (vp_in (6 : Int32) 8 ∧ (wX6_string_b236  P x2 x5 ((((q_registers u) (6 : Int32).toNatClampNeg) + x2) &&& (65535 : Int32)) u))))
def wX6_string_b129  (P : SQ → Prop) (x1 : Int32) (x2 : Int32) (x4 : Int32) (x5 : Int32) (x6 : Int32) (u : SQ) : Prop := (vp_in (0 : Int32) 4 ∧ (vp_in (7 : Int32) 8 ∧ (wX6_put ((q_segments u) (0 : Int32).toNatClampNeg) ((q_registers u) (7 : Int32).toNatClampNeg) x1 x6 u (fun u27 => (wX6_string_b203  P x2 x4 x5 u27)))))
def wX6_string_b113  (P : SQ → Prop) (x1 : Int32) (x2 : Int32) (x3 : Int32) (x4 : Int32) (x5 : Int32) (s0 : Int32) (u : SQ) : Prop := ((x3 = (164 : Int32) → (wX6_string_b129  P x1 x2 x4 x5 s0 u)) ∧ (¬ x3 = (164 : Int32) → ((x3 = (170 : Int32) → (wX6_string_b129  P x1 x2 x4 x5 s0 u)) ∧ (¬ x3 = (170 : Int32) → ((x3 = (172 : Int32) → (wX6_setRegister (0 : Int32) x1 s0 u (fun u25 => (wX6_string_b203  P x2 x4 x5 u25)))) ∧ (¬ x3 = (172 : Int32) → (vp_in (0 : Int32) 4 ∧ (vp_in (7 : Int32) 8 ∧ (wX6_get ((q_segments u) (0 : Int32).toNatClampNeg) ((q_registers u) (7 : Int32).toNatClampNeg) x1 u (fun r22 u21 => (wX6_operation (7 : Int32) s0 r22 x1 u21 (fun r24 u23 => (wX6_string_b203  P x2 x4 x5 u23)))))))))))))
def wX6_string_b80  (P : SQ → Prop) (x1 : Int32) (x2 : Int32) (x3 : Int32) (x4 : Int32) (s0 : Int32) (u : SQ) : Prop := ((x4 = (0 : Int32) → (wX6_register (0 : Int32) x1 u (fun r13 u12 => (wX6_string_b113  P x1 x2 x3 x4 s0 r13 u12)))) ∧ (¬ x4 = (0 : Int32) → (wX6_segmentOr (3 : Int32) u (fun r15 u14 => (vp_in (6 : Int32) 8 ∧ (wX6_get r15 ((q_registers u14) (6 : Int32).toNatClampNeg) x1 u14 (fun r17 u16 => (wX6_string_b113  P x1 x2 x3 x4 s0 r17 u16))))))))
def wX6_string_b66  (P : SQ → Prop) (x1 : Int32) (x2 : Int32) (x3 : Int32) (s0 : Int32) (u : SQ) : Prop := ((x3 = (172 : Int32) → (wX6_string_b80  P x1 x2 x3 s0 (0 : Int32) u)) ∧ (¬ x3 = (172 : Int32) → (wX6_string_b80  P x1 x2 x3 s0 (1 : Int32) u)))
def wX6_string_b61  (P : SQ → Prop) (x1 : Int32) (x2 : Int32) (x3 : Int32) (u : SQ) : Prop := (wX6_string_b66  P x1 x2 x3 (1 : Int32) u)
def wX6_string_b29  (P : SQ → Prop) (x1 : Int32) (s0 : Int32) (s1 : Int32) (u : SQ) : Prop := ((((q_code u) &&& (254 : Int32)) = (164 : Int32) → (wX6_string_b61  P x1 (s0 * s1) ((q_code u) &&& (254 : Int32)) u)) ∧ (¬ ((q_code u) &&& (254 : Int32)) = (164 : Int32) → ((((q_code u) &&& (254 : Int32)) = (166 : Int32) → (wX6_string_b61  P x1 (s0 * s1) ((q_code u) &&& (254 : Int32)) u)) ∧ (¬ ((q_code u) &&& (254 : Int32)) = (166 : Int32) → ((((q_code u) &&& (254 : Int32)) = (172 : Int32) → (wX6_string_b61  P x1 (s0 * s1) ((q_code u) &&& (254 : Int32)) u)) ∧ (¬ ((q_code u) &&& (254 : Int32)) = (172 : Int32) → (wX6_string_b66  P x1 (s0 * s1) ((q_code u) &&& (254 : Int32)) (0 : Int32) u)))))))
def wX6_string_b14  (P : SQ → Prop) (x1 : Int32) (s0 : Int32) (u : SQ) : Prop := (wX6_has (1024 : Int32) u (fun r5 u4 => ((r5 = (0 : Int32) → (wX6_string_b29  P x1 s0 (1 : Int32) u4)) ∧ (¬ r5 = (0 : Int32) → (wX6_string_b29  P x1 s0 (-1 : Int32) u4)))))
def wX6_string  (u : SQ) (P : SQ → Prop) : Prop := (wX6_isWide  u (fun r2 u1 => ((r2 = (0 : Int32) → (wX6_string_b14  P r2 (1 : Int32) u1)) ∧ (¬ r2 = (0 : Int32) → (wX6_string_b14  P r2 (2 : Int32) u1)))))
set_option maxHeartbeats 4000000 in
set_option maxRecDepth 100000 in
theorem kcX6_string (l : Launch) (D : va_G) (cB cI : ClassId) (h0 h1 h2 h3 h4 h5 : Nat) (sz : Nat)  (u : SQ) (P : SQ → Prop) (hw : wX6_string  u P) : Met l yX6_string wsX6_string ({ frames := 4, cells := 0, slots := 0, locals := 98 } : Room) (va_Pc [.ref h0] (Pcw D (tyA cB cI) (WQ cI h0 h1 h2 h3 h4 h5 u) sz Tru)) (va_Qv P (fun u t => va_P D vwCl (WQ cI h0 h1 h2 h3 h4 h5 u) t.heap) (va_A (WQ cI h0 h1 h2 h3 h4 h5 u) sz)) 0 0 (va_A (WQ cI h0 h1 h2 h3 h4 h5 u) sz) := by
  refine en_ (cc := cX6_string) (maxL := 9) (ret := none) (own := RX6) (lv := [(0, .ref h0)]) (Qf := fun A => va_Qv P (fun u t => va_P D vwCl (WQ cI h0 h1 h2 h3 h4 h5 u) t.heap) A) (by decide) rfl rfl (Nat.le_of_ble_eq_true rfl) rfl ?_
  intro p e s m below meth c A ls S hr hlk hname hsz hP hK hD hA hSub hS hE hl
  have hx := S.1
  have hb := S.2.1
  have hown := S.2.2.2.1
  have hts := S.2.2.2.2
  have i_X6 : ∀ w ∈ u_ws RX6 TX6 29, w ∈ wsX6_string := by decide +kernel
  have f_7 := hts (.fieldLink RX6 7 "MachineCoreModel" "registers" "[I") (by decide +kernel)
  have f_13 := hts (.fieldLink RX6 13 "MachineCoreModel" "segments" "[I") (by decide +kernel)
  have f_148 := hts (.fieldLink RX6 148 "MachineCoreModel" "code" "I") (by decide +kernel)
  have k_39 := hts (.constant RX6 39 (65535)) (by decide +kernel)
  have b236 : ∀ (x2 : Int32) (x5 : Int32) (s2 : Int32) (u : SQ) (H : Heap) (locs : List Loc) (ls : Array Slot), va_P D vwCl (WQ cI h0 h1 h2 h3 h4 h5 u) H → va_D A (WQ cI h0 h1 h2 h3 h4 h5 u) → va_S A s.heap H locs → lv_has ls 9 [(0, .ref h0), (2, .int x2), (5, .int x5)] → wX6_string_b236  P x2 x5 s2 u → W p l e ({ frames := 4, cells := 0, slots := 0, locals := 98 } : Room) s m ([.ref h0] : List Value).toArray below meth c H locs 0 0 (MQ below (va_Qv P (fun u t => va_P D vwCl (WQ cI h0 h1 h2 h3 h4 h5 u) t.heap) A) ([.ref h0] : List Value).toArray s 0 0 A) (F0 m 236 ls [.int s2, .int (6 : Int32), .ref h1]) := by
    intro x2 x5 s2 u H locs ls hP hD hS hl hw
    unfold wX6_string_b236 at hw
    refine va_iast hx hb hK hP hD hS 1 1 (f := (q_registers u)) rfl rfl hw.1 dX6_string_236 (fun H locs hP hD hS => ?_)
    replace hw := hw.2
    replace hP : va_P D vwCl (WQ cI h0 h1 h2 h3 h4 h5 (qs_registers u (upd (q_registers u) (6 : Int32).toNatClampNeg s2))) H := hP
    replace hD : va_D A (WQ cI h0 h1 h2 h3 h4 h5 (qs_registers u (upd (q_registers u) (6 : Int32).toNatClampNeg s2))) := hD
    refine lv_aload_n hx hb dX6_string_237 rfl (lv_at hl 0 rfl) ?_
    refine va_get (D := D) (ci := 6) (v := .ref h1) (C := RX6) (T := TX6) (N := 29) hx hb hts i_X6 hown hK hP 0 rfl rfl 1 (by decide) f_7 (fun _ h9 => h9) rfl dX6_string_238 ?_
    refine lv_bipush (v := (7 : Int32)) hx hb dX6_string_241 (by decide) ?_
    refine lv_iload hx hb dX6_string_243 (lv_at hl 2 rfl) ?_
    refine lv_if_eq (tgt := 263) hx hb dX6_string_245 (by decide) (fun c30 => ?_) (fun c30 => ?_)
    · replace hw := hw.1 c30
      refine lv_aload_n hx hb dX6_string_263 rfl (lv_at hl 0 rfl) ?_
      refine va_get (D := D) (ci := 6) (v := .ref h1) (C := RX6) (T := TX6) (N := 29) hx hb hts i_X6 hown hK hP 0 rfl rfl 1 (by decide) f_7 (fun _ h9 => h9) rfl dX6_string_264 ?_
      refine lv_bipush (v := (7 : Int32)) hx hb dX6_string_267 (by decide) ?_
      refine va_iald hx hb hK hP 1 1 (f := (upd (q_registers u) (6 : Int32).toNatClampNeg s2)) rfl rfl hw.1 dX6_string_269 ?_
      replace hw := hw.2
      refine va_iast hx hb hK hP hD hS 1 1 (f := (upd (q_registers u) (6 : Int32).toNatClampNeg s2)) rfl rfl hw.1 dX6_string_270 (fun H locs hP hD hS => ?_)
      replace hw := hw.2
      replace hP : va_P D vwCl (WQ cI h0 h1 h2 h3 h4 h5 (qs_registers u (upd (upd (q_registers u) (6 : Int32).toNatClampNeg s2) (7 : Int32).toNatClampNeg ((upd (q_registers u) (6 : Int32).toNatClampNeg s2) (7 : Int32).toNatClampNeg)))) H := hP
      replace hD : va_D A (WQ cI h0 h1 h2 h3 h4 h5 (qs_registers u (upd (upd (q_registers u) (6 : Int32).toNatClampNeg s2) (7 : Int32).toNatClampNeg ((upd (q_registers u) (6 : Int32).toNatClampNeg s2) (7 : Int32).toNatClampNeg)))) := hD
      exact rt_v (wo := (fun v => WQ cI h0 h1 h2 h3 h4 h5 v)) S hr hlk (qs_registers u (upd (upd (q_registers u) (6 : Int32).toNatClampNeg s2) (7 : Int32).toNatClampNeg ((upd (q_registers u) (6 : Int32).toNatClampNeg s2) (7 : Int32).toNatClampNeg))) hP hS hw dX6_string_271
    · replace hw := hw.2 c30
      refine lv_aload_n hx hb dX6_string_248 rfl (lv_at hl 0 rfl) ?_
      refine va_get (D := D) (ci := 6) (v := .ref h1) (C := RX6) (T := TX6) (N := 29) hx hb hts i_X6 hown hK hP 0 rfl rfl 1 (by decide) f_7 (fun _ h9 => h9) rfl dX6_string_249 ?_
      refine lv_bipush (v := (7 : Int32)) hx hb dX6_string_252 (by decide) ?_
      refine va_iald hx hb hK hP 1 1 (f := (upd (q_registers u) (6 : Int32).toNatClampNeg s2)) rfl rfl hw.1 dX6_string_254 ?_
      replace hw := hw.2
      refine lv_iload_n hx hb dX6_string_255 rfl (lv_at hl 1 rfl) ?_
      refine lv_iadd hx hb dX6_string_256 ?_
      refine lv_ldc (v := (65535 : Int32)) hx hb hown k_39 dX6_string_257 ?_
      refine lv_iand hx hb dX6_string_259 ?_
      refine lv_goto (tgt := 270) hx hb dX6_string_260 (by decide) ?_
      refine va_iast hx hb hK hP hD hS 1 1 (f := (upd (q_registers u) (6 : Int32).toNatClampNeg s2)) rfl rfl hw.1 dX6_string_270 (fun H locs hP hD hS => ?_)
      replace hw := hw.2
      replace hP : va_P D vwCl (WQ cI h0 h1 h2 h3 h4 h5 (qs_registers u (upd (upd (q_registers u) (6 : Int32).toNatClampNeg s2) (7 : Int32).toNatClampNeg ((((upd (q_registers u) (6 : Int32).toNatClampNeg s2) (7 : Int32).toNatClampNeg) + x2) &&& (65535 : Int32))))) H := hP
      replace hD : va_D A (WQ cI h0 h1 h2 h3 h4 h5 (qs_registers u (upd (upd (q_registers u) (6 : Int32).toNatClampNeg s2) (7 : Int32).toNatClampNeg ((((upd (q_registers u) (6 : Int32).toNatClampNeg s2) (7 : Int32).toNatClampNeg) + x2) &&& (65535 : Int32))))) := hD
      exact rt_v (wo := (fun v => WQ cI h0 h1 h2 h3 h4 h5 v)) S hr hlk (qs_registers u (upd (upd (q_registers u) (6 : Int32).toNatClampNeg s2) (7 : Int32).toNatClampNeg ((((upd (q_registers u) (6 : Int32).toNatClampNeg s2) (7 : Int32).toNatClampNeg) + x2) &&& (65535 : Int32)))) hP hS hw dX6_string_271
  have b203 : ∀ (x2 : Int32) (x4 : Int32) (x5 : Int32) (u : SQ) (H : Heap) (locs : List Loc) (ls : Array Slot), va_P D vwCl (WQ cI h0 h1 h2 h3 h4 h5 u) H → va_D A (WQ cI h0 h1 h2 h3 h4 h5 u) → va_S A s.heap H locs → lv_has ls 9 [(0, .ref h0), (2, .int x2), (4, .int x4), (5, .int x5)] → wX6_string_b203  P x2 x4 x5 u → W p l e ({ frames := 4, cells := 0, slots := 0, locals := 98 } : Room) s m ([.ref h0] : List Value).toArray below meth c H locs 0 0 (MQ below (va_Qv P (fun u t => va_P D vwCl (WQ cI h0 h1 h2 h3 h4 h5 u) t.heap) A) ([.ref h0] : List Value).toArray s 0 0 A) (F0 m 203 ls []) := by
    intro x2 x4 x5 u H locs ls hP hD hS hl hw
    unfold wX6_string_b203 at hw
    refine lv_aload_n hx hb dX6_string_203 rfl (lv_at hl 0 rfl) ?_
    refine va_get (D := D) (ci := 6) (v := .ref h1) (C := RX6) (T := TX6) (N := 29) hx hb hts i_X6 hown hK hP 0 rfl rfl 1 (by decide) f_7 (fun _ h9 => h9) rfl dX6_string_204 ?_
    refine lv_bipush (v := (6 : Int32)) hx hb dX6_string_207 (by decide) ?_
    refine lv_iload hx hb dX6_string_209 (lv_at hl 2 rfl) ?_
    refine lv_if_eq (tgt := 229) hx hb dX6_string_211 (by decide) (fun c29 => ?_) (fun c29 => ?_)
    · replace hw := hw.1 c29
      refine lv_aload_n hx hb dX6_string_229 rfl (lv_at hl 0 rfl) ?_
      refine va_get (D := D) (ci := 6) (v := .ref h1) (C := RX6) (T := TX6) (N := 29) hx hb hts i_X6 hown hK hP 0 rfl rfl 1 (by decide) f_7 (fun _ h9 => h9) rfl dX6_string_230 ?_
      refine lv_bipush (v := (6 : Int32)) hx hb dX6_string_233 (by decide) ?_
      refine va_iald hx hb hK hP 1 1 (f := (q_registers u)) rfl rfl hw.1 dX6_string_235 ?_
      replace hw := hw.2
      exact b236 x2 x5 ((q_registers u) (6 : Int32).toNatClampNeg) u H locs ls hP hD hS (lv_sub hl [0, 1, 3] rfl) hw
    · replace hw := hw.2 c29
      refine lv_aload_n hx hb dX6_string_214 rfl (lv_at hl 0 rfl) ?_
      refine va_get (D := D) (ci := 6) (v := .ref h1) (C := RX6) (T := TX6) (N := 29) hx hb hts i_X6 hown hK hP 0 rfl rfl 1 (by decide) f_7 (fun _ h9 => h9) rfl dX6_string_215 ?_
      refine lv_bipush (v := (6 : Int32)) hx hb dX6_string_218 (by decide) ?_
      refine va_iald hx hb hK hP 1 1 (f := (q_registers u)) rfl rfl hw.1 dX6_string_220 ?_
      replace hw := hw.2
      refine lv_iload_n hx hb dX6_string_221 rfl (lv_at hl 1 rfl) ?_
      refine lv_iadd hx hb dX6_string_222 ?_
      refine lv_ldc (v := (65535 : Int32)) hx hb hown k_39 dX6_string_223 ?_
      refine lv_iand hx hb dX6_string_225 ?_
      refine lv_goto (tgt := 236) hx hb dX6_string_226 (by decide) ?_
      exact b236 x2 x5 ((((q_registers u) (6 : Int32).toNatClampNeg) + x2) &&& (65535 : Int32)) u H locs ls hP hD hS (lv_sub hl [0, 1, 3] rfl) hw
  have b129 : ∀ (x1 : Int32) (x2 : Int32) (x4 : Int32) (x5 : Int32) (x6 : Int32) (u : SQ) (H : Heap) (locs : List Loc) (ls : Array Slot), va_P D vwCl (WQ cI h0 h1 h2 h3 h4 h5 u) H → va_D A (WQ cI h0 h1 h2 h3 h4 h5 u) → va_S A s.heap H locs → lv_has ls 9 [(0, .ref h0), (1, .int x1), (2, .int x2), (4, .int x4), (5, .int x5), (6, .int x6)] → wX6_string_b129  P x1 x2 x4 x5 x6 u → W p l e ({ frames := 4, cells := 0, slots := 0, locals := 98 } : Room) s m ([.ref h0] : List Value).toArray below meth c H locs 0 0 (MQ below (va_Qv P (fun u t => va_P D vwCl (WQ cI h0 h1 h2 h3 h4 h5 u) t.heap) A) ([.ref h0] : List Value).toArray s 0 0 A) (F0 m 129 ls []) := by
    intro x1 x2 x4 x5 x6 u H locs ls hP hD hS hl hw
    unfold wX6_string_b129 at hw
    refine lv_aload_n hx hb dX6_string_129 rfl (lv_at hl 0 rfl) ?_
    refine lv_aload_n hx hb dX6_string_130 rfl (lv_at hl 0 rfl) ?_
    refine va_get (D := D) (ci := 6) (v := .ref h2) (C := RX6) (T := TX6) (N := 29) hx hb hts i_X6 hown hK hP 0 rfl rfl 2 (by decide) f_13 (fun _ h9 => h9) rfl dX6_string_131 ?_
    refine lv_iconst (v := (0 : Int32)) hx hb dX6_string_134 (by decide) ?_
    refine va_iald hx hb hK hP 2 1 (f := (q_segments u)) rfl rfl hw.1 dX6_string_135 ?_
    replace hw := hw.2
    refine lv_aload_n hx hb dX6_string_136 rfl (lv_at hl 0 rfl) ?_
    refine va_get (D := D) (ci := 6) (v := .ref h1) (C := RX6) (T := TX6) (N := 29) hx hb hts i_X6 hown hK hP 0 rfl rfl 1 (by decide) f_7 (fun _ h9 => h9) rfl dX6_string_137 ?_
    refine lv_bipush (v := (7 : Int32)) hx hb dX6_string_140 (by decide) ?_
    refine va_iald hx hb hK hP 1 1 (f := (q_registers u)) rfl rfl hw.1 dX6_string_142 ?_
    replace hw := hw.2
    refine lv_iload_n hx hb dX6_string_143 rfl (lv_at hl 1 rfl) ?_
    refine lv_iload hx hb dX6_string_144 (lv_at hl 5 rfl) ?_
    refine cl_Vv (As := [.int ((q_segments u) (0 : Int32).toNatClampNeg), .int ((q_registers u) (7 : Int32).toNatClampNeg), .int x1, .int x6]) (rest := []) (st := [.int x6, .int x1, .int ((q_registers u) (7 : Int32).toNatClampNeg), .int ((q_segments u) (0 : Int32).toNatClampNeg), .ref h0]) S hK hA hP hD hS (fr_Q u) (kcX6_put l D cB cI h0 h1 h2 h3 h4 h5 H.size ((q_segments u) (0 : Int32).toNatClampNeg) ((q_registers u) (7 : Int32).toNatClampNeg) x1 x6 u _ hw) (cwV 4 hts gX6_string_X6_put rfl rfl rfl (by decide +kernel) ⟨Nat.le_of_ble_eq_true rfl, Nat.le_of_ble_eq_true rfl⟩) tru_h tru_b 0 rfl rfl rfl rfl rfl hl.1 (Nat.le_of_ble_eq_true rfl) dX6_string_146 ⟨Nat.zero_le _, Nat.zero_le _⟩ (fun u27 H locs hP hD hS hw => ?_)
    replace hP : va_P D vwCl (WQ cI h0 h1 h2 h3 h4 h5 u27) H := hP
    replace hD : va_D A (WQ cI h0 h1 h2 h3 h4 h5 u27) := hD
    refine lv_goto (tgt := 203) hx hb dX6_string_149 (by decide) ?_
    exact b203 x2 x4 x5 u27 H locs ls hP hD hS (lv_sub hl [0, 2, 3, 4] rfl) hw
  have b113 : ∀ (x1 : Int32) (x2 : Int32) (x3 : Int32) (x4 : Int32) (x5 : Int32) (s0 : Int32) (u : SQ) (H : Heap) (locs : List Loc) (ls : Array Slot), va_P D vwCl (WQ cI h0 h1 h2 h3 h4 h5 u) H → va_D A (WQ cI h0 h1 h2 h3 h4 h5 u) → va_S A s.heap H locs → lv_has ls 9 [(0, .ref h0), (1, .int x1), (2, .int x2), (3, .int x3), (4, .int x4), (5, .int x5)] → wX6_string_b113  P x1 x2 x3 x4 x5 s0 u → W p l e ({ frames := 4, cells := 0, slots := 0, locals := 98 } : Room) s m ([.ref h0] : List Value).toArray below meth c H locs 0 0 (MQ below (va_Qv P (fun u t => va_P D vwCl (WQ cI h0 h1 h2 h3 h4 h5 u) t.heap) A) ([.ref h0] : List Value).toArray s 0 0 A) (F0 m 113 ls [.int s0]) := by
    intro x1 x2 x3 x4 x5 s0 u H locs ls hP hD hS hl hw
    unfold wX6_string_b113 at hw
    refine lv_istore (lv' := [(6, .int s0), (0, .ref h0), (1, .int x1), (2, .int x2), (3, .int x3), (4, .int x4), (5, .int x5)]) hx hb dX6_string_113 hl (by decide) rfl (fun ls hl => ?_)
    refine lv_iload_n hx hb dX6_string_115 rfl (lv_at hl 4 rfl) ?_
    refine lv_sipush (v := (164 : Int32)) hx hb dX6_string_116 (by decide) ?_
    refine lv_icmp_eq (tgt := 129) hx hb dX6_string_119 (by decide) (fun c18 => ?_) (fun c18 => ?_)
    · replace hw := hw.1 c18
      exact b129 x1 x2 x4 x5 s0 u H locs ls hP hD hS (lv_sub hl [1, 2, 3, 5, 6, 0] rfl) hw
    · replace hw := hw.2 c18
      refine lv_iload_n hx hb dX6_string_122 rfl (lv_at hl 4 rfl) ?_
      refine lv_sipush (v := (170 : Int32)) hx hb dX6_string_123 (by decide) ?_
      refine lv_icmp_ne (tgt := 152) hx hb dX6_string_126 (by decide) (fun c19 => ?_) (fun c19 => ?_)
      · replace hw := hw.2 c19
        refine lv_iload_n hx hb dX6_string_152 rfl (lv_at hl 4 rfl) ?_
        refine lv_sipush (v := (172 : Int32)) hx hb dX6_string_153 (by decide) ?_
        refine lv_icmp_ne (tgt := 170) hx hb dX6_string_156 (by decide) (fun c20 => ?_) (fun c20 => ?_)
        · replace hw := hw.2 c20
          refine lv_aload_n hx hb dX6_string_170 rfl (lv_at hl 1 rfl) ?_
          refine lv_aload_n hx hb dX6_string_171 rfl (lv_at hl 1 rfl) ?_
          refine va_get (D := D) (ci := 6) (v := .ref h2) (C := RX6) (T := TX6) (N := 29) hx hb hts i_X6 hown hK hP 0 rfl rfl 2 (by decide) f_13 (fun _ h9 => h9) rfl dX6_string_172 ?_
          refine lv_iconst (v := (0 : Int32)) hx hb dX6_string_175 (by decide) ?_
          refine va_iald hx hb hK hP 2 1 (f := (q_segments u)) rfl rfl hw.1 dX6_string_176 ?_
          replace hw := hw.2
          refine lv_aload_n hx hb dX6_string_177 rfl (lv_at hl 1 rfl) ?_
          refine va_get (D := D) (ci := 6) (v := .ref h1) (C := RX6) (T := TX6) (N := 29) hx hb hts i_X6 hown hK hP 0 rfl rfl 1 (by decide) f_7 (fun _ h9 => h9) rfl dX6_string_178 ?_
          refine lv_bipush (v := (7 : Int32)) hx hb dX6_string_181 (by decide) ?_
          refine va_iald hx hb hK hP 1 1 (f := (q_registers u)) rfl rfl hw.1 dX6_string_183 ?_
          replace hw := hw.2
          refine lv_iload_n hx hb dX6_string_184 rfl (lv_at hl 2 rfl) ?_
          refine cl_Vi (As := [.int ((q_segments u) (0 : Int32).toNatClampNeg), .int ((q_registers u) (7 : Int32).toNatClampNeg), .int x1]) (rest := []) (st := [.int x1, .int ((q_registers u) (7 : Int32).toNatClampNeg), .int ((q_segments u) (0 : Int32).toNatClampNeg), .ref h0]) S hK hA hP hD hS (fr_Q u) (kcX6_get l D cB cI h0 h1 h2 h3 h4 h5 H.size ((q_segments u) (0 : Int32).toNatClampNeg) ((q_registers u) (7 : Int32).toNatClampNeg) x1 u _ hw) (cwV 3 hts gX6_string_X6_get rfl rfl rfl (by decide +kernel) ⟨Nat.le_of_ble_eq_true rfl, Nat.le_of_ble_eq_true rfl⟩) tru_h tru_b 0 rfl rfl rfl rfl rfl hl.1 (Nat.le_of_ble_eq_true rfl) dX6_string_185 ⟨Nat.zero_le _, Nat.zero_le _⟩ (fun r22 u21 H locs hP hD hS hw => ?_)
          replace hP : va_P D vwCl (WQ cI h0 h1 h2 h3 h4 h5 u21) H := hP
          replace hD : va_D A (WQ cI h0 h1 h2 h3 h4 h5 u21) := hD
          refine lv_istore (lv' := [(7, .int r22), (6, .int s0), (0, .ref h0), (1, .int x1), (2, .int x2), (3, .int x3), (4, .int x4), (5, .int x5)]) hx hb dX6_string_188 hl (by decide) rfl (fun ls hl => ?_)
          refine lv_aload_n hx hb dX6_string_190 rfl (lv_at hl 2 rfl) ?_
          refine lv_bipush (v := (7 : Int32)) hx hb dX6_string_191 (by decide) ?_
          refine lv_iload hx hb dX6_string_193 (lv_at hl 1 rfl) ?_
          refine lv_iload hx hb dX6_string_195 (lv_at hl 0 rfl) ?_
          refine lv_iload_n hx hb dX6_string_197 rfl (lv_at hl 3 rfl) ?_
          refine cl_Vi (As := [.int (7 : Int32), .int s0, .int r22, .int x1]) (rest := []) (st := [.int x1, .int r22, .int s0, .int (7 : Int32), .ref h0]) S hK hA hP hD hS (fr_Q u21) (kcX6_operation l D cB cI h0 h1 h2 h3 h4 h5 H.size (7 : Int32) s0 r22 x1 u21 _ hw) (cwV 4 hts gX6_string_X6_operation rfl rfl rfl (by decide +kernel) ⟨Nat.le_of_ble_eq_true rfl, Nat.le_of_ble_eq_true rfl⟩) tru_h tru_b 0 rfl rfl rfl rfl rfl hl.1 (Nat.le_of_ble_eq_true rfl) dX6_string_198 ⟨Nat.zero_le _, Nat.zero_le _⟩ (fun r24 u23 H locs hP hD hS hw => ?_)
          replace hP : va_P D vwCl (WQ cI h0 h1 h2 h3 h4 h5 u23) H := hP
          replace hD : va_D A (WQ cI h0 h1 h2 h3 h4 h5 u23) := hD
          refine lv_istore (lv' := [(8, .int r24), (7, .int r22), (6, .int s0), (0, .ref h0), (1, .int x1), (2, .int x2), (3, .int x3), (4, .int x4), (5, .int x5)]) hx hb dX6_string_201 hl (by decide) rfl (fun ls hl => ?_)
          exact b203 x2 x4 x5 u23 H locs ls hP hD hS (lv_sub hl [3, 5, 7, 8] rfl) hw
        · replace hw := hw.1 c20
          refine lv_aload_n hx hb dX6_string_159 rfl (lv_at hl 1 rfl) ?_
          refine lv_iconst (v := (0 : Int32)) hx hb dX6_string_160 (by decide) ?_
          refine lv_iload_n hx hb dX6_string_161 rfl (lv_at hl 2 rfl) ?_
          refine lv_iload hx hb dX6_string_162 (lv_at hl 0 rfl) ?_
          refine cl_Vv (As := [.int (0 : Int32), .int x1, .int s0]) (rest := []) (st := [.int s0, .int x1, .int (0 : Int32), .ref h0]) S hK hA hP hD hS (fr_Q u) (kcX6_setRegister l D cB cI h0 h1 h2 h3 h4 h5 H.size (0 : Int32) x1 s0 u _ hw) (cwV 3 hts gX6_string_X6_setRegister rfl rfl rfl (by decide +kernel) ⟨Nat.le_of_ble_eq_true rfl, Nat.le_of_ble_eq_true rfl⟩) tru_h tru_b 0 rfl rfl rfl rfl rfl hl.1 (Nat.le_of_ble_eq_true rfl) dX6_string_164 ⟨Nat.zero_le _, Nat.zero_le _⟩ (fun u25 H locs hP hD hS hw => ?_)
          replace hP : va_P D vwCl (WQ cI h0 h1 h2 h3 h4 h5 u25) H := hP
          replace hD : va_D A (WQ cI h0 h1 h2 h3 h4 h5 u25) := hD
          refine lv_goto (tgt := 203) hx hb dX6_string_167 (by decide) ?_
          exact b203 x2 x4 x5 u25 H locs ls hP hD hS (lv_sub hl [1, 3, 5, 6] rfl) hw
      · replace hw := hw.1 c19
        exact b129 x1 x2 x4 x5 s0 u H locs ls hP hD hS (lv_sub hl [1, 2, 3, 5, 6, 0] rfl) hw
  have b80 : ∀ (x1 : Int32) (x2 : Int32) (x3 : Int32) (x4 : Int32) (s0 : Int32) (u : SQ) (H : Heap) (locs : List Loc) (ls : Array Slot), va_P D vwCl (WQ cI h0 h1 h2 h3 h4 h5 u) H → va_D A (WQ cI h0 h1 h2 h3 h4 h5 u) → va_S A s.heap H locs → lv_has ls 9 [(0, .ref h0), (1, .int x1), (2, .int x2), (3, .int x3), (4, .int x4)] → wX6_string_b80  P x1 x2 x3 x4 s0 u → W p l e ({ frames := 4, cells := 0, slots := 0, locals := 98 } : Room) s m ([.ref h0] : List Value).toArray below meth c H locs 0 0 (MQ below (va_Qv P (fun u t => va_P D vwCl (WQ cI h0 h1 h2 h3 h4 h5 u) t.heap) A) ([.ref h0] : List Value).toArray s 0 0 A) (F0 m 80 ls [.int s0]) := by
    intro x1 x2 x3 x4 s0 u H locs ls hP hD hS hl hw
    unfold wX6_string_b80 at hw
    refine lv_istore (lv' := [(5, .int s0), (0, .ref h0), (1, .int x1), (2, .int x2), (3, .int x3), (4, .int x4)]) hx hb dX6_string_80 hl (by decide) rfl (fun ls hl => ?_)
    refine lv_iload hx hb dX6_string_82 (lv_at hl 5 rfl) ?_
    refine lv_if_eq (tgt := 107) hx hb dX6_string_84 (by decide) (fun c11 => ?_) (fun c11 => ?_)
    · replace hw := hw.1 c11
      refine lv_aload_n hx hb dX6_string_107 rfl (lv_at hl 1 rfl) ?_
      refine lv_iconst (v := (0 : Int32)) hx hb dX6_string_108 (by decide) ?_
      refine lv_iload_n hx hb dX6_string_109 rfl (lv_at hl 2 rfl) ?_
      refine cl_Vi (As := [.int (0 : Int32), .int x1]) (rest := []) (st := [.int x1, .int (0 : Int32), .ref h0]) S hK hA hP hD hS (fr_Q u) (kcX6_register l D cB cI h0 h1 h2 h3 h4 h5 H.size (0 : Int32) x1 u _ hw) (cwV 2 hts gX6_string_X6_register rfl rfl rfl (by decide +kernel) ⟨Nat.le_of_ble_eq_true rfl, Nat.le_of_ble_eq_true rfl⟩) tru_h tru_b 0 rfl rfl rfl rfl rfl hl.1 (Nat.le_of_ble_eq_true rfl) dX6_string_110 ⟨Nat.zero_le _, Nat.zero_le _⟩ (fun r13 u12 H locs hP hD hS hw => ?_)
      replace hP : va_P D vwCl (WQ cI h0 h1 h2 h3 h4 h5 u12) H := hP
      replace hD : va_D A (WQ cI h0 h1 h2 h3 h4 h5 u12) := hD
      exact b113 x1 x2 x3 x4 s0 r13 u12 H locs ls hP hD hS (lv_sub hl [1, 2, 3, 4, 5, 0] rfl) hw
    · replace hw := hw.2 c11
      refine lv_aload_n hx hb dX6_string_87 rfl (lv_at hl 1 rfl) ?_
      refine lv_aload_n hx hb dX6_string_88 rfl (lv_at hl 1 rfl) ?_
      refine lv_iconst (v := (3 : Int32)) hx hb dX6_string_89 (by decide) ?_
      refine cl_Vi (As := [.int (3 : Int32)]) (rest := [.ref h0]) (st := [.int (3 : Int32), .ref h0, .ref h0]) S hK hA hP hD hS (fr_Q u) (kcX6_segmentOr l D cB cI h0 h1 h2 h3 h4 h5 H.size (3 : Int32) u _ hw) (cwV 1 hts gX6_string_X6_segmentOr rfl rfl rfl (by decide +kernel) ⟨Nat.le_of_ble_eq_true rfl, Nat.le_of_ble_eq_true rfl⟩) tru_h tru_b 0 rfl rfl rfl rfl rfl hl.1 (Nat.le_of_ble_eq_true rfl) dX6_string_90 ⟨Nat.zero_le _, Nat.zero_le _⟩ (fun r15 u14 H locs hP hD hS hw => ?_)
      replace hP : va_P D vwCl (WQ cI h0 h1 h2 h3 h4 h5 u14) H := hP
      replace hD : va_D A (WQ cI h0 h1 h2 h3 h4 h5 u14) := hD
      refine lv_aload_n hx hb dX6_string_93 rfl (lv_at hl 1 rfl) ?_
      refine va_get (D := D) (ci := 6) (v := .ref h1) (C := RX6) (T := TX6) (N := 29) hx hb hts i_X6 hown hK hP 0 rfl rfl 1 (by decide) f_7 (fun _ h9 => h9) rfl dX6_string_94 ?_
      refine lv_bipush (v := (6 : Int32)) hx hb dX6_string_97 (by decide) ?_
      refine va_iald hx hb hK hP 1 1 (f := (q_registers u14)) rfl rfl hw.1 dX6_string_99 ?_
      replace hw := hw.2
      refine lv_iload_n hx hb dX6_string_100 rfl (lv_at hl 2 rfl) ?_
      refine cl_Vi (As := [.int r15, .int ((q_registers u14) (6 : Int32).toNatClampNeg), .int x1]) (rest := []) (st := [.int x1, .int ((q_registers u14) (6 : Int32).toNatClampNeg), .int r15, .ref h0]) S hK hA hP hD hS (fr_Q u14) (kcX6_get l D cB cI h0 h1 h2 h3 h4 h5 H.size r15 ((q_registers u14) (6 : Int32).toNatClampNeg) x1 u14 _ hw) (cwV 3 hts gX6_string_X6_get rfl rfl rfl (by decide +kernel) ⟨Nat.le_of_ble_eq_true rfl, Nat.le_of_ble_eq_true rfl⟩) tru_h tru_b 0 rfl rfl rfl rfl rfl hl.1 (Nat.le_of_ble_eq_true rfl) dX6_string_101 ⟨Nat.zero_le _, Nat.zero_le _⟩ (fun r17 u16 H locs hP hD hS hw => ?_)
      replace hP : va_P D vwCl (WQ cI h0 h1 h2 h3 h4 h5 u16) H := hP
      replace hD : va_D A (WQ cI h0 h1 h2 h3 h4 h5 u16) := hD
      refine lv_goto (tgt := 113) hx hb dX6_string_104 (by decide) ?_
      exact b113 x1 x2 x3 x4 s0 r17 u16 H locs ls hP hD hS (lv_sub hl [1, 2, 3, 4, 5, 0] rfl) hw
  have b66 : ∀ (x1 : Int32) (x2 : Int32) (x3 : Int32) (s0 : Int32) (u : SQ) (H : Heap) (locs : List Loc) (ls : Array Slot), va_P D vwCl (WQ cI h0 h1 h2 h3 h4 h5 u) H → va_D A (WQ cI h0 h1 h2 h3 h4 h5 u) → va_S A s.heap H locs → lv_has ls 9 [(0, .ref h0), (1, .int x1), (2, .int x2), (3, .int x3)] → wX6_string_b66  P x1 x2 x3 s0 u → W p l e ({ frames := 4, cells := 0, slots := 0, locals := 98 } : Room) s m ([.ref h0] : List Value).toArray below meth c H locs 0 0 (MQ below (va_Qv P (fun u t => va_P D vwCl (WQ cI h0 h1 h2 h3 h4 h5 u) t.heap) A) ([.ref h0] : List Value).toArray s 0 0 A) (F0 m 66 ls [.int s0]) := by
    intro x1 x2 x3 s0 u H locs ls hP hD hS hl hw
    unfold wX6_string_b66 at hw
    refine lv_istore (lv' := [(4, .int s0), (0, .ref h0), (1, .int x1), (2, .int x2), (3, .int x3)]) hx hb dX6_string_66 hl (by decide) rfl (fun ls hl => ?_)
    refine lv_iload_n hx hb dX6_string_68 rfl (lv_at hl 4 rfl) ?_
    refine lv_sipush (v := (172 : Int32)) hx hb dX6_string_69 (by decide) ?_
    refine lv_icmp_eq (tgt := 79) hx hb dX6_string_72 (by decide) (fun c10 => ?_) (fun c10 => ?_)
    · replace hw := hw.1 c10
      refine lv_iconst (v := (0 : Int32)) hx hb dX6_string_79 (by decide) ?_
      exact b80 x1 x2 x3 s0 (0 : Int32) u H locs ls hP hD hS (lv_sub hl [1, 2, 3, 4, 0] rfl) hw
    · replace hw := hw.2 c10
      refine lv_iconst (v := (1 : Int32)) hx hb dX6_string_75 (by decide) ?_
      refine lv_goto (tgt := 80) hx hb dX6_string_76 (by decide) ?_
      exact b80 x1 x2 x3 s0 (1 : Int32) u H locs ls hP hD hS (lv_sub hl [1, 2, 3, 4, 0] rfl) hw
  have b61 : ∀ (x1 : Int32) (x2 : Int32) (x3 : Int32) (u : SQ) (H : Heap) (locs : List Loc) (ls : Array Slot), va_P D vwCl (WQ cI h0 h1 h2 h3 h4 h5 u) H → va_D A (WQ cI h0 h1 h2 h3 h4 h5 u) → va_S A s.heap H locs → lv_has ls 9 [(0, .ref h0), (1, .int x1), (2, .int x2), (3, .int x3)] → wX6_string_b61  P x1 x2 x3 u → W p l e ({ frames := 4, cells := 0, slots := 0, locals := 98 } : Room) s m ([.ref h0] : List Value).toArray below meth c H locs 0 0 (MQ below (va_Qv P (fun u t => va_P D vwCl (WQ cI h0 h1 h2 h3 h4 h5 u) t.heap) A) ([.ref h0] : List Value).toArray s 0 0 A) (F0 m 61 ls []) := by
    intro x1 x2 x3 u H locs ls hP hD hS hl hw
    unfold wX6_string_b61 at hw
    refine lv_iconst (v := (1 : Int32)) hx hb dX6_string_61 (by decide) ?_
    refine lv_goto (tgt := 66) hx hb dX6_string_62 (by decide) ?_
    exact b66 x1 x2 x3 (1 : Int32) u H locs ls hP hD hS (lv_sub hl [0, 1, 2, 3] rfl) hw
  have b29 : ∀ (x1 : Int32) (s0 : Int32) (s1 : Int32) (u : SQ) (H : Heap) (locs : List Loc) (ls : Array Slot), va_P D vwCl (WQ cI h0 h1 h2 h3 h4 h5 u) H → va_D A (WQ cI h0 h1 h2 h3 h4 h5 u) → va_S A s.heap H locs → lv_has ls 9 [(0, .ref h0), (1, .int x1)] → wX6_string_b29  P x1 s0 s1 u → W p l e ({ frames := 4, cells := 0, slots := 0, locals := 98 } : Room) s m ([.ref h0] : List Value).toArray below meth c H locs 0 0 (MQ below (va_Qv P (fun u t => va_P D vwCl (WQ cI h0 h1 h2 h3 h4 h5 u) t.heap) A) ([.ref h0] : List Value).toArray s 0 0 A) (F0 m 29 ls [.int s1, .int s0]) := by
    intro x1 s0 s1 u H locs ls hP hD hS hl hw
    unfold wX6_string_b29 at hw
    refine lv_imul hx hb dX6_string_29 ?_
    refine lv_istore_n (lv' := [(2, .int (s0 * s1)), (0, .ref h0), (1, .int x1)]) hx hb dX6_string_30 rfl hl (by decide) rfl (fun ls hl => ?_)
    refine lv_aload_n hx hb dX6_string_31 rfl (lv_at hl 1 rfl) ?_
    refine va_get (D := D) (ci := 6) (v := .int (q_code u)) (C := RX6) (T := TX6) (N := 29) hx hb hts i_X6 hown hK hP 0 rfl rfl 21 (by decide) f_148 (fun _ h9 => h9) rfl dX6_string_32 ?_
    refine lv_sipush (v := (254 : Int32)) hx hb dX6_string_35 (by decide) ?_
    refine lv_iand hx hb dX6_string_38 ?_
    refine lv_istore_n (lv' := [(3, .int ((q_code u) &&& (254 : Int32))), (2, .int (s0 * s1)), (0, .ref h0), (1, .int x1)]) hx hb dX6_string_39 rfl hl (by decide) rfl (fun ls hl => ?_)
    refine lv_iload_n hx hb dX6_string_40 rfl (lv_at hl 0 rfl) ?_
    refine lv_sipush (v := (164 : Int32)) hx hb dX6_string_41 (by decide) ?_
    refine lv_icmp_eq (tgt := 61) hx hb dX6_string_44 (by decide) (fun c7 => ?_) (fun c7 => ?_)
    · replace hw := hw.1 c7
      exact b61 x1 (s0 * s1) ((q_code u) &&& (254 : Int32)) u H locs ls hP hD hS (lv_sub hl [2, 3, 1, 0] rfl) hw
    · replace hw := hw.2 c7
      refine lv_iload_n hx hb dX6_string_47 rfl (lv_at hl 0 rfl) ?_
      refine lv_sipush (v := (166 : Int32)) hx hb dX6_string_48 (by decide) ?_
      refine lv_icmp_eq (tgt := 61) hx hb dX6_string_51 (by decide) (fun c8 => ?_) (fun c8 => ?_)
      · replace hw := hw.1 c8
        exact b61 x1 (s0 * s1) ((q_code u) &&& (254 : Int32)) u H locs ls hP hD hS (lv_sub hl [2, 3, 1, 0] rfl) hw
      · replace hw := hw.2 c8
        refine lv_iload_n hx hb dX6_string_54 rfl (lv_at hl 0 rfl) ?_
        refine lv_sipush (v := (172 : Int32)) hx hb dX6_string_55 (by decide) ?_
        refine lv_icmp_ne (tgt := 65) hx hb dX6_string_58 (by decide) (fun c9 => ?_) (fun c9 => ?_)
        · replace hw := hw.2 c9
          refine lv_iconst (v := (0 : Int32)) hx hb dX6_string_65 (by decide) ?_
          exact b66 x1 (s0 * s1) ((q_code u) &&& (254 : Int32)) (0 : Int32) u H locs ls hP hD hS (lv_sub hl [2, 3, 1, 0] rfl) hw
        · replace hw := hw.1 c9
          exact b61 x1 (s0 * s1) ((q_code u) &&& (254 : Int32)) u H locs ls hP hD hS (lv_sub hl [2, 3, 1, 0] rfl) hw
  have b14 : ∀ (x1 : Int32) (s0 : Int32) (u : SQ) (H : Heap) (locs : List Loc) (ls : Array Slot), va_P D vwCl (WQ cI h0 h1 h2 h3 h4 h5 u) H → va_D A (WQ cI h0 h1 h2 h3 h4 h5 u) → va_S A s.heap H locs → lv_has ls 9 [(0, .ref h0), (1, .int x1)] → wX6_string_b14  P x1 s0 u → W p l e ({ frames := 4, cells := 0, slots := 0, locals := 98 } : Room) s m ([.ref h0] : List Value).toArray below meth c H locs 0 0 (MQ below (va_Qv P (fun u t => va_P D vwCl (WQ cI h0 h1 h2 h3 h4 h5 u) t.heap) A) ([.ref h0] : List Value).toArray s 0 0 A) (F0 m 14 ls [.int s0]) := by
    intro x1 s0 u H locs ls hP hD hS hl hw
    unfold wX6_string_b14 at hw
    refine lv_aload_n hx hb dX6_string_14 rfl (lv_at hl 0 rfl) ?_
    refine lv_sipush (v := (1024 : Int32)) hx hb dX6_string_15 (by decide) ?_
    refine cl_Vi (As := [.int (1024 : Int32)]) (rest := [.int s0]) (st := [.int (1024 : Int32), .ref h0, .int s0]) S hK hA hP hD hS (fr_Q u) (kcX6_has l D cB cI h0 h1 h2 h3 h4 h5 H.size (1024 : Int32) u _ hw) (cwV 1 hts gX6_string_X6_has rfl rfl rfl (by decide +kernel) ⟨Nat.le_of_ble_eq_true rfl, Nat.le_of_ble_eq_true rfl⟩) tru_h tru_b 0 rfl rfl rfl rfl rfl hl.1 (Nat.le_of_ble_eq_true rfl) dX6_string_18 ⟨Nat.zero_le _, Nat.zero_le _⟩ (fun r5 u4 H locs hP hD hS hw => ?_)
    replace hP : va_P D vwCl (WQ cI h0 h1 h2 h3 h4 h5 u4) H := hP
    replace hD : va_D A (WQ cI h0 h1 h2 h3 h4 h5 u4) := hD
    refine lv_if_eq (tgt := 28) hx hb dX6_string_21 (by decide) (fun c6 => ?_) (fun c6 => ?_)
    · replace hw := hw.1 c6
      refine lv_iconst (v := (1 : Int32)) hx hb dX6_string_28 (by decide) ?_
      exact b29 x1 s0 (1 : Int32) u4 H locs ls hP hD hS (lv_sub hl [0, 1] rfl) hw
    · replace hw := hw.2 c6
      refine lv_iconst (v := (-1 : Int32)) hx hb dX6_string_24 (by decide) ?_
      refine lv_goto (tgt := 29) hx hb dX6_string_25 (by decide) ?_
      exact b29 x1 s0 (-1 : Int32) u4 H locs ls hP hD hS (lv_sub hl [0, 1] rfl) hw
  unfold wX6_string at hw
  obtain ⟨H, eH⟩ : ∃ H, H = s.heap := ⟨_, rfl⟩
  obtain ⟨locs, eL⟩ : ∃ locs : List Loc, locs = [] := ⟨_, rfl⟩
  replace hP : va_P D vwCl (WQ cI h0 h1 h2 h3 h4 h5 u) H := by rw [eH]; exact hP
  replace hS : va_S A s.heap H locs := by rw [eH, eL]; exact hS
  suffices hgo : W p l e ({ frames := 4, cells := 0, slots := 0, locals := 98 } : Room) s m ([.ref h0] : List Value).toArray below meth c H locs 0 0 (MQ below (va_Qv P (fun u t => va_P D vwCl (WQ cI h0 h1 h2 h3 h4 h5 u) t.heap) A) ([.ref h0] : List Value).toArray s 0 0 A) (F0 m 0 ls []) by rw [eH, eL] at hgo; exact hgo
  clear eH eL
  refine lv_aload_n hx hb dX6_string_0 rfl (lv_at hl 0 rfl) ?_
  refine cl_Vi (As := []) (rest := []) (st := [.ref h0]) S hK hA hP hD hS (fr_Q u) (kcX6_isWide l D cB cI h0 h1 h2 h3 h4 h5 H.size  u _ hw) (cwV 0 hts gX6_string_X6_isWide rfl rfl rfl (by decide +kernel) ⟨Nat.le_of_ble_eq_true rfl, Nat.le_of_ble_eq_true rfl⟩) tru_h tru_b 0 rfl rfl rfl rfl rfl hl.1 (Nat.le_of_ble_eq_true rfl) dX6_string_1 ⟨Nat.zero_le _, Nat.zero_le _⟩ (fun r2 u1 H locs hP hD hS hw => ?_)
  replace hP : va_P D vwCl (WQ cI h0 h1 h2 h3 h4 h5 u1) H := hP
  replace hD : va_D A (WQ cI h0 h1 h2 h3 h4 h5 u1) := hD
  refine lv_istore_n (lv' := [(1, .int r2), (0, .ref h0)]) hx hb dX6_string_4 rfl hl (by decide) rfl (fun ls hl => ?_)
  refine lv_iload_n hx hb dX6_string_5 rfl (lv_at hl 0 rfl) ?_
  refine lv_if_eq (tgt := 13) hx hb dX6_string_6 (by decide) (fun c3 => ?_) (fun c3 => ?_)
  · replace hw := hw.1 c3
    refine lv_iconst (v := (1 : Int32)) hx hb dX6_string_13 (by decide) ?_
    exact b14 r2 (1 : Int32) u1 H locs ls hP hD hS (lv_sub hl [1, 0] rfl) hw
  · replace hw := hw.2 c3
    refine lv_iconst (v := (2 : Int32)) hx hb dX6_string_9 (by decide) ?_
    refine lv_goto (tgt := 14) hx hb dX6_string_10 (by decide) ?_
    exact b14 r2 (2 : Int32) u1 H locs ls hP hD hS (lv_sub hl [1, 0] rfl) hw
-- X6_strings
def wX6_strings_b106  (P : SQ → Prop) (x2 : Int32) (u : SQ) : Prop := ((x2 = (0 : Int32) → (P u)) ∧ (¬ x2 = (0 : Int32) → (vp_in (1 : Int32) 8 ∧ ((((q_registers u) (1 : Int32).toNatClampNeg) = (0 : Int32) → (P u)) ∧ (¬ ((q_registers u) (1 : Int32).toNatClampNeg) = (0 : Int32) → (P (qs_ip u (q_begin u))))))))
def wX6_strings_b16  (P : SQ → Prop) : Nat → Int32 → Int32 → SQ → Prop
  | 0, _, _, _ => False
  | n + 1, x1, x2, u => ((x2 = (0 : Int32) → (wX6_strings_b106  P x2 u)) ∧ (¬ x2 = (0 : Int32) → (vp_in (1 : Int32) 8 ∧ ((((q_registers u) (1 : Int32).toNatClampNeg) = (0 : Int32) → (wX6_strings_b106  P x2 u)) ∧ (¬ ((q_registers u) (1 : Int32).toNatClampNeg) = (0 : Int32) → (((64 : Int32) ≤ x1 → (wX6_strings_b106  P x2 u)) ∧ (¬ (64 : Int32) ≤ x1 → (vp_in (1 : Int32) 8 ∧ (vp_in (1 : Int32) 8 ∧ (wX6_string  (qs_registers u (upd (q_registers u) (1 : Int32).toNatClampNeg (((q_registers u) (1 : Int32).toNatClampNeg) - (1 : Int32)))) (fun u7 => (wX6_compares  (qs_repetitions u7 ((q_repetitions u7) + (1 : Int32))) (fun r10 u9 => ((r10 = (0 : Int32) → (wX6_strings_b16  P n (x1 + (1 : Int32)) (1 : Int32) u9)) ∧ (¬ r10 = (0 : Int32) → (wX6_has (64 : Int32) u9 (fun r13 u12 => (((q_repeat u12) = (243 : Int32) → ((r13 = (1 : Int32) → (wX6_strings_b16  P n (x1 + (1 : Int32)) (1 : Int32) u12)) ∧ (¬ r13 = (1 : Int32) → (wX6_strings_b16  P n (x1 + (1 : Int32)) (0 : Int32) u12)))) ∧ (¬ (q_repeat u12) = (243 : Int32) → ((r13 = (0 : Int32) → (wX6_strings_b16  P n (x1 + (1 : Int32)) (1 : Int32) u12)) ∧ (¬ r13 = (0 : Int32) → (wX6_strings_b16  P n (x1 + (1 : Int32)) (0 : Int32) u12))))))))))))))))))))))
def wX6_strings  (u : SQ) (P : SQ → Prop) : Prop := (((q_repeat u) = (0 : Int32) → (wX6_string  u (fun u2 => (P u2)))) ∧ (¬ (q_repeat u) = (0 : Int32) → (∃ n, wX6_strings_b16  P n (0 : Int32) (1 : Int32) u)))
set_option maxHeartbeats 4000000 in
set_option maxRecDepth 100000 in
theorem kcX6_strings (l : Launch) (D : va_G) (cB cI : ClassId) (h0 h1 h2 h3 h4 h5 : Nat) (sz : Nat)  (u : SQ) (P : SQ → Prop) (hw : wX6_strings  u P) : Met l yX6_strings wsX6_strings ({ frames := 5, cells := 0, slots := 0, locals := 126 } : Room) (va_Pc [.ref h0] (Pcw D (tyA cB cI) (WQ cI h0 h1 h2 h3 h4 h5 u) sz Tru)) (va_Qv P (fun u t => va_P D vwCl (WQ cI h0 h1 h2 h3 h4 h5 u) t.heap) (va_A (WQ cI h0 h1 h2 h3 h4 h5 u) sz)) 0 0 (va_A (WQ cI h0 h1 h2 h3 h4 h5 u) sz) := by
  refine en_ (cc := cX6_strings) (maxL := 3) (ret := none) (own := RX6) (lv := [(0, .ref h0)]) (Qf := fun A => va_Qv P (fun u t => va_P D vwCl (WQ cI h0 h1 h2 h3 h4 h5 u) t.heap) A) (by decide) rfl rfl (Nat.le_of_ble_eq_true rfl) rfl ?_
  intro p e s m below meth c A ls S hr hlk hname hsz hP hK hD hA hSub hS hE hl
  have hx := S.1
  have hb := S.2.1
  have hown := S.2.2.2.1
  have hts := S.2.2.2.2
  have i_X6 : ∀ w ∈ u_ws RX6 TX6 29, w ∈ wsX6_strings := by decide +kernel
  have f_7 := hts (.fieldLink RX6 7 "MachineCoreModel" "registers" "[I") (by decide +kernel)
  have f_170 := hts (.fieldLink RX6 170 "MachineCoreModel" "ip" "I") (by decide +kernel)
  have f_173 := hts (.fieldLink RX6 173 "MachineCoreModel" "begin" "I") (by decide +kernel)
  have f_176 := hts (.fieldLink RX6 176 "MachineCoreModel" "repeat" "I") (by decide +kernel)
  have f_193 := hts (.fieldLink RX6 193 "MachineCoreModel" "repetitions" "I") (by decide +kernel)
  have b106 : ∀ (x2 : Int32) (u : SQ) (H : Heap) (locs : List Loc) (ls : Array Slot), va_P D vwCl (WQ cI h0 h1 h2 h3 h4 h5 u) H → va_D A (WQ cI h0 h1 h2 h3 h4 h5 u) → va_S A s.heap H locs → lv_has ls 3 [(0, .ref h0), (2, .int x2)] → wX6_strings_b106  P x2 u → W p l e ({ frames := 5, cells := 0, slots := 0, locals := 126 } : Room) s m ([.ref h0] : List Value).toArray below meth c H locs 0 0 (MQ below (va_Qv P (fun u t => va_P D vwCl (WQ cI h0 h1 h2 h3 h4 h5 u) t.heap) A) ([.ref h0] : List Value).toArray s 0 0 A) (F0 m 106 ls []) := by
    intro x2 u H locs ls hP hD hS hl hw
    unfold wX6_strings_b106 at hw
    refine lv_iload_n hx hb dX6_strings_106 rfl (lv_at hl 1 rfl) ?_
    refine lv_if_eq (tgt := 127) hx hb dX6_strings_107 (by decide) (fun c17 => ?_) (fun c17 => ?_)
    · replace hw := hw.1 c17
      exact rt_v (wo := (fun v => WQ cI h0 h1 h2 h3 h4 h5 v)) S hr hlk u hP hS hw dX6_strings_127
    · replace hw := hw.2 c17
      refine lv_aload_n hx hb dX6_strings_110 rfl (lv_at hl 0 rfl) ?_
      refine va_get (D := D) (ci := 6) (v := .ref h1) (C := RX6) (T := TX6) (N := 29) hx hb hts i_X6 hown hK hP 0 rfl rfl 1 (by decide) f_7 (fun _ h9 => h9) rfl dX6_strings_111 ?_
      refine lv_iconst (v := (1 : Int32)) hx hb dX6_strings_114 (by decide) ?_
      refine va_iald hx hb hK hP 1 1 (f := (q_registers u)) rfl rfl hw.1 dX6_strings_115 ?_
      replace hw := hw.2
      refine lv_if_eq (tgt := 127) hx hb dX6_strings_116 (by decide) (fun c18 => ?_) (fun c18 => ?_)
      · replace hw := hw.1 c18
        exact rt_v (wo := (fun v => WQ cI h0 h1 h2 h3 h4 h5 v)) S hr hlk u hP hS hw dX6_strings_127
      · replace hw := hw.2 c18
        refine lv_aload_n hx hb dX6_strings_119 rfl (lv_at hl 0 rfl) ?_
        refine lv_aload_n hx hb dX6_strings_120 rfl (lv_at hl 0 rfl) ?_
        refine va_get (D := D) (ci := 6) (v := .int (q_begin u)) (C := RX6) (T := TX6) (N := 29) hx hb hts i_X6 hown hK hP 0 rfl rfl 17 (by decide) f_173 (fun _ h9 => h9) rfl dX6_strings_121 ?_
        refine va_put (D := D) (ci := 6) (v := .int (q_begin u)) (ty := .int) (C := RX6) (T := TX6) (N := 29) hx hb hts i_X6 tyX6 tyX6_ok nmX6 hown hK hP hD hS 0 rfl rfl 3 (by decide) f_170 (fun _ h9 => h9) rfl (by decide +kernel) rfl rfl (Nat.le_of_ble_eq_true rfl) dX6_strings_124 (fun H locs hP hD hS => ?_)
        replace hP : va_P D vwCl (WQ cI h0 h1 h2 h3 h4 h5 (qs_ip u (q_begin u))) H := hP
        replace hD : va_D A (WQ cI h0 h1 h2 h3 h4 h5 (qs_ip u (q_begin u))) := hD
        exact rt_v (wo := (fun v => WQ cI h0 h1 h2 h3 h4 h5 v)) S hr hlk (qs_ip u (q_begin u)) hP hS hw dX6_strings_127
  have b16 : ∀ (n : Nat) (x1 : Int32) (x2 : Int32) (u : SQ) (H : Heap) (locs : List Loc) (ls : Array Slot), va_P D vwCl (WQ cI h0 h1 h2 h3 h4 h5 u) H → va_D A (WQ cI h0 h1 h2 h3 h4 h5 u) → va_S A s.heap H locs → lv_has ls 3 [(0, .ref h0), (1, .int x1), (2, .int x2)] → wX6_strings_b16  P n x1 x2 u → W p l e ({ frames := 5, cells := 0, slots := 0, locals := 126 } : Room) s m ([.ref h0] : List Value).toArray below meth c H locs 0 0 (MQ below (va_Qv P (fun u t => va_P D vwCl (WQ cI h0 h1 h2 h3 h4 h5 u) t.heap) A) ([.ref h0] : List Value).toArray s 0 0 A) (F0 m 16 ls []) := by
    intro n
    induction n with
    | zero => intro x1 x2 u H locs ls hP hD hS hl hw; exact False.elim hw
    | succ n ih =>
      intro x1 x2 u H locs ls hP hD hS hl hw
      rw [wX6_strings_b16] at hw
      refine lv_iload_n hx hb dX6_strings_16 rfl (lv_at hl 2 rfl) ?_
      refine lv_if_eq (tgt := 106) hx hb dX6_strings_17 (by decide) (fun c4 => ?_) (fun c4 => ?_)
      · replace hw := hw.1 c4
        exact b106 x2 u H locs ls hP hD hS (lv_sub hl [0, 2] rfl) hw
      · replace hw := hw.2 c4
        refine lv_aload_n hx hb dX6_strings_20 rfl (lv_at hl 0 rfl) ?_
        refine va_get (D := D) (ci := 6) (v := .ref h1) (C := RX6) (T := TX6) (N := 29) hx hb hts i_X6 hown hK hP 0 rfl rfl 1 (by decide) f_7 (fun _ h9 => h9) rfl dX6_strings_21 ?_
        refine lv_iconst (v := (1 : Int32)) hx hb dX6_strings_24 (by decide) ?_
        refine va_iald hx hb hK hP 1 1 (f := (q_registers u)) rfl rfl hw.1 dX6_strings_25 ?_
        replace hw := hw.2
        refine lv_if_eq (tgt := 106) hx hb dX6_strings_26 (by decide) (fun c5 => ?_) (fun c5 => ?_)
        · replace hw := hw.1 c5
          exact b106 x2 u H locs ls hP hD hS (lv_sub hl [0, 2] rfl) hw
        · replace hw := hw.2 c5
          refine lv_iload_n hx hb dX6_strings_29 rfl (lv_at hl 1 rfl) ?_
          refine lv_bipush (v := (64 : Int32)) hx hb dX6_strings_30 (by decide) ?_
          refine lv_icmp_ge (tgt := 106) hx hb dX6_strings_32 (by decide) (fun c6 => ?_) (fun c6 => ?_)
          · replace hw := hw.1 c6
            exact b106 x2 u H locs ls hP hD hS (lv_sub hl [0, 2] rfl) hw
          · replace hw := hw.2 c6
            refine lv_aload_n hx hb dX6_strings_35 rfl (lv_at hl 0 rfl) ?_
            refine va_get (D := D) (ci := 6) (v := .ref h1) (C := RX6) (T := TX6) (N := 29) hx hb hts i_X6 hown hK hP 0 rfl rfl 1 (by decide) f_7 (fun _ h9 => h9) rfl dX6_strings_36 ?_
            refine lv_iconst (v := (1 : Int32)) hx hb dX6_strings_39 (by decide) ?_
            refine lv_aload_n hx hb dX6_strings_40 rfl (lv_at hl 0 rfl) ?_
            refine va_get (D := D) (ci := 6) (v := .ref h1) (C := RX6) (T := TX6) (N := 29) hx hb hts i_X6 hown hK hP 0 rfl rfl 1 (by decide) f_7 (fun _ h9 => h9) rfl dX6_strings_41 ?_
            refine lv_iconst (v := (1 : Int32)) hx hb dX6_strings_44 (by decide) ?_
            refine va_iald hx hb hK hP 1 1 (f := (q_registers u)) rfl rfl hw.1 dX6_strings_45 ?_
            replace hw := hw.2
            refine lv_iconst (v := (1 : Int32)) hx hb dX6_strings_46 (by decide) ?_
            refine lv_isub hx hb dX6_strings_47 ?_
            refine va_iast hx hb hK hP hD hS 1 1 (f := (q_registers u)) rfl rfl hw.1 dX6_strings_48 (fun H locs hP hD hS => ?_)
            replace hw := hw.2
            replace hP : va_P D vwCl (WQ cI h0 h1 h2 h3 h4 h5 (qs_registers u (upd (q_registers u) (1 : Int32).toNatClampNeg (((q_registers u) (1 : Int32).toNatClampNeg) - (1 : Int32))))) H := hP
            replace hD : va_D A (WQ cI h0 h1 h2 h3 h4 h5 (qs_registers u (upd (q_registers u) (1 : Int32).toNatClampNeg (((q_registers u) (1 : Int32).toNatClampNeg) - (1 : Int32))))) := hD
            refine lv_aload_n hx hb dX6_strings_49 rfl (lv_at hl 0 rfl) ?_
            refine cl_Vv (As := []) (rest := []) (st := [.ref h0]) S hK hA hP hD hS (fr_Q (qs_registers u (upd (q_registers u) (1 : Int32).toNatClampNeg (((q_registers u) (1 : Int32).toNatClampNeg) - (1 : Int32))))) (kcX6_string l D cB cI h0 h1 h2 h3 h4 h5 H.size  (qs_registers u (upd (q_registers u) (1 : Int32).toNatClampNeg (((q_registers u) (1 : Int32).toNatClampNeg) - (1 : Int32)))) _ hw) (cwV 0 hts gX6_strings_X6_string rfl rfl rfl (by decide +kernel) ⟨Nat.le_of_ble_eq_true rfl, Nat.le_of_ble_eq_true rfl⟩) tru_h tru_b 0 rfl rfl rfl rfl rfl hl.1 (Nat.le_of_ble_eq_true rfl) dX6_strings_50 ⟨Nat.zero_le _, Nat.zero_le _⟩ (fun u7 H locs hP hD hS hw => ?_)
            replace hP : va_P D vwCl (WQ cI h0 h1 h2 h3 h4 h5 u7) H := hP
            replace hD : va_D A (WQ cI h0 h1 h2 h3 h4 h5 u7) := hD
            refine lv_iinc (v := (x1 + (1 : Int32))) (lv' := [(1, .int (x1 + (1 : Int32))), (0, .ref h0), (2, .int x2)]) hx hb dX6_strings_53 hl (k := 1) rfl rfl (by decide) rfl (fun ls hl => ?_)
            refine lv_aload_n hx hb dX6_strings_56 rfl (lv_at hl 1 rfl) ?_
            refine lv_dup hx hb dX6_strings_57 rfl ?_
            refine va_get (D := D) (ci := 6) (v := .int (q_repetitions u7)) (C := RX6) (T := TX6) (N := 29) hx hb hts i_X6 hown hK hP 0 rfl rfl 12 (by decide) f_193 (fun _ h9 => h9) rfl dX6_strings_58 ?_
            refine lv_iconst (v := (1 : Int32)) hx hb dX6_strings_61 (by decide) ?_
            refine lv_iadd hx hb dX6_strings_62 ?_
            refine va_put (D := D) (ci := 6) (v := .int ((q_repetitions u7) + (1 : Int32))) (ty := .int) (C := RX6) (T := TX6) (N := 29) hx hb hts i_X6 tyX6 tyX6_ok nmX6 hown hK hP hD hS 0 rfl rfl 12 (by decide) f_193 (fun _ h9 => h9) rfl (by decide +kernel) rfl rfl (Nat.le_of_ble_eq_true rfl) dX6_strings_63 (fun H locs hP hD hS => ?_)
            replace hP : va_P D vwCl (WQ cI h0 h1 h2 h3 h4 h5 (qs_repetitions u7 ((q_repetitions u7) + (1 : Int32)))) H := hP
            replace hD : va_D A (WQ cI h0 h1 h2 h3 h4 h5 (qs_repetitions u7 ((q_repetitions u7) + (1 : Int32)))) := hD
            refine lv_aload_n hx hb dX6_strings_66 rfl (lv_at hl 1 rfl) ?_
            refine cl_Vi (As := []) (rest := []) (st := [.ref h0]) S hK hA hP hD hS (fr_Q (qs_repetitions u7 ((q_repetitions u7) + (1 : Int32)))) (kcX6_compares l D cB cI h0 h1 h2 h3 h4 h5 H.size  (qs_repetitions u7 ((q_repetitions u7) + (1 : Int32))) _ hw) (cwV 0 hts gX6_strings_X6_compares rfl rfl rfl (by decide +kernel) ⟨Nat.le_of_ble_eq_true rfl, Nat.le_of_ble_eq_true rfl⟩) tru_h tru_b 0 rfl rfl rfl rfl rfl hl.1 (Nat.le_of_ble_eq_true rfl) dX6_strings_67 ⟨Nat.zero_le _, Nat.zero_le _⟩ (fun r10 u9 H locs hP hD hS hw => ?_)
            replace hP : va_P D vwCl (WQ cI h0 h1 h2 h3 h4 h5 u9) H := hP
            replace hD : va_D A (WQ cI h0 h1 h2 h3 h4 h5 u9) := hD
            refine lv_if_eq (tgt := 97) hx hb dX6_strings_70 (by decide) (fun c11 => ?_) (fun c11 => ?_)
            · replace hw := hw.1 c11
              refine lv_iconst (v := (1 : Int32)) hx hb dX6_strings_97 (by decide) ?_
              refine lv_goto (tgt := 102) hx hb dX6_strings_98 (by decide) ?_
              refine lv_istore_n (lv' := [(2, .int (1 : Int32)), (1, .int (x1 + (1 : Int32))), (0, .ref h0)]) hx hb dX6_strings_102 rfl hl (by decide) rfl (fun ls hl => ?_)
              refine lv_goto (tgt := 16) hx hb dX6_strings_103 (by decide) ?_
              exact ih (x1 + (1 : Int32)) (1 : Int32) u9 H locs ls hP hD hS (lv_sub hl [2, 1, 0] rfl) hw
            · replace hw := hw.2 c11
              refine lv_aload_n hx hb dX6_strings_73 rfl (lv_at hl 1 rfl) ?_
              refine lv_bipush (v := (64 : Int32)) hx hb dX6_strings_74 (by decide) ?_
              refine cl_Vi (As := [.int (64 : Int32)]) (rest := []) (st := [.int (64 : Int32), .ref h0]) S hK hA hP hD hS (fr_Q u9) (kcX6_has l D cB cI h0 h1 h2 h3 h4 h5 H.size (64 : Int32) u9 _ hw) (cwV 1 hts gX6_strings_X6_has rfl rfl rfl (by decide +kernel) ⟨Nat.le_of_ble_eq_true rfl, Nat.le_of_ble_eq_true rfl⟩) tru_h tru_b 0 rfl rfl rfl rfl rfl hl.1 (Nat.le_of_ble_eq_true rfl) dX6_strings_76 ⟨Nat.zero_le _, Nat.zero_le _⟩ (fun r13 u12 H locs hP hD hS hw => ?_)
              replace hP : va_P D vwCl (WQ cI h0 h1 h2 h3 h4 h5 u12) H := hP
              replace hD : va_D A (WQ cI h0 h1 h2 h3 h4 h5 u12) := hD
              refine lv_aload_n hx hb dX6_strings_79 rfl (lv_at hl 1 rfl) ?_
              refine va_get (D := D) (ci := 6) (v := .int (q_repeat u12)) (C := RX6) (T := TX6) (N := 29) hx hb hts i_X6 hown hK hP 0 rfl rfl 20 (by decide) f_176 (fun _ h9 => h9) rfl dX6_strings_80 ?_
              refine lv_sipush (v := (243 : Int32)) hx hb dX6_strings_83 (by decide) ?_
              refine lv_icmp_ne (tgt := 93) hx hb dX6_strings_86 (by decide) (fun c14 => ?_) (fun c14 => ?_)
              · replace hw := hw.2 c14
                refine lv_iconst (v := (0 : Int32)) hx hb dX6_strings_93 (by decide) ?_
                refine lv_icmp_ne (tgt := 101) hx hb dX6_strings_94 (by decide) (fun c15 => ?_) (fun c15 => ?_)
                · replace hw := hw.2 c15
                  refine lv_iconst (v := (0 : Int32)) hx hb dX6_strings_101 (by decide) ?_
                  refine lv_istore_n (lv' := [(2, .int (0 : Int32)), (1, .int (x1 + (1 : Int32))), (0, .ref h0)]) hx hb dX6_strings_102 rfl hl (by decide) rfl (fun ls hl => ?_)
                  refine lv_goto (tgt := 16) hx hb dX6_strings_103 (by decide) ?_
                  exact ih (x1 + (1 : Int32)) (0 : Int32) u12 H locs ls hP hD hS (lv_sub hl [2, 1, 0] rfl) hw
                · replace hw := hw.1 c15
                  refine lv_iconst (v := (1 : Int32)) hx hb dX6_strings_97 (by decide) ?_
                  refine lv_goto (tgt := 102) hx hb dX6_strings_98 (by decide) ?_
                  refine lv_istore_n (lv' := [(2, .int (1 : Int32)), (1, .int (x1 + (1 : Int32))), (0, .ref h0)]) hx hb dX6_strings_102 rfl hl (by decide) rfl (fun ls hl => ?_)
                  refine lv_goto (tgt := 16) hx hb dX6_strings_103 (by decide) ?_
                  exact ih (x1 + (1 : Int32)) (1 : Int32) u12 H locs ls hP hD hS (lv_sub hl [2, 1, 0] rfl) hw
              · replace hw := hw.1 c14
                refine lv_iconst (v := (1 : Int32)) hx hb dX6_strings_89 (by decide) ?_
                refine lv_goto (tgt := 94) hx hb dX6_strings_90 (by decide) ?_
                refine lv_icmp_ne (tgt := 101) hx hb dX6_strings_94 (by decide) (fun c16 => ?_) (fun c16 => ?_)
                · replace hw := hw.2 c16
                  refine lv_iconst (v := (0 : Int32)) hx hb dX6_strings_101 (by decide) ?_
                  refine lv_istore_n (lv' := [(2, .int (0 : Int32)), (1, .int (x1 + (1 : Int32))), (0, .ref h0)]) hx hb dX6_strings_102 rfl hl (by decide) rfl (fun ls hl => ?_)
                  refine lv_goto (tgt := 16) hx hb dX6_strings_103 (by decide) ?_
                  exact ih (x1 + (1 : Int32)) (0 : Int32) u12 H locs ls hP hD hS (lv_sub hl [2, 1, 0] rfl) hw
                · replace hw := hw.1 c16
                  refine lv_iconst (v := (1 : Int32)) hx hb dX6_strings_97 (by decide) ?_
                  refine lv_goto (tgt := 102) hx hb dX6_strings_98 (by decide) ?_
                  refine lv_istore_n (lv' := [(2, .int (1 : Int32)), (1, .int (x1 + (1 : Int32))), (0, .ref h0)]) hx hb dX6_strings_102 rfl hl (by decide) rfl (fun ls hl => ?_)
                  refine lv_goto (tgt := 16) hx hb dX6_strings_103 (by decide) ?_
                  exact ih (x1 + (1 : Int32)) (1 : Int32) u12 H locs ls hP hD hS (lv_sub hl [2, 1, 0] rfl) hw
  unfold wX6_strings at hw
  obtain ⟨H, eH⟩ : ∃ H, H = s.heap := ⟨_, rfl⟩
  obtain ⟨locs, eL⟩ : ∃ locs : List Loc, locs = [] := ⟨_, rfl⟩
  replace hP : va_P D vwCl (WQ cI h0 h1 h2 h3 h4 h5 u) H := by rw [eH]; exact hP
  replace hS : va_S A s.heap H locs := by rw [eH, eL]; exact hS
  suffices hgo : W p l e ({ frames := 5, cells := 0, slots := 0, locals := 126 } : Room) s m ([.ref h0] : List Value).toArray below meth c H locs 0 0 (MQ below (va_Qv P (fun u t => va_P D vwCl (WQ cI h0 h1 h2 h3 h4 h5 u) t.heap) A) ([.ref h0] : List Value).toArray s 0 0 A) (F0 m 0 ls []) by rw [eH, eL] at hgo; exact hgo
  clear eH eL
  refine lv_aload_n hx hb dX6_strings_0 rfl (lv_at hl 0 rfl) ?_
  refine va_get (D := D) (ci := 6) (v := .int (q_repeat u)) (C := RX6) (T := TX6) (N := 29) hx hb hts i_X6 hown hK hP 0 rfl rfl 20 (by decide) f_176 (fun _ h9 => h9) rfl dX6_strings_1 ?_
  refine lv_if_ne (tgt := 12) hx hb dX6_strings_4 (by decide) (fun c1 => ?_) (fun c1 => ?_)
  · replace hw := hw.2 c1
    refine lv_iconst (v := (0 : Int32)) hx hb dX6_strings_12 (by decide) ?_
    refine lv_istore_n (lv' := [(1, .int (0 : Int32)), (0, .ref h0)]) hx hb dX6_strings_13 rfl hl (by decide) rfl (fun ls hl => ?_)
    refine lv_iconst (v := (1 : Int32)) hx hb dX6_strings_14 (by decide) ?_
    refine lv_istore_n (lv' := [(2, .int (1 : Int32)), (1, .int (0 : Int32)), (0, .ref h0)]) hx hb dX6_strings_15 rfl hl (by decide) rfl (fun ls hl => ?_)
    obtain ⟨n, hw⟩ := hw
    exact b16 n (0 : Int32) (1 : Int32) u H locs ls hP hD hS (lv_sub hl [2, 1, 0] rfl) hw
  · replace hw := hw.1 c1
    refine lv_aload_n hx hb dX6_strings_7 rfl (lv_at hl 0 rfl) ?_
    refine cl_Vv (As := []) (rest := []) (st := [.ref h0]) S hK hA hP hD hS (fr_Q u) (kcX6_string l D cB cI h0 h1 h2 h3 h4 h5 H.size  u _ hw) (cwV 0 hts gX6_strings_X6_string rfl rfl rfl (by decide +kernel) ⟨Nat.le_of_ble_eq_true rfl, Nat.le_of_ble_eq_true rfl⟩) tru_h tru_b 0 rfl rfl rfl rfl rfl hl.1 (Nat.le_of_ble_eq_true rfl) dX6_strings_8 ⟨Nat.zero_le _, Nat.zero_le _⟩ (fun u2 H locs hP hD hS hw => ?_)
    replace hP : va_P D vwCl (WQ cI h0 h1 h2 h3 h4 h5 u2) H := hP
    replace hD : va_D A (WQ cI h0 h1 h2 h3 h4 h5 u2) := hD
    exact rt_v (wo := (fun v => WQ cI h0 h1 h2 h3 h4 h5 v)) S hr hlk u2 hP hS hw dX6_strings_11
