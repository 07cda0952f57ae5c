set_option maxHeartbeats 8000000 in
set_option maxRecDepth 100000 in
theorem law_count {p : Program} {l : Launch} {e : Env} {s : State} {m : MethodId} {below : List Frame} {meth : Method} {c : Code} {D : va_G} {cB cI cJ : ClassId} {b L qF sa22 sa67 sa79 sa92 sa95 sa139 : Nat} {xs : Nat → Int32} {q0 q1 q2 q3 q4 q5 q6 q7 q8 q9 q10 h0 h1 h2 h3 h4 h5 ho : Nat} (hl9 : l.stackTraces = false) (hL : L ≤ 192) (S : CallFix p m c code 7 s #[Value.ref b] wsL_law RL) (hr : meth.sig.returnType = ret) (hlocks : meth.locks = false) (hX : va_X b L xs s s.heap) (hbl : b < s.heap.size) (hK : va_K D vwCl (tyJ cB cI cJ) s)
    (eF : va_Z RX1 "FORMS" "[I" (.ref qF) (fun q : Nat => s.heap.size ≤ q) s s.heap ∧ va_X qF 256 formsF s s.heap ∧ qF < s.heap.size ∧ ¬ (fun q : Nat => s.heap.size ≤ q) qF)
    (e22 : Ex "java/lang/IndexOutOfBoundsException" 24 "no such register" 22 sa22 (fun q : Nat => s.heap.size ≤ q) s) (e67 : Ex "java/lang/IndexOutOfBoundsException" 24 "no room for four bytes there" 67 sa67 (fun q : Nat => s.heap.size ≤ q) s) (e79 : Ex "java/lang/IndexOutOfBoundsException" 24 "no such place" 79 sa79 (fun q : Nat => s.heap.size ≤ q) s) (e92 : Ex "java/lang/IllegalArgumentException" 94 "no such interrupt" 92 sa92 (fun q : Nat => s.heap.size ≤ q) s) (e95 : Ex "java/lang/IllegalArgumentException" 94 "not 0 to 500 steps" 95 sa95 (fun q : Nat => s.heap.size ≤ q) s) (e139 : Ex "java/lang/IllegalArgumentException" 94 "nothing is counted by this number" 139 sa139 (fun q : Nat => s.heap.size ≤ q) s)
    {n : Nat} (ih : ∀ (i : Nat) (q : SQ) (cd : Int32) (k : SC) (f : AJ), i ≤ L → L < i + 3 * n → n ≤ 100 → InvS q → ∀ (H : Heap) (locs : List Loc), va_P D vwCl (WL cB cI cJ q0 q1 q2 q3 q4 q5 q6 q7 q8 q9 q10 h0 h1 h2 h3 h4 h5 ho (xO q cd k, q, f)) H → va_D (fun q : Nat => s.heap.size ≤ q) (WL cB cI cJ q0 q1 q2 q3 q4 q5 q6 q7 q8 q9 q10 h0 h1 h2 h3 h4 h5 ho (xO q cd k, q, f)) → va_S (fun q : Nat => s.heap.size ≤ q) s.heap H locs → ∀ (ls : Array Slot), lv_has ls 7 [(0, .ref b), (1, .ref q10), (2, .ref h0), (3, .ref ho), (4, .int (nI i))] → W p l e room_1 s m #[Value.ref b] below meth c H locs (30 + (101 - n)) (200000 + 6 * (101 - n)) (lw_Z below #[Value.ref b] s) (F0 m 23 ls []))
    {i : Nat} {q : SQ} {cd : Int32} {k : SC} {f : AJ} (hi3 : i + 3 ≤ L) (hin : L < i + 3 * (n + 1)) (hn : n + 1 ≤ 100) (hn3 : nI i + 3 = nI (i + 3)) (hi1 : vp_in (nI i + 1) L) (hi2 : vp_in (nI i + 2) L) (hI : InvS q) {H : Heap} {locs : List Loc} (hP : va_P D vwCl (WL cB cI cJ q0 q1 q2 q3 q4 q5 q6 q7 q8 q9 q10 h0 h1 h2 h3 h4 h5 ho (xO q cd k, q, f)) H) (hD : va_D (fun q : Nat => s.heap.size ≤ q) (WL cB cI cJ q0 q1 q2 q3 q4 q5 q6 q7 q8 q9 q10 h0 h1 h2 h3 h4 h5 ho (xO q cd k, q, f))) (hS : va_S (fun q : Nat => s.heap.size ≤ q) s.heap H locs) {ls : Array Slot} (hl : lv_has ls 7 [(0, .ref b), (1, .ref q10), (2, .ref h0), (3, .ref ho), (4, .int (nI i))]) :
    W p l e room_1 s m #[Value.ref b] below meth c H locs (30 + (101 - (n + 1))) (200000 + 6 * (101 - (n + 1))) (lw_Z below #[Value.ref b] s) (F0 m 448 ls []) := by
  have hx := S.1
  have hb := S.2.1
  have hown := S.2.2.2.1
  have hts := S.2.2.2.2
  have hA : ∀ q : Nat, s.heap.size ≤ q → (fun q : Nat => s.heap.size ≤ q) q := fun _ h => h
  have hbA : ¬ (fun q : Nat => s.heap.size ≤ q) b := Nat.not_le.mpr hbl
  obtain ⟨rr, u1, k1, ⟨i1, t1⟩, m1, c1⟩ := jCount (k := k) (xs (nI i + 1).toNatClampNeg) hI
  refine lv_aload_n hx hb dL_law_448 rfl (lv_at hl 1 rfl) ?_
  refine lv_aload_n hx hb dL_law_449 rfl (lv_at hl 0 rfl) ?_
  refine lv_iload hx hb dL_law_450 (lv_at hl 4 rfl) ?_
  refine lv_iconst (v := (1 : Int32)) hx hb dL_law_452 (by decide) ?_
  refine lv_iadd hx hb dL_law_453 ?_
  refine va_sld hx hb hX hbl hbA hS hi1 dL_law_454 ?_
  refine lv_aload_n hx hb dL_law_455 rfl (lv_at hl 3 rfl) ?_
  refine clw_Si (As := [.ref q10, .int (xs (nI i + 1).toNatClampNeg), .ref ho]) (rest := []) (st := [.ref ho, .int (xs (nI i + 1).toNatClampNeg), .ref q10]) S (hK.sub [0, 1, 2] rfl) hA hP hD hS (fr_L_Y ((xO q cd k), q, f)) (kcL_count l hl9 D cB cI cJ sa139 q0 q1 q2 q3 q4 q5 q6 q7 q8 q9 q10 ho H.size (xs (nI i + 1).toNatClampNeg) (xO q cd k, f) (fun r v => r = q_thrown u1 ∧ (∃ cd2, v.1 = xO u1 cd2 k1) ∧ (q_thrown u1 = 0 → v.2 0 = rr.toInt64)) (c1 (fun r v => (fun r v => r = q_thrown u1 ∧ (∃ cd2, v.1 = xO u1 cd2 k1) ∧ (q_thrown u1 = 0 → v.2 0 = rr.toInt64)) 0 (v, vp_updL f 0 r.toInt64)) (fun v => (fun r v => r = q_thrown u1 ∧ (∃ cd2, v.1 = xO u1 cd2 k1) ∧ (q_thrown u1 = 0 → v.2 0 = rr.toInt64)) 1 (v, f)) cd (fun t cd2 => ⟨t.symm, ⟨cd2, rfl⟩, fun _ => upd_0 f _⟩) (fun t cd2 => ⟨t.symm, ⟨cd2, rfl⟩, fun z => absurd (t.symm.trans z) (by decide)⟩))) (vx_cwSW 3 hts gL_law_L_count rfl rfl rfl (by decide +kernel) ⟨Nat.le_of_ble_eq_true rfl, Nat.le_of_ble_eq_true rfl⟩) (ex_call e139 hA hD hS (fr_L_Y ((xO q cd k), q, f))) tx_b rfl rfl hl.1 (Nat.le_of_ble_eq_true rfl) dL_law_456 ⟨roC (by omega), roS (by omega)⟩ (fun r v H locs hP hD hS hw => ?_)
  obtain ⟨v1, v2⟩ := v
  obtain ⟨rfl, ⟨cd2, hv⟩, hf⟩ := hw
  replace hv : v1 = xO u1 cd2 k1 := hv
  subst hv
  replace hf : q_thrown u1 = 0 → v2 0 = rr.toInt64 := hf
  replace hP : va_P D vwCl (WL cB cI cJ q0 q1 q2 q3 q4 q5 q6 q7 q8 q9 q10 h0 h1 h2 h3 h4 h5 ho ((xO u1 cd2 k1), q, v2)) H := hP
  replace hD : va_D (fun q : Nat => s.heap.size ≤ q) (WL cB cI cJ q0 q1 q2 q3 q4 q5 q6 q7 q8 q9 q10 h0 h1 h2 h3 h4 h5 ho ((xO u1 cd2 k1), q, v2)) := hD
  refine lv_istore (lv' := [(5, .int (q_thrown u1)), (0, .ref b), (1, .ref q10), (2, .ref h0), (3, .ref ho), (4, .int (nI i))]) hx hb dL_law_459 hl (by decide) rfl (fun ls hl => ?_)
  refine lv_aload_n hx hb dL_law_461 rfl (lv_at hl 3 rfl) ?_
  refine lv_aload_n hx hb dL_law_462 rfl (lv_at hl 1 rfl) ?_
  refine lv_iload hx hb dL_law_463 (lv_at hl 5 rfl) ?_
  refine lv_iconst (v := (1 : Int32)) hx hb dL_law_465 (by decide) ?_
  refine lv_iadd hx hb dL_law_466 ?_
  refine va_sld hx hb hX hbl hbA hS hi1 dL_law_467 ?_
  refine cl_Vi (As := [.int (xs (nI i + 1).toNatClampNeg)]) (rest := []) (st := [.int (xs (nI i + 1).toNatClampNeg), .ref h0]) S (hK.sub [0, 1] rfl) hA hP hD hS (fr_L_Q ((xO u1 cd2 k1), q, v2)) (kcX6_count l D cB cI h0 h1 h2 h3 h4 h5 H.size (xs (nI i + 1).toNatClampNeg) q (fun r u => rr = r ∧ u1 = u) (m1 _ ⟨rfl, rfl⟩)) (cwV 1 hts gL_law_X6_count rfl rfl rfl (by decide +kernel) ⟨Nat.le_of_ble_eq_true rfl, Nat.le_of_ble_eq_true rfl⟩) tru_h tru_b 11 rfl rfl rfl rfl rfl hl.1 (Nat.le_of_ble_eq_true rfl) dL_law_468 ⟨roC (by omega), roS (by omega)⟩ (fun r v H locs hP hD hS hw => ?_)
  obtain ⟨rfl, rfl⟩ := hw
  replace hP : va_P D vwCl (WL cB cI cJ q0 q1 q2 q3 q4 q5 q6 q7 q8 q9 q10 h0 h1 h2 h3 h4 h5 ho ((xO u1 cd2 k1), u1, v2)) H := hP
  replace hD : va_D (fun q : Nat => s.heap.size ≤ q) (WL cB cI cJ q0 q1 q2 q3 q4 q5 q6 q7 q8 q9 q10 h0 h1 h2 h3 h4 h5 ho ((xO u1 cd2 k1), u1, v2)) := hD
  refine lv_istore (lv' := [(6, .int rr), (5, .int (q_thrown u1)), (0, .ref b), (1, .ref q10), (2, .ref h0), (3, .ref ho), (4, .int (nI i))]) hx hb dL_law_471 hl (by decide) rfl (fun ls hl => ?_)
  refine lv_aload_n hx hb dL_law_473 rfl (lv_at hl 4 rfl) ?_
  refine cl_Vi (As := []) (rest := []) (st := [.ref h0]) S (hK.sub [0, 1] rfl) hA hP hD hS (fr_L_Q ((xO u1 cd2 k1), u1, v2)) (kcX6_thrown l D cB cI h0 h1 h2 h3 h4 h5 H.size u1 (fun r u => r = q_thrown u1 ∧ u1 = u) ⟨rfl, rfl⟩) (cwV 0 hts gL_law_X6_thrown rfl rfl rfl (by decide +kernel) ⟨Nat.le_of_ble_eq_true rfl, Nat.le_of_ble_eq_true rfl⟩) tru_h tru_b 11 rfl rfl rfl rfl rfl hl.1 (Nat.le_of_ble_eq_true rfl) dL_law_474 ⟨roC (by omega), roS (by omega)⟩ (fun r v H locs hP hD hS hw => ?_)
  obtain ⟨rfl, rfl⟩ := hw
  replace hP : va_P D vwCl (WL cB cI cJ q0 q1 q2 q3 q4 q5 q6 q7 q8 q9 q10 h0 h1 h2 h3 h4 h5 ho ((xO u1 cd2 k1), u1, v2)) H := hP
  replace hD : va_D (fun q : Nat => s.heap.size ≤ q) (WL cB cI cJ q0 q1 q2 q3 q4 q5 q6 q7 q8 q9 q10 h0 h1 h2 h3 h4 h5 ho ((xO u1 cd2 k1), u1, v2)) := hD
  refine lv_iload hx hb dL_law_477 (lv_at hl 1 rfl) ?_
  refine lv_icmp_eq (tgt := 484) hx hb dL_law_479 (by decide) (fun c8 => ?_) (fun c8 => absurd rfl c8)
  refine lv_iload hx hb dL_law_484 (lv_at hl 1 rfl) ?_
  refine lv_if_ne (tgt := 501) hx hb dL_law_486 (by decide) (fun c8 => ?_) (fun c8 => ?_)
  · refine lv_goto (tgt := 504) hx hb dL_law_501 (by decide) ?_
    refine lv_iinc (v := nI i + 3) (lv' := [(4, .int (nI i + 3)), (6, .int rr), (5, .int (q_thrown u1)), (0, .ref b), (1, .ref q10), (2, .ref h0), (3, .ref ho)]) hx hb dL_law_504 hl (k := 6) rfl rfl (by decide) rfl (fun ls hl => ?_)
    refine lv_goto (tgt := 23) hx hb dL_law_507 (by decide) ?_
    refine W.widen (k := 30 + (101 - n)) (n := 200000 + 6 * (101 - n)) (by omega) (by omega) ?_
    exact ih (i + 3) u1 cd2 k1 v2 (by omega) (by omega) (by omega) i1 H locs hP hD hS ls (by rw [← hn3]; exact lv_sub hl [3, 4, 5, 6, 0] rfl)
  · refine lv_aload_n hx hb dL_law_489 rfl (lv_at hl 5 rfl) ?_
    refine lv_iconst (v := (0 : Int32)) hx hb dL_law_490 (by decide) ?_
    refine va_lald hx hb hK hP 17 2 (f := v2) rfl rfl (i := 0) (by unfold vp_in; decide) dL_law_491 ?_
    refine lv_iload hx hb dL_law_492 (lv_at hl 0 rfl) ?_
    refine lv_i2l (v := rr.toInt64) hx hb dL_law_494 rfl ?_
    refine W.lcmp hx hb dL_law_495 ?_
    refine lv_if_eq (tgt := 501) hx hb dL_law_496 (by decide) (fun c9 => ?_) (fun c9 => absurd (by rw [show (0 : Int32).toNatClampNeg = 0 from rfl, hf c8]; exact cmp_self _) c9)
    refine lv_goto (tgt := 504) hx hb dL_law_501 (by decide) ?_
    refine lv_iinc (v := nI i + 3) (lv' := [(4, .int (nI i + 3)), (6, .int rr), (5, .int (q_thrown u1)), (0, .ref b), (1, .ref q10), (2, .ref h0), (3, .ref ho)]) hx hb dL_law_504 hl (k := 6) rfl rfl (by decide) rfl (fun ls hl => ?_)
    refine lv_goto (tgt := 23) hx hb dL_law_507 (by decide) ?_
    refine W.widen (k := 30 + (101 - n)) (n := 200000 + 6 * (101 - n)) (by omega) (by omega) ?_
    exact ih (i + 3) u1 cd2 k1 v2 (by omega) (by omega) (by omega) i1 H locs hP hD hS ls (by rw [← hn3]; exact lv_sub hl [3, 4, 5, 6, 0] rfl)
