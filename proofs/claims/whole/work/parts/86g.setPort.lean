set_option maxHeartbeats 8000000 in
set_option maxRecDepth 100000 in
theorem law_setPort {p : Program} {l : Launch} {e : Env} {s : State} {m : MethodId} {below : List Frame} {meth : Method} {c : Code} {D : va_G} {cB cI cJ : ClassId} {b L qF sa22 sa67 sa79 sa92 sa95 sa139 : Nat} {xs : Nat → Int32} {q0 q1 q2 q3 q4 q5 q6 q7 q8 q9 q10 h0 h1 h2 h3 h4 h5 ho : Nat} (hl9 : l.stackTraces = false) (hL : L ≤ 192) (S : CallFix p m c code 7 s #[Value.ref b] wsL_law RL) (hr : meth.sig.returnType = ret) (hlocks : meth.locks = false) (hX : va_X b L xs s s.heap) (hbl : b < s.heap.size) (hK : va_K D vwCl (tyJ cB cI cJ) s)
    (eF : va_Z RX1 "FORMS" "[I" (.ref qF) (fun q : Nat => s.heap.size ≤ q) s s.heap ∧ va_X qF 256 formsF s s.heap ∧ qF < s.heap.size ∧ ¬ (fun q : Nat => s.heap.size ≤ q) qF)
    (e22 : Ex "java/lang/IndexOutOfBoundsException" 24 "no such register" 22 sa22 (fun q : Nat => s.heap.size ≤ q) s) (e67 : Ex "java/lang/IndexOutOfBoundsException" 24 "no room for four bytes there" 67 sa67 (fun q : Nat => s.heap.size ≤ q) s) (e79 : Ex "java/lang/IndexOutOfBoundsException" 24 "no such place" 79 sa79 (fun q : Nat => s.heap.size ≤ q) s) (e92 : Ex "java/lang/IllegalArgumentException" 94 "no such interrupt" 92 sa92 (fun q : Nat => s.heap.size ≤ q) s) (e95 : Ex "java/lang/IllegalArgumentException" 94 "not 0 to 500 steps" 95 sa95 (fun q : Nat => s.heap.size ≤ q) s) (e139 : Ex "java/lang/IllegalArgumentException" 94 "nothing is counted by this number" 139 sa139 (fun q : Nat => s.heap.size ≤ q) s)
    {n : Nat} (ih : ∀ (i : Nat) (q : SQ) (cd : Int32) (k : SC) (f : AJ), i ≤ L → L < i + 3 * n → n ≤ 100 → InvS q → ∀ (H : Heap) (locs : List Loc), va_P D vwCl (WL cB cI cJ q0 q1 q2 q3 q4 q5 q6 q7 q8 q9 q10 h0 h1 h2 h3 h4 h5 ho (xO q cd k, q, f)) H → va_D (fun q : Nat => s.heap.size ≤ q) (WL cB cI cJ q0 q1 q2 q3 q4 q5 q6 q7 q8 q9 q10 h0 h1 h2 h3 h4 h5 ho (xO q cd k, q, f)) → va_S (fun q : Nat => s.heap.size ≤ q) s.heap H locs → ∀ (ls : Array Slot), lv_has ls 7 [(0, .ref b), (1, .ref q10), (2, .ref h0), (3, .ref ho), (4, .int (nI i))] → W p l e room_1 s m #[Value.ref b] below meth c H locs (30 + (101 - n)) (200000 + 6 * (101 - n)) (lw_Z below #[Value.ref b] s) (F0 m 23 ls []))
    {i : Nat} {q : SQ} {cd : Int32} {k : SC} {f : AJ} (hi3 : i + 3 ≤ L) (hin : L < i + 3 * (n + 1)) (hn : n + 1 ≤ 100) (hn3 : nI i + 3 = nI (i + 3)) (hi1 : vp_in (nI i + 1) L) (hi2 : vp_in (nI i + 2) L) (hI : InvS q) {H : Heap} {locs : List Loc} (hP : va_P D vwCl (WL cB cI cJ q0 q1 q2 q3 q4 q5 q6 q7 q8 q9 q10 h0 h1 h2 h3 h4 h5 ho (xO q cd k, q, f)) H) (hD : va_D (fun q : Nat => s.heap.size ≤ q) (WL cB cI cJ q0 q1 q2 q3 q4 q5 q6 q7 q8 q9 q10 h0 h1 h2 h3 h4 h5 ho (xO q cd k, q, f))) (hS : va_S (fun q : Nat => s.heap.size ≤ q) s.heap H locs) {ls : Array Slot} (hl : lv_has ls 7 [(0, .ref b), (1, .ref q10), (2, .ref h0), (3, .ref ho), (4, .int (nI i))]) :
    W p l e room_1 s m #[Value.ref b] below meth c H locs (30 + (101 - (n + 1))) (200000 + 6 * (101 - (n + 1))) (lw_Z below #[Value.ref b] s) (F0 m 321 ls []) := by
  have hx := S.1
  have hb := S.2.1
  have hown := S.2.2.2.1
  have hts := S.2.2.2.2
  have hA : ∀ q : Nat, s.heap.size ≤ q → (fun q : Nat => s.heap.size ≤ q) q := fun _ h => h
  have hbA : ¬ (fun q : Nat => s.heap.size ≤ q) b := Nat.not_le.mpr hbl
  obtain ⟨u1, k1, ⟨i1, t1⟩, m1, c1⟩ := jSetPort (k := k) (xs (nI i + 1).toNatClampNeg) (xs (nI i + 2).toNatClampNeg) hI
  refine lv_aload_n hx hb dL_law_321 rfl (lv_at hl 1 rfl) ?_
  refine lv_aload_n hx hb dL_law_322 rfl (lv_at hl 0 rfl) ?_
  refine lv_iload hx hb dL_law_323 (lv_at hl 4 rfl) ?_
  refine lv_iconst (v := (1 : Int32)) hx hb dL_law_325 (by decide) ?_
  refine lv_iadd hx hb dL_law_326 ?_
  refine va_sld hx hb hX hbl hbA hS hi1 dL_law_327 ?_
  refine lv_aload_n hx hb dL_law_328 rfl (lv_at hl 0 rfl) ?_
  refine lv_iload hx hb dL_law_329 (lv_at hl 4 rfl) ?_
  refine lv_iconst (v := (2 : Int32)) hx hb dL_law_331 (by decide) ?_
  refine lv_iadd hx hb dL_law_332 ?_
  refine va_sld hx hb hX hbl hbA hS hi2 dL_law_333 ?_
  refine cl_Vv (As := [.int (xs (nI i + 1).toNatClampNeg), .int (xs (nI i + 2).toNatClampNeg)]) (rest := []) (st := [.int (xs (nI i + 2).toNatClampNeg), .int (xs (nI i + 1).toNatClampNeg), .ref q10]) S (hK.sub [0, 1] rfl) hA hP hD hS (fr_L_X ((xO q cd k), q, f)) (kcX5_setPort l D cB cI q0 q1 q2 q3 q4 q5 q6 q7 q8 q9 q10 H.size (xs (nI i + 1).toNatClampNeg) (xs (nI i + 2).toNatClampNeg) (xO q cd k) (fun v => ∃ cd2, v = xO u1 cd2 k1) (c1 (fun v => ∃ cd2, v = xO u1 cd2 k1) (fun _ => True) cd (fun _ cd2 => ⟨cd2, rfl⟩) (fun _ _ => trivial))) (cwV 2 hts gL_law_X5_setPort rfl rfl rfl (by decide +kernel) ⟨Nat.le_of_ble_eq_true rfl, Nat.le_of_ble_eq_true rfl⟩) tru_h tru_b 0 rfl rfl rfl rfl rfl hl.1 (Nat.le_of_ble_eq_true rfl) dL_law_334 ⟨roC (by omega), roS (by omega)⟩ (fun v H locs hP hD hS hw => ?_)
  obtain ⟨cd2, rfl⟩ := hw
  replace hP : va_P D vwCl (WL cB cI cJ q0 q1 q2 q3 q4 q5 q6 q7 q8 q9 q10 h0 h1 h2 h3 h4 h5 ho ((xO u1 cd2 k1), q, f)) H := hP
  replace hD : va_D (fun q : Nat => s.heap.size ≤ q) (WL cB cI cJ q0 q1 q2 q3 q4 q5 q6 q7 q8 q9 q10 h0 h1 h2 h3 h4 h5 ho ((xO u1 cd2 k1), q, f)) := hD
  refine lv_aload_n hx hb dL_law_337 rfl (lv_at hl 2 rfl) ?_
  refine lv_aload_n hx hb dL_law_338 rfl (lv_at hl 0 rfl) ?_
  refine lv_iload hx hb dL_law_339 (lv_at hl 4 rfl) ?_
  refine lv_iconst (v := (1 : Int32)) hx hb dL_law_341 (by decide) ?_
  refine lv_iadd hx hb dL_law_342 ?_
  refine va_sld hx hb hX hbl hbA hS hi1 dL_law_343 ?_
  refine lv_aload_n hx hb dL_law_344 rfl (lv_at hl 0 rfl) ?_
  refine lv_iload hx hb dL_law_345 (lv_at hl 4 rfl) ?_
  refine lv_iconst (v := (2 : Int32)) hx hb dL_law_347 (by decide) ?_
  refine lv_iadd hx hb dL_law_348 ?_
  refine va_sld hx hb hX hbl hbA hS hi2 dL_law_349 ?_
  refine cl_Vv (As := [.int (xs (nI i + 1).toNatClampNeg), .int (xs (nI i + 2).toNatClampNeg)]) (rest := []) (st := [.int (xs (nI i + 2).toNatClampNeg), .int (xs (nI i + 1).toNatClampNeg), .ref h0]) S (hK.sub [0, 1] rfl) hA hP hD hS (fr_L_Q ((xO u1 cd2 k1), q, f)) (kcX6_setPort l D cB cI h0 h1 h2 h3 h4 h5 H.size (xs (nI i + 1).toNatClampNeg) (xs (nI i + 2).toNatClampNeg) q (fun u => u1 = u) (m1 _ rfl)) (cwV 2 hts gL_law_X6_setPort rfl rfl rfl (by decide +kernel) ⟨Nat.le_of_ble_eq_true rfl, Nat.le_of_ble_eq_true rfl⟩) tru_h tru_b 11 rfl rfl rfl rfl rfl hl.1 (Nat.le_of_ble_eq_true rfl) dL_law_350 ⟨roC (by omega), roS (by omega)⟩ (fun v H locs hP hD hS hw => ?_)
  subst hw
  replace hP : va_P D vwCl (WL cB cI cJ q0 q1 q2 q3 q4 q5 q6 q7 q8 q9 q10 h0 h1 h2 h3 h4 h5 ho ((xO u1 cd2 k1), u1, f)) H := hP
  replace hD : va_D (fun q : Nat => s.heap.size ≤ q) (WL cB cI cJ q0 q1 q2 q3 q4 q5 q6 q7 q8 q9 q10 h0 h1 h2 h3 h4 h5 ho ((xO u1 cd2 k1), u1, f)) := hD
  refine lv_goto (tgt := 504) hx hb dL_law_353 (by decide) ?_
  refine lv_iinc (v := nI i + 3) (lv' := [(4, .int (nI i + 3)), (0, .ref b), (1, .ref q10), (2, .ref h0), (3, .ref ho)]) hx hb dL_law_504 hl (k := 4) rfl rfl (by decide) rfl (fun ls hl => ?_)
  refine lv_goto (tgt := 23) hx hb dL_law_507 (by decide) ?_
  refine W.widen (k := 30 + (101 - n)) (n := 200000 + 6 * (101 - n)) (by omega) (by omega) ?_
  exact ih (i + 3) u1 cd2 k1 f (by omega) (by omega) (by omega) i1 H locs hP hD hS ls (by rw [← hn3]; exact lv_sub hl [1, 2, 3, 4, 0] rfl)

