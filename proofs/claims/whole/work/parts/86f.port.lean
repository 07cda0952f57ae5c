set_option maxHeartbeats 8000000 in
set_option maxRecDepth 100000 in
theorem law_port {p : Program} {l : Launch} {e : Env} {s : State} {m : MethodId} {below : List Frame} {meth : Method} {c : Code} {D : va_G} {cB cI cJ : ClassId} {b L qF sa22 sa67 sa79 sa92 sa95 sa139 : Nat} {xs : Nat → Int32} {q0 q1 q2 q3 q4 q5 q6 q7 q8 q9 q10 h0 h1 h2 h3 h4 h5 ho : Nat} (hl9 : l.stackTraces = false) (hL : L ≤ 192) (S : CallFix p m c code 7 s #[Value.ref b] wsL_law RL) (hr : meth.sig.returnType = ret) (hlocks : meth.locks = false) (hX : va_X b L xs s s.heap) (hbl : b < s.heap.size) (hK : va_K D vwCl (tyJ cB cI cJ) s)
    (eF : va_Z RX1 "FORMS" "[I" (.ref qF) (fun q : Nat => s.heap.size ≤ q) s s.heap ∧ va_X qF 256 formsF s s.heap ∧ qF < s.heap.size ∧ ¬ (fun q : Nat => s.heap.size ≤ q) qF)
    (e22 : Ex "java/lang/IndexOutOfBoundsException" 24 "no such register" 22 sa22 (fun q : Nat => s.heap.size ≤ q) s) (e67 : Ex "java/lang/IndexOutOfBoundsException" 24 "no room for four bytes there" 67 sa67 (fun q : Nat => s.heap.size ≤ q) s) (e79 : Ex "java/lang/IndexOutOfBoundsException" 24 "no such place" 79 sa79 (fun q : Nat => s.heap.size ≤ q) s) (e92 : Ex "java/lang/IllegalArgumentException" 94 "no such interrupt" 92 sa92 (fun q : Nat => s.heap.size ≤ q) s) (e95 : Ex "java/lang/IllegalArgumentException" 94 "not 0 to 500 steps" 95 sa95 (fun q : Nat => s.heap.size ≤ q) s) (e139 : Ex "java/lang/IllegalArgumentException" 94 "nothing is counted by this number" 139 sa139 (fun q : Nat => s.heap.size ≤ q) s)
    {n : Nat} (ih : ∀ (i : Nat) (q : SQ) (cd : Int32) (k : SC) (f : AJ), i ≤ L → L < i + 3 * n → n ≤ 100 → InvS q → ∀ (H : Heap) (locs : List Loc), va_P D vwCl (WL cB cI cJ q0 q1 q2 q3 q4 q5 q6 q7 q8 q9 q10 h0 h1 h2 h3 h4 h5 ho (xO q cd k, q, f)) H → va_D (fun q : Nat => s.heap.size ≤ q) (WL cB cI cJ q0 q1 q2 q3 q4 q5 q6 q7 q8 q9 q10 h0 h1 h2 h3 h4 h5 ho (xO q cd k, q, f)) → va_S (fun q : Nat => s.heap.size ≤ q) s.heap H locs → ∀ (ls : Array Slot), lv_has ls 7 [(0, .ref b), (1, .ref q10), (2, .ref h0), (3, .ref ho), (4, .int (nI i))] → W p l e room_1 s m #[Value.ref b] below meth c H locs (30 + (101 - n)) (200000 + 6 * (101 - n)) (lw_Z below #[Value.ref b] s) (F0 m 23 ls []))
    {i : Nat} {q : SQ} {cd : Int32} {k : SC} {f : AJ} (hi3 : i + 3 ≤ L) (hin : L < i + 3 * (n + 1)) (hn : n + 1 ≤ 100) (hn3 : nI i + 3 = nI (i + 3)) (hi1 : vp_in (nI i + 1) L) (hi2 : vp_in (nI i + 2) L) (hI : InvS q) {H : Heap} {locs : List Loc} (hP : va_P D vwCl (WL cB cI cJ q0 q1 q2 q3 q4 q5 q6 q7 q8 q9 q10 h0 h1 h2 h3 h4 h5 ho (xO q cd k, q, f)) H) (hD : va_D (fun q : Nat => s.heap.size ≤ q) (WL cB cI cJ q0 q1 q2 q3 q4 q5 q6 q7 q8 q9 q10 h0 h1 h2 h3 h4 h5 ho (xO q cd k, q, f))) (hS : va_S (fun q : Nat => s.heap.size ≤ q) s.heap H locs) {ls : Array Slot} (hl : lv_has ls 7 [(0, .ref b), (1, .ref q10), (2, .ref h0), (3, .ref ho), (4, .int (nI i))]) :
    W p l e room_1 s m #[Value.ref b] below meth c H locs (30 + (101 - (n + 1))) (200000 + 6 * (101 - (n + 1))) (lw_Z below #[Value.ref b] s) (F0 m 296 ls []) := by
  have hx := S.1
  have hb := S.2.1
  have hown := S.2.2.2.1
  have hts := S.2.2.2.2
  have hA : ∀ q : Nat, s.heap.size ≤ q → (fun q : Nat => s.heap.size ≤ q) q := fun _ h => h
  have hbA : ¬ (fun q : Nat => s.heap.size ≤ q) b := Nat.not_le.mpr hbl
  obtain ⟨rr, u1, k1, ⟨i1, t1⟩, m1, c1⟩ := jPort (k := k) (xs (nI i + 1).toNatClampNeg) hI
  refine lv_aload_n hx hb dL_law_296 rfl (lv_at hl 1 rfl) ?_
  refine lv_aload_n hx hb dL_law_297 rfl (lv_at hl 0 rfl) ?_
  refine lv_iload hx hb dL_law_298 (lv_at hl 4 rfl) ?_
  refine lv_iconst (v := (1 : Int32)) hx hb dL_law_300 (by decide) ?_
  refine lv_iadd hx hb dL_law_301 ?_
  refine va_sld hx hb hX hbl hbA hS hi1 dL_law_302 ?_
  refine cl_Vi (As := [.int (xs (nI i + 1).toNatClampNeg)]) (rest := []) (st := [.int (xs (nI i + 1).toNatClampNeg), .ref q10]) S (hK.sub [0, 1] rfl) hA hP hD hS (fr_L_X ((xO q cd k), q, f)) (kcX5_port l D cB cI q0 q1 q2 q3 q4 q5 q6 q7 q8 q9 q10 H.size (xs (nI i + 1).toNatClampNeg) (xO q cd k) (fun r v => rr = r ∧ ∃ cd2, v = xO u1 cd2 k1) (c1 (fun r v => rr = r ∧ ∃ cd2, v = xO u1 cd2 k1) (fun _ => True) cd (fun _ cd2 => ⟨rfl, cd2, rfl⟩) (fun _ _ => trivial))) (cwV 1 hts gL_law_X5_port rfl rfl rfl (by decide +kernel) ⟨Nat.le_of_ble_eq_true rfl, Nat.le_of_ble_eq_true rfl⟩) tru_h tru_b 0 rfl rfl rfl rfl rfl hl.1 (Nat.le_of_ble_eq_true rfl) dL_law_303 ⟨roC (by omega), roS (by omega)⟩ (fun r v H locs hP hD hS hw => ?_)
  obtain ⟨rfl, cd2, rfl⟩ := hw
  replace hP : va_P D vwCl (WL cB cI cJ q0 q1 q2 q3 q4 q5 q6 q7 q8 q9 q10 h0 h1 h2 h3 h4 h5 ho ((xO u1 cd2 k1), q, f)) H := hP
  replace hD : va_D (fun q : Nat => s.heap.size ≤ q) (WL cB cI cJ q0 q1 q2 q3 q4 q5 q6 q7 q8 q9 q10 h0 h1 h2 h3 h4 h5 ho ((xO u1 cd2 k1), q, f)) := hD
  refine lv_aload_n hx hb dL_law_306 rfl (lv_at hl 2 rfl) ?_
  refine lv_aload_n hx hb dL_law_307 rfl (lv_at hl 0 rfl) ?_
  refine lv_iload hx hb dL_law_308 (lv_at hl 4 rfl) ?_
  refine lv_iconst (v := (1 : Int32)) hx hb dL_law_310 (by decide) ?_
  refine lv_iadd hx hb dL_law_311 ?_
  refine va_sld hx hb hX hbl hbA hS hi1 dL_law_312 ?_
  refine cl_Vi (As := [.int (xs (nI i + 1).toNatClampNeg)]) (rest := [.int rr]) (st := [.int (xs (nI i + 1).toNatClampNeg), .ref h0, .int rr]) S (hK.sub [0, 1] rfl) hA hP hD hS (fr_L_Q ((xO u1 cd2 k1), q, f)) (kcX6_port l D cB cI h0 h1 h2 h3 h4 h5 H.size (xs (nI i + 1).toNatClampNeg) q (fun r u => rr = r ∧ u1 = u) (m1 _ ⟨rfl, rfl⟩)) (cwV 1 hts gL_law_X6_port rfl rfl rfl (by decide +kernel) ⟨Nat.le_of_ble_eq_true rfl, Nat.le_of_ble_eq_true rfl⟩) tru_h tru_b 11 rfl rfl rfl rfl rfl hl.1 (Nat.le_of_ble_eq_true rfl) dL_law_313 ⟨roC (by omega), roS (by omega)⟩ (fun r v H locs hP hD hS hw => ?_)
  obtain ⟨rfl, rfl⟩ := hw
  replace hP : va_P D vwCl (WL cB cI cJ q0 q1 q2 q3 q4 q5 q6 q7 q8 q9 q10 h0 h1 h2 h3 h4 h5 ho ((xO u1 cd2 k1), u1, f)) H := hP
  replace hD : va_D (fun q : Nat => s.heap.size ≤ q) (WL cB cI cJ q0 q1 q2 q3 q4 q5 q6 q7 q8 q9 q10 h0 h1 h2 h3 h4 h5 ho ((xO u1 cd2 k1), u1, f)) := hD
  refine lv_icmp_eq (tgt := 504) hx hb dL_law_316 (by decide) (fun c8 => ?_) (fun c8 => absurd rfl c8)
  refine lv_iinc (v := nI i + 3) (lv' := [(4, .int (nI i + 3)), (0, .ref b), (1, .ref q10), (2, .ref h0), (3, .ref ho)]) hx hb dL_law_504 hl (k := 4) rfl rfl (by decide) rfl (fun ls hl => ?_)
  refine lv_goto (tgt := 23) hx hb dL_law_507 (by decide) ?_
  refine W.widen (k := 30 + (101 - n)) (n := 200000 + 6 * (101 - n)) (by omega) (by omega) ?_
  exact ih (i + 3) u1 cd2 k1 f (by omega) (by omega) (by omega) i1 H locs hP hD hS ls (by rw [← hn3]; exact lv_sub hl [1, 2, 3, 4, 0] rfl)

