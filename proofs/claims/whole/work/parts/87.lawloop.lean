set_option maxHeartbeats 8000000 in
set_option maxRecDepth 100000 in
theorem law_loop {p : Program} {l : Launch} {e : Env} {s : State} {m : MethodId} {below : List Frame} {meth : Method} {c : Code} {D : va_G} {cB cI cJ : ClassId} {b L qF sa22 sa67 sa79 sa92 sa95 sa139 : Nat} {xs : Nat → Int32} {q0 q1 q2 q3 q4 q5 q6 q7 q8 q9 q10 h0 h1 h2 h3 h4 h5 ho : Nat} (hl9 : l.stackTraces = false) (hL : L ≤ 192) (S : CallFix p m c code 7 s #[Value.ref b] wsL_law RL) (hr : meth.sig.returnType = ret) (hlocks : meth.locks = false) (hX : va_X b L xs s s.heap) (hbl : b < s.heap.size) (hK : va_K D vwCl (tyJ cB cI cJ) s)
    (eF : va_Z RX1 "FORMS" "[I" (.ref qF) (fun q : Nat => s.heap.size ≤ q) s s.heap ∧ va_X qF 256 formsF s s.heap ∧ qF < s.heap.size ∧ ¬ (fun q : Nat => s.heap.size ≤ q) qF)
    (e22 : Ex "java/lang/IndexOutOfBoundsException" 24 "no such register" 22 sa22 (fun q : Nat => s.heap.size ≤ q) s) (e67 : Ex "java/lang/IndexOutOfBoundsException" 24 "no room for four bytes there" 67 sa67 (fun q : Nat => s.heap.size ≤ q) s) (e79 : Ex "java/lang/IndexOutOfBoundsException" 24 "no such place" 79 sa79 (fun q : Nat => s.heap.size ≤ q) s) (e92 : Ex "java/lang/IllegalArgumentException" 94 "no such interrupt" 92 sa92 (fun q : Nat => s.heap.size ≤ q) s) (e95 : Ex "java/lang/IllegalArgumentException" 94 "not 0 to 500 steps" 95 sa95 (fun q : Nat => s.heap.size ≤ q) s) (e139 : Ex "java/lang/IllegalArgumentException" 94 "nothing is counted by this number" 139 sa139 (fun q : Nat => s.heap.size ≤ q) s)

    : ∀ (n i : Nat) (q : SQ) (cd : Int32) (k : SC) (f : AJ), i ≤ L → L < i + 3 * n → n ≤ 100 → InvS q → ∀ (H : Heap) (locs : List Loc), va_P D vwCl (WL cB cI cJ q0 q1 q2 q3 q4 q5 q6 q7 q8 q9 q10 h0 h1 h2 h3 h4 h5 ho (xO q cd k, q, f)) H → va_D (fun q : Nat => s.heap.size ≤ q) (WL cB cI cJ q0 q1 q2 q3 q4 q5 q6 q7 q8 q9 q10 h0 h1 h2 h3 h4 h5 ho (xO q cd k, q, f)) → va_S (fun q : Nat => s.heap.size ≤ q) s.heap H locs → ∀ (ls : Array Slot), lv_has ls 7 [(0, .ref b), (1, .ref q10), (2, .ref h0), (3, .ref ho), (4, .int (nI i))] → W p l e room_1 s m #[Value.ref b] below meth c H locs (30 + (101 - n)) (200000 + 6 * (101 - n)) (lw_Z below #[Value.ref b] s) (F0 m 23 ls []) := by
  have hx := S.1
  have hb := S.2.1
  have hown := S.2.2.2.1
  have hts := S.2.2.2.2
  have hA : ∀ q : Nat, s.heap.size ≤ q → (fun q : Nat => s.heap.size ≤ q) q := fun _ h => h
  have hbA : ¬ (fun q : Nat => s.heap.size ≤ q) b := Nat.not_le.mpr hbl
  intro n
  induction n with
  | zero =>
    intro i q cd k f h1 h2
    exact absurd h2 (by omega)
  | succ n ih =>
    intro i q cd k f hi hin hn hI H locs hP hD hS ls hl
    have oL : (Int32.ofNat L).toInt = (L : Int) := ti_nI (n := L) (by omega)
    have oI : (nI i).toInt = (i : Int) := ti_nI (by omega)
    have e3 : (3 : Int32).toInt = 3 := rfl
    have eL3 : (Int32.ofNat L - 3).toInt = (L : Int) - 3 := by rw [ti_sub (by omega) (by omega), oL, e3]
    refine lv_iload hx hb dL_law_23 (lv_at hl 4 rfl) ?_
    refine lv_aload_n hx hb dL_law_25 rfl (lv_at hl 0 rfl) ?_
    refine va_slen hx hb hX hbl hbA hS dL_law_26 ?_
    refine lv_iconst (v := (3 : Int32)) hx hb dL_law_27 (by decide) ?_
    refine lv_isub hx hb dL_law_28 ?_
    refine lv_icmp_gt (tgt := 510) hx hb dL_law_29 (by decide) (fun c9 => ?_) (fun c9 => ?_)
    · refine lv_iconst (v := (1 : Int32)) hx hb dL_law_510 (by decide) ?_
      refine va_forget (fun q hq => hS.2.2 q hq) ?_
      refine W.widen (k := 600128) (n := 7301098) (by omega) (by omega) ?_
      exact lw_ret hx hb hr hlocks dL_law_511
    · have hi3 : i + 3 ≤ L := by
        have h3 : ¬ (Int32.ofNat L - 3).toInt < (nI i).toInt := fun z => c9 (ti_lt.mpr z)
        omega
      have e1 : (1 : Int32).toInt = 1 := rfl
      have e2 : (2 : Int32).toInt = 2 := rfl
      have hi0 : vp_in (nI i) L := ti_in (by omega) (by omega)
      have hi1 : vp_in (nI i + 1) L := by
        have := ti_add (x := nI i) (y := 1) (by omega) (by omega)
        exact ti_in (by omega) (by omega)
      have hi2 : vp_in (nI i + 2) L := by
        have := ti_add (x := nI i) (y := 2) (by omega) (by omega)
        exact ti_in (by omega) (by omega)
      have hn3 : nI i + 3 = nI (i + 3) := ti_ext (by
        have := ti_add (x := nI i) (y := 3) (by omega) (by omega)
        have := ti_nI (n := i + 3) (by omega)
        omega)
      refine lv_aload_n hx hb dL_law_32 rfl (lv_at hl 0 rfl) ?_
      refine lv_iload hx hb dL_law_33 (lv_at hl 4 rfl) ?_
      refine va_sld hx hb hX hbl hbA hS hi0 dL_law_35 ?_
      refine lv_bipush (v := (15 : Int32)) hx hb dL_law_36 (by decide) ?_
      refine lv_iand hx hb dL_law_38 ?_
      by_cases k0 : (xs (nI i).toNatClampNeg &&& (15 : Int32)) = (0 : Int32)
      · refine lv_tableIn (off := 49) (tgt := 88) hx hb dL_law_39 (by rw [k0]; decide) (by rw [k0]; decide) (by rw [k0]; rfl) (by decide) ?_
        exact law_set hl9 hL S hr hlocks hX hbl hK eF e22 e67 e79 e92 e95 e139 ih hi3 hin hn hn3 hi1 hi2 hI hP hD hS hl
      by_cases k1 : (xs (nI i).toNatClampNeg &&& (15 : Int32)) = (1 : Int32)
      · refine lv_tableIn (off := 97) (tgt := 136) hx hb dL_law_39 (by rw [k1]; decide) (by rw [k1]; decide) (by rw [k1]; rfl) (by decide) ?_
        exact law_get hl9 hL S hr hlocks hX hbl hK eF e22 e67 e79 e92 e95 e139 ih hi3 hin hn hn3 hi1 hi2 hI hP hD hS hl
      by_cases k2 : (xs (nI i).toNatClampNeg &&& (15 : Int32)) = (2 : Int32)
      · refine lv_tableIn (off := 153) (tgt := 192) hx hb dL_law_39 (by rw [k2]; decide) (by rw [k2]; decide) (by rw [k2]; rfl) (by decide) ?_
        exact law_write hl9 hL S hr hlocks hX hbl hK eF e22 e67 e79 e92 e95 e139 ih hi3 hin hn hn3 hi1 hi2 hI hP hD hS hl
      by_cases k3 : (xs (nI i).toNatClampNeg &&& (15 : Int32)) = (3 : Int32)
      · refine lv_tableIn (off := 201) (tgt := 240) hx hb dL_law_39 (by rw [k3]; decide) (by rw [k3]; decide) (by rw [k3]; rfl) (by decide) ?_
        exact law_byteAt hl9 hL S hr hlocks hX hbl hK eF e22 e67 e79 e92 e95 e139 ih hi3 hin hn hn3 hi1 hi2 hI hP hD hS hl
      by_cases k4 : (xs (nI i).toNatClampNeg &&& (15 : Int32)) = (4 : Int32)
      · refine lv_tableIn (off := 257) (tgt := 296) hx hb dL_law_39 (by rw [k4]; decide) (by rw [k4]; decide) (by rw [k4]; rfl) (by decide) ?_
        exact law_port hl9 hL S hr hlocks hX hbl hK eF e22 e67 e79 e92 e95 e139 ih hi3 hin hn hn3 hi1 hi2 hI hP hD hS hl
      by_cases k5 : (xs (nI i).toNatClampNeg &&& (15 : Int32)) = (5 : Int32)
      · refine lv_tableIn (off := 282) (tgt := 321) hx hb dL_law_39 (by rw [k5]; decide) (by rw [k5]; decide) (by rw [k5]; rfl) (by decide) ?_
        exact law_setPort hl9 hL S hr hlocks hX hbl hK eF e22 e67 e79 e92 e95 e139 ih hi3 hin hn hn3 hi1 hi2 hI hP hD hS hl
      by_cases k6 : (xs (nI i).toNatClampNeg &&& (15 : Int32)) = (6 : Int32)
      · refine lv_tableIn (off := 317) (tgt := 356) hx hb dL_law_39 (by rw [k6]; decide) (by rw [k6]; decide) (by rw [k6]; rfl) (by decide) ?_
        exact law_line hl9 hL S hr hlocks hX hbl hK eF e22 e67 e79 e92 e95 e139 ih hi3 hin hn hn3 hi1 hi2 hI hP hD hS hl
      by_cases k7 : (xs (nI i).toNatClampNeg &&& (15 : Int32)) = (7 : Int32)
      · refine lv_tableIn (off := 353) (tgt := 392) hx hb dL_law_39 (by rw [k7]; decide) (by rw [k7]; decide) (by rw [k7]; rfl) (by decide) ?_
        exact law_run hl9 hL S hr hlocks hX hbl hK eF e22 e67 e79 e92 e95 e139 ih hi3 hin hn hn3 hi1 hi2 hI hP hD hS hl
      by_cases k8 : (xs (nI i).toNatClampNeg &&& (15 : Int32)) = (8 : Int32)
      · refine lv_tableIn (off := 409) (tgt := 448) hx hb dL_law_39 (by rw [k8]; decide) (by rw [k8]; decide) (by rw [k8]; rfl) (by decide) ?_
        exact law_count hl9 hL S hr hlocks hX hbl hK eF e22 e67 e79 e92 e95 e139 ih hi3 hin hn hn3 hi1 hi2 hI hP hD hS hl
      have z0 : ¬ (xs (nI i).toNatClampNeg &&& (15 : Int32)).toInt = 0 := fun z => k0 (ti_ext z); have z1 : ¬ (xs (nI i).toNatClampNeg &&& (15 : Int32)).toInt = 1 := fun z => k1 (ti_ext z); have z2 : ¬ (xs (nI i).toNatClampNeg &&& (15 : Int32)).toInt = 2 := fun z => k2 (ti_ext z); have z3 : ¬ (xs (nI i).toNatClampNeg &&& (15 : Int32)).toInt = 3 := fun z => k3 (ti_ext z); have z4 : ¬ (xs (nI i).toNatClampNeg &&& (15 : Int32)).toInt = 4 := fun z => k4 (ti_ext z); have z5 : ¬ (xs (nI i).toNatClampNeg &&& (15 : Int32)).toInt = 5 := fun z => k5 (ti_ext z); have z6 : ¬ (xs (nI i).toNatClampNeg &&& (15 : Int32)).toInt = 6 := fun z => k6 (ti_ext z); have z7 : ¬ (xs (nI i).toNatClampNeg &&& (15 : Int32)).toInt = 7 := fun z => k7 (ti_ext z); have z8 : ¬ (xs (nI i).toNatClampNeg &&& (15 : Int32)).toInt = 8 := fun z => k8 (ti_ext z)
      have zr := ti_and15 (xs (nI i).toNatClampNeg)
      refine lv_tableOut (tgt := 504) hx hb dL_law_39 (by omega) (by decide) ?_
      refine lv_iinc (v := nI i + 3) (lv' := [(4, .int (nI i + 3)), (0, .ref b), (1, .ref q10), (2, .ref h0), (3, .ref ho)]) hx hb dL_law_504 hl (k := 4) rfl rfl (by decide) rfl (fun ls hl => ?_)
      refine lv_goto (tgt := 23) hx hb dL_law_507 (by decide) ?_
      refine W.widen (k := 30 + (101 - n)) (n := 200000 + 6 * (101 - n)) (by omega) (by omega) ?_
      exact ih (i + 3) q cd k f (by omega) (by omega) (by omega) hI H locs hP hD hS ls (by rw [← hn3]; exact lv_sub hl [1, 2, 3, 4, 0] rfl)
