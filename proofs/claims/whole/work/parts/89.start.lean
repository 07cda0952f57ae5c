-- ===== the law's start =====
set_option maxRecDepth 100000 in
theorem w_instX0 : Cond.instantiable RX0 1 ∈ lw_tbl := List.mem_of_getElem? (i := 196) rfl
set_option maxRecDepth 100000 in
theorem w_initX0 : Cond.initialized RX0 ∈ lw_tbl := List.mem_of_getElem? (i := 129) rfl
set_option maxRecDepth 100000 in
theorem w_instX1 : Cond.instantiable RX1 12 ∈ lw_tbl := List.mem_of_getElem? (i := 208) rfl
set_option maxRecDepth 100000 in
theorem w_initX1 : Cond.initialized RX1 ∈ lw_tbl := List.mem_of_getElem? (i := 130) rfl
set_option maxRecDepth 100000 in
theorem w_instX2 : Cond.instantiable RX2 4 ∈ lw_tbl := List.mem_of_getElem? (i := 153) rfl
set_option maxRecDepth 100000 in
theorem w_initX2 : Cond.initialized RX2 ∈ lw_tbl := List.mem_of_getElem? (i := 127) rfl
set_option maxRecDepth 100000 in
theorem w_instX3 : Cond.instantiable RX3 8 ∈ lw_tbl := List.mem_of_getElem? (i := 147) rfl
set_option maxRecDepth 100000 in
theorem w_initX3 : Cond.initialized RX3 ∈ lw_tbl := List.mem_of_getElem? (i := 126) rfl
set_option maxRecDepth 100000 in
theorem w_instX4 : Cond.instantiable RX4 3 ∈ lw_tbl := List.mem_of_getElem? (i := 177) rfl
set_option maxRecDepth 100000 in
theorem w_initX4 : Cond.initialized RX4 ∈ lw_tbl := List.mem_of_getElem? (i := 128) rfl
set_option maxRecDepth 100000 in
theorem w_instX5 : Cond.instantiable RX5 5 ∈ lw_tbl := List.mem_of_getElem? (i := 139) rfl
set_option maxRecDepth 100000 in
theorem w_initX5 : Cond.initialized RX5 ∈ lw_tbl := List.mem_of_getElem? (i := 125) rfl
set_option maxRecDepth 100000 in
theorem w_instX6 : Cond.instantiable RX6 29 ∈ lw_tbl := List.mem_of_getElem? (i := 909) rfl
set_option maxRecDepth 100000 in
theorem w_initX6 : Cond.initialized RX6 ∈ lw_tbl := List.mem_of_getElem? (i := 131) rfl
set_option maxRecDepth 100000 in
theorem w_cl5 : Cond.classLink RL 8 RX5 ∈ lw_tbl := List.mem_of_getElem? (i := 138) rfl
set_option maxRecDepth 100000 in
theorem w_cl6 : Cond.classLink RL 38 RX6 ∈ lw_tbl := List.mem_of_getElem? (i := 908) rfl
set_option maxRecDepth 100000 in
theorem w_ml5 : Cond.methodLink RL 37 yX5_init ∈ lw_tbl := List.mem_of_getElem? (i := 140) rfl
set_option maxRecDepth 100000 in
theorem w_ml6 : Cond.methodLink RL 40 yX6_init ∈ lw_tbl := List.mem_of_getElem? (i := 910) rfl
set_option maxRecDepth 100000 in
theorem w_im5 : Cond.instanceMethod yX5_init ∈ lw_tbl := List.mem_of_getElem? (i := 141) rfl
set_option maxRecDepth 100000 in
theorem w_im6 : Cond.instanceMethod yX6_init ∈ lw_tbl := List.mem_of_getElem? (i := 911) rfl
set_option maxRecDepth 100000 in
theorem w_ar_byte : Cond.arrayClass .byte ∈ lw_tbl := List.mem_of_getElem? (i := 174) rfl
set_option maxRecDepth 100000 in
theorem w_ar_int : Cond.arrayClass .int ∈ lw_tbl := List.mem_of_getElem? (i := 175) rfl
set_option maxRecDepth 100000 in
theorem w_ar_long : Cond.arrayClass .long ∈ lw_tbl := List.mem_of_getElem? (i := 1295) rfl
set_option maxRecDepth 100000 in
theorem w_nest0 : Cond.methodLinkNest RX5 9 yX3_init RX5 ∈ lw_tbl := List.mem_of_getElem? (i := 148) rfl
set_option maxRecDepth 100000 in
theorem w_nest1 : Cond.methodLinkNest RX3 11 yX2_init RX5 ∈ lw_tbl := List.mem_of_getElem? (i := 154) rfl
set_option maxRecDepth 100000 in
theorem w_nest2 : Cond.methodLinkNest RX3 20 yX4_init RX5 ∈ lw_tbl := List.mem_of_getElem? (i := 178) rfl
set_option maxRecDepth 100000 in
theorem w_nest3 : Cond.methodLinkNest RX3 27 yX0_init RX5 ∈ lw_tbl := List.mem_of_getElem? (i := 197) rfl
set_option maxRecDepth 100000 in
theorem w_nest4 : Cond.methodLinkNest RX3 34 yX1_init RX5 ∈ lw_tbl := List.mem_of_getElem? (i := 209) rfl
set_option maxRecDepth 100000 in
theorem w_ls0 : Cond.laysStatic "java/lang/Throwable" "UNASSIGNED_STACK" "[Ljava/lang/StackTraceElement;" ∈ lw_tbl := List.mem_of_getElem? (i := 357) rfl
set_option maxRecDepth 100000 in
theorem w_ls1 : Cond.laysStatic "java/lang/Throwable" "SUPPRESSED_SENTINEL" "Ljava/util/List;" ∈ lw_tbl := List.mem_of_getElem? (i := 359) rfl
set_option maxRecDepth 100000 in
theorem w_ls2 : Cond.laysStatic RX1 "FORMS" "[I" ∈ lw_tbl := List.mem_of_getElem? (i := 554) rfl
set_option maxRecDepth 100000 in
theorem w_initT : Cond.initialized "java/lang/Throwable" ∈ lw_tbl := List.mem_of_getElem? (i := 132) rfl
set_option maxRecDepth 100000 in
theorem w_s22 : Cond.stringRef RX5 22 "no such register" ∈ lw_tbl := List.mem_of_getElem? (i := 370) rfl
set_option maxRecDepth 100000 in
theorem w_s67 : Cond.stringRef RX5 67 "no room for four bytes there" ∈ lw_tbl := List.mem_of_getElem? (i := 436) rfl
set_option maxRecDepth 100000 in
theorem w_s79 : Cond.stringRef RX5 79 "no such place" ∈ lw_tbl := List.mem_of_getElem? (i := 450) rfl
set_option maxRecDepth 100000 in
theorem w_s92 : Cond.stringRef RX5 92 "no such interrupt" ∈ lw_tbl := List.mem_of_getElem? (i := 472) rfl
set_option maxRecDepth 100000 in
theorem w_s95 : Cond.stringRef RX5 95 "not 0 to 500 steps" ∈ lw_tbl := List.mem_of_getElem? (i := 486) rfl
set_option maxRecDepth 100000 in
theorem w_s139 : Cond.stringRef RX5 139 "nothing is counted by this number" ∈ lw_tbl := List.mem_of_getElem? (i := 907) rfl
theorem w_bad24 : ∀ w ∈ bads 24 "java/lang/IndexOutOfBoundsException", w ∈ lw_tbl := by decide +kernel
theorem w_bad94 : ∀ w ∈ bads 94 "java/lang/IllegalArgumentException", w ∈ lw_tbl := by decide +kernel
theorem bad_of {w : Cond} {U : State} {A : Array Value} (hk : badK w = true) (h : w.before A U = true) : va_Nw w U := by
  cases w <;> first | exact va_Nw.of rfl h | exact absurd hk (by decide) | (simp [badK] at hk)
theorem sx_z : sxA z00 = z00 := by
  funext i
  show sx 0 = 0
  decide
theorem x00_e : x00 = xO v00 (-1) c00 := by
  have h : xO v00 (-1) c00 = (-1, 0, 0, 0, ((0 : Int32), (0 : Int32), (-1 : Int32), sxA z00, (sxA z00, z00, (0 : Int32), (0 : Int32)), (z00, z00, (0 : Int32)), (0 : Int32), c00)) := rfl
  rw [h, sx_z]
  rfl
theorem inv_00 : InvS v00 := by
  have b0 : rB 0 := ⟨by decide, by decide⟩
  have p0 : 0 ≤ (0 : Int32).toInt ∧ (0 : Int32).toInt ≤ (0 : Int32).toInt := by decide
  have w0 : rW 0 := ⟨by decide, by decide⟩
  exact ⟨⟨⟨fun _ => b0, fun _ => p0, p0.1, by decide⟩, ⟨fun _ => w0, fun _ => w0, w0⟩, fun _ => b0⟩, Or.inl rfl, Or.inl rfl⟩
set_option maxRecDepth 100000 in
theorem n_U : Cond.isRef (.static "java/lang/Throwable" "UNASSIGNED_STACK" "[Ljava/lang/StackTraceElement;") ∈ flatC (Jvm.Cond.and given_1 narrow_1) := by decide +kernel
set_option maxRecDepth 100000 in
theorem n_S : Cond.isRef (.static "java/lang/Throwable" "SUPPRESSED_SENTINEL" "Ljava/util/List;") ∈ flatC (Jvm.Cond.and given_1 narrow_1) := by decide +kernel
set_option maxHeartbeats 8000000 in
set_option maxRecDepth 100000 in
theorem whole_start {p : Program} {e : Env} {s : State} {m : MethodId} {below : List Frame} {meth : Method} {c : Code} (l : Launch) (hflags : l.flags = flags0) {b L : Nat} {xs : Nat → Int32} (hL : L ≤ 192) (C0 : lw_At p s m meth c b L xs) : W p l e room_1 s m #[Value.ref b] below meth c s.heap [] 0 0 (lw_Z below #[Value.ref b] s) (entryFrame m ([Value.ref b] : List Value).toArray 7) := by
  obtain ⟨hx, hb, hr, hml, hown, hts0, hX, hbl, hlocks, hgv⟩ := id C0
  have hs := flat_of_before _ hgv
  have hts : ∀ w ∈ wsL_law, w.before #[Value.ref b] s = true := fun w h => hts0 w (wsL_law_in w h)
  have S : CallFix p m c code 7 s #[Value.ref b] wsL_law RL := ⟨hx, hb, hml, hown, hts⟩
  have hl9 : l.stackTraces = false := by
    unfold Launch.stackTraces
    rw [hflags]
    decide
  have hA : ∀ q : Nat, s.heap.size ≤ q → (fun q : Nat => s.heap.size ≤ q) q := fun _ h => h
  have hnA : ∀ q : Nat, q < s.heap.size → ¬ (fun q : Nat => s.heap.size ≤ q) q := fun _ h => Nat.not_le.mpr h
  obtain ⟨c0, i0, k0⟩ := u_known (C := RX0) (T := TX0) (N := 1) (n := 1) hts inlX0 (hts0 _ w_instX0)
  obtain ⟨c1, i1, k1⟩ := u_known (C := RX1) (T := TX1) (N := 12) (n := 12) hts inlX1 (hts0 _ w_instX1)
  obtain ⟨c2, i2, k2⟩ := u_known (C := RX2) (T := TX2) (N := 4) (n := 4) hts inlX2 (hts0 _ w_instX2)
  obtain ⟨c3, i3, k3⟩ := u_known (C := RX3) (T := TX3) (N := 8) (n := 8) hts inlX3 (hts0 _ w_instX3)
  obtain ⟨c4, i4, k4⟩ := u_known (C := RX4) (T := TX4) (N := 3) (n := 3) hts inlX4 (hts0 _ w_instX4)
  obtain ⟨c5, i5, k5⟩ := u_known (C := RX5) (T := TX5) (N := 5) (n := 5) hts inlX5 (hts0 _ w_instX5)
  obtain ⟨c6, i6, k6⟩ := u_known (C := RX6) (T := TX6) (N := 29) (n := 29) hts inlX6 (hts0 _ w_instX6)
  obtain ⟨D, hKc⟩ : ∃ D : va_G, ∀ (k : Nat) (q : vw_C), vwCl[k]? = some q → u_Kn s q.1 q.2.1 q.2.2 (D.1 k) (D.2 k) := by
    refine ⟨(fun k => match k with | 0 => c0 | 1 => c1 | 2 => c2 | 3 => c3 | 4 => c4 | 5 => c5 | _ => c6, fun k => match k with | 0 => i0 | 1 => i1 | 2 => i2 | 3 => i3 | 4 => i4 | 5 => i5 | _ => i6), ?_⟩
    intro k q hq
    match k, hq with
    | 0, hq => cases hq; exact k0
    | 1, hq => cases hq; exact k1
    | 2, hq => cases hq; exact k2
    | 3, hq => cases hq; exact k3
    | 4, hq => cases hq; exact k4
    | 5, hq => cases hq; exact k5
    | 6, hq => cases hq; exact k6
    | k + 7, hq => simp [vwCl] at hq
  obtain ⟨cB, kB, pB, hB1, hB2, hB3⟩ := Cond.arrayClass_spec (show (Cond.arrayClass .byte).holds #[Value.ref b] s none s [] = true from hts0 _ w_ar_byte)
  obtain ⟨cI, kI, pI, hI1, hI2, hI3⟩ := Cond.arrayClass_spec (show (Cond.arrayClass .int).holds #[Value.ref b] s none s [] = true from hts0 _ w_ar_int)
  obtain ⟨cJ, kJ, pJ, hJ1, hJ2, hJ3⟩ := Cond.arrayClass_spec (show (Cond.arrayClass .long).holds #[Value.ref b] s none s [] = true from hts0 _ w_ar_long)
  have hK : va_K D vwCl (tyJ cB cI cJ) s := by
    refine ⟨hKc, fun k q hq => ?_⟩
    match k, hq with
    | 0, hq => cases hq; exact ⟨fun n z => ⟨fun k h => (by cases h), kB, hB2, pB, hB3⟩, hB1⟩
    | 1, hq => cases hq; exact ⟨fun n z => ⟨fun k h => (by cases h), kI, hI2, pI, hI3⟩, hI1⟩
    | 2, hq => cases hq; exact ⟨fun n z => ⟨fun k h => (by cases h), kJ, hJ2, pJ, hJ3⟩, hJ1⟩
    | k + 3, hq => simp [tyJ] at hq
  obtain ⟨qF, hF1, hF2, hF3⟩ := forms_at hs
  have eF : va_Z RX1 "FORMS" "[I" (.ref qF) (fun q : Nat => s.heap.size ≤ q) s s.heap ∧ va_X qF 256 formsF s s.heap ∧ qF < s.heap.size ∧ ¬ (fun q : Nat => s.heap.size ≤ q) qF := ⟨va_Zof (hts0 _ w_ls2) (hts0 _ w_initX1) hF1 hnA, hF2, hF3, hnA qF hF3⟩
  have zU := vx_Zqof (A := fun q : Nat => s.heap.size ≤ q) (hts0 _ w_ls0) (hts0 _ w_initT) (hs _ n_U) hnA
  have zS := vx_Zqof (A := fun q : Nat => s.heap.size ≤ q) (hts0 _ w_ls1) (hts0 _ w_initT) (hs _ n_S) hnA
  have b24 : Bx 24 "java/lang/IndexOutOfBoundsException" s := fun w hw => ⟨bk_24 w hw, bad_of (bk_24 w hw) (hts0 w (w_bad24 w hw))⟩
  have b94 : Bx 94 "java/lang/IllegalArgumentException" s := fun w hw => ⟨bk_94 w hw, bad_of (bk_94 w hw) (hts0 w (w_bad94 w hw))⟩
  obtain ⟨sa22, s22⟩ := str_at (tx := "no such register") (hts0 _ w_s22) (hs _ (tS_in 22 (by decide)))
  have e22 : Ex "java/lang/IndexOutOfBoundsException" 24 "no such register" 22 sa22 (fun q : Nat => s.heap.size ≤ q) s := ⟨s22, zU, zS, b24⟩
  obtain ⟨sa67, s67⟩ := str_at (tx := "no room for four bytes there") (hts0 _ w_s67) (hs _ (tS_in 67 (by decide)))
  have e67 : Ex "java/lang/IndexOutOfBoundsException" 24 "no room for four bytes there" 67 sa67 (fun q : Nat => s.heap.size ≤ q) s := ⟨s67, zU, zS, b24⟩
  obtain ⟨sa79, s79⟩ := str_at (tx := "no such place") (hts0 _ w_s79) (hs _ (tS_in 79 (by decide)))
  have e79 : Ex "java/lang/IndexOutOfBoundsException" 24 "no such place" 79 sa79 (fun q : Nat => s.heap.size ≤ q) s := ⟨s79, zU, zS, b24⟩
  obtain ⟨sa92, s92⟩ := str_at (tx := "no such interrupt") (hts0 _ w_s92) (hs _ (tS_in 92 (by decide)))
  have e92 : Ex "java/lang/IllegalArgumentException" 94 "no such interrupt" 92 sa92 (fun q : Nat => s.heap.size ≤ q) s := ⟨s92, zU, zS, b94⟩
  obtain ⟨sa95, s95⟩ := str_at (tx := "not 0 to 500 steps") (hts0 _ w_s95) (hs _ (tS_in 95 (by decide)))
  have e95 : Ex "java/lang/IllegalArgumentException" 94 "not 0 to 500 steps" 95 sa95 (fun q : Nat => s.heap.size ≤ q) s := ⟨s95, zU, zS, b94⟩
  obtain ⟨sa139, s139⟩ := str_at (tx := "nothing is counted by this number") (hts0 _ w_s139) (hs _ (tS_in 139 (by decide)))
  have e139 : Ex "java/lang/IllegalArgumentException" 94 "nothing is counted by this number" 139 sa139 (fun q : Nat => s.heap.size ≤ q) s := ⟨s139, zU, zS, b94⟩
  have hN5 : Nx5 s := ⟨va_Nw.of rfl (hts0 _ w_nest0), va_Nw.of rfl (hts0 _ w_nest1), va_Nw.of rfl (hts0 _ w_nest2), va_Nw.of rfl (hts0 _ w_nest3), va_Nw.of rfl (hts0 _ w_nest4)⟩
  have hS : va_S (fun q : Nat => s.heap.size ≤ q) s.heap s.heap [] := va_S.rf
  have hP : va_P D vwCl [] s.heap := fun k q h => by simp at h
  have hD : va_D (fun q : Nat => s.heap.size ≤ q) [] := ⟨fun i j p q h => by simp at h, fun k q h => by simp at h⟩
  have hl := lv_entry ([.ref b]) (n := 7) (Nat.le_of_ble_eq_true rfl)
  rw [lg_entry_eq]
  generalize (lg_sl ([.ref b]) ++ List.replicate (7 - (lg_sl ([.ref b])).length) Slot.unset).toArray = ls at hl ⊢
  have hl : lv_has ls 7 [(0, .ref b)] := hl
  refine va_new (ci := 5) (fs := [.null, .int 0, .int 0, .int 0, .int 0]) (C := RX5) (T := TX5) (N := 5) hx hb hts inlX5 tyX5 tyX5_ok hown (hts0 _ w_cl5) (hts0 _ w_instX5) (hts0 _ w_initX5) hK hP hD hS hA rfl (fun j hj => by rcases (show j = 0 ∨ j = 1 ∨ j = 2 ∨ j = 3 ∨ j = 4 by omega) with rfl | rfl | rfl | rfl | rfl <;> rfl) (roC (by omega)) (roS (by omega)) dL_law_0 (fun q10 H hP hD hS => ?_)
  replace hP : va_P D vwCl [(q10, .inr (5, [.null, .int 0, .int 0, .int 0, .int 0]))] H := hP
  replace hD : va_D (fun q : Nat => s.heap.size ≤ q) [(q10, .inr (5, [.null, .int 0, .int 0, .int 0, .int 0]))] := hD
  refine W.widen (k := 1) (n := 5) (by omega) (by omega) ?_
  refine lv_dup hx hb dL_law_3 rfl ?_
  refine cn_I (wc := [(q10, .inr (5, [.null, .int 0, .int 0, .int 0, .int 0]))]) (wr := []) (wo := fun u : Nat × Nat × Nat × Nat × Nat × Nat × Nat × Nat × Nat × Nat => (WX cB cI u.1 u.2.1 u.2.2.1 u.2.2.2.1 u.2.2.2.2.1 u.2.2.2.2.2.1 u.2.2.2.2.2.2.1 u.2.2.2.2.2.2.2.1 u.2.2.2.2.2.2.2.2.1 u.2.2.2.2.2.2.2.2.2 q10 x00)) (rest := [.ref q10]) (st := [.ref q10, .ref q10]) [0] [] rfl rfl (by decide) rfl rfl (by decide) S (hK.sub [0, 1] rfl) hA hP hD hS (kcX5_init l D cB cI q10 H.size) (cwI 0 hts gL_law_X5_init rfl rfl rfl (hts0 _ w_initX5) (hts0 _ w_ml5) (hts0 _ w_im5) rfl (by decide +kernel) ⟨Nat.le_of_ble_eq_true rfl, Nat.le_of_ble_eq_true rfl⟩) (nx5_h hN5) nx5_b rfl hl.1 (Nat.le_of_ble_eq_true rfl) dL_law_4 ⟨roC (by omega), roS (by omega)⟩ (fun u H locs hP hD hS => ?_)
  obtain ⟨q0, q1, q2, q3, q4, q5, q6, q7, q8, q9⟩ := u
  replace hP : va_P D vwCl (WX cB cI q0 q1 q2 q3 q4 q5 q6 q7 q8 q9 q10 x00) H := hP
  replace hD : va_D (fun q : Nat => s.heap.size ≤ q) (WX cB cI q0 q1 q2 q3 q4 q5 q6 q7 q8 q9 q10 x00) := hD
  refine lv_astore_n (lv' := [(1, .ref q10), (0, .ref b)]) hx hb dL_law_7 rfl hl (by decide) rfl (fun ls hl => ?_)
  refine va_new (ci := 6) (fs := [.int 0, .null, .null, .int 0, .int 0, .null, .null, .int 0, .int 0, .null, .int 0, .int 0, .int 0, .int 0, .int 0, .int 0, .int 0, .int 0, .int 0, .int 0, .int 0, .int 0, .int 0, .int 0, .int 0, .int 0, .int 0, .int 0, .int 0]) (C := RX6) (T := TX6) (N := 29) hx hb hts inlX6 tyX6 tyX6_ok hown (hts0 _ w_cl6) (hts0 _ w_instX6) (hts0 _ w_initX6) hK hP hD hS hA rfl (fun j hj => by rcases (show j = 0 ∨ j = 1 ∨ j = 2 ∨ j = 3 ∨ j = 4 ∨ j = 5 ∨ j = 6 ∨ j = 7 ∨ j = 8 ∨ j = 9 ∨ j = 10 ∨ j = 11 ∨ j = 12 ∨ j = 13 ∨ j = 14 ∨ j = 15 ∨ j = 16 ∨ j = 17 ∨ j = 18 ∨ j = 19 ∨ j = 20 ∨ j = 21 ∨ j = 22 ∨ j = 23 ∨ j = 24 ∨ j = 25 ∨ j = 26 ∨ j = 27 ∨ j = 28 by omega) with rfl | rfl | rfl | rfl | rfl | rfl | rfl | rfl | rfl | rfl | rfl | rfl | rfl | rfl | rfl | rfl | rfl | rfl | rfl | rfl | rfl | rfl | rfl | rfl | rfl | rfl | rfl | rfl | rfl <;> rfl) (roC (by omega)) (roS (by omega)) dL_law_8 (fun h0 H hP hD hS => ?_)
  replace hP : va_P D vwCl ((WX cB cI q0 q1 q2 q3 q4 q5 q6 q7 q8 q9 q10 x00) ++ [(h0, .inr (6, [.int 0, .null, .null, .int 0, .int 0, .null, .null, .int 0, .int 0, .null, .int 0, .int 0, .int 0, .int 0, .int 0, .int 0, .int 0, .int 0, .int 0, .int 0, .int 0, .int 0, .int 0, .int 0, .int 0, .int 0, .int 0, .int 0, .int 0]))]) H := hP
  replace hD : va_D (fun q : Nat => s.heap.size ≤ q) ((WX cB cI q0 q1 q2 q3 q4 q5 q6 q7 q8 q9 q10 x00) ++ [(h0, .inr (6, [.int 0, .null, .null, .int 0, .int 0, .null, .null, .int 0, .int 0, .null, .int 0, .int 0, .int 0, .int 0, .int 0, .int 0, .int 0, .int 0, .int 0, .int 0, .int 0, .int 0, .int 0, .int 0, .int 0, .int 0, .int 0, .int 0, .int 0]))]) := hD
  refine lv_dup hx hb dL_law_11 rfl ?_
  refine cn_I (wc := [(h0, .inr (6, [.int 0, .null, .null, .int 0, .int 0, .null, .null, .int 0, .int 0, .null, .int 0, .int 0, .int 0, .int 0, .int 0, .int 0, .int 0, .int 0, .int 0, .int 0, .int 0, .int 0, .int 0, .int 0, .int 0, .int 0, .int 0, .int 0, .int 0]))]) (wr := (WX cB cI q0 q1 q2 q3 q4 q5 q6 q7 q8 q9 q10 x00)) (wo := fun u : Nat × Nat × Nat × Nat × Nat => WQ cI h0 u.1 u.2.1 u.2.2.1 u.2.2.2.1 u.2.2.2.2 v00) (rest := [.ref h0]) (st := [.ref h0, .ref h0]) [11] [0, 1, 2, 3, 4, 5, 6, 7, 8, 9, 10] rfl rfl (by decide) rfl rfl (by decide) S (hK.sub [0, 1] rfl) hA hP hD hS (kcX6_init l D cB cI h0 H.size) (cwI 0 hts gL_law_X6_init rfl rfl rfl (hts0 _ w_initX6) (hts0 _ w_ml6) (hts0 _ w_im6) rfl (by decide +kernel) ⟨Nat.le_of_ble_eq_true rfl, Nat.le_of_ble_eq_true rfl⟩) tru_h tru_b rfl hl.1 (Nat.le_of_ble_eq_true rfl) dL_law_12 ⟨roC (by omega), roS (by omega)⟩ (fun u H locs hP hD hS => ?_)
  obtain ⟨h1, h2, h3, h4, h5⟩ := u
  replace hP : va_P D vwCl ((WX cB cI q0 q1 q2 q3 q4 q5 q6 q7 q8 q9 q10 x00) ++ WQ cI h0 h1 h2 h3 h4 h5 v00) H := hP
  replace hD : va_D (fun q : Nat => s.heap.size ≤ q) ((WX cB cI q0 q1 q2 q3 q4 q5 q6 q7 q8 q9 q10 x00) ++ WQ cI h0 h1 h2 h3 h4 h5 v00) := hD
  refine lv_astore_n (lv' := [(2, .ref h0), (1, .ref q10), (0, .ref b)]) hx hb dL_law_15 rfl hl (by decide) rfl (fun ls hl => ?_)
  refine lv_iconst (v := (1 : Int32)) hx hb dL_law_16 (by decide) ?_
  refine nw_J hx hb (hts0 _ w_ar_long) hK 2 rfl hP hD hS hA (n := (1 : Int32)) (N := 1) (by decide) (by decide) (Nat.le_of_ble_eq_true rfl) (roC (by omega)) (roS (by omega)) dL_law_17 (fun ho H hP hD hS => ?_)
  replace hP : va_P D vwCl (WL cB cI cJ q0 q1 q2 q3 q4 q5 q6 q7 q8 q9 q10 h0 h1 h2 h3 h4 h5 ho (x00, v00, fun _ => 0)) H := hP
  replace hD : va_D (fun q : Nat => s.heap.size ≤ q) (WL cB cI cJ q0 q1 q2 q3 q4 q5 q6 q7 q8 q9 q10 h0 h1 h2 h3 h4 h5 ho (x00, v00, fun _ => 0)) := hD
  refine lv_astore_n (lv' := [(3, .ref ho), (2, .ref h0), (1, .ref q10), (0, .ref b)]) hx hb dL_law_19 rfl hl (by decide) rfl (fun ls hl => ?_)
  refine lv_iconst (v := (0 : Int32)) hx hb dL_law_20 (by decide) ?_
  refine lv_istore (lv' := [(4, .int 0), (3, .ref ho), (2, .ref h0), (1, .ref q10), (0, .ref b)]) hx hb dL_law_21 hl (by decide) rfl (fun ls hl => ?_)
  rw [x00_e] at hP hD
  refine W.widen (k := 30 + (101 - 66)) (n := 200000 + 6 * (101 - 66)) (by omega) (by omega) ?_
  exact law_loop hl9 hL S hr hlocks hX hbl hK eF e22 e67 e79 e92 e95 e139 66 0 v00 (-1) c00 (fun _ => 0) (Nat.zero_le L) (by omega) (by omega) inv_00 H locs hP hD hS ls (lv_sub hl [4, 3, 2, 1, 0] rfl)
