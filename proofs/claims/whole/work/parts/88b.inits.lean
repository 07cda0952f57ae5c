-- ===== constructors =====
def z00 : A32 := fun _ => 0
def m00 : SM := (z00, z00, 0, 0)
def r00 : SR := (z00, z00, 0)
def c00 : SC := (0, 0, 0, 0, 0, 0, 0, 0, 0, 0, 0, 0)
def p00 : SP := (0, 0, -1, z00, m00, r00, 0, c00)
def x00 : SX := (-1, 0, 0, 0, p00)
def v00 : SQ := (0, z00, z00, 0, 0, z00, z00, 0, 0, z00, -1, 0, 0, 0, 0, 0, 0, 0, 0, 0, 0, 0, 0, 0, 0, 0, 0, 0, 0)
def Nx3 (U : State) : Prop := va_Nw (.methodLinkNest RX3 11 yX2_init RX5) U ∧ va_Nw (.methodLinkNest RX3 20 yX4_init RX5) U ∧ va_Nw (.methodLinkNest RX3 27 yX0_init RX5) U ∧ va_Nw (.methodLinkNest RX3 34 yX1_init RX5) U
def Nx5 (U : State) : Prop := va_Nw (.methodLinkNest RX5 9 yX3_init RX5) U ∧ Nx3 U
theorem nx_b : ∀ (a : Array Value) (U : State) (g : JFrame) (mk : MethodId), Nx3 U → Nx3 (U.calling g mk a) := fun a U g mk h => ⟨va_Nw.same (u := U) (U := U.calling g mk a) rfl rfl h.1, va_Nw.same (u := U) (U := U.calling g mk a) rfl rfl h.2.1, va_Nw.same (u := U) (U := U.calling g mk a) rfl rfl h.2.2.1, va_Nw.same (u := U) (U := U.calling g mk a) rfl rfl h.2.2.2⟩
theorem nx5_b : ∀ (a : Array Value) (U : State) (g : JFrame) (mk : MethodId), Nx5 U → Nx5 (U.calling g mk a) := fun a U g mk h => ⟨va_Nw.same (u := U) (U := U.calling g mk a) rfl rfl h.1, nx_b a U g mk h.2⟩
theorem nx_w {s U : State} (hW : s.WarmedH U.vm) (h : Nx3 s) : Nx3 U := ⟨va_Nw.warmM hW h.1, va_Nw.warmM hW h.2.1, va_Nw.warmM hW h.2.2.1, va_Nw.warmM hW h.2.2.2⟩
theorem nx_h {s : State} {H : Heap} (h : Nx5 s) : ∀ U : State, U.heap = H → s.WarmedH U.vm → Nx3 U := fun U _ hW => nx_w hW h.2
theorem nx5_h {s : State} {H : Heap} (h : Nx5 s) : ∀ U : State, U.heap = H → s.WarmedH U.vm → Nx5 U := fun U _ hW => ⟨va_Nw.warmM hW h.1, nx_w hW h.2⟩
section NWA
variable {p : Program} {l : Launch} {e : Env} {R : Room} {s : State} {m : MethodId} {args : Array Value} {below : List Frame} {meth : Method} {c : Code} {H : Heap} {locs : List Loc} {cells slots : Nat} {Q : State → Prop} {cc : ByteArray} {pc : Nat} {ls : Array Slot} {rest st : List Value}
variable {D : va_G} {tys tys' : List (ClassId × FieldType)} {A : Nat → Prop} {ws : va_W}
theorem nw_I (hexec : p.tables.exec = Jvm.exec) (hb : c.code = cc) (harr : (Cond.arrayClass .int).before args s = true) (hK : va_K D vwCl tys s) (t0 : Nat) {cI : ClassId} (ht : tys[t0]? = some (cI, .int)) (hP : va_P D vwCl ws H) (hD : va_D A ws) (hS : va_S A s.heap H locs) (hA : ∀ q : Nat, s.heap.size ≤ q → A q) {n : Int32} {N : Nat} (hn : ¬ n < 0) (hN : n.toNatClampNeg = N) (hbytes : N * componentBytes .int ≤ 536870912) (hcells : cells + 1 ≤ R.cells) (hslots : slots + N ≤ R.slots) (hdg : decode cc pc = .ok (.newarray .int, 2))
    (kk : ∀ (q : Nat) (H1 : Heap), va_P D vwCl (ws ++ [(q, .inl (cI, N, .inl z00))]) H1 → va_D A (ws ++ [(q, .inl (cI, N, .inl z00))]) → va_S A s.heap H1 locs → W p l e R s m args below meth c H1 locs (cells + 1) (slots + N) Q (F0 m (pc + 2) ls (.ref q :: rest))) : W p l e R s m args below meth c H locs cells slots Q (F0 m pc ls (.int n :: rest)) := by
  refine va_newa (atype := .int) (ty := .int) (a0 := (N, .inl z00)) hexec hb harr rfl hK hP hD hS hA (fun _ => rfl) hn hN hbytes hcells hslots hdg (fun q cA H1 hK1 hP1 hD1 hS1 => ?_)
  have h1 : s.vm.findClass ("[" ++ FieldType.int.toString) = some cI := (hK.2 t0 _ ht).2
  have h2 : s.vm.findClass ("[" ++ FieldType.int.toString) = some cA := (hK1.2 tys.length (cA, .int) (by simp)).2
  have e : cA = cI := Option.some.inj (h2.symm.trans h1)
  subst e
  exact kk q H1 hP1 hD1 hS1
theorem nw_B (hexec : p.tables.exec = Jvm.exec) (hb : c.code = cc) (harr : (Cond.arrayClass .byte).before args s = true) (hK : va_K D vwCl tys s) (t0 : Nat) {cB : ClassId} (ht : tys[t0]? = some (cB, .byte)) (hP : va_P D vwCl ws H) (hD : va_D A ws) (hS : va_S A s.heap H locs) (hA : ∀ q : Nat, s.heap.size ≤ q → A q) {n : Int32} {N : Nat} (hn : ¬ n < 0) (hN : n.toNatClampNeg = N) (hbytes : N * componentBytes .byte ≤ 536870912) (hcells : cells + 1 ≤ R.cells) (hslots : slots + N ≤ R.slots) (hdg : decode cc pc = .ok (.newarray .byte, 2))
    (kk : ∀ (q : Nat) (H1 : Heap), va_P D vwCl (ws ++ [(q, .inl (cB, N, .inl z00))]) H1 → va_D A (ws ++ [(q, .inl (cB, N, .inl z00))]) → va_S A s.heap H1 locs → W p l e R s m args below meth c H1 locs (cells + 1) (slots + N) Q (F0 m (pc + 2) ls (.ref q :: rest))) : W p l e R s m args below meth c H locs cells slots Q (F0 m pc ls (.int n :: rest)) := by
  refine va_newa (atype := .byte) (ty := .byte) (a0 := (N, .inl z00)) hexec hb harr rfl hK hP hD hS hA (fun _ => rfl) hn hN hbytes hcells hslots hdg (fun q cA H1 hK1 hP1 hD1 hS1 => ?_)
  have h1 : s.vm.findClass ("[" ++ FieldType.byte.toString) = some cB := (hK.2 t0 _ ht).2
  have h2 : s.vm.findClass ("[" ++ FieldType.byte.toString) = some cA := (hK1.2 tys.length (cA, .byte) (by simp)).2
  have e : cA = cB := Option.some.inj (h2.symm.trans h1)
  subst e
  exact kk q H1 hP1 hD1 hS1
theorem nw_J (hexec : p.tables.exec = Jvm.exec) (hb : c.code = cc) (harr : (Cond.arrayClass .long).before args s = true) (hK : va_K D vwCl tys s) (t0 : Nat) {cJ : ClassId} (ht : tys[t0]? = some (cJ, .long)) (hP : va_P D vwCl ws H) (hD : va_D A ws) (hS : va_S A s.heap H locs) (hA : ∀ q : Nat, s.heap.size ≤ q → A q) {n : Int32} {N : Nat} (hn : ¬ n < 0) (hN : n.toNatClampNeg = N) (hbytes : N * componentBytes .long ≤ 536870912) (hcells : cells + 1 ≤ R.cells) (hslots : slots + N ≤ R.slots) (hdg : decode cc pc = .ok (.newarray .long, 2))
    (kk : ∀ (q : Nat) (H1 : Heap), va_P D vwCl (ws ++ [(q, .inl (cJ, N, .inr (.inl (fun _ => 0))))]) H1 → va_D A (ws ++ [(q, .inl (cJ, N, .inr (.inl (fun _ => 0))))]) → va_S A s.heap H1 locs → W p l e R s m args below meth c H1 locs (cells + 1) (slots + N) Q (F0 m (pc + 2) ls (.ref q :: rest))) : W p l e R s m args below meth c H locs cells slots Q (F0 m pc ls (.int n :: rest)) := by
  refine va_newa (atype := .long) (ty := .long) (a0 := (N, .inr (.inl (fun _ => 0)))) hexec hb harr rfl hK hP hD hS hA (fun _ => rfl) hn hN hbytes hcells hslots hdg (fun q cA H1 hK1 hP1 hD1 hS1 => ?_)
  have h1 : s.vm.findClass ("[" ++ FieldType.long.toString) = some cJ := (hK.2 t0 _ ht).2
  have h2 : s.vm.findClass ("[" ++ FieldType.long.toString) = some cA := (hK1.2 tys.length (cA, .long) (by simp)).2
  have e : cA = cJ := Option.some.inj (h2.symm.trans h1)
  subst e
  exact kk q H1 hP1 hD1 hS1
/-- a private constructor of a nest mate -/
theorem cn_N {y : MethodName} {bytes : ByteArray} {maxL nL index mc ms : Nat} {wsY : List Cond} {rm : Room} {Ts : List Cond} {own host : String} {b : Addr} {wb wc wr : va_W} {T : Type} {wo : T → va_W} {E : State → Prop} (isC isR : List Nat)
    (hC : isC.map (fun i => wb[i]?) = wc.map some) (hC2 : isC.filterMap (fun i => wb[i]?) = wc) (hnC : va_nd isC = true) (hR : isR.map (fun i => wb[i]?) = wr.map some) (hn : va_nd isR = true) (hdis : ∀ i ∈ isR, i ∉ isC)
    (S : CallFix p m c cc nL s args Ts own) (hK : va_K D vwCl tys' s) (hA : ∀ q : Nat, s.heap.size ≤ q → A q) (hP : va_P D vwCl wb H) (hD : va_D A wb) (hS : va_S A s.heap H locs)
    (hM : Met l y wsY rm (va_Pc [.ref b] (Pcw D tys' wc H.size E)) (va_Qv (fun _ : T => True) (fun u t => va_P D vwCl (wo u) t.heap ∧ va_D (va_A wc H.size) (wo u)) (va_A wc H.size)) mc ms (va_A wc H.size))
    (cw : va_CN R s args own index y host bytes maxL none wsY rm mc ms 0) (hins : (Cond.instanceMethod y).before args s = true)
    (hE : ∀ U : State, U.heap = H → s.WarmedH U.vm → E U) (hEb : ∀ (a : Array Value) (U : State) (g : JFrame) (mk : MethodId), E U → E (U.calling g mk a))
    (hy : y.name = "<init>") (hst : st = .ref b :: rest) (hl : ls.size = nL) (hr : (rest.map fun v => v.category).sum ≤ 8) (hdg : decode cc pc = .ok (.invokespecial index, 3)) (hcs : cells + mc ≤ R.cells ∧ slots + ms ≤ R.slots)
    (kk : ∀ (u : T) (H1 : Heap) (locs1 : List Loc), va_P D vwCl (wr ++ wo u) H1 → va_D A (wr ++ wo u) → va_S A s.heap H1 locs1 → W p l e R s m args below meth c H1 locs1 (cells + mc) (slots + ms) Q (F0 m (pc + 3) ls rest)) :
    W p l e R s m args below meth c H locs cells slots Q (F0 m pc ls st) := by
  have hfree := va_free (wc := wc) hD hS hA isC hC
  refine va_callv (va_runIN (As := []) S hM ⟨cw, hy, hins⟩ ⟨pc_blind hEb _, fun U hU hW => ⟨rfl, by rw [hU], by rw [hU]; exact hP.sub isC hC2, va_K.moved hW.alike hK, (hD.sub isC hnC hC).weaken (fun _ _ _ _ => trivial), hE U hU hW⟩⟩ rfl rfl hl hst (lv_room hr) hdg hcs) hS (fun q _ h => hfree q h) hfree (fun u t H1 locs1 ht hvm hp hB hz hk hS1 => ?_)
  obtain ⟨hB1, hB2⟩ := hB
  rw [ht] at hB1
  obtain ⟨hP1, hD1⟩ := va_join (wr := wr) (w1 := wo u) hP hD isC isR hC hR hn hdis hk hfree hB1 hB2
  exact kk u H1 locs1 hP1 hD1 hS1
/-- a public constructor -/
theorem cn_I {y : MethodName} {bytes : ByteArray} {maxL nL index mc ms : Nat} {wsY : List Cond} {rm : Room} {Ts : List Cond} {own : String} {b : Addr} {wb wc wr : va_W} {T : Type} {wo : T → va_W} {E : State → Prop} (isC isR : List Nat)
    (hC : isC.map (fun i => wb[i]?) = wc.map some) (hC2 : isC.filterMap (fun i => wb[i]?) = wc) (hnC : va_nd isC = true) (hR : isR.map (fun i => wb[i]?) = wr.map some) (hn : va_nd isR = true) (hdis : ∀ i ∈ isR, i ∉ isC)
    (S : CallFix p m c cc nL s args Ts own) (hK : va_K D vwCl tys' s) (hA : ∀ q : Nat, s.heap.size ≤ q → A q) (hP : va_P D vwCl wb H) (hD : va_D A wb) (hS : va_S A s.heap H locs)
    (hM : Met l y wsY rm (va_Pc [.ref b] (Pcw D tys' wc H.size E)) (va_Qv (fun _ : T => True) (fun u t => va_P D vwCl (wo u) t.heap ∧ va_D (va_A wc H.size) (wo u)) (va_A wc H.size)) mc ms (va_A wc H.size))
    (cw : CallB R s args own index y bytes maxL none wsY rm mc ms 0 ∧ y.name = "<init>" ∧ (Cond.instanceMethod y).before args s = true)
    (hE : ∀ U : State, U.heap = H → s.WarmedH U.vm → E U) (hEb : ∀ (a : Array Value) (U : State) (g : JFrame) (mk : MethodId), E U → E (U.calling g mk a))
    (hst : st = .ref b :: rest) (hl : ls.size = nL) (hr : (rest.map fun v => v.category).sum ≤ 8) (hdg : decode cc pc = .ok (.invokespecial index, 3)) (hcs : cells + mc ≤ R.cells ∧ slots + ms ≤ R.slots)
    (kk : ∀ (u : T) (H1 : Heap) (locs1 : List Loc), va_P D vwCl (wr ++ wo u) H1 → va_D A (wr ++ wo u) → va_S A s.heap H1 locs1 → W p l e R s m args below meth c H1 locs1 (cells + mc) (slots + ms) Q (F0 m (pc + 3) ls rest)) :
    W p l e R s m args below meth c H locs cells slots Q (F0 m pc ls st) := by
  have hfree := va_free (wc := wc) hD hS hA isC hC
  refine va_callv (va_runI (As := []) S hM cw ⟨pc_blind hEb _, fun U hU hW => ⟨rfl, by rw [hU], by rw [hU]; exact hP.sub isC hC2, va_K.moved hW.alike hK, (hD.sub isC hnC hC).weaken (fun _ _ _ _ => trivial), hE U hU hW⟩⟩ rfl rfl hl hst (lv_room hr) hdg hcs) hS (fun q _ h => hfree q h) hfree (fun u t H1 locs1 ht hvm hp hB hz hk hS1 => ?_)
  obtain ⟨hB1, hB2⟩ := hB
  rw [ht] at hB1
  obtain ⟨hP1, hD1⟩ := va_join (wr := wr) (w1 := wo u) hP hD isC isR hC hR hn hdis hk hfree hB1 hB2
  exact kk u H1 locs1 hP1 hD1 hS1
end NWA

set_option maxHeartbeats 4000000 in
set_option maxRecDepth 100000 in
theorem kcX0_init (l : Launch) (D : va_G) (cB cI : ClassId) (q7 : Nat) (sz : Nat) : Met l yX0_init wsX0_init ({ frames := 1, cells := 0, slots := 0, locals := 14 } : Room) (va_Pc [.ref q7] (Pcw D (tyA cB cI) [(q7, .inr (0, [.int 0]))] sz Tru)) (va_Qv (fun _ : Unit => True) (fun (u : Unit) t => va_P D vwCl (WA q7 0) t.heap ∧ va_D (va_A [(q7, .inr (0, [.int 0]))] sz) (WA q7 0)) (va_A [(q7, .inr (0, [.int 0]))] sz)) 0 0 (va_A [(q7, .inr (0, [.int 0]))] sz) := by
  refine en_ (cc := cX0_init) (maxL := 1) (ret := none) (own := RX0) (lv := [(0, .ref q7)]) (Qf := fun A => va_Qv (fun _ : Unit => True) (fun (u : Unit) t => va_P D vwCl (WA q7 0) t.heap ∧ va_D A (WA q7 0)) A) (by decide) rfl rfl (Nat.le_of_ble_eq_true rfl) rfl ?_
  intro p e s m below meth c A ls S hr hlk hname hsz hP hK hD hA hSub hS hE hl
  have hx := S.1
  have hb := S.2.1
  have hown := S.2.2.2.1
  have hts := S.2.2.2.2
  have hin : meth.name = "<init>" := hname
  obtain ⟨H, eH⟩ : ∃ H, H = s.heap := ⟨_, rfl⟩
  obtain ⟨locs, eL⟩ : ∃ locs : List Loc, locs = [] := ⟨_, rfl⟩
  replace hP : va_P D vwCl [(q7, .inr (0, [.int 0]))] H := by rw [eH]; exact hP
  replace hS : va_S A s.heap H locs := by rw [eH, eL]; exact hS
  suffices hgo : W p l e ({ frames := 1, cells := 0, slots := 0, locals := 14 } : Room) s m ([.ref q7] : List Value).toArray below meth c H locs 0 0 (MQ below (va_Qv (fun _ : Unit => True) (fun (u : Unit) t => va_P D vwCl (WA q7 0) t.heap ∧ va_D A (WA q7 0)) A) ([.ref q7] : List Value).toArray s 0 0 A) (F0 m 0 ls []) by rw [eH, eL] at hgo; exact hgo
  clear eH eL
  refine lv_aload_n hx hb dX0_init_0 rfl (lv_at hl 0 rfl) ?_
  refine W.objInit hx hb hown (hts (.methodLink RX0 3 objectInit) (by decide +kernel)) (hts (.instanceMethod objectInit) (by decide +kernel)) (hts (.code objectInit ⟨#[0xb1]⟩ 1 none) (by decide +kernel)) rfl (by rw [S.2.2.1]; exact hl.1) rfl dX0_init_1 (Nat.le_of_ble_eq_true rfl) (Nat.le_of_ble_eq_true rfl) ?_
  refine W.eq (g2 := F0 m 4 ls []) rfl ?_
  exact W.vret hx hb hr (fun t ht hW => ⟨⟨(), rfl, trivial, by rw [ht]; exact hP, hD⟩, hS.F ht⟩) hS.2.2 dX0_init_4 (hlocks := hlk)
set_option maxHeartbeats 4000000 in
set_option maxRecDepth 100000 in
theorem kcX1_init (l : Launch) (D : va_G) (cB cI : ClassId) (q8 : Nat) (sz : Nat) : Met l yX1_init wsX1_init ({ frames := 1, cells := 0, slots := 0, locals := 14 } : Room) (va_Pc [.ref q8] (Pcw D (tyA cB cI) [(q8, .inr (1, [.int 0, .int 0, .int 0, .int 0, .int 0, .int 0, .int 0, .int 0, .int 0, .int 0, .int 0, .int 0]))] sz Tru)) (va_Qv (fun _ : Unit => True) (fun (u : Unit) t => va_P D vwCl (WC q8 c00) t.heap ∧ va_D (va_A [(q8, .inr (1, [.int 0, .int 0, .int 0, .int 0, .int 0, .int 0, .int 0, .int 0, .int 0, .int 0, .int 0, .int 0]))] sz) (WC q8 c00)) (va_A [(q8, .inr (1, [.int 0, .int 0, .int 0, .int 0, .int 0, .int 0, .int 0, .int 0, .int 0, .int 0, .int 0, .int 0]))] sz)) 0 0 (va_A [(q8, .inr (1, [.int 0, .int 0, .int 0, .int 0, .int 0, .int 0, .int 0, .int 0, .int 0, .int 0, .int 0, .int 0]))] sz) := by
  refine en_ (cc := cX1_init) (maxL := 1) (ret := none) (own := RX1) (lv := [(0, .ref q8)]) (Qf := fun A => va_Qv (fun _ : Unit => True) (fun (u : Unit) t => va_P D vwCl (WC q8 c00) t.heap ∧ va_D A (WC q8 c00)) A) (by decide) rfl rfl (Nat.le_of_ble_eq_true rfl) rfl ?_
  intro p e s m below meth c A ls S hr hlk hname hsz hP hK hD hA hSub hS hE hl
  have hx := S.1
  have hb := S.2.1
  have hown := S.2.2.2.1
  have hts := S.2.2.2.2
  have hin : meth.name = "<init>" := hname
  obtain ⟨H, eH⟩ : ∃ H, H = s.heap := ⟨_, rfl⟩
  obtain ⟨locs, eL⟩ : ∃ locs : List Loc, locs = [] := ⟨_, rfl⟩
  replace hP : va_P D vwCl [(q8, .inr (1, [.int 0, .int 0, .int 0, .int 0, .int 0, .int 0, .int 0, .int 0, .int 0, .int 0, .int 0, .int 0]))] H := by rw [eH]; exact hP
  replace hS : va_S A s.heap H locs := by rw [eH, eL]; exact hS
  suffices hgo : W p l e ({ frames := 1, cells := 0, slots := 0, locals := 14 } : Room) s m ([.ref q8] : List Value).toArray below meth c H locs 0 0 (MQ below (va_Qv (fun _ : Unit => True) (fun (u : Unit) t => va_P D vwCl (WC q8 c00) t.heap ∧ va_D A (WC q8 c00)) A) ([.ref q8] : List Value).toArray s 0 0 A) (F0 m 0 ls []) by rw [eH, eL] at hgo; exact hgo
  clear eH eL
  refine lv_aload_n hx hb dX1_init_0 rfl (lv_at hl 0 rfl) ?_
  refine W.objInit hx hb hown (hts (.methodLink RX1 3 objectInit) (by decide +kernel)) (hts (.instanceMethod objectInit) (by decide +kernel)) (hts (.code objectInit ⟨#[0xb1]⟩ 1 none) (by decide +kernel)) rfl (by rw [S.2.2.1]; exact hl.1) rfl dX1_init_1 (Nat.le_of_ble_eq_true rfl) (Nat.le_of_ble_eq_true rfl) ?_
  refine W.eq (g2 := F0 m 4 ls []) rfl ?_
  exact W.vret hx hb hr (fun t ht hW => ⟨⟨(), rfl, trivial, by rw [ht]; exact hP, hD⟩, hS.F ht⟩) hS.2.2 dX1_init_4 (hlocks := hlk)
set_option maxHeartbeats 4000000 in
set_option maxRecDepth 100000 in
theorem kcX2_init (l : Launch) (D : va_G) (cB cI : ClassId) (q1 : Nat) (sz : Nat) : Met l yX2_init wsX2_init ({ frames := 1, cells := 2, slots := 69632, locals := 14 } : Room) (va_Pc [.ref q1] (Pcw D (tyA cB cI) [(q1, .inr (2, [.null, .null, .int 0, .int 0]))] sz Tru)) (va_Qv (fun _ : Nat × Nat => True) (fun (u : Nat × Nat) t => va_P D vwCl (WM cB cI q1 u.1 u.2 m00) t.heap ∧ va_D (va_A [(q1, .inr (2, [.null, .null, .int 0, .int 0]))] sz) (WM cB cI q1 u.1 u.2 m00)) (va_A [(q1, .inr (2, [.null, .null, .int 0, .int 0]))] sz)) 2 69632 (va_A [(q1, .inr (2, [.null, .null, .int 0, .int 0]))] sz) := by
  refine en_ (cc := cX2_init) (maxL := 1) (ret := none) (own := RX2) (lv := [(0, .ref q1)]) (Qf := fun A => va_Qv (fun _ : Nat × Nat => True) (fun (u : Nat × Nat) t => va_P D vwCl (WM cB cI q1 u.1 u.2 m00) t.heap ∧ va_D A (WM cB cI q1 u.1 u.2 m00)) A) (by decide) rfl rfl (Nat.le_of_ble_eq_true rfl) rfl ?_
  intro p e s m below meth c A ls S hr hlk hname hsz hP hK hD hA hSub hS hE hl
  have hx := S.1
  have hb := S.2.1
  have hown := S.2.2.2.1
  have hts := S.2.2.2.2
  have hin : meth.name = "<init>" := hname
  have i_X2 : ∀ w ∈ u_ws RX2 TX2 4, w ∈ wsX2_init := by decide +kernel
  obtain ⟨H, eH⟩ : ∃ H, H = s.heap := ⟨_, rfl⟩
  obtain ⟨locs, eL⟩ : ∃ locs : List Loc, locs = [] := ⟨_, rfl⟩
  replace hP : va_P D vwCl [(q1, .inr (2, [.null, .null, .int 0, .int 0]))] H := by rw [eH]; exact hP
  replace hS : va_S A s.heap H locs := by rw [eH, eL]; exact hS
  suffices hgo : W p l e ({ frames := 1, cells := 2, slots := 69632, locals := 14 } : Room) s m ([.ref q1] : List Value).toArray below meth c H locs 0 0 (MQ below (va_Qv (fun _ : Nat × Nat => True) (fun (u : Nat × Nat) t => va_P D vwCl (WM cB cI q1 u.1 u.2 m00) t.heap ∧ va_D A (WM cB cI q1 u.1 u.2 m00)) A) ([.ref q1] : List Value).toArray s 2 69632 A) (F0 m 0 ls []) by rw [eH, eL] at hgo; exact hgo
  clear eH eL
  refine lv_aload_n hx hb dX2_init_0 rfl (lv_at hl 0 rfl) ?_
  refine W.objInit hx hb hown (hts (.methodLink RX2 1 objectInit) (by decide +kernel)) (hts (.instanceMethod objectInit) (by decide +kernel)) (hts (.code objectInit ⟨#[0xb1]⟩ 1 none) (by decide +kernel)) rfl (by rw [S.2.2.1]; exact hl.1) rfl dX2_init_1 (Nat.le_of_ble_eq_true rfl) (Nat.le_of_ble_eq_true rfl) ?_
  refine W.eq (g2 := F0 m 4 ls []) rfl ?_
  refine lv_aload_n hx hb dX2_init_4 rfl (lv_at hl 0 rfl) ?_
  refine lv_ldc (v := (65536 : Int32)) hx hb hown (hts (.constant RX2 9 (65536)) (by decide +kernel)) dX2_init_5 ?_
  refine nw_B hx hb (hts (.arrayClass .byte) (by decide +kernel)) hK 0 rfl hP hD hS hA (n := (65536 : Int32)) (N := 65536) (by decide) (by decide) (Nat.le_of_ble_eq_true rfl) (Nat.le_of_ble_eq_true rfl) (Nat.le_of_ble_eq_true rfl) dX2_init_7 (fun q2 H hP hD hS => ?_)
  replace hP : va_P D vwCl [(q1, .inr (2, [.null, .null, .int 0, .int 0])), (q2, .inl (cB, 65536, .inl z00))] H := hP
  replace hD : va_D A [(q1, .inr (2, [.null, .null, .int 0, .int 0])), (q2, .inl (cB, 65536, .inl z00))] := hD
  refine W.widen (k := 1) (n := 65536) (Nat.le_of_ble_eq_true rfl) (Nat.le_of_ble_eq_true rfl) ?_
  refine va_putF (D := D) (ci := 2) (v := .ref q2) (ty := tyX2 0) (C := RX2) (T := TX2) (N := 4) hx hb hts i_X2 tyX2 tyX2_ok nmX2 hown hK hP hD hS 0 rfl rfl 0 (by decide) (hts (.fieldLink RX2 10 "MachineCore$Memory" "cells" "[B") (by decide +kernel)) (fun _ h9 => h9) rfl hin rfl (by decide +kernel) rfl rfl (Nat.le_of_ble_eq_true rfl) dX2_init_9 (fun H locs hP hD hS => ?_)
  replace hP : va_P D vwCl [(q1, .inr (2, [.ref q2, .null, .int 0, .int 0])), (q2, .inl (cB, 65536, .inl z00))] H := hP
  replace hD : va_D A [(q1, .inr (2, [.ref q2, .null, .int 0, .int 0])), (q2, .inl (cB, 65536, .inl z00))] := hD
  refine lv_aload_n hx hb dX2_init_12 rfl (lv_at hl 0 rfl) ?_
  refine lv_sipush (v := (4096 : Int32)) hx hb dX2_init_13 (by decide) ?_
  refine nw_I hx hb (hts (.arrayClass .int) (by decide +kernel)) hK 1 rfl hP hD hS hA (n := (4096 : Int32)) (N := 4096) (by decide) (by decide) (Nat.le_of_ble_eq_true rfl) (Nat.le_of_ble_eq_true rfl) (Nat.le_of_ble_eq_true rfl) dX2_init_16 (fun q3 H hP hD hS => ?_)
  replace hP : va_P D vwCl [(q1, .inr (2, [.ref q2, .null, .int 0, .int 0])), (q2, .inl (cB, 65536, .inl z00)), (q3, .inl (cI, 4096, .inl z00))] H := hP
  replace hD : va_D A [(q1, .inr (2, [.ref q2, .null, .int 0, .int 0])), (q2, .inl (cB, 65536, .inl z00)), (q3, .inl (cI, 4096, .inl z00))] := hD
  refine W.widen (k := 2) (n := 69632) (Nat.le_of_ble_eq_true rfl) (Nat.le_of_ble_eq_true rfl) ?_
  refine va_putF (D := D) (ci := 2) (v := .ref q3) (ty := tyX2 1) (C := RX2) (T := TX2) (N := 4) hx hb hts i_X2 tyX2 tyX2_ok nmX2 hown hK hP hD hS 0 rfl rfl 1 (by decide) (hts (.fieldLink RX2 14 "MachineCore$Memory" "pageNumbers" "[I") (by decide +kernel)) (fun _ h9 => h9) rfl hin rfl (by decide +kernel) rfl rfl (Nat.le_of_ble_eq_true rfl) dX2_init_18 (fun H locs hP hD hS => ?_)
  replace hP : va_P D vwCl [(q1, .inr (2, [.ref q2, .ref q3, .int 0, .int 0])), (q2, .inl (cB, 65536, .inl z00)), (q3, .inl (cI, 4096, .inl z00))] H := hP
  replace hD : va_D A [(q1, .inr (2, [.ref q2, .ref q3, .int 0, .int 0])), (q2, .inl (cB, 65536, .inl z00)), (q3, .inl (cI, 4096, .inl z00))] := hD
  exact W.vret hx hb hr (fun t ht hW => ⟨⟨(q2, q3), rfl, trivial, by rw [ht]; exact hP, hD⟩, hS.F ht⟩) hS.2.2 dX2_init_21 (hlocks := hlk)
set_option maxHeartbeats 4000000 in
set_option maxRecDepth 100000 in
theorem kcX4_init (l : Launch) (D : va_G) (cB cI : ClassId) (q4 : Nat) (sz : Nat) : Met l yX4_init wsX4_init ({ frames := 1, cells := 2, slots := 12, locals := 14 } : Room) (va_Pc [.ref q4] (Pcw D (tyA cB cI) [(q4, .inr (4, [.null, .null, .int 0]))] sz Tru)) (va_Qv (fun _ : Nat × Nat => True) (fun (u : Nat × Nat) t => va_P D vwCl (WR cI q4 u.1 u.2 r00) t.heap ∧ va_D (va_A [(q4, .inr (4, [.null, .null, .int 0]))] sz) (WR cI q4 u.1 u.2 r00)) (va_A [(q4, .inr (4, [.null, .null, .int 0]))] sz)) 2 12 (va_A [(q4, .inr (4, [.null, .null, .int 0]))] sz) := by
  refine en_ (cc := cX4_init) (maxL := 1) (ret := none) (own := RX4) (lv := [(0, .ref q4)]) (Qf := fun A => va_Qv (fun _ : Nat × Nat => True) (fun (u : Nat × Nat) t => va_P D vwCl (WR cI q4 u.1 u.2 r00) t.heap ∧ va_D A (WR cI q4 u.1 u.2 r00)) A) (by decide) rfl rfl (Nat.le_of_ble_eq_true rfl) rfl ?_
  intro p e s m below meth c A ls S hr hlk hname hsz hP hK hD hA hSub hS hE hl
  have hx := S.1
  have hb := S.2.1
  have hown := S.2.2.2.1
  have hts := S.2.2.2.2
  have hin : meth.name = "<init>" := hname
  have i_X4 : ∀ w ∈ u_ws RX4 TX4 3, w ∈ wsX4_init := by decide +kernel
  obtain ⟨H, eH⟩ : ∃ H, H = s.heap := ⟨_, rfl⟩
  obtain ⟨locs, eL⟩ : ∃ locs : List Loc, locs = [] := ⟨_, rfl⟩
  replace hP : va_P D vwCl [(q4, .inr (4, [.null, .null, .int 0]))] H := by rw [eH]; exact hP
  replace hS : va_S A s.heap H locs := by rw [eH, eL]; exact hS
  suffices hgo : W p l e ({ frames := 1, cells := 2, slots := 12, locals := 14 } : Room) s m ([.ref q4] : List Value).toArray below meth c H locs 0 0 (MQ below (va_Qv (fun _ : Nat × Nat => True) (fun (u : Nat × Nat) t => va_P D vwCl (WR cI q4 u.1 u.2 r00) t.heap ∧ va_D A (WR cI q4 u.1 u.2 r00)) A) ([.ref q4] : List Value).toArray s 2 12 A) (F0 m 0 ls []) by rw [eH, eL] at hgo; exact hgo
  clear eH eL
  refine lv_aload_n hx hb dX4_init_0 rfl (lv_at hl 0 rfl) ?_
  refine W.objInit hx hb hown (hts (.methodLink RX4 1 objectInit) (by decide +kernel)) (hts (.instanceMethod objectInit) (by decide +kernel)) (hts (.code objectInit ⟨#[0xb1]⟩ 1 none) (by decide +kernel)) rfl (by rw [S.2.2.1]; exact hl.1) rfl dX4_init_1 (Nat.le_of_ble_eq_true rfl) (Nat.le_of_ble_eq_true rfl) ?_
  refine W.eq (g2 := F0 m 4 ls []) rfl ?_
  refine lv_aload_n hx hb dX4_init_4 rfl (lv_at hl 0 rfl) ?_
  refine lv_bipush (v := (8 : Int32)) hx hb dX4_init_5 (by decide) ?_
  refine nw_I hx hb (hts (.arrayClass .int) (by decide +kernel)) hK 1 rfl hP hD hS hA (n := (8 : Int32)) (N := 8) (by decide) (by decide) (Nat.le_of_ble_eq_true rfl) (Nat.le_of_ble_eq_true rfl) (Nat.le_of_ble_eq_true rfl) dX4_init_7 (fun q5 H hP hD hS => ?_)
  replace hP : va_P D vwCl [(q4, .inr (4, [.null, .null, .int 0])), (q5, .inl (cI, 8, .inl z00))] H := hP
  replace hD : va_D A [(q4, .inr (4, [.null, .null, .int 0])), (q5, .inl (cI, 8, .inl z00))] := hD
  refine W.widen (k := 1) (n := 8) (Nat.le_of_ble_eq_true rfl) (Nat.le_of_ble_eq_true rfl) ?_
  refine va_putF (D := D) (ci := 4) (v := .ref q5) (ty := tyX4 0) (C := RX4) (T := TX4) (N := 3) hx hb hts i_X4 tyX4 tyX4_ok nmX4 hown hK hP hD hS 0 rfl rfl 0 (by decide) (hts (.fieldLink RX4 7 "MachineCore$Registers" "words" "[I") (by decide +kernel)) (fun _ h9 => h9) rfl hin rfl (by decide +kernel) rfl rfl (Nat.le_of_ble_eq_true rfl) dX4_init_9 (fun H locs hP hD hS => ?_)
  replace hP : va_P D vwCl [(q4, .inr (4, [.ref q5, .null, .int 0])), (q5, .inl (cI, 8, .inl z00))] H := hP
  replace hD : va_D A [(q4, .inr (4, [.ref q5, .null, .int 0])), (q5, .inl (cI, 8, .inl z00))] := hD
  refine lv_aload_n hx hb dX4_init_12 rfl (lv_at hl 0 rfl) ?_
  refine lv_iconst (v := (4 : Int32)) hx hb dX4_init_13 (by decide) ?_
  refine nw_I hx hb (hts (.arrayClass .int) (by decide +kernel)) hK 1 rfl hP hD hS hA (n := (4 : Int32)) (N := 4) (by decide) (by decide) (Nat.le_of_ble_eq_true rfl) (Nat.le_of_ble_eq_true rfl) (Nat.le_of_ble_eq_true rfl) dX4_init_14 (fun q6 H hP hD hS => ?_)
  replace hP : va_P D vwCl [(q4, .inr (4, [.ref q5, .null, .int 0])), (q5, .inl (cI, 8, .inl z00)), (q6, .inl (cI, 4, .inl z00))] H := hP
  replace hD : va_D A [(q4, .inr (4, [.ref q5, .null, .int 0])), (q5, .inl (cI, 8, .inl z00)), (q6, .inl (cI, 4, .inl z00))] := hD
  refine W.widen (k := 2) (n := 12) (Nat.le_of_ble_eq_true rfl) (Nat.le_of_ble_eq_true rfl) ?_
  refine va_putF (D := D) (ci := 4) (v := .ref q6) (ty := tyX4 1) (C := RX4) (T := TX4) (N := 3) hx hb hts i_X4 tyX4 tyX4_ok nmX4 hown hK hP hD hS 0 rfl rfl 1 (by decide) (hts (.fieldLink RX4 13 "MachineCore$Registers" "segments" "[I") (by decide +kernel)) (fun _ h9 => h9) rfl hin rfl (by decide +kernel) rfl rfl (Nat.le_of_ble_eq_true rfl) dX4_init_16 (fun H locs hP hD hS => ?_)
  replace hP : va_P D vwCl [(q4, .inr (4, [.ref q5, .ref q6, .int 0])), (q5, .inl (cI, 8, .inl z00)), (q6, .inl (cI, 4, .inl z00))] H := hP
  replace hD : va_D A [(q4, .inr (4, [.ref q5, .ref q6, .int 0])), (q5, .inl (cI, 8, .inl z00)), (q6, .inl (cI, 4, .inl z00))] := hD
  exact W.vret hx hb hr (fun t ht hW => ⟨⟨(q5, q6), rfl, trivial, by rw [ht]; exact hP, hD⟩, hS.F ht⟩) hS.2.2 dX4_init_19 (hlocks := hlk)
set_option maxHeartbeats 4000000 in
set_option maxRecDepth 100000 in
theorem kcX3_init (l : Launch) (D : va_G) (cB cI : ClassId) (q0 : Nat) (sz : Nat) : Met l yX3_init wsX3_init ({ frames := 2, cells := 9, slots := 69920, locals := 34 } : Room) (va_Pc [.ref q0] (Pcw D (tyA cB cI) [(q0, .inr (3, [.null, .null, .null, .null, .null, .int 0, .int 0, .int 0]))] sz Nx3)) (va_Qv (fun _ : Nat × Nat × Nat × Nat × Nat × Nat × Nat × Nat × Nat => True) (fun (u : Nat × Nat × Nat × Nat × Nat × Nat × Nat × Nat × Nat) t => va_P D vwCl (WP cB cI q0 u.1 u.2.1 u.2.2.1 u.2.2.2.1 u.2.2.2.2.1 u.2.2.2.2.2.1 u.2.2.2.2.2.2.1 u.2.2.2.2.2.2.2.1 u.2.2.2.2.2.2.2.2 p00) t.heap ∧ va_D (va_A [(q0, .inr (3, [.null, .null, .null, .null, .null, .int 0, .int 0, .int 0]))] sz) (WP cB cI q0 u.1 u.2.1 u.2.2.1 u.2.2.2.1 u.2.2.2.2.1 u.2.2.2.2.2.1 u.2.2.2.2.2.2.1 u.2.2.2.2.2.2.2.1 u.2.2.2.2.2.2.2.2 p00)) (va_A [(q0, .inr (3, [.null, .null, .null, .null, .null, .int 0, .int 0, .int 0]))] sz)) 9 69920 (va_A [(q0, .inr (3, [.null, .null, .null, .null, .null, .int 0, .int 0, .int 0]))] sz) := by
  refine en_ (cc := cX3_init) (maxL := 1) (ret := none) (own := RX3) (lv := [(0, .ref q0)]) (Qf := fun A => va_Qv (fun _ : Nat × Nat × Nat × Nat × Nat × Nat × Nat × Nat × Nat => True) (fun (u : Nat × Nat × Nat × Nat × Nat × Nat × Nat × Nat × Nat) t => va_P D vwCl (WP cB cI q0 u.1 u.2.1 u.2.2.1 u.2.2.2.1 u.2.2.2.2.1 u.2.2.2.2.2.1 u.2.2.2.2.2.2.1 u.2.2.2.2.2.2.2.1 u.2.2.2.2.2.2.2.2 p00) t.heap ∧ va_D A (WP cB cI q0 u.1 u.2.1 u.2.2.1 u.2.2.2.1 u.2.2.2.2.1 u.2.2.2.2.2.1 u.2.2.2.2.2.2.1 u.2.2.2.2.2.2.2.1 u.2.2.2.2.2.2.2.2 p00)) A) (by decide) rfl rfl (Nat.le_of_ble_eq_true rfl) rfl ?_
  intro p e s m below meth c A ls S hr hlk hname hsz hP hK hD hA hSub hS hE hl
  have hx := S.1
  have hb := S.2.1
  have hown := S.2.2.2.1
  have hts := S.2.2.2.2
  have hin : meth.name = "<init>" := hname
  have i_X3 : ∀ w ∈ u_ws RX3 TX3 8, w ∈ wsX3_init := by decide +kernel
  obtain ⟨H, eH⟩ : ∃ H, H = s.heap := ⟨_, rfl⟩
  obtain ⟨locs, eL⟩ : ∃ locs : List Loc, locs = [] := ⟨_, rfl⟩
  replace hP : va_P D vwCl [(q0, .inr (3, [.null, .null, .null, .null, .null, .int 0, .int 0, .int 0]))] H := by rw [eH]; exact hP
  replace hS : va_S A s.heap H locs := by rw [eH, eL]; exact hS
  suffices hgo : W p l e ({ frames := 2, cells := 9, slots := 69920, locals := 34 } : Room) s m ([.ref q0] : List Value).toArray below meth c H locs 0 0 (MQ below (va_Qv (fun _ : Nat × Nat × Nat × Nat × Nat × Nat × Nat × Nat × Nat => True) (fun (u : Nat × Nat × Nat × Nat × Nat × Nat × Nat × Nat × Nat) t => va_P D vwCl (WP cB cI q0 u.1 u.2.1 u.2.2.1 u.2.2.2.1 u.2.2.2.2.1 u.2.2.2.2.2.1 u.2.2.2.2.2.2.1 u.2.2.2.2.2.2.2.1 u.2.2.2.2.2.2.2.2 p00) t.heap ∧ va_D A (WP cB cI q0 u.1 u.2.1 u.2.2.1 u.2.2.2.1 u.2.2.2.2.1 u.2.2.2.2.2.1 u.2.2.2.2.2.2.1 u.2.2.2.2.2.2.2.1 u.2.2.2.2.2.2.2.2 p00)) A) ([.ref q0] : List Value).toArray s 9 69920 A) (F0 m 0 ls []) by rw [eH, eL] at hgo; exact hgo
  clear eH eL
  refine lv_aload_n hx hb dX3_init_0 rfl (lv_at hl 0 rfl) ?_
  refine W.objInit hx hb hown (hts (.methodLink RX3 3 objectInit) (by decide +kernel)) (hts (.instanceMethod objectInit) (by decide +kernel)) (hts (.code objectInit ⟨#[0xb1]⟩ 1 none) (by decide +kernel)) rfl (by rw [S.2.2.1]; exact hl.1) rfl dX3_init_1 (Nat.le_of_ble_eq_true rfl) (Nat.le_of_ble_eq_true rfl) ?_
  refine W.eq (g2 := F0 m 4 ls []) rfl ?_
  refine lv_aload_n hx hb dX3_init_4 rfl (lv_at hl 0 rfl) ?_
  refine va_new (ci := 2) (fs := [.null, .null, .int 0, .int 0]) (C := RX2) (T := TX2) (N := 4) hx hb hts (by decide +kernel) tyX2 tyX2_ok hown (hts (.classLink RX3 9 RX2) (by decide +kernel)) (hts (.instantiable RX2 4) (by decide +kernel)) (hts (.initialized RX2) (by decide +kernel)) hK hP hD hS hA rfl (fun j hj => by rcases (show j = 0 ∨ j = 1 ∨ j = 2 ∨ j = 3 by omega) with rfl | rfl | rfl | rfl <;> rfl) (Nat.le_of_ble_eq_true rfl) (Nat.le_of_ble_eq_true rfl) dX3_init_5 (fun q1 H hP hD hS => ?_)
  replace hP : va_P D vwCl [(q0, .inr (3, [.null, .null, .null, .null, .null, .int 0, .int 0, .int 0])), (q1, .inr (2, [.null, .null, .int 0, .int 0]))] H := hP
  replace hD : va_D A [(q0, .inr (3, [.null, .null, .null, .null, .null, .int 0, .int 0, .int 0])), (q1, .inr (2, [.null, .null, .int 0, .int 0]))] := hD
  refine W.widen (k := 1) (n := 4) (Nat.le_of_ble_eq_true rfl) (Nat.le_of_ble_eq_true rfl) ?_
  refine lv_dup hx hb dX3_init_8 rfl ?_
  refine cn_N (wc := [(q1, .inr (2, [.null, .null, .int 0, .int 0]))]) (wr := [(q0, .inr (3, [.null, .null, .null, .null, .null, .int 0, .int 0, .int 0]))]) (wo := fun u : Nat × Nat => (WM cB cI q1 u.1 u.2 m00)) (rest := [.ref q1, .ref q0]) (st := [.ref q1, .ref q1, .ref q0]) [1] [0] rfl rfl (by decide) rfl rfl (by decide) S hK hA hP hD hS (kcX2_init l D cB cI q1 H.size) (va_cnB 0 hts gX3_init_X2_init_n11 rfl rfl rfl hE.1 (hts (.initialized RX2) (by decide +kernel)) (by decide +kernel) ⟨Nat.le_of_ble_eq_true rfl, Nat.le_of_ble_eq_true rfl⟩) (hts (.instanceMethod yX2_init) (by decide +kernel)) tru_h tru_b rfl rfl hl.1 (Nat.le_of_ble_eq_true rfl) dX3_init_9 ⟨Nat.le_of_ble_eq_true rfl, Nat.le_of_ble_eq_true rfl⟩ (fun u H locs hP hD hS => ?_)
  obtain ⟨q2, q3⟩ := u
  replace hP : va_P D vwCl [(q0, .inr (3, [.null, .null, .null, .null, .null, .int 0, .int 0, .int 0])), (q1, .inr (2, [.ref q2, .ref q3, .int 0, .int 0])), (q2, .inl (cB, 65536, .inl z00)), (q3, .inl (cI, 4096, .inl z00))] H := hP
  replace hD : va_D A [(q0, .inr (3, [.null, .null, .null, .null, .null, .int 0, .int 0, .int 0])), (q1, .inr (2, [.ref q2, .ref q3, .int 0, .int 0])), (q2, .inl (cB, 65536, .inl z00)), (q3, .inl (cI, 4096, .inl z00))] := hD
  refine W.widen (k := 3) (n := 69636) (Nat.le_of_ble_eq_true rfl) (Nat.le_of_ble_eq_true rfl) ?_
  refine va_putF (D := D) (ci := 3) (v := .ref q1) (ty := tyX3 0) (C := RX3) (T := TX3) (N := 8) hx hb hts i_X3 tyX3 tyX3_ok nmX3 hown hK hP hD hS 0 rfl rfl 0 (by decide) (hts (.fieldLink RX3 12 "MachineCore$Processor" "memory" "LMachineCore$Memory;") (by decide +kernel)) (fun _ h9 => h9) rfl hin rfl (by decide +kernel) rfl rfl (Nat.le_of_ble_eq_true rfl) dX3_init_12 (fun H locs hP hD hS => ?_)
  replace hP : va_P D vwCl [(q0, .inr (3, [.ref q1, .null, .null, .null, .null, .int 0, .int 0, .int 0])), (q1, .inr (2, [.ref q2, .ref q3, .int 0, .int 0])), (q2, .inl (cB, 65536, .inl z00)), (q3, .inl (cI, 4096, .inl z00))] H := hP
  replace hD : va_D A [(q0, .inr (3, [.ref q1, .null, .null, .null, .null, .int 0, .int 0, .int 0])), (q1, .inr (2, [.ref q2, .ref q3, .int 0, .int 0])), (q2, .inl (cB, 65536, .inl z00)), (q3, .inl (cI, 4096, .inl z00))] := hD
  refine lv_aload_n hx hb dX3_init_15 rfl (lv_at hl 0 rfl) ?_
  refine va_new (ci := 4) (fs := [.null, .null, .int 0]) (C := RX4) (T := TX4) (N := 3) hx hb hts (by decide +kernel) tyX4 tyX4_ok hown (hts (.classLink RX3 18 RX4) (by decide +kernel)) (hts (.instantiable RX4 3) (by decide +kernel)) (hts (.initialized RX4) (by decide +kernel)) hK hP hD hS hA rfl (fun j hj => by rcases (show j = 0 ∨ j = 1 ∨ j = 2 by omega) with rfl | rfl | rfl <;> rfl) (Nat.le_of_ble_eq_true rfl) (Nat.le_of_ble_eq_true rfl) dX3_init_16 (fun q4 H hP hD hS => ?_)
  replace hP : va_P D vwCl [(q0, .inr (3, [.ref q1, .null, .null, .null, .null, .int 0, .int 0, .int 0])), (q1, .inr (2, [.ref q2, .ref q3, .int 0, .int 0])), (q2, .inl (cB, 65536, .inl z00)), (q3, .inl (cI, 4096, .inl z00)), (q4, .inr (4, [.null, .null, .int 0]))] H := hP
  replace hD : va_D A [(q0, .inr (3, [.ref q1, .null, .null, .null, .null, .int 0, .int 0, .int 0])), (q1, .inr (2, [.ref q2, .ref q3, .int 0, .int 0])), (q2, .inl (cB, 65536, .inl z00)), (q3, .inl (cI, 4096, .inl z00)), (q4, .inr (4, [.null, .null, .int 0]))] := hD
  refine W.widen (k := 4) (n := 69639) (Nat.le_of_ble_eq_true rfl) (Nat.le_of_ble_eq_true rfl) ?_
  refine lv_dup hx hb dX3_init_19 rfl ?_
  refine cn_N (wc := [(q4, .inr (4, [.null, .null, .int 0]))]) (wr := [(q0, .inr (3, [.ref q1, .null, .null, .null, .null, .int 0, .int 0, .int 0])), (q1, .inr (2, [.ref q2, .ref q3, .int 0, .int 0])), (q2, .inl (cB, 65536, .inl z00)), (q3, .inl (cI, 4096, .inl z00))]) (wo := fun u : Nat × Nat => (WR cI q4 u.1 u.2 r00)) (rest := [.ref q4, .ref q0]) (st := [.ref q4, .ref q4, .ref q0]) [4] [0, 1, 2, 3] rfl rfl (by decide) rfl rfl (by decide) S hK hA hP hD hS (kcX4_init l D cB cI q4 H.size) (va_cnB 0 hts gX3_init_X4_init_n20 rfl rfl rfl hE.2.1 (hts (.initialized RX4) (by decide +kernel)) (by decide +kernel) ⟨Nat.le_of_ble_eq_true rfl, Nat.le_of_ble_eq_true rfl⟩) (hts (.instanceMethod yX4_init) (by decide +kernel)) tru_h tru_b rfl rfl hl.1 (Nat.le_of_ble_eq_true rfl) dX3_init_20 ⟨Nat.le_of_ble_eq_true rfl, Nat.le_of_ble_eq_true rfl⟩ (fun u H locs hP hD hS => ?_)
  obtain ⟨q5, q6⟩ := u
  replace hP : va_P D vwCl [(q0, .inr (3, [.ref q1, .null, .null, .null, .null, .int 0, .int 0, .int 0])), (q1, .inr (2, [.ref q2, .ref q3, .int 0, .int 0])), (q2, .inl (cB, 65536, .inl z00)), (q3, .inl (cI, 4096, .inl z00)), (q4, .inr (4, [.ref q5, .ref q6, .int 0])), (q5, .inl (cI, 8, .inl z00)), (q6, .inl (cI, 4, .inl z00))] H := hP
  replace hD : va_D A [(q0, .inr (3, [.ref q1, .null, .null, .null, .null, .int 0, .int 0, .int 0])), (q1, .inr (2, [.ref q2, .ref q3, .int 0, .int 0])), (q2, .inl (cB, 65536, .inl z00)), (q3, .inl (cI, 4096, .inl z00)), (q4, .inr (4, [.ref q5, .ref q6, .int 0])), (q5, .inl (cI, 8, .inl z00)), (q6, .inl (cI, 4, .inl z00))] := hD
  refine W.widen (k := 6) (n := 69651) (Nat.le_of_ble_eq_true rfl) (Nat.le_of_ble_eq_true rfl) ?_
  refine va_putF (D := D) (ci := 3) (v := .ref q4) (ty := tyX3 1) (C := RX3) (T := TX3) (N := 8) hx hb hts i_X3 tyX3 tyX3_ok nmX3 hown hK hP hD hS 0 rfl rfl 1 (by decide) (hts (.fieldLink RX3 21 "MachineCore$Processor" "registers" "LMachineCore$Registers;") (by decide +kernel)) (fun _ h9 => h9) rfl hin rfl (by decide +kernel) rfl rfl (Nat.le_of_ble_eq_true rfl) dX3_init_23 (fun H locs hP hD hS => ?_)
  replace hP : va_P D vwCl [(q0, .inr (3, [.ref q1, .ref q4, .null, .null, .null, .int 0, .int 0, .int 0])), (q1, .inr (2, [.ref q2, .ref q3, .int 0, .int 0])), (q2, .inl (cB, 65536, .inl z00)), (q3, .inl (cI, 4096, .inl z00)), (q4, .inr (4, [.ref q5, .ref q6, .int 0])), (q5, .inl (cI, 8, .inl z00)), (q6, .inl (cI, 4, .inl z00))] H := hP
  replace hD : va_D A [(q0, .inr (3, [.ref q1, .ref q4, .null, .null, .null, .int 0, .int 0, .int 0])), (q1, .inr (2, [.ref q2, .ref q3, .int 0, .int 0])), (q2, .inl (cB, 65536, .inl z00)), (q3, .inl (cI, 4096, .inl z00)), (q4, .inr (4, [.ref q5, .ref q6, .int 0])), (q5, .inl (cI, 8, .inl z00)), (q6, .inl (cI, 4, .inl z00))] := hD
  refine lv_aload_n hx hb dX3_init_26 rfl (lv_at hl 0 rfl) ?_
  refine va_new (ci := 0) (fs := [.int 0]) (C := RX0) (T := TX0) (N := 1) hx hb hts (by decide +kernel) tyX0 tyX0_ok hown (hts (.classLink RX3 25 RX0) (by decide +kernel)) (hts (.instantiable RX0 1) (by decide +kernel)) (hts (.initialized RX0) (by decide +kernel)) hK hP hD hS hA rfl (fun j hj => by rcases (show j = 0 by omega) with rfl <;> rfl) (Nat.le_of_ble_eq_true rfl) (Nat.le_of_ble_eq_true rfl) dX3_init_27 (fun q7 H hP hD hS => ?_)
  replace hP : va_P D vwCl [(q0, .inr (3, [.ref q1, .ref q4, .null, .null, .null, .int 0, .int 0, .int 0])), (q1, .inr (2, [.ref q2, .ref q3, .int 0, .int 0])), (q2, .inl (cB, 65536, .inl z00)), (q3, .inl (cI, 4096, .inl z00)), (q4, .inr (4, [.ref q5, .ref q6, .int 0])), (q5, .inl (cI, 8, .inl z00)), (q6, .inl (cI, 4, .inl z00)), (q7, .inr (0, [.int 0]))] H := hP
  replace hD : va_D A [(q0, .inr (3, [.ref q1, .ref q4, .null, .null, .null, .int 0, .int 0, .int 0])), (q1, .inr (2, [.ref q2, .ref q3, .int 0, .int 0])), (q2, .inl (cB, 65536, .inl z00)), (q3, .inl (cI, 4096, .inl z00)), (q4, .inr (4, [.ref q5, .ref q6, .int 0])), (q5, .inl (cI, 8, .inl z00)), (q6, .inl (cI, 4, .inl z00)), (q7, .inr (0, [.int 0]))] := hD
  refine W.widen (k := 7) (n := 69652) (Nat.le_of_ble_eq_true rfl) (Nat.le_of_ble_eq_true rfl) ?_
  refine lv_dup hx hb dX3_init_30 rfl ?_
  refine cn_N (wc := [(q7, .inr (0, [.int 0]))]) (wr := [(q0, .inr (3, [.ref q1, .ref q4, .null, .null, .null, .int 0, .int 0, .int 0])), (q1, .inr (2, [.ref q2, .ref q3, .int 0, .int 0])), (q2, .inl (cB, 65536, .inl z00)), (q3, .inl (cI, 4096, .inl z00)), (q4, .inr (4, [.ref q5, .ref q6, .int 0])), (q5, .inl (cI, 8, .inl z00)), (q6, .inl (cI, 4, .inl z00))]) (wo := fun u : Unit => (WA q7 0)) (rest := [.ref q7, .ref q0]) (st := [.ref q7, .ref q7, .ref q0]) [7] [0, 1, 2, 3, 4, 5, 6] rfl rfl (by decide) rfl rfl (by decide) S hK hA hP hD hS (kcX0_init l D cB cI q7 H.size) (va_cnB 0 hts gX3_init_X0_init_n27 rfl rfl rfl hE.2.2.1 (hts (.initialized RX0) (by decide +kernel)) (by decide +kernel) ⟨Nat.le_of_ble_eq_true rfl, Nat.le_of_ble_eq_true rfl⟩) (hts (.instanceMethod yX0_init) (by decide +kernel)) tru_h tru_b rfl rfl hl.1 (Nat.le_of_ble_eq_true rfl) dX3_init_31 ⟨Nat.le_of_ble_eq_true rfl, Nat.le_of_ble_eq_true rfl⟩ (fun u H locs hP hD hS => ?_)
  replace hP : va_P D vwCl [(q0, .inr (3, [.ref q1, .ref q4, .null, .null, .null, .int 0, .int 0, .int 0])), (q1, .inr (2, [.ref q2, .ref q3, .int 0, .int 0])), (q2, .inl (cB, 65536, .inl z00)), (q3, .inl (cI, 4096, .inl z00)), (q4, .inr (4, [.ref q5, .ref q6, .int 0])), (q5, .inl (cI, 8, .inl z00)), (q6, .inl (cI, 4, .inl z00)), (q7, .inr (0, [.int 0]))] H := hP
  replace hD : va_D A [(q0, .inr (3, [.ref q1, .ref q4, .null, .null, .null, .int 0, .int 0, .int 0])), (q1, .inr (2, [.ref q2, .ref q3, .int 0, .int 0])), (q2, .inl (cB, 65536, .inl z00)), (q3, .inl (cI, 4096, .inl z00)), (q4, .inr (4, [.ref q5, .ref q6, .int 0])), (q5, .inl (cI, 8, .inl z00)), (q6, .inl (cI, 4, .inl z00)), (q7, .inr (0, [.int 0]))] := hD
  refine W.widen (k := 7) (n := 69652) (Nat.le_of_ble_eq_true rfl) (Nat.le_of_ble_eq_true rfl) ?_
  refine va_putF (D := D) (ci := 3) (v := .ref q7) (ty := tyX3 2) (C := RX3) (T := TX3) (N := 8) hx hb hts i_X3 tyX3 tyX3_ok nmX3 hown hK hP hD hS 0 rfl rfl 2 (by decide) (hts (.fieldLink RX3 28 "MachineCore$Processor" "arithmetic" "LMachineCore$Arithmetic;") (by decide +kernel)) (fun _ h9 => h9) rfl hin rfl (by decide +kernel) rfl rfl (Nat.le_of_ble_eq_true rfl) dX3_init_34 (fun H locs hP hD hS => ?_)
  replace hP : va_P D vwCl [(q0, .inr (3, [.ref q1, .ref q4, .ref q7, .null, .null, .int 0, .int 0, .int 0])), (q1, .inr (2, [.ref q2, .ref q3, .int 0, .int 0])), (q2, .inl (cB, 65536, .inl z00)), (q3, .inl (cI, 4096, .inl z00)), (q4, .inr (4, [.ref q5, .ref q6, .int 0])), (q5, .inl (cI, 8, .inl z00)), (q6, .inl (cI, 4, .inl z00)), (q7, .inr (0, [.int 0]))] H := hP
  replace hD : va_D A [(q0, .inr (3, [.ref q1, .ref q4, .ref q7, .null, .null, .int 0, .int 0, .int 0])), (q1, .inr (2, [.ref q2, .ref q3, .int 0, .int 0])), (q2, .inl (cB, 65536, .inl z00)), (q3, .inl (cI, 4096, .inl z00)), (q4, .inr (4, [.ref q5, .ref q6, .int 0])), (q5, .inl (cI, 8, .inl z00)), (q6, .inl (cI, 4, .inl z00)), (q7, .inr (0, [.int 0]))] := hD
  refine lv_aload_n hx hb dX3_init_37 rfl (lv_at hl 0 rfl) ?_
  refine va_new (ci := 1) (fs := [.int 0, .int 0, .int 0, .int 0, .int 0, .int 0, .int 0, .int 0, .int 0, .int 0, .int 0, .int 0]) (C := RX1) (T := TX1) (N := 12) hx hb hts (by decide +kernel) tyX1 tyX1_ok hown (hts (.classLink RX3 32 RX1) (by decide +kernel)) (hts (.instantiable RX1 12) (by decide +kernel)) (hts (.initialized RX1) (by decide +kernel)) hK hP hD hS hA rfl (fun j hj => by rcases (show j = 0 ∨ j = 1 ∨ j = 2 ∨ j = 3 ∨ j = 4 ∨ j = 5 ∨ j = 6 ∨ j = 7 ∨ j = 8 ∨ j = 9 ∨ j = 10 ∨ j = 11 by omega) with rfl | rfl | rfl | rfl | rfl | rfl | rfl | rfl | rfl | rfl | rfl | rfl <;> rfl) (Nat.le_of_ble_eq_true rfl) (Nat.le_of_ble_eq_true rfl) dX3_init_38 (fun q8 H hP hD hS => ?_)
  replace hP : va_P D vwCl [(q0, .inr (3, [.ref q1, .ref q4, .ref q7, .null, .null, .int 0, .int 0, .int 0])), (q1, .inr (2, [.ref q2, .ref q3, .int 0, .int 0])), (q2, .inl (cB, 65536, .inl z00)), (q3, .inl (cI, 4096, .inl z00)), (q4, .inr (4, [.ref q5, .ref q6, .int 0])), (q5, .inl (cI, 8, .inl z00)), (q6, .inl (cI, 4, .inl z00)), (q7, .inr (0, [.int 0])), (q8, .inr (1, [.int 0, .int 0, .int 0, .int 0, .int 0, .int 0, .int 0, .int 0, .int 0, .int 0, .int 0, .int 0]))] H := hP
  replace hD : va_D A [(q0, .inr (3, [.ref q1, .ref q4, .ref q7, .null, .null, .int 0, .int 0, .int 0])), (q1, .inr (2, [.ref q2, .ref q3, .int 0, .int 0])), (q2, .inl (cB, 65536, .inl z00)), (q3, .inl (cI, 4096, .inl z00)), (q4, .inr (4, [.ref q5, .ref q6, .int 0])), (q5, .inl (cI, 8, .inl z00)), (q6, .inl (cI, 4, .inl z00)), (q7, .inr (0, [.int 0])), (q8, .inr (1, [.int 0, .int 0, .int 0, .int 0, .int 0, .int 0, .int 0, .int 0, .int 0, .int 0, .int 0, .int 0]))] := hD
  refine W.widen (k := 8) (n := 69664) (Nat.le_of_ble_eq_true rfl) (Nat.le_of_ble_eq_true rfl) ?_
  refine lv_dup hx hb dX3_init_41 rfl ?_
  refine cn_N (wc := [(q8, .inr (1, [.int 0, .int 0, .int 0, .int 0, .int 0, .int 0, .int 0, .int 0, .int 0, .int 0, .int 0, .int 0]))]) (wr := [(q0, .inr (3, [.ref q1, .ref q4, .ref q7, .null, .null, .int 0, .int 0, .int 0])), (q1, .inr (2, [.ref q2, .ref q3, .int 0, .int 0])), (q2, .inl (cB, 65536, .inl z00)), (q3, .inl (cI, 4096, .inl z00)), (q4, .inr (4, [.ref q5, .ref q6, .int 0])), (q5, .inl (cI, 8, .inl z00)), (q6, .inl (cI, 4, .inl z00)), (q7, .inr (0, [.int 0]))]) (wo := fun u : Unit => (WC q8 c00)) (rest := [.ref q8, .ref q0]) (st := [.ref q8, .ref q8, .ref q0]) [8] [0, 1, 2, 3, 4, 5, 6, 7] rfl rfl (by decide) rfl rfl (by decide) S hK hA hP hD hS (kcX1_init l D cB cI q8 H.size) (va_cnB 0 hts gX3_init_X1_init_n34 rfl rfl rfl hE.2.2.2 (hts (.initialized RX1) (by decide +kernel)) (by decide +kernel) ⟨Nat.le_of_ble_eq_true rfl, Nat.le_of_ble_eq_true rfl⟩) (hts (.instanceMethod yX1_init) (by decide +kernel)) tru_h tru_b rfl rfl hl.1 (Nat.le_of_ble_eq_true rfl) dX3_init_42 ⟨Nat.le_of_ble_eq_true rfl, Nat.le_of_ble_eq_true rfl⟩ (fun u H locs hP hD hS => ?_)
  replace hP : va_P D vwCl [(q0, .inr (3, [.ref q1, .ref q4, .ref q7, .null, .null, .int 0, .int 0, .int 0])), (q1, .inr (2, [.ref q2, .ref q3, .int 0, .int 0])), (q2, .inl (cB, 65536, .inl z00)), (q3, .inl (cI, 4096, .inl z00)), (q4, .inr (4, [.ref q5, .ref q6, .int 0])), (q5, .inl (cI, 8, .inl z00)), (q6, .inl (cI, 4, .inl z00)), (q7, .inr (0, [.int 0])), (q8, .inr (1, [.int 0, .int 0, .int 0, .int 0, .int 0, .int 0, .int 0, .int 0, .int 0, .int 0, .int 0, .int 0]))] H := hP
  replace hD : va_D A [(q0, .inr (3, [.ref q1, .ref q4, .ref q7, .null, .null, .int 0, .int 0, .int 0])), (q1, .inr (2, [.ref q2, .ref q3, .int 0, .int 0])), (q2, .inl (cB, 65536, .inl z00)), (q3, .inl (cI, 4096, .inl z00)), (q4, .inr (4, [.ref q5, .ref q6, .int 0])), (q5, .inl (cI, 8, .inl z00)), (q6, .inl (cI, 4, .inl z00)), (q7, .inr (0, [.int 0])), (q8, .inr (1, [.int 0, .int 0, .int 0, .int 0, .int 0, .int 0, .int 0, .int 0, .int 0, .int 0, .int 0, .int 0]))] := hD
  refine W.widen (k := 8) (n := 69664) (Nat.le_of_ble_eq_true rfl) (Nat.le_of_ble_eq_true rfl) ?_
  refine va_putF (D := D) (ci := 3) (v := .ref q8) (ty := tyX3 3) (C := RX3) (T := TX3) (N := 8) hx hb hts i_X3 tyX3 tyX3_ok nmX3 hown hK hP hD hS 0 rfl rfl 3 (by decide) (hts (.fieldLink RX3 35 "MachineCore$Processor" "code" "LMachineCore$Code;") (by decide +kernel)) (fun _ h9 => h9) rfl hin rfl (by decide +kernel) rfl rfl (Nat.le_of_ble_eq_true rfl) dX3_init_45 (fun H locs hP hD hS => ?_)
  replace hP : va_P D vwCl [(q0, .inr (3, [.ref q1, .ref q4, .ref q7, .ref q8, .null, .int 0, .int 0, .int 0])), (q1, .inr (2, [.ref q2, .ref q3, .int 0, .int 0])), (q2, .inl (cB, 65536, .inl z00)), (q3, .inl (cI, 4096, .inl z00)), (q4, .inr (4, [.ref q5, .ref q6, .int 0])), (q5, .inl (cI, 8, .inl z00)), (q6, .inl (cI, 4, .inl z00)), (q7, .inr (0, [.int 0])), (q8, .inr (1, [.int 0, .int 0, .int 0, .int 0, .int 0, .int 0, .int 0, .int 0, .int 0, .int 0, .int 0, .int 0]))] H := hP
  replace hD : va_D A [(q0, .inr (3, [.ref q1, .ref q4, .ref q7, .ref q8, .null, .int 0, .int 0, .int 0])), (q1, .inr (2, [.ref q2, .ref q3, .int 0, .int 0])), (q2, .inl (cB, 65536, .inl z00)), (q3, .inl (cI, 4096, .inl z00)), (q4, .inr (4, [.ref q5, .ref q6, .int 0])), (q5, .inl (cI, 8, .inl z00)), (q6, .inl (cI, 4, .inl z00)), (q7, .inr (0, [.int 0])), (q8, .inr (1, [.int 0, .int 0, .int 0, .int 0, .int 0, .int 0, .int 0, .int 0, .int 0, .int 0, .int 0, .int 0]))] := hD
  refine lv_aload_n hx hb dX3_init_48 rfl (lv_at hl 0 rfl) ?_
  refine lv_sipush (v := (256 : Int32)) hx hb dX3_init_49 (by decide) ?_
  refine nw_B hx hb (hts (.arrayClass .byte) (by decide +kernel)) hK 0 rfl hP hD hS hA (n := (256 : Int32)) (N := 256) (by decide) (by decide) (Nat.le_of_ble_eq_true rfl) (Nat.le_of_ble_eq_true rfl) (Nat.le_of_ble_eq_true rfl) dX3_init_52 (fun q9 H hP hD hS => ?_)
  replace hP : va_P D vwCl [(q0, .inr (3, [.ref q1, .ref q4, .ref q7, .ref q8, .null, .int 0, .int 0, .int 0])), (q1, .inr (2, [.ref q2, .ref q3, .int 0, .int 0])), (q2, .inl (cB, 65536, .inl z00)), (q3, .inl (cI, 4096, .inl z00)), (q4, .inr (4, [.ref q5, .ref q6, .int 0])), (q5, .inl (cI, 8, .inl z00)), (q6, .inl (cI, 4, .inl z00)), (q7, .inr (0, [.int 0])), (q8, .inr (1, [.int 0, .int 0, .int 0, .int 0, .int 0, .int 0, .int 0, .int 0, .int 0, .int 0, .int 0, .int 0])), (q9, .inl (cB, 256, .inl z00))] H := hP
  replace hD : va_D A [(q0, .inr (3, [.ref q1, .ref q4, .ref q7, .ref q8, .null, .int 0, .int 0, .int 0])), (q1, .inr (2, [.ref q2, .ref q3, .int 0, .int 0])), (q2, .inl (cB, 65536, .inl z00)), (q3, .inl (cI, 4096, .inl z00)), (q4, .inr (4, [.ref q5, .ref q6, .int 0])), (q5, .inl (cI, 8, .inl z00)), (q6, .inl (cI, 4, .inl z00)), (q7, .inr (0, [.int 0])), (q8, .inr (1, [.int 0, .int 0, .int 0, .int 0, .int 0, .int 0, .int 0, .int 0, .int 0, .int 0, .int 0, .int 0])), (q9, .inl (cB, 256, .inl z00))] := hD
  refine W.widen (k := 9) (n := 69920) (Nat.le_of_ble_eq_true rfl) (Nat.le_of_ble_eq_true rfl) ?_
  refine va_putF (D := D) (ci := 3) (v := .ref q9) (ty := tyX3 4) (C := RX3) (T := TX3) (N := 8) hx hb hts i_X3 tyX3 tyX3_ok nmX3 hown hK hP hD hS 0 rfl rfl 4 (by decide) (hts (.fieldLink RX3 39 "MachineCore$Processor" "ports" "[B") (by decide +kernel)) (fun _ h9 => h9) rfl hin rfl (by decide +kernel) rfl rfl (Nat.le_of_ble_eq_true rfl) dX3_init_54 (fun H locs hP hD hS => ?_)
  replace hP : va_P D vwCl [(q0, .inr (3, [.ref q1, .ref q4, .ref q7, .ref q8, .ref q9, .int 0, .int 0, .int 0])), (q1, .inr (2, [.ref q2, .ref q3, .int 0, .int 0])), (q2, .inl (cB, 65536, .inl z00)), (q3, .inl (cI, 4096, .inl z00)), (q4, .inr (4, [.ref q5, .ref q6, .int 0])), (q5, .inl (cI, 8, .inl z00)), (q6, .inl (cI, 4, .inl z00)), (q7, .inr (0, [.int 0])), (q8, .inr (1, [.int 0, .int 0, .int 0, .int 0, .int 0, .int 0, .int 0, .int 0, .int 0, .int 0, .int 0, .int 0])), (q9, .inl (cB, 256, .inl z00))] H := hP
  replace hD : va_D A [(q0, .inr (3, [.ref q1, .ref q4, .ref q7, .ref q8, .ref q9, .int 0, .int 0, .int 0])), (q1, .inr (2, [.ref q2, .ref q3, .int 0, .int 0])), (q2, .inl (cB, 65536, .inl z00)), (q3, .inl (cI, 4096, .inl z00)), (q4, .inr (4, [.ref q5, .ref q6, .int 0])), (q5, .inl (cI, 8, .inl z00)), (q6, .inl (cI, 4, .inl z00)), (q7, .inr (0, [.int 0])), (q8, .inr (1, [.int 0, .int 0, .int 0, .int 0, .int 0, .int 0, .int 0, .int 0, .int 0, .int 0, .int 0, .int 0])), (q9, .inl (cB, 256, .inl z00))] := hD
  refine lv_aload_n hx hb dX3_init_57 rfl (lv_at hl 0 rfl) ?_
  refine lv_iconst (v := (-1 : Int32)) hx hb dX3_init_58 (by decide) ?_
  refine va_put (D := D) (ci := 3) (v := .int (-1 : Int32)) (ty := tyX3 7) (C := RX3) (T := TX3) (N := 8) hx hb hts i_X3 tyX3 tyX3_ok nmX3 hown hK hP hD hS 0 rfl rfl 7 (by decide) (hts (.fieldLink RX3 43 "MachineCore$Processor" "called" "I") (by decide +kernel)) (fun _ h9 => h9) rfl (by decide +kernel) rfl rfl (Nat.le_of_ble_eq_true rfl) dX3_init_59 (fun H locs hP hD hS => ?_)
  replace hP : va_P D vwCl [(q0, .inr (3, [.ref q1, .ref q4, .ref q7, .ref q8, .ref q9, .int 0, .int 0, .int (-1)])), (q1, .inr (2, [.ref q2, .ref q3, .int 0, .int 0])), (q2, .inl (cB, 65536, .inl z00)), (q3, .inl (cI, 4096, .inl z00)), (q4, .inr (4, [.ref q5, .ref q6, .int 0])), (q5, .inl (cI, 8, .inl z00)), (q6, .inl (cI, 4, .inl z00)), (q7, .inr (0, [.int 0])), (q8, .inr (1, [.int 0, .int 0, .int 0, .int 0, .int 0, .int 0, .int 0, .int 0, .int 0, .int 0, .int 0, .int 0])), (q9, .inl (cB, 256, .inl z00))] H := hP
  replace hD : va_D A [(q0, .inr (3, [.ref q1, .ref q4, .ref q7, .ref q8, .ref q9, .int 0, .int 0, .int (-1)])), (q1, .inr (2, [.ref q2, .ref q3, .int 0, .int 0])), (q2, .inl (cB, 65536, .inl z00)), (q3, .inl (cI, 4096, .inl z00)), (q4, .inr (4, [.ref q5, .ref q6, .int 0])), (q5, .inl (cI, 8, .inl z00)), (q6, .inl (cI, 4, .inl z00)), (q7, .inr (0, [.int 0])), (q8, .inr (1, [.int 0, .int 0, .int 0, .int 0, .int 0, .int 0, .int 0, .int 0, .int 0, .int 0, .int 0, .int 0])), (q9, .inl (cB, 256, .inl z00))] := hD
  exact W.vret hx hb hr (fun t ht hW => ⟨⟨(q1, q2, q3, q4, q5, q6, q7, q8, q9), rfl, trivial, by rw [ht]; exact hP, hD⟩, hS.F ht⟩) hS.2.2 dX3_init_62 (hlocks := hlk)
set_option maxHeartbeats 4000000 in
set_option maxRecDepth 100000 in
theorem kcX5_init (l : Launch) (D : va_G) (cB cI : ClassId) (q10 : Nat) (sz : Nat) : Met l yX5_init wsX5_init ({ frames := 3, cells := 10, slots := 69928, locals := 54 } : Room) (va_Pc [.ref q10] (Pcw D (tyA cB cI) [(q10, .inr (5, [.null, .int 0, .int 0, .int 0, .int 0]))] sz Nx5)) (va_Qv (fun _ : Nat × Nat × Nat × Nat × Nat × Nat × Nat × Nat × Nat × Nat => True) (fun (u : Nat × Nat × Nat × Nat × Nat × Nat × Nat × Nat × Nat × Nat) t => va_P D vwCl (WX cB cI u.1 u.2.1 u.2.2.1 u.2.2.2.1 u.2.2.2.2.1 u.2.2.2.2.2.1 u.2.2.2.2.2.2.1 u.2.2.2.2.2.2.2.1 u.2.2.2.2.2.2.2.2.1 u.2.2.2.2.2.2.2.2.2 q10 x00) t.heap ∧ va_D (va_A [(q10, .inr (5, [.null, .int 0, .int 0, .int 0, .int 0]))] sz) (WX cB cI u.1 u.2.1 u.2.2.1 u.2.2.2.1 u.2.2.2.2.1 u.2.2.2.2.2.1 u.2.2.2.2.2.2.1 u.2.2.2.2.2.2.2.1 u.2.2.2.2.2.2.2.2.1 u.2.2.2.2.2.2.2.2.2 q10 x00)) (va_A [(q10, .inr (5, [.null, .int 0, .int 0, .int 0, .int 0]))] sz)) 10 69928 (va_A [(q10, .inr (5, [.null, .int 0, .int 0, .int 0, .int 0]))] sz) := by
  refine en_ (cc := cX5_init) (maxL := 1) (ret := none) (own := RX5) (lv := [(0, .ref q10)]) (Qf := fun A => va_Qv (fun _ : Nat × Nat × Nat × Nat × Nat × Nat × Nat × Nat × Nat × Nat => True) (fun (u : Nat × Nat × Nat × Nat × Nat × Nat × Nat × Nat × Nat × Nat) t => va_P D vwCl (WX cB cI u.1 u.2.1 u.2.2.1 u.2.2.2.1 u.2.2.2.2.1 u.2.2.2.2.2.1 u.2.2.2.2.2.2.1 u.2.2.2.2.2.2.2.1 u.2.2.2.2.2.2.2.2.1 u.2.2.2.2.2.2.2.2.2 q10 x00) t.heap ∧ va_D A (WX cB cI u.1 u.2.1 u.2.2.1 u.2.2.2.1 u.2.2.2.2.1 u.2.2.2.2.2.1 u.2.2.2.2.2.2.1 u.2.2.2.2.2.2.2.1 u.2.2.2.2.2.2.2.2.1 u.2.2.2.2.2.2.2.2.2 q10 x00)) A) (by decide) rfl rfl (Nat.le_of_ble_eq_true rfl) rfl ?_
  intro p e s m below meth c A ls S hr hlk hname hsz hP hK hD hA hSub hS hE hl
  have hx := S.1
  have hb := S.2.1
  have hown := S.2.2.2.1
  have hts := S.2.2.2.2
  have hin : meth.name = "<init>" := hname
  have i_X5 : ∀ w ∈ u_ws RX5 TX5 5, w ∈ wsX5_init := by decide +kernel
  obtain ⟨H, eH⟩ : ∃ H, H = s.heap := ⟨_, rfl⟩
  obtain ⟨locs, eL⟩ : ∃ locs : List Loc, locs = [] := ⟨_, rfl⟩
  replace hP : va_P D vwCl [(q10, .inr (5, [.null, .int 0, .int 0, .int 0, .int 0]))] H := by rw [eH]; exact hP
  replace hS : va_S A s.heap H locs := by rw [eH, eL]; exact hS
  suffices hgo : W p l e ({ frames := 3, cells := 10, slots := 69928, locals := 54 } : Room) s m ([.ref q10] : List Value).toArray below meth c H locs 0 0 (MQ below (va_Qv (fun _ : Nat × Nat × Nat × Nat × Nat × Nat × Nat × Nat × Nat × Nat => True) (fun (u : Nat × Nat × Nat × Nat × Nat × Nat × Nat × Nat × Nat × Nat) t => va_P D vwCl (WX cB cI u.1 u.2.1 u.2.2.1 u.2.2.2.1 u.2.2.2.2.1 u.2.2.2.2.2.1 u.2.2.2.2.2.2.1 u.2.2.2.2.2.2.2.1 u.2.2.2.2.2.2.2.2.1 u.2.2.2.2.2.2.2.2.2 q10 x00) t.heap ∧ va_D A (WX cB cI u.1 u.2.1 u.2.2.1 u.2.2.2.1 u.2.2.2.2.1 u.2.2.2.2.2.1 u.2.2.2.2.2.2.1 u.2.2.2.2.2.2.2.1 u.2.2.2.2.2.2.2.2.1 u.2.2.2.2.2.2.2.2.2 q10 x00)) A) ([.ref q10] : List Value).toArray s 10 69928 A) (F0 m 0 ls []) by rw [eH, eL] at hgo; exact hgo
  clear eH eL
  refine lv_aload_n hx hb dX5_init_0 rfl (lv_at hl 0 rfl) ?_
  refine W.objInit hx hb hown (hts (.methodLink RX5 1 objectInit) (by decide +kernel)) (hts (.instanceMethod objectInit) (by decide +kernel)) (hts (.code objectInit ⟨#[0xb1]⟩ 1 none) (by decide +kernel)) rfl (by rw [S.2.2.1]; exact hl.1) rfl dX5_init_1 (Nat.le_of_ble_eq_true rfl) (Nat.le_of_ble_eq_true rfl) ?_
  refine W.eq (g2 := F0 m 4 ls []) rfl ?_
  refine lv_aload_n hx hb dX5_init_4 rfl (lv_at hl 0 rfl) ?_
  refine va_new (ci := 3) (fs := [.null, .null, .null, .null, .null, .int 0, .int 0, .int 0]) (C := RX3) (T := TX3) (N := 8) hx hb hts (by decide +kernel) tyX3 tyX3_ok hown (hts (.classLink RX5 7 RX3) (by decide +kernel)) (hts (.instantiable RX3 8) (by decide +kernel)) (hts (.initialized RX3) (by decide +kernel)) hK hP hD hS hA rfl (fun j hj => by rcases (show j = 0 ∨ j = 1 ∨ j = 2 ∨ j = 3 ∨ j = 4 ∨ j = 5 ∨ j = 6 ∨ j = 7 by omega) with rfl | rfl | rfl | rfl | rfl | rfl | rfl | rfl <;> rfl) (Nat.le_of_ble_eq_true rfl) (Nat.le_of_ble_eq_true rfl) dX5_init_5 (fun q0 H hP hD hS => ?_)
  replace hP : va_P D vwCl [(q10, .inr (5, [.null, .int 0, .int 0, .int 0, .int 0])), (q0, .inr (3, [.null, .null, .null, .null, .null, .int 0, .int 0, .int 0]))] H := hP
  replace hD : va_D A [(q10, .inr (5, [.null, .int 0, .int 0, .int 0, .int 0])), (q0, .inr (3, [.null, .null, .null, .null, .null, .int 0, .int 0, .int 0]))] := hD
  refine W.widen (k := 1) (n := 8) (Nat.le_of_ble_eq_true rfl) (Nat.le_of_ble_eq_true rfl) ?_
  refine lv_dup hx hb dX5_init_8 rfl ?_
  refine cn_N (wc := [(q0, .inr (3, [.null, .null, .null, .null, .null, .int 0, .int 0, .int 0]))]) (wr := [(q10, .inr (5, [.null, .int 0, .int 0, .int 0, .int 0]))]) (wo := fun u : Nat × Nat × Nat × Nat × Nat × Nat × Nat × Nat × Nat => (WP cB cI q0 u.1 u.2.1 u.2.2.1 u.2.2.2.1 u.2.2.2.2.1 u.2.2.2.2.2.1 u.2.2.2.2.2.2.1 u.2.2.2.2.2.2.2.1 u.2.2.2.2.2.2.2.2 p00)) (rest := [.ref q0, .ref q10]) (st := [.ref q0, .ref q0, .ref q10]) [1] [0] rfl rfl (by decide) rfl rfl (by decide) S hK hA hP hD hS (kcX3_init l D cB cI q0 H.size) (va_cnB 0 hts gX5_init_X3_init_n9 rfl rfl rfl hE.1 (hts (.initialized RX3) (by decide +kernel)) (by decide +kernel) ⟨Nat.le_of_ble_eq_true rfl, Nat.le_of_ble_eq_true rfl⟩) (hts (.instanceMethod yX3_init) (by decide +kernel)) (nx_h hE) nx_b rfl rfl hl.1 (Nat.le_of_ble_eq_true rfl) dX5_init_9 ⟨Nat.le_of_ble_eq_true rfl, Nat.le_of_ble_eq_true rfl⟩ (fun u H locs hP hD hS => ?_)
  obtain ⟨q1, q2, q3, q4, q5, q6, q7, q8, q9⟩ := u
  replace hP : va_P D vwCl [(q10, .inr (5, [.null, .int 0, .int 0, .int 0, .int 0])), (q0, .inr (3, [.ref q1, .ref q4, .ref q7, .ref q8, .ref q9, .int 0, .int 0, .int (-1)])), (q1, .inr (2, [.ref q2, .ref q3, .int 0, .int 0])), (q2, .inl (cB, 65536, .inl z00)), (q3, .inl (cI, 4096, .inl z00)), (q4, .inr (4, [.ref q5, .ref q6, .int 0])), (q5, .inl (cI, 8, .inl z00)), (q6, .inl (cI, 4, .inl z00)), (q7, .inr (0, [.int 0])), (q8, .inr (1, [.int 0, .int 0, .int 0, .int 0, .int 0, .int 0, .int 0, .int 0, .int 0, .int 0, .int 0, .int 0])), (q9, .inl (cB, 256, .inl z00))] H := hP
  replace hD : va_D A [(q10, .inr (5, [.null, .int 0, .int 0, .int 0, .int 0])), (q0, .inr (3, [.ref q1, .ref q4, .ref q7, .ref q8, .ref q9, .int 0, .int 0, .int (-1)])), (q1, .inr (2, [.ref q2, .ref q3, .int 0, .int 0])), (q2, .inl (cB, 65536, .inl z00)), (q3, .inl (cI, 4096, .inl z00)), (q4, .inr (4, [.ref q5, .ref q6, .int 0])), (q5, .inl (cI, 8, .inl z00)), (q6, .inl (cI, 4, .inl z00)), (q7, .inr (0, [.int 0])), (q8, .inr (1, [.int 0, .int 0, .int 0, .int 0, .int 0, .int 0, .int 0, .int 0, .int 0, .int 0, .int 0, .int 0])), (q9, .inl (cB, 256, .inl z00))] := hD
  refine W.widen (k := 10) (n := 69928) (Nat.le_of_ble_eq_true rfl) (Nat.le_of_ble_eq_true rfl) ?_
  refine va_putF (D := D) (ci := 5) (v := .ref q0) (ty := tyX5 0) (C := RX5) (T := TX5) (N := 5) hx hb hts i_X5 tyX5 tyX5_ok nmX5 hown hK hP hD hS 0 rfl rfl 0 (by decide) (hts (.fieldLink RX5 10 "MachineCore" "processor" "LMachineCore$Processor;") (by decide +kernel)) (fun _ h9 => h9) rfl hin rfl (by decide +kernel) rfl rfl (Nat.le_of_ble_eq_true rfl) dX5_init_12 (fun H locs hP hD hS => ?_)
  replace hP : va_P D vwCl [(q10, .inr (5, [.ref q0, .int 0, .int 0, .int 0, .int 0])), (q0, .inr (3, [.ref q1, .ref q4, .ref q7, .ref q8, .ref q9, .int 0, .int 0, .int (-1)])), (q1, .inr (2, [.ref q2, .ref q3, .int 0, .int 0])), (q2, .inl (cB, 65536, .inl z00)), (q3, .inl (cI, 4096, .inl z00)), (q4, .inr (4, [.ref q5, .ref q6, .int 0])), (q5, .inl (cI, 8, .inl z00)), (q6, .inl (cI, 4, .inl z00)), (q7, .inr (0, [.int 0])), (q8, .inr (1, [.int 0, .int 0, .int 0, .int 0, .int 0, .int 0, .int 0, .int 0, .int 0, .int 0, .int 0, .int 0])), (q9, .inl (cB, 256, .inl z00))] H := hP
  replace hD : va_D A [(q10, .inr (5, [.ref q0, .int 0, .int 0, .int 0, .int 0])), (q0, .inr (3, [.ref q1, .ref q4, .ref q7, .ref q8, .ref q9, .int 0, .int 0, .int (-1)])), (q1, .inr (2, [.ref q2, .ref q3, .int 0, .int 0])), (q2, .inl (cB, 65536, .inl z00)), (q3, .inl (cI, 4096, .inl z00)), (q4, .inr (4, [.ref q5, .ref q6, .int 0])), (q5, .inl (cI, 8, .inl z00)), (q6, .inl (cI, 4, .inl z00)), (q7, .inr (0, [.int 0])), (q8, .inr (1, [.int 0, .int 0, .int 0, .int 0, .int 0, .int 0, .int 0, .int 0, .int 0, .int 0, .int 0, .int 0])), (q9, .inl (cB, 256, .inl z00))] := hD
  refine lv_aload_n hx hb dX5_init_15 rfl (lv_at hl 0 rfl) ?_
  refine lv_iconst (v := (-1 : Int32)) hx hb dX5_init_16 (by decide) ?_
  refine va_put (D := D) (ci := 5) (v := .int (-1 : Int32)) (ty := tyX5 1) (C := RX5) (T := TX5) (N := 5) hx hb hts i_X5 tyX5 tyX5_ok nmX5 hown hK hP hD hS 0 rfl rfl 1 (by decide) (hts (.fieldLink RX5 16 "MachineCore" "waiting" "I") (by decide +kernel)) (fun _ h9 => h9) rfl (by decide +kernel) rfl rfl (Nat.le_of_ble_eq_true rfl) dX5_init_17 (fun H locs hP hD hS => ?_)
  replace hP : va_P D vwCl [(q10, .inr (5, [.ref q0, .int (-1), .int 0, .int 0, .int 0])), (q0, .inr (3, [.ref q1, .ref q4, .ref q7, .ref q8, .ref q9, .int 0, .int 0, .int (-1)])), (q1, .inr (2, [.ref q2, .ref q3, .int 0, .int 0])), (q2, .inl (cB, 65536, .inl z00)), (q3, .inl (cI, 4096, .inl z00)), (q4, .inr (4, [.ref q5, .ref q6, .int 0])), (q5, .inl (cI, 8, .inl z00)), (q6, .inl (cI, 4, .inl z00)), (q7, .inr (0, [.int 0])), (q8, .inr (1, [.int 0, .int 0, .int 0, .int 0, .int 0, .int 0, .int 0, .int 0, .int 0, .int 0, .int 0, .int 0])), (q9, .inl (cB, 256, .inl z00))] H := hP
  replace hD : va_D A [(q10, .inr (5, [.ref q0, .int (-1), .int 0, .int 0, .int 0])), (q0, .inr (3, [.ref q1, .ref q4, .ref q7, .ref q8, .ref q9, .int 0, .int 0, .int (-1)])), (q1, .inr (2, [.ref q2, .ref q3, .int 0, .int 0])), (q2, .inl (cB, 65536, .inl z00)), (q3, .inl (cI, 4096, .inl z00)), (q4, .inr (4, [.ref q5, .ref q6, .int 0])), (q5, .inl (cI, 8, .inl z00)), (q6, .inl (cI, 4, .inl z00)), (q7, .inr (0, [.int 0])), (q8, .inr (1, [.int 0, .int 0, .int 0, .int 0, .int 0, .int 0, .int 0, .int 0, .int 0, .int 0, .int 0, .int 0])), (q9, .inl (cB, 256, .inl z00))] := hD
  exact W.vret hx hb hr (fun t ht hW => ⟨⟨(q0, q1, q2, q3, q4, q5, q6, q7, q8, q9), rfl, trivial, by rw [ht]; exact hP, hD⟩, hS.F ht⟩) hS.2.2 dX5_init_20 (hlocks := hlk)
set_option maxHeartbeats 4000000 in
set_option maxRecDepth 100000 in
theorem kcX6_init (l : Launch) (D : va_G) (cB cI : ClassId) (h0 : Nat) (sz : Nat) : Met l yX6_init wsX6_init ({ frames := 1, cells := 5, slots := 69900, locals := 14 } : Room) (va_Pc [.ref h0] (Pcw D (tyA cB cI) [(h0, .inr (6, [.int 0, .null, .null, .int 0, .int 0, .null, .null, .int 0, .int 0, .null, .int 0, .int 0, .int 0, .int 0, .int 0, .int 0, .int 0, .int 0, .int 0, .int 0, .int 0, .int 0, .int 0, .int 0, .int 0, .int 0, .int 0, .int 0, .int 0]))] sz Tru)) (va_Qv (fun _ : Nat × Nat × Nat × Nat × Nat => True) (fun (u : Nat × Nat × Nat × Nat × Nat) t => va_P D vwCl (WQ cI h0 u.1 u.2.1 u.2.2.1 u.2.2.2.1 u.2.2.2.2 v00) t.heap ∧ va_D (va_A [(h0, .inr (6, [.int 0, .null, .null, .int 0, .int 0, .null, .null, .int 0, .int 0, .null, .int 0, .int 0, .int 0, .int 0, .int 0, .int 0, .int 0, .int 0, .int 0, .int 0, .int 0, .int 0, .int 0, .int 0, .int 0, .int 0, .int 0, .int 0, .int 0]))] sz) (WQ cI h0 u.1 u.2.1 u.2.2.1 u.2.2.2.1 u.2.2.2.2 v00)) (va_A [(h0, .inr (6, [.int 0, .null, .null, .int 0, .int 0, .null, .null, .int 0, .int 0, .null, .int 0, .int 0, .int 0, .int 0, .int 0, .int 0, .int 0, .int 0, .int 0, .int 0, .int 0, .int 0, .int 0, .int 0, .int 0, .int 0, .int 0, .int 0, .int 0]))] sz)) 5 69900 (va_A [(h0, .inr (6, [.int 0, .null, .null, .int 0, .int 0, .null, .null, .int 0, .int 0, .null, .int 0, .int 0, .int 0, .int 0, .int 0, .int 0, .int 0, .int 0, .int 0, .int 0, .int 0, .int 0, .int 0, .int 0, .int 0, .int 0, .int 0, .int 0, .int 0]))] sz) := by
  refine en_ (cc := cX6_init) (maxL := 1) (ret := none) (own := RX6) (lv := [(0, .ref h0)]) (Qf := fun A => va_Qv (fun _ : Nat × Nat × Nat × Nat × Nat => True) (fun (u : Nat × Nat × Nat × Nat × Nat) t => va_P D vwCl (WQ cI h0 u.1 u.2.1 u.2.2.1 u.2.2.2.1 u.2.2.2.2 v00) t.heap ∧ va_D A (WQ cI h0 u.1 u.2.1 u.2.2.1 u.2.2.2.1 u.2.2.2.2 v00)) A) (by decide) rfl rfl (Nat.le_of_ble_eq_true rfl) rfl ?_
  intro p e s m below meth c A ls S hr hlk hname hsz hP hK hD hA hSub hS hE hl
  have hx := S.1
  have hb := S.2.1
  have hown := S.2.2.2.1
  have hts := S.2.2.2.2
  have hin : meth.name = "<init>" := hname
  have i_X6 : ∀ w ∈ u_ws RX6 TX6 29, w ∈ wsX6_init := by decide +kernel
  obtain ⟨H, eH⟩ : ∃ H, H = s.heap := ⟨_, rfl⟩
  obtain ⟨locs, eL⟩ : ∃ locs : List Loc, locs = [] := ⟨_, rfl⟩
  replace hP : va_P D vwCl [(h0, .inr (6, [.int 0, .null, .null, .int 0, .int 0, .null, .null, .int 0, .int 0, .null, .int 0, .int 0, .int 0, .int 0, .int 0, .int 0, .int 0, .int 0, .int 0, .int 0, .int 0, .int 0, .int 0, .int 0, .int 0, .int 0, .int 0, .int 0, .int 0]))] H := by rw [eH]; exact hP
  replace hS : va_S A s.heap H locs := by rw [eH, eL]; exact hS
  suffices hgo : W p l e ({ frames := 1, cells := 5, slots := 69900, locals := 14 } : Room) s m ([.ref h0] : List Value).toArray below meth c H locs 0 0 (MQ below (va_Qv (fun _ : Nat × Nat × Nat × Nat × Nat => True) (fun (u : Nat × Nat × Nat × Nat × Nat) t => va_P D vwCl (WQ cI h0 u.1 u.2.1 u.2.2.1 u.2.2.2.1 u.2.2.2.2 v00) t.heap ∧ va_D A (WQ cI h0 u.1 u.2.1 u.2.2.1 u.2.2.2.1 u.2.2.2.2 v00)) A) ([.ref h0] : List Value).toArray s 5 69900 A) (F0 m 0 ls []) by rw [eH, eL] at hgo; exact hgo
  clear eH eL
  refine lv_aload_n hx hb dX6_init_0 rfl (lv_at hl 0 rfl) ?_
  refine W.objInit hx hb hown (hts (.methodLink RX6 1 objectInit) (by decide +kernel)) (hts (.instanceMethod objectInit) (by decide +kernel)) (hts (.code objectInit ⟨#[0xb1]⟩ 1 none) (by decide +kernel)) rfl (by rw [S.2.2.1]; exact hl.1) rfl dX6_init_1 (Nat.le_of_ble_eq_true rfl) (Nat.le_of_ble_eq_true rfl) ?_
  refine W.eq (g2 := F0 m 4 ls []) rfl ?_
  refine lv_aload_n hx hb dX6_init_4 rfl (lv_at hl 0 rfl) ?_
  refine lv_bipush (v := (8 : Int32)) hx hb dX6_init_5 (by decide) ?_
  refine nw_I hx hb (hts (.arrayClass .int) (by decide +kernel)) hK 1 rfl hP hD hS hA (n := (8 : Int32)) (N := 8) (by decide) (by decide) (Nat.le_of_ble_eq_true rfl) (Nat.le_of_ble_eq_true rfl) (Nat.le_of_ble_eq_true rfl) dX6_init_7 (fun h1 H hP hD hS => ?_)
  replace hP : va_P D vwCl [(h0, .inr (6, [.int 0, .null, .null, .int 0, .int 0, .null, .null, .int 0, .int 0, .null, .int 0, .int 0, .int 0, .int 0, .int 0, .int 0, .int 0, .int 0, .int 0, .int 0, .int 0, .int 0, .int 0, .int 0, .int 0, .int 0, .int 0, .int 0, .int 0])), (h1, .inl (cI, 8, .inl z00))] H := hP
  replace hD : va_D A [(h0, .inr (6, [.int 0, .null, .null, .int 0, .int 0, .null, .null, .int 0, .int 0, .null, .int 0, .int 0, .int 0, .int 0, .int 0, .int 0, .int 0, .int 0, .int 0, .int 0, .int 0, .int 0, .int 0, .int 0, .int 0, .int 0, .int 0, .int 0, .int 0])), (h1, .inl (cI, 8, .inl z00))] := hD
  refine W.widen (k := 1) (n := 8) (Nat.le_of_ble_eq_true rfl) (Nat.le_of_ble_eq_true rfl) ?_
  refine va_putF (D := D) (ci := 6) (v := .ref h1) (ty := tyX6 1) (C := RX6) (T := TX6) (N := 29) hx hb hts i_X6 tyX6 tyX6_ok nmX6 hown hK hP hD hS 0 rfl rfl 1 (by decide) (hts (.fieldLink RX6 7 "MachineCoreModel" "registers" "[I") (by decide +kernel)) (fun _ h9 => h9) rfl hin rfl (by decide +kernel) rfl rfl (Nat.le_of_ble_eq_true rfl) dX6_init_9 (fun H locs hP hD hS => ?_)
  replace hP : va_P D vwCl [(h0, .inr (6, [.int 0, .ref h1, .null, .int 0, .int 0, .null, .null, .int 0, .int 0, .null, .int 0, .int 0, .int 0, .int 0, .int 0, .int 0, .int 0, .int 0, .int 0, .int 0, .int 0, .int 0, .int 0, .int 0, .int 0, .int 0, .int 0, .int 0, .int 0])), (h1, .inl (cI, 8, .inl z00))] H := hP
  replace hD : va_D A [(h0, .inr (6, [.int 0, .ref h1, .null, .int 0, .int 0, .null, .null, .int 0, .int 0, .null, .int 0, .int 0, .int 0, .int 0, .int 0, .int 0, .int 0, .int 0, .int 0, .int 0, .int 0, .int 0, .int 0, .int 0, .int 0, .int 0, .int 0, .int 0, .int 0])), (h1, .inl (cI, 8, .inl z00))] := hD
  refine lv_aload_n hx hb dX6_init_12 rfl (lv_at hl 0 rfl) ?_
  refine lv_iconst (v := (4 : Int32)) hx hb dX6_init_13 (by decide) ?_
  refine nw_I hx hb (hts (.arrayClass .int) (by decide +kernel)) hK 1 rfl hP hD hS hA (n := (4 : Int32)) (N := 4) (by decide) (by decide) (Nat.le_of_ble_eq_true rfl) (Nat.le_of_ble_eq_true rfl) (Nat.le_of_ble_eq_true rfl) dX6_init_14 (fun h2 H hP hD hS => ?_)
  replace hP : va_P D vwCl [(h0, .inr (6, [.int 0, .ref h1, .null, .int 0, .int 0, .null, .null, .int 0, .int 0, .null, .int 0, .int 0, .int 0, .int 0, .int 0, .int 0, .int 0, .int 0, .int 0, .int 0, .int 0, .int 0, .int 0, .int 0, .int 0, .int 0, .int 0, .int 0, .int 0])), (h1, .inl (cI, 8, .inl z00)), (h2, .inl (cI, 4, .inl z00))] H := hP
  replace hD : va_D A [(h0, .inr (6, [.int 0, .ref h1, .null, .int 0, .int 0, .null, .null, .int 0, .int 0, .null, .int 0, .int 0, .int 0, .int 0, .int 0, .int 0, .int 0, .int 0, .int 0, .int 0, .int 0, .int 0, .int 0, .int 0, .int 0, .int 0, .int 0, .int 0, .int 0])), (h1, .inl (cI, 8, .inl z00)), (h2, .inl (cI, 4, .inl z00))] := hD
  refine W.widen (k := 2) (n := 12) (Nat.le_of_ble_eq_true rfl) (Nat.le_of_ble_eq_true rfl) ?_
  refine va_putF (D := D) (ci := 6) (v := .ref h2) (ty := tyX6 2) (C := RX6) (T := TX6) (N := 29) hx hb hts i_X6 tyX6 tyX6_ok nmX6 hown hK hP hD hS 0 rfl rfl 2 (by decide) (hts (.fieldLink RX6 13 "MachineCoreModel" "segments" "[I") (by decide +kernel)) (fun _ h9 => h9) rfl hin rfl (by decide +kernel) rfl rfl (Nat.le_of_ble_eq_true rfl) dX6_init_16 (fun H locs hP hD hS => ?_)
  replace hP : va_P D vwCl [(h0, .inr (6, [.int 0, .ref h1, .ref h2, .int 0, .int 0, .null, .null, .int 0, .int 0, .null, .int 0, .int 0, .int 0, .int 0, .int 0, .int 0, .int 0, .int 0, .int 0, .int 0, .int 0, .int 0, .int 0, .int 0, .int 0, .int 0, .int 0, .int 0, .int 0])), (h1, .inl (cI, 8, .inl z00)), (h2, .inl (cI, 4, .inl z00))] H := hP
  replace hD : va_D A [(h0, .inr (6, [.int 0, .ref h1, .ref h2, .int 0, .int 0, .null, .null, .int 0, .int 0, .null, .int 0, .int 0, .int 0, .int 0, .int 0, .int 0, .int 0, .int 0, .int 0, .int 0, .int 0, .int 0, .int 0, .int 0, .int 0, .int 0, .int 0, .int 0, .int 0])), (h1, .inl (cI, 8, .inl z00)), (h2, .inl (cI, 4, .inl z00))] := hD
  refine lv_aload_n hx hb dX6_init_19 rfl (lv_at hl 0 rfl) ?_
  refine lv_sipush (v := (4096 : Int32)) hx hb dX6_init_20 (by decide) ?_
  refine nw_I hx hb (hts (.arrayClass .int) (by decide +kernel)) hK 1 rfl hP hD hS hA (n := (4096 : Int32)) (N := 4096) (by decide) (by decide) (Nat.le_of_ble_eq_true rfl) (Nat.le_of_ble_eq_true rfl) (Nat.le_of_ble_eq_true rfl) dX6_init_23 (fun h3 H hP hD hS => ?_)
  replace hP : va_P D vwCl [(h0, .inr (6, [.int 0, .ref h1, .ref h2, .int 0, .int 0, .null, .null, .int 0, .int 0, .null, .int 0, .int 0, .int 0, .int 0, .int 0, .int 0, .int 0, .int 0, .int 0, .int 0, .int 0, .int 0, .int 0, .int 0, .int 0, .int 0, .int 0, .int 0, .int 0])), (h1, .inl (cI, 8, .inl z00)), (h2, .inl (cI, 4, .inl z00)), (h3, .inl (cI, 4096, .inl z00))] H := hP
  replace hD : va_D A [(h0, .inr (6, [.int 0, .ref h1, .ref h2, .int 0, .int 0, .null, .null, .int 0, .int 0, .null, .int 0, .int 0, .int 0, .int 0, .int 0, .int 0, .int 0, .int 0, .int 0, .int 0, .int 0, .int 0, .int 0, .int 0, .int 0, .int 0, .int 0, .int 0, .int 0])), (h1, .inl (cI, 8, .inl z00)), (h2, .inl (cI, 4, .inl z00)), (h3, .inl (cI, 4096, .inl z00))] := hD
  refine W.widen (k := 3) (n := 4108) (Nat.le_of_ble_eq_true rfl) (Nat.le_of_ble_eq_true rfl) ?_
  refine va_putF (D := D) (ci := 6) (v := .ref h3) (ty := tyX6 5) (C := RX6) (T := TX6) (N := 29) hx hb hts i_X6 tyX6 tyX6_ok nmX6 hown hK hP hD hS 0 rfl rfl 5 (by decide) (hts (.fieldLink RX6 16 "MachineCoreModel" "slots" "[I") (by decide +kernel)) (fun _ h9 => h9) rfl hin rfl (by decide +kernel) rfl rfl (Nat.le_of_ble_eq_true rfl) dX6_init_25 (fun H locs hP hD hS => ?_)
  replace hP : va_P D vwCl [(h0, .inr (6, [.int 0, .ref h1, .ref h2, .int 0, .int 0, .ref h3, .null, .int 0, .int 0, .null, .int 0, .int 0, .int 0, .int 0, .int 0, .int 0, .int 0, .int 0, .int 0, .int 0, .int 0, .int 0, .int 0, .int 0, .int 0, .int 0, .int 0, .int 0, .int 0])), (h1, .inl (cI, 8, .inl z00)), (h2, .inl (cI, 4, .inl z00)), (h3, .inl (cI, 4096, .inl z00))] H := hP
  replace hD : va_D A [(h0, .inr (6, [.int 0, .ref h1, .ref h2, .int 0, .int 0, .ref h3, .null, .int 0, .int 0, .null, .int 0, .int 0, .int 0, .int 0, .int 0, .int 0, .int 0, .int 0, .int 0, .int 0, .int 0, .int 0, .int 0, .int 0, .int 0, .int 0, .int 0, .int 0, .int 0])), (h1, .inl (cI, 8, .inl z00)), (h2, .inl (cI, 4, .inl z00)), (h3, .inl (cI, 4096, .inl z00))] := hD
  refine lv_aload_n hx hb dX6_init_28 rfl (lv_at hl 0 rfl) ?_
  refine lv_ldc (v := (65536 : Int32)) hx hb hown (hts (.constant RX6 19 (65536)) (by decide +kernel)) dX6_init_29 ?_
  refine nw_I hx hb (hts (.arrayClass .int) (by decide +kernel)) hK 1 rfl hP hD hS hA (n := (65536 : Int32)) (N := 65536) (by decide) (by decide) (Nat.le_of_ble_eq_true rfl) (Nat.le_of_ble_eq_true rfl) (Nat.le_of_ble_eq_true rfl) dX6_init_31 (fun h4 H hP hD hS => ?_)
  replace hP : va_P D vwCl [(h0, .inr (6, [.int 0, .ref h1, .ref h2, .int 0, .int 0, .ref h3, .null, .int 0, .int 0, .null, .int 0, .int 0, .int 0, .int 0, .int 0, .int 0, .int 0, .int 0, .int 0, .int 0, .int 0, .int 0, .int 0, .int 0, .int 0, .int 0, .int 0, .int 0, .int 0])), (h1, .inl (cI, 8, .inl z00)), (h2, .inl (cI, 4, .inl z00)), (h3, .inl (cI, 4096, .inl z00)), (h4, .inl (cI, 65536, .inl z00))] H := hP
  replace hD : va_D A [(h0, .inr (6, [.int 0, .ref h1, .ref h2, .int 0, .int 0, .ref h3, .null, .int 0, .int 0, .null, .int 0, .int 0, .int 0, .int 0, .int 0, .int 0, .int 0, .int 0, .int 0, .int 0, .int 0, .int 0, .int 0, .int 0, .int 0, .int 0, .int 0, .int 0, .int 0])), (h1, .inl (cI, 8, .inl z00)), (h2, .inl (cI, 4, .inl z00)), (h3, .inl (cI, 4096, .inl z00)), (h4, .inl (cI, 65536, .inl z00))] := hD
  refine W.widen (k := 4) (n := 69644) (Nat.le_of_ble_eq_true rfl) (Nat.le_of_ble_eq_true rfl) ?_
  refine va_putF (D := D) (ci := 6) (v := .ref h4) (ty := tyX6 6) (C := RX6) (T := TX6) (N := 29) hx hb hts i_X6 tyX6 tyX6_ok nmX6 hown hK hP hD hS 0 rfl rfl 6 (by decide) (hts (.fieldLink RX6 20 "MachineCoreModel" "bytes" "[I") (by decide +kernel)) (fun _ h9 => h9) rfl hin rfl (by decide +kernel) rfl rfl (Nat.le_of_ble_eq_true rfl) dX6_init_33 (fun H locs hP hD hS => ?_)
  replace hP : va_P D vwCl [(h0, .inr (6, [.int 0, .ref h1, .ref h2, .int 0, .int 0, .ref h3, .ref h4, .int 0, .int 0, .null, .int 0, .int 0, .int 0, .int 0, .int 0, .int 0, .int 0, .int 0, .int 0, .int 0, .int 0, .int 0, .int 0, .int 0, .int 0, .int 0, .int 0, .int 0, .int 0])), (h1, .inl (cI, 8, .inl z00)), (h2, .inl (cI, 4, .inl z00)), (h3, .inl (cI, 4096, .inl z00)), (h4, .inl (cI, 65536, .inl z00))] H := hP
  replace hD : va_D A [(h0, .inr (6, [.int 0, .ref h1, .ref h2, .int 0, .int 0, .ref h3, .ref h4, .int 0, .int 0, .null, .int 0, .int 0, .int 0, .int 0, .int 0, .int 0, .int 0, .int 0, .int 0, .int 0, .int 0, .int 0, .int 0, .int 0, .int 0, .int 0, .int 0, .int 0, .int 0])), (h1, .inl (cI, 8, .inl z00)), (h2, .inl (cI, 4, .inl z00)), (h3, .inl (cI, 4096, .inl z00)), (h4, .inl (cI, 65536, .inl z00))] := hD
  refine lv_aload_n hx hb dX6_init_36 rfl (lv_at hl 0 rfl) ?_
  refine lv_sipush (v := (256 : Int32)) hx hb dX6_init_37 (by decide) ?_
  refine nw_I hx hb (hts (.arrayClass .int) (by decide +kernel)) hK 1 rfl hP hD hS hA (n := (256 : Int32)) (N := 256) (by decide) (by decide) (Nat.le_of_ble_eq_true rfl) (Nat.le_of_ble_eq_true rfl) (Nat.le_of_ble_eq_true rfl) dX6_init_40 (fun h5 H hP hD hS => ?_)
  replace hP : va_P D vwCl [(h0, .inr (6, [.int 0, .ref h1, .ref h2, .int 0, .int 0, .ref h3, .ref h4, .int 0, .int 0, .null, .int 0, .int 0, .int 0, .int 0, .int 0, .int 0, .int 0, .int 0, .int 0, .int 0, .int 0, .int 0, .int 0, .int 0, .int 0, .int 0, .int 0, .int 0, .int 0])), (h1, .inl (cI, 8, .inl z00)), (h2, .inl (cI, 4, .inl z00)), (h3, .inl (cI, 4096, .inl z00)), (h4, .inl (cI, 65536, .inl z00)), (h5, .inl (cI, 256, .inl z00))] H := hP
  replace hD : va_D A [(h0, .inr (6, [.int 0, .ref h1, .ref h2, .int 0, .int 0, .ref h3, .ref h4, .int 0, .int 0, .null, .int 0, .int 0, .int 0, .int 0, .int 0, .int 0, .int 0, .int 0, .int 0, .int 0, .int 0, .int 0, .int 0, .int 0, .int 0, .int 0, .int 0, .int 0, .int 0])), (h1, .inl (cI, 8, .inl z00)), (h2, .inl (cI, 4, .inl z00)), (h3, .inl (cI, 4096, .inl z00)), (h4, .inl (cI, 65536, .inl z00)), (h5, .inl (cI, 256, .inl z00))] := hD
  refine W.widen (k := 5) (n := 69900) (Nat.le_of_ble_eq_true rfl) (Nat.le_of_ble_eq_true rfl) ?_
  refine va_putF (D := D) (ci := 6) (v := .ref h5) (ty := tyX6 9) (C := RX6) (T := TX6) (N := 29) hx hb hts i_X6 tyX6 tyX6_ok nmX6 hown hK hP hD hS 0 rfl rfl 9 (by decide) (hts (.fieldLink RX6 23 "MachineCoreModel" "ports" "[I") (by decide +kernel)) (fun _ h9 => h9) rfl hin rfl (by decide +kernel) rfl rfl (Nat.le_of_ble_eq_true rfl) dX6_init_42 (fun H locs hP hD hS => ?_)
  replace hP : va_P D vwCl [(h0, .inr (6, [.int 0, .ref h1, .ref h2, .int 0, .int 0, .ref h3, .ref h4, .int 0, .int 0, .ref h5, .int 0, .int 0, .int 0, .int 0, .int 0, .int 0, .int 0, .int 0, .int 0, .int 0, .int 0, .int 0, .int 0, .int 0, .int 0, .int 0, .int 0, .int 0, .int 0])), (h1, .inl (cI, 8, .inl z00)), (h2, .inl (cI, 4, .inl z00)), (h3, .inl (cI, 4096, .inl z00)), (h4, .inl (cI, 65536, .inl z00)), (h5, .inl (cI, 256, .inl z00))] H := hP
  replace hD : va_D A [(h0, .inr (6, [.int 0, .ref h1, .ref h2, .int 0, .int 0, .ref h3, .ref h4, .int 0, .int 0, .ref h5, .int 0, .int 0, .int 0, .int 0, .int 0, .int 0, .int 0, .int 0, .int 0, .int 0, .int 0, .int 0, .int 0, .int 0, .int 0, .int 0, .int 0, .int 0, .int 0])), (h1, .inl (cI, 8, .inl z00)), (h2, .inl (cI, 4, .inl z00)), (h3, .inl (cI, 4096, .inl z00)), (h4, .inl (cI, 65536, .inl z00)), (h5, .inl (cI, 256, .inl z00))] := hD
  refine lv_aload_n hx hb dX6_init_45 rfl (lv_at hl 0 rfl) ?_
  refine lv_iconst (v := (-1 : Int32)) hx hb dX6_init_46 (by decide) ?_
  refine va_put (D := D) (ci := 6) (v := .int (-1 : Int32)) (ty := tyX6 10) (C := RX6) (T := TX6) (N := 29) hx hb hts i_X6 tyX6 tyX6_ok nmX6 hown hK hP hD hS 0 rfl rfl 10 (by decide) (hts (.fieldLink RX6 26 "MachineCoreModel" "line" "I") (by decide +kernel)) (fun _ h9 => h9) rfl (by decide +kernel) rfl rfl (Nat.le_of_ble_eq_true rfl) dX6_init_47 (fun H locs hP hD hS => ?_)
  replace hP : va_P D vwCl [(h0, .inr (6, [.int 0, .ref h1, .ref h2, .int 0, .int 0, .ref h3, .ref h4, .int 0, .int 0, .ref h5, .int (-1), .int 0, .int 0, .int 0, .int 0, .int 0, .int 0, .int 0, .int 0, .int 0, .int 0, .int 0, .int 0, .int 0, .int 0, .int 0, .int 0, .int 0, .int 0])), (h1, .inl (cI, 8, .inl z00)), (h2, .inl (cI, 4, .inl z00)), (h3, .inl (cI, 4096, .inl z00)), (h4, .inl (cI, 65536, .inl z00)), (h5, .inl (cI, 256, .inl z00))] H := hP
  replace hD : va_D A [(h0, .inr (6, [.int 0, .ref h1, .ref h2, .int 0, .int 0, .ref h3, .ref h4, .int 0, .int 0, .ref h5, .int (-1), .int 0, .int 0, .int 0, .int 0, .int 0, .int 0, .int 0, .int 0, .int 0, .int 0, .int 0, .int 0, .int 0, .int 0, .int 0, .int 0, .int 0, .int 0])), (h1, .inl (cI, 8, .inl z00)), (h2, .inl (cI, 4, .inl z00)), (h3, .inl (cI, 4096, .inl z00)), (h4, .inl (cI, 65536, .inl z00)), (h5, .inl (cI, 256, .inl z00))] := hD
  exact W.vret hx hb hr (fun t ht hW => ⟨⟨(h1, h2, h3, h4, h5), rfl, trivial, by rw [ht]; exact hP, hD⟩, hS.F ht⟩) hS.2.2 dX6_init_50 (hlocks := hlk)
