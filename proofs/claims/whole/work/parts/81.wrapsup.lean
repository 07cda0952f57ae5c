-- ===== calls that may throw; the worlds of the law's wrappers =====
abbrev AJ : Type := Nat → Int64
def tyJ (cB cI cJ : ClassId) : List (ClassId × FieldType) := [(cB, .byte), (cI, .int), (cJ, .long)]
def WY (cB cI cJ : ClassId) (q0 q1 q2 q3 q4 q5 q6 q7 q8 q9 q10 ho : Nat) (u : SX × AJ) : va_W := WX cB cI q0 q1 q2 q3 q4 q5 q6 q7 q8 q9 q10 u.1 ++ [(ho, .inl (cJ, 1, .inr (.inl u.2)))]
theorem fr_Y_X {cB cI cJ : ClassId} {q0 q1 q2 q3 q4 q5 q6 q7 q8 q9 q10 ho : Nat} (u : SX × AJ) : Fr (WY cB cI cJ q0 q1 q2 q3 q4 q5 q6 q7 q8 q9 q10 ho u) (WX cB cI q0 q1 q2 q3 q4 q5 q6 q7 q8 q9 q10 u.1) (fun v => WX cB cI q0 q1 q2 q3 q4 q5 q6 q7 q8 q9 q10 v) (fun v => WY cB cI cJ q0 q1 q2 q3 q4 q5 q6 q7 q8 q9 q10 ho (v, u.2)) := Fr_mk [0, 1, 2, 3, 4, 5, 6, 7, 8, 9, 10] [11] [1, 2, 3, 4, 5, 6, 7, 8, 9, 10, 11, 0] rfl rfl rfl rfl rfl (by decide) (fun _ => rfl) (fun _ => rfl) (fun _ => rfl)
/-- nothing is thrown -/
def xNo : String → State → State → Prop := vx_X (S := Unit) (fun _ => False) (fun _ _ _ => True) (fun _ => False)
theorem bx_warm {ic : Nat} {cls : String} {s U : State} (hW : s.WarmedH U.vm) (h : Bx ic cls s) : Bx ic cls U := fun w hw => ⟨(h w hw).1, bad_warm (h w hw).1 hW (h w hw).2⟩
theorem tx_b {cls text : String} {ic is sa sz : Nat} {wc : va_W} : ∀ (a : Array Value) (U : State) (g : JFrame) (mk : MethodId), Tx cls ic text is sa wc sz U → Tx cls ic text is sa wc sz (U.calling g mk a) := fun a U g mk h =>
  ⟨vk_R.same (u := U) (U := U.calling g mk a) rfl h.1, vx_Zq.moved (u := U) (U := U.calling g mk a) (Vm.Alike.refl U.vm) h.2.1, vx_Zq.moved (u := U) (U := U.calling g mk a) (Vm.Alike.refl U.vm) h.2.2.1, fun w hw => ⟨(h.2.2.2 w hw).1, bad_same (u := U) (U := U.calling g mk a) (h.2.2.2 w hw).1 rfl (h.2.2.2 w hw).2⟩⟩
theorem ex_call {s : State} {A : Nat → Prop} {H : Heap} {locs : List Loc} {T : Type} {wb wc : va_W} {wo wn : T → va_W} {cls text : String} {ic is sa : Nat} (hE : Ex cls ic text is sa A s) (hA : ∀ q : Nat, s.heap.size ≤ q → A q) (hD : va_D A wb) (hS : va_S A s.heap H locs) (hF : Fr wb wc wo wn) : ∀ U : State, U.heap = H → s.WarmedH U.vm → Tx cls ic text is sa wc H.size U := fun U hU hW => by
  subst hU
  have hfree := cl_free hA hD hS hF
  exact ⟨vk_R.warm hW hE.1, vx_Zq.moved hW.alike ((hE.2.1.kept hS.2.1).narrow hfree), vx_Zq.moved hW.alike ((hE.2.2.1.kept hS.2.1).narrow hfree), bx_warm hW hE.2.2.2⟩
set_option maxHeartbeats 4000000 in
theorem enw_ {l : Launch} {y : MethodName} {ws ws' : List Cond} {rm : Room} {cc : ByteArray} {maxL : Nat} {ret : Option FieldType} {hh : List (Nat × Nat × Nat × Nat)} {avs : List Value} {D : va_G} {tys : List (ClassId × FieldType)} {wb : va_W} {sz : Nat} {E : State → Prop} {Qf : (Nat → Prop) → Array Value → State → Outcome → State → Prop} {XC : String → State → State → Prop} {mc ms : Nat} {own : String} {lv : List (Nat × Value)}
    (hy : plainName y.cls = true) (hw : ws = Cond.codeWith y cc maxL ret hh :: ws') (hcls : y.cls = own) (hn : (lg_sl avs).length ≤ maxL) (hlv : lv_args 0 avs = lv)
    (body : ∀ (p : Program) (e : Env) (s : State) (m : MethodId) (below : List Frame) (meth : Method) (c : Code) (A : Nat → Prop) (ls : Array Slot), CallFix p m c cc maxL s avs.toArray ws own → c.exceptionTable.toList = tableOf hh → meth.sig.returnType = ret → meth.locks = false → meth.name = y.name → s.heap.size = sz → va_P D vwCl wb s.heap → va_K D vwCl tys s → va_D A wb → (∀ q : Nat, s.heap.size ≤ q → A q) → (∀ q, A q → va_A wb sz q) → va_S A s.heap s.heap [] → E s → lv_has ls maxL lv → W p l e rm s m avs.toArray below meth c s.heap [] 0 0 (vx_MQ below (Qf A) XC avs.toArray s mc ms A) (F0 m 0 ls [])) :
    vx_Met l y ws rm (va_Pc avs (Pcw D tys wb sz E)) (Qf (va_A wb sz)) XC mc ms (va_A wb sz) := by
  refine vx_ofWH (cc := cc) (maxL := maxL) (ret := ret) (hh := hh) hy hw ?_
  intro p e s m args below meth c s₁ B hml hv
  obtain ⟨rfl, hsz, hP, hK, hD0, hE⟩ := hv
  have hts := atoms_spec (ws := ws) B.pre
  have hown : s.vm.findClass own = some m.cls := by rw [← hcls]; exact findClass_of_methodNamed B.named
  have ht : c.exceptionTable.toList = tableOf hh := vx_table (x := y) B (hts _ (by rw [hw]; exact List.mem_cons_self))
  have hl := lv_entry avs (n := maxL) hn
  rw [lg_entry_eq]
  rw [hlv] at hl
  exact body p e s m below meth c (va_A wb sz) _ ⟨B.exec, B.bytes, hml, hown, hts⟩ ht B.returns B.notSynchronized (name_of_methodNamed B.named B.method).1 hsz hP hK hD0.self (fun q h => Or.inr (by rw [← hsz]; exact h)) (fun _ h => h) va_S.rf hE hl
section CLX
variable {p : Program} {l : Launch} {e : Env} {R : Room} {s : State} {m : MethodId} {args : Array Value} {below : List Frame} {meth : Method} {c : Code} {H : Heap} {locs : List Loc} {cells slots : Nat} {Q : State → Prop}
variable {y : MethodName} {bytes cc : ByteArray} {maxL nL n index : Nat} {ret : Option FieldType} {ws : List Cond} {rm : Room} {Ts : List Cond} {own C cls : String} {b : Addr} {As rest st : List Value} {pc : Nat} {ls : Array Slot}
variable {D : va_G} {tys tys' : List (ClassId × FieldType)} {A : Nat → Prop} {wb wc : va_W} {T : Type} {wo wn : T → va_W} {E : State → Prop}
theorem clx_Vv (S : CallFix p m c cc nL s args Ts own) (hK : va_K D vwCl tys s) (hK' : va_K D vwCl tys' s) (hA : ∀ q : Nat, s.heap.size ≤ q → A q) (hP : va_P D vwCl wb H) (hD : va_D A wb) (hS : va_S A s.heap H locs) (hF : Fr wb wc wo wn)
    {P Px : T → Prop} (hM : vx_Met l y ws rm (va_Pc (.ref b :: As) (Pcw D tys' wc H.size E)) (va_Qv P (fun u t => va_P D vwCl (wo u) t.heap) (va_A wc H.size)) (vx_X Px (fun E u t => E = cls ∧ va_P D vwCl (wo u) t.heap) (va_A wc H.size)) 1 6 (va_A wc H.size))
    (cw : CallW R s args own C index y bytes maxL ret ws rm 1 6 n)
    (hE : ∀ U : State, U.heap = H → s.WarmedH U.vm → E U) (hEb : ∀ (a : Array Value) (U : State) (g : JFrame) (mk : MethodId), E U → E (U.calling g mk a))
    (pl : Nat) {ci : Nat} {fs : List Value} {qc : vw_C} (he : wb[pl]? = some (b, .inr (ci, fs))) (hc : vwCl[ci]? = some qc) (hC : qc.1 = C)
    (hn : As.length = n) (hst : st = As.reverse ++ .ref b :: rest) (hl : ls.size = nL) (hr : (rest.map fun v => v.category).sum ≤ 8)
    (hdg : decode cc pc = .ok (.invokevirtual index, 3)) (hcs : cells + 1 ≤ R.cells ∧ slots + 6 ≤ R.slots)
    (kx : ∀ (u : T) (q9 : Addr) (ce : Cell) (H1 : Heap) (locs1 : List Loc), va_P D vwCl (wn u) H1 → va_D A (wn u) → va_S A s.heap H1 locs1 → Px u → H1[q9]? = some ce → ce.vm = .none → s.vm.findClass cls = some ce.cls → vx_W p l e R s m args below meth c H1 locs1 (cells + 1) (slots + 6) Q (F0 m pc ls rest) q9)
    (kk : ∀ (u : T) (H1 : Heap) (locs1 : List Loc), va_P D vwCl (wn u) H1 → va_D A (wn u) → va_S A s.heap H1 locs1 → P u → W p l e R s m args below meth c H1 locs1 (cells + 1) (slots + 6) Q (F0 m (pc + 3) ls rest)) :
    W p l e R s m args below meth c H locs cells slots Q (F0 m pc ls st) := by
  have hfree := cl_free hA hD hS hF
  refine vx_callv (vx_runV S hM cw ⟨pc_blind hEb _, ?_, ?_⟩ rfl hn hl hst (lv_room hr) hdg hcs) hS (fun q _ h => hfree q h) hfree (fun q _ h => hfree q h) (fun E9 ce q9 u t H1 locs1 ht hvm hp hB hz hk hS1 h1 h2 h3 => ?_) (fun u t H1 locs1 ht hvm hp hB hz hk hS1 => ?_)
  · obtain ⟨cell, g1, g2, g3⟩ := va_recv hK hP hc he
    exact ⟨cell, g1, g2, by rw [← hC]; exact g3⟩
  · exact fun U hU hW => ⟨rfl, by rw [hU], by rw [hU]; exact hF.1 D H hP, va_K.moved hW.alike hK', (hF.2.1 A hD).weaken (fun _ _ _ _ => trivial), hE U hU hW⟩
  · obtain ⟨hcl, hB⟩ := hB
    rw [ht] at hB
    rw [hcl] at h3
    exact kx u q9 ce H1 locs1 (hF.2.2.2 D A H H1 hP hD hk u hB) (hF.2.2.1 A hD u) hS1 hp h1 h2 h3
  · rw [ht] at hB
    exact kk u H1 locs1 (hF.2.2.2 D A H H1 hP hD hk u hB) (hF.2.2.1 A hD u) hS1 hp
theorem clx_Vi (S : CallFix p m c cc nL s args Ts own) (hK : va_K D vwCl tys s) (hK' : va_K D vwCl tys' s) (hA : ∀ q : Nat, s.heap.size ≤ q → A q) (hP : va_P D vwCl wb H) (hD : va_D A wb) (hS : va_S A s.heap H locs) (hF : Fr wb wc wo wn)
    {P : Int32 → T → Prop} {Px : T → Prop} (hM : vx_Met l y ws rm (va_Pc (.ref b :: As) (Pcw D tys' wc H.size E)) (va_Qi P (fun u t => va_P D vwCl (wo u) t.heap) (va_A wc H.size)) (vx_X Px (fun E u t => E = cls ∧ va_P D vwCl (wo u) t.heap) (va_A wc H.size)) 1 6 (va_A wc H.size))
    (cw : CallW R s args own C index y bytes maxL ret ws rm 1 6 n)
    (hE : ∀ U : State, U.heap = H → s.WarmedH U.vm → E U) (hEb : ∀ (a : Array Value) (U : State) (g : JFrame) (mk : MethodId), E U → E (U.calling g mk a))
    (pl : Nat) {ci : Nat} {fs : List Value} {qc : vw_C} (he : wb[pl]? = some (b, .inr (ci, fs))) (hc : vwCl[ci]? = some qc) (hC : qc.1 = C)
    (hn : As.length = n) (hst : st = As.reverse ++ .ref b :: rest) (hl : ls.size = nL) (hr : (rest.map fun v => v.category).sum ≤ 8)
    (hdg : decode cc pc = .ok (.invokevirtual index, 3)) (hcs : cells + 1 ≤ R.cells ∧ slots + 6 ≤ R.slots)
    (kx : ∀ (u : T) (q9 : Addr) (ce : Cell) (H1 : Heap) (locs1 : List Loc), va_P D vwCl (wn u) H1 → va_D A (wn u) → va_S A s.heap H1 locs1 → Px u → H1[q9]? = some ce → ce.vm = .none → s.vm.findClass cls = some ce.cls → vx_W p l e R s m args below meth c H1 locs1 (cells + 1) (slots + 6) Q (F0 m pc ls rest) q9)
    (kk : ∀ (r : Int32) (u : T) (H1 : Heap) (locs1 : List Loc), va_P D vwCl (wn u) H1 → va_D A (wn u) → va_S A s.heap H1 locs1 → P r u → W p l e R s m args below meth c H1 locs1 (cells + 1) (slots + 6) Q (F0 m (pc + 3) ls (.int r :: rest))) :
    W p l e R s m args below meth c H locs cells slots Q (F0 m pc ls st) := by
  have hfree := cl_free hA hD hS hF
  refine vx_calli (vx_runV S hM cw ⟨pc_blind hEb _, ?_, ?_⟩ rfl hn hl hst (lv_room hr) hdg hcs) hS (fun q _ h => hfree q h) hfree (fun q _ h => hfree q h) (fun E9 ce q9 u t H1 locs1 ht hvm hp hB hz hk hS1 h1 h2 h3 => ?_) (fun r u t H1 locs1 ht hvm hp hB hz hk hS1 => ?_)
  · obtain ⟨cell, g1, g2, g3⟩ := va_recv hK hP hc he
    exact ⟨cell, g1, g2, by rw [← hC]; exact g3⟩
  · exact fun U hU hW => ⟨rfl, by rw [hU], by rw [hU]; exact hF.1 D H hP, va_K.moved hW.alike hK', (hF.2.1 A hD).weaken (fun _ _ _ _ => trivial), hE U hU hW⟩
  · obtain ⟨hcl, hB⟩ := hB
    rw [ht] at hB
    rw [hcl] at h3
    exact kx u q9 ce H1 locs1 (hF.2.2.2 D A H H1 hP hD hk u hB) (hF.2.2.1 A hD u) hS1 hp h1 h2 h3
  · rw [ht] at hB
    exact kk r u H1 locs1 (hF.2.2.2 D A H H1 hP hD hk u hB) (hF.2.2.1 A hD u) hS1 hp
/-- a wrapper of the law: static, with a table, throws nothing -/
theorem clw_Si {hh : List (Nat × Nat × Nat × Nat)} (S : CallFix p m c cc nL s args Ts own) (hK' : va_K D vwCl tys' s) (hA : ∀ q : Nat, s.heap.size ≤ q → A q) (hP : va_P D vwCl wb H) (hD : va_D A wb) (hS : va_S A s.heap H locs) (hF : Fr wb wc wo wn)
    {P : Int32 → T → Prop} (hM : vx_Met l y ws rm (va_Pc As (Pcw D tys' wc H.size E)) (va_Qi P (fun u t => va_P D vwCl (wo u) t.heap) (va_A wc H.size)) xNo 1 6 (va_A wc H.size))
    (cw : vx_CSW R s args own index y bytes maxL ret hh ws rm 1 6 n)
    (hE : ∀ U : State, U.heap = H → s.WarmedH U.vm → E U) (hEb : ∀ (a : Array Value) (U : State) (g : JFrame) (mk : MethodId), E U → E (U.calling g mk a))
    (hn : As.length = n) (hst : st = As.reverse ++ rest) (hl : ls.size = nL) (hr : (rest.map fun v => v.category).sum ≤ 8)
    (hdg : decode cc pc = .ok (.invokestatic index, 3)) (hcs : cells + 1 ≤ R.cells ∧ slots + 6 ≤ R.slots)
    (kk : ∀ (r : Int32) (u : T) (H1 : Heap) (locs1 : List Loc), va_P D vwCl (wn u) H1 → va_D A (wn u) → va_S A s.heap H1 locs1 → P r u → W p l e R s m args below meth c H1 locs1 (cells + 1) (slots + 6) Q (F0 m (pc + 3) ls (.int r :: rest))) :
    W p l e R s m args below meth c H locs cells slots Q (F0 m pc ls st) := by
  have hfree := cl_free hA hD hS hF
  refine vx_calli (vx_runSX S hM cw ⟨pc_blind hEb _, ?_⟩ rfl hn hl hst (lv_room hr) hdg hcs) hS (fun q _ h => hfree q h) hfree (fun _ _ h => h.elim) (fun E9 ce q9 u t H1 locs1 ht hvm hp hB hz hk hS1 h1 h2 h3 => hp.elim) (fun r u t H1 locs1 ht hvm hp hB hz hk hS1 => ?_)
  · exact fun U hU hW => ⟨rfl, by rw [hU], by rw [hU]; exact hF.1 D H hP, va_K.moved hW.alike hK', (hF.2.1 A hD).weaken (fun _ _ _ _ => trivial), hE U hU hW⟩
  · rw [ht] at hB
    exact kk r u H1 locs1 (hF.2.2.2 D A H H1 hP hD hk u hB) (hF.2.2.1 A hD u) hS1 hp
end CLX
