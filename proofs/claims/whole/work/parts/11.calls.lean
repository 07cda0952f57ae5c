-- ===== entry, calls and returns over worlds of this claim =====
def Pcw (D : va_G) (tys : List (ClassId × FieldType)) (wc : va_W) (sz : Nat) (E : State → Prop) : State → Prop := fun U => U.heap.size = sz ∧ va_P D vwCl wc U.heap ∧ va_K D vwCl tys U ∧ va_D (fun _ => True) wc ∧ E U
def Tru : State → Prop := fun _ => True
theorem tru_h {s : State} {H : Heap} : ∀ U : State, U.heap = H → s.WarmedH U.vm → Tru U := fun _ _ _ => trivial
theorem tru_b : ∀ (a : Array Value) (U : State) (g : JFrame) (mk : MethodId), Tru U → Tru (U.calling g mk a) := fun _ _ _ _ h => h
theorem pc_blind {D : va_G} {tys : List (ClassId × FieldType)} {wc : va_W} {sz : Nat} {E : State → Prop} (hE : ∀ (a : Array Value) (U : State) (g : JFrame) (mk : MethodId), E U → E (U.calling g mk a)) (avs : List Value) : FrameBlind (va_Pc avs (Pcw D tys wc sz E)) := fun a U g mk q => by
  obtain ⟨q0, q1, qP, qK, qD, qE⟩ := q
  exact ⟨q0, q1, qP, va_K.moved (u := U) (U := U.calling g mk a) (Vm.Alike.refl U.vm) qK, qD, hE _ _ _ _ qE⟩
set_option maxHeartbeats 4000000 in
theorem en_ {l : Launch} {y : MethodName} {ws ws' : List Cond} {rm : Room} {cc : ByteArray} {maxL : Nat} {ret : Option FieldType} {avs : List Value} {D : va_G} {tys : List (ClassId × FieldType)} {wb : va_W} {sz : Nat} {E : State → Prop} {Qf : (Nat → Prop) → Array Value → State → Outcome → State → Prop} {mc ms : Nat} {own : String} {lv : List (Nat × Value)}
    (hy : plainName y.cls = true) (hw : ws = Cond.code y cc maxL ret :: ws') (hcls : y.cls = own) (hn : (lg_sl avs).length ≤ maxL) (hlv : lv_args 0 avs = lv)
    (body : ∀ (p : Program) (e : Env) (s : State) (m : MethodId) (below : List Frame) (meth : Method) (c : Code) (A : Nat → Prop) (ls : Array Slot), CallFix p m c cc maxL s avs.toArray ws own → meth.sig.returnType = ret → meth.locks = false → meth.name = y.name → s.heap.size = sz → va_P D vwCl wb s.heap → va_K D vwCl tys s → va_D A wb → (∀ q : Nat, s.heap.size ≤ q → A q) → (∀ q, A q → va_A wb sz q) → va_S A s.heap s.heap [] → E s → lv_has ls maxL lv → W p l e rm s m avs.toArray below meth c s.heap [] 0 0 (MQ below (Qf A) avs.toArray s mc ms A) (F0 m 0 ls [])) :
    Met l y ws rm (va_Pc avs (Pcw D tys wb sz E)) (Qf (va_A wb sz)) mc ms (va_A wb sz) := by
  refine Met.ofW (cc := cc) (maxL := maxL) (ret := ret) hy hw ?_
  intro p e s m args below meth c s₁ B hml hv
  obtain ⟨rfl, hsz, hP, hK, hD0, hE⟩ := hv
  have hts := atoms_spec (ws := ws) B.pre
  have hown : s.vm.findClass own = some m.cls := by rw [← hcls]; exact findClass_of_methodNamed B.named
  have hl := lv_entry avs (n := maxL) hn
  rw [lg_entry_eq]
  rw [hlv] at hl
  exact body p e s m below meth c (va_A wb sz) _ ⟨B.exec, B.bytes, hml, hown, hts⟩ B.returns B.notSynchronized (name_of_methodNamed B.named B.method).1 hsz hP hK hD0.self (fun q h => Or.inr (by rw [← hsz]; exact h)) (fun _ h => h) va_S.rf hE hl
section CL
variable {p : Program} {l : Launch} {e : Env} {R : Room} {s : State} {m : MethodId} {args : Array Value} {below : List Frame} {meth : Method} {c : Code} {H : Heap} {locs : List Loc} {cells slots : Nat} {Q : State → Prop}
variable {y : MethodName} {bytes cc : ByteArray} {maxL nL n index : Nat} {ret : Option FieldType} {ws : List Cond} {rm : Room} {Ts : List Cond} {own C : String} {b : Addr} {As rest st : List Value} {pc : Nat} {ls : Array Slot}
variable {D : va_G} {tys : List (ClassId × FieldType)} {A : Nat → Prop} {wb wc : va_W} {T : Type} {wo wn : T → va_W} {E : State → Prop}
theorem cl_free (hA : ∀ q : Nat, s.heap.size ≤ q → A q) (hD : va_D A wb) (hS : va_S A s.heap H locs) (hF : Fr wb wc wo wn) : ∀ q, va_A wc H.size q → A q := fun q h => by
  rcases h with ⟨k, e, hk⟩ | h
  · exact (hF.2.1 A hD).2 k _ hk
  · exact hA q (Nat.le_trans hS.1 h)
theorem fz_call {qF : Nat} (hE : va_Z RX1 "FORMS" "[I" (.ref qF) A s s.heap ∧ va_X qF 256 formsF s s.heap ∧ qF < s.heap.size ∧ ¬ A qF) (hA : ∀ q : Nat, s.heap.size ≤ q → A q) (hD : va_D A wb) (hS : va_S A s.heap H locs) (hF : Fr wb wc wo wn) : ∀ U : State, U.heap = H → s.WarmedH U.vm → Fz qF wc H.size U := fun U hU hW => by
  subst hU
  have hfree := cl_free hA hD hS hF
  exact ⟨va_Z.moved hW.alike ((hE.1.kept hS.2.1).narrow hfree), va_X.moved hW.alike (hE.2.1.kept (hS.2.1 qF hE.2.2.1 hE.2.2.2)), Nat.lt_of_lt_of_le hE.2.2.1 hS.1, fun q => hE.2.2.2 (hfree _ q)⟩
theorem cl_Vi (S : CallFix p m c cc nL s args Ts own) (hK : va_K D vwCl tys s) (hA : ∀ q : Nat, s.heap.size ≤ q → A q) (hP : va_P D vwCl wb H) (hD : va_D A wb) (hS : va_S A s.heap H locs) (hF : Fr wb wc wo wn)
    {P : Int32 → T → Prop} (hM : Met l y ws rm (va_Pc (.ref b :: As) (Pcw D tys wc H.size E)) (va_Qi P (fun u t => va_P D vwCl (wo u) t.heap) (va_A wc H.size)) 0 0 (va_A wc H.size))
    (cw : CallW R s args own C index y bytes maxL ret ws rm 0 0 n)
    (hE : ∀ U : State, U.heap = H → s.WarmedH U.vm → E U) (hEb : ∀ (a : Array Value) (U : State) (g : JFrame) (mk : MethodId), E U → E (U.calling g mk a))
    (pl : Nat) {ci : Nat} {fs : List Value} {qc : vw_C} (he : wb[pl]? = some (b, .inr (ci, fs))) (hc : vwCl[ci]? = some qc) (hC : qc.1 = C)
    (hn : As.length = n) (hst : st = As.reverse ++ .ref b :: rest) (hl : ls.size = nL) (hr : (rest.map fun v => v.category).sum ≤ 8)
    (hdg : decode cc pc = .ok (.invokevirtual index, 3)) (hcs : cells ≤ R.cells ∧ slots ≤ R.slots)
    (kk : ∀ (r : Int32) (u : T) (H1 : Heap) (locs1 : List Loc), va_P D vwCl (wn u) H1 → va_D A (wn u) → va_S A s.heap H1 locs1 → P r u → W p l e R s m args below meth c H1 locs1 cells slots Q (F0 m (pc + 3) ls (.int r :: rest))) :
    W p l e R s m args below meth c H locs cells slots Q (F0 m pc ls st) := by
  have hfree := cl_free hA hD hS hF
  refine va_calli (va_runV S hM cw ⟨pc_blind hEb _, ?_, ?_⟩ rfl hn hl hst (lv_room hr) hdg hcs) hS (fun q _ h => hfree q h) hfree (fun r u t H1 locs1 ht hvm hp hB hz hk hS1 => ?_)
  · obtain ⟨cell, g1, g2, g3⟩ := va_recv hK hP hc he
    exact ⟨cell, g1, g2, by rw [← hC]; exact g3⟩
  · exact fun U hU hW => ⟨rfl, by rw [hU], by rw [hU]; exact hF.1 D H hP, va_K.moved hW.alike hK, (hF.2.1 A hD).weaken (fun _ _ _ _ => trivial), hE U hU hW⟩
  · rw [ht] at hB
    exact kk r u H1 locs1 (hF.2.2.2 D A H H1 hP hD hk u hB) (hF.2.2.1 A hD u) hS1 hp
theorem cl_Vl (S : CallFix p m c cc nL s args Ts own) (hK : va_K D vwCl tys s) (hA : ∀ q : Nat, s.heap.size ≤ q → A q) (hP : va_P D vwCl wb H) (hD : va_D A wb) (hS : va_S A s.heap H locs) (hF : Fr wb wc wo wn)
    {P : Int64 → T → Prop} (hM : Met l y ws rm (va_Pc (.ref b :: As) (Pcw D tys wc H.size E)) (va_Ql P (fun u t => va_P D vwCl (wo u) t.heap) (va_A wc H.size)) 0 0 (va_A wc H.size))
    (cw : CallW R s args own C index y bytes maxL ret ws rm 0 0 n)
    (hE : ∀ U : State, U.heap = H → s.WarmedH U.vm → E U) (hEb : ∀ (a : Array Value) (U : State) (g : JFrame) (mk : MethodId), E U → E (U.calling g mk a))
    (pl : Nat) {ci : Nat} {fs : List Value} {qc : vw_C} (he : wb[pl]? = some (b, .inr (ci, fs))) (hc : vwCl[ci]? = some qc) (hC : qc.1 = C)
    (hn : As.length = n) (hst : st = As.reverse ++ .ref b :: rest) (hl : ls.size = nL) (hr : (rest.map fun v => v.category).sum ≤ 8)
    (hdg : decode cc pc = .ok (.invokevirtual index, 3)) (hcs : cells ≤ R.cells ∧ slots ≤ R.slots)
    (kk : ∀ (r : Int64) (u : T) (H1 : Heap) (locs1 : List Loc), va_P D vwCl (wn u) H1 → va_D A (wn u) → va_S A s.heap H1 locs1 → P r u → W p l e R s m args below meth c H1 locs1 cells slots Q (F0 m (pc + 3) ls (.long r :: rest))) :
    W p l e R s m args below meth c H locs cells slots Q (F0 m pc ls st) := by
  have hfree := cl_free hA hD hS hF
  refine va_calll (va_runV S hM cw ⟨pc_blind hEb _, ?_, ?_⟩ rfl hn hl hst (lv_room hr) hdg hcs) hS (fun q _ h => hfree q h) hfree (fun r u t H1 locs1 ht hvm hp hB hz hk hS1 => ?_)
  · obtain ⟨cell, g1, g2, g3⟩ := va_recv hK hP hc he
    exact ⟨cell, g1, g2, by rw [← hC]; exact g3⟩
  · exact fun U hU hW => ⟨rfl, by rw [hU], by rw [hU]; exact hF.1 D H hP, va_K.moved hW.alike hK, (hF.2.1 A hD).weaken (fun _ _ _ _ => trivial), hE U hU hW⟩
  · rw [ht] at hB
    exact kk r u H1 locs1 (hF.2.2.2 D A H H1 hP hD hk u hB) (hF.2.2.1 A hD u) hS1 hp
theorem cl_Vv (S : CallFix p m c cc nL s args Ts own) (hK : va_K D vwCl tys s) (hA : ∀ q : Nat, s.heap.size ≤ q → A q) (hP : va_P D vwCl wb H) (hD : va_D A wb) (hS : va_S A s.heap H locs) (hF : Fr wb wc wo wn)
    {P : T → Prop} (hM : Met l y ws rm (va_Pc (.ref b :: As) (Pcw D tys wc H.size E)) (va_Qv P (fun u t => va_P D vwCl (wo u) t.heap) (va_A wc H.size)) 0 0 (va_A wc H.size))
    (cw : CallW R s args own C index y bytes maxL ret ws rm 0 0 n)
    (hE : ∀ U : State, U.heap = H → s.WarmedH U.vm → E U) (hEb : ∀ (a : Array Value) (U : State) (g : JFrame) (mk : MethodId), E U → E (U.calling g mk a))
    (pl : Nat) {ci : Nat} {fs : List Value} {qc : vw_C} (he : wb[pl]? = some (b, .inr (ci, fs))) (hc : vwCl[ci]? = some qc) (hC : qc.1 = C)
    (hn : As.length = n) (hst : st = As.reverse ++ .ref b :: rest) (hl : ls.size = nL) (hr : (rest.map fun v => v.category).sum ≤ 8)
    (hdg : decode cc pc = .ok (.invokevirtual index, 3)) (hcs : cells ≤ R.cells ∧ slots ≤ R.slots)
    (kk : ∀ (u : T) (H1 : Heap) (locs1 : List Loc), va_P D vwCl (wn u) H1 → va_D A (wn u) → va_S A s.heap H1 locs1 → P u → W p l e R s m args below meth c H1 locs1 cells slots Q (F0 m (pc + 3) ls rest)) :
    W p l e R s m args below meth c H locs cells slots Q (F0 m pc ls st) := by
  have hfree := cl_free hA hD hS hF
  refine va_callv (va_runV S hM cw ⟨pc_blind hEb _, ?_, ?_⟩ rfl hn hl hst (lv_room hr) hdg hcs) hS (fun q _ h => hfree q h) hfree (fun u t H1 locs1 ht hvm hp hB hz hk hS1 => ?_)
  · obtain ⟨cell, g1, g2, g3⟩ := va_recv hK hP hc he
    exact ⟨cell, g1, g2, by rw [← hC]; exact g3⟩
  · exact fun U hU hW => ⟨rfl, by rw [hU], by rw [hU]; exact hF.1 D H hP, va_K.moved hW.alike hK, (hF.2.1 A hD).weaken (fun _ _ _ _ => trivial), hE U hU hW⟩
  · rw [ht] at hB
    exact kk u H1 locs1 (hF.2.2.2 D A H H1 hP hD hk u hB) (hF.2.2.1 A hD u) hS1 hp
theorem cl_Si (S : CallFix p m c cc nL s args Ts own) (hK : va_K D vwCl tys s) (hA : ∀ q : Nat, s.heap.size ≤ q → A q) (hP : va_P D vwCl wb H) (hD : va_D A wb) (hS : va_S A s.heap H locs) (hF : Fr wb wc wo wn)
    {P : Int32 → T → Prop} (hM : Met l y ws rm (va_Pc As (Pcw D tys wc H.size E)) (va_Qi P (fun u t => va_P D vwCl (wo u) t.heap) (va_A wc H.size)) 0 0 (va_A wc H.size))
    (cw : CallB R s args own index y bytes maxL ret ws rm 0 0 n ∧ (Cond.static y).before args s = true)
    (hE : ∀ U : State, U.heap = H → s.WarmedH U.vm → E U) (hEb : ∀ (a : Array Value) (U : State) (g : JFrame) (mk : MethodId), E U → E (U.calling g mk a))
    (hn : As.length = n) (hst : st = As.reverse ++ rest) (hl : ls.size = nL) (hr : (rest.map fun v => v.category).sum ≤ 8)
    (hdg : decode cc pc = .ok (.invokestatic index, 3)) (hcs : cells ≤ R.cells ∧ slots ≤ R.slots)
    (kk : ∀ (r : Int32) (u : T) (H1 : Heap) (locs1 : List Loc), va_P D vwCl (wn u) H1 → va_D A (wn u) → va_S A s.heap H1 locs1 → P r u → W p l e R s m args below meth c H1 locs1 cells slots Q (F0 m (pc + 3) ls (.int r :: rest))) :
    W p l e R s m args below meth c H locs cells slots Q (F0 m pc ls st) := by
  have hfree := cl_free hA hD hS hF
  refine va_calli (va_runS S hM cw ⟨pc_blind hEb _, ?_⟩ rfl hn hl hst (lv_room hr) hdg hcs) hS (fun q _ h => hfree q h) hfree (fun r u t H1 locs1 ht hvm hp hB hz hk hS1 => ?_)
  · exact fun U hU hW => ⟨rfl, by rw [hU], by rw [hU]; exact hF.1 D H hP, va_K.moved hW.alike hK, (hF.2.1 A hD).weaken (fun _ _ _ _ => trivial), hE U hU hW⟩
  · rw [ht] at hB
    exact kk r u H1 locs1 (hF.2.2.2 D A H H1 hP hD hk u hB) (hF.2.2.1 A hD u) hS1 hp
theorem rt_i (S : CallFix p m c cc nL s args Ts own) (hr : meth.sig.returnType = some .int) (hlk : meth.locks = false) {P : Int32 → T → Prop} (u : T) {v : Int32} (hP : va_P D vwCl (wo u) H) (hS : va_S A s.heap H locs) (h : P v u) (hdg : decode cc pc = .ok (.ireturn, 1)) :
    W p l e R s m args below meth c H locs cells slots (MQ below (va_Qi P (fun u t => va_P D vwCl (wo u) t.heap) A) args s cells slots A) (F0 m pc ls [.int v]) :=
  W.iret S.1 S.2.1 hr (fun t ht hW => ⟨⟨v, u, rfl, h, by show va_P D vwCl (wo u) t.heap; rw [ht]; exact hP⟩, hS.F ht⟩) hS.2.2 hdg (hlocks := hlk)
theorem rt_z (S : CallFix p m c cc nL s args Ts own) (hr : meth.sig.returnType = some .boolean) (hlk : meth.locks = false) {P : Int32 → T → Prop} (u : T) {v : Int32} (hP : va_P D vwCl (wo u) H) (hS : va_S A s.heap H locs) (hz : zB v) (h : P v u) (hdg : decode cc pc = .ok (.ireturn, 1)) :
    W p l e R s m args below meth c H locs cells slots (MQ below (va_Qi P (fun u t => va_P D vwCl (wo u) t.heap) A) args s cells slots A) (F0 m pc ls [.int v]) :=
  W.zret S.1 S.2.1 hr (zB_n hz) (fun t ht hW => ⟨⟨v, u, rfl, h, by show va_P D vwCl (wo u) t.heap; rw [ht]; exact hP⟩, hS.F ht⟩) hS.2.2 hdg (hlocks := hlk)
theorem rt_l (S : CallFix p m c cc nL s args Ts own) (hr : meth.sig.returnType = some .long) (hlk : meth.locks = false) {P : Int64 → T → Prop} (u : T) {v : Int64} (hP : va_P D vwCl (wo u) H) (hS : va_S A s.heap H locs) (h : P v u) (hdg : decode cc pc = .ok (.lreturn, 1)) :
    W p l e R s m args below meth c H locs cells slots (MQ below (va_Ql P (fun u t => va_P D vwCl (wo u) t.heap) A) args s cells slots A) (F0 m pc ls [.long v]) :=
  W.lret S.1 S.2.1 hr (fun t ht hW => ⟨⟨v, u, rfl, h, by show va_P D vwCl (wo u) t.heap; rw [ht]; exact hP⟩, hS.F ht⟩) hS.2.2 hdg (hlocks := hlk)
theorem rt_v (S : CallFix p m c cc nL s args Ts own) (hr : meth.sig.returnType = none) (hlk : meth.locks = false) {P : T → Prop} (u : T) (hP : va_P D vwCl (wo u) H) (hS : va_S A s.heap H locs) (h : P u) (hdg : decode cc pc = .ok (.return_, 1)) :
    W p l e R s m args below meth c H locs cells slots (MQ below (va_Qv P (fun u t => va_P D vwCl (wo u) t.heap) A) args s cells slots A) (F0 m pc ls []) :=
  W.vret S.1 S.2.1 hr (fun t ht hW => ⟨⟨u, rfl, h, by show va_P D vwCl (wo u) t.heap; rw [ht]; exact hP⟩, hS.F ht⟩) hS.2.2 hdg (hlocks := hlk)
end CL
/-- a table switch whose number is none of its rows -/
theorem sw_ne {x k : Int32} (h : ¬ x = k) : ¬ x.toInt = k.toInt := fun q => h (Int32.toInt_inj.mp q)
-- ===== which part of which world =====
section FRS
variable {cB cI : ClassId} {q0 q1 q2 q3 q4 q5 q6 q7 q8 q9 q10 h0 h1 h2 h3 h4 h5 : Nat}
theorem fr_A (u : Int32) : Fr (WA q7 u) (WA q7 u) (fun v => WA q7 v) (fun v => WA q7 v) := Fr_id (wn := (fun v => WA q7 v)) (fun _ => rfl)
theorem fr_M (u : SM) : Fr (WM cB cI q1 q2 q3 u) (WM cB cI q1 q2 q3 u) (fun v => WM cB cI q1 q2 q3 v) (fun v => WM cB cI q1 q2 q3 v) := Fr_id (wn := (fun v => WM cB cI q1 q2 q3 v)) (fun _ => rfl)
theorem fr_R (u : SR) : Fr (WR cI q4 q5 q6 u) (WR cI q4 q5 q6 u) (fun v => WR cI q4 q5 q6 v) (fun v => WR cI q4 q5 q6 v) := Fr_id (wn := (fun v => WR cI q4 q5 q6 v)) (fun _ => rfl)
theorem fr_C (u : SC) : Fr (WC q8 u) (WC q8 u) (fun v => WC q8 v) (fun v => WC q8 v) := Fr_id (wn := (fun v => WC q8 v)) (fun _ => rfl)
theorem fr_F (u : SF) : Fr (WF cB cI q1 q2 q3 q4 q5 q6 q8 u) (WF cB cI q1 q2 q3 q4 q5 q6 q8 u) (fun v => WF cB cI q1 q2 q3 q4 q5 q6 q8 v) (fun v => WF cB cI q1 q2 q3 q4 q5 q6 q8 v) := Fr_id (wn := (fun v => WF cB cI q1 q2 q3 q4 q5 q6 q8 v)) (fun _ => rfl)
theorem fr_P (u : SP) : Fr (WP cB cI q0 q1 q2 q3 q4 q5 q6 q7 q8 q9 u) (WP cB cI q0 q1 q2 q3 q4 q5 q6 q7 q8 q9 u) (fun v => WP cB cI q0 q1 q2 q3 q4 q5 q6 q7 q8 q9 v) (fun v => WP cB cI q0 q1 q2 q3 q4 q5 q6 q7 q8 q9 v) := Fr_id (wn := (fun v => WP cB cI q0 q1 q2 q3 q4 q5 q6 q7 q8 q9 v)) (fun _ => rfl)
theorem fr_X (u : SX) : Fr (WX cB cI q0 q1 q2 q3 q4 q5 q6 q7 q8 q9 q10 u) (WX cB cI q0 q1 q2 q3 q4 q5 q6 q7 q8 q9 q10 u) (fun v => WX cB cI q0 q1 q2 q3 q4 q5 q6 q7 q8 q9 q10 v) (fun v => WX cB cI q0 q1 q2 q3 q4 q5 q6 q7 q8 q9 q10 v) := Fr_id (wn := (fun v => WX cB cI q0 q1 q2 q3 q4 q5 q6 q7 q8 q9 q10 v)) (fun _ => rfl)
theorem fr_Q (u : SQ) : Fr (WQ cI h0 h1 h2 h3 h4 h5 u) (WQ cI h0 h1 h2 h3 h4 h5 u) (fun v => WQ cI h0 h1 h2 h3 h4 h5 v) (fun v => WQ cI h0 h1 h2 h3 h4 h5 v) := Fr_id (wn := (fun v => WQ cI h0 h1 h2 h3 h4 h5 v)) (fun _ => rfl)
theorem fr_P_M (u : SP) : Fr (WP cB cI q0 q1 q2 q3 q4 q5 q6 q7 q8 q9 u) (WM cB cI q1 q2 q3 (p_mem u)) (fun v => WM cB cI q1 q2 q3 v) (fun v => WP cB cI q0 q1 q2 q3 q4 q5 q6 q7 q8 q9 (ps_mem u v)) := Fr_mk [1, 2, 3] [0, 4, 5, 6, 7, 8, 9] [0, 7, 8, 9, 1, 2, 3, 4, 5, 6] rfl rfl rfl rfl rfl (by decide) (fun _ => rfl) (fun _ => rfl) (fun _ => rfl)
theorem fr_P_R (u : SP) : Fr (WP cB cI q0 q1 q2 q3 q4 q5 q6 q7 q8 q9 u) (WR cI q4 q5 q6 (p_regs u)) (fun v => WR cI q4 q5 q6 v) (fun v => WP cB cI q0 q1 q2 q3 q4 q5 q6 q7 q8 q9 (ps_regs u v)) := Fr_mk [4, 5, 6] [0, 1, 2, 3, 7, 8, 9] [0, 1, 2, 3, 7, 8, 9, 4, 5, 6] rfl rfl rfl rfl rfl (by decide) (fun _ => rfl) (fun _ => rfl) (fun _ => rfl)
theorem fr_P_A (u : SP) : Fr (WP cB cI q0 q1 q2 q3 q4 q5 q6 q7 q8 q9 u) (WA q7 (p_flags u)) (fun v => WA q7 v) (fun v => WP cB cI q0 q1 q2 q3 q4 q5 q6 q7 q8 q9 (ps_flags u v)) := Fr_mk [7] [0, 1, 2, 3, 4, 5, 6, 8, 9] [0, 1, 2, 3, 4, 5, 6, 9, 7, 8] rfl rfl rfl rfl rfl (by decide) (fun _ => rfl) (fun _ => rfl) (fun _ => rfl)
theorem fr_P_C (u : SP) : Fr (WP cB cI q0 q1 q2 q3 q4 q5 q6 q7 q8 q9 u) (WC q8 (p_code u)) (fun v => WC q8 v) (fun v => WP cB cI q0 q1 q2 q3 q4 q5 q6 q7 q8 q9 (ps_code u v)) := Fr_mk [8] [0, 1, 2, 3, 4, 5, 6, 7, 9] [0, 1, 2, 3, 4, 5, 6, 7, 9, 8] rfl rfl rfl rfl rfl (by decide) (fun _ => rfl) (fun _ => rfl) (fun _ => rfl)
theorem fr_F_M (u : SF) : Fr (WF cB cI q1 q2 q3 q4 q5 q6 q8 u) (WM cB cI q1 q2 q3 (f_mem u)) (fun v => WM cB cI q1 q2 q3 v) (fun v => WF cB cI q1 q2 q3 q4 q5 q6 q8 (fs_mem u v)) := Fr_mk [1, 2, 3] [0, 4, 5, 6] [0, 4, 5, 6, 1, 2, 3] rfl rfl rfl rfl rfl (by decide) (fun _ => rfl) (fun _ => rfl) (fun _ => rfl)
theorem fr_F_R (u : SF) : Fr (WF cB cI q1 q2 q3 q4 q5 q6 q8 u) (WR cI q4 q5 q6 (f_regs u)) (fun v => WR cI q4 q5 q6 v) (fun v => WF cB cI q1 q2 q3 q4 q5 q6 q8 (fs_regs u v)) := Fr_mk [4, 5, 6] [0, 1, 2, 3] [0, 1, 2, 3, 4, 5, 6] rfl rfl rfl rfl rfl (by decide) (fun _ => rfl) (fun _ => rfl) (fun _ => rfl)
theorem fr_F_C (u : SF) : Fr (WF cB cI q1 q2 q3 q4 q5 q6 q8 u) (WC q8 (f_code u)) (fun v => WC q8 v) (fun v => WF cB cI q1 q2 q3 q4 q5 q6 q8 (fs_code u v)) := Fr_mk [0] [1, 2, 3, 4, 5, 6] [6, 0, 1, 2, 3, 4, 5] rfl rfl rfl rfl rfl (by decide) (fun _ => rfl) (fun _ => rfl) (fun _ => rfl)
theorem fr_X_P (u : SX) : Fr (WX cB cI q0 q1 q2 q3 q4 q5 q6 q7 q8 q9 q10 u) (WP cB cI q0 q1 q2 q3 q4 q5 q6 q7 q8 q9 (x_proc u)) (fun v => WP cB cI q0 q1 q2 q3 q4 q5 q6 q7 q8 q9 v) (fun v => WX cB cI q0 q1 q2 q3 q4 q5 q6 q7 q8 q9 q10 (xs_proc u v)) := Fr_mk [1, 2, 3, 4, 5, 6, 7, 8, 9, 10] [0] [0, 1, 2, 3, 4, 5, 6, 7, 8, 9, 10] rfl rfl rfl rfl rfl (by decide) (fun _ => rfl) (fun _ => rfl) (fun _ => rfl)
theorem fr_X_F (u : SX) : Fr (WX cB cI q0 q1 q2 q3 q4 q5 q6 q7 q8 q9 q10 u) (WF cB cI q1 q2 q3 q4 q5 q6 q8 (p_code (x_proc u), p_mem (x_proc u), p_regs (x_proc u))) (fun v => WF cB cI q1 q2 q3 q4 q5 q6 q8 v) (fun v => WX cB cI q0 q1 q2 q3 q4 q5 q6 q7 q8 q9 q10 (xs_proc u (ps_code (ps_mem (ps_regs (x_proc u) (f_regs v)) (f_mem v)) (f_code v)))) := Fr_mk [9, 2, 3, 4, 5, 6, 7] [0, 1, 8, 10] [0, 1, 5, 6, 7, 8, 9, 10, 2, 4, 3] rfl rfl rfl rfl rfl (by decide) (fun _ => rfl) (fun _ => rfl) (fun _ => rfl)
theorem fr_X_M (u : SX) : Fr (WX cB cI q0 q1 q2 q3 q4 q5 q6 q7 q8 q9 q10 u) (WM cB cI q1 q2 q3 (p_mem (x_proc u))) (fun v => WM cB cI q1 q2 q3 v) (fun v => WX cB cI q0 q1 q2 q3 q4 q5 q6 q7 q8 q9 q10 (xs_proc u (ps_mem (x_proc u) v))) := Fr_mk [2, 3, 4] [0, 1, 5, 6, 7, 8, 9, 10] [0, 1, 8, 9, 10, 2, 3, 4, 5, 6, 7] rfl rfl rfl rfl rfl (by decide) (fun _ => rfl) (fun _ => rfl) (fun _ => rfl)
theorem fr_X_R (u : SX) : Fr (WX cB cI q0 q1 q2 q3 q4 q5 q6 q7 q8 q9 q10 u) (WR cI q4 q5 q6 (p_regs (x_proc u))) (fun v => WR cI q4 q5 q6 v) (fun v => WX cB cI q0 q1 q2 q3 q4 q5 q6 q7 q8 q9 q10 (xs_proc u (ps_regs (x_proc u) v))) := Fr_mk [5, 6, 7] [0, 1, 2, 3, 4, 8, 9, 10] [0, 1, 2, 3, 4, 8, 9, 10, 5, 6, 7] rfl rfl rfl rfl rfl (by decide) (fun _ => rfl) (fun _ => rfl) (fun _ => rfl)
theorem fr_X_A (u : SX) : Fr (WX cB cI q0 q1 q2 q3 q4 q5 q6 q7 q8 q9 q10 u) (WA q7 (p_flags (x_proc u))) (fun v => WA q7 v) (fun v => WX cB cI q0 q1 q2 q3 q4 q5 q6 q7 q8 q9 q10 (xs_proc u (ps_flags (x_proc u) v))) := Fr_mk [8] [0, 1, 2, 3, 4, 5, 6, 7, 9, 10] [0, 1, 2, 3, 4, 5, 6, 7, 10, 8, 9] rfl rfl rfl rfl rfl (by decide) (fun _ => rfl) (fun _ => rfl) (fun _ => rfl)
theorem fr_X_C (u : SX) : Fr (WX cB cI q0 q1 q2 q3 q4 q5 q6 q7 q8 q9 q10 u) (WC q8 (p_code (x_proc u))) (fun v => WC q8 v) (fun v => WX cB cI q0 q1 q2 q3 q4 q5 q6 q7 q8 q9 q10 (xs_proc u (ps_code (x_proc u) v))) := Fr_mk [9] [0, 1, 2, 3, 4, 5, 6, 7, 8, 10] [0, 1, 2, 3, 4, 5, 6, 7, 8, 10, 9] rfl rfl rfl rfl rfl (by decide) (fun _ => rfl) (fun _ => rfl) (fun _ => rfl)
end FRS
theorem lk_c {a o : Int} {r : List (Int × Int)} {d k : Int} (h : ¬ k = a) : Op.lookupswitch.offset ((a, o) :: r) d k = Op.lookupswitch.offset r d k := by
  rw [Op.lookupswitch.offset_cons, if_neg (fun q => h q.symm)]
