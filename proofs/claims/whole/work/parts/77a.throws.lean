-- ===== methods that throw: entry, throw, words =====
def xnames : List String := ["java/lang/RuntimeException", "java/lang/Exception"]
theorem xn_fit : ∀ n ∈ xnames, Bundle.fit n = true := by decide +kernel
/-- the words of a throw that are not good ones -/
def bads (ic : Nat) (cls : String) : List Cond := (vx_atS RX5 ic cls xnames).filter (fun w => !goodWord w)
def badK : Cond → Bool
  | .declares _ => true
  | .castable _ _ => true
  | _ => false
theorem bad_warm {w : Cond} {s U : State} (hk : badK w = true) (hW : s.WarmedH U.vm) (h : va_Nw w s) : va_Nw w U := by
  cases w <;> first | exact va_Nw.warmD hW h | exact va_Nw.warmC hW h | exact absurd hk (by decide) | (simp [badK] at hk)
theorem bad_same {w : Cond} {u U : State} (hk : badK w = true) (hv : u.vm = U.vm) (h : va_Nw w u) : va_Nw w U := by
  cases w <;> first | exact va_Nw.same rfl hv h | exact absurd hk (by decide) | (simp [badK] at hk)
theorem bad_use {w : Cond} {U : State} {A : Array Value} (hk : badK w = true) (h : va_Nw w U) : w.before A U = true := by
  cases w <;> first | exact va_Nw.use rfl h | exact absurd hk (by decide) | (simp [badK] at hk)
def Bx (ic : Nat) (cls : String) (U : State) : Prop := ∀ w ∈ bads ic cls, badK w = true ∧ va_Nw w U
theorem bk_24 : ∀ w ∈ bads 24 "java/lang/IndexOutOfBoundsException", badK w = true := List.all_eq_true.mp (by decide +kernel)
theorem bk_94 : ∀ w ∈ bads 94 "java/lang/IllegalArgumentException", badK w = true := List.all_eq_true.mp (by decide +kernel)
theorem bc_24 : Cond.castable "java/lang/IndexOutOfBoundsException" "java/lang/IndexOutOfBoundsException" ∈ bads 24 "java/lang/IndexOutOfBoundsException" := by decide +kernel
theorem bc_94 : Cond.castable "java/lang/IllegalArgumentException" "java/lang/IllegalArgumentException" ∈ bads 94 "java/lang/IllegalArgumentException" := by decide +kernel
/-- what a throw needs of the state s, whose cells of A alone may change -/
def Ex (cls : String) (ic : Nat) (text : String) (is sa : Nat) (A : Nat → Prop) (s : State) : Prop := vk_R RX5 is text sa s ∧ vx_Zq Bundle.tN "UNASSIGNED_STACK" Bundle.steD A s s.heap ∧ vx_Zq Bundle.tN "SUPPRESSED_SENTINEL" Bundle.listD A s s.heap ∧ Bx ic cls s
def Tx (cls : String) (ic : Nat) (text : String) (is sa : Nat) (wc : va_W) (sz : Nat) : State → Prop := fun U => Ex cls ic text is sa (va_A wc sz) U
theorem tx_own {s : State} {cls text : String} {ic is sa sz : Nat} {wb : va_W} {A : Nat → Prop} (_ : s.heap.size = sz) (hSub : ∀ q, A q → va_A wb sz q) (h : Tx cls ic text is sa wb sz s) : Ex cls ic text is sa A s := ⟨h.1, h.2.1.narrow hSub, h.2.2.1.narrow hSub, h.2.2.2⟩
theorem xt_o20_24 : ∀ w ∈ Cond.classLink RX5 20 "java/lang/IndexOutOfBoundsException" :: Cond.initialized "java/lang/IndexOutOfBoundsException" :: vx_atS RX5 24 "java/lang/IndexOutOfBoundsException" xnames, vx_ot w = true := List.all_eq_true.mp (by decide +kernel)
theorem xt_o90_94 : ∀ w ∈ Cond.classLink RX5 90 "java/lang/IllegalArgumentException" :: Cond.initialized "java/lang/IllegalArgumentException" :: vx_atS RX5 94 "java/lang/IllegalArgumentException" xnames, vx_ot w = true := List.all_eq_true.mp (by decide +kernel)
theorem xt_hat {args : Array Value} {s : State} {ws : List Cond} {ic : Nat} {cls : String} (hts : ∀ w ∈ ws, w.before args s = true) (hin : ∀ w ∈ (vx_atS RX5 ic cls xnames).filter goodWord, w ∈ ws) (hB : Bx ic cls s) : ∀ w ∈ vx_atS RX5 ic cls xnames, w.before args s = true :=
  vx_hat (B := bads ic cls) (fun w h => hts w (hin w h)) (fun _ h => h) (fun w h => bad_use (hB w h).1 (hB w h).2)
set_option maxHeartbeats 4000000 in
theorem enx_ {l : Launch} {y : MethodName} {ws ws' : List Cond} {rm : Room} {cc : ByteArray} {maxL : Nat} {ret : Option FieldType} {avs : List Value} {D : va_G} {tys : List (ClassId × FieldType)} {wb : va_W} {sz : Nat} {E : State → Prop} {Qf : (Nat → Prop) → Array Value → State → Outcome → State → Prop} {Xf : (Nat → Prop) → String → State → State → Prop} {mc ms : Nat} {own : String} {lv : List (Nat × Value)}
    (hy : plainName y.cls = true) (hw : ws = Cond.code y cc maxL ret :: ws') (hcls : y.cls = own) (hn : (lg_sl avs).length ≤ maxL) (hlv : lv_args 0 avs = lv)
    (body : ∀ (p : Program) (e : Env) (s : State) (m : MethodId) (below : List Frame) (meth : Method) (c : Code) (A : Nat → Prop) (ls : Array Slot), CallFix p m c cc maxL s avs.toArray ws own → (∀ x ∈ c.exceptionTable.toList, False) → meth.sig.returnType = ret → meth.locks = false → meth.name = y.name → s.heap.size = sz → va_P D vwCl wb s.heap → va_K D vwCl tys s → va_D A wb → (∀ q : Nat, s.heap.size ≤ q → A q) → (∀ q, A q → va_A wb sz q) → va_S A s.heap s.heap [] → E s → lv_has ls maxL lv → W p l e rm s m avs.toArray below meth c s.heap [] 0 0 (vx_MQ below (Qf A) (Xf A) avs.toArray s mc ms A) (F0 m 0 ls [])) :
    vx_Met l y ws rm (va_Pc avs (Pcw D tys wb sz E)) (Qf (va_A wb sz)) (Xf (va_A wb sz)) mc ms (va_A wb sz) := by
  refine vx_ofW (cc := cc) (maxL := maxL) (ret := ret) hy hw ?_
  intro p e s m args below meth c s₁ B hml ht hv
  obtain ⟨rfl, hsz, hP, hK, hD0, hE⟩ := hv
  have hts := atoms_spec (ws := ws) B.pre
  have hown : s.vm.findClass own = some m.cls := by rw [← hcls]; exact findClass_of_methodNamed B.named
  have hl := lv_entry avs (n := maxL) hn
  rw [lg_entry_eq]
  rw [hlv] at hl
  exact body p e s m below meth c (va_A wb sz) _ ⟨B.exec, B.bytes, hml, hown, hts⟩ ht B.returns B.notSynchronized (name_of_methodNamed B.named B.method).1 hsz hP hK hD0.self (fun q h => Or.inr (by rw [← hsz]; exact h)) (fun _ h => h) va_S.rf hE hl
set_option maxHeartbeats 4000000 in
theorem th_ {p : Program} {l : Launch} {e : Env} {R : Room} {s : State} {m : MethodId} {args : Array Value} {below : List Frame} {meth : Method} {c : Code} {H : Heap} {locs : List Loc} {cc : ByteArray} {nL : Nat} {Ts : List Cond} {T : Type} {wn : T → va_W} {Px : T → Prop} {D : va_G} {A : Nat → Prop} {ls : Array Slot} {Qc : Array Value → State → Outcome → State → Prop} {cls text : String} {ik is ic pc sa : Nat}
    (hfit : Bundle.fit cls = true) (S : CallFix p m c cc nL s args Ts RX5) (hl9 : l.stackTraces = false) (ht : ∀ x ∈ c.exceptionTable.toList, False) (hlk : meth.locks = false)
    (hk : (Cond.classLink RX5 ik cls).before args s = true) (hini : (Cond.initialized cls).before args s = true) (hat : ∀ w ∈ vx_atS RX5 ic cls xnames, w.before args s = true)
    (hgood : ∀ w ∈ Cond.classLink RX5 ik cls :: Cond.initialized cls :: vx_atS RX5 ic cls xnames, vx_ot w = true)
    (hE : Ex cls ic text is sa A s) (hsize : ls.size = nL)
    (d0 : decode cc pc = .ok (.new ik, 3)) (d3 : decode cc (pc + 3) = .ok (.dup, 1)) (d4 : decode cc (pc + 4) = .ok (.ldc is, 2)) (d6 : decode cc (pc + 6) = .ok (.invokespecial ic, 3)) (d9 : decode cc (pc + 9) = .ok (.athrow, 1))
    (hR : 6 ≤ R.frames ∧ 82 ≤ R.locals ∧ 1 ≤ R.cells ∧ 6 ≤ R.slots) (hS : va_S A s.heap H locs) (u : T) (hP : va_P D vwCl (wn u) H) (hw : Px u) :
    W p l e R s m args below meth c H locs 0 0 (vx_MQ below Qc (vx_X Px (fun E u t => E = cls ∧ va_P D vwCl (wn u) t.heap) A) args s 1 6 A) (F0 m pc ls []) := by
  refine vx_throwS (names := xnames) (text := text) (sa := sa) (A := A) S.1 S.2.1 hl9 S.2.2.2.1 hfit xn_fit hk hini hE.1 hat hgood hE.2.1 hE.2.2.1 hS (hsize.trans S.2.2.1.symm) d0 d3 d4 d6 d9 (fun x hx => (ht x hx).elim) ?_ ?_ ?_ ?_ hlk ?_ hS.2.2 ?_ ?_
  · show 2 + 3 < R.frames
    omega
  · show 0 + (13 * (2 + 1) + 43) ≤ R.locals
    omega
  · omega
  · omega
  · intro t _ hz hq
    refine ⟨u, hw, ⟨rfl, hP.kept (fun k q hk => ?_)⟩, Nat.le_trans hS.1 hz, fun q h1 h2 => ?_⟩
    · exact hq _ (hP k q hk).lt
    · rw [hq q (Nat.lt_of_lt_of_le h1 hS.1)]
      exact hS.2.1 q h1 h2
  · omega
  · omega
