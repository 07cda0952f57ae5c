-- ===== what the start gives: the class's row of forms, its strings =====
abbrev tF : Term := Term.static RX1 "FORMS" "[I"
def fC (j : Nat) : Cond := .eq (.elem tF (.int (nI j))) (.int (formsF j))
set_option maxRecDepth 100000 in
theorem fC_eq : ((flatC (Jvm.Cond.and given_1 narrow_1)).drop 9).take 256 = (List.range 256).map fC := by decide +kernel
theorem fC_in (j : Fin 256) : fC j.val ∈ flatC (Jvm.Cond.and given_1 narrow_1) := by
  have h : fC j.val ∈ (List.range 256).map fC := List.mem_map.mpr ⟨j.val, List.mem_range.mpr j.isLt, rfl⟩
  rw [← fC_eq] at h
  exact List.mem_of_mem_drop (List.mem_of_mem_take h)
set_option maxRecDepth 100000 in
theorem fL_in : Cond.eq (.length tF) (.int 256) ∈ flatC (Jvm.Cond.and given_1 narrow_1) := by decide +kernel
set_option maxRecDepth 100000 in
theorem fA_in : Cond.arrayOf tF .int ∈ flatC (Jvm.Cond.and given_1 narrow_1) := by decide +kernel
theorem nI_cl {j : Nat} (h : j < 256) : (nI j).toNatClampNeg = j := by
  have e := ti_nI (n := j) (by omega)
  have f := ti_cl (x := nI j) (by omega)
  omega
theorem len_lt {args : Array Value} {s : State} {t : Term} {v : Value} {q : Addr} {cell : Cell} (h1 : (Term.length t).eval args s none [] s = some v) (ht : t.eval args s none [] s = some (.ref q)) (harr : s.arrayAt? q = some cell) : cell.slots.size < 2 ^ 31 := by
  simp only [Term.eval, ht, harr, Option.bind_eq_bind, Option.bind_some] at h1
  by_cases hlt : cell.slots.size < 2147483648
  · exact hlt
  · simp [hlt] at h1
theorem forms_at {args : Array Value} {s : State} (hs : ∀ c ∈ flatC (Jvm.Cond.and given_1 narrow_1), c.before args s = true) : ∃ qF, tF.eval args s none [] s = some (.ref qF) ∧ va_X qF 256 formsF s s.heap ∧ qF < s.heap.size := by
  have hlen := hs _ fL_in
  obtain ⟨y, h1, h2⟩ := Cond.eq_one (show (Cond.eq (.length tF) (.int 256)).holds args s none s [] = true from hlen)
  have hy : y = .int 256 := (Option.some.inj (show some (Value.int 256) = some y from h2)).symm
  subst hy
  obtain ⟨qF, cell, ht, harr, hv⟩ := Term.length_spec h1
  have hsz31 : cell.slots.size < 2 ^ 31 := len_lt h1 ht harr
  have hsz : cell.slots.size = 256 := by
    have e0 : (256 : Int32) = nI cell.slots.size := Value.int.inj hv
    have e1 := ti_nI (n := cell.slots.size) (by omega)
    rw [← e0] at e1
    have e2 : (256 : Int32).toInt = 256 := rfl
    omega
  obtain ⟨hcell, hu, hst, -⟩ := State.arrayAt?_spec harr
  have hof := Cond.arrayOf_spec (show (Cond.arrayOf tF .int).holds args s none s [] = true from hs _ fA_in) ht hcell
  refine ⟨qF, ht, ⟨cell, hcell, hof.1, hof.2, hsz, fun j hj => ?_⟩, (Array.getElem?_eq_some_iff.mp hcell).1⟩
  have he := hs _ (fC_in ⟨j, hj⟩)
  obtain ⟨y2, g1, g2⟩ := Cond.eq_one (show (fC j).holds args s none s [] = true from he)
  have hy2 : y2 = .int (formsF j) := (Option.some.inj (show some (Value.int (formsF j)) = some y2 from g2)).symm
  subst hy2
  obtain ⟨a, i, cell2, k1, k2, k3, k4, k5⟩ := Term.elem_spec g1
  have ei : i = nI j := (Value.int.inj (Option.some.inj (show some (Value.int (nI j)) = some (Value.int i) from k2))).symm
  have ea : a = qF := Value.ref.inj (Option.some.inj (k1.symm.trans ht))
  subst ei
  subst ea
  have ec : cell2 = cell := Option.some.inj (k3.symm.trans harr)
  subst ec
  rw [nI_cl hj] at k5
  exact k5
def tS (k : Nat) : Cond := .exactly (.string RX5 k) "java/lang/String"
set_option maxRecDepth 100000 in
theorem tS_in : ∀ k ∈ [22, 67, 79, 92, 95, 139], tS k ∈ flatC (Jvm.Cond.and given_1 narrow_1) := by decide +kernel
theorem str_at {args : Array Value} {s : State} {k : Nat} {tx : String} (h1 : (Cond.stringRef RX5 k tx).before args s = true) (h2 : (tS k).before args s = true) : ∃ a, vk_R RX5 k tx a s := by
  obtain ⟨a, c, cell, kk, ht, -⟩ := Cond.exactly_spec (show (tS k).holds args s none s [] = true from h2)
  exact ⟨a, vk_R.of h1 ht⟩
