-- ----- strings, once
theorem v_68 : vp_in 6 8 := vp_7 ⟨by decide, by decide⟩
theorem v_78 : vp_in 7 8 := vp_7 ⟨by decide, by decide⟩
theorem v_04 : vp_in 0 4 := vp_3 ⟨by decide, by decide⟩
def fStride (q : SQ) : Int32 := (if q_code q &&& 1 = 0 then 1 else 2) * (if fH (q_flags q) 1024 = 0 then 1 else -1)
def fPassS (b : Int32) (q : SQ) : SQ := qs_registers q (upd (q_registers q) 6 (q_registers q 6 + b &&& 65535))
def fPassT (b : Int32) (q : SQ) : SQ := qs_registers q (upd (q_registers q) 7 (q_registers q 7 + b &&& 65535))
def strA (q : SQ) (b : Int32) (M : SM) : SQ := fPassT b (fPassS b (sMQ q M))
def strB (q : SQ) (b f : Int32) : SQ := fPassT b (fPassS b (qs_flags q f))
def strC (q : SQ) (b : Int32) (M : SM) : SQ := fPassT b (sMQ q M)
def strD (q : SQ) (b : Int32) (R : A32) : SQ := fPassS b (qs_registers q R)
def strE (q : SQ) (b f : Int32) : SQ := fPassT b (qs_flags q f)
def fSrc (q : SQ) : Int32 := fGet (mQ q) (fSeg q 3) (q_registers q 6) (q_code q &&& 1)
def fTgt (q : SQ) : Int32 := fGet (mQ q) (q_segments q 0) (q_registers q 7) (q_code q &&& 1)
def fAcc (q : SQ) : Int32 := fReg (q_registers q) 0 (q_code q &&& 1)
def fToT (q : SQ) (v : Int32) : SM := fPut (mQ q) (q_segments q 0) (q_registers q 7) (q_code q &&& 1) v
def fStr (q : SQ) : SQ :=
  if q_code q &&& 254 = 164 then strA q (fStride q) (fToT q (fSrc q))
  else if q_code q &&& 254 = 166 then strB q (fStride q) (fOpF (q_flags q) 7 (fSrc q) (fTgt q) (q_code q &&& 1))
  else if q_code q &&& 254 = 170 then strC q (fStride q) (fToT q (fAcc q))
  else if q_code q &&& 254 = 172 then strD q (fStride q) (fSetR (q_registers q) 0 (q_code q &&& 1) (fSrc q))
  else strE q (fStride q) (fOpF (q_flags q) 7 (fAcc q) (fTgt q) (q_code q &&& 1))
theorem upd_self (f : A32) (i : Nat) : upd f i (f i) = f := by
  funext j
  unfold upd
  by_cases c : j = i
  · rw [if_pos c, c]
  · rw [if_neg c]
-- the reference
theorem mStr0 {q : SQ} {P : SQ → Prop} (h0 : 0 ≤ (q_code q).toInt) (h : ∀ s0 s1 : Int32, s0 * s1 = fStride q → wX6_string_b29 P (q_code q &&& 1) s0 s1 q) : wX6_string q P := by
  have b14 : ∀ s0 : Int32, s0 = (if q_code q &&& 1 = 0 then 1 else 2) → wX6_string_b14 P (q_code q &&& 1) s0 q := by
    rintro s0 rfl
    unfold fStride at h
    refine iX6_has ⟨fun (c : fH (q_flags q) 1024 = 0) => h _ _ ?_, fun (c : ¬ fH (q_flags q) 1024 = 0) => h _ _ ?_⟩
    · rw [if_pos c]
    · rw [if_neg c]
  refine iX6_isWide h0 ⟨fun c => b14 _ ?_, fun c => b14 _ ?_⟩
  · rw [if_pos c]
  · rw [if_neg c]
theorem mStr1 {q : SQ} {P : SQ → Prop} {b : Int32} (h : P (fPassT b (fPassS b q))) : wX6_string_b203 P b 1 1 q :=
  sk (by decide) ⟨v_68, v_68, sk (by decide) ⟨v_78, v_78, h⟩⟩
theorem mStr2 {q : SQ} {P : SQ → Prop} {b : Int32} (h : P (fPassT b q)) : wX6_string_b203 P b 0 1 q := by
  refine tk rfl ⟨v_68, v_68, sk (by decide) ⟨v_78, v_78, ?_⟩⟩
  show P (qs_registers q (upd (upd (q_registers q) 6 (q_registers q 6)) 7 ((upd (q_registers q) 6 (q_registers q 6)) 7 + b &&& 65535)))
  rw [upd_self]
  exact h
theorem mStr3 {q : SQ} {P : SQ → Prop} {b : Int32} (h : P (fPassS b q)) : wX6_string_b203 P b 1 0 q := by
  refine sk (by decide) ⟨v_68, v_68, tk rfl ⟨v_78, v_78, ?_⟩⟩
  show P (qs_registers q (upd (upd (q_registers q) 6 (q_registers q 6 + b &&& 65535)) 7 ((upd (q_registers q) 6 (q_registers q 6 + b &&& 65535)) 7)))
  rw [upd_self]
  exact h
theorem mStr {q : SQ} {P : SQ → Prop} (hI : Inv q) (hs : rS q) (h0 : 0 ≤ (q_code q).toInt) (hk : q_code q &&& 254 = 164 ∨ q_code q &&& 254 = 166 ∨ q_code q &&& 254 = 170 ∨ q_code q &&& 254 = 172 ∨ q_code q &&& 254 = 174) (h : P (fStr q)) : wX6_string q P := by
  unfold fStr at h
  refine mStr0 h0 (fun s0 s1 e => ?_)
  have src : ∀ C : Int32 → SQ → Prop, C (fSrc q) q → wX6_segmentOr 3 q (fun r15 u14 => vp_in 6 8 ∧ wX6_get r15 ((q_registers u14) (6 : Int32).toNatClampNeg) (q_code q &&& 1) u14 (fun r17 u16 => C r17 u16)) :=
    fun C hC => iX6_segmentOr hs r3_3 ⟨v_68, iX6_get hI.1 hC⟩
  unfold wX6_string_b29
  rw [e]
  rcases hk with k | k | k | k | k
  · rw [k] at h ⊢
    rw [if_pos rfl] at h
    exact tk rfl (sk (by decide) (sk (by decide) (src _ (tk rfl ⟨v_04, v_78, iX6_put hI.1 (mStr1 h)⟩))))
  · rw [k] at h ⊢
    rw [if_neg (by decide), if_pos rfl] at h
    exact sk (by decide) (tk rfl (sk (by decide) (sk (by decide) (src _ (sk (by decide) (sk (by decide) (sk (by decide) ⟨v_04, v_78, iX6_get hI.1 (iX6_operation (mStr1 h))⟩)))))))
  · rw [k] at h ⊢
    rw [if_neg (by decide), if_neg (by decide), if_pos rfl] at h
    exact sk (by decide) (sk (by decide) (sk (by decide) (sk (by decide) (tk rfl (iX6_register r7_0 (sk (by decide) (tk rfl ⟨v_04, v_78, iX6_put hI.1 (mStr2 h)⟩)))))))
  · rw [k] at h ⊢
    rw [if_neg (by decide), if_neg (by decide), if_neg (by decide), if_pos rfl] at h
    exact sk (by decide) (sk (by decide) (tk rfl (tk rfl (sk (by decide) (src _ (sk (by decide) (sk (by decide) (tk rfl (iX6_setRegister r7_0 (mStr3 h)))))))) ))
  · rw [k] at h ⊢
    rw [if_neg (by decide), if_neg (by decide), if_neg (by decide), if_neg (by decide)] at h
    exact sk (by decide) (sk (by decide) (sk (by decide) (sk (by decide) (tk rfl (iX6_register r7_0 (sk (by decide) (sk (by decide) (sk (by decide) ⟨v_04, v_78, iX6_get hI.1 (iX6_operation (mStr2 h))⟩))))))))
