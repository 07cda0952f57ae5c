-- ===== numbers of 32 bits read as whole numbers =====
theorem ti_ext {x y : Int32} (h : x.toInt = y.toInt) : x = y := Int32.toInt_inj.mp h
theorem ti_lo (x : Int32) : -2147483648 ≤ x.toInt := by have := Int32.le_toInt x; omega
theorem ti_hi (x : Int32) : x.toInt ≤ 2147483647 := by have := Int32.toInt_lt x; omega
theorem bm_32 {n : Int} (h1 : -2147483648 ≤ n) (h2 : n ≤ 2147483647) : n.bmod (2 ^ 32) = n := by
  unfold Int.bmod
  have e : ((2 ^ 32 : Nat) : Int) = 4294967296 := by decide
  rw [e]
  show (if n % 4294967296 < (4294967296 + 1) / 2 then n % 4294967296 else n % 4294967296 - 4294967296) = n
  split <;> omega
theorem bm_64 {n : Int} (h1 : -9223372036854775808 ≤ n) (h2 : n ≤ 9223372036854775807) : n.bmod (2 ^ 64) = n := by
  unfold Int.bmod
  have e : ((2 ^ 64 : Nat) : Int) = 18446744073709551616 := by decide
  rw [e]
  show (if n % 18446744073709551616 < (18446744073709551616 + 1) / 2 then n % 18446744073709551616 else n % 18446744073709551616 - 18446744073709551616) = n
  split <;> omega
theorem ti_add {x y : Int32} (h1 : -2147483648 ≤ x.toInt + y.toInt) (h2 : x.toInt + y.toInt ≤ 2147483647) : (x + y).toInt = x.toInt + y.toInt := by
  rw [Int32.toInt_add]; exact bm_32 h1 h2
theorem ti_sub {x y : Int32} (h1 : -2147483648 ≤ x.toInt - y.toInt) (h2 : x.toInt - y.toInt ≤ 2147483647) : (x - y).toInt = x.toInt - y.toInt := by
  rw [Int32.toInt_sub]; exact bm_32 h1 h2
theorem ti_mul {x y : Int32} (h1 : -2147483648 ≤ x.toInt * y.toInt) (h2 : x.toInt * y.toInt ≤ 2147483647) : (x * y).toInt = x.toInt * y.toInt := by
  rw [Int32.toInt_mul]; exact bm_32 h1 h2
theorem ti_neg {x : Int32} (h1 : x.toInt ≠ -2147483648) : (-x).toInt = -x.toInt := by
  have := ti_lo x
  have := ti_hi x
  rw [Int32.toInt_neg]; exact bm_32 (by omega) (by omega)
theorem ti_nat (x : Int32) : (x.toBitVec.toNat : Int) = if x.toInt < 0 then x.toInt + 4294967296 else x.toInt := by
  have h : x.toInt = x.toBitVec.toInt := rfl
  have h2 := BitVec.toInt_eq_toNat_cond x.toBitVec
  have h3 := x.toBitVec.isLt
  rw [h, h2]
  split <;> split <;> omega
theorem ti_and1 (x : Int32) : (x &&& 1).toInt = x.toInt % 2 := by
  rw [pk_and x 1 rfl, nI_toInt (by omega)]; have h := ti_nat x; split at h <;> omega
theorem ti_and3 (x : Int32) : (x &&& 3).toInt = x.toInt % 4 := by
  rw [pk_and x 2 rfl, nI_toInt (by omega)]; have h := ti_nat x; split at h <;> omega
theorem ti_and7 (x : Int32) : (x &&& 7).toInt = x.toInt % 8 := by
  rw [pk_and x 3 rfl, nI_toInt (by omega)]; have h := ti_nat x; split at h <;> omega
theorem ti_and15 (x : Int32) : (x &&& 15).toInt = x.toInt % 16 := by
  rw [pk_and x 4 rfl, nI_toInt (by omega)]; have h := ti_nat x; split at h <;> omega
theorem ti_and255 (x : Int32) : (x &&& 255).toInt = x.toInt % 256 := by
  rw [pk_and x 8 rfl, nI_toInt (by omega)]; have h := ti_nat x; split at h <;> omega
theorem ti_and4095 (x : Int32) : (x &&& 4095).toInt = x.toInt % 4096 := by
  rw [pk_and x 12 rfl, nI_toInt (by omega)]; have h := ti_nat x; split at h <;> omega
theorem ti_and65535 (x : Int32) : (x &&& 65535).toInt = x.toInt % 65536 := by
  rw [pk_and x 16 rfl, nI_toInt (by omega)]; have h := ti_nat x; split at h <;> omega
theorem ti_and1048575 (x : Int32) : (x &&& 1048575).toInt = x.toInt % 1048576 := by
  rw [pk_and x 20 rfl, nI_toInt (by omega)]; have h := ti_nat x; split at h <;> omega
theorem ti_shr8 (x : Int32) : (x >>> ((8 : Int32) &&& 31)).toInt = x.toInt / 256 := by
  rw [pk_shr x _ 8 rfl, Int.shiftRight_eq_div_pow]; rfl
theorem ti_shr1 (x : Int32) : (x >>> ((1 : Int32) &&& 31)).toInt = x.toInt / 2 := by
  rw [pk_shr x _ 1 rfl, Int.shiftRight_eq_div_pow]; rfl
theorem ti_shr3 (x : Int32) : (x >>> ((3 : Int32) &&& 31)).toInt = x.toInt / 8 := by
  rw [pk_shr x _ 3 rfl, Int.shiftRight_eq_div_pow]; rfl
theorem ti_shr4 (x : Int32) : (x >>> ((4 : Int32) &&& 31)).toInt = x.toInt / 16 := by
  rw [pk_shr x _ 4 rfl, Int.shiftRight_eq_div_pow]; rfl
theorem ti_shr6 (x : Int32) : (x >>> ((6 : Int32) &&& 31)).toInt = x.toInt / 64 := by
  rw [pk_shr x _ 6 rfl, Int.shiftRight_eq_div_pow]; rfl
theorem ti_shr16 (x : Int32) : (x >>> ((16 : Int32) &&& 31)).toInt = x.toInt / 65536 := by
  rw [pk_shr x _ 16 rfl, Int.shiftRight_eq_div_pow]; rfl
theorem ti_lt {x y : Int32} : x < y ↔ x.toInt < y.toInt := Int32.lt_iff_toInt_lt
theorem ti_le {x y : Int32} : x ≤ y ↔ x.toInt ≤ y.toInt := Int32.le_iff_toInt_le
theorem ti_eq {x y : Int32} : x = y ↔ x.toInt = y.toInt := Int32.toInt_inj.symm
theorem ti_nI {n : Nat} (h : n < 2147483648) : (nI n).toInt = (n : Int) := nI_toInt (by omega)
theorem ti_cl {x : Int32} (h : 0 ≤ x.toInt) : (x.toNatClampNeg : Int) = x.toInt := by
  have e : x.toNatClampNeg = x.toInt.toNat := rfl
  rw [e]; omega
theorem ti_in {x : Int32} {n : Nat} (h0 : 0 ≤ x.toInt) (h1 : x.toInt < n) : vp_in x n := vp_in_iff.mpr ⟨h0, h1⟩
/-- a byte, a word, an operand of width w -/
def rB (x : Int32) : Prop := 0 ≤ x.toInt ∧ x.toInt ≤ 255
def rW (x : Int32) : Prop := 0 ≤ x.toInt ∧ x.toInt ≤ 65535
def rO (x w : Int32) : Prop := 0 ≤ x.toInt ∧ x.toInt ≤ if w = 0 then 255 else 65535
theorem rO_W {x w : Int32} (h : rO x w) : rW x := ⟨h.1, by have := h.2; split at this <;> omega⟩
theorem rB_W {x : Int32} (h : rB x) : rW x := ⟨h.1, by have := h.2; omega⟩
theorem rB_O {x w : Int32} (h : rB x) : rO x w := ⟨h.1, by have := h.2; split <;> omega⟩
theorem rO_0 {x : Int32} : rO x 0 ↔ rB x := by unfold rO rB; simp
theorem rO_1 {x w : Int32} (hw : ¬ w = 0) : rO x w ↔ rW x := by unfold rO rW; rw [if_neg hw]
theorem rB_and (x : Int32) : rB (x &&& 255) := by unfold rB; rw [ti_and255]; omega
theorem rW_and (x : Int32) : rW (x &&& 65535) := by unfold rW; rw [ti_and65535]; omega
theorem and255_id {x : Int32} (h : rB x) : x &&& 255 = x := ti_ext (by rw [ti_and255]; have := h.1; have := h.2; omega)
theorem and65535_id {x : Int32} (h : rW x) : x &&& 65535 = x := ti_ext (by rw [ti_and65535]; have := h.1; have := h.2; omega)
/-- a byte as an int8 holds it -/
theorem ti_i8 (x : Int32) : x.toInt8.toInt32.toInt = x.toInt.bmod 256 := by
  rw [Int8.toInt_toInt32, Int32.toInt_toInt8]
theorem ti_i16 (x : Int32) : x.toInt16.toInt32.toInt = x.toInt.bmod 65536 := by
  rw [Int16.toInt_toInt32, Int32.toInt_toInt16]
theorem bm_8 (n : Int) : n.bmod 256 = if n % 256 < 128 then n % 256 else n % 256 - 256 := by unfold Int.bmod; rfl
theorem bm_16 (n : Int) : n.bmod 65536 = if n % 65536 < 32768 then n % 65536 else n % 65536 - 65536 := by unfold Int.bmod; rfl
-- ===== a number under a mask and over one: every chain of marks is one such form =====
def nf (m d x : Int32) : Int32 := (x &&& m) ||| d
theorem nf_id (x : Int32) : x = nf (-1) 0 x := by
  unfold nf
  apply Int32.toBitVec_inj.mp
  simp
theorem nf_and (m d k x : Int32) : nf m d x &&& k = nf (m &&& k) (d &&& k) x := by
  unfold nf
  apply Int32.toBitVec_inj.mp
  simp only [Int32.toBitVec_and, Int32.toBitVec_or]
  apply BitVec.eq_of_getLsbD_eq
  intro i _
  simp only [BitVec.getLsbD_and, BitVec.getLsbD_or]
  cases x.toBitVec.getLsbD i <;> cases m.toBitVec.getLsbD i <;> cases d.toBitVec.getLsbD i <;> cases k.toBitVec.getLsbD i <;> rfl
theorem nf_or (m d k x : Int32) : nf m d x ||| k = nf (m &&& (k ^^^ (-1))) (d ||| k) x := by
  unfold nf
  apply Int32.toBitVec_inj.mp
  simp only [Int32.toBitVec_and, Int32.toBitVec_or, Int32.toBitVec_xor]
  apply BitVec.eq_of_getLsbD_eq
  intro i hi
  have e : (Int32.toBitVec (-1)).getLsbD i = true := by
    have : Int32.toBitVec (-1) = BitVec.allOnes 32 := by decide
    rw [this, BitVec.getLsbD_allOnes]; simpa using hi
  simp only [BitVec.getLsbD_and, BitVec.getLsbD_or, BitVec.getLsbD_xor, e]
  cases x.toBitVec.getLsbD i <;> cases m.toBitVec.getLsbD i <;> cases d.toBitVec.getLsbD i <;> cases k.toBitVec.getLsbD i <;> rfl
