-- ----- prefixes, both sides
def Cor (q q2 : SQ) : Prop := (mQ q2 = mQ q ∧ q_registers q2 = q_registers q ∧ q_segments q2 = q_segments q ∧ q_ip q2 = q_ip q ∧ q_ports q2 = q_ports q) ∧ (q_flags q2 = q_flags q ∧ q_halted q2 = q_halted q ∧ q_repetitions q2 = q_repetitions q) ∧ Same q q2
theorem Cor.rf {q : SQ} : Cor q q := ⟨⟨rfl, rfl, rfl, rfl, rfl⟩, ⟨rfl, rfl, rfl⟩, Same.rf⟩
theorem Cor.tr {q q1 q2 : SQ} (h : Cor q q1) (g : Cor q1 q2) : Cor q q2 := ⟨⟨g.1.1.trans h.1.1, g.1.2.1.trans h.1.2.1, g.1.2.2.1.trans h.1.2.2.1, g.1.2.2.2.1.trans h.1.2.2.2.1, g.1.2.2.2.2.trans h.1.2.2.2.2⟩, ⟨g.2.1.1.trans h.2.1.1, g.2.1.2.1.trans h.2.1.2.1, g.2.1.2.2.trans h.2.1.2.2⟩, h.2.2.tr g.2.2⟩
theorem Core.cor {q q2 : SQ} (h : Core q q2) : Cor q q2 := ⟨h.1, h.2.2.1, h.2.2.2⟩
theorem cor_code (q : SQ) (v : Int32) : Cor q (qs_code q v) := ⟨⟨rfl, rfl, rfl, rfl, rfl⟩, ⟨rfl, rfl, rfl⟩, ⟨rfl, rfl, rfl, rfl, rfl, rfl⟩⟩
theorem cor_segment (q : SQ) (v : Int32) : Cor q (qs_segment q v) := ⟨⟨rfl, rfl, rfl, rfl, rfl⟩, ⟨rfl, rfl, rfl⟩, ⟨rfl, rfl, rfl, rfl, rfl, rfl⟩⟩
theorem cor_repeat (q : SQ) (v : Int32) : Cor q (qs_repeat q v) := ⟨⟨rfl, rfl, rfl, rfl, rfl⟩, ⟨rfl, rfl, rfl⟩, ⟨rfl, rfl, rfl, rfl, rfl, rfl⟩⟩
theorem cor_begin (q : SQ) (v : Int32) : Cor q (qs_begin q v) := ⟨⟨rfl, rfl, rfl, rfl, rfl⟩, ⟨rfl, rfl, rfl⟩, ⟨rfl, rfl, rfl, rfl, rfl, rfl⟩⟩
theorem cor_at (q : SQ) (v : Int32) : Cor q (qs_at q v) := ⟨⟨rfl, rfl, rfl, rfl, rfl⟩, ⟨rfl, rfl, rfl⟩, ⟨rfl, rfl, rfl, rfl, rfl, rfl⟩⟩
theorem cor_inv {q q2 : SQ} (h : Cor q q2) (hI : Inv q) : Inv q2 := by
  have h1 := h.1
  unfold Inv
  rw [h1.1, h1.2.2.2.2, show rQ q2 = (q_registers q2, q_segments q2, q_ip q2) from rfl, h1.2.1, h1.2.2.1, h1.2.2.2.1]
  exact hI
/-- one more byte r is taken: what the reference keeps of it -/
def fPf (r : Int32) (q : SQ) : SQ := if r &&& 231 = 38 then qs_code (qs_segment q ((r >>> ((3 : Int32) &&& 31)) &&& 3)) r else if r = 242 then qs_code (qs_repeat q r) r else if r = 243 then qs_code (qs_repeat q r) r else qs_code q r
def fPx (r : Int32) : Int32 := if r &&& 231 = 38 then 1 else if r < 240 then 0 else if 244 ≤ r then 0 else 1
theorem px_all : ∀ j : Fin 256, (fPx (nI j.val) = 1 ∧ formsF j.val = 9) ∨ (fPx (nI j.val) = 0 ∧ ¬ formsF j.val = 9) := by decide +kernel
theorem px_cases {n : Int32} (h : rB n) : (fPx n = 1 ∧ formsF n.toNatClampNeg = 9) ∨ (fPx n = 0 ∧ ¬ formsF n.toNatClampNeg = 9) := by
  rcases byte_fin h with ⟨j, e, e2⟩
  have := px_all j
  rw [e, e2] at this
  exact this
theorem pf_code (r : Int32) (q : SQ) : q_code (fPf r q) = r := by
  unfold fPf
  split
  · rfl
  · split
    · rfl
    · split
      · rfl
      · rfl
theorem pf_at (r : Int32) (q : SQ) : q_at (fPf r q) = q_at q := by
  unfold fPf
  split
  · rfl
  · split
    · rfl
    · split
      · rfl
      · rfl
theorem pf_begin (r : Int32) (q : SQ) : q_begin (fPf r q) = q_begin q := by
  unfold fPf
  split
  · rfl
  · split
    · rfl
    · split
      · rfl
      · rfl
theorem cor_pf (r : Int32) (q : SQ) : Cor q (fPf r q) := by
  unfold fPf
  split
  · exact (cor_segment q _).tr (cor_code _ _)
  · split
    · exact (cor_repeat q _).tr (cor_code _ _)
    · split
      · exact (cor_repeat q _).tr (cor_code _ _)
      · exact cor_code _ _
theorem sF_cor {q q2 : SQ} (k : SC) (h : Cor q q2) (ha : q_at q2 = q_at q) : sF q2 k = sF q k := by
  show (k, mR (mQ q2), (q_registers q2, q_segments q2, q_at q2 &&& 65535)) = (k, mR (mQ q), (q_registers q, q_segments q, q_at q &&& 65535))
  rw [h.1.1, h.1.2.1, h.1.2.2.1, ha]
theorem sF_pf (r : Int32) (q : SQ) (k : SC) : sF (fPf r q) k = sF q k := sF_cor k (cor_pf r q) (pf_at r q)
theorem cnt_pf (r : Int32) (q : SQ) : cnt (fPf r q) = cnt q := by
  unfold cnt
  rw [pf_at, pf_begin]
/-- one turn of the reference's loop -/
theorem mTurn {n : Nat} {q : SQ} {P : Int32 → SQ → Prop} (hI : Inv q) (hc : cnt q < 16) (h : wX6_decode_b28 P n (fPx (bAt q)) (fPf (bAt q) (nx q))) : wX6_decode_b28 P (n + 1) 1 q := by
  have e16 : (16 : Int32).toInt = 16 := rfl
  have hnc : ¬ (16 : Int32) ≤ q_at q - q_begin q := fun z => by
    have := ti_le.mp z
    unfold cnt at hc
    omega
  rw [wX6_decode_b28]
  refine sk (by decide) (sk hnc (iX6_fetch hI ?_))
  generalize bAt q = r at h
  unfold fPf fPx at h
  refine ⟨fun a => ?_, fun a => ?_⟩
  · rw [if_pos a, if_pos a] at h
    exact tk a h
  · rw [if_neg a, if_neg a] at h
    have inner : ∀ x : Int32, wX6_decode_b28 P n x (if r = 242 then qs_code (qs_repeat (nx q) r) r else if r = 243 then qs_code (qs_repeat (nx q) r) r else qs_code (nx q) r) →
        ((r &&& (231 : Int32)) = (38 : Int32) → (wX6_decode_b28 P n x (qs_code (qs_segment (nx q) ((r >>> ((3 : Int32) &&& 31)) &&& (3 : Int32))) r))) ∧ (¬ (r &&& (231 : Int32)) = (38 : Int32) → ((r = (242 : Int32) → (wX6_decode_b28 P n x (qs_code (qs_repeat (nx q) r) r))) ∧ (¬ r = (242 : Int32) → ((r = (243 : Int32) → (wX6_decode_b28 P n x (qs_code (qs_repeat (nx q) r) r))) ∧ (¬ r = (243 : Int32) → (wX6_decode_b28 P n x (qs_code (nx q) r))))))) := by
      intro x hx
      refine sk a ⟨fun b => ?_, fun b => ⟨fun c => ?_, fun c => ?_⟩⟩
      · rw [if_pos b] at hx; exact hx
      · rw [if_neg b, if_pos c] at hx; exact hx
      · rw [if_neg b, if_neg c] at hx; exact hx
    refine ⟨fun b => inner 0 ?_, fun b => ⟨fun c => inner 0 ?_, fun c => inner 1 ?_⟩⟩
    · rw [if_pos b] at h; exact h
    · rw [if_neg b, if_pos c] at h; exact h
    · rw [if_neg b, if_neg c] at h; exact h
/-- what the class keeps of its number -/
def fKP (k : SC) : SC := if 64 ≤ c_number k then (if c_number k < 242 then k else cs_repeat k (c_number k)) else cs_givenSegment k (((c_number k) >>> ((3 : Int32) &&& 31)) &&& 3)
theorem cKeep {k : SC} {P : SC → Prop} (h : P (fKP k)) : wX1_keepPrefix k P := by
  unfold fKP at h
  refine ⟨fun a => ⟨fun b => ?_, fun b => ?_⟩, fun a => ?_⟩
  · rw [if_pos a, if_pos b] at h; exact h
  · rw [if_pos a, if_neg b] at h; exact h
  · rw [if_neg a] at h; exact h
theorem kp_begin (k : SC) : c_begin (fKP k) = c_begin k := by
  unfold fKP
  split
  · split <;> rfl
  · rfl
theorem kp_fetched (k : SC) : c_fetched (fKP k) = c_fetched k := by
  unfold fKP
  split
  · split <;> rfl
  · rfl
theorem kp_number (k : SC) : c_number (fKP k) = c_number k := by
  unfold fKP
  split
  · split <;> rfl
  · rfl
/-- .. what it will have kept, once the number in hand counts -/
def fK (k : SC) : SC := if formsF (c_number k).toNatClampNeg = 9 then fKP k else k
def Rel (k : SC) (q : SQ) : Prop := c_givenSegment k = q_segment q ∧ (q_repeat q = 0 ∧ c_repeat k = -1 ∨ q_repeat q = 243 ∧ c_repeat k = 243 ∨ q_repeat q = 242 ∧ c_repeat k = 242)
theorem pre_all : ∀ j : Fin 256, (formsF j.val = 9 ∧ ((j.val = 38 ∨ j.val = 46 ∨ j.val = 54 ∨ j.val = 62) ∨ (j.val = 240 ∨ j.val = 241) ∨ j.val = 242 ∨ j.val = 243)) ∨ (¬ formsF j.val = 9 ∧ ¬ (nI j.val) &&& 231 = 38 ∧ ¬ nI j.val = 242 ∧ ¬ nI j.val = 243) := by decide +kernel
theorem pre_cases {n : Int32} (h : rB n) : (formsF n.toNatClampNeg = 9 ∧ ((n = 38 ∨ n = 46 ∨ n = 54 ∨ n = 62) ∨ (n = 240 ∨ n = 241) ∨ n = 242 ∨ n = 243)) ∨ (¬ formsF n.toNatClampNeg = 9 ∧ ¬ n &&& 231 = 38 ∧ ¬ n = 242 ∧ ¬ n = 243) := by
  rcases byte_fin h with ⟨j, e, e2⟩
  have := pre_all j
  rw [e, e2] at this
  have f : ∀ m : Nat, m < 2147483648 → n.toNatClampNeg = m → n = nI m := fun m hm hh => by rw [← e, e2, hh]
  rcases this with ⟨a, b⟩ | b
  · refine Or.inl ⟨a, ?_⟩
    rcases b with (b | b | b | b) | (b | b) | b | b
    · exact Or.inl (Or.inl (f _ (by decide) b))
    · exact Or.inl (Or.inr (Or.inl (f _ (by decide) b)))
    · exact Or.inl (Or.inr (Or.inr (Or.inl (f _ (by decide) b))))
    · exact Or.inl (Or.inr (Or.inr (Or.inr (f _ (by decide) b))))
    · exact Or.inr (Or.inl (Or.inl (f _ (by decide) b)))
    · exact Or.inr (Or.inl (Or.inr (f _ (by decide) b)))
    · exact Or.inr (Or.inr (Or.inl (f _ (by decide) b)))
    · exact Or.inr (Or.inr (Or.inr (f _ (by decide) b)))
  · exact Or.inr b
theorem n_num (k : SC) (v : Int32) : c_number (cs_number k v) = v := rfl
theorem n_gs (k : SC) (v : Int32) : c_givenSegment (cs_number k v) = c_givenSegment k := rfl
theorem n_rp (k : SC) (v : Int32) : c_repeat (cs_number k v) = c_repeat k := rfl
theorem rel_seg {k : SC} {q : SQ} (v w : Int32) (h : Rel k q) : Rel (cs_givenSegment k v) (qs_code (qs_segment q v) w) := ⟨rfl, h.2⟩
theorem rel_3 {k : SC} {q : SQ} (w : Int32) (h : Rel k q) : Rel (cs_repeat k 243) (qs_code (qs_repeat q 243) w) := ⟨h.1, Or.inr (Or.inl ⟨rfl, rfl⟩)⟩
theorem rel_2 {k : SC} {q : SQ} (w : Int32) (h : Rel k q) : Rel (cs_repeat k 242) (qs_code (qs_repeat q 242) w) := ⟨h.1, Or.inr (Or.inr ⟨rfl, rfl⟩)⟩
theorem rel_0 {k : SC} {q : SQ} (w : Int32) (h : Rel k q) : Rel k (qs_code q w) := h
theorem rel_n {k : SC} {q : SQ} (w : Int32) (h : Rel k q) : Rel (cs_number k w) q := h
theorem rel_kn {k : SC} {q : SQ} (h : Rel k q) : Rel (kn k) (nx q) := h
theorem rel_pf {r : Int32} {k : SC} {q : SQ} (hb : rB r) (h0 : Rel k q) : Rel (fK (cs_number k r)) (fPf r q) := by
  have h := rel_n (k := k) r h0
  unfold fK
  rw [n_num]
  have hnum : c_number (cs_number k r) = r := rfl
  generalize cs_number k r = k1 at h hnum ⊢
  rcases pre_cases hb with ⟨a, b⟩ | ⟨a, b, c, d⟩
  · rw [if_pos a]
    unfold fKP fPf
    rw [hnum]
    rcases b with b | b | b | b
    · have c1 : ¬ (64 : Int32) ≤ r := by rcases b with rfl | rfl | rfl | rfl <;> decide
      have c2 : r &&& 231 = 38 := by rcases b with rfl | rfl | rfl | rfl <;> decide
      rw [if_neg c1, if_pos c2]
      exact rel_seg _ _ h
    · have c1 : (64 : Int32) ≤ r := by rcases b with rfl | rfl <;> decide
      have c2 : ¬ r &&& 231 = 38 := by rcases b with rfl | rfl <;> decide
      have c3 : r < 242 := by rcases b with rfl | rfl <;> decide
      have c4 : ¬ r = 242 := by rcases b with rfl | rfl <;> decide
      have c5 : ¬ r = 243 := by rcases b with rfl | rfl <;> decide
      rw [if_pos c1, if_pos c3, if_neg c2, if_neg c4, if_neg c5]
      exact rel_0 _ h
    · rw [if_pos (by rw [b]; decide), if_neg (by rw [b]; decide), if_neg (by rw [b]; decide), if_pos b, b]
      exact rel_2 _ h
    · rw [if_pos (by rw [b]; decide), if_neg (by rw [b]; decide), if_neg (by rw [b]; decide), if_neg (by rw [b]; decide), if_pos b, b]
      exact rel_3 _ h
  · rw [if_neg a]
    unfold fPf
    rw [if_neg b, if_neg c, if_neg d]
    exact rel_0 _ h
theorem rS_seg {q : SQ} (v w : Int32) (h : r3 v) : rS (qs_code (qs_segment q v) w) := Or.inr h
theorem rS_rep {q : SQ} (v w : Int32) (h : rS q) : rS (qs_code (qs_repeat q v) w) := h
theorem rS_code {q : SQ} (w : Int32) (h : rS q) : rS (qs_code q w) := h
theorem rS_nx {q : SQ} (h : rS q) : rS (nx q) := h
theorem rS_pf {r : Int32} {q : SQ} (h : rS q) : rS (fPf r q) := by
  unfold fPf
  split
  · refine rS_seg _ _ ?_
    unfold r3
    rw [ti_and3]
    omega
  · split
    · exact rS_rep _ _ h
    · split
      · exact rS_rep _ _ h
      · exact rS_code _ h
theorem Cnt_num {q : SQ} {k : SC} (v : Int32) (h : Cnt q k) : Cnt q (cs_number k v) := h
theorem Cnt_pf {r : Int32} {q : SQ} {k : SC} (h : Cnt q k) : Cnt (fPf r q) k := by
  unfold Cnt at *
  rw [pf_at, pf_begin]
  exact h
theorem Cnt_kp {q : SQ} {k : SC} (h : Cnt q k) : Cnt q (fKP k) := by
  unfold Cnt at *
  rw [kp_fetched]
  exact h
