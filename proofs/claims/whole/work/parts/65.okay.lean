-- ----- whether it is a code
def fOk2 (q : SQ) : Int32 := if q_code q = 254 then (if 2 ≤ q_r q then 0 else 1) else 1
def fOk1 (q : SQ) (s : Int32) : Int32 := if s = 0 then fOk2 q else if q_mode q = 3 then 0 else fOk2 q
def fOk0 (q : SQ) (s : Int32) : Int32 := if q_code q = 141 then fOk1 q 1 else if q_code q = 196 then fOk1 q 1 else if q_code q = 197 then fOk1 q 1 else if s = 0 then fOk1 q 0 else fOk1 q 1
def fOk (q : SQ) : Int32 := if q_code q = 255 then (if q_r q = 3 then fOk0 q 1 else if q_r q = 5 then fOk0 q 1 else fOk0 q 0) else fOk0 q 0
theorem mOk2 {q : SQ} {P : Int32 → SQ → Prop} (h : P (fOk2 q) q) : wX6_follows_b592 P q := by
  unfold fOk2 at h
  refine ⟨fun a => ⟨fun b => ?_, fun b => ?_⟩, fun a => ?_⟩
  · rw [if_pos a, if_pos b] at h; exact h
  · rw [if_pos a, if_neg b] at h; exact h
  · rw [if_neg a] at h; exact h
theorem mOk1 {q : SQ} {s : Int32} {P : Int32 → SQ → Prop} (h : P (fOk1 q s) q) : wX6_follows_b579 P s q := by
  unfold fOk1 at h
  refine ⟨fun a => mOk2 ?_, fun a => ⟨fun b => ?_, fun b => mOk2 ?_⟩⟩
  · rw [if_pos a] at h; exact h
  · rw [if_neg a, if_pos b] at h; exact h
  · rw [if_neg a, if_neg b] at h; exact h
theorem mOk0 {q : SQ} {s : Int32} {P : Int32 → SQ → Prop} (h : P (fOk0 q s) q) : wX6_follows_b539 P s q := by
  unfold fOk0 at h
  refine ⟨fun a => mOk1 (s := 1) ?_, fun a => ⟨fun b => mOk1 (s := 1) ?_, fun b => ⟨fun c => mOk1 (s := 1) ?_, fun c => ⟨fun d => mOk1 ?_, fun d => mOk1 (s := 1) ?_⟩⟩⟩⟩
  · rw [if_pos a] at h; exact h
  · rw [if_neg a, if_pos b] at h; exact h
  · rw [if_neg a, if_neg b, if_pos c] at h; exact h
  · rw [if_neg a, if_neg b, if_neg c, if_pos d] at h; exact h
  · rw [if_neg a, if_neg b, if_neg c, if_neg d] at h; exact h
theorem mOk {q : SQ} {P : Int32 → SQ → Prop} (h : P (fOk q) q) : wX6_follows_b508 P q := by
  unfold fOk at h
  refine ⟨fun a => ⟨fun b => mOk0 (s := 1) ?_, fun b => ⟨fun c => mOk0 (s := 1) ?_, fun c => mOk0 (s := 0) ?_⟩⟩, fun a => mOk0 (s := 0) ?_⟩
  · rw [if_pos a, if_pos b] at h; exact h
  · rw [if_pos a, if_neg b, if_pos c] at h; exact h
  · rw [if_pos a, if_neg b, if_neg c] at h; exact h
  · rw [if_neg a] at h; exact h
theorem ok2_n {q : SQ} (h : ¬ q_code q = 254) : fOk2 q = 1 := if_neg h
theorem ok1_m {q : SQ} (h : ¬ q_code q = 254) : fOk1 q 1 = if q_mode q = 3 then 0 else 1 := by
  unfold fOk1; rw [if_neg (by decide), ok2_n h]
theorem ok_m {q : SQ} (h : q_code q = 141 ∨ q_code q = 196 ∨ q_code q = 197) : fOk q = if q_mode q = 3 then 0 else 1 := by
  have n255 : ¬ q_code q = 255 := by rcases h with h | h | h <;> rw [h] <;> decide
  have n254 : ¬ q_code q = 254 := by rcases h with h | h | h <;> rw [h] <;> decide
  unfold fOk fOk0
  rw [if_neg n255, ok1_m n254]
  rcases h with h | h | h
  · rw [if_pos h]
  · rw [if_neg (by rw [h]; decide), if_pos h]
  · rw [if_neg (by rw [h]; decide), if_neg (by rw [h]; decide), if_pos h]
theorem ok0_0 {q : SQ} (a : ¬ q_code q = 141) (b : ¬ q_code q = 196) (c : ¬ q_code q = 197) : fOk0 q 0 = fOk2 q := by
  unfold fOk0 fOk1; rw [if_neg a, if_neg b, if_neg c, if_pos rfl, if_pos rfl]
theorem ok0_1 {q : SQ} (a : ¬ q_code q = 141) (b : ¬ q_code q = 196) (c : ¬ q_code q = 197) : fOk0 q 1 = fOk1 q 1 := by
  unfold fOk0; rw [if_neg a, if_neg b, if_neg c, if_neg (by decide)]
theorem cOk {q : SQ} {k : SC} {P : Int32 → SC → Prop} (hn : c_number k = q_code q) (hM : q_code q = 141 ∨ q_code q = 196 ∨ q_code q = 197 ∨ q_code q = 254 ∨ q_code q = 255 → c_mode k = q_mode q ∧ c_r k = q_r q) (h : P (fOk q) k) : wX1_isCode k P := by
  have b56 : (q_code q = 141 ∨ q_code q = 196 ∨ q_code q = 197) → wX1_isCode_b56 P k := by
    intro z
    rw [ok_m z] at h
    have m := (hM (by rcases z with z | z | z; exact Or.inl z; exact Or.inr (Or.inl z); exact Or.inr (Or.inr (Or.inl z)))).1
    refine iX1_inRegister ⟨fun c => ?_, fun c => ?_⟩
    · rw [if_neg (fun y => (bI_0.mp c) (m.trans y))] at h; exact h
    · rw [if_pos (Decidable.of_not_not (fun y => c (bI_0.mpr (fun x => y (m.symm.trans x)))))] at h; exact h
  unfold wX1_isCode
  rw [hn]
  refine ⟨fun a => b56 (Or.inl a), fun a => ⟨fun b => b56 (Or.inr (Or.inl b)), fun b => ⟨fun c => b56 (Or.inr (Or.inr c)), fun c => ⟨fun d => ?_, fun d => ⟨fun e => ?_, fun e => ?_⟩⟩⟩⟩⟩
  · have m := (hM (Or.inr (Or.inr (Or.inr (Or.inl d))))).2
    have e : fOk q = if 2 ≤ q_r q then 0 else 1 := by
      unfold fOk
      rw [if_neg (by rw [d]; decide), ok0_0 a b c]
      exact if_pos d
    rw [e] at h
    rw [m]
    refine ⟨fun y => ?_, fun y => ?_⟩
    · rw [if_pos y] at h; exact h
    · rw [if_neg y] at h; exact h
  · have m := hM (Or.inr (Or.inr (Or.inr (Or.inr e))))
    have h' : fOk q = if q_r q = 3 then (if q_mode q = 3 then 0 else 1) else if q_r q = 5 then (if q_mode q = 3 then 0 else 1) else 1 := by
      unfold fOk
      rw [if_pos e, ok0_0 a b c, ok0_1 a b c, ok1_m d, ok2_n d]
    rw [h'] at h
    refine iX1_inRegister ⟨fun z => ?_, fun z => ?_⟩
    · have nm : ¬ q_mode q = 3 := fun y => (bI_0.mp z) (m.1.trans y)
      rw [if_neg nm] at h
      have e1 : (if q_r q = 3 then (1 : Int32) else if q_r q = 5 then 1 else 1) = 1 := by split; rfl; split <;> rfl
      rw [e1] at h
      exact h
    · have ym : q_mode q = 3 := Decidable.of_not_not (fun y => z (bI_0.mpr (fun x => y (m.1.symm.trans x))))
      rw [if_pos ym] at h
      rw [m.2]
      refine ⟨fun y => ?_, fun y => ⟨fun y2 => ?_, fun y2 => ?_⟩⟩
      · rw [if_pos y] at h; exact h
      · rw [if_neg y, if_pos y2] at h; exact h
      · rw [if_neg y, if_neg y2] at h; exact h
  · have e1 : fOk q = 1 := by
      unfold fOk
      rw [if_neg e, ok0_0 a b c, ok2_n d]
    rw [e1] at h; exact h
theorem ok2_cases (q : SQ) : fOk2 q = 0 ∨ fOk2 q = 1 := by
  unfold fOk2
  split
  · split
    · exact Or.inl rfl
    · exact Or.inr rfl
  · exact Or.inr rfl
theorem ok1_cases (q : SQ) (s : Int32) : fOk1 q s = 0 ∨ fOk1 q s = 1 := by
  unfold fOk1
  split
  · exact ok2_cases q
  · split
    · exact Or.inl rfl
    · exact ok2_cases q
theorem ok0_cases (q : SQ) (s : Int32) : fOk0 q s = 0 ∨ fOk0 q s = 1 := by
  unfold fOk0
  split
  · exact ok1_cases q 1
  · split
    · exact ok1_cases q 1
    · split
      · exact ok1_cases q 1
      · split
        · exact ok1_cases q 0
        · exact ok1_cases q 1
theorem ok_cases (q : SQ) : fOk q = 0 ∨ fOk q = 1 := by
  unfold fOk
  split
  · split
    · exact ok0_cases q 1
    · split
      · exact ok0_cases q 1
      · exact ok0_cases q 0
  · exact ok0_cases q 0
