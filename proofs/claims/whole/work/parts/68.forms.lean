-- ----- whether M follows; leaves and FORMS
def hm120 (n : Int32) : Int32 := if n = 246 then 1 else if n = 247 then 1 else if n = 254 then 1 else if n = 255 then 1 else 0
theorem mH120 {P : Int32 → SQ → Prop} {q : SQ} (h : P (hm120 (q_code q)) q) : wX6_hasMode_b120 P q := by
  unfold hm120 at h
  refine ⟨fun a0 => ?_, fun a0 => ⟨fun a1 => ?_, fun a1 => ⟨fun a2 => ?_, fun a2 => ⟨fun a3 => ?_, fun a3 => ?_⟩⟩⟩⟩
  · rw [if_pos a0] at h; exact h
  · rw [if_neg a0, if_pos a1] at h; exact h
  · rw [if_neg a0, if_neg a1, if_pos a2] at h; exact h
  · rw [if_neg a0, if_neg a1, if_neg a2, if_pos a3] at h; exact h
  · rw [if_neg a0, if_neg a1, if_neg a2, if_neg a3] at h; exact h
def hm100 (n : Int32) : Int32 := if n < 216 then hm120 n else if n < 224 then 1 else hm120 n
theorem mH100 {P : Int32 → SQ → Prop} {q : SQ} (h : P (hm100 (q_code q)) q) : wX6_hasMode_b100 P q := by
  unfold hm100 at h
  refine ⟨fun a0 => ?_, fun a0 => ⟨fun a1 => ?_, fun a1 => ?_⟩⟩
  · rw [if_pos a0] at h; exact mH120 h
  · rw [if_neg a0, if_pos a1] at h; exact h
  · rw [if_neg a0, if_neg a1] at h; exact mH120 h
def hm40 (n : Int32) : Int32 := if n = 196 then 1 else if n = 197 then 1 else if n = 198 then 1 else if n = 199 then 1 else if n < 208 then hm100 n else if n < 212 then 1 else hm100 n
theorem mH40 {P : Int32 → SQ → Prop} {q : SQ} (h : P (hm40 (q_code q)) q) : wX6_hasMode_b40 P q := by
  unfold hm40 at h
  refine ⟨fun a0 => ?_, fun a0 => ⟨fun a1 => ?_, fun a1 => ⟨fun a2 => ?_, fun a2 => ⟨fun a3 => ?_, fun a3 => ⟨fun a4 => ?_, fun a4 => ⟨fun a5 => ?_, fun a5 => ?_⟩⟩⟩⟩⟩⟩
  · rw [if_pos a0] at h; exact h
  · rw [if_neg a0, if_pos a1] at h; exact h
  · rw [if_neg a0, if_neg a1, if_pos a2] at h; exact h
  · rw [if_neg a0, if_neg a1, if_neg a2, if_pos a3] at h; exact h
  · rw [if_neg a0, if_neg a1, if_neg a2, if_neg a3, if_pos a4] at h; exact mH100 h
  · rw [if_neg a0, if_neg a1, if_neg a2, if_neg a3, if_neg a4, if_pos a5] at h; exact h
  · rw [if_neg a0, if_neg a1, if_neg a2, if_neg a3, if_neg a4, if_neg a5] at h; exact mH100 h
def hm20 (n : Int32) : Int32 := if n < 128 then hm40 n else if n < 144 then 1 else hm40 n
theorem mH20 {P : Int32 → SQ → Prop} {q : SQ} (h : P (hm20 (q_code q)) q) : wX6_hasMode_b20 P q := by
  unfold hm20 at h
  refine ⟨fun a0 => ?_, fun a0 => ⟨fun a1 => ?_, fun a1 => ?_⟩⟩
  · rw [if_pos a0] at h; exact mH40 h
  · rw [if_neg a0, if_pos a1] at h; exact h
  · rw [if_neg a0, if_neg a1] at h; exact mH40 h
def hmM (n : Int32) : Int32 := if 64 ≤ n then hm20 n else if n &&& 7 < 4 then 1 else hm20 n
theorem mHM {P : Int32 → SQ → Prop} {q : SQ} (h : P (hmM (q_code q)) q) : wX6_hasMode q P := by
  unfold hmM at h
  refine ⟨fun a => mH20 ?_, fun a => ⟨fun b => ?_, fun b => mH20 ?_⟩⟩
  · rw [if_pos a] at h; exact h
  · rw [if_neg a, if_pos b] at h; exact h
  · rw [if_neg a, if_neg b] at h; exact h
def hc (f : Int32) : Int32 := if f = 3 then 1 else if f = 4 then 1 else if f = 5 then 1 else if f = 7 then 1 else if f = 8 then 1 else 0
theorem cHM {f : Int32} {P : Int32 → Unit → Prop} (h : P (hc f) ()) : wX1_hasM f () P := by
  unfold hc at h
  refine ⟨fun a => ?_, fun a => ⟨fun b => ?_, fun b => ⟨fun c => ?_, fun c => ⟨fun d => ?_, fun d => ⟨fun e => ?_, fun e => ?_⟩⟩⟩⟩⟩
  · rw [if_pos a] at h; exact h
  · rw [if_neg a, if_pos b] at h; exact h
  · rw [if_neg a, if_neg b, if_pos c] at h; exact h
  · rw [if_neg a, if_neg b, if_neg c, if_pos d] at h; exact h
  · rw [if_neg a, if_neg b, if_neg c, if_neg d, if_pos e] at h; exact h
  · rw [if_neg a, if_neg b, if_neg c, if_neg d, if_neg e] at h; exact h
theorem form_M : ∀ j : Fin 256, formsF j.val = 9 ∨ hc (formsF j.val) = hmM (nI j.val) := by decide +kernel
theorem form_L : ∀ j : Fin 256, ∀ i : Fin 8, formsF j.val = 9 ∨ lc21 (formsF j.val) (nI i.val) = lcm (lf11 (nI j.val) (nI i.val)) := by decide +kernel
