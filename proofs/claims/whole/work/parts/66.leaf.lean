-- ----- what follows a code: the reference's chain, by its leaves
def mL (P : Int32 → SQ → Prop) (l : Int32) (q : SQ) : Prop :=
  if l = 0 then wX6_follows_b508 P q
  else if l = 1 then wX6_fetch q (fun r u => wX6_follows_b508 P (qs_i u r))
  else if l = 2 then wX6_fetchWord q (fun r u => wX6_follows_b508 P (qs_i u r))
  else if l = 3 then wX6_follows_b129 P q
  else if l = 4 then wX6_fetch q (fun r26 u26 => (wX6_extended r26 () (fun r29 u28 => (wX6_follows_b208 P (r29 &&& (65535 : Int32)) u26))))
  else wX6_follows_b234 P q
theorem mL0 {P : Int32 → SQ → Prop} {q : SQ} (h : mL P 0 q) : wX6_follows_b508 P q := by unfold mL at h; rw [if_pos rfl] at h; exact h
theorem mL1 {P : Int32 → SQ → Prop} {q : SQ} (h : mL P 1 q) : wX6_fetch q (fun r u => wX6_follows_b508 P (qs_i u r)) := by unfold mL at h; rw [if_neg (by decide), if_pos rfl] at h; exact h
theorem mL2 {P : Int32 → SQ → Prop} {q : SQ} (h : mL P 2 q) : wX6_fetchWord q (fun r u => wX6_follows_b508 P (qs_i u r)) := by unfold mL at h; rw [if_neg (by decide), if_neg (by decide), if_pos rfl] at h; exact h
theorem mL3 {P : Int32 → SQ → Prop} {q : SQ} (h : mL P 3 q) : wX6_follows_b129 P q := by unfold mL at h; rw [if_neg (by decide), if_neg (by decide), if_neg (by decide), if_pos rfl] at h; exact h
theorem mL4 {P : Int32 → SQ → Prop} {q : SQ} (h : mL P 4 q) : wX6_fetch q (fun r26 u26 => (wX6_extended r26 () (fun r29 u28 => (wX6_follows_b208 P (r29 &&& (65535 : Int32)) u26)))) := by unfold mL at h; rw [if_neg (by decide), if_neg (by decide), if_neg (by decide), if_neg (by decide), if_pos rfl] at h; exact h
theorem mL5 {P : Int32 → SQ → Prop} {q : SQ} (h : mL P 5 q) : wX6_follows_b234 P q := by unfold mL at h; rw [if_neg (by decide), if_neg (by decide), if_neg (by decide), if_neg (by decide), if_neg (by decide)] at h; exact h
def lfN (w : Int32) : Int32 := if w = 0 then 1 else 2
theorem mLN {P : Int32 → SQ → Prop} {q : SQ} {w : Int32} (h : mL P (lfN w) q) : wX6_fetchNumber w q (fun r u => wX6_follows_b508 P (qs_i u r)) := by
  unfold lfN at h
  refine ⟨fun a => ?_, fun a => ?_⟩
  · rw [if_pos a] at h; exact mL1 h
  · rw [if_neg a] at h; exact mL2 h
theorem mLE {P : Int32 → SQ → Prop} {q : SQ} (h : mL P 1 q) : wX6_follows_b500 P q := mL1 h
theorem mLW {P : Int32 → SQ → Prop} {q : SQ} (h : mL P 2 q) : wX6_follows_b333 P q := mL2 h
theorem mLZ {P : Int32 → SQ → Prop} {q : SQ} (h : mL P 1 q) : wX6_follows_b381 P 0 q := mLN (w := 0) h
theorem mLO {P : Int32 → SQ → Prop} {q : SQ} (h : mL P 2 q) : wX6_follows_b381 P 1 q := mLN (w := 1) h
def lf450 (n r w : Int32) : Int32 := if n = 205 then 1 else if n = 212 then 1 else if n = 213 then 1 else if n < 228 then 0 else if 232 ≤ n then 0 else 1
theorem mB450 {P : Int32 → SQ → Prop} {q : SQ} {w : Int32} (h : mL P (lf450 (q_code q) (q_r q) w) q) : wX6_follows_b450 P q := by
  unfold lf450 at h
  refine ⟨fun a0 => ?_, fun a0 => ⟨fun a1 => ?_, fun a1 => ⟨fun a2 => ?_, fun a2 => ⟨fun a3 => ?_, fun a3 => ⟨fun a4 => ?_, fun a4 => ?_⟩⟩⟩⟩⟩
  · rw [if_pos a0] at h; exact mLE h
  · rw [if_neg a0, if_pos a1] at h; exact mLE h
  · rw [if_neg a0, if_neg a1, if_pos a2] at h; exact mLE h
  · rw [if_neg a0, if_neg a1, if_neg a2, if_pos a3] at h; exact mL0 h
  · rw [if_neg a0, if_neg a1, if_neg a2, if_neg a3, if_pos a4] at h; exact mL0 h
  · rw [if_neg a0, if_neg a1, if_neg a2, if_neg a3, if_neg a4] at h; exact mLE h
def lf430 (n r w : Int32) : Int32 := if 2 ≤ r then (lf450 n r w) else (lfN w)
theorem mB430 {P : Int32 → SQ → Prop} {q : SQ} {w : Int32} (h : mL P (lf430 (q_code q) (q_r q) w) q) : wX6_follows_b430 P w q := by
  unfold lf430 at h
  refine ⟨fun a0 => ?_, fun a0 => ?_⟩
  · rw [if_pos a0] at h; exact mB450 h
  · rw [if_neg a0] at h; exact mLN h
def lf390 (n r w : Int32) : Int32 := if n = 198 then (lfN w) else if n = 199 then (lfN w) else if n = 246 then (lf430 n r w) else if n = 247 then (lf430 n r w) else (lf450 n r w)
theorem mB390 {P : Int32 → SQ → Prop} {q : SQ} {w : Int32} (h : mL P (lf390 (q_code q) (q_r q) w) q) : wX6_follows_b390 P w q := by
  unfold lf390 at h
  refine ⟨fun a0 => ?_, fun a0 => ⟨fun a1 => ?_, fun a1 => ⟨fun a2 => ?_, fun a2 => ⟨fun a3 => ?_, fun a3 => ?_⟩⟩⟩⟩
  · rw [if_pos a0] at h; exact mLN h
  · rw [if_neg a0, if_pos a1] at h; exact mLN h
  · rw [if_neg a0, if_neg a1, if_pos a2] at h; exact mB430 h
  · rw [if_neg a0, if_neg a1, if_neg a2, if_pos a3] at h; exact mB430 h
  · rw [if_neg a0, if_neg a1, if_neg a2, if_neg a3] at h; exact mB450 h
def lf273 (n r w : Int32) : Int32 := if n = 192 then 2 else if n = 194 then 2 else if n = 200 then 2 else if n = 202 then 2 else if n = 232 then 2 else if n = 233 then 2 else if n < 176 then (lf390 n r w) else if 192 ≤ n then (lf390 n r w) else if n < 184 then 1 else 2
theorem mB273 {P : Int32 → SQ → Prop} {q : SQ} {w : Int32} (h : mL P (lf273 (q_code q) (q_r q) w) q) : wX6_follows_b273 P w q := by
  unfold lf273 at h
  refine ⟨fun a0 => ?_, fun a0 => ⟨fun a1 => ?_, fun a1 => ⟨fun a2 => ?_, fun a2 => ⟨fun a3 => ?_, fun a3 => ⟨fun a4 => ?_, fun a4 => ⟨fun a5 => ?_, fun a5 => ⟨fun a6 => ?_, fun a6 => ⟨fun a7 => ?_, fun a7 => ⟨fun a8 => ?_, fun a8 => ?_⟩⟩⟩⟩⟩⟩⟩⟩⟩
  · rw [if_pos a0] at h; exact mLW h
  · rw [if_neg a0, if_pos a1] at h; exact mLW h
  · rw [if_neg a0, if_neg a1, if_pos a2] at h; exact mLW h
  · rw [if_neg a0, if_neg a1, if_neg a2, if_pos a3] at h; exact mLW h
  · rw [if_neg a0, if_neg a1, if_neg a2, if_neg a3, if_pos a4] at h; exact mLW h
  · rw [if_neg a0, if_neg a1, if_neg a2, if_neg a3, if_neg a4, if_pos a5] at h; exact mLW h
  · rw [if_neg a0, if_neg a1, if_neg a2, if_neg a3, if_neg a4, if_neg a5, if_pos a6] at h; exact mB390 h
  · rw [if_neg a0, if_neg a1, if_neg a2, if_neg a3, if_neg a4, if_neg a5, if_neg a6, if_pos a7] at h; exact mB390 h
  · rw [if_neg a0, if_neg a1, if_neg a2, if_neg a3, if_neg a4, if_neg a5, if_neg a6, if_neg a7, if_pos a8] at h; exact mLZ h
  · rw [if_neg a0, if_neg a1, if_neg a2, if_neg a3, if_neg a4, if_neg a5, if_neg a6, if_neg a7, if_neg a8] at h; exact mLO h
def lf214 (n r w : Int32) : Int32 := if n = 154 then 5 else if n = 234 then 5 else if n < 160 then (lf273 n r w) else if n < 164 then 2 else (lf273 n r w)
theorem mB214 {P : Int32 → SQ → Prop} {q : SQ} {w : Int32} (h : mL P (lf214 (q_code q) (q_r q) w) q) : wX6_follows_b214 P w q := by
  unfold lf214 at h
  refine ⟨fun a0 => ?_, fun a0 => ⟨fun a1 => ?_, fun a1 => ⟨fun a2 => ?_, fun a2 => ⟨fun a3 => ?_, fun a3 => ?_⟩⟩⟩⟩
  · rw [if_pos a0] at h; exact mL5 h
  · rw [if_neg a0, if_pos a1] at h; exact mL5 h
  · rw [if_neg a0, if_neg a1, if_pos a2] at h; exact mB273 h
  · rw [if_neg a0, if_neg a1, if_neg a2, if_pos a3] at h; exact mLW h
  · rw [if_neg a0, if_neg a1, if_neg a2, if_neg a3] at h; exact mB273 h
def lf119 (n r w : Int32) : Int32 := if n = 235 then 3 else if n < 128 then (lf214 n r w) else if 132 ≤ n then (lf214 n r w) else if n = 129 then 2 else if n = 131 then 4 else 1
theorem mB119 {P : Int32 → SQ → Prop} {q : SQ} {w : Int32} (h : mL P (lf119 (q_code q) (q_r q) w) q) : wX6_follows_b119 P w q := by
  unfold lf119 at h
  refine ⟨fun a0 => ?_, fun a0 => ⟨fun a1 => ?_, fun a1 => ⟨fun a2 => ?_, fun a2 => ⟨fun a3 => ?_, fun a3 => ⟨fun a4 => ?_, fun a4 => ?_⟩⟩⟩⟩⟩
  · rw [if_pos a0] at h; exact mL3 h
  · rw [if_neg a0, if_pos a1] at h; exact mB214 h
  · rw [if_neg a0, if_neg a1, if_pos a2] at h; exact mB214 h
  · rw [if_neg a0, if_neg a1, if_neg a2, if_pos a3] at h; exact mL2 h
  · rw [if_neg a0, if_neg a1, if_neg a2, if_neg a3, if_pos a4] at h; exact mL4 h
  · rw [if_neg a0, if_neg a1, if_neg a2, if_neg a3, if_neg a4] at h; exact mL1 h
def lf99 (n r w : Int32) : Int32 := if n < 224 then (lf119 n r w) else if n < 228 then 3 else (lf119 n r w)
theorem mB99 {P : Int32 → SQ → Prop} {q : SQ} {w : Int32} (h : mL P (lf99 (q_code q) (q_r q) w) q) : wX6_follows_b99 P w q := by
  unfold lf99 at h
  refine ⟨fun a0 => ?_, fun a0 => ⟨fun a1 => ?_, fun a1 => ?_⟩⟩
  · rw [if_pos a0] at h; exact mB119 h
  · rw [if_neg a0, if_pos a1] at h; exact mL3 h
  · rw [if_neg a0, if_neg a1] at h; exact mB119 h
def lf48 (n r w : Int32) : Int32 := if n = 168 then (lfN w) else if n = 169 then (lfN w) else if n < 96 then (lf99 n r w) else if n < 128 then 3 else (lf99 n r w)
theorem mB48 {P : Int32 → SQ → Prop} {q : SQ} {w : Int32} (h : mL P (lf48 (q_code q) (q_r q) w) q) : wX6_follows_b48 P w q := by
  unfold lf48 at h
  refine ⟨fun a0 => ?_, fun a0 => ⟨fun a1 => ?_, fun a1 => ⟨fun a2 => ?_, fun a2 => ⟨fun a3 => ?_, fun a3 => ?_⟩⟩⟩⟩
  · rw [if_pos a0] at h; exact mLN h
  · rw [if_neg a0, if_pos a1] at h; exact mLN h
  · rw [if_neg a0, if_neg a1, if_pos a2] at h; exact mB99 h
  · rw [if_neg a0, if_neg a1, if_neg a2, if_pos a3] at h; exact mL3 h
  · rw [if_neg a0, if_neg a1, if_neg a2, if_neg a3] at h; exact mB99 h
def lf11 (n r : Int32) : Int32 := if 64 ≤ n then lf48 n r (n &&& 1) else if n &&& 7 ≤ 3 then lf48 n r (n &&& 1) else if n &&& 7 < 6 then lfN (n &&& 1) else lf48 n r (n &&& 1)
theorem mB11 {P : Int32 → SQ → Prop} {q : SQ} (h0 : 0 ≤ (q_code q).toInt) (h : mL P (lf11 (q_code q) (q_r q)) q) : wX6_follows_b11 P q := by
  unfold lf11 at h
  refine iX6_isWide h0 ⟨fun a => mB48 ?_, fun a => ⟨fun b => mB48 ?_, fun b => ⟨fun c => mLN ?_, fun c => mB48 ?_⟩⟩⟩
  · rw [if_pos a] at h; exact h
  · rw [if_neg a, if_pos b] at h; exact h
  · rw [if_neg a, if_neg b, if_pos c] at h; exact h
  · rw [if_neg a, if_neg b, if_neg c] at h; exact h
