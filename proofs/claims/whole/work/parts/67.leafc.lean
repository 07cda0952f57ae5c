-- ----- what follows a code: the class's chain, by its leaves
def cL (P : SF → Prop) (l : Int32) (u : SF) : Prop :=
  if l = 0 then P u
  else if l = 1 then wX1_fetchRest_b45 P u
  else if l = 2 then wX1_fetchRest_b82 P u
  else wX1_fetchWord u (fun r22 u21 => (wX1_fetchWord (fs_code u21 (cs_first (f_code u21) r22)) (fun r24 u23 => (P (fs_code u23 (cs_second (f_code u23) r24))))))
theorem cL0 {P : SF → Prop} {u : SF} (h : cL P 0 u) : P u := by unfold cL at h; rw [if_pos rfl] at h; exact h
theorem cL1 {P : SF → Prop} {u : SF} (h : cL P 1 u) : wX1_fetchRest_b45 P u := by unfold cL at h; rw [if_neg (by decide), if_pos rfl] at h; exact h
theorem cL2 {P : SF → Prop} {u : SF} (h : cL P 2 u) : wX1_fetchRest_b82 P u := by unfold cL at h; rw [if_neg (by decide), if_neg (by decide), if_pos rfl] at h; exact h
theorem cL5 {P : SF → Prop} {u : SF} (h : cL P 5 u) : wX1_fetchWord u (fun r22 u21 => (wX1_fetchWord (fs_code u21 (cs_first (f_code u21) r22)) (fun r24 u23 => (P (fs_code u23 (cs_second (f_code u23) r24)))))) := by unfold cL at h; rw [if_neg (by decide), if_neg (by decide), if_neg (by decide)] at h; exact h
def lc95 (f : Int32) : Int32 := if f = 6 then 5 else 0
def lc58 (f r : Int32) : Int32 := if f = 2 then 2 else if f = 5 then 2 else if f = 8 then (if 2 ≤ r then lc95 f else 2) else lc95 f
def lc21 (f r : Int32) : Int32 := if f = 1 then 1 else if f = 4 then 1 else if f = 7 then (if 2 ≤ r then lc58 f r else 1) else lc58 f r
theorem cB95 {P : SF → Prop} {f : Int32} {u : SF} (h : cL P (lc95 f) u) : wX1_fetchRest_b95 P f u := by
  unfold lc95 at h
  refine ⟨fun a => ?_, fun a => ?_⟩
  · rw [if_pos a] at h; exact cL5 h
  · rw [if_neg a] at h; exact cL0 h
theorem cB58 {P : SF → Prop} {f : Int32} {u : SF} (h : cL P (lc58 f (c_r (f_code u))) u) : wX1_fetchRest_b58 P f u := by
  unfold lc58 at h
  refine ⟨fun a => ?_, fun a => ⟨fun b => ?_, fun b => ⟨fun c => ⟨fun d => cB95 ?_, fun d => ?_⟩, fun c => cB95 ?_⟩⟩⟩
  · rw [if_pos a] at h; exact cL2 h
  · rw [if_neg a, if_pos b] at h; exact cL2 h
  · rw [if_neg a, if_neg b, if_pos c, if_pos d] at h; exact h
  · rw [if_neg a, if_neg b, if_pos c, if_neg d] at h; exact cL2 h
  · rw [if_neg a, if_neg b, if_neg c] at h; exact h
theorem cB21 {P : SF → Prop} {f : Int32} {u : SF} (h : cL P (lc21 f (c_r (f_code u))) u) : wX1_fetchRest_b21 P f u := by
  unfold lc21 at h
  refine ⟨fun a => ?_, fun a => ⟨fun b => ?_, fun b => ⟨fun c => ⟨fun d => cB58 ?_, fun d => ?_⟩, fun c => cB58 ?_⟩⟩⟩
  · rw [if_pos a] at h; exact cL1 h
  · rw [if_neg a, if_pos b] at h; exact cL1 h
  · rw [if_neg a, if_neg b, if_pos c, if_pos d] at h; exact h
  · rw [if_neg a, if_neg b, if_pos c, if_neg d] at h; exact cL1 h
  · rw [if_neg a, if_neg b, if_neg c] at h; exact h
def lcm (l : Int32) : Int32 := if l = 3 then 1 else if l = 4 then 1 else l
