-- ----- kinds of codes and leaves
theorem kd_S : ∀ j : Fin 256, iShort (nI j.val) → lf11 (nI j.val) 0 = 3 := by
  unfold iShort
  decide +kernel
theorem kd_131 : lf11 131 0 = 4 := by decide +kernel
theorem kd_B : ∀ j : Fin 256, ∀ i : Fin 8, iByte (nI j.val) (nI i.val) → lf11 (nI j.val) (nI i.val) = 1 := by
  unfold iByte
  decide +kernel
theorem kd_W : ∀ j : Fin 256, ∀ i : Fin 8, iWord (nI j.val) (nI i.val) → lf11 (nI j.val) (nI i.val) = 2 := by
  unfold iWord
  decide +kernel
theorem kd_T : ∀ j : Fin 256, iTwo (nI j.val) → lf11 (nI j.val) 0 = 5 := by
  unfold iTwo
  decide +kernel
theorem kd_M : ∀ j : Fin 256, hasMp (nI j.val) → hmM (nI j.val) = 1 := by
  unfold hasMp
  decide +kernel
theorem kd_P : ∀ j : Fin 256, formsF j.val = 9 ∨ noPre (nI j.val) := by
  unfold noPre
  decide +kernel
