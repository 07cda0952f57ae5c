-- ===== the law's loop =====
def WL (cB cI cJ : ClassId) (q0 q1 q2 q3 q4 q5 q6 q7 q8 q9 q10 h0 h1 h2 h3 h4 h5 ho : Nat) (u : SX × SQ × AJ) : va_W := WX cB cI q0 q1 q2 q3 q4 q5 q6 q7 q8 q9 q10 u.1 ++ WQ cI h0 h1 h2 h3 h4 h5 u.2.1 ++ [(ho, .inl (cJ, 1, .inr (.inl u.2.2)))]
section LWF
variable {cB cI cJ : ClassId} {q0 q1 q2 q3 q4 q5 q6 q7 q8 q9 q10 h0 h1 h2 h3 h4 h5 ho : Nat}
theorem fr_L_X (u : SX × SQ × AJ) : Fr (WL cB cI cJ q0 q1 q2 q3 q4 q5 q6 q7 q8 q9 q10 h0 h1 h2 h3 h4 h5 ho u) (WX cB cI q0 q1 q2 q3 q4 q5 q6 q7 q8 q9 q10 u.1) (fun v => WX cB cI q0 q1 q2 q3 q4 q5 q6 q7 q8 q9 q10 v) (fun v => WL cB cI cJ q0 q1 q2 q3 q4 q5 q6 q7 q8 q9 q10 h0 h1 h2 h3 h4 h5 ho (v, u.2.1, u.2.2)) := Fr_mk [0, 1, 2, 3, 4, 5, 6, 7, 8, 9, 10] [11, 12, 13, 14, 15, 16, 17] [7, 8, 9, 10, 11, 12, 13, 14, 15, 16, 17, 0, 1, 2, 3, 4, 5, 6] rfl rfl rfl rfl rfl (by decide) (fun _ => rfl) (fun _ => rfl) (fun _ => rfl)
theorem fr_L_Q (u : SX × SQ × AJ) : Fr (WL cB cI cJ q0 q1 q2 q3 q4 q5 q6 q7 q8 q9 q10 h0 h1 h2 h3 h4 h5 ho u) (WQ cI h0 h1 h2 h3 h4 h5 u.2.1) (fun v => WQ cI h0 h1 h2 h3 h4 h5 v) (fun v => WL cB cI cJ q0 q1 q2 q3 q4 q5 q6 q7 q8 q9 q10 h0 h1 h2 h3 h4 h5 ho (u.1, v, u.2.2)) := Fr_mk [11, 12, 13, 14, 15, 16] [0, 1, 2, 3, 4, 5, 6, 7, 8, 9, 10, 17] [0, 1, 2, 3, 4, 5, 6, 7, 8, 9, 10, 12, 13, 14, 15, 16, 17, 11] rfl rfl rfl rfl rfl (by decide) (fun _ => rfl) (fun _ => rfl) (fun _ => rfl)
theorem fr_L_Y (u : SX × SQ × AJ) : Fr (WL cB cI cJ q0 q1 q2 q3 q4 q5 q6 q7 q8 q9 q10 h0 h1 h2 h3 h4 h5 ho u) (WY cB cI cJ q0 q1 q2 q3 q4 q5 q6 q7 q8 q9 q10 ho (u.1, u.2.2)) (fun v => WY cB cI cJ q0 q1 q2 q3 q4 q5 q6 q7 q8 q9 q10 ho v) (fun v => WL cB cI cJ q0 q1 q2 q3 q4 q5 q6 q7 q8 q9 q10 h0 h1 h2 h3 h4 h5 ho (v.1, u.2.1, v.2)) := Fr_mk [0, 1, 2, 3, 4, 5, 6, 7, 8, 9, 10, 17] [11, 12, 13, 14, 15, 16] [6, 7, 8, 9, 10, 11, 12, 13, 14, 15, 16, 0, 1, 2, 3, 4, 5, 17] rfl rfl rfl rfl rfl (by decide) (fun _ => rfl) (fun _ => rfl) (fun _ => rfl)
end LWF
theorem upd_0 (f : AJ) (x : Int64) : vp_updL f 0 x 0 = x := if_pos rfl
theorem cmp_self (x : Int64) : lg_cmp x x = 0 := by
  unfold lg_cmp
  rw [if_neg (show ¬ x > x from Int64.lt_irrefl), if_pos rfl]
theorem roC {a : Nat} (h : a ≤ 1000) : a ≤ room_1.cells := Nat.le_trans h (Nat.le_of_ble_eq_true rfl)
theorem roS {a : Nat} (h : a ≤ 300000) : a ≤ room_1.slots := Nat.le_trans h (Nat.le_of_ble_eq_true rfl)

