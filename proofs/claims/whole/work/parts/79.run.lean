-- ----- run
theorem mGo {n : Nat} {q : SQ} {a x y : Int32} {P : Int32 → SQ → Prop} (hy : ¬ y = 0) (ht : q_thrown q = 0) (h : P y q) : wX6_run_b24 a P (n + 1) y x q := by
  rw [wX6_run_b24]
  exact ⟨fun _ => h, fun _ => tk ht (sk hy h)⟩
theorem jRun (m : Nat) : ∀ (q : SQ) (k : SC) (a x : Int32), InvS q → q_thrown q = 0 → a.toInt - x.toInt ≤ m → 0 ≤ x.toInt → a.toInt ≤ 500 → x.toInt ≤ 500 → ∃ y q1 k1, InvS q1 ∧ q_thrown q1 = 0 ∧ (∀ P : Int32 → SQ → Prop, P y q1 → ∃ n, wX6_run_b24 a P n 0 x q) ∧ (∀ (P : Int32 → SX → Prop) (Px : SX → Prop), (∀ cd, P y (xO q1 cd k1)) → ∃ n, ∀ cd, wX5_run_b23 a P Px n x (xO q cd k)) := by
  have e1 : (1 : Int32).toInt = 1 := rfl
  induction m with
  | zero =>
    intro q k a x hI ht hm h0 ha hx
    have hax : a ≤ x := ti_le.mpr (by omega)
    refine ⟨0, q, k, hI, ht, fun P h => ⟨1, ?_⟩, fun P Px h => ⟨1, fun cd => ?_⟩⟩
    · rw [wX6_run_b24]; exact tk hax h
    · rw [wX5_run_b23]; exact tk hax (h cd)
  | succ m ih =>
    intro q k a x hI ht hm h0 ha hx
    by_cases hax : a ≤ x
    · refine ⟨0, q, k, hI, ht, fun P h => ⟨1, ?_⟩, fun P Px h => ⟨1, fun cd => ?_⟩⟩
      · rw [wX6_run_b24]; exact tk hax h
      · rw [wX5_run_b23]; exact tk hax (h cd)
    · have hlt : x.toInt < a.toInt := by
        have h3 : ¬ a.toInt ≤ x.toInt := fun z => hax (ti_le.mpr z)
        omega
      have ex : (x + 1).toInt = x.toInt + 1 := by rw [ti_add (by omega) (by omega), e1]
      obtain ⟨y, q1, k1, i1, t1, y3, s1, s2⟩ := jStep k hI
      rw [ht] at t1
      by_cases hy : y = 0
      · subst hy
        obtain ⟨y, q2, k2, i2, t2, r1, r2⟩ := ih q1 k1 a (x + 1) i1 t1 (by omega) (by omega) ha (by omega)
        refine ⟨y, q2, k2, i2, t2, fun P h => ?_, fun P Px h => ?_⟩
        · obtain ⟨n, hn⟩ := r1 P h
          refine ⟨n + 1, ?_⟩
          rw [wX6_run_b24]
          exact sk hax (tk ht (tk rfl (s1 _ hn)))
        · obtain ⟨n, hn⟩ := r2 P Px h
          refine ⟨n + 1, fun cd => ?_⟩
          rw [wX5_run_b23]
          exact sk hax (s2 P (fun u => wX5_run_b23 a P Px n (x + 1) u) cd (fun _ => hn) (fun z => absurd rfl z))
      · refine ⟨y, q1, k1, i1, t1, fun P h => ⟨2, ?_⟩, fun P Px h => ⟨1, fun cd => ?_⟩⟩
        · rw [wX6_run_b24]
          exact sk hax (tk ht (tk rfl (s1 _ (mGo hy t1 h))))
        · rw [wX5_run_b23]
          exact sk hax (s2 P (fun u => wX5_run_b23 a P Px 0 (x + 1) u) cd (fun z => absurd z hy) (fun _ => h))
