theorem wf_addB {L : LV} {x o : Int32} (h : WFL 4 L) (hb : decide (lbc L < 4) = true) (hx : (prB x && rgOk o x) = true) : WFL 4 (addL L (ixx x) (ixx o)) := by
  simp only [Bool.and_eq_true] at hx
  obtain ⟨j, hj, rfl⟩ := prB_t.mp hx.1
  have hn : isP (NUMf j) ∧ NUMf j < 2 ^ 31 := by
    rcases (show j = 0 ∨ j = 1 ∨ j = 2 ∨ j = 3 ∨ j = 4 ∨ j = 5 by omega) with rfl | rfl | rfl | rfl | rfl | rfl <;> (unfold isP; decide)
  obtain ⟨y, hy, rfl⟩ := rgOk_j hn.2 hx.2
  have hy2 : y < 2 ^ 31 := Nat.lt_trans hy hn.2
  rw [ixx_nI hn.2, ixx_nI hy2]
  exact wfl_add h (of_decide_eq_true hb) hn.1 hy
theorem wf_moveB {L : LV} {i : Nat} {o : Int32} (h : WFL 4 L) (hn : lnu L i < 2 ^ 31) (ho : rgOk o (nI (lnu L i)) = true) : WFL 4 (setOf L i (ixx o)) := by
  obtain ⟨y, hy, rfl⟩ := rgOk_j hn ho
  have hy2 : y < 2 ^ 31 := Nat.lt_trans hy hn
  rw [ixx_nI hy2]
  exact wfl_of h hy
