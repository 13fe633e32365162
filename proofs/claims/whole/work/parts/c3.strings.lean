/-! ===== the start: the strings are told apart ===== -/
theorem st_df : ∀ i, i < 31 → ∀ j, j < 31 → i ≠ j → slen.getD i 0 ≠ slen.getD j 0 ∨ ∃ k, k < slen.getD i 0 ∧ k < slen.getD j 0 ∧ (sbyt.getD i []).getD k 0 ≠ (sbyt.getD j []).getD k 0 := by
  have h : ∀ i, i < 31 → ∀ j, j < 31 → i = j ∨ slen.getD i 0 ≠ slen.getD j 0 ∨ (List.range (min (slen.getD i 0) (slen.getD j 0))).any (fun k => (sbyt.getD i []).getD k 0 != (sbyt.getD j []).getD k 0) = true := by decide +kernel
  intro i hi j hj hij
  rcases h i hi j hj with h | h | h
  · exact absurd h hij
  · exact Or.inl h
  · obtain ⟨k, hk, he⟩ := List.any_eq_true.mp h
    rw [List.mem_range] at hk
    exact Or.inr ⟨k, by omega, by omega, by simpa using he⟩
theorem st_sm : ∀ i, i < 31 → slen.getD i 0 < 2 ^ 31 := by decide +kernel
theorem st_ne {s : State} {args : Array Value} (hs : ∀ c ∈ flatC gvn, c.before args s = true) : ∀ i j : Nat, i < 31 → j < 31 → i ≠ j → (Cond.not (Cond.eq (tmS i) (tmS j))).before args s = true ∨ (Cond.not (Cond.eq (tmS j) (tmS i))).before args s = true := by
  intro i j hi hj hij
  left
  obtain ⟨a, _, _, _, ha, -⟩ := Cond.exactly_spec (args := args) (first := s) (o := none) (s := s) (idx := []) (t := tmS i) (cls := "java/lang/String") (hs _ (st_ex i hi))
  obtain ⟨b, _, _, _, hb, -⟩ := Cond.exactly_spec (args := args) (first := s) (o := none) (s := s) (idx := []) (t := tmS j) (cls := "java/lang/String") (hs _ (st_ex j hj))
  have hab : a ≠ b := by
    intro e
    subst e
    have ef : (tmV i).eval args s none [] s = (tmV j).eval args s none [] s := by simp [Term.eval, ha, hb]
    rcases st_df i hi j hj hij with h | ⟨k, h1, h2, h3⟩
    · have e1 := va_eqt (hs _ (st_le i hi))
      have e2 := va_eqt (hs _ (st_le j hj))
      have e3 : (Term.length (tmV i)).eval args s none [] s = (Term.length (tmV j)).eval args s none [] s := by simp only [Term.eval] at ef ⊢; rw [ef]
      rw [e1, e2] at e3
      injection e3 with e3
      injection e3 with e3
      exact h (nI_eqI (show nI _ = nI _ from e3) (st_sm i hi) (st_sm j hj))
    · have e1 := va_eqt (hs _ (st_el i hi k h1))
      have e2 := va_eqt (hs _ (st_el j hj k h2))
      have e3 : (Term.elem (tmV i) (.int (Int32.ofNat k))).eval args s none [] s = (Term.elem (tmV j) (.int (Int32.ofNat k))).eval args s none [] s := by simp only [Term.eval] at ef ⊢; rw [ef]
      rw [e1, e2] at e3
      injection e3 with e3
      injection e3 with e3
      exact h3 e3
  exact Cond.holds_not_iff.mpr (by simp [Cond.value, ha, hb, hab])
