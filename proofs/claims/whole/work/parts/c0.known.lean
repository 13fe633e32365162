/-! ===== the start: classes and their slots ===== -/
theorem kn_in : ∀ c, c < 10 → Cond.instantiable (RR c) (nf c) ∈ TB := by
  intro c hc
  rcases (show c = 0 ∨ c = 1 ∨ c = 2 ∨ c = 3 ∨ c = 4 ∨ c = 5 ∨ c = 6 ∨ c = 7 ∨ c = 8 ∨ c = 9 by omega) with rfl | rfl | rfl | rfl | rfl | rfl | rfl | rfl | rfl | rfl
  · exact nl_X8_51.2.2.1
  · exact nl_X8_85.2.2.1
  · exact nl_X8_78.2.2.1
  · exact nl_X8_58.2.2.1
  · exact nl_X8_20.2.2.1
  · exact nl_X8_30.2.2.1
  · exact nl_X4_50.2.2.1
  · exact nl_X8_39.2.2.1
  · exact nl_L_8.2.2.1
  · exact nl_L_124.2.2.1
theorem kn_all {s : State} {args : Array Value} (hts : ∀ w ∈ TB, w.before args s = true) : ∃ D : va_G, ∀ (c : Nat) (q : vw_C), vwCl[c]? = some q → u_Kn s q.1 q.2.1 q.2.2 (D.1 c) (D.2 c) := by
  have h : ∀ c, ∃ q : ClassId × (Nat → Nat), c < 10 → u_Kn s (RR c) (TT c) (nf c) q.1 q.2 := fun c => by
    by_cases hc : c < 10
    · obtain ⟨cC, iS, hk⟩ := u_known hts (ws_ok c hc) (hts _ (kn_in c hc))
      exact ⟨(cC, iS), fun _ => hk⟩
    · exact ⟨(0, fun _ => 0), fun h => absurd h hc⟩
  refine ⟨(fun c => (h c).choose.1, fun c => (h c).choose.2), fun c q hq => ?_⟩
  have hc : c < 10 := (List.getElem?_eq_some_iff.mp hq).1
  rw [vwCl_at c hc] at hq
  injection hq with hq
  rw [← hq]
  exact (h c).choose_spec hc
theorem kn_arr {s : State} {args : Array Value} {ty : FieldType} (h : (Cond.arrayClass ty).before args s = true) : ∃ cA, ArrOfT s cA ty ∧ s.vm.findClass ("[" ++ ty.toString) = some cA := by
  obtain ⟨c, k, comp, h1, h2, h3⟩ := Cond.arrayClass_spec h
  exact ⟨c, fun n z => ⟨fun k h => (by cases h), k, h2, comp, h3⟩, h1⟩
theorem kn_K {s : State} {args : Array Value} (hts : ∀ w ∈ TB, w.before args s = true) : ∃ (D : va_G) (cy : Nat → ClassId), va_K D vwCl (gtys cy) s := by
  obtain ⟨D, hD⟩ := kn_all hts
  obtain ⟨a, a1, a2⟩ := kn_arr (hts _ ac_16)
  obtain ⟨b, b1, b2⟩ := kn_arr (hts _ ac_17)
  obtain ⟨c, c1, c2⟩ := kn_arr (hts _ ac_18)
  obtain ⟨d, d1, d2⟩ := kn_arr (hts _ ac_19)
  refine ⟨D, fun k => if k = 16 then a else if k = 17 then b else if k = 18 then c else d, hD, fun k q hq => ?_⟩
  have hk : k < 4 := (List.getElem?_eq_some_iff.mp hq).1
  rcases (show k = 0 ∨ k = 1 ∨ k = 2 ∨ k = 3 by omega) with rfl | rfl | rfl | rfl
  · cases hq; exact ⟨a1, a2⟩
  · cases hq; exact ⟨b1, b2⟩
  · cases hq; exact ⟨c1, c2⟩
  · cases hq; exact ⟨d1, d2⟩
