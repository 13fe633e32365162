/-! ===== the start: what the old cells hold ===== -/
abbrev gvn : Jvm.Cond := Jvm.Cond.and given_1 narrow_1
def tmS (i : Nat) : Term := .string (sow i) (six i)
abbrev tmV (i : Nat) : Term := .field (tmS i) "java/lang/String" "value" "[B"
theorem st_ex : ∀ i, i < 31 → Cond.exactly (tmS i) "java/lang/String" ∈ flatC gvn := by decide +kernel
theorem st_co : ∀ i, i < 31 → Cond.eq (.field (tmS i) "java/lang/String" "coder" "B") (.int 0) ∈ flatC gvn := by decide +kernel
theorem st_ar : ∀ i, i < 31 → Cond.arrayOf (tmV i) .byte ∈ flatC gvn := by decide +kernel
theorem st_le : ∀ i, i < 31 → Cond.eq (.length (tmV i)) (.int (Int32.ofNat (slen.getD i 0))) ∈ flatC gvn := by decide +kernel
theorem st_el0 : ∀ j, j < 30 → (flatC gvn)[37 + j]? = some (Cond.eq (.elem (tmV 0) (.int (Int32.ofNat j))) (.int ((sbyt.getD 0 []).getD j 0))) := by decide +kernel
theorem st_el1 : ∀ j, j < 13 → (flatC gvn)[214 + j]? = some (Cond.eq (.elem (tmV 1) (.int (Int32.ofNat j))) (.int ((sbyt.getD 1 []).getD j 0))) := by decide +kernel
theorem st_el2 : ∀ j, j < 23 → (flatC gvn)[248 + j]? = some (Cond.eq (.elem (tmV 2) (.int (Int32.ofNat j))) (.int ((sbyt.getD 2 []).getD j 0))) := by decide +kernel
theorem st_el3 : ∀ j, j < 23 → (flatC gvn)[292 + j]? = some (Cond.eq (.elem (tmV 3) (.int (Int32.ofNat j))) (.int ((sbyt.getD 3 []).getD j 0))) := by decide +kernel
theorem st_el4 : ∀ j, j < 22 → (flatC gvn)[335 + j]? = some (Cond.eq (.elem (tmV 4) (.int (Int32.ofNat j))) (.int ((sbyt.getD 4 []).getD j 0))) := by decide +kernel
theorem st_el5 : ∀ j, j < 22 → (flatC gvn)[377 + j]? = some (Cond.eq (.elem (tmV 5) (.int (Int32.ofNat j))) (.int ((sbyt.getD 5 []).getD j 0))) := by decide +kernel
theorem st_el6 : ∀ j, j < 14 → (flatC gvn)[460 + j]? = some (Cond.eq (.elem (tmV 6) (.int (Int32.ofNat j))) (.int ((sbyt.getD 6 []).getD j 0))) := by decide +kernel
theorem st_el7 : ∀ j, j < 22 → (flatC gvn)[434 + j]? = some (Cond.eq (.elem (tmV 7) (.int (Int32.ofNat j))) (.int ((sbyt.getD 7 []).getD j 0))) := by decide +kernel
theorem st_el8 : ∀ j, j < 13 → (flatC gvn)[231 + j]? = some (Cond.eq (.elem (tmV 8) (.int (Int32.ofNat j))) (.int ((sbyt.getD 8 []).getD j 0))) := by decide +kernel
theorem st_el9 : ∀ j, j < 13 → (flatC gvn)[275 + j]? = some (Cond.eq (.elem (tmV 9) (.int (Int32.ofNat j))) (.int ((sbyt.getD 9 []).getD j 0))) := by decide +kernel
theorem st_el10 : ∀ j, j < 12 → (flatC gvn)[319 + j]? = some (Cond.eq (.elem (tmV 10) (.int (Int32.ofNat j))) (.int ((sbyt.getD 10 []).getD j 0))) := by decide +kernel
theorem st_el11 : ∀ j, j < 12 → (flatC gvn)[361 + j]? = some (Cond.eq (.elem (tmV 11) (.int (Int32.ofNat j))) (.int ((sbyt.getD 11 []).getD j 0))) := by decide +kernel
theorem st_el12 : ∀ j, j < 12 → (flatC gvn)[403 + j]? = some (Cond.eq (.elem (tmV 12) (.int (Int32.ofNat j))) (.int ((sbyt.getD 12 []).getD j 0))) := by decide +kernel
theorem st_el13 : ∀ j, j < 11 → (flatC gvn)[419 + j]? = some (Cond.eq (.elem (tmV 13) (.int (Int32.ofNat j))) (.int ((sbyt.getD 13 []).getD j 0))) := by decide +kernel
theorem st_el14 : ∀ j, j < 5 → (flatC gvn)[71 + j]? = some (Cond.eq (.elem (tmV 14) (.int (Int32.ofNat j))) (.int ((sbyt.getD 14 []).getD j 0))) := by decide +kernel
theorem st_el15 : ∀ j, j < 5 → (flatC gvn)[80 + j]? = some (Cond.eq (.elem (tmV 15) (.int (Int32.ofNat j))) (.int ((sbyt.getD 15 []).getD j 0))) := by decide +kernel
theorem st_el16 : ∀ j, j < 4 → (flatC gvn)[89 + j]? = some (Cond.eq (.elem (tmV 16) (.int (Int32.ofNat j))) (.int ((sbyt.getD 16 []).getD j 0))) := by decide +kernel
theorem st_el17 : ∀ j, j < 5 → (flatC gvn)[97 + j]? = some (Cond.eq (.elem (tmV 17) (.int (Int32.ofNat j))) (.int ((sbyt.getD 17 []).getD j 0))) := by decide +kernel
theorem st_el18 : ∀ j, j < 4 → (flatC gvn)[106 + j]? = some (Cond.eq (.elem (tmV 18) (.int (Int32.ofNat j))) (.int ((sbyt.getD 18 []).getD j 0))) := by decide +kernel
theorem st_el19 : ∀ j, j < 6 → (flatC gvn)[204 + j]? = some (Cond.eq (.elem (tmV 19) (.int (Int32.ofNat j))) (.int ((sbyt.getD 19 []).getD j 0))) := by decide +kernel
theorem st_el20 : ∀ j, j < 3 → (flatC gvn)[184 + j]? = some (Cond.eq (.elem (tmV 20) (.int (Int32.ofNat j))) (.int ((sbyt.getD 20 []).getD j 0))) := by decide +kernel
theorem st_el21 : ∀ j, j < 2 → (flatC gvn)[191 + j]? = some (Cond.eq (.elem (tmV 21) (.int (Int32.ofNat j))) (.int ((sbyt.getD 21 []).getD j 0))) := by decide +kernel
theorem st_el22 : ∀ j, j < 3 → (flatC gvn)[197 + j]? = some (Cond.eq (.elem (tmV 22) (.int (Int32.ofNat j))) (.int ((sbyt.getD 22 []).getD j 0))) := by decide +kernel
theorem st_el23 : ∀ j, j < 4 → (flatC gvn)[114 + j]? = some (Cond.eq (.elem (tmV 23) (.int (Int32.ofNat j))) (.int ((sbyt.getD 23 []).getD j 0))) := by decide +kernel
theorem st_el24 : ∀ j, j < 3 → (flatC gvn)[122 + j]? = some (Cond.eq (.elem (tmV 24) (.int (Int32.ofNat j))) (.int ((sbyt.getD 24 []).getD j 0))) := by decide +kernel
theorem st_el25 : ∀ j, j < 6 → (flatC gvn)[129 + j]? = some (Cond.eq (.elem (tmV 25) (.int (Int32.ofNat j))) (.int ((sbyt.getD 25 []).getD j 0))) := by decide +kernel
theorem st_el26 : ∀ j, j < 6 → (flatC gvn)[139 + j]? = some (Cond.eq (.elem (tmV 26) (.int (Int32.ofNat j))) (.int ((sbyt.getD 26 []).getD j 0))) := by decide +kernel
theorem st_el27 : ∀ j, j < 5 → (flatC gvn)[149 + j]? = some (Cond.eq (.elem (tmV 27) (.int (Int32.ofNat j))) (.int ((sbyt.getD 27 []).getD j 0))) := by decide +kernel
theorem st_el28 : ∀ j, j < 4 → (flatC gvn)[158 + j]? = some (Cond.eq (.elem (tmV 28) (.int (Int32.ofNat j))) (.int ((sbyt.getD 28 []).getD j 0))) := by decide +kernel
theorem st_el29 : ∀ j, j < 5 → (flatC gvn)[166 + j]? = some (Cond.eq (.elem (tmV 29) (.int (Int32.ofNat j))) (.int ((sbyt.getD 29 []).getD j 0))) := by decide +kernel
theorem st_el30 : ∀ j, j < 5 → (flatC gvn)[175 + j]? = some (Cond.eq (.elem (tmV 30) (.int (Int32.ofNat j))) (.int ((sbyt.getD 30 []).getD j 0))) := by decide +kernel
theorem st_el : ∀ i, i < 31 → ∀ j, j < slen.getD i 0 → Cond.eq (.elem (tmV i) (.int (Int32.ofNat j))) (.int ((sbyt.getD i []).getD j 0)) ∈ flatC gvn := by
  intro i hi j hj
  rcases (show i = 0 ∨ i = 1 ∨ i = 2 ∨ i = 3 ∨ i = 4 ∨ i = 5 ∨ i = 6 ∨ i = 7 ∨ i = 8 ∨ i = 9 ∨ i = 10 ∨ i = 11 ∨ i = 12 ∨ i = 13 ∨ i = 14 ∨ i = 15 ∨ i = 16 ∨ i = 17 ∨ i = 18 ∨ i = 19 ∨ i = 20 ∨ i = 21 ∨ i = 22 ∨ i = 23 ∨ i = 24 ∨ i = 25 ∨ i = 26 ∨ i = 27 ∨ i = 28 ∨ i = 29 ∨ i = 30 by omega) with rfl | rfl | rfl | rfl | rfl | rfl | rfl | rfl | rfl | rfl | rfl | rfl | rfl | rfl | rfl | rfl | rfl | rfl | rfl | rfl | rfl | rfl | rfl | rfl | rfl | rfl | rfl | rfl | rfl | rfl | rfl
  · exact List.mem_of_getElem? (st_el0 j (Nat.lt_of_lt_of_eq hj (by decide +kernel)))
  · exact List.mem_of_getElem? (st_el1 j (Nat.lt_of_lt_of_eq hj (by decide +kernel)))
  · exact List.mem_of_getElem? (st_el2 j (Nat.lt_of_lt_of_eq hj (by decide +kernel)))
  · exact List.mem_of_getElem? (st_el3 j (Nat.lt_of_lt_of_eq hj (by decide +kernel)))
  · exact List.mem_of_getElem? (st_el4 j (Nat.lt_of_lt_of_eq hj (by decide +kernel)))
  · exact List.mem_of_getElem? (st_el5 j (Nat.lt_of_lt_of_eq hj (by decide +kernel)))
  · exact List.mem_of_getElem? (st_el6 j (Nat.lt_of_lt_of_eq hj (by decide +kernel)))
  · exact List.mem_of_getElem? (st_el7 j (Nat.lt_of_lt_of_eq hj (by decide +kernel)))
  · exact List.mem_of_getElem? (st_el8 j (Nat.lt_of_lt_of_eq hj (by decide +kernel)))
  · exact List.mem_of_getElem? (st_el9 j (Nat.lt_of_lt_of_eq hj (by decide +kernel)))
  · exact List.mem_of_getElem? (st_el10 j (Nat.lt_of_lt_of_eq hj (by decide +kernel)))
  · exact List.mem_of_getElem? (st_el11 j (Nat.lt_of_lt_of_eq hj (by decide +kernel)))
  · exact List.mem_of_getElem? (st_el12 j (Nat.lt_of_lt_of_eq hj (by decide +kernel)))
  · exact List.mem_of_getElem? (st_el13 j (Nat.lt_of_lt_of_eq hj (by decide +kernel)))
  · exact List.mem_of_getElem? (st_el14 j (Nat.lt_of_lt_of_eq hj (by decide +kernel)))
  · exact List.mem_of_getElem? (st_el15 j (Nat.lt_of_lt_of_eq hj (by decide +kernel)))
  · exact List.mem_of_getElem? (st_el16 j (Nat.lt_of_lt_of_eq hj (by decide +kernel)))
  · exact List.mem_of_getElem? (st_el17 j (Nat.lt_of_lt_of_eq hj (by decide +kernel)))
  · exact List.mem_of_getElem? (st_el18 j (Nat.lt_of_lt_of_eq hj (by decide +kernel)))
  · exact List.mem_of_getElem? (st_el19 j (Nat.lt_of_lt_of_eq hj (by decide +kernel)))
  · exact List.mem_of_getElem? (st_el20 j (Nat.lt_of_lt_of_eq hj (by decide +kernel)))
  · exact List.mem_of_getElem? (st_el21 j (Nat.lt_of_lt_of_eq hj (by decide +kernel)))
  · exact List.mem_of_getElem? (st_el22 j (Nat.lt_of_lt_of_eq hj (by decide +kernel)))
  · exact List.mem_of_getElem? (st_el23 j (Nat.lt_of_lt_of_eq hj (by decide +kernel)))
  · exact List.mem_of_getElem? (st_el24 j (Nat.lt_of_lt_of_eq hj (by decide +kernel)))
  · exact List.mem_of_getElem? (st_el25 j (Nat.lt_of_lt_of_eq hj (by decide +kernel)))
  · exact List.mem_of_getElem? (st_el26 j (Nat.lt_of_lt_of_eq hj (by decide +kernel)))
  · exact List.mem_of_getElem? (st_el27 j (Nat.lt_of_lt_of_eq hj (by decide +kernel)))
  · exact List.mem_of_getElem? (st_el28 j (Nat.lt_of_lt_of_eq hj (by decide +kernel)))
  · exact List.mem_of_getElem? (st_el29 j (Nat.lt_of_lt_of_eq hj (by decide +kernel)))
  · exact List.mem_of_getElem? (st_el30 j (Nat.lt_of_lt_of_eq hj (by decide +kernel)))
