/-! ===== the tape becomes an office ===== -/
theorem addS_all {p : Int32 → Prop} {ps : List Int32} {x : Int32} (h : ∀ t ∈ ps, p t) (hx : p x) : ∀ t ∈ addS ps x, p t := by
  unfold addS
  split
  · intro t ht
    rcases List.mem_append.mp ht with q | q
    · exact h t q
    · rw [List.mem_singleton.mp q]; exact hx
  · exact h
theorem anF_all {p : Int32 → Prop} (h3 : p (-3)) : ∀ n ps, (∀ t ∈ ps, p t) → ∀ t ∈ anF n ps, p t := by
  intro n
  induction n with
  | zero => intro ps h; exact h
  | succ n ih => intro ps h; exact ih _ (addS_all h h3)
theorem slT_lt5 {tx : Nat → Nat} {S : RS} {q : Nat} (h : slT tx S = some q) : q < 5 := by
  unfold slT at h
  repeat' split at h
  all_goals first | (cases h; decide) | cases h
theorem nI_lt5 {n : Nat} (h : n < 10005) : nI n < 10005 := nI_lt (b := 10005) h (by decide)
theorem opO_lt (tx : Nat → Nat) (t : Nat) (S : RS) : opO tx t S < 10005 := by
  unfold opO
  repeat' split
  all_goals decide
theorem lopF_all {tx : Nat → Nat} {z : Nat} {rec : PZ → PZ} {t : Nat} (hr : ∀ X : PZ, (∀ s ∈ X.2, s < (10005 : Int32)) → ∀ s ∈ (rec X).2, s < (10005 : Int32)) : ∀ n op (X : PZ), op < (10005 : Int32) → (∀ s ∈ X.2, s < (10005 : Int32)) → ∀ s ∈ (lopF tx z rec t n op X).2, s < (10005 : Int32) := by
  intro n
  induction n with
  | zero => intro op X _ h; exact h
  | succ n ih =>
    intro op X ho h
    simp only [lopF]
    split
    · exact h
    · refine ih _ _ ?_ (addS_all (hr _ h) ho)
      split
      · decide
      · exact opO_lt _ _ _
theorem rdN_le (tx : Nat → Nat) (z m : Nat) (S : RS) : (rdN tx z m S).1 ≤ m := by
  by_cases h : S.2.2.1 = 2
  · by_cases g : S.2.2.2.2.2 ≤ m
    · rw [rdN, if_pos h, if_pos g]; exact g
    · rw [rdN, if_pos h, if_neg g]; exact Nat.zero_le _
  · rw [rdN, if_neg h]; exact Nat.zero_le _
theorem prtF_all {tx : Nat → Nat} {z : Nat} {rec : PZ → PZ} (hr : ∀ X : PZ, (∀ s ∈ X.2, s < (10005 : Int32)) → ∀ s ∈ (rec X).2, s < (10005 : Int32)) {X : PZ} (h : ∀ s ∈ X.2, s < (10005 : Int32)) : ∀ s ∈ (prtF tx z true rec X).2, s < (10005 : Int32) := by
  unfold prtF
  split
  · refine addS_all h (nI_lt5 ?_)
    have := rdN_le tx z 9999 X.1
    omega
  · split
    · simp only [if_true]
      split
      · exact h
      · rename_i s hs
        exact addS_all h (nI_lt5 (by have := slT_lt5 hs; omega))
    · split
      · exact hr _ h
      · exact h
theorem tirF_all (tx : Nat → Nat) (z : Nat) : ∀ g t dp (X : PZ), (∀ s ∈ X.2, s < (10005 : Int32)) → ∀ s ∈ (tirF tx z true g t dp X).2, s < (10005 : Int32) := by
  intro g
  induction g with
  | zero => intro t dp X h; exact h
  | succ g ih =>
    intro t dp X h
    rw [tirF]
    split
    · exact h
    · split
      · exact prtF_all (fun X => ih 0 (dp + 1) X) h
      · refine anF_all (by decide) _ _ ?_
        exact lopF_all (fun X => ih (t + 1) dp X) _ _ _ (opO_lt _ _ _) (ih _ _ _ h)
theorem lnRule_Y {tx : Nat → Nat} {z : Nat} {w : Bool} {X : LX} (h : OkY X.2.1) : OkY (lnRule tx z w X).2.1 := by
  obtain ⟨S, B⟩ := X
  by_cases hn : (if w = true then aY B.1 else aM B.1) = none
  · rw [lnRule_t hn]
    cases w
    · generalize tirF tx z false 40 0 0 (adv tx z S, []) = Y
      exact h
    · have hY := tirF_all tx z 40 0 0 (adv tx z S, []) (fun s hs => by cases hs)
      generalize tirF tx z true 40 0 0 (adv tx z S, []) = Y at hY ⊢
      intro ps hps
      have e : some Y.2 = some ps := hps
      injection e with e
      rw [← e]
      exact hY
  · have e : lnRule tx z w (S, B) = (fai z 5 S, B) := if_neg hn
    rw [e]; exact h
theorem lnOne_Y {tx : Nat → Nat} {z : Nat} {X : LX} (h : OkY X.2.1) : OkY (lnOne tx z X).2.1 := by
  have hst : ∀ n (X : LX), OkY X.2.1 → OkY (stpF tx z n X).2.1 := by
    intro n
    induction n with
    | zero => intro X h; exact h
    | succ n ih =>
      intro X h
      simp only [stpF]
      split
      · refine ih _ ?_
        unfold lnStop
        split
        · show OkY (ite _ _ _ : OB).1
          split
          · unfold bStp
            split
            · exact h
            · exact h
          · exact h
        · exact h
      · exact h
  show OkY (lnAny tx z X).2.1
  unfold lnAny
  split
  · unfold lnSheet
    split
    · show OkY (ite _ _ _ : OB).1
      split <;> exact h
    · exact h
  · split
    · unfold lnClerk
      split
      · refine hst _ _ ?_
        show OkY (ite _ _ _ : OB).1
        split <;> exact h
      · exact h
    · split
      · unfold lnWord
        split
        · show OkY (ite _ _ _ : OB).1
          split <;> exact h
        · exact h
      · split
        · unfold lnSlack
          split
          · show OkY (ite _ _ _ : OB).1
            split <;> exact h
          · exact h
        · split
          · exact lnRule_Y h
          · split
            · exact lnRule_Y h
            · exact h
theorem lnsF_Y {tx : Nat → Nat} {z : Nat} : ∀ n (X : LX), OkY X.2.1 → OkY (lnsF tx z n X).2.1 := by
  intro n
  induction n with
  | zero => intro X h; exact h
  | succ n ih =>
    intro X h
    simp only [lnsF]
    split
    · exact h
    · exact ih _ (lnOne_Y h)
/-- what reading n bytes comes to -/
def rdAll (tx : Nat → Nat) (n nn : Nat) : LX := lnsF tx n 700 (adv tx n (0, -1, 0, 0, 0, nn), bNil)
def fOff (A : AT) (nn : Nat) (x : Int32) : Nat × Int32 := gd (btw x 0 (tN A)) 1 (0, nI (rdAll (tB A) (iN x) nn).1.1)
def uF (A : AT) (p : Int32) : AT := (tB A, 0, p, tO A, tV A, tA A, tH A, tI A, tX A + 1, tY A, tZ A)
def uO (A : AT) (O : AO) (V : AW) : AT := (tB A, 0, -1, O, V, [], [], none, tX A, tY A, tZ A)
def nwW (B : OB) (V : AW) : Prop := vD V = 0 ∧ (∀ s, s < aS B.1 → vL V s = B.2.1 s ∧ vR V s = B.2.2.1 s ∧ vP V s = B.2.2.2.1 s + 1) ∧ ∀ c, vK V c = 0
def nOff (A : AT) (nn : Nat) (x : Int32) (A' : AT) : Prop :=
  if btw x 0 (tN A) = true then (if (rdAll (tB A) (iN x) nn).1.1 = 0 then ∃ V, nwW (rdAll (tB A) (iN x) nn).2 V ∧ A' = uO A (rdAll (tB A) (iN x) nn).2.1 V else A' = uF A (rdAll (tB A) (iN x) nn).1.2.1) else A' = A
def sTl (o : Nat) : List Nat := [1, 31, 70] ++ sO o
theorem IT.rd {σ σ' : PH} {o o' : Nat} {A A' : AT} (h : IT σ o o' A) (hc : Ch (inS (sTl o')) σ σ') (hb : BE σ' o') (h3 : hR σ' T0 = hR σ T0) (h10 : hI σ' T0 10 = hI σ T0 10) (hk : OkT A') (hO : tO A' = tO A) (hV : tV A' = tV A) (hAa : tA A' = tA A) (hH : tH A' = tH A) (hIm : tI A' = tI A)
    (ht : hI σ' T0 1 = nI (tN A') ∧ hI σ' T0 2 = tF A' ∧ ∀ i, i < tN A' → hA σ' 546705 i = tb (tB A' i)) (hX : hA σ' 18350192 0 = tX A' ∧ hA σ' 18350192 1 = tY A' ∧ hA σ' 18350192 2 = tZ A') : IT σ' o o' A' := by
  obtain ⟨h1, h2, ⟨a1, a2, a3, a4, a5⟩, h4, ⟨b1, b2⟩, ⟨c1, c2⟩, h7, h8, h9, ⟨d1, d2⟩, e, f⟩ := h
  have ho := h4.1.1.1
  have hd : (inS (sTl o') 4 = false ∧ inS (sTl o') 5 = false ∧ inS (sTl o') 6 = false ∧ o = 786436) ∨ (inS (sTl o') 18 = false ∧ inS (sTl o') 19 = false ∧ inS (sTl o') 20 = false ∧ o = 4456452) := by
    rcases ho with rfl | rfl <;> rcases a1 with rfl | rfl
    · exact absurd rfl a2
    · left; decide
    · right; decide
    · exact absurd rfl a2
  have hbo : BE σ' o := by
    rcases hd with ⟨q1, q2, q3, rfl⟩ | ⟨q1, q2, q3, rfl⟩
    · exact a5.2.1.eq (hc.2.2.2.2 (oL 786436) q1).2.1 (hc.2.2.2.2 (oR 786436) q2).2.1 (hc.2.2.2.2 (oH 786436) q3).2.1
    · exact a5.2.2.eq (hc.2.2.2.2 (oL 4456452) q1).2.1 (hc.2.2.2.2 (oR 4456452) q2).2.1 (hc.2.2.2.2 (oH 4456452) q3).2.1
  have hsp : SpO σ' o' := ⟨a5.1.ch hc, by rcases ho with rfl | rfl <;> rcases a1 with rfl | rfl <;> first | exact absurd rfl a2 | assumption, by rcases ho with rfl | rfl <;> rcases a1 with rfl | rfl <;> first | exact absurd rfl a2 | assumption⟩
  have n0 := hc.2.2.2.2 wN (by rcases a1 with rfl | rfl <;> rfl)
  have i0 := hc.2.2.2.2 wI (by rcases a1 with rfl | rfl <;> rfl)
  refine ⟨h1.ch hc, hk, ⟨a1, a2, by rw [h3]; exact a3, by rw [h3]; exact a4, hsp⟩, ?_, ⟨?_, by rw [n0.2.2]; exact b2⟩, ⟨c1.ch hc, c2.ch hc⟩, ?_, ?_, ?_, ⟨?_, d2.ch hc⟩, ht, hX⟩
  · rw [hO]; refine h4.ch hc ?_
    rcases ho with rfl | rfl <;> rcases a1 with rfl | rfl <;> first | exact absurd rfl a2 | decide
  · rw [hV]; exact b1.ch hc (by rcases a1 with rfl | rfl <;> decide)
  · rw [hAa]; exact h7.ch hc (by rcases a1 with rfl | rfl <;> decide)
  · rw [hH]; exact h8.ch hc (by rcases a1 with rfl | rfl <;> decide)
  · rw [hIm]
    unfold RpI at h9 ⊢
    cases hi : tI A with
    | none => rw [hi] at h9; show hI σ' T0 10 = 0; rw [h10]; exact h9
    | some q =>
      rw [hi] at h9
      show hI σ' T0 10 = 1 ∧ RpW σ' wI q.1 ∧ hR σ' wI 0 = o ∧ RpA σ' 14942208 q.2.1 ∧ RpH σ' 15466499 q.2.2
      rw [h10, i0.2.2]
      exact ⟨h9.1, h9.2.1.ch hc (by rcases a1 with rfl | rfl <;> decide), h9.2.2.1, h9.2.2.2.1.ch hc (by rcases a1 with rfl | rfl <;> decide), h9.2.2.2.2.ch hc (by rcases a1 with rfl | rfl <;> decide)⟩
  · obtain ⟨l, hl⟩ := d1
    exact ⟨l, hl.ch hc (by rcases a1 with rfl | rfl <;> decide)⟩
section C70
variable {Γ : Gm} {σ : PH} {o o' : Nat} {A : AT}
set_option maxRecDepth 4000 in
theorem l_lines {tx : Nat → Nat} {z : Nat} {Z : LX} {x : Int32} {Q : PO → PH → Prop} (hO' : isO o') (h5 : hR σ T0 5 = R0) (kk : ∀ (σ2 : PH) (x2 : Option Value), RLn σ2 tx z o' Z → Ch (inS (sRd o')) σ σ2 → Ok Γ 54 8 48 mX8_office 71 [some (.ref T0), some (.int x), x2] [] σ2 Q) : ∀ (m i : Nat) (σ1 : PH) (X : LX), i + m = 700 → RLn σ1 tx z o' X → lnsF tx z m X = Z → Ch (inS (sRd o')) σ σ1 → Ok Γ 54 8 48 mX8_office 41 [some (.ref T0), some (.int x), some (.int (nI i))] [] σ1 Q := by
  intro m
  induction m with
  | zero =>
    intro i σ1 X hi h hZ hc1
    have hr5 : hR σ1 T0 5 = R0 := by rw [(hc1.2.2.2.2 T0 (by rcases hO' with rfl | rfl <;> rfl)).2.2]; exact h5
    refine p_iload_n 2 42 rfl rfl dX8_office_41 rfl ?_
    refine p_sipush (700) 45 rfl dX8_office_42 rfl ?_
    refine p_icmp_ge 71 48 rfl rfl dX8_office_45 (fun h45 => ?_) (fun h45 => absurd (nI_le (a := 700) (b := i) (by omega) (by omega)) h45)
    simp only [lnsF] at hZ
    subst hZ
    exact kk σ1 _ h hc1
  | succ m ih =>
    intro i σ1 X hi h hZ hc1
    have hr5 : hR σ1 T0 5 = R0 := by rw [(hc1.2.2.2.2 T0 (by rcases hO' with rfl | rfl <;> rfl)).2.2]; exact h5
    refine p_iload_n 2 42 rfl rfl dX8_office_41 rfl ?_
    refine p_sipush (700) 45 rfl dX8_office_42 rfl ?_
    refine p_icmp_ge 71 48 rfl rfl dX8_office_45 (fun h45 => absurd h45 (nI_ge (a := i) (b := 700) (by omega) (by omega))) (fun h45 => ?_)
    refine p_aload_n 0 49 rfl rfl dX8_office_48 rfl ?_
    refine p_getR 8 5 52 rfl dX8_office_49 fl_X8_35 rfl rfl hr5 (by decide) ?_
    refine p_cV0i 55 rfl dX8_office_52 (c_hasMore h.2.1 h.2.2.1) ml_X8_114 vl_X5_hasMore rfl (by decide) rfl (Nat.le_of_ble_eq_true rfl) (Nat.le_of_ble_eq_true rfl) rfl ?_
    refine p_if_eq 71 58 rfl rfl dX8_office_55 (fun h55 => ?_) (fun h55 => ?_)
    · have hk : X.1.2.2.1 = 0 := by
        have := (by simpa only [b2i_eq0, Bool.not_eq_true] using h55 : (X.1.2.2.1 != 0) = false)
        simpa using this
      rw [show lnsF tx z (m + 1) X = X from if_pos hk] at hZ
      subst hZ
      exact kk σ1 _ h hc1
    · have hk : ¬ X.1.2.2.1 = 0 := by
        have := (by simpa only [b2i_eq0, Decidable.not_not] using h55 : (X.1.2.2.1 != 0) = true)
        simpa using this
      refine p_aload_n 0 59 rfl rfl dX8_office_58 rfl ?_
      refine p_getR 8 5 62 rfl dX8_office_59 fl_X8_35 rfl rfl hr5 (by decide) ?_
      refine p_cV0v 8 48 65 rfl dX8_office_62 (c_readLine (S := X.1) (B := X.2) h) ml_X8_118 vl_X5_readLine rfl (by decide) rfl (Nat.le_of_ble_eq_true rfl) (Nat.le_of_ble_eq_true rfl) (Nat.le_of_ble_eq_true rfl) (Nat.le_of_ble_eq_true rfl) rfl ?_
      intro σ2 hp2
      refine p_inc_2 68 rfl dX8_office_65 (1) rfl (Nat.le_of_ble_eq_true rfl) rfl ?_
      refine p_goto 41 rfl dX8_office_68 ?_
      rw [nI_1]
      refine ih (i + 1) σ2 _ (by omega) hp2.1 ?_ (hc1.tr hp2.2)
      rw [← hZ]; exact (if_neg hk).symm
end C70
