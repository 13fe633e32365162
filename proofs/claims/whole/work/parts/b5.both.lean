/-! ===== both states side by side ===== -/
def sMd : List Nat := [72, 73, 74, 75, 76, 77, 78, 79, 80, 81, 82, 83, 84, 85, 86, 87, 88, 89, 90, 91, 92, 93, 94, 95, 96, 97, 98, 99]
theorem RM.c {σ σ' : PH} {A : AT} (h : RM σ A) (hc : Ch cls σ σ') : RM σ' A := by
  have m := hc.2.2.2.2 M0 rfl
  have e : ∀ r, r ∈ [mRl, mRd, mWl, mWr, mCd, mCo, mRo, mAh, mHe, iRo, iAh, iHe, mTp, mRf] → hA σ' r = hA σ r := fun r hr => (hc.2.2.2.2 r ((show ∀ r ∈ [mRl, mRd, mWl, mWr, mCd, mCo, mRo, mAh, mHe, iRo, iAh, iHe, mTp, mRf], cls (sn r) = false by decide) r hr)).2.1
  obtain ⟨⟨g1, g2, g3, g4, g5, g6, g7⟩, h2, h3, h4, h5, h6, h7, h8, h9, h10⟩ := h
  refine ⟨⟨fun k => by rw [m.2.2]; exact g1 k, g2, by rw [m.1]; exact g3, fun c hc => by rw [e mRl (by simp), e mRd (by simp)]; exact g4 c hc, fun k hk => by rw [e mWl (by simp), e mWr (by simp)]; exact g5 k hk, ?_, ?_⟩, h2, by rw [e mRo (by simp)]; exact h3, by rw [m.1, e mAh (by simp)]; exact h4, by rw [m.1, e mHe (by simp)]; exact h5, ?_, by rw [m.1, e mTp (by simp)]; exact h7, by rw [e mRf (by simp)]; exact h8, by rw [e mCo (by simp)]; exact h9, h10⟩
  · unfold RuM at g6 ⊢; rw [m.1, e mCd (by simp)]; exact g6
  · unfold RuM at g7 ⊢; rw [m.1, e mCd (by simp)]; exact g7
  · exact RpJ.fr h6 (by rw [m.1]) (by rw [m.1]) (by rw [m.1]) (e iRo (by simp)) (e iAh (by simp)) (e iHe (by simp))
theorem IT.md {σ σ' : PH} {o o' : Nat} {A : AT} (h : IT σ o o' A) (hc : Ch (inS sMd) σ σ') : IT σ' o o' A := by
  obtain ⟨h1, h2, ⟨a1, a2, a3, a4, a5⟩, h4, ⟨b1, b2⟩, ⟨c1, c2⟩, h7, h8, h9, ⟨d1, d2⟩, ⟨e1, e2, e3⟩, f1, f2, f3⟩ := h
  have ho := h4.1.1.1
  have t0 := hc.2.2.2.2 T0 rfl
  have n0 := hc.2.2.2.2 wN rfl
  have i0 := hc.2.2.2.2 wI rfl
  have tp := hc.2.2.2.2 546705 rfl
  have rf := hc.2.2.2.2 18350192 rfl
  refine ⟨h1.ch hc, h2, ⟨a1, a2, by rw [t0.2.2]; exact a3, by rw [t0.2.2]; exact a4, a5.ch hc (by decide)⟩, h4.ch hc ?_, ⟨b1.ch hc (by decide), by rw [n0.2.2]; exact b2⟩, ⟨c1.ch hc, c2.ch hc⟩, h7.ch hc (by decide), h8.ch hc (by decide), ?_, ⟨?_, d2.ch hc⟩, ⟨by rw [t0.1]; exact e1, by rw [t0.1]; exact e2, fun i hi => by rw [tp.2.1]; exact e3 i hi⟩, by rw [rf.2.1]; exact f1, by rw [rf.2.1]; exact f2, by rw [rf.2.1]; exact f3⟩
  · rcases ho with rfl | rfl <;> decide
  · unfold RpI at h9 ⊢
    cases hi : tI A with
    | none => rw [hi] at h9; show hI σ' T0 10 = 0; rw [t0.1]; exact h9
    | some q =>
      rw [hi] at h9
      show hI σ' T0 10 = 1 ∧ RpW σ' wI q.1 ∧ hR σ' wI 0 = o ∧ RpA σ' 14942208 q.2.1 ∧ RpH σ' 15466499 q.2.2
      rw [t0.1, i0.2.2]
      exact ⟨h9.1, h9.2.1.ch hc (by decide), h9.2.2.1, h9.2.2.2.1.ch hc (by decide), h9.2.2.2.2.ch hc (by decide)⟩
  · obtain ⟨l, hl⟩ := d1
    exact ⟨l, hl.ch hc (by decide)⟩
def sJJ (σ : PH) (j : Nat → Nat → Int64) : PH := (hn σ, hI σ, j, hR σ, hA σ, hL σ)
theorem IT.jj {σ : PH} {o o' : Nat} {A : AT} {j : Nat → Nat → Int64} (h : IT (sJJ σ j) o o' A) : IT σ o o' A := h
theorem IT.sl {σ : PH} {o o' r i : Nat} {v : Int64} {A : AT} (h : IT σ o o' A) : IT (sL σ r i v) o o' A := h
theorem RM.sl {σ : PH} {r i : Nat} {v : Int64} {A : AT} (h : RM σ A) : RM (sL σ r i v) A := h
theorem md_in : ∀ s, s < 100 → mdl s = true → inS sMd s = true := by decide
theorem IT.m {σ σ' : PH} {o o' : Nat} {A : AT} (h : IT σ o o' A) (hc : ChM σ σ') : IT σ' o o' A := by
  refine IT.jj (j := hJ σ) (h.md ?_)
  refine ⟨hc.1, rfl, hc.2.1, fun r k _ => by show hR σ' r k = _; rw [hc.2.2.1], fun r hr => ?_⟩
  have hm : mdl (sn r) = false := by
    cases e : mdl (sn r) with
    | false => rfl
    | true =>
      have hlt : sn r < 100 := by unfold mdl at e; rw [Bool.and_eq_true] at e; exact of_decide_eq_true e.2
      rw [md_in _ hlt e] at hr; cases hr
  exact ⟨(hc.2.2.2 r hm).1, (hc.2.2.2 r hm).2, by show hR σ' r = _; rw [hc.2.2.1]⟩
/-- class and reference keep the same state -/
def BO (σ : PH) (A : AT) : Prop := (∃ o o', IT σ o o' A) ∧ RM σ A
theorem BO_0 {σ : PH} : BO (evl lgW σ) A0 := ⟨⟨_, _, IT_0⟩, RM_0⟩
section Cb5
variable {Γ : Gm} {σ : PH}
set_option maxRecDepth 4000 in
theorem c_thrown  : CallOk Γ 1 0 0 mX9_thrown [.ref M0] σ (rI σ (hI σ M0 0)) := by
  refine p_enter rfl rfl (Nat.le_of_ble_eq_true rfl) rfl ?_
  refine p_aload_n 0 1 rfl rfl dX9_thrown_0 rfl ?_
  refine p_getI 9 0 4 rfl dX9_thrown_1 fl_X9_102 rfl rfl ?_
  exact p_iret dX9_thrown_4 rfl ⟨rfl, rfl⟩
end Cb5
