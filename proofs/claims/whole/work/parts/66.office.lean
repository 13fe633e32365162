/-! ===== the office that is built ===== -/
abbrev OB : Type := AO × (Nat → Nat) × (Nat → Nat) × (Nat → Nat) × Bool
def RpB (σ : PH) (o : Nat) (B : OB) : Prop := RpQ σ o B.1 ∧ (∀ s, s < aS B.1 → hA σ (oL o) s = nI (B.2.1 s) ∧ hA σ (oR o) s = nI (B.2.2.1 s) ∧ hA σ (oH o) s = nI (B.2.2.2.1 s) ∧ B.2.1 s < 256 ∧ B.2.2.1 s < 256 ∧ B.2.2.2.1 s < 4) ∧ hI σ o 11 = b2i B.2.2.2.2 ∧ (aY B.1 = none → hI σ (oY o) 1 = 0) ∧ (aM B.1 = none → hI σ (oM o) 1 = 0) ∧ BE σ o
def bNil : OB := ((0, 0, 0, 0, fun _ => 0, fun _ _ => 0, fun _ => 0, fun _ => 0, none, none), fun _ => 0, fun _ => 0, fun _ => 0, false)
def bSheet (B : OB) (l r t : Nat) : OB := ((aS B.1 + 1, aC B.1, aW B.1, aK B.1, aT B.1, aR B.1, aL B.1, aB B.1, aY B.1, aM B.1), va_up B.2.1 (aS B.1) l, va_up B.2.2.1 (aS B.1) r, va_up B.2.2.2.1 (aS B.1) t, B.2.2.2.2)
def bClerk (B : OB) (t : Nat) : OB := ((aS B.1, aC B.1 + 1, aW B.1, aK B.1, va_up (aT B.1) (aC B.1) 1, va_up (aR B.1) (aC B.1) (fun _ => t), aL B.1, aB B.1, aY B.1, aM B.1), B.2.1, B.2.2.1, B.2.2.2.1, B.2.2.2.2)
def bStop (B : OB) (t : Nat) : OB := ((aS B.1, aC B.1, aW B.1, aK B.1, va_up (aT B.1) (aC B.1 - 1) (aT B.1 (aC B.1 - 1) + 1), va_up (aR B.1) (aC B.1 - 1) (va_up (aR B.1 (aC B.1 - 1)) (aT B.1 (aC B.1 - 1)) t), aL B.1, aB B.1, aY B.1, aM B.1), B.2.1, B.2.2.1, B.2.2.2.1, B.2.2.2.2)
def bWord (B : OB) (l r : Nat) : OB := ((aS B.1, aC B.1, aW B.1 + 1, aK B.1, aT B.1, aR B.1, va_up (aL B.1) (aW B.1) l, va_up (aB B.1) (aW B.1) r, aY B.1, aM B.1), B.2.1, B.2.2.1, B.2.2.2.1, B.2.2.2.2)
def bSlack (B : OB) (k : Nat) : OB := ((aS B.1, aC B.1, aW B.1, k, aT B.1, aR B.1, aL B.1, aB B.1, aY B.1, aM B.1), B.2.1, B.2.2.1, B.2.2.2.1, true)
def bRule (B : OB) (w : Bool) (ps : List Int32) : OB := ((aS B.1, aC B.1, aW B.1, aK B.1, aT B.1, aR B.1, aL B.1, aB B.1, if w = true then some ps else aY B.1, if w = true then aM B.1 else some ps), B.2.1, B.2.2.1, B.2.2.2.1, B.2.2.2.2)
theorem mk_ne {s s' n n' : Nat} (h : s ≠ s') (hn : n < 8192) (hn' : n' < 8192) : mkr s n 16 ≠ mkr s' n' 16 := fun e => h (by have := congrArg sn e; rwa [sn_mk hn (by decide), sn_mk hn' (by decide)] at this)
theorem snY (o : Nat) : sn (oY o) = sn o + 8 := sn_mk (by decide) (by decide)
theorem snM (o : Nat) : sn (oM o) = sn o + 11 := sn_mk (by decide) (by decide)
theorem hI_ne {σ : PH} {r r' k : Nat} {v : Int32} (h : r' ≠ r) : hI (sI σ r k v) r' = hI σ r' := va_upo h
theorem oYne {o : Nat} (h : isO o) : oY o ≠ o ∧ oM o ≠ o := by rcases h with rfl | rfl <;> decide
theorem RpB.of {σ σ' : PH} {o : Nat} {B B' : OB} (h : RpB σ o B) (hr : hR σ' = hR σ) (ok : OkO B'.1) (i0 : hI σ' o 0 = nI (aS B'.1)) (i4 : hI σ' o 4 = nI (aC B'.1)) (i7 : hI σ' o 7 = nI (aW B'.1)) (i10 : hI σ' o 10 = nI (aK B'.1))
    (hrn : ∀ c, c < aC B'.1 → hA σ' (oS o) c = nI (aT B'.1 c) ∧ ∀ j, j < aT B'.1 c → hA σ' (oN o) (6 * c + j) = nI (aR B'.1 c j)) (hw : ∀ k, k < aW B'.1 → hA σ' (oA o) k = nI (aL B'.1 k) ∧ hA σ' (oB o) k = nI (aB B'.1 k))
    (hE : ∀ s, s < aS B'.1 → hA σ' (oL o) s = nI (B'.2.1 s) ∧ hA σ' (oR o) s = nI (B'.2.2.1 s) ∧ hA σ' (oH o) s = nI (B'.2.2.2.1 s) ∧ B'.2.1 s < 256 ∧ B'.2.2.1 s < 256 ∧ B'.2.2.2.1 s < 4) (i11 : hI σ' o 11 = b2i B'.2.2.2.2)
    (hu : hI σ' (oY o) = hI σ (oY o) ∧ hI σ' (oM o) = hI σ (oM o) ∧ hA σ' (uS (oY o)) = hA σ (uS (oY o)) ∧ hA σ' (uS (oM o)) = hA σ (uS (oM o))) (eY : aY B'.1 = aY B.1) (eM : aM B'.1 = aM B.1) (hb : BE σ' o) : RpB σ' o B' := by
  obtain ⟨⟨⟨h1, h2, h3, h4, h5, h6, h7, h8⟩, hY, hM⟩, hE0, hZ, hy, hm, hb0⟩ := h
  refine ⟨⟨⟨?_, ok, i0, i4, i7, i10, hrn, hw⟩, ?_, ?_⟩, hE, i11, ?_, ?_, hb⟩
  · unfold StO at h1 ⊢; rw [hr]; exact h1
  · unfold RpU at hY ⊢; rw [hu.1, hr, hu.2.2.1, eY]; exact hY
  · unfold RpU at hM ⊢; rw [hu.2.1, hr, hu.2.2.2, eM]; exact hM
  · rw [eY, hu.1]; exact hy
  · rw [eM, hu.2.1]; exact hm
theorem RpB.ch {σ σ' : PH} {o : Nat} {B : OB} {S : List Nat} (h : RpB σ o B) (hc : Ch (inS S) σ σ') (hd : (sO o).all (fun s => !S.contains s) = true) : RpB σ' o B := by
  have e : ∀ s, s ∈ sO o → inS S s = false := fun s hs => by simpa [inS] using List.all_eq_true.mp hd s hs
  obtain ⟨hq, hE0, hZ, hy, hm, hb0⟩ := h
  have a0 := hc.2.2.2.2 o (e _ (by simp [sO]))
  have aL := hc.2.2.2.2 (oL o) (e _ (by rw [oL, sn_mk (by decide) (by decide)]; simp [sO]))
  have aR := hc.2.2.2.2 (oR o) (e _ (by rw [oR, sn_mk (by decide) (by decide)]; simp [sO]))
  have aH := hc.2.2.2.2 (oH o) (e _ (by rw [oH, sn_mk (by decide) (by decide)]; simp [sO]))
  have aY := hc.2.2.2.2 (oY o) (e _ (by rw [oY, sn_mk (by decide) (by decide)]; simp [sO]))
  have aM := hc.2.2.2.2 (oM o) (e _ (by rw [oM, sn_mk (by decide) (by decide)]; simp [sO]))
  refine ⟨hq.ch hc hd, fun s hs => ?_, by rw [a0.1]; exact hZ, by rw [aY.1]; exact hy, by rw [aM.1]; exact hm, hb0.eq aL.2.1 aR.2.1 aH.2.1⟩
  rw [aL.2.1, aR.2.1, aH.2.1]; exact hE0 s hs
theorem RpB.cr {σ σ' : PH} {o : Nat} {B : OB} (h : RpB σ o B) (hc : Cr σ σ') : RpB σ' o B := h.ch hc.1 (by rcases h.1.1.1.1 with rfl | rfl <;> decide)
/-- hA behind three writes -/
theorem ar3 {σ : PH} {a b c q i j k : Nat} {x y w : Int32} (h1 : q ≠ a) (h2 : q ≠ b) (h3 : q ≠ c) : hA (sA (sA (sA σ a i x) b j y) c k w) q = hA σ q := by rw [sA_o h3, sA_o h2, sA_o h1]
theorem ar2 {σ : PH} {a b q i j : Nat} {x y : Int32} (h1 : q ≠ a) (h2 : q ≠ b) : hA (sA (sA σ a i x) b j y) q = hA σ q := by rw [sA_o h2, sA_o h1]
theorem ne_oLoR (o : Nat) : oL o ≠ oR o := mk_ne (by omega) (by decide) (by decide)
theorem ne_oLoH (o : Nat) : oL o ≠ oH o := mk_ne (by omega) (by decide) (by decide)
theorem ne_oLoS (o : Nat) : oL o ≠ oS o := mk_ne (by omega) (by decide) (by decide)
theorem ne_oLoN (o : Nat) : oL o ≠ oN o := mk_ne (by omega) (by decide) (by decide)
theorem ne_oLoA (o : Nat) : oL o ≠ oA o := mk_ne (by omega) (by decide) (by decide)
theorem ne_oLoB (o : Nat) : oL o ≠ oB o := mk_ne (by omega) (by decide) (by decide)
theorem ne_oRoL (o : Nat) : oR o ≠ oL o := mk_ne (by omega) (by decide) (by decide)
theorem ne_oRoH (o : Nat) : oR o ≠ oH o := mk_ne (by omega) (by decide) (by decide)
theorem ne_oRoS (o : Nat) : oR o ≠ oS o := mk_ne (by omega) (by decide) (by decide)
theorem ne_oRoN (o : Nat) : oR o ≠ oN o := mk_ne (by omega) (by decide) (by decide)
theorem ne_oRoA (o : Nat) : oR o ≠ oA o := mk_ne (by omega) (by decide) (by decide)
theorem ne_oRoB (o : Nat) : oR o ≠ oB o := mk_ne (by omega) (by decide) (by decide)
theorem ne_oHoL (o : Nat) : oH o ≠ oL o := mk_ne (by omega) (by decide) (by decide)
theorem ne_oHoR (o : Nat) : oH o ≠ oR o := mk_ne (by omega) (by decide) (by decide)
theorem ne_oHoS (o : Nat) : oH o ≠ oS o := mk_ne (by omega) (by decide) (by decide)
theorem ne_oHoN (o : Nat) : oH o ≠ oN o := mk_ne (by omega) (by decide) (by decide)
theorem ne_oHoA (o : Nat) : oH o ≠ oA o := mk_ne (by omega) (by decide) (by decide)
theorem ne_oHoB (o : Nat) : oH o ≠ oB o := mk_ne (by omega) (by decide) (by decide)
theorem ne_oSoL (o : Nat) : oS o ≠ oL o := mk_ne (by omega) (by decide) (by decide)
theorem ne_oSoR (o : Nat) : oS o ≠ oR o := mk_ne (by omega) (by decide) (by decide)
theorem ne_oSoH (o : Nat) : oS o ≠ oH o := mk_ne (by omega) (by decide) (by decide)
theorem ne_oSoN (o : Nat) : oS o ≠ oN o := mk_ne (by omega) (by decide) (by decide)
theorem ne_oSoA (o : Nat) : oS o ≠ oA o := mk_ne (by omega) (by decide) (by decide)
theorem ne_oSoB (o : Nat) : oS o ≠ oB o := mk_ne (by omega) (by decide) (by decide)
theorem ne_oNoL (o : Nat) : oN o ≠ oL o := mk_ne (by omega) (by decide) (by decide)
theorem ne_oNoR (o : Nat) : oN o ≠ oR o := mk_ne (by omega) (by decide) (by decide)
theorem ne_oNoH (o : Nat) : oN o ≠ oH o := mk_ne (by omega) (by decide) (by decide)
theorem ne_oNoS (o : Nat) : oN o ≠ oS o := mk_ne (by omega) (by decide) (by decide)
theorem ne_oNoA (o : Nat) : oN o ≠ oA o := mk_ne (by omega) (by decide) (by decide)
theorem ne_oNoB (o : Nat) : oN o ≠ oB o := mk_ne (by omega) (by decide) (by decide)
theorem ne_oAoL (o : Nat) : oA o ≠ oL o := mk_ne (by omega) (by decide) (by decide)
theorem ne_oAoR (o : Nat) : oA o ≠ oR o := mk_ne (by omega) (by decide) (by decide)
theorem ne_oAoH (o : Nat) : oA o ≠ oH o := mk_ne (by omega) (by decide) (by decide)
theorem ne_oAoS (o : Nat) : oA o ≠ oS o := mk_ne (by omega) (by decide) (by decide)
theorem ne_oAoN (o : Nat) : oA o ≠ oN o := mk_ne (by omega) (by decide) (by decide)
theorem ne_oAoB (o : Nat) : oA o ≠ oB o := mk_ne (by omega) (by decide) (by decide)
theorem ne_oBoL (o : Nat) : oB o ≠ oL o := mk_ne (by omega) (by decide) (by decide)
theorem ne_oBoR (o : Nat) : oB o ≠ oR o := mk_ne (by omega) (by decide) (by decide)
theorem ne_oBoH (o : Nat) : oB o ≠ oH o := mk_ne (by omega) (by decide) (by decide)
theorem ne_oBoS (o : Nat) : oB o ≠ oS o := mk_ne (by omega) (by decide) (by decide)
theorem ne_oBoN (o : Nat) : oB o ≠ oN o := mk_ne (by omega) (by decide) (by decide)
theorem ne_oBoA (o : Nat) : oB o ≠ oA o := mk_ne (by omega) (by decide) (by decide)
theorem ne_YoL (o : Nat) : uS (oY o) ≠ oL o := mk_ne (by rw [snY]; omega) (by decide) (by decide)
theorem ne_MoL (o : Nat) : uS (oM o) ≠ oL o := mk_ne (by rw [snM]; omega) (by decide) (by decide)
theorem ne_YoR (o : Nat) : uS (oY o) ≠ oR o := mk_ne (by rw [snY]; omega) (by decide) (by decide)
theorem ne_MoR (o : Nat) : uS (oM o) ≠ oR o := mk_ne (by rw [snM]; omega) (by decide) (by decide)
theorem ne_YoH (o : Nat) : uS (oY o) ≠ oH o := mk_ne (by rw [snY]; omega) (by decide) (by decide)
theorem ne_MoH (o : Nat) : uS (oM o) ≠ oH o := mk_ne (by rw [snM]; omega) (by decide) (by decide)
theorem ne_YoS (o : Nat) : uS (oY o) ≠ oS o := mk_ne (by rw [snY]; omega) (by decide) (by decide)
theorem ne_MoS (o : Nat) : uS (oM o) ≠ oS o := mk_ne (by rw [snM]; omega) (by decide) (by decide)
theorem ne_YoN (o : Nat) : uS (oY o) ≠ oN o := mk_ne (by rw [snY]; omega) (by decide) (by decide)
theorem ne_MoN (o : Nat) : uS (oM o) ≠ oN o := mk_ne (by rw [snM]; omega) (by decide) (by decide)
theorem ne_YoA (o : Nat) : uS (oY o) ≠ oA o := mk_ne (by rw [snY]; omega) (by decide) (by decide)
theorem ne_MoA (o : Nat) : uS (oM o) ≠ oA o := mk_ne (by rw [snM]; omega) (by decide) (by decide)
theorem ne_YoB (o : Nat) : uS (oY o) ≠ oB o := mk_ne (by rw [snY]; omega) (by decide) (by decide)
theorem ne_MoB (o : Nat) : uS (oM o) ≠ oB o := mk_ne (by rw [snM]; omega) (by decide) (by decide)
theorem be_up {f : Nat → Int32} {m n v : Nat} (h : ∀ s, s < 9 → ∃ x, x < m ∧ f s = nI x) (hv : v < m) : ∀ s, s < 9 → ∃ x, x < m ∧ upd f n (nI v) s = nI x := by
  intro s hs
  by_cases e : s = n
  · rw [e, pk_us]; exact ⟨v, hv, rfl⟩
  · rw [pk_un e]; exact h s hs
set_option maxRecDepth 8000 in
theorem B_sheet {σ : PH} {o : Nat} {B : OB} {l r t : Nat} (h : RpB σ o B) (hn : aS B.1 < 9) (hl : l < 256) (hr : r < 256) (ht : t < 4) : RpB (sI (sA (sA (sA σ (oL o) (aS B.1) (nI l)) (oR o) (aS B.1) (nI r)) (oH o) (aS B.1) (nI t)) o 0 (nI (aS B.1 + 1))) o (bSheet B l r t) := by
  have hO := h.1.1.1.1
  have hne := oYne hO
  obtain ⟨⟨⟨h1, h2, h3, h4, h5, h6, h7, h8⟩, hY, hM⟩, hE, hZ, hy, hm, hb⟩ := id h
  have eL : hA (sA (sA (sA σ (oL o) (aS B.1) (nI l)) (oR o) (aS B.1) (nI r)) (oH o) (aS B.1) (nI t)) (oL o) = upd (hA σ (oL o)) (aS B.1) (nI l) := by rw [sA_o (ne_oLoH o), sA_o (ne_oLoR o), sA_s]
  have eR : hA (sA (sA (sA σ (oL o) (aS B.1) (nI l)) (oR o) (aS B.1) (nI r)) (oH o) (aS B.1) (nI t)) (oR o) = upd (hA σ (oR o)) (aS B.1) (nI r) := by rw [sA_o (ne_oRoH o), sA_s, sA_o (ne_oRoL o)]
  have eH : hA (sA (sA (sA σ (oL o) (aS B.1) (nI l)) (oR o) (aS B.1) (nI r)) (oH o) (aS B.1) (nI t)) (oH o) = upd (hA σ (oH o)) (aS B.1) (nI t) := by rw [sA_s, sA_o (ne_oHoR o), sA_o (ne_oHoL o)]
  have eY3 : hA (sA (sA (sA σ (oL o) (aS B.1) (nI l)) (oR o) (aS B.1) (nI r)) (oH o) (aS B.1) (nI t)) (uS (oY o)) = hA σ (uS (oY o)) := by rw [sA_o (ne_YoH o), sA_o (ne_YoR o), sA_o (ne_YoL o)]
  have eM3 : hA (sA (sA (sA σ (oL o) (aS B.1) (nI l)) (oR o) (aS B.1) (nI r)) (oH o) (aS B.1) (nI t)) (uS (oM o)) = hA σ (uS (oM o)) := by rw [sA_o (ne_MoH o), sA_o (ne_MoR o), sA_o (ne_MoL o)]
  refine h.of rfl ⟨by show aS B.1 + 1 ≤ 9; omega, h2.2.1, h2.2.2.1, h2.2.2.2.1, h2.2.2.2.2.1, fun k hk => ?_⟩ (hI_sI _ _ _ _) ((hI_sIo (by intro q; cases q)).trans h4) ((hI_sIo (by intro q; cases q)).trans h5) ((hI_sIo (by intro q; cases q)).trans h6) (fun c hc => ?_) (fun k hk => ?_) (fun s hs => ?_) ((hI_sIo (by intro q; cases q)).trans hZ) ⟨hI_ne hne.1, hI_ne hne.2, (congrFun (hA_sI _ _ _ _) _).trans eY3, (congrFun (hA_sI _ _ _ _) _).trans eM3⟩ rfl rfl ?_
  · have := h2.2.2.2.2.2 k hk
    exact ⟨Nat.lt_succ_of_lt this.1, Nat.lt_succ_of_lt this.2⟩
  · rw [hA_sI, ar3 (ne_oSoL o) (ne_oSoR o) (ne_oSoH o), ar3 (ne_oNoL o) (ne_oNoR o) (ne_oNoH o)]; exact h7 c hc
  · rw [hA_sI, ar3 (ne_oAoL o) (ne_oAoR o) (ne_oAoH o), ar3 (ne_oBoL o) (ne_oBoR o) (ne_oBoH o)]; exact h8 k hk
  · rw [hA_sI, eL, eR, eH]
    show _ = nI (va_up B.2.1 (aS B.1) l s) ∧ _ = nI (va_up B.2.2.1 (aS B.1) r s) ∧ _ = nI (va_up B.2.2.2.1 (aS B.1) t s) ∧ va_up B.2.1 (aS B.1) l s < 256 ∧ va_up B.2.2.1 (aS B.1) r s < 256 ∧ va_up B.2.2.2.1 (aS B.1) t s < 4
    have hs' : s < aS B.1 + 1 := hs
    rcases Nat.lt_or_ge s (aS B.1) with z | z
    · rw [pk_un (by omega), pk_un (by omega), pk_un (by omega), va_upo (by omega), va_upo (by omega), va_upo (by omega)]; exact hE s z
    · rw [show s = aS B.1 by omega, pk_us, pk_us, pk_us, va_ups, va_ups, va_ups]; exact ⟨rfl, rfl, rfl, hl, hr, ht⟩
  · intro s hs
    rw [hA_sI, eL, eR, eH]
    exact ⟨be_up (fun s hs => (hb s hs).1) hl s hs, be_up (fun s hs => (hb s hs).2.1) hr s hs, be_up (fun s hs => (hb s hs).2.2) ht s hs⟩
set_option maxRecDepth 8000 in
theorem B_word {σ : PH} {o : Nat} {B : OB} {l r : Nat} (h : RpB σ o B) (hn : aW B.1 < 12) (hl : l < aS B.1) (hr : r < aS B.1) : RpB (sI (sA (sA σ (oA o) (aW B.1) (nI l)) (oB o) (aW B.1) (nI r)) o 7 (nI (aW B.1 + 1))) o (bWord B l r) := by
  have hO := h.1.1.1.1
  have hne := oYne hO
  obtain ⟨⟨⟨h1, h2, h3, h4, h5, h6, h7, h8⟩, hY, hM⟩, hE, hZ, hy, hm, hb⟩ := id h
  have eY2 : hA (sA (sA σ (oA o) (aW B.1) (nI l)) (oB o) (aW B.1) (nI r)) (uS (oY o)) = hA σ (uS (oY o)) := by rw [sA_o (ne_YoB o), sA_o (ne_YoA o)]
  have eM2 : hA (sA (sA σ (oA o) (aW B.1) (nI l)) (oB o) (aW B.1) (nI r)) (uS (oM o)) = hA σ (uS (oM o)) := by rw [sA_o (ne_MoB o), sA_o (ne_MoA o)]
  refine h.of rfl ⟨h2.1, h2.2.1, by show aW B.1 + 1 ≤ 12; omega, h2.2.2.2.1, h2.2.2.2.2.1, fun k hk => ?_⟩ ((hI_sIo (by intro q; cases q)).trans h3) ((hI_sIo (by intro q; cases q)).trans h4) (hI_sI _ _ _ _) ((hI_sIo (by intro q; cases q)).trans h6) (fun c hc => ?_) (fun k hk => ?_) (fun s hs => ?_) ((hI_sIo (by intro q; cases q)).trans hZ) ⟨hI_ne hne.1, hI_ne hne.2, (congrFun (hA_sI _ _ _ _) _).trans eY2, (congrFun (hA_sI _ _ _ _) _).trans eM2⟩ rfl rfl ?_
  · show va_up (aL B.1) (aW B.1) l k < aS B.1 ∧ va_up (aB B.1) (aW B.1) r k < aS B.1
    have hk' : k < aW B.1 + 1 := hk
    rcases Nat.lt_or_ge k (aW B.1) with z | z
    · rw [va_upo (by omega), va_upo (by omega)]; exact h2.2.2.2.2.2 k z
    · rw [show k = aW B.1 by omega, va_ups, va_ups]; exact ⟨hl, hr⟩
  · rw [hA_sI, ar2 (ne_oSoA o) (ne_oSoB o), ar2 (ne_oNoA o) (ne_oNoB o)]; exact h7 c hc
  · rw [hA_sI, sA_o (ne_oAoB o), sA_s, sA_s, sA_o (ne_oBoA o)]
    show _ = nI (va_up (aL B.1) (aW B.1) l k) ∧ _ = nI (va_up (aB B.1) (aW B.1) r k)
    have hk' : k < aW B.1 + 1 := hk
    rcases Nat.lt_or_ge k (aW B.1) with z | z
    · rw [pk_un (by omega), pk_un (by omega), va_upo (by omega), va_upo (by omega)]; exact h8 k z
    · rw [show k = aW B.1 by omega, pk_us, pk_us, va_ups, va_ups]; exact ⟨rfl, rfl⟩
  · rw [hA_sI, ar2 (ne_oLoA o) (ne_oLoB o), ar2 (ne_oRoA o) (ne_oRoB o), ar2 (ne_oHoA o) (ne_oHoB o)]; exact hE s hs
  · exact hb.eq (by rw [hA_sI, ar2 (ne_oLoA o) (ne_oLoB o)]) (by rw [hA_sI, ar2 (ne_oRoA o) (ne_oRoB o)]) (by rw [hA_sI, ar2 (ne_oHoA o) (ne_oHoB o)])
theorem B_slack {σ : PH} {o : Nat} {B : OB} {k : Nat} (h : RpB σ o B) (hk : k ≤ 8) : RpB (sI (sI σ o 10 (nI k)) o 11 1) o (bSlack B k) := by
  have hO := h.1.1.1.1
  have hne := oYne hO
  obtain ⟨⟨⟨h1, h2, h3, h4, h5, h6, h7, h8⟩, hY, hM⟩, hE, hZ, hy, hm, hb⟩ := id h
  have e : ∀ q, q ≠ 10 → q ≠ 11 → hI (sI (sI σ o 10 (nI k)) o 11 1) o q = hI σ o q := fun q w1 w2 => by rw [hI_sIo (fun e => w2 (congrArg Prod.snd e)), hI_sIo (fun e => w1 (congrArg Prod.snd e))]
  exact h.of rfl ⟨h2.1, h2.2.1, h2.2.2.1, hk, h2.2.2.2.2.1, h2.2.2.2.2.2⟩ ((e 0 (by decide) (by decide)).trans h3) ((e 4 (by decide) (by decide)).trans h4) ((e 7 (by decide) (by decide)).trans h5) ((hI_sIo (by intro q; cases q)).trans (hI_sI _ _ _ _)) h7 h8 hE (hI_sI _ _ _ _) ⟨(hI_ne hne.1).trans (hI_ne hne.1), (hI_ne hne.2).trans (hI_ne hne.2), rfl, rfl⟩ rfl rfl hb
/-- a stop behind the round of clerk c, who has k stops -/
theorem B_round {σ σ0 : PH} {o : Nat} {B B' : OB} {c k t : Nat} (h : RpB σ0 o B) (hrs : hR σ = hR σ0) (hA0 : ∀ q, q ≠ oS o → hA σ q = hA σ0 q) (hS0 : ∀ j, j ≠ c → hA σ (oS o) j = hA σ0 (oS o) j) (hI0 : ∀ q, q ≠ 4 → hI σ o q = hI σ0 o q) (hIu : ∀ u, u ≠ o → hI σ u = hI σ0 u) (hc4 : hI σ o 4 = nI (aC B'.1)) (hcc : c < aC B'.1) (hc6 : aC B'.1 ≤ 6) (hold : ∀ j, j < aC B'.1 → j ≠ c → j < aC B.1)
    (hk : k < 6) (ht : t < 4) (hrow : ∀ j, j < k → hA σ0 (oN o) (6 * c + j) = nI (aR B'.1 c j) ∧ aR B'.1 c j < 4) (hBk : aT B'.1 c = k + 1) (hBt : aR B'.1 c k = t) (hBT : ∀ j, j ≠ c → aT B'.1 j = aT B.1 j) (hBR : ∀ j, j ≠ c → aR B'.1 j = aR B.1 j)
    (hsame : aS B'.1 = aS B.1 ∧ aW B'.1 = aW B.1 ∧ aK B'.1 = aK B.1 ∧ aL B'.1 = aL B.1 ∧ aB B'.1 = aB B.1 ∧ aY B'.1 = aY B.1 ∧ aM B'.1 = aM B.1 ∧ B'.2 = B.2) : RpB (sA (sA σ (oN o) (6 * c + k) (nI t)) (oS o) c (nI (k + 1))) o B' := by
  have hO := h.1.1.1.1
  have hne := oYne hO
  obtain ⟨⟨⟨h1, h2, h3, h4, h5, h6, h7, h8⟩, hY, hM⟩, hE, hZ, hy, hm, hb⟩ := id h
  obtain ⟨s1, s2, s3, s4, s5, s6, s7, s8⟩ := hsame
  have ea : ∀ q, q ≠ oN o → q ≠ oS o → hA (sA (sA σ (oN o) (6 * c + k) (nI t)) (oS o) c (nI (k + 1))) q = hA σ0 q := fun q w1 w2 => (ar2 w1 w2).trans (hA0 q w2)
  refine h.of hrs ⟨by rw [s1]; exact h2.1, hc6, by rw [s2]; exact h2.2.2.1, by rw [s3]; exact h2.2.2.2.1, fun j hj => ?_, by rw [s1, s2, s4, s5]; exact h2.2.2.2.2.2⟩ ((hI0 0 (by decide)).trans (by rw [s1]; exact h3)) hc4 ((hI0 7 (by decide)).trans (by rw [s2]; exact h5)) ((hI0 10 (by decide)).trans (by rw [s3]; exact h6)) (fun j hj => ?_) (fun j hj => ?_) (fun s hs => ?_) ((hI0 11 (by decide)).trans (by rw [s8]; exact hZ)) ⟨hIu _ hne.1, hIu _ hne.2, ea _ (ne_YoN o) (ne_YoS o), ea _ (ne_MoN o) (ne_MoS o)⟩ s6 s7 (hb.eq (ea _ (ne_oLoN o) (ne_oLoS o)) (ea _ (ne_oRoN o) (ne_oRoS o)) (ea _ (ne_oHoN o) (ne_oHoS o)))
  · by_cases e : j = c
    · subst e
      rw [hBk]
      refine ⟨by omega, by omega, fun q hq => ?_⟩
      rcases Nat.lt_or_ge q k with z | z
      · exact (hrow q z).2
      · rw [show q = k by omega, hBt]; exact ht
    · rw [hBT j e, hBR j e]; exact h2.2.2.2.2.1 j (hold j hj e)
  · rw [sA_s, sA_o (ne_oSoN o), sA_o (ne_oNoS o), sA_s]
    by_cases e : j = c
    · subst e
      rw [pk_us, hBk]
      refine ⟨rfl, fun q hq => ?_⟩
      rcases Nat.lt_or_ge q k with z | z
      · rw [pk_un (by omega), hA0 _ (ne_oNoS o)]; exact (hrow q z).1
      · rw [show q = k by omega, pk_us, hBt]
    · rw [pk_un e, hS0 j e, hBT j e, hBR j e]
      have := h7 j (hold j hj e)
      refine ⟨this.1, fun q hq => ?_⟩
      have hq6 := (h2.2.2.2.2.1 j (hold j hj e)).2.1
      rw [pk_un (by omega), hA0 _ (ne_oNoS o)]; exact this.2 q hq
  · rw [ea _ (ne_oAoN o) (ne_oAoS o), ea _ (ne_oBoN o) (ne_oBoS o), s4, s5]; rw [s2] at hj; exact h8 j hj
  · rw [ea _ (ne_oLoN o) (ne_oLoS o), ea _ (ne_oRoN o) (ne_oRoS o), ea _ (ne_oHoN o) (ne_oHoS o), s8]; rw [s1] at hs; exact hE s hs
theorem B_stop {σ : PH} {o : Nat} {B : OB} {t : Nat} (h : RpB σ o B) (hc : 0 < aC B.1) (hk : aT B.1 (aC B.1 - 1) < 6) (ht : t < 4) : RpB (sA (sA σ (oN o) (6 * (aC B.1 - 1) + aT B.1 (aC B.1 - 1)) (nI t)) (oS o) (aC B.1 - 1) (nI (aT B.1 (aC B.1 - 1) + 1))) o (bStop B t) := by
  have hc6 := h.1.1.2.1.2.1
  refine B_round (σ := σ) (B' := bStop B t) h rfl (fun _ _ => rfl) (fun _ _ => rfl) (fun _ _ => rfl) (fun _ _ => rfl) h.1.1.2.2.2.1 (by show aC B.1 - 1 < aC B.1; omega) hc6 (fun j hj _ => hj) hk ht (fun j hj => ?_) ?_ ?_ (fun j hj => va_upo hj) (fun j hj => va_upo hj) ⟨rfl, rfl, rfl, rfl, rfl, rfl, rfl, rfl⟩
  · have e : aR (bStop B t).1 (aC B.1 - 1) j = aR B.1 (aC B.1 - 1) j := by
      show va_up (aR B.1) (aC B.1 - 1) _ (aC B.1 - 1) j = _
      rw [va_ups, va_upo (by omega)]
    rw [e]
    exact ⟨(h.1.1.2.2.2.2.2.2.1 _ (by omega)).2 j hj, (h.1.1.2.1.2.2.2.2.1 _ (by omega)).2.2 j hj⟩
  · exact va_ups
  · show va_up (aR B.1) (aC B.1 - 1) _ (aC B.1 - 1) _ = _
    rw [va_ups, va_ups]
theorem B_clerk {σ : PH} {o : Nat} {B : OB} {t : Nat} (h : RpB σ o B) (hc : aC B.1 < 6) (ht : t < 4) : RpB (sA (sA (sI (sA σ (oS o) (aC B.1) (nI 0)) o 4 (nI (aC B.1 + 1))) (oN o) (6 * aC B.1 + 0) (nI t)) (oS o) (aC B.1) (nI (0 + 1))) o (bClerk B t) := by
  refine B_round (σ := sI (sA σ (oS o) (aC B.1) (nI 0)) o 4 (nI (aC B.1 + 1))) (B' := bClerk B t) h rfl (fun q hq => sA_o hq) (fun j hj => ?_) (fun q hq => hI_sIo (fun e => hq (congrArg Prod.snd e))) (fun u hu => hI_ne hu) (hI_sI _ _ _ _) (by show aC B.1 < aC B.1 + 1; omega) (by show aC B.1 + 1 ≤ 6; omega) (fun j hj hn => ?_) (by decide) ht (fun j hj => absurd hj (Nat.not_lt_zero _)) va_ups ?_ (fun j hj => va_upo hj) (fun j hj => va_upo hj) ⟨rfl, rfl, rfl, rfl, rfl, rfl, rfl, rfl⟩
  · show hA (sA σ (oS o) (aC B.1) (nI 0)) (oS o) j = _
    rw [sA_s, pk_un hj]
  · have : j < aC B.1 + 1 := hj
    omega
  · show va_up (aR B.1) (aC B.1) _ (aC B.1) _ = _
    rw [va_ups]
theorem B_nil {σ σ' : PH} {o : Nat} (h : StO σ' o) (hb : BE σ' o) (i0 : hI σ' o 0 = 0) (i4 : hI σ' o 4 = 0) (i7 : hI σ' o 7 = 0) (i10 : hI σ' o 10 = 0) (i11 : hI σ' o 11 = 0) (y0 : hI σ' (oY o) 0 = 0) (y1 : hI σ' (oY o) 1 = 0) (m0 : hI σ' (oM o) 0 = 0) (m1 : hI σ' (oM o) 1 = 0) : RpB σ' o bNil := by
  have n : ∀ s, ¬ s < aS bNil.1 := fun s q => Nat.not_lt_zero s q
  refine ⟨⟨⟨h, ⟨by decide, by decide, by decide, by decide, fun c q => absurd q (Nat.not_lt_zero _), fun c q => absurd q (Nat.not_lt_zero _)⟩, i0, i4, i7, i10, fun c q => absurd q (Nat.not_lt_zero _), fun c q => absurd q (Nat.not_lt_zero _)⟩, ⟨kd6 _ _, ?_, ?_, y0⟩, ⟨kd6 _ _, ?_, ?_, m0⟩⟩, fun s q => absurd q (n s), i11, fun _ => y1, fun _ => m1, hb⟩
  · exact h.2.2.2.2.2.2.2.2.2.2.1
  · exact h.2.2.2.2.2.2.2.2.2.2.2.1
  · exact h.2.2.2.2.2.2.2.2.2.2.2.2.1
  · exact h.2.2.2.2.2.2.2.2.2.2.2.2.2
def sRd (o : Nat) : List Nat := 31 :: sO o
section C66
variable {Γ : Gm} {σ : PH}
set_option maxRecDepth 4000 in
theorem c_addSheet {o : Nat} {B : OB} (h : RpB σ o B) (hn : aS B.1 < 9) (l r t : Nat) : CallOk Γ 1 0 0 mX4_addSheet [.ref o, .int (nI l), .int (nI r), .int (nI t)] σ (rV (fun σ' => σ' = sI (sA (sA (sA σ (oL o) (aS B.1) (nI l)) (oR o) (aS B.1) (nI r)) (oH o) (aS B.1) (nI t)) o 0 (nI (aS B.1 + 1)))) := by
  refine p_enter rfl rfl (Nat.le_of_ble_eq_true rfl) rfl ?_
  refine p_aload_n 0 1 rfl rfl dX4_addSheet_0 rfl ?_
  refine p_getIE 4 0 4 rfl dX4_addSheet_1 fl_X4_9 h.1.1.1.1.kd rfl h.1.1.2.2.1 ?_
  refine p_bipush (9) 6 rfl dX4_addSheet_4 rfl ?_
  refine p_icmp_ge 49 9 rfl rfl dX4_addSheet_6 (fun h6 => absurd h6 (nI_ge hn (by decide))) (fun h6 => ?_)
  refine p_aload_n 0 10 rfl rfl dX4_addSheet_9 rfl ?_
  refine p_getR 4 1 13 rfl dX4_addSheet_10 fl_X4_15 h.1.1.1.1.kd rfl h.1.1.1.2.1 (mk0 (Nat.succ_ne_zero _)) ?_
  refine p_aload_n 0 14 rfl rfl dX4_addSheet_13 rfl ?_
  refine p_getIE 4 0 17 rfl dX4_addSheet_14 fl_X4_9 h.1.1.1.1.kd rfl h.1.1.2.2.1 ?_
  refine p_iload_n 1 18 rfl rfl dX4_addSheet_17 rfl ?_
  refine p_iastE 19 rfl dX4_addSheet_18 (i := aS B.1) (kd16 _ _) (lt9 hn) ?_
  refine p_aload_n 0 20 rfl rfl dX4_addSheet_19 rfl ?_
  refine p_getR 4 2 23 rfl dX4_addSheet_20 fl_X4_19 h.1.1.1.1.kd rfl h.1.1.1.2.2.1 (mk0 (Nat.succ_ne_zero _)) ?_
  refine p_aload_n 0 24 rfl rfl dX4_addSheet_23 rfl ?_
  refine p_getIE 4 0 27 rfl dX4_addSheet_24 fl_X4_9 h.1.1.1.1.kd rfl h.1.1.2.2.1 ?_
  refine p_iload_n 2 28 rfl rfl dX4_addSheet_27 rfl ?_
  refine p_iastE 29 rfl dX4_addSheet_28 (i := aS B.1) (kd16 _ _) (lt9 hn) ?_
  refine p_aload_n 0 30 rfl rfl dX4_addSheet_29 rfl ?_
  refine p_getR 4 3 33 rfl dX4_addSheet_30 fl_X4_22 h.1.1.1.1.kd rfl h.1.1.1.2.2.2.1 (mk0 (Nat.succ_ne_zero _)) ?_
  refine p_aload_n 0 34 rfl rfl dX4_addSheet_33 rfl ?_
  refine p_getIE 4 0 37 rfl dX4_addSheet_34 fl_X4_9 h.1.1.1.1.kd rfl h.1.1.2.2.1 ?_
  refine p_iload_n 3 38 rfl rfl dX4_addSheet_37 rfl ?_
  refine p_iastE 39 rfl dX4_addSheet_38 (i := aS B.1) (kd16 _ _) (lt9 hn) ?_
  refine p_aload_n 0 40 rfl rfl dX4_addSheet_39 rfl ?_
  refine p_dup 41 rfl dX4_addSheet_40 rfl ?_
  refine p_getIE 4 0 44 rfl dX4_addSheet_41 fl_X4_9 h.1.1.1.1.kd rfl h.1.1.2.2.1 ?_
  refine p_iconst (1) 45 rfl dX4_addSheet_44 rfl ?_
  refine p_iadd 46 rfl dX4_addSheet_45 ?_
  rw [nI_1]
  refine p_putI 4 0 49 rfl dX4_addSheet_46 fl_X4_9 h.1.1.1.1.kd rfl (Or.inl rfl) ?_
  exact p_vret dX4_addSheet_49 rfl ⟨rfl, rfl⟩
set_option maxRecDepth 4000 in
theorem c_addWord {o : Nat} {B : OB} (h : RpB σ o B) (hn : aW B.1 < 12) (l r : Nat) : CallOk Γ 1 0 0 mX4_addWord [.ref o, .int (nI l), .int (nI r)] σ (rV (fun σ' => σ' = sI (sA (sA σ (oA o) (aW B.1) (nI l)) (oB o) (aW B.1) (nI r)) o 7 (nI (aW B.1 + 1)))) := by
  refine p_enter rfl rfl (Nat.le_of_ble_eq_true rfl) rfl ?_
  refine p_aload_n 0 1 rfl rfl dX4_addWord_0 rfl ?_
  refine p_getIE 4 7 4 rfl dX4_addWord_1 fl_X4_34 h.1.1.1.1.kd rfl h.1.1.2.2.2.2.1 ?_
  refine p_bipush (12) 6 rfl dX4_addWord_4 rfl ?_
  refine p_icmp_ge 39 9 rfl rfl dX4_addWord_6 (fun h6 => absurd h6 (nI_ge hn (by decide))) (fun h6 => ?_)
  refine p_aload_n 0 10 rfl rfl dX4_addWord_9 rfl ?_
  refine p_getR 4 8 13 rfl dX4_addWord_10 fl_X4_37 h.1.1.1.1.kd rfl h.1.1.1.2.2.2.2.2.2.1 (mk0 (Nat.succ_ne_zero _)) ?_
  refine p_aload_n 0 14 rfl rfl dX4_addWord_13 rfl ?_
  refine p_getIE 4 7 17 rfl dX4_addWord_14 fl_X4_34 h.1.1.1.1.kd rfl h.1.1.2.2.2.2.1 ?_
  refine p_iload_n 1 18 rfl rfl dX4_addWord_17 rfl ?_
  refine p_iastE 19 rfl dX4_addWord_18 (i := aW B.1) (kd16 _ _) (lt12 hn) ?_
  refine p_aload_n 0 20 rfl rfl dX4_addWord_19 rfl ?_
  refine p_getR 4 9 23 rfl dX4_addWord_20 fl_X4_40 h.1.1.1.1.kd rfl h.1.1.1.2.2.2.2.2.2.2.1 (mk0 (Nat.succ_ne_zero _)) ?_
  refine p_aload_n 0 24 rfl rfl dX4_addWord_23 rfl ?_
  refine p_getIE 4 7 27 rfl dX4_addWord_24 fl_X4_34 h.1.1.1.1.kd rfl h.1.1.2.2.2.2.1 ?_
  refine p_iload_n 2 28 rfl rfl dX4_addWord_27 rfl ?_
  refine p_iastE 29 rfl dX4_addWord_28 (i := aW B.1) (kd16 _ _) (lt12 hn) ?_
  refine p_aload_n 0 30 rfl rfl dX4_addWord_29 rfl ?_
  refine p_dup 31 rfl dX4_addWord_30 rfl ?_
  refine p_getIE 4 7 34 rfl dX4_addWord_31 fl_X4_34 h.1.1.1.1.kd rfl h.1.1.2.2.2.2.1 ?_
  refine p_iconst (1) 35 rfl dX4_addWord_34 rfl ?_
  refine p_iadd 36 rfl dX4_addWord_35 ?_
  rw [nI_1]
  refine p_putI 4 7 39 rfl dX4_addWord_36 fl_X4_34 h.1.1.1.1.kd rfl (Or.inl rfl) ?_
  exact p_vret dX4_addWord_39 rfl ⟨rfl, rfl⟩
set_option maxRecDepth 4000 in
theorem c_addStop {o c k : Nat} (hst : StO σ o) (h4 : hI σ o 4 = nI (c + 1)) (hS : hA σ (oS o) c = nI k) (hc : c < 6) (hk : k < 6) (t : Nat) : CallOk Γ 1 0 0 mX4_addStop [.ref o, .int (nI t)] σ (rV (fun σ' => σ' = sA (sA σ (oN o) (6 * c + k) (nI t)) (oS o) c (nI (k + 1)))) := by
  refine p_enter rfl rfl (Nat.le_of_ble_eq_true rfl) rfl ?_
  refine p_aload_n 0 1 rfl rfl dX4_addStop_0 rfl ?_
  refine p_getIE 4 4 4 rfl dX4_addStop_1 fl_X4_25 hst.1.kd rfl h4 ?_
  refine p_iconst (1) 5 rfl dX4_addStop_4 rfl ?_
  refine p_isub 6 rfl dX4_addStop_5 ?_
  rw [show nI (c + 1) - 1 = nI c from nI_sb (a := c + 1) (b := 1) (by omega)]
  refine p_ist_n2 7 rfl rfl dX4_addStop_6 (Nat.le_of_ble_eq_true rfl) rfl ?_
  refine p_iload_n 2 8 rfl rfl dX4_addStop_7 rfl ?_
  refine p_if_lt 49 11 rfl rfl dX4_addStop_8 (fun h8 => absurd h8 (nI_pos (by omega))) (fun h8 => ?_)
  refine p_aload_n 0 12 rfl rfl dX4_addStop_11 rfl ?_
  refine p_getR 4 5 15 rfl dX4_addStop_12 fl_X4_28 hst.1.kd rfl hst.2.2.2.2.1 (mk0 (Nat.succ_ne_zero _)) ?_
  refine p_iload_n 2 16 rfl rfl dX4_addStop_15 rfl ?_
  refine p_ialdE 17 rfl dX4_addStop_16 (i := c) (kd16 _ _) (lt6 (by omega)) hS ?_
  refine p_bipush (6) 19 rfl dX4_addStop_17 rfl ?_
  refine p_icmp_ge 49 22 rfl rfl dX4_addStop_19 (fun h19 => absurd h19 (nI_ge hk (by decide))) (fun h19 => ?_)
  refine p_aload_n 0 23 rfl rfl dX4_addStop_22 rfl ?_
  refine p_getR 4 6 26 rfl dX4_addStop_23 fl_X4_31 hst.1.kd rfl hst.2.2.2.2.2.1 (mk0 (Nat.succ_ne_zero _)) ?_
  refine p_iload_n 2 27 rfl rfl dX4_addStop_26 rfl ?_
  refine p_bipush (6) 29 rfl dX4_addStop_27 rfl ?_
  refine p_imul 30 rfl dX4_addStop_29 ?_
  rw [show (6 : Int32) = nI 6 from rfl, nI_mu]
  refine p_aload_n 0 31 rfl rfl dX4_addStop_30 rfl ?_
  refine p_getR 4 5 34 rfl dX4_addStop_31 fl_X4_28 hst.1.kd rfl hst.2.2.2.2.1 (mk0 (Nat.succ_ne_zero _)) ?_
  refine p_iload_n 2 35 rfl rfl dX4_addStop_34 rfl ?_
  refine p_ialdE 36 rfl dX4_addStop_35 (i := c) (kd16 _ _) (lt6 (by omega)) hS ?_
  refine p_iadd 37 rfl dX4_addStop_36 ?_
  rw [nI_add, show c * 6 + k = 6 * c + k by omega]
  refine p_iload_n 1 38 rfl rfl dX4_addStop_37 rfl ?_
  refine p_iastE 39 rfl dX4_addStop_38 (i := 6 * c + k) (kd16 _ _) (lt36 (by omega)) ?_
  refine p_aload_n 0 40 rfl rfl dX4_addStop_39 rfl ?_
  refine p_getR 4 5 43 rfl dX4_addStop_40 fl_X4_28 hst.1.kd rfl hst.2.2.2.2.1 (mk0 (Nat.succ_ne_zero _)) ?_
  refine p_iload_n 2 44 rfl rfl dX4_addStop_43 rfl ?_
  refine p_dup2 45 rfl dX4_addStop_44 rfl rfl ?_
  refine p_ialdE 46 rfl dX4_addStop_45 (i := c) (kd16 _ _) (lt6 (by omega)) ((congrFun (sA_o (ne_oSoN o)) c).trans hS) ?_
  refine p_iconst (1) 47 rfl dX4_addStop_46 rfl ?_
  refine p_iadd 48 rfl dX4_addStop_47 ?_
  rw [nI_1]
  refine p_iastE 49 rfl dX4_addStop_48 (i := c) (kd16 _ _) (lt6 (by omega)) ?_
  exact p_vret dX4_addStop_49 rfl ⟨rfl, rfl⟩
set_option maxRecDepth 4000 in
theorem c_addClerk {o : Nat} {B : OB} (h : RpB σ o B) (hn : aC B.1 < 6) (t : Nat) : CallOk Γ 2 0 0 mX4_addClerk [.ref o, .int (nI t)] σ (rV (fun σ' => σ' = sA (sA (sI (sA σ (oS o) (aC B.1) (nI 0)) o 4 (nI (aC B.1 + 1))) (oN o) (6 * aC B.1 + 0) (nI t)) (oS o) (aC B.1) (nI (0 + 1)))) := by
  refine p_enter rfl rfl (Nat.le_of_ble_eq_true rfl) rfl ?_
  refine p_aload_n 0 1 rfl rfl dX4_addClerk_0 rfl ?_
  refine p_getIE 4 4 4 rfl dX4_addClerk_1 fl_X4_25 h.1.1.1.1.kd rfl h.1.1.2.2.2.1 ?_
  refine p_bipush (6) 6 rfl dX4_addClerk_4 rfl ?_
  refine p_icmp_ge 34 9 rfl rfl dX4_addClerk_6 (fun h6 => absurd h6 (nI_ge hn (by decide))) (fun h6 => ?_)
  refine p_aload_n 0 10 rfl rfl dX4_addClerk_9 rfl ?_
  refine p_getR 4 5 13 rfl dX4_addClerk_10 fl_X4_28 h.1.1.1.1.kd rfl h.1.1.1.2.2.2.2.1 (mk0 (Nat.succ_ne_zero _)) ?_
  refine p_aload_n 0 14 rfl rfl dX4_addClerk_13 rfl ?_
  refine p_getIE 4 4 17 rfl dX4_addClerk_14 fl_X4_25 h.1.1.1.1.kd rfl h.1.1.2.2.2.1 ?_
  refine p_iconst (0) 18 rfl dX4_addClerk_17 rfl ?_
  refine p_iastE 19 rfl dX4_addClerk_18 (i := aC B.1) (kd16 _ _) (lt6 hn) ?_
  refine p_aload_n 0 20 rfl rfl dX4_addClerk_19 rfl ?_
  refine p_dup 21 rfl dX4_addClerk_20 rfl ?_
  refine p_getIE 4 4 24 rfl dX4_addClerk_21 fl_X4_25 h.1.1.1.1.kd rfl h.1.1.2.2.2.1 ?_
  refine p_iconst (1) 25 rfl dX4_addClerk_24 rfl ?_
  refine p_iadd 26 rfl dX4_addClerk_25 ?_
  rw [nI_1]
  refine p_putI 4 4 29 rfl dX4_addClerk_26 fl_X4_25 h.1.1.1.1.kd rfl (Or.inl rfl) ?_
  refine p_aload_n 0 30 rfl rfl dX4_addClerk_29 rfl ?_
  refine p_iload_n 1 31 rfl rfl dX4_addClerk_30 rfl ?_
  refine p_cV1v 0 0 34 rfl dX4_addClerk_31 (c_addStop (σ := (sI (sA σ (oS o) (aC B.1) (nI 0)) o 4 (nI (aC B.1 + 1)))) (c := aC B.1) (k := 0) h.1.1.1 (hI_sI _ _ _ _) ((congrFun (sA_s _ _ _ _) _).trans pk_us) hn (by decide) t) ml_X4_63 vl_X4_addStop h.1.1.1.1.kd (by decide) rfl (Nat.le_of_ble_eq_true rfl) (Nat.le_of_ble_eq_true rfl) (Nat.le_of_ble_eq_true rfl) (Nat.le_of_ble_eq_true rfl) rfl ?_
  intro σ1 hp1
  exact p_vret dX4_addClerk_34 rfl ⟨rfl, hp1⟩
def stpL (O : AO) : Nat := if 0 < aC O then aT O (aC O - 1) else 0
set_option maxRecDepth 4000 in
theorem c_stopsOfLast {o : Nat} {B : OB} (h : RpB σ o B)  : CallOk Γ 1 0 0 mX4_stopsOfLast [.ref o] σ (rI σ (nI (stpL B.1))) := by
  refine p_enter rfl rfl (Nat.le_of_ble_eq_true rfl) rfl ?_
  refine p_aload_n 0 1 rfl rfl dX4_stopsOfLast_0 rfl ?_
  refine p_getIE 4 4 4 rfl dX4_stopsOfLast_1 fl_X4_25 h.1.1.1.1.kd rfl h.1.1.2.2.2.1 ?_
  refine p_if_le 21 7 rfl rfl dX4_stopsOfLast_4 (fun h4 => ?_) (fun h4 => ?_)
  · refine p_iconst (0) 22 rfl dX4_stopsOfLast_21 rfl ?_
    exact p_iret dX4_stopsOfLast_22 rfl ⟨by rw [stpL, if_neg (fun q => nI_nle q (by have := h.1.1.2.1.2.1; omega) h4)]; rfl, rfl⟩
  · refine p_aload_n 0 8 rfl rfl dX4_stopsOfLast_7 rfl ?_
    refine p_getR 4 5 11 rfl dX4_stopsOfLast_8 fl_X4_28 h.1.1.1.1.kd rfl h.1.1.1.2.2.2.2.1 (mk0 (Nat.succ_ne_zero _)) ?_
    refine p_aload_n 0 12 rfl rfl dX4_stopsOfLast_11 rfl ?_
    refine p_getIE 4 4 15 rfl dX4_stopsOfLast_12 fl_X4_25 h.1.1.1.1.kd rfl h.1.1.2.2.2.1 ?_
    refine p_iconst (1) 16 rfl dX4_stopsOfLast_15 rfl ?_
    refine p_isub 17 rfl dX4_stopsOfLast_16 ?_
    have hp : 0 < aC B.1 := (Nat.eq_zero_or_pos (aC B.1)).elim (fun q => absurd (show nI (aC B.1) ≤ 0 by rw [q]; decide) h4) id
    rw [show nI (aC B.1) - 1 = nI (aC B.1 - 1) from nI_sb (b := 1) hp]
    refine p_ialdE 18 rfl dX4_stopsOfLast_17 (i := aC B.1 - 1) (kd16 _ _) (lt6 (by have := h.1.1.2.1.2.1; omega)) (h.1.1.2.2.2.2.2.2.1 _ (by omega)).1 ?_
    refine p_goto 22 rfl dX4_stopsOfLast_18 ?_
    exact p_iret dX4_stopsOfLast_22 rfl ⟨by rw [stpL, if_pos hp], rfl⟩
set_option maxRecDepth 4000 in
theorem c_clearU {u : Nat} (hk : kd u = 6) : CallOk Γ 1 0 0 mX6_clear [.ref u] σ (rV (fun σ' => σ' = sI (sI σ u 0 0) u 1 0)) := by
  refine p_enter rfl rfl (Nat.le_of_ble_eq_true rfl) rfl ?_
  refine p_aload_n 0 1 rfl rfl dX6_clear_0 rfl ?_
  refine p_iconst (0) 2 rfl dX6_clear_1 rfl ?_
  refine p_putZ 6 0 5 rfl dX6_clear_2 fl_X6_9 hk rfl (by first | exact Or.inl rfl | exact Or.inr rfl | assumption) (Or.inl rfl) ?_
  refine p_aload_n 0 6 rfl rfl dX6_clear_5 rfl ?_
  refine p_iconst (0) 7 rfl dX6_clear_6 rfl ?_
  refine p_putI 6 1 10 rfl dX6_clear_7 fl_X6_15 hk rfl (Or.inl rfl) ?_
  exact p_vret dX6_clear_10 rfl ⟨rfl, rfl⟩
set_option maxRecDepth 4000 in
theorem c_clear {o : Nat} (hst : StO σ o) (hb : BE σ o) : CallOk Γ 2 0 0 mX4_clear [.ref o] σ (rV (fun σ' => RpB σ' o bNil ∧ Ch (inS (sO o)) σ σ' ∧ hR σ' = hR σ)) := by
  refine p_enter rfl rfl (Nat.le_of_ble_eq_true rfl) rfl ?_
  refine p_aload_n 0 1 rfl rfl dX4_clear_0 rfl ?_
  refine p_iconst (0) 2 rfl dX4_clear_1 rfl ?_
  refine p_putI 4 0 5 rfl dX4_clear_2 fl_X4_9 hst.1.kd rfl (Or.inl rfl) ?_
  refine p_aload_n 0 6 rfl rfl dX4_clear_5 rfl ?_
  refine p_iconst (0) 7 rfl dX4_clear_6 rfl ?_
  refine p_putI 4 4 10 rfl dX4_clear_7 fl_X4_25 hst.1.kd rfl (Or.inl rfl) ?_
  refine p_aload_n 0 11 rfl rfl dX4_clear_10 rfl ?_
  refine p_iconst (0) 12 rfl dX4_clear_11 rfl ?_
  refine p_putI 4 7 15 rfl dX4_clear_12 fl_X4_34 hst.1.kd rfl (Or.inl rfl) ?_
  refine p_aload_n 0 16 rfl rfl dX4_clear_15 rfl ?_
  refine p_iconst (0) 17 rfl dX4_clear_16 rfl ?_
  refine p_putI 4 10 20 rfl dX4_clear_17 fl_X4_43 hst.1.kd rfl (Or.inl rfl) ?_
  refine p_aload_n 0 21 rfl rfl dX4_clear_20 rfl ?_
  refine p_iconst (0) 22 rfl dX4_clear_21 rfl ?_
  refine p_putZ 4 11 25 rfl dX4_clear_22 fl_X4_46 hst.1.kd rfl (by first | exact Or.inl rfl | exact Or.inr rfl | assumption) (Or.inl rfl) ?_
  refine p_aload_n 0 26 rfl rfl dX4_clear_25 rfl ?_
  refine p_getR 4 12 29 rfl dX4_clear_26 fl_X4_53 hst.1.kd rfl hst.2.2.2.2.2.2.2.2.1 (mk0 (Nat.succ_ne_zero _)) ?_
  refine p_cV0v 0 0 32 rfl dX4_clear_29 (c_clearU (kd6 _ _)) ml_X4_60 vl_X6_clear (kd6 _ _) (by decide) rfl (Nat.le_of_ble_eq_true rfl) (Nat.le_of_ble_eq_true rfl) (Nat.le_of_ble_eq_true rfl) (Nat.le_of_ble_eq_true rfl) rfl ?_
  rintro σ1 rfl
  refine p_aload_n 0 33 rfl rfl dX4_clear_32 rfl ?_
  refine p_getR 4 13 36 rfl dX4_clear_33 fl_X4_57 hst.1.kd rfl hst.2.2.2.2.2.2.2.2.2.1 (mk0 (Nat.succ_ne_zero _)) ?_
  refine p_cV0v 0 0 39 rfl dX4_clear_36 (c_clearU (kd6 _ _)) ml_X4_60 vl_X6_clear (kd6 _ _) (by decide) rfl (Nat.le_of_ble_eq_true rfl) (Nat.le_of_ble_eq_true rfl) (Nat.le_of_ble_eq_true rfl) (Nat.le_of_ble_eq_true rfl) rfl ?_
  rintro σ2 rfl
  exact p_vret dX4_clear_39 rfl ⟨rfl, by
    have hne := oYne hst.1
    have hym : oY o ≠ oM o := by rcases hst.1 with rfl | rfl <;> decide
    have hI1 : ∀ k, hI (sI (sI (sI (sI (sI (sI (sI (sI (sI σ o 0 0) o 4 0) o 7 0) o 10 0) o 11 0) (oY o) 0 0) (oY o) 1 0) (oM o) 0 0) (oM o) 1 0) o k = hI (sI (sI (sI (sI (sI σ o 0 0) o 4 0) o 7 0) o 10 0) o 11 0) o k := fun k => by
      rw [hI_ne hne.2.symm, hI_ne hne.2.symm, hI_ne hne.1.symm, hI_ne hne.1.symm]
    refine B_nil (σ := σ) (show StO (sI (sI (sI (sI (sI (sI (sI (sI (sI σ o 0 0) o 4 0) o 7 0) o 10 0) o 11 0) (oY o) 0 0) (oY o) 1 0) (oM o) 0 0) (oM o) 1 0) o from hst) (show BE (sI (sI (sI (sI (sI (sI (sI (sI (sI σ o 0 0) o 4 0) o 7 0) o 10 0) o 11 0) (oY o) 0 0) (oY o) 1 0) (oM o) 0 0) (oM o) 1 0) o from hb) ?_ ?_ ?_ ?_ ?_ ?_ ?_ ?_ ?_
    · rw [hI1]; simp only [hI_sIo (show (o, 0) ≠ (o, 11) by intro e; cases e), hI_sIo (show (o, 0) ≠ (o, 10) by intro e; cases e), hI_sIo (show (o, 0) ≠ (o, 7) by intro e; cases e), hI_sIo (show (o, 0) ≠ (o, 4) by intro e; cases e), hI_sI]
    · rw [hI1]; simp only [hI_sIo (show (o, 4) ≠ (o, 11) by intro e; cases e), hI_sIo (show (o, 4) ≠ (o, 10) by intro e; cases e), hI_sIo (show (o, 4) ≠ (o, 7) by intro e; cases e), hI_sI]
    · rw [hI1]; simp only [hI_sIo (show (o, 7) ≠ (o, 11) by intro e; cases e), hI_sIo (show (o, 7) ≠ (o, 10) by intro e; cases e), hI_sI]
    · rw [hI1]; simp only [hI_sIo (show (o, 10) ≠ (o, 11) by intro e; cases e), hI_sI]
    · rw [hI1]; simp only [hI_sI]
    · rw [hI_ne hym, hI_ne hym, hI_sIo (by intro e; cases e), hI_sI]
    · rw [hI_ne hym, hI_ne hym, hI_sI]
    · rw [hI_sIo (by intro e; cases e), hI_sI]
    · rw [hI_sI], by
    refine Fr.ch (XI := [(o, 0), (o, 4), (o, 7), (o, 10), (o, 11), (oY o, 0), (oY o, 1), (oM o, 0), (oM o, 1)]) (X := []) ((((((((((Fr.sI (by simp)).tr (Fr.sI (by simp))).tr (Fr.sI (by simp))).tr (Fr.sI (by simp))).tr (Fr.sI (by simp))).tr (Fr.sI (by simp))).tr (Fr.sI (by simp))).tr (Fr.sI (by simp))).tr (Fr.sI (by simp)))) ?_ rfl
    rcases hst.1 with rfl | rfl <;> decide, rfl⟩
end C66
