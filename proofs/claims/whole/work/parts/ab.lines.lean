/-! ===== the reference: rules, sheets, slack ===== -/
def CO (σ : PH) (o : List Int32) : Prop := hI σ M0 31 = nI o.length ∧ ∀ i, i < o.length → hA σ rCd i = o.getD i 0
def RuN (σ : PH) (f : Nat) (w : Bool) (o : List Int32) : Option (List Int32) → Prop
  | none => hI σ M0 f = -1
  | some ps => hgt 0 ps = some 1 ∧ (∀ t ∈ ps, okSt w t) ∧ ∃ p, hI σ M0 f = nI p ∧ p + (encL w ps).length + 1 ≤ o.length ∧ ∀ i, i < (encL w ps ++ [0]).length → o.getD (p + i) 0 = (encL w ps ++ [0]).getD i 0
def RBm (σ : PH) (B : OB) (o : List Int32) : Prop := OkO B.1 ∧ ((hI σ M0 25 = nI (aS B.1) ∧ hI σ M0 26 = nI (aC B.1) ∧ hI σ M0 27 = nI (aW B.1)) ∧ hI σ M0 28 = (if B.2.2.2.2 = true then nI (aK B.1) else -1) ∧ (B.2.2.2.2 = false → aK B.1 = 0)) ∧
  (hA σ nRw 0 = 0 ∧ (∀ s, s < aS B.1 → hA σ nRw (1 + s) = nI (B.2.1 s) ∧ hA σ nRw (10 + s) = nI (B.2.2.1 s) ∧ hA σ nRw (19 + s) = nI (B.2.2.2.1 s) ∧ B.2.2.2.1 s < 4) ∧ ∀ c, c < aC B.1 → hA σ nRw (28 + c) = 0) ∧
  (∀ c, c < aC B.1 → hA σ nRl c = nI (aT B.1 c) ∧ ∀ j, j < aT B.1 c → hA σ nRd (6 * c + j) = nI (aR B.1 c j)) ∧ (∀ k, k < aW B.1 → hA σ nWl k = nI (aL B.1 k) ∧ hA σ nWr k = nI (aB B.1 k)) ∧ RuN σ 29 true o (aY B.1) ∧ RuN σ 30 false o (aM B.1)
def LMx (σ : PH) (tx : Nat → Nat) (z : Nat) (X : LX) : Prop := TpM σ tx z ∧ RdM σ tx z X.1 ∧ (X.1.1 = 0 → ∃ o, CO σ o ∧ RBm σ X.2 o ∧ o.length ≤ 2 * X.1.2.2.2.1)
theorem RuN.e {σ σ' : PH} {f : Nat} {w : Bool} {o : List Int32} {q : Option (List Int32)} (h : RuN σ f w o q) (e : hI σ' M0 f = hI σ M0 f) : RuN σ' f w o q := by
  cases q with
  | none => exact e.trans h
  | some ps => obtain ⟨a, b, p, c⟩ := h; exact ⟨a, b, p, e.trans c.1, c.2⟩
theorem RuN.app {σ : PH} {f : Nat} {w : Bool} {o r : List Int32} {q : Option (List Int32)} (h : RuN σ f w o q) : RuN σ f w (o ++ r) q := by
  cases q with
  | none => exact h
  | some ps =>
    obtain ⟨a, b, p, c1, c2, c3⟩ := h
    refine ⟨a, b, p, c1, by rw [List.length_append]; omega, fun i hi => ?_⟩
    have hi2 : i < (encL w ps).length + 1 := by rw [List.length_append] at hi; exact hi
    rw [List.getD_eq_getElem?_getD, List.getElem?_append_left (by omega), ← List.getD_eq_getElem?_getD]; exact c3 i hi
theorem RBm.fr {σ σ' : PH} {B : OB} {o : List Int32} {XI X : List Nat} (h : RBm σ B o) (hf : Fj XI X σ σ') (h1 : [25, 26, 27, 28, 29, 30].all (fun k => !XI.contains k) = true) (h2 : [nRd, nRl, nWl, nWr, nRw].all (fun k => !X.contains k) = true) : RBm σ' B o := by
  have e : ∀ k, k ∈ [25, 26, 27, 28, 29, 30] → hI σ' M0 k = hI σ M0 k := fun k hk => hf.i (by have := List.all_eq_true.mp h1 k hk; simpa using this)
  have a : ∀ r, r ∈ [nRd, nRl, nWl, nWr, nRw] → hA σ' r = hA σ r := fun r hr => hf.2.2.2.2 r (by have := List.all_eq_true.mp h2 r hr; simpa using this)
  obtain ⟨g1, g2, g3, g4, g5, g6, g7⟩ := h
  exact ⟨g1, by rw [e 25 (by simp), e 26 (by simp), e 27 (by simp), e 28 (by simp)]; exact g2, by rw [a nRw (by simp)]; exact g3, by rw [a nRl (by simp), a nRd (by simp)]; exact g4, by rw [a nWl (by simp), a nWr (by simp)]; exact g5, g6.e (e 29 (by simp)), g7.e (e 30 (by simp))⟩
theorem CO.fr {σ σ' : PH} {o : List Int32} {XI X : List Nat} (h : CO σ o) (hf : Fj XI X σ σ') (h1 : XI.contains 31 = false) (h3 : X.contains rCd = false) : CO σ' o :=
  ⟨by rw [hf.i (by simpa using h1)]; exact h.1, by rw [hf.2.2.2.2 rCd (by simpa using h3)]; exact h.2⟩
section Cab
variable {Γ : Gm} {σ : PH} {tx : Nat → Nat} {z : Nat} {w : Bool}
theorem RdM.eq {S S' : RS} (h : RdM σ tx z S) (e1 : S.1 = S'.1) (e2 : S.2.1 = S'.2.1) (hf : ¬ S.1 = 0) (hk : S'.2.2.1 = 0) : RdM σ tx z S' := ⟨by rw [← e1]; exact h.1, by rw [← e2]; exact h.2.1, by rw [← e1]; exact h.2.2.1, fun q => absurd (e1.trans q) hf, fun _ => hk⟩
set_option maxRecDepth 4000 in
theorem l_e340f {X : MX} (hX : RX σ tx z w X) {σ0 : PH} (hFE : Fj [14, 15, 18, 19, 20, 21, 22, 23, 31, 32, 33, 34, 35] [rCd, mWt, mTs] σ0 σ) {Z : PZ} {o : List Int32} {y1 y2 : Int32} {x3 x4 : Option Value} (hf : ¬ (zS X).1 = 0) (e1 : (zS X).1 = Z.1.1) (e2 : (zS X).2.1 = Z.1.2.1) (hk : Z.1.2.2.1 = 0) : Ok Γ 11 0 0 mX9_expression 340 [some (.ref M0), some (.int y1), some (.int y2), x3, x4] [] σ (rV (fun σ' => RdM σ' tx z Z.1 ∧ (Z.1.1 = 0 → CO σ' (o ++ encL w Z.2 ++ [0]) ∧ (o ++ encL w Z.2 ++ [0]).length ≤ 2 * Z.1.2.2.2.1 ∧ hgt 0 Z.2 = some 1 ∧ ∀ t ∈ Z.2, okSt w t) ∧ Fj [14, 15, 18, 19, 20, 21, 22, 23, 31, 32, 33, 34, 35] [rCd, mWt, mTs] σ0 σ')) := by
  obtain ⟨o0, k0, hcw0, hb0⟩ := hX.2.2.2.2 hf
  refine p_aload_n 0 341 rfl rfl dX9_expression_340 rfl ?_
  refine p_cV0i 344 rfl dX9_expression_341 (c_isGood hX.2.1) ml_X9_161 vl_X9_isGood rfl (by decide) rfl (Nat.le_of_ble_eq_true rfl) (Nat.le_of_ble_eq_true rfl) rfl ?_
  refine p_if_eq 360 347 rfl rfl dX9_expression_344 (fun h344 => ?_) (fun h344 => absurd (b2i_t h344) (by simpa using hf))
  refine p_aload_n 0 361 rfl rfl dX9_expression_360 rfl ?_
  refine p_iconst (0) 362 rfl dX9_expression_361 rfl ?_
  refine p_cV1v 0 0 365 rfl dX9_expression_362 (c_drops hX.1.1 hcw0 (by omega) (l := 0) (by decide)) ml_X9_211 vl_X9_drops rfl (by decide) rfl (Nat.le_of_ble_eq_true rfl) (Nat.le_of_ble_eq_true rfl) (Nat.le_of_ble_eq_true rfl) (Nat.le_of_ble_eq_true rfl) rfl ?_
  intro σ5 hp5
  have hdl := drp_len 0 k0 o0
  refine p_aload_n 0 366 rfl rfl dX9_expression_365 rfl ?_
  refine p_iconst (0) 367 rfl dX9_expression_366 rfl ?_
  refine p_cV1v 0 0 370 rfl dX9_expression_367 (c_puts (fun k => by rw [hp5.2.1.2.2.1]; exact hX.1.1 k) hp5.1 (by omega) 0) ml_X9_183 vl_X9_puts rfl (by decide) rfl (Nat.le_of_ble_eq_true rfl) (Nat.le_of_ble_eq_true rfl) (Nat.le_of_ble_eq_true rfl) (Nat.le_of_ble_eq_true rfl) rfl ?_
  intro σ6 hp6
  exact p_vret dX9_expression_370 rfl ⟨rfl, (((hX.2.1.fr hp5.2.1 rfl (by rw [hp5.2.2])).fr hp6.2.1 rfl (by rw [hp6.2.2])).eq e1 e2 hf hk), fun q => absurd (e1.trans q) hf, hFE.tr ((hp5.2.1.up (by decide) (by decide)).tr (hp6.2.1.up (by decide) (by decide)))⟩
set_option maxRecDepth 4000 in
theorem l_e340d {X : MX} (hX : RX σ tx z w X) {σ0 : PH} (hFE : Fj [14, 15, 18, 19, 20, 21, 22, 23, 31, 32, 33, 34, 35] [rCd, mWt, mTs] σ0 σ) {Z : PZ} {o : List Int32} {y1 y2 : Int32} {x3 x4 : Option Value} (h0 : (zS X).1 = 0) (hD : 1 < zD X) (e1 : (fai z 1 (zS X)).1 = Z.1.1) (e2 : (fai z 1 (zS X)).2.1 = Z.1.2.1) (hk : Z.1.2.2.1 = 0) : Ok Γ 11 0 0 mX9_expression 340 [some (.ref M0), some (.int y1), some (.int y2), x3, x4] [] σ (rV (fun σ' => RdM σ' tx z Z.1 ∧ (Z.1.1 = 0 → CO σ' (o ++ encL w Z.2 ++ [0]) ∧ (o ++ encL w Z.2 ++ [0]).length ≤ 2 * Z.1.2.2.2.1 ∧ hgt 0 Z.2 = some 1 ∧ ∀ t ∈ Z.2, okSt w t) ∧ Fj [14, 15, 18, 19, 20, 21, 22, 23, 31, 32, 33, 34, 35] [rCd, mWt, mTs] σ0 σ')) := by
  have hT := hX.1
  have h := hX.2.1
  have hz7 := hT.2.1
  have htx := hT.2.2.1
  have hr := hT.1
  have hg := hX.2.2.2.1 h0
  have ht := (h.2.2.2.1 h0).1
  have ho := (h.2.2.2.1 h0).2
  have hcw := hg.1
  have hb := hg.2.2.2.b hz7 ho
  have hbd := hg.2.2.2
  refine p_aload_n 0 341 rfl rfl dX9_expression_340 rfl ?_
  refine p_cV0i 344 rfl dX9_expression_341 (c_isGood hX.2.1) ml_X9_161 vl_X9_isGood rfl (by decide) rfl (Nat.le_of_ble_eq_true rfl) (Nat.le_of_ble_eq_true rfl) rfl ?_
  refine p_if_eq 360 347 rfl rfl dX9_expression_344 (fun h344 => absurd (b2i_f h344) (by rw [h0]; decide)) (fun h344 => ?_)
  refine p_aload_n 0 348 rfl rfl dX9_expression_347 rfl ?_
  refine p_getIE 9 35 351 rfl dX9_expression_348 fl_X9_196 rfl rfl hg.2.1.1 ?_
  refine p_iconst (1) 352 rfl dX9_expression_351 rfl ?_
  refine p_icmp_le 360 355 rfl rfl dX9_expression_352 (fun h352 => absurd h352 (nI_ge (a := 1) (b := zD X) hD (by have := hg.2.1.2; omega))) (fun h352 => ?_)
  refine p_aload_n 0 356 rfl rfl dX9_expression_355 rfl ?_
  refine p_iconst (1) 357 rfl dX9_expression_356 rfl ?_
  refine p_cV1v 0 0 360 rfl dX9_expression_357 (c_wrong hX.2.1 (w := 1) (by decide) (by decide)) ml_X9_168 vl_X9_wrong rfl (by decide) rfl (Nat.le_of_ble_eq_true rfl) (Nat.le_of_ble_eq_true rfl) (Nat.le_of_ble_eq_true rfl) (Nat.le_of_ble_eq_true rfl) rfl ?_
  intro σ4 hp4
  refine p_aload_n 0 361 rfl rfl dX9_expression_360 rfl ?_
  refine p_iconst (0) 362 rfl dX9_expression_361 rfl ?_
  refine p_cV1v 0 0 365 rfl dX9_expression_362 (c_drops (fun k => by rw [hp4.2.1.2.2.1]; exact hr k) (hcw.fr hp4.2.1 rfl rfl rfl rfl) (by omega) (l := 0) (by decide)) ml_X9_211 vl_X9_drops rfl (by decide) rfl (Nat.le_of_ble_eq_true rfl) (Nat.le_of_ble_eq_true rfl) (Nat.le_of_ble_eq_true rfl) (Nat.le_of_ble_eq_true rfl) rfl ?_
  intro σ5 hp5
  have hdl := drp_len 0 (zK X) (zO X)
  refine p_aload_n 0 366 rfl rfl dX9_expression_365 rfl ?_
  refine p_iconst (0) 367 rfl dX9_expression_366 rfl ?_
  refine p_cV1v 0 0 370 rfl dX9_expression_367 (c_puts (fun k => by rw [hp5.2.1.2.2.1, hp4.2.1.2.2.1]; exact hr k) hp5.1 (by omega) 0) ml_X9_183 vl_X9_puts rfl (by decide) rfl (Nat.le_of_ble_eq_true rfl) (Nat.le_of_ble_eq_true rfl) (Nat.le_of_ble_eq_true rfl) (Nat.le_of_ble_eq_true rfl) rfl ?_
  intro σ6 hp6
  exact p_vret dX9_expression_370 rfl ⟨rfl, (((hp4.1.fr hp5.2.1 rfl (by rw [hp5.2.2])).fr hp6.2.1 rfl (by rw [hp6.2.2])).eq e1 e2 (by rw [(fai_k h0).2.1]; decide) hk), fun q => absurd (e1.trans q) (by rw [(fai_k h0).2.1]; decide), hFE.tr (((hp4.2.1.up (by decide) (by decide)).tr (hp5.2.1.up (by decide) (by decide))).tr (hp6.2.1.up (by decide) (by decide)))⟩
set_option maxRecDepth 4000 in
theorem l_e340g {X : MX} (hX : RX σ tx z w X) {σ0 : PH} (hFE : Fj [14, 15, 18, 19, 20, 21, 22, 23, 31, 32, 33, 34, 35] [rCd, mWt, mTs] σ0 σ) {Z : PZ} {o : List Int32} {y1 y2 : Int32} {x3 x4 : Option Value} (h0 : (zS X).1 = 0) (hD : zD X ≤ 1) (e1 : zS X = Z.1) (hdr : drp 0 (zO X) (zK X) = (o ++ encL w Z.2, [])) (hh : hgt 0 Z.2 = some 1) (hok : ∀ t ∈ Z.2, okSt w t) : Ok Γ 11 0 0 mX9_expression 340 [some (.ref M0), some (.int y1), some (.int y2), x3, x4] [] σ (rV (fun σ' => RdM σ' tx z Z.1 ∧ (Z.1.1 = 0 → CO σ' (o ++ encL w Z.2 ++ [0]) ∧ (o ++ encL w Z.2 ++ [0]).length ≤ 2 * Z.1.2.2.2.1 ∧ hgt 0 Z.2 = some 1 ∧ ∀ t ∈ Z.2, okSt w t) ∧ Fj [14, 15, 18, 19, 20, 21, 22, 23, 31, 32, 33, 34, 35] [rCd, mWt, mTs] σ0 σ')) := by
  have hT := hX.1
  have h := hX.2.1
  have hz7 := hT.2.1
  have htx := hT.2.2.1
  have hr := hT.1
  have hg := hX.2.2.2.1 h0
  have ht := (h.2.2.2.1 h0).1
  have ho := (h.2.2.2.1 h0).2
  have hcw := hg.1
  have hb := hg.2.2.2.b hz7 ho
  have hbd := hg.2.2.2
  refine p_aload_n 0 341 rfl rfl dX9_expression_340 rfl ?_
  refine p_cV0i 344 rfl dX9_expression_341 (c_isGood hX.2.1) ml_X9_161 vl_X9_isGood rfl (by decide) rfl (Nat.le_of_ble_eq_true rfl) (Nat.le_of_ble_eq_true rfl) rfl ?_
  refine p_if_eq 360 347 rfl rfl dX9_expression_344 (fun h344 => absurd (b2i_f h344) (by rw [h0]; decide)) (fun h344 => ?_)
  refine p_aload_n 0 348 rfl rfl dX9_expression_347 rfl ?_
  refine p_getIE 9 35 351 rfl dX9_expression_348 fl_X9_196 rfl rfl hg.2.1.1 ?_
  refine p_iconst (1) 352 rfl dX9_expression_351 rfl ?_
  refine p_icmp_le 360 355 rfl rfl dX9_expression_352 (fun h352 => ?_) (fun h352 => absurd (nI_le (a := zD X) (b := 1) hD (by decide)) h352)
  refine p_aload_n 0 361 rfl rfl dX9_expression_360 rfl ?_
  refine p_iconst (0) 362 rfl dX9_expression_361 rfl ?_
  refine p_cV1v 0 0 365 rfl dX9_expression_362 (c_drops hr hcw (by omega) (l := 0) (by decide)) ml_X9_211 vl_X9_drops rfl (by decide) rfl (Nat.le_of_ble_eq_true rfl) (Nat.le_of_ble_eq_true rfl) (Nat.le_of_ble_eq_true rfl) (Nat.le_of_ble_eq_true rfl) rfl ?_
  intro σ5 hp5
  have hdl := drp_len 0 (zK X) (zO X)
  have hc5 := hp5.1
  rw [hdr] at hc5 hdl
  simp only [List.length_nil, Nat.add_zero] at hdl
  refine p_aload_n 0 366 rfl rfl dX9_expression_365 rfl ?_
  refine p_iconst (0) 367 rfl dX9_expression_366 rfl ?_
  refine p_cV1v 0 0 370 rfl dX9_expression_367 (c_puts (fun k => by rw [hp5.2.1.2.2.1]; exact hr k) hc5 (show (o ++ encL w Z.2).length < 1400 by omega) 0) ml_X9_183 vl_X9_puts rfl (by decide) rfl (Nat.le_of_ble_eq_true rfl) (Nat.le_of_ble_eq_true rfl) (Nat.le_of_ble_eq_true rfl) (Nat.le_of_ble_eq_true rfl) rfl ?_
  intro σ6 hp6
  exact p_vret dX9_expression_370 rfl ⟨rfl, by rw [← e1]; exact ((hX.2.1.fr hp5.2.1 rfl (by rw [hp5.2.2])).fr hp6.2.1 rfl (by rw [hp6.2.2])), fun _ => ⟨⟨hp6.1.1, hp6.1.2.1⟩, by rw [← e1, List.length_append]; have := hbd.1; simp only [List.length_cons, List.length_nil]; omega, hh, hok⟩, hFE.tr ((hp5.2.1.up (by decide) (by decide)).tr (hp6.2.1.up (by decide) (by decide)))⟩
set_option maxRecDepth 12000 in
theorem c_expression {S : RS} (hT : TpM σ tx z) (h : RdM σ tx z S) (h0 : S.1 = 0) {o : List Int32} (hc : CO σ o) (hb : o.length + 8 ≤ 2 * S.2.2.2.1) {Z0 : PZ} (hZ0 : tirF tx z w 40 0 0 (S, []) = Z0) : CallOk Γ 11 0 0 mX9_expression [.ref M0, .int (nI (fvl w).1), .int (nI (fvl w).2)] σ (rV (fun σ' => RdM σ' tx z Z0.1 ∧ (Z0.1.1 = 0 → CO σ' (o ++ encL w Z0.2 ++ [0]) ∧ (o ++ encL w Z0.2 ++ [0]).length ≤ 2 * Z0.1.2.2.2.1 ∧ hgt 0 Z0.2 = some 1 ∧ ∀ t ∈ Z0.2, okSt w t) ∧ Fj [14, 15, 18, 19, 20, 21, 22, 23, 31, 32, 33, 34, 35] [rCd, mWt, mTs] σ σ')) := by
  have ho := (h.2.2.2.1 h0).2
  refine p_enter rfl rfl (Nat.le_of_ble_eq_true rfl) rfl ?_
  refine p_aload_n 0 1 rfl rfl dX9_expression_0 rfl ?_
  refine p_cV0i 4 rfl dX9_expression_1 (c_isGood h) ml_X9_161 vl_X9_isGood rfl (by decide) rfl (Nat.le_of_ble_eq_true rfl) (Nat.le_of_ble_eq_true rfl) rfl ?_
  refine p_if_ne 8 7 rfl rfl dX9_expression_4 (fun h4 => ?_) (fun h4 => absurd (b2i_f h4) (by rw [h0]; decide))
  refine p_aload_n 0 9 rfl rfl dX9_expression_8 rfl ?_
  refine p_iload_n 1 10 rfl rfl dX9_expression_9 rfl ?_
  refine p_putI 9 32 13 rfl dX9_expression_10 fl_X9_190 rfl rfl (Or.inl rfl) ?_
  refine p_aload_n 0 14 rfl rfl dX9_expression_13 rfl ?_
  refine p_iload_n 2 15 rfl rfl dX9_expression_14 rfl ?_
  refine p_putI 9 33 18 rfl dX9_expression_15 fl_X9_193 rfl rfl (Or.inl rfl) ?_
  refine p_aload_n 0 19 rfl rfl dX9_expression_18 rfl ?_
  refine p_iconst (0) 20 rfl dX9_expression_19 rfl ?_
  refine p_putI 9 34 23 rfl dX9_expression_20 fl_X9_174 rfl rfl (Or.inl rfl) ?_
  refine p_aload_n 0 24 rfl rfl dX9_expression_23 rfl ?_
  refine p_iconst (0) 25 rfl dX9_expression_24 rfl ?_
  refine p_putI 9 35 28 rfl dX9_expression_25 fl_X9_196 rfl rfl (Or.inl rfl) ?_
  have hF0 : Fj [32, 33, 34, 35] [] σ (sI (sI (sI (sI σ M0 32 (nI (fvl w).1)) M0 33 (nI (fvl w).2)) M0 34 0) M0 35 0) := (((Fj.sI (by simp)).tr (Fj.sI (by simp))).tr (Fj.sI (by simp))).tr (Fj.sI (by simp))
  have hX0 : RX (sI (sI (sI (sI σ M0 32 (nI (fvl w).1)) M0 33 (nI (fvl w).2)) M0 34 0) M0 35 0) tx z w (S, o, [], 0, fun _ => false) := by
    refine ⟨hT.fr hF0 rfl, h.fr hF0 rfl rfl, ⟨(hI_sIo (by decide)).trans ((hI_sIo (by decide)).trans ((hI_sIo (by decide)).trans (hI_sI _ _ _ _))), (hI_sIo (by decide)).trans ((hI_sIo (by decide)).trans (hI_sI _ _ _ _))⟩, fun _ => ⟨⟨(hI_sIo (by decide)).trans ((hI_sIo (by decide)).trans ((hI_sIo (by decide)).trans ((hI_sIo (by decide)).trans hc.1))), hc.2, (hI_sIo (by decide)).trans (hI_sI _ _ _ _), fun j hj => absurd hj (Nat.not_lt_zero _)⟩, ⟨hI_sI _ _ _ _, Nat.zero_le _⟩, fun i h1 h2 => absurd h2 (by show ¬ i ≤ 0; omega), ⟨by show o.length + 0 + 8 ≤ 2 * S.2.2.2.1; omega, Nat.zero_le _⟩⟩, fun q => absurd h0 q⟩
  refine p_aload_n 0 29 rfl rfl dX9_expression_28 rfl ?_
  refine p_cV0v 0 0 32 rfl dX9_expression_29 (c_deeper hX0 h0) ml_X9_205 vl_X9_deeper rfl (by decide) rfl (Nat.le_of_ble_eq_true rfl) (Nat.le_of_ble_eq_true rfl) (Nat.le_of_ble_eq_true rfl) (Nat.le_of_ble_eq_true rfl) rfl ?_
  intro σ1 hp1
  have hX1 : RX σ1 tx z w (exX S o (fun _ => false)) := hp1.1
  obtain ⟨F, hF3, N, he, hcont⟩ : ∃ F : MY, F.1 = 3 ∧ ∃ N, rnN tx z w N (0, exX S o (fun _ => false)) = F ∧ ∀ (σ2 : PH) (x3 x4 : Option Value), RX σ2 tx z w F.2 → Fj [14, 15, 18, 19, 20, 21, 22, 23, 31, 32, 33, 34, 35] [rCd, mWt, mTs] σ σ2 → Ok Γ 11 0 0 mX9_expression 340 [some (.ref M0), some (.int (nI (fvl w).1)), some (.int (nI (fvl w).2)), x3, x4] [] σ2 (rV (fun σ' => RdM σ' tx z Z0.1 ∧ (Z0.1.1 = 0 → CO σ' (o ++ encL w Z0.2 ++ [0]) ∧ (o ++ encL w Z0.2 ++ [0]).length ≤ 2 * Z0.1.2.2.2.1 ∧ hgt 0 Z0.2 = some 1 ∧ ∀ t ∈ Z0.2, okSt w t) ∧ Fj [14, 15, 18, 19, 20, 21, 22, 23, 31, 32, 33, 34, 35] [rCd, mWt, mTs] σ σ')) := by
    have hs := rule_sim (tx := tx) (w := w) hT.2.1 (o := o) (T := fun _ => false) h0 ho
    rw [hZ0] at hs
    rcases Classical.em (Z0.1.1 = 0) with hz1 | hz1
    · obtain ⟨X', ⟨N, hN⟩, q1, q2, q3, q4, q5, q6⟩ := hs.2 hz1
      refine ⟨(3, X'), rfl, N, hN, fun σ2 x3 x4 h2 hF2 => ?_⟩
      have h0' : (zS X').1 = 0 := by rw [q2]; exact hz1
      refine l_e340g h2 hF2 h0' ?_ q2 q4 q5 q6
      unfold finS at q1
      rcases Nat.lt_or_ge 1 (zD X') with u | u
      · rw [if_pos ⟨h0', u⟩] at q1
        exact absurd (by rw [q1]; exact h0') (fai_n (S := zS X') (z := z) (w := 1) (by decide))
      · exact u
    · obtain ⟨hk, X', ⟨N, hN⟩, q1, q2⟩ := hs.1 hz1
      refine ⟨(3, X'), rfl, N, hN, fun σ2 x3 x4 h2 hF2 => ?_⟩
      rcases Classical.em ((zS X').1 = 0) with h0' | h0'
      · unfold finS at q1 q2
        rcases Nat.lt_or_ge 1 (zD X') with u | u
        · rw [if_pos ⟨h0', u⟩] at q1 q2
          exact l_e340d h2 hF2 h0' u q1 q2 hk
        · rw [if_neg (fun q => absurd q.2 (by omega))] at q1
          exact absurd (q1.symm.trans h0') hz1
      · rw [fin_f h0'] at q1 q2
        exact l_e340f h2 hF2 h0' q1 q2 hk
  have hFa : Fj [14, 15, 18, 19, 20, 21, 22, 23, 31, 32, 33, 34, 35] [rCd, mWt, mTs] σ σ1 := (hF0.up (by decide) (by decide)).tr (hp1.2.up (by decide) (by decide))
  refine p_aload_n 0 33 rfl rfl dX9_expression_32 rfl ?_
  refine p_iconst (1) 34 rfl dX9_expression_33 rfl ?_
  refine p_cV1v 0 0 37 rfl dX9_expression_34 (c_mOperand hX1 (fun _ => rfl) hF3 (N := N) true he) ml_X9_214 vl_X9_operand rfl (by decide) rfl (Nat.le_of_ble_eq_true rfl) (Nat.le_of_ble_eq_true rfl) (Nat.le_of_ble_eq_true rfl) (Nat.le_of_ble_eq_true rfl) rfl ?_
  intro σ2 hp2
  refine p_iconst (1) 38 rfl dX9_expression_37 rfl ?_
  refine p_ist_n3 39 rfl rfl dX9_expression_38 (Nat.le_of_ble_eq_true rfl) rfl ?_
  have hFb := hFa.tr (hp2.2.up (YI := [14, 15, 18, 19, 20, 21, 22, 23, 31, 32, 33, 34, 35]) (Y := [rCd, mWt, mTs]) (by decide) (by decide))
  rcases hp2.1 with ⟨N', X', hn', e', h', g', d'⟩ | ⟨hf', h'⟩
  · exact l_ex (σ := σ2) hF3 (fun σ3 x3 x4 h3 hF3' => hcont σ3 x3 x4 h3 (hFb.tr (hF3'.up (by decide) (by decide)))) N' N' X' σ2 _ (Nat.le_refl _) e' h' g' d' Fj.rf
  · exact l_ex39f h' hf' (hcont σ2 _ _ h' hFb)
set_option maxRecDepth 4000 in
theorem c_begins {S : RS} (hT : TpM σ tx z) (h : RdM σ tx z S) (h0 : S.1 = 0) (b1 b2 : Bool) : CallOk Γ 5 0 0 mX9_begins [.ref M0, .int (b2i b1), .int (b2i b2)] σ (rX (fun v σ' => v = b2i (!(b1 || b2)) ∧ RdM σ' tx z (if b1 = true then fai z 2 S else if b2 = true then fai z 5 S else adv tx z S) ∧ Fj [14, 15, 18, 19, 20, 21, 22, 23] [] σ σ')) := by
  refine p_enter rfl rfl (Nat.le_of_ble_eq_true rfl) rfl ?_
  refine p_iload_n 1 1 rfl rfl dX9_begins_0 rfl ?_
  refine p_if_eq 9 4 rfl rfl dX9_begins_1 (fun h1 => ?_) (fun h1 => ?_)
  · refine p_iload_n 2 10 rfl rfl dX9_begins_9 rfl ?_
    refine p_if_eq 18 13 rfl rfl dX9_begins_10 (fun h10 => ?_) (fun h10 => ?_)
    · have hb1 : b1 = false := b2i_f h1
      have hb2 : b2 = false := b2i_f h10
      have eb : (if b1 = true then fai z 2 S else if b2 = true then fai z 5 S else adv tx z S) = adv tx z S := by rw [hb1, hb2, if_neg (by decide), if_neg (by decide)]
      have hv : (1 : Int32) = b2i (!(b1 || b2)) := by rw [hb1, hb2]; rfl
      refine p_aload_n 0 19 rfl rfl dX9_begins_18 rfl ?_
      refine p_cV0i 22 rfl dX9_begins_19 (c_isGood h) ml_X9_161 vl_X9_isGood rfl (by decide) rfl (Nat.le_of_ble_eq_true rfl) (Nat.le_of_ble_eq_true rfl) rfl ?_
      refine p_if_ne 27 25 rfl rfl dX9_begins_22 (fun h22 => ?_) (fun h22 => absurd (b2i_f h22) (by rw [h0]; decide))
      refine p_aload_n 0 28 rfl rfl dX9_begins_27 rfl ?_
      refine p_cV0v 0 0 31 rfl dX9_begins_28 (c_goesR hT h h0) ml_X9_165 vl_X9_goes rfl (by decide) rfl (Nat.le_of_ble_eq_true rfl) (Nat.le_of_ble_eq_true rfl) (Nat.le_of_ble_eq_true rfl) (Nat.le_of_ble_eq_true rfl) rfl ?_
      intro σ3 hp3
      refine p_iconst (1) 32 rfl dX9_begins_31 rfl ?_
      exact p_zret dX9_begins_32 rfl (by decide) ⟨_, rfl, hv, by rw [eb]; exact hp3.1, hp3.2.up (by decide) (by decide)⟩
    · refine p_aload_n 0 14 rfl rfl dX9_begins_13 rfl ?_
      refine p_iconst (5) 15 rfl dX9_begins_14 rfl ?_
      refine p_cV1v 0 0 18 rfl dX9_begins_15 (c_wrong h (w := 5) (by decide) (by decide)) ml_X9_168 vl_X9_wrong rfl (by decide) rfl (Nat.le_of_ble_eq_true rfl) (Nat.le_of_ble_eq_true rfl) (Nat.le_of_ble_eq_true rfl) (Nat.le_of_ble_eq_true rfl) rfl ?_
      intro σ2 hp2
      have hb1 : b1 = false := b2i_f h1
      have hb2 : b2 = true := b2i_t h10
      have eb : (if b1 = true then fai z 2 S else if b2 = true then fai z 5 S else adv tx z S) = fai z 5 S := by rw [hb1, if_neg (by decide), if_pos hb2]
      have hv : (0 : Int32) = b2i (!(b1 || b2)) := by rw [hb1, hb2]; rfl
      have hp9 : RdM σ2 tx z (if b1 = true then fai z 2 S else if b2 = true then fai z 5 S else adv tx z S) := by rw [eb]; exact hp2.1
      have hF9 : Fj [14, 15, 18, 19, 20, 21, 22, 23] [] σ σ2 := hp2.2.1.up (by decide) (by decide)
      refine p_aload_n 0 19 rfl rfl dX9_begins_18 rfl ?_
      refine p_cV0i 22 rfl dX9_begins_19 (c_isGood hp9) ml_X9_161 vl_X9_isGood rfl (by decide) rfl (Nat.le_of_ble_eq_true rfl) (Nat.le_of_ble_eq_true rfl) rfl ?_
      refine p_if_ne 27 25 rfl rfl dX9_begins_22 (fun h22 => absurd (b2i_t (fun q => h22 q)) (by rw [eb, (fai_k h0).2.1]; decide)) (fun h22 => ?_)
      refine p_iconst (0) 26 rfl dX9_begins_25 rfl ?_
      exact p_zret dX9_begins_26 rfl (by decide) ⟨_, rfl, hv, hp9, hF9⟩
  · refine p_aload_n 0 5 rfl rfl dX9_begins_4 rfl ?_
    refine p_iconst (2) 6 rfl dX9_begins_5 rfl ?_
    refine p_cV1v 0 0 9 rfl dX9_begins_6 (c_wrong h (w := 2) (by decide) (by decide)) ml_X9_168 vl_X9_wrong rfl (by decide) rfl (Nat.le_of_ble_eq_true rfl) (Nat.le_of_ble_eq_true rfl) (Nat.le_of_ble_eq_true rfl) (Nat.le_of_ble_eq_true rfl) rfl ?_
    intro σ1 hp1
    refine p_iload_n 2 10 rfl rfl dX9_begins_9 rfl ?_
    refine p_if_eq 18 13 rfl rfl dX9_begins_10 (fun h10 => ?_) (fun h10 => ?_)
    · have hb1 : b1 = true := b2i_t h1
      have eb : (if b1 = true then fai z 2 S else if b2 = true then fai z 5 S else adv tx z S) = fai z 2 S := if_pos hb1
      have hv : (0 : Int32) = b2i (!(b1 || b2)) := by rw [hb1]; rfl
      have hp9 : RdM σ1 tx z (if b1 = true then fai z 2 S else if b2 = true then fai z 5 S else adv tx z S) := by rw [eb]; exact hp1.1
      have hF9 : Fj [14, 15, 18, 19, 20, 21, 22, 23] [] σ σ1 := hp1.2.1.up (by decide) (by decide)
      refine p_aload_n 0 19 rfl rfl dX9_begins_18 rfl ?_
      refine p_cV0i 22 rfl dX9_begins_19 (c_isGood hp9) ml_X9_161 vl_X9_isGood rfl (by decide) rfl (Nat.le_of_ble_eq_true rfl) (Nat.le_of_ble_eq_true rfl) rfl ?_
      refine p_if_ne 27 25 rfl rfl dX9_begins_22 (fun h22 => absurd (b2i_t (fun q => h22 q)) (by rw [eb, (fai_k h0).2.1]; decide)) (fun h22 => ?_)
      refine p_iconst (0) 26 rfl dX9_begins_25 rfl ?_
      exact p_zret dX9_begins_26 rfl (by decide) ⟨_, rfl, hv, hp9, hF9⟩
    · refine p_aload_n 0 14 rfl rfl dX9_begins_13 rfl ?_
      refine p_iconst (5) 15 rfl dX9_begins_14 rfl ?_
      refine p_cV1v 0 0 18 rfl dX9_begins_15 (c_wrong hp1.1 (w := 5) (by decide) (by decide)) ml_X9_168 vl_X9_wrong rfl (by decide) rfl (Nat.le_of_ble_eq_true rfl) (Nat.le_of_ble_eq_true rfl) (Nat.le_of_ble_eq_true rfl) (Nat.le_of_ble_eq_true rfl) rfl ?_
      intro σ2 hp2
      have hb1 : b1 = true := b2i_t h1
      have eb : (if b1 = true then fai z 2 S else if b2 = true then fai z 5 S else adv tx z S) = fai z 2 S := if_pos hb1
      have hv : (0 : Int32) = b2i (!(b1 || b2)) := by rw [hb1]; rfl
      have hfa : fai z 5 (fai z 2 S) = fai z 2 S := fai_f (by rw [(fai_k h0).2.1]; decide)
      have hp9 : RdM σ2 tx z (if b1 = true then fai z 2 S else if b2 = true then fai z 5 S else adv tx z S) := by rw [eb, ← hfa]; exact hp2.1
      have hF9 : Fj [14, 15, 18, 19, 20, 21, 22, 23] [] σ σ2 := (hp1.2.1.tr hp2.2.1).up (by decide) (by decide)
      refine p_aload_n 0 19 rfl rfl dX9_begins_18 rfl ?_
      refine p_cV0i 22 rfl dX9_begins_19 (c_isGood hp9) ml_X9_161 vl_X9_isGood rfl (by decide) rfl (Nat.le_of_ble_eq_true rfl) (Nat.le_of_ble_eq_true rfl) rfl ?_
      refine p_if_ne 27 25 rfl rfl dX9_begins_22 (fun h22 => absurd (b2i_t (fun q => h22 q)) (by rw [eb, (fai_k h0).2.1]; decide)) (fun h22 => ?_)
      refine p_iconst (0) 26 rfl dX9_begins_25 rfl ?_
      exact p_zret dX9_begins_26 rfl (by decide) ⟨_, rfl, hv, hp9, hF9⟩
end Cab
