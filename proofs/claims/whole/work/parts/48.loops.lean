/-! ===== questions that go through the days ===== -/
section C48
variable {Γ : Gm} {σ : PH} {o o' : Nat} {A : AT}
set_option maxRecDepth 6000 in
theorem l_first (hT : IT σ o o' A) {s k : Nat} (hs : s < aC (tO A)) (hk : k < aW (tO A)) : ∀ (n i : Nat) (σ1 : PH), i + n = 41 → IA σ1 o o' A (daysF (tO A) i (tV A)) → Ch (inS sAux) σ σ1 → Ok Γ 14 0 0 mX8_first 17 [some (.ref T0), some (.int (nI s)), some (.int (nI k)), some (.int (nI i))] [] σ1 (rS (0, oI (fnd n i (fun q => (vK (daysF (tO A) q (tV A)) s).testBit k))) false (fun σ' => IT σ' o o' A ∧ Ch cls σ σ')) := by
  have hS := hT.1
  have hK := hT.2.1
  have hto : hR σ T0 3 = o := hT.2.2.1.2.2.1
  have hQ := hT.2.2.2.1
  have ho := hQ.1
  have hw := hT.2.2.2.2.1.1
  have hwo := hT.2.2.2.2.1.2
  have hv := hK.2.2.2.2.1.1
  have hd9 := hK.2.2.2.2.1.2
  have hY := hK.2.2.2.1
  have hO := hK.2.2.1
  have hs9 := hO.1
  have hc6 := hO.2.1
  have hw12 := hO.2.2.1
  have hk8 := hO.2.2.2.1
  intro n
  induction n with
  | zero =>
    intro i σ1 hi h1 hc1
    refine p_iload_n 3 18 rfl rfl dX8_first_17 rfl ?_
    refine p_bipush (40) 20 rfl dX8_first_18 rfl ?_
    refine p_icmp_gt 55 23 rfl rfl dX8_first_20 (fun h20 => ?_) (fun h20 => absurd (nI_lt (a := 40) (b := i) (by omega) (by omega)) h20)
    refine p_iconst (-1) 56 rfl dX8_first_55 rfl ?_
    exact p_iret dX8_first_56 rfl ⟨rfl, h1.1, hc1.aux⟩
  | succ n ih =>
    intro i σ1 hi h1 hc1
    have hS1 := h1.1.1
    have hw1 := h1.2.1
    have hwo1 := h1.2.2
    have hQ1 := h1.1.2.2.2.1
    have ho1 := hQ1.1
    have hto1 : hR σ1 T0 3 = o := h1.1.2.2.1.2.2.1
    have hn1 := h1.1.2.2.2.2.1.1
    have hno1 := h1.1.2.2.2.2.1.2
    have hdv := daysF_ok hO hv i (by omega)
    refine p_iload_n 3 18 rfl rfl dX8_first_17 rfl ?_
    refine p_bipush (40) 20 rfl dX8_first_18 rfl ?_
    refine p_icmp_gt 55 23 rfl rfl dX8_first_20 (fun h20 => absurd h20 (nI_nlt (a := 40) (b := i) (by omega) (by omega))) (fun h20 => ?_)
    refine p_aload_n 0 24 rfl rfl dX8_first_23 rfl ?_
    refine p_getR 8 7 27 rfl dX8_first_24 fl_X8_48 rfl rfl hS1.2.2.2.1 (by decide) ?_
    refine p_getR 7 5 30 rfl dX8_first_27 fl_X8_200 rfl rfl hw1.1.2.2.2.2.1 (mk0 (Nat.succ_ne_zero _)) ?_
    refine p_iload_n 1 31 rfl rfl dX8_first_30 rfl ?_
    refine p_ialdE 32 rfl dX8_first_31 (kd16 _ _) (lt6 (by omega)) (hw1.2.2.2 s (by omega)) ?_
    refine p_iload_n 2 33 rfl rfl dX8_first_32 rfl ?_
    refine p_cS2i 36 rfl dX8_first_33 (c_hasBitN (Nat.lt_trans (hdv.2.2.2 s (by omega)) (by decide)) (by omega)) ml_X8_274 sl_X8_hasBit (Nat.le_of_ble_eq_true rfl) (Nat.le_of_ble_eq_true rfl) rfl ?_
    refine p_if_eq 41 39 rfl rfl dX8_first_36 (fun h36 => ?_) (fun h36 => ?_)
    · refine p_aload_n 0 42 rfl rfl dX8_first_41 rfl ?_
      refine p_getR 8 7 45 rfl dX8_first_42 fl_X8_48 rfl rfl hS1.2.2.2.1 (by decide) ?_
      refine p_cV0x 0 0 48 rfl dX8_first_45 (c_passDay hQ1 hY hw1 hdv hwo1) ml_X8_278 vl_X7_passDay rfl (by decide) rfl (Nat.le_of_ble_eq_true rfl) (Nat.le_of_ble_eq_true rfl) (Nat.le_of_ble_eq_true rfl) (Nat.le_of_ble_eq_true rfl) rfl ?_
      rintro x2 σ2 ⟨-, hw2, hF2⟩
      refine p_pop 49 rfl dX8_first_48 rfl ?_
      refine p_inc_3 52 rfl dX8_first_49 (1) rfl (Nat.le_of_ble_eq_true rfl) rfl ?_
      refine p_goto 17 rfl dX8_first_52 ?_
      have hb : (vK (daysF (tO A) i (tV A)) s).testBit k = false := by simpa only [b2i_eq0, Bool.not_eq_true] using h36
      have e : fnd (n + 1) i (fun q => (vK (daysF (tO A) q (tV A)) s).testBit k) = fnd n (i + 1) (fun q => (vK (daysF (tO A) q (tV A)) s).testBit k) := by simp [fnd, hb]
      rw [nI_1, e]
      exact ih (i + 1) σ2 (by omega) (h1.wf hw2 hF2) (hc1.tr (hF2.aux ho.1.1))
    · refine p_iload_n 3 40 rfl rfl dX8_first_39 rfl ?_
      exact p_iret dX8_first_40 rfl ⟨by
        have hb : (vK (daysF (tO A) i (tV A)) s).testBit k = true := by simpa only [b2i_eq0, Decidable.not_not, Bool.not_eq_true, Bool.not_eq_false] using h36
        simp [fnd, hb, oI], h1.1, hc1.aux⟩
set_option maxRecDepth 6000 in
theorem t_first (hT : IT σ o o' A) (x y : Int32) : CallOk Γ 14 8 48 mX8_first [.ref T0, .int x, .int y] σ (rS (fFirst A x y) false (fun σ' => IT σ' o o' A ∧ Ch cls σ σ')) := by
  have hS := hT.1
  have hK := hT.2.1
  have hto : hR σ T0 3 = o := hT.2.2.1.2.2.1
  have hQ := hT.2.2.2.1
  have ho := hQ.1
  have hw := hT.2.2.2.2.1.1
  have hwo := hT.2.2.2.2.1.2
  have hv := hK.2.2.2.2.1.1
  have hd9 := hK.2.2.2.2.1.2
  have hY := hK.2.2.2.1
  have hO := hK.2.2.1
  have hs9 := hO.1
  have hc6 := hO.2.1
  have hw12 := hO.2.2.1
  have hk8 := hO.2.2.2.1
  refine p_enter rfl rfl (Nat.le_of_ble_eq_true rfl) rfl ?_
  refine p_aload_n 0 1 rfl rfl dX8_first_0 rfl ?_
  refine p_iload_n 1 2 rfl rfl dX8_first_1 rfl ?_
  refine p_cV1n 5 rfl dX8_first_2 (c_needClerk hto hQ _) ml_X8_194 vl_X8_needClerk rfl (by decide) rfl (Nat.le_of_ble_eq_true rfl) (Nat.le_of_ble_eq_true rfl) (Nat.le_of_ble_eq_true rfl) (Nat.le_of_ble_eq_true rfl) rfl (fun h2 => ?_) (fun h2 => ⟨by simp [fFirst, gd, h2], hT, Ch.rf⟩)
  obtain ⟨s, rfl, hs⟩ := asN h2 (by omega)
  have hsL : s < 2147483648 := by omega
  refine p_aload_n 0 6 rfl rfl dX8_first_5 rfl ?_
  refine p_iload_n 2 7 rfl rfl dX8_first_6 rfl ?_
  refine p_cV1n 10 rfl dX8_first_7 (c_needWord hto hQ _) ml_X8_211 vl_X8_needWord rfl (by decide) rfl (Nat.le_of_ble_eq_true rfl) (Nat.le_of_ble_eq_true rfl) (Nat.le_of_ble_eq_true rfl) (Nat.le_of_ble_eq_true rfl) rfl (fun h7 => ?_) (fun h7 => ⟨by simp [fFirst, gd, h2, h7], hT, Ch.rf⟩)
  obtain ⟨k, rfl, hk⟩ := asN h7 (by omega)
  have hkL : k < 2147483648 := by omega
  refine p_aload_n 0 11 rfl rfl dX8_first_10 rfl ?_
  refine p_iconst (0) 12 rfl dX8_first_11 rfl ?_
  refine p_cV1v 0 0 15 rfl dX8_first_12 (c_lookAhead (k := 0) hT (by omega)) ml_X8_271 vl_X8_lookAhead rfl (by decide) rfl (Nat.le_of_ble_eq_true rfl) (Nat.le_of_ble_eq_true rfl) (Nat.le_of_ble_eq_true rfl) (Nat.le_of_ble_eq_true rfl) rfl ?_
  rintro σ1 ⟨h1, hc1⟩
  refine p_iconst (0) 16 rfl dX8_first_15 rfl ?_
  refine p_ist_n3 17 rfl rfl dX8_first_16 (Nat.le_of_ble_eq_true rfl) rfl ?_
  have e : fFirst A (nI s) (nI k) = (0, oI (fnd 41 0 (fun q => (vK (daysF (tO A) q (tV A)) s).testBit k))) := by simp [fFirst, gd, h2, h7, iN_nI hsL, iN_nI hkL]
  rw [e]
  exact l_first hT hs hk 41 0 σ1 rfl h1 hc1
set_option maxRecDepth 6000 in
theorem l_chain (hT : IT σ o o' A) {s k : Nat} (hs : s < aC (tO A)) (hk : k < aW (tO A)) : ∀ (n i : Nat) (σ1 : PH), i + n = 41 → IA σ1 o o' A (chnF (tO A) i (tV A)) → Ch (inS sAux) σ σ1 → Ok Γ 14 0 0 mX8_chain 17 [some (.ref T0), some (.int (nI s)), some (.int (nI k)), some (.int (nI i))] [] σ1 (rS (0, oI (fnd n i (fun q => (vK (chnF (tO A) q (tV A)) s).testBit k))) false (fun σ' => IT σ' o o' A ∧ Ch cls σ σ')) := by
  have hS := hT.1
  have hK := hT.2.1
  have hto : hR σ T0 3 = o := hT.2.2.1.2.2.1
  have hQ := hT.2.2.2.1
  have ho := hQ.1
  have hw := hT.2.2.2.2.1.1
  have hwo := hT.2.2.2.2.1.2
  have hv := hK.2.2.2.2.1.1
  have hd9 := hK.2.2.2.2.1.2
  have hY := hK.2.2.2.1
  have hO := hK.2.2.1
  have hs9 := hO.1
  have hc6 := hO.2.1
  have hw12 := hO.2.2.1
  have hk8 := hO.2.2.2.1
  intro n
  induction n with
  | zero =>
    intro i σ1 hi h1 hc1
    refine p_iload_n 3 18 rfl rfl dX8_chain_17 rfl ?_
    refine p_bipush (40) 20 rfl dX8_chain_18 rfl ?_
    refine p_icmp_gt 62 23 rfl rfl dX8_chain_20 (fun h20 => ?_) (fun h20 => absurd (nI_lt (a := 40) (b := i) (by omega) (by omega)) h20)
    refine p_iconst (-1) 63 rfl dX8_chain_62 rfl ?_
    exact p_iret dX8_chain_63 rfl ⟨rfl, h1.1, hc1.aux⟩
  | succ n ih =>
    intro i σ1 hi h1 hc1
    have hS1 := h1.1.1
    have hw1 := h1.2.1
    have hwo1 := h1.2.2
    have hQ1 := h1.1.2.2.2.1
    have ho1 := hQ1.1
    have hto1 : hR σ1 T0 3 = o := h1.1.2.2.1.2.2.1
    have hn1 := h1.1.2.2.2.2.1.1
    have hno1 := h1.1.2.2.2.2.1.2
    have hdv := chnF_ok hO hv i (by omega)
    refine p_iload_n 3 18 rfl rfl dX8_chain_17 rfl ?_
    refine p_bipush (40) 20 rfl dX8_chain_18 rfl ?_
    refine p_icmp_gt 62 23 rfl rfl dX8_chain_20 (fun h20 => absurd h20 (nI_nlt (a := 40) (b := i) (by omega) (by omega))) (fun h20 => ?_)
    refine p_aload_n 0 24 rfl rfl dX8_chain_23 rfl ?_
    refine p_getR 8 7 27 rfl dX8_chain_24 fl_X8_48 rfl rfl hS1.2.2.2.1 (by decide) ?_
    refine p_getR 7 5 30 rfl dX8_chain_27 fl_X8_200 rfl rfl hw1.1.2.2.2.2.1 (mk0 (Nat.succ_ne_zero _)) ?_
    refine p_iload_n 1 31 rfl rfl dX8_chain_30 rfl ?_
    refine p_ialdE 32 rfl dX8_chain_31 (kd16 _ _) (lt6 (by omega)) (hw1.2.2.2 s (by omega)) ?_
    refine p_iload_n 2 33 rfl rfl dX8_chain_32 rfl ?_
    refine p_cS2i 36 rfl dX8_chain_33 (c_hasBitN (Nat.lt_trans (hdv.2.2.2 s (by omega)) (by decide)) (by omega)) ml_X8_274 sl_X8_hasBit (Nat.le_of_ble_eq_true rfl) (Nat.le_of_ble_eq_true rfl) rfl ?_
    refine p_if_eq 41 39 rfl rfl dX8_chain_36 (fun h36 => ?_) (fun h36 => ?_)
    · refine p_aload_n 0 42 rfl rfl dX8_chain_41 rfl ?_
      refine p_getR 8 7 45 rfl dX8_chain_42 fl_X8_48 rfl rfl hS1.2.2.2.1 (by decide) ?_
      refine p_cV0v 0 0 48 rfl dX8_chain_45 (c_tellInTowns ho1 hw1 hdv hwo1) ml_X8_289 vl_X7_tellInTowns rfl (by decide) rfl (Nat.le_of_ble_eq_true rfl) (Nat.le_of_ble_eq_true rfl) (Nat.le_of_ble_eq_true rfl) (Nat.le_of_ble_eq_true rfl) rfl ?_
      rintro σ2 ⟨hw2, hF2⟩
      have h2 := h1.wf hw2 hF2
      have hdv2 := telF_ok hO hdv 4
      refine p_aload_n 0 49 rfl rfl dX8_chain_48 rfl ?_
      refine p_getR 8 7 52 rfl dX8_chain_49 fl_X8_48 rfl rfl h2.1.1.2.2.2.1 (by decide) ?_
      refine p_cV0x 0 0 55 rfl dX8_chain_52 (c_passDay h2.1.2.2.2.1 hY hw2 hdv2 h2.2.2) ml_X8_278 vl_X7_passDay rfl (by decide) rfl (Nat.le_of_ble_eq_true rfl) (Nat.le_of_ble_eq_true rfl) (Nat.le_of_ble_eq_true rfl) (Nat.le_of_ble_eq_true rfl) rfl ?_
      rintro x3 σ3 ⟨-, hw3, hF3⟩
      refine p_pop 56 rfl dX8_chain_55 rfl ?_
      refine p_inc_3 59 rfl dX8_chain_56 (1) rfl (Nat.le_of_ble_eq_true rfl) rfl ?_
      refine p_goto 17 rfl dX8_chain_59 ?_
      have hb : (vK (chnF (tO A) i (tV A)) s).testBit k = false := by simpa only [b2i_eq0, Bool.not_eq_true] using h36
      have e : fnd (n + 1) i (fun q => (vK (chnF (tO A) q (tV A)) s).testBit k) = fnd n (i + 1) (fun q => (vK (chnF (tO A) q (tV A)) s).testBit k) := by simp [fnd, hb]
      rw [nI_1, e]
      exact ih (i + 1) σ3 (by omega) (h2.wf hw3 hF3) ((hc1.tr (hF2.aux ho.1.1)).tr (hF3.aux ho.1.1))
    · refine p_iload_n 3 40 rfl rfl dX8_chain_39 rfl ?_
      exact p_iret dX8_chain_40 rfl ⟨by
        have hb : (vK (chnF (tO A) i (tV A)) s).testBit k = true := by simpa only [b2i_eq0, Decidable.not_not, Bool.not_eq_true, Bool.not_eq_false] using h36
        simp [fnd, hb, oI], h1.1, hc1.aux⟩
set_option maxRecDepth 6000 in
theorem t_chain (hT : IT σ o o' A) (x y : Int32) : CallOk Γ 14 8 48 mX8_chain [.ref T0, .int x, .int y] σ (rS (fChain A x y) false (fun σ' => IT σ' o o' A ∧ Ch cls σ σ')) := by
  have hS := hT.1
  have hK := hT.2.1
  have hto : hR σ T0 3 = o := hT.2.2.1.2.2.1
  have hQ := hT.2.2.2.1
  have ho := hQ.1
  have hw := hT.2.2.2.2.1.1
  have hwo := hT.2.2.2.2.1.2
  have hv := hK.2.2.2.2.1.1
  have hd9 := hK.2.2.2.2.1.2
  have hY := hK.2.2.2.1
  have hO := hK.2.2.1
  have hs9 := hO.1
  have hc6 := hO.2.1
  have hw12 := hO.2.2.1
  have hk8 := hO.2.2.2.1
  refine p_enter rfl rfl (Nat.le_of_ble_eq_true rfl) rfl ?_
  refine p_aload_n 0 1 rfl rfl dX8_chain_0 rfl ?_
  refine p_iload_n 1 2 rfl rfl dX8_chain_1 rfl ?_
  refine p_cV1n 5 rfl dX8_chain_2 (c_needClerk hto hQ _) ml_X8_194 vl_X8_needClerk rfl (by decide) rfl (Nat.le_of_ble_eq_true rfl) (Nat.le_of_ble_eq_true rfl) (Nat.le_of_ble_eq_true rfl) (Nat.le_of_ble_eq_true rfl) rfl (fun h2 => ?_) (fun h2 => ⟨by simp [fChain, gd, h2], hT, Ch.rf⟩)
  obtain ⟨s, rfl, hs⟩ := asN h2 (by omega)
  have hsL : s < 2147483648 := by omega
  refine p_aload_n 0 6 rfl rfl dX8_chain_5 rfl ?_
  refine p_iload_n 2 7 rfl rfl dX8_chain_6 rfl ?_
  refine p_cV1n 10 rfl dX8_chain_7 (c_needWord hto hQ _) ml_X8_211 vl_X8_needWord rfl (by decide) rfl (Nat.le_of_ble_eq_true rfl) (Nat.le_of_ble_eq_true rfl) (Nat.le_of_ble_eq_true rfl) (Nat.le_of_ble_eq_true rfl) rfl (fun h7 => ?_) (fun h7 => ⟨by simp [fChain, gd, h2, h7], hT, Ch.rf⟩)
  obtain ⟨k, rfl, hk⟩ := asN h7 (by omega)
  have hkL : k < 2147483648 := by omega
  refine p_aload_n 0 11 rfl rfl dX8_chain_10 rfl ?_
  refine p_iconst (0) 12 rfl dX8_chain_11 rfl ?_
  refine p_cV1v 0 0 15 rfl dX8_chain_12 (c_lookAhead (k := 0) hT (by omega)) ml_X8_271 vl_X8_lookAhead rfl (by decide) rfl (Nat.le_of_ble_eq_true rfl) (Nat.le_of_ble_eq_true rfl) (Nat.le_of_ble_eq_true rfl) (Nat.le_of_ble_eq_true rfl) rfl ?_
  rintro σ1 ⟨h1, hc1⟩
  refine p_iconst (0) 16 rfl dX8_chain_15 rfl ?_
  refine p_ist_n3 17 rfl rfl dX8_chain_16 (Nat.le_of_ble_eq_true rfl) rfl ?_
  have e : fChain A (nI s) (nI k) = (0, oI (fnd 41 0 (fun q => (vK (chnF (tO A) q (tV A)) s).testBit k))) := by simp [fChain, gd, h2, h7, iN_nI hsL, iN_nI hkL]
  rw [e]
  exact l_chain hT hs hk 41 0 σ1 rfl h1 hc1
set_option maxRecDepth 6000 in
theorem l_mould (hT : IT σ o o' A) {s : Nat} (hs : s < aS (tO A)) : ∀ (n i : Nat) (σ1 : PH), i + n = 40 → IA σ1 o o' A (daysF (tO A) i (tV A)) → Ch (inS sAux) σ σ1 → Ok Γ 14 0 0 mX8_mould 12 [some (.ref T0), some (.int (nI s)), some (.int (nI (i + 1)))] [] σ1 (rS (0, oI (fnd n (i + 1) (fun q => vR (daysF (tO A) q (tV A)) s != vR (tV A) s))) false (fun σ' => IT σ' o o' A ∧ Ch cls σ σ')) := by
  have hS := hT.1
  have hK := hT.2.1
  have hto : hR σ T0 3 = o := hT.2.2.1.2.2.1
  have hQ := hT.2.2.2.1
  have ho := hQ.1
  have hw := hT.2.2.2.2.1.1
  have hwo := hT.2.2.2.2.1.2
  have hv := hK.2.2.2.2.1.1
  have hd9 := hK.2.2.2.2.1.2
  have hY := hK.2.2.2.1
  have hO := hK.2.2.1
  have hs9 := hO.1
  have hc6 := hO.2.1
  have hw12 := hO.2.2.1
  have hk8 := hO.2.2.2.1
  intro n
  induction n with
  | zero =>
    intro i σ1 hi h1 hc1
    refine p_iload_n 2 13 rfl rfl dX8_mould_12 rfl ?_
    refine p_bipush (40) 15 rfl dX8_mould_13 rfl ?_
    refine p_icmp_gt 55 18 rfl rfl dX8_mould_15 (fun h15 => ?_) (fun h15 => absurd (nI_lt (a := 40) (b := i + 1) (by omega) (by omega)) h15)
    refine p_iconst (-1) 56 rfl dX8_mould_55 rfl ?_
    exact p_iret dX8_mould_56 rfl ⟨rfl, h1.1, hc1.aux⟩
  | succ n ih =>
    intro i σ1 hi h1 hc1
    have hS1 := h1.1.1
    have hw1 := h1.2.1
    have hwo1 := h1.2.2
    have hQ1 := h1.1.2.2.2.1
    have ho1 := hQ1.1
    have hto1 : hR σ1 T0 3 = o := h1.1.2.2.1.2.2.1
    have hn1 := h1.1.2.2.2.2.1.1
    have hno1 := h1.1.2.2.2.2.1.2
    have hdv := daysF_ok hO hv i (by omega)
    have hdv2 := daysF_ok hO hv (i + 1) (by omega)
    refine p_iload_n 2 13 rfl rfl dX8_mould_12 rfl ?_
    refine p_bipush (40) 15 rfl dX8_mould_13 rfl ?_
    refine p_icmp_gt 55 18 rfl rfl dX8_mould_15 (fun h15 => absurd h15 (nI_nlt (a := 40) (b := i + 1) (by omega) (by omega))) (fun h15 => ?_)
    refine p_aload_n 0 19 rfl rfl dX8_mould_18 rfl ?_
    refine p_getR 8 7 22 rfl dX8_mould_19 fl_X8_48 rfl rfl hS1.2.2.2.1 (by decide) ?_
    refine p_cV0x 0 0 25 rfl dX8_mould_22 (c_passDay hQ1 hY hw1 hdv hwo1) ml_X8_278 vl_X7_passDay rfl (by decide) rfl (Nat.le_of_ble_eq_true rfl) (Nat.le_of_ble_eq_true rfl) (Nat.le_of_ble_eq_true rfl) (Nat.le_of_ble_eq_true rfl) rfl ?_
    rintro x2 σ2 ⟨-, hw2, hF2⟩
    have h2 := h1.wf hw2 hF2
    have hc2 := hc1.tr (hF2.aux ho.1.1)
    refine p_pop 26 rfl dX8_mould_25 rfl ?_
    refine p_aload_n 0 27 rfl rfl dX8_mould_26 rfl ?_
    refine p_getR 8 7 30 rfl dX8_mould_27 fl_X8_48 rfl rfl h2.1.1.2.2.2.1 (by decide) ?_
    refine p_getR 7 3 33 rfl dX8_mould_30 fl_X8_178 rfl rfl hw2.1.2.2.1 (mk0 (Nat.succ_ne_zero _)) ?_
    refine p_iload_n 1 34 rfl rfl dX8_mould_33 rfl ?_
    refine p_ialdE 35 rfl dX8_mould_34 (kd16 _ _) (lt9 (by omega)) (hw2.2.2.1 s (by omega)).2.1 ?_
    refine p_aload_n 0 36 rfl rfl dX8_mould_35 rfl ?_
    refine p_getR 8 6 39 rfl dX8_mould_36 fl_X8_44 rfl rfl h2.1.1.2.2.1 (by decide) ?_
    refine p_getR 7 3 42 rfl dX8_mould_39 fl_X8_178 rfl rfl h2.1.2.2.2.2.1.1.1.2.2.1 (mk0 (Nat.succ_ne_zero _)) ?_
    refine p_iload_n 1 43 rfl rfl dX8_mould_42 rfl ?_
    refine p_ialdE 44 rfl dX8_mould_43 (kd16 _ _) (lt9 (by omega)) (h2.1.2.2.2.2.1.1.2.2.1 s (by omega)).2.1 ?_
    refine p_icmp_eq 49 47 rfl rfl dX8_mould_44 (fun h44 => ?_) (fun h44 => ?_)
    · refine p_inc_2 52 rfl dX8_mould_49 (1) rfl (Nat.le_of_ble_eq_true rfl) rfl ?_
      refine p_goto 12 rfl dX8_mould_52 ?_
      have hb : vR (daysF (tO A) (i + 1) (tV A)) s = vR (tV A) s := (nI_eq (by have := (hdv2.2.1 s (by omega)).2.1; omega) (by have := (hv.2.1 s (by omega)).2.1; omega)).mp h44
      have e : fnd (n + 1) (i + 1) (fun q => vR (daysF (tO A) q (tV A)) s != vR (tV A) s) = fnd n (i + 1 + 1) (fun q => vR (daysF (tO A) q (tV A)) s != vR (tV A) s) := by simp [fnd, hb]
      rw [nI_1, e]
      exact ih (i + 1) σ2 (by omega) h2 hc2
    · refine p_iload_n 2 48 rfl rfl dX8_mould_47 rfl ?_
      exact p_iret dX8_mould_48 rfl ⟨by
        have hb : ¬ vR (daysF (tO A) (i + 1) (tV A)) s = vR (tV A) s := fun z => h44 (by rw [← z]; rfl)
        simp [fnd, hb, oI], h2.1, hc2.aux⟩
set_option maxRecDepth 6000 in
theorem t_mould (hT : IT σ o o' A) (x : Int32) : CallOk Γ 14 8 48 mX8_mould [.ref T0, .int x] σ (rS (fMould A x) false (fun σ' => IT σ' o o' A ∧ Ch cls σ σ')) := by
  have hS := hT.1
  have hK := hT.2.1
  have hto : hR σ T0 3 = o := hT.2.2.1.2.2.1
  have hQ := hT.2.2.2.1
  have ho := hQ.1
  have hw := hT.2.2.2.2.1.1
  have hwo := hT.2.2.2.2.1.2
  have hv := hK.2.2.2.2.1.1
  have hd9 := hK.2.2.2.2.1.2
  have hY := hK.2.2.2.1
  have hO := hK.2.2.1
  have hs9 := hO.1
  have hc6 := hO.2.1
  have hw12 := hO.2.2.1
  have hk8 := hO.2.2.2.1
  refine p_enter rfl rfl (Nat.le_of_ble_eq_true rfl) rfl ?_
  refine p_aload_n 0 1 rfl rfl dX8_mould_0 rfl ?_
  refine p_iload_n 1 2 rfl rfl dX8_mould_1 rfl ?_
  refine p_cV1n 5 rfl dX8_mould_2 (c_needSheet hto hQ _) ml_X8_172 vl_X8_needSheet rfl (by decide) rfl (Nat.le_of_ble_eq_true rfl) (Nat.le_of_ble_eq_true rfl) (Nat.le_of_ble_eq_true rfl) (Nat.le_of_ble_eq_true rfl) rfl (fun h2 => ?_) (fun h2 => ⟨by simp [fMould, gd, h2], hT, Ch.rf⟩)
  obtain ⟨s, rfl, hs⟩ := asN h2 (by omega)
  have hsL : s < 2147483648 := by omega
  refine p_aload_n 0 6 rfl rfl dX8_mould_5 rfl ?_
  refine p_iconst (0) 7 rfl dX8_mould_6 rfl ?_
  refine p_cV1v 0 0 10 rfl dX8_mould_7 (c_lookAhead (k := 0) hT (by omega)) ml_X8_271 vl_X8_lookAhead rfl (by decide) rfl (Nat.le_of_ble_eq_true rfl) (Nat.le_of_ble_eq_true rfl) (Nat.le_of_ble_eq_true rfl) (Nat.le_of_ble_eq_true rfl) rfl ?_
  rintro σ1 ⟨h1, hc1⟩
  refine p_iconst (1) 11 rfl dX8_mould_10 rfl ?_
  refine p_ist_n2 12 rfl rfl dX8_mould_11 (Nat.le_of_ble_eq_true rfl) rfl ?_
  have e : fMould A (nI s) = (0, oI (fnd 40 1 (fun q => vR (daysF (tO A) q (tV A)) s != vR (tV A) s))) := by simp [fMould, gd, h2, iN_nI hsL]
  rw [e]
  exact l_mould hT hs 40 0 σ1 rfl h1 hc1
set_option maxRecDepth 6000 in
theorem l_meet (hT : IT σ o o' A) {s k : Nat} (hs : s < aS (tO A)) (hk : k < aS (tO A)) : ∀ (n i : Nat) (x4 : Option Value), i + n = 41 → Ok Γ 14 0 0 mX8_meet 19 [some (.ref T0), some (.int (nI s)), some (.int (nI k)), some (.int (nI i)), x4] [] σ (rS (0, oI (fnd n i (fun q => tOf (tO A) (tV A) s q != 0 && tOf (tO A) (tV A) s q == tOf (tO A) (tV A) k q))) false (fun σ' => IT σ' o o' A ∧ Ch cls σ σ')) := by
  have hS := hT.1
  have hK := hT.2.1
  have hto : hR σ T0 3 = o := hT.2.2.1.2.2.1
  have hQ := hT.2.2.2.1
  have ho := hQ.1
  have hw := hT.2.2.2.2.1.1
  have hwo := hT.2.2.2.2.1.2
  have hv := hK.2.2.2.2.1.1
  have hd9 := hK.2.2.2.2.1.2
  have hY := hK.2.2.2.1
  have hO := hK.2.2.1
  have hs9 := hO.1
  have hc6 := hO.2.1
  have hw12 := hO.2.2.1
  have hk8 := hO.2.2.2.1
  intro n
  induction n with
  | zero =>
    intro i x4 hi
    refine p_iload_n 3 20 rfl rfl dX8_meet_19 rfl ?_
    refine p_bipush (40) 22 rfl dX8_meet_20 rfl ?_
    refine p_icmp_gt 64 25 rfl rfl dX8_meet_22 (fun h22 => ?_) (fun h22 => absurd (nI_lt (a := 40) (b := i) (by omega) (by omega)) h22)
    refine p_iconst (-1) 65 rfl dX8_meet_64 rfl ?_
    exact p_iret dX8_meet_65 rfl ⟨rfl, hT, Ch.rf⟩
  | succ n ih =>
    intro i x4 hi
    have hts := tOf_lt hO hv (s := s) (k := i) hs
    have htk := tOf_lt hO hv (s := k) (k := i) hk
    refine p_iload_n 3 20 rfl rfl dX8_meet_19 rfl ?_
    refine p_bipush (40) 22 rfl dX8_meet_20 rfl ?_
    refine p_icmp_gt 64 25 rfl rfl dX8_meet_22 (fun h22 => absurd h22 (nI_nlt (a := 40) (b := i) (by omega) (by omega))) (fun h22 => ?_)
    refine p_aload_n 0 26 rfl rfl dX8_meet_25 rfl ?_
    refine p_getR 8 6 29 rfl dX8_meet_26 fl_X8_44 rfl rfl hS.2.2.1 (by decide) ?_
    refine p_iload_n 1 30 rfl rfl dX8_meet_29 rfl ?_
    refine p_iload_n 3 31 rfl rfl dX8_meet_30 rfl ?_
    refine p_cV2i 34 rfl dX8_meet_31 (c_townOf ho hw hv hwo hs (by omega)) ml_X8_181 vl_X7_townOf rfl (by decide) rfl (Nat.le_of_ble_eq_true rfl) (Nat.le_of_ble_eq_true rfl) rfl ?_
    refine p_ist_4 36 rfl dX8_meet_34 (Nat.le_of_ble_eq_true rfl) rfl ?_
    refine p_iload 4 38 rfl dX8_meet_36 rfl ?_
    refine p_iconst (-1) 39 rfl dX8_meet_38 rfl ?_
    refine p_icmp_eq 58 42 rfl rfl dX8_meet_39 (fun h39 => ?_) (fun h39 => ?_)
    · refine p_inc_3 61 rfl dX8_meet_58 (1) rfl (Nat.le_of_ble_eq_true rfl) rfl ?_
      refine p_goto 19 rfl dX8_meet_61 ?_
      have h0 : tOf (tO A) (tV A) s i = 0 := (pI_m1 (by omega)).mp h39
      have e : fnd (n + 1) i (fun q => tOf (tO A) (tV A) s q != 0 && tOf (tO A) (tV A) s q == tOf (tO A) (tV A) k q) = fnd n (i + 1) (fun q => tOf (tO A) (tV A) s q != 0 && tOf (tO A) (tV A) s q == tOf (tO A) (tV A) k q) := by simp [fnd, h0]
      rw [nI_1, e]
      exact ih (i + 1) _ (by omega)
    · refine p_iload 4 44 rfl dX8_meet_42 rfl ?_
      refine p_aload_n 0 45 rfl rfl dX8_meet_44 rfl ?_
      refine p_getR 8 6 48 rfl dX8_meet_45 fl_X8_44 rfl rfl hS.2.2.1 (by decide) ?_
      refine p_iload_n 2 49 rfl rfl dX8_meet_48 rfl ?_
      refine p_iload_n 3 50 rfl rfl dX8_meet_49 rfl ?_
      refine p_cV2i 53 rfl dX8_meet_50 (c_townOf ho hw hv hwo hk (by omega)) ml_X8_181 vl_X7_townOf rfl (by decide) rfl (Nat.le_of_ble_eq_true rfl) (Nat.le_of_ble_eq_true rfl) rfl ?_
      refine p_icmp_ne 58 56 rfl rfl dX8_meet_53 (fun h53 => ?_) (fun h53 => ?_)
      · refine p_inc_3 61 rfl dX8_meet_58 (1) rfl (Nat.le_of_ble_eq_true rfl) rfl ?_
        refine p_goto 19 rfl dX8_meet_61 ?_
        have h0 : ¬ tOf (tO A) (tV A) s i = tOf (tO A) (tV A) k i := fun z => h53 (by rw [z])
        have e : fnd (n + 1) i (fun q => tOf (tO A) (tV A) s q != 0 && tOf (tO A) (tV A) s q == tOf (tO A) (tV A) k q) = fnd n (i + 1) (fun q => tOf (tO A) (tV A) s q != 0 && tOf (tO A) (tV A) s q == tOf (tO A) (tV A) k q) := by simp [fnd, h0]
        rw [nI_1, e]
        exact ih (i + 1) _ (by omega)
      · refine p_iload_n 3 57 rfl rfl dX8_meet_56 rfl ?_
        exact p_iret dX8_meet_57 rfl ⟨by
        have h0 : ¬ tOf (tO A) (tV A) s i = 0 := fun z => h39 (by rw [z]; rfl)
        have hb := (pI_inj (by omega) (by omega)).mp h53
        have hb0 : ¬ tOf (tO A) (tV A) k i = 0 := fun z => h0 (hb.trans z)
        simp [fnd, hb, hb0, oI], hT, Ch.rf⟩
set_option maxRecDepth 6000 in
theorem t_meet (hT : IT σ o o' A) (x y : Int32) : CallOk Γ 14 8 48 mX8_meet [.ref T0, .int x, .int y] σ (rS (fMeet A x y) false (fun σ' => IT σ' o o' A ∧ Ch cls σ σ')) := by
  have hS := hT.1
  have hK := hT.2.1
  have hto : hR σ T0 3 = o := hT.2.2.1.2.2.1
  have hQ := hT.2.2.2.1
  have ho := hQ.1
  have hw := hT.2.2.2.2.1.1
  have hwo := hT.2.2.2.2.1.2
  have hv := hK.2.2.2.2.1.1
  have hd9 := hK.2.2.2.2.1.2
  have hY := hK.2.2.2.1
  have hO := hK.2.2.1
  have hs9 := hO.1
  have hc6 := hO.2.1
  have hw12 := hO.2.2.1
  have hk8 := hO.2.2.2.1
  refine p_enter rfl rfl (Nat.le_of_ble_eq_true rfl) rfl ?_
  refine p_aload_n 0 1 rfl rfl dX8_meet_0 rfl ?_
  refine p_iload_n 1 2 rfl rfl dX8_meet_1 rfl ?_
  refine p_cV1n 5 rfl dX8_meet_2 (c_needSheet hto hQ _) ml_X8_172 vl_X8_needSheet rfl (by decide) rfl (Nat.le_of_ble_eq_true rfl) (Nat.le_of_ble_eq_true rfl) (Nat.le_of_ble_eq_true rfl) (Nat.le_of_ble_eq_true rfl) rfl (fun h2 => ?_) (fun h2 => ⟨by simp [fMeet, gd, h2], hT, Ch.rf⟩)
  obtain ⟨s, rfl, hs⟩ := asN h2 (by omega)
  have hsL : s < 2147483648 := by omega
  refine p_aload_n 0 6 rfl rfl dX8_meet_5 rfl ?_
  refine p_iload_n 2 7 rfl rfl dX8_meet_6 rfl ?_
  refine p_cV1n 10 rfl dX8_meet_7 (c_needSheet hto hQ _) ml_X8_172 vl_X8_needSheet rfl (by decide) rfl (Nat.le_of_ble_eq_true rfl) (Nat.le_of_ble_eq_true rfl) (Nat.le_of_ble_eq_true rfl) (Nat.le_of_ble_eq_true rfl) rfl (fun h7 => ?_) (fun h7 => ⟨by simp [fMeet, gd, h2, h7], hT, Ch.rf⟩)
  obtain ⟨k, rfl, hk⟩ := asN h7 (by omega)
  have hkL : k < 2147483648 := by omega
  refine p_iload_n 1 11 rfl rfl dX8_meet_10 rfl ?_
  refine p_iload_n 2 12 rfl rfl dX8_meet_11 rfl ?_
  refine p_icmp_ne 17 15 rfl rfl dX8_meet_12 (fun h12 => ?_) (fun h12 => ?_)
  · refine p_iconst (0) 18 rfl dX8_meet_17 rfl ?_
    refine p_ist_n3 19 rfl rfl dX8_meet_18 (Nat.le_of_ble_eq_true rfl) rfl ?_
    have hne : ¬ s = k := fun z => h12 (by rw [z])
    have e : fMeet A (nI s) (nI k) = (0, oI (fnd 41 0 (fun q => tOf (tO A) (tV A) s q != 0 && tOf (tO A) (tV A) s q == tOf (tO A) (tV A) k q))) := by simp [fMeet, gd, h2, h7, iN_nI hsL, iN_nI hkL, hne]
    rw [e]
    exact (l_meet hT hs hk 41 0 _ rfl).sub (Nat.le_refl _) (Nat.zero_le _) (Nat.zero_le _)
  · refine p_iconst (-1) 16 rfl dX8_meet_15 rfl ?_
    exact p_iret dX8_meet_16 rfl ⟨by simp [fMeet, gd, h2, h7, iN_nI hsL, iN_nI hkL, (nI_eq hsL hkL).mp h12], hT, Ch.rf⟩
set_option maxRecDepth 6000 in
theorem l_laid (hT : IT σ o o' A) {k : Nat} (hk : k ≤ 40) : ∀ (n i : Nat) (σ1 : PH), i + n = k → IA σ1 o o' A (daysF (tO A) i (tV A)) → Ch (inS sAux) σ σ1 → Ok Γ 14 0 0 mX8_laid 16 [some (.ref T0), some (.int (nI k)), some (.int (nI (cntN i (fun q => lrnF (tO A) (daysF (tO A) q (tV A)) 4)))), some (.int (nI i))] [] σ1 (rS (0, nI (cntN k (fun q => lrnF (tO A) (daysF (tO A) q (tV A)) 4))) true (fun σ' => IT σ' o o' A ∧ Ch cls σ σ')) := by
  have hS := hT.1
  have hK := hT.2.1
  have hto : hR σ T0 3 = o := hT.2.2.1.2.2.1
  have hQ := hT.2.2.2.1
  have ho := hQ.1
  have hw := hT.2.2.2.2.1.1
  have hwo := hT.2.2.2.2.1.2
  have hv := hK.2.2.2.2.1.1
  have hd9 := hK.2.2.2.2.1.2
  have hY := hK.2.2.2.1
  have hO := hK.2.2.1
  have hs9 := hO.1
  have hc6 := hO.2.1
  have hw12 := hO.2.2.1
  have hk8 := hO.2.2.2.1
  intro n
  induction n with
  | zero =>
    intro i σ1 hi h1 hc1
    refine p_iload_n 3 17 rfl rfl dX8_laid_16 rfl ?_
    refine p_iload_n 1 18 rfl rfl dX8_laid_17 rfl ?_
    refine p_icmp_ge 40 21 rfl rfl dX8_laid_18 (fun h18 => ?_) (fun h18 => absurd (nI_le (a := k) (b := i) (by omega) (by omega)) h18)
    refine p_iload_n 2 41 rfl rfl dX8_laid_40 rfl ?_
    exact p_iret dX8_laid_41 rfl ⟨by rw [show k = i by omega]; rfl, h1.1, hc1.aux⟩
  | succ n ih =>
    intro i σ1 hi h1 hc1
    have hS1 := h1.1.1
    have hw1 := h1.2.1
    have hwo1 := h1.2.2
    have hQ1 := h1.1.2.2.2.1
    have ho1 := hQ1.1
    have hto1 : hR σ1 T0 3 = o := h1.1.2.2.1.2.2.1
    have hn1 := h1.1.2.2.2.2.1.1
    have hno1 := h1.1.2.2.2.2.1.2
    have hdv := daysF_ok hO hv i (by omega)
    refine p_iload_n 3 17 rfl rfl dX8_laid_16 rfl ?_
    refine p_iload_n 1 18 rfl rfl dX8_laid_17 rfl ?_
    refine p_icmp_ge 40 21 rfl rfl dX8_laid_18 (fun h18 => absurd h18 (nI_ge (a := i) (b := k) (by omega) (by omega))) (fun h18 => ?_)
    refine p_aload_n 0 22 rfl rfl dX8_laid_21 rfl ?_
    refine p_getR 8 7 25 rfl dX8_laid_22 fl_X8_48 rfl rfl hS1.2.2.2.1 (by decide) ?_
    refine p_cV0x 0 0 28 rfl dX8_laid_25 (c_passDay hQ1 hY hw1 hdv hwo1) ml_X8_278 vl_X7_passDay rfl (by decide) rfl (Nat.le_of_ble_eq_true rfl) (Nat.le_of_ble_eq_true rfl) (Nat.le_of_ble_eq_true rfl) (Nat.le_of_ble_eq_true rfl) rfl ?_
    rintro x2 σ2 ⟨hx2, hw2, hF2⟩
    subst hx2
    refine p_if_eq 34 31 rfl rfl dX8_laid_28 (fun h28 => ?_) (fun h28 => ?_)
    · refine p_inc_3 37 rfl dX8_laid_34 (1) rfl (Nat.le_of_ble_eq_true rfl) rfl ?_
      refine p_goto 16 rfl dX8_laid_37 ?_
      have hb : lrnF (tO A) (daysF (tO A) i (tV A)) 4 = false := by simpa only [b2i_eq0, Bool.not_eq_true] using h28
      have e : cntN (i + 1) (fun q => lrnF (tO A) (daysF (tO A) q (tV A)) 4) = cntN i (fun q => lrnF (tO A) (daysF (tO A) q (tV A)) 4) := by simp [cntN, hb]
      rw [nI_1, ← e]
      exact ih (i + 1) σ2 (by omega) (h1.wf hw2 hF2) (hc1.tr (hF2.aux ho.1.1))
    · refine p_inc_2 34 rfl dX8_laid_31 (1) rfl (Nat.le_of_ble_eq_true rfl) rfl ?_
      refine p_inc_3 37 rfl dX8_laid_34 (1) rfl (Nat.le_of_ble_eq_true rfl) rfl ?_
      refine p_goto 16 rfl dX8_laid_37 ?_
      have hb : lrnF (tO A) (daysF (tO A) i (tV A)) 4 = true := by simpa only [b2i_eq0, Decidable.not_not, Bool.not_eq_true, Bool.not_eq_false] using h28
      have e : cntN (i + 1) (fun q => lrnF (tO A) (daysF (tO A) q (tV A)) 4) = cntN i (fun q => lrnF (tO A) (daysF (tO A) q (tV A)) 4) + 1 := by simp [cntN, hb]
      rw [nI_1, nI_1, ← e]
      exact ih (i + 1) σ2 (by omega) (h1.wf hw2 hF2) (hc1.tr (hF2.aux ho.1.1))
set_option maxRecDepth 6000 in
theorem t_laid (hT : IT σ o o' A) (y : Int32) : CallOk Γ 14 8 48 mX8_laid [.ref T0, .int y] σ (rS (fLaid A y) true (fun σ' => IT σ' o o' A ∧ Ch cls σ σ')) := by
  have hS := hT.1
  have hK := hT.2.1
  have hto : hR σ T0 3 = o := hT.2.2.1.2.2.1
  have hQ := hT.2.2.2.1
  have ho := hQ.1
  have hw := hT.2.2.2.2.1.1
  have hwo := hT.2.2.2.2.1.2
  have hv := hK.2.2.2.2.1.1
  have hd9 := hK.2.2.2.2.1.2
  have hY := hK.2.2.2.1
  have hO := hK.2.2.1
  have hs9 := hO.1
  have hc6 := hO.2.1
  have hw12 := hO.2.2.1
  have hk8 := hO.2.2.2.1
  refine p_enter rfl rfl (Nat.le_of_ble_eq_true rfl) rfl ?_
  refine p_iload_n 1 1 rfl rfl dX8_laid_0 rfl ?_
  refine p_iconst (1) 2 rfl dX8_laid_1 rfl ?_
  refine p_bipush (40) 4 rfl dX8_laid_2 rfl ?_
  refine p_cS3n 7 rfl dX8_laid_4 (c_needBetween _ 1 40) ml_X8_267 sl_X8_needBetween (Nat.le_of_ble_eq_true rfl) (Nat.le_of_ble_eq_true rfl) (Nat.le_of_ble_eq_true rfl) (Nat.le_of_ble_eq_true rfl) rfl (fun h4 => ?_) (fun h4 => ⟨by simp [fLaid, gd, h4], hT, Ch.rf⟩)
  obtain ⟨k, rfl, hka, hk⟩ := asB h4 (by decide) (by decide)
  have hkL : k < 2147483648 := by omega
  refine p_aload_n 0 8 rfl rfl dX8_laid_7 rfl ?_
  refine p_iconst (0) 9 rfl dX8_laid_8 rfl ?_
  refine p_cV1v 0 0 12 rfl dX8_laid_9 (c_lookAhead (k := 0) hT (by omega)) ml_X8_271 vl_X8_lookAhead rfl (by decide) rfl (Nat.le_of_ble_eq_true rfl) (Nat.le_of_ble_eq_true rfl) (Nat.le_of_ble_eq_true rfl) (Nat.le_of_ble_eq_true rfl) rfl ?_
  rintro σ1 ⟨h1, hc1⟩
  refine p_iconst (0) 13 rfl dX8_laid_12 rfl ?_
  refine p_ist_n2 14 rfl rfl dX8_laid_13 (Nat.le_of_ble_eq_true rfl) rfl ?_
  refine p_iconst (0) 15 rfl dX8_laid_14 rfl ?_
  refine p_ist_n3 16 rfl rfl dX8_laid_15 (Nat.le_of_ble_eq_true rfl) rfl ?_
  have e : fLaid A (nI k) = (0, nI (cntN k (fun q => lrnF (tO A) (daysF (tO A) q (tV A)) 4))) := by simp [fLaid, gd, h4, iN_nI hkL]
  rw [e]
  exact l_laid hT hk k 0 σ1 (by omega) h1 hc1
set_option maxRecDepth 6000 in
theorem t_unread (hT : IT σ o o' A) (y : Int32) : CallOk Γ 14 8 48 mX8_unread [.ref T0, .int y] σ (rS (fUnread A y) true (fun σ' => IT σ' o o' A ∧ Ch cls σ σ')) := by
  have hS := hT.1
  have hK := hT.2.1
  have hto : hR σ T0 3 = o := hT.2.2.1.2.2.1
  have hQ := hT.2.2.2.1
  have ho := hQ.1
  have hw := hT.2.2.2.2.1.1
  have hwo := hT.2.2.2.2.1.2
  have hv := hK.2.2.2.2.1.1
  have hd9 := hK.2.2.2.2.1.2
  have hY := hK.2.2.2.1
  have hO := hK.2.2.1
  have hs9 := hO.1
  have hc6 := hO.2.1
  have hw12 := hO.2.2.1
  have hk8 := hO.2.2.2.1
  refine p_enter rfl rfl (Nat.le_of_ble_eq_true rfl) rfl ?_
  refine p_iload_n 1 1 rfl rfl dX8_unread_0 rfl ?_
  refine p_iconst (0) 2 rfl dX8_unread_1 rfl ?_
  refine p_bipush (40) 4 rfl dX8_unread_2 rfl ?_
  refine p_cS3n 7 rfl dX8_unread_4 (c_needBetween _ 0 40) ml_X8_267 sl_X8_needBetween (Nat.le_of_ble_eq_true rfl) (Nat.le_of_ble_eq_true rfl) (Nat.le_of_ble_eq_true rfl) (Nat.le_of_ble_eq_true rfl) rfl (fun h4 => ?_) (fun h4 => ⟨by simp [fUnread, gd, h4], hT, Ch.rf⟩)
  obtain ⟨k, rfl, hka, hk⟩ := asB h4 (by decide) (by decide)
  have hkL : k < 2147483648 := by omega
  have hdv := daysF_ok hO hv k (by omega)
  have hka := kAll_lt hO hdv
  refine p_aload_n 0 8 rfl rfl dX8_unread_7 rfl ?_
  refine p_iload_n 1 9 rfl rfl dX8_unread_8 rfl ?_
  refine p_cV1v 0 0 12 rfl dX8_unread_9 (c_lookAhead (k := k) hT (by omega)) ml_X8_271 vl_X8_lookAhead rfl (by decide) rfl (Nat.le_of_ble_eq_true rfl) (Nat.le_of_ble_eq_true rfl) (Nat.le_of_ble_eq_true rfl) (Nat.le_of_ble_eq_true rfl) rfl ?_
  rintro σ1 ⟨h1, hc1⟩
  have hS1 := h1.1.1
  have hw1 := h1.2.1
  have hwo1 := h1.2.2
  have hQ1 := h1.1.2.2.2.1
  have ho1 := hQ1.1
  have hto1 : hR σ1 T0 3 = o := h1.1.2.2.1.2.2.1
  have hn1 := h1.1.2.2.2.2.1.1
  have hno1 := h1.1.2.2.2.2.1.2
  refine p_aload_n 0 13 rfl rfl dX8_unread_12 rfl ?_
  refine p_getR 8 3 16 rfl dX8_unread_13 fl_X8_23 rfl rfl hto1 ho1.1.1.ne0 ?_
  refine p_getIE 4 7 19 rfl dX8_unread_16 fl_X8_137 ho1.1.1.kd rfl ho1.2.2.2.2.1 ?_
  refine p_aload_n 0 20 rfl rfl dX8_unread_19 rfl ?_
  refine p_getR 8 7 23 rfl dX8_unread_20 fl_X8_48 rfl rfl hS1.2.2.2.1 (by decide) ?_
  refine p_cV0i 26 rfl dX8_unread_23 (c_wordsKnown ho1 hw1 hdv hwo1) ml_X8_153 vl_X7_wordsKnown rfl (by decide) rfl (Nat.le_of_ble_eq_true rfl) (Nat.le_of_ble_eq_true rfl) rfl ?_
  refine p_cS1i 29 rfl dX8_unread_26 (c_bitCountN hka) ml_X8_284 sl_J6_bitCount_0f7a4 (Nat.le_of_ble_eq_true rfl) (Nat.le_of_ble_eq_true rfl) rfl ?_
  refine p_isub 30 rfl dX8_unread_29 ?_
  exact p_iret dX8_unread_30 rfl ⟨by simp [fUnread, gd, h4, iN_nI hkL], h1.1, hc1.aux⟩
end C48
