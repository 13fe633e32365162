/-! ===== the reference: together, read, laid ===== -/
section C91
variable {Γ : Gm} {σ : PH} {A : AT}
set_option maxRecDepth 4000 in
theorem l_mTogC {τ : PH} (hR0 : RM τ A) {m k t : Nat} (hk : k ≤ 60) (ht : t < 4) {Q : PO → PH → Prop} (kk : ∀ x5, Ok Γ 11 0 0 mX9_together 86 [some (.ref M0), some (.int (nI m)), some (.int (nI k)), some (.int (nI t)), some (.int (nI (cntN (aC (tO A)) (fun c => tOn (tO A) c (vD (tV A) + k) == t)))), x5] [] τ Q) : ∀ (n i : Nat), i + n = aC (tO A) → Ok Γ 11 0 0 mX9_together 43 [some (.ref M0), some (.int (nI m)), some (.int (nI k)), some (.int (nI t)), some (.int (nI (cntN i (fun c => tOn (tO A) c (vD (tV A) + k) == t)))), some (.int (nI i))] [] τ Q := by
  have hK := hR0.2.1
  have hO := hK.2.2.1
  have hc6 := hO.2.1
  have hw12 := hO.2.2.1
  have hs9 := hO.1
  have hv := hK.2.2.2.2.1.1
  have hd9 := hK.2.2.2.2.1.2
  have hM := hR0.1
  have hw := hR0.2.2.1
  intro n
  induction n with
  | zero =>
    intro i hi
    refine p_iload 5 45 rfl dX9_together_43 rfl ?_
    refine p_aload_n 0 46 rfl rfl dX9_together_45 rfl ?_
    refine p_getIE 9 2 49 rfl dX9_together_46 fl_X9_283 rfl rfl hM.2.2.1.2.1 ?_
    refine p_icmp_ge 86 52 rfl rfl dX9_together_49 (fun h49 => ?_) (fun h49 => absurd (nI_le (a := aC (tO A)) (b := i) (by omega) (by omega)) h49)
    rw [show i = aC (tO A) by omega]
    exact kk _
  | succ n ih =>
    intro i hi
    have hlt : i < aC (tO A) := by omega
    refine p_iload 5 45 rfl dX9_together_43 rfl ?_
    refine p_aload_n 0 46 rfl rfl dX9_together_45 rfl ?_
    refine p_getIE 9 2 49 rfl dX9_together_46 fl_X9_283 rfl rfl hM.2.2.1.2.1 ?_
    refine p_icmp_ge 86 52 rfl rfl dX9_together_49 (fun h49 => absurd h49 (nI_ge (a := i) (b := aC (tO A)) (by omega) (by omega))) (fun h49 => ?_)
    refine p_iload 4 54 rfl dX9_together_52 rfl ?_
    refine p_aload_n 0 55 rfl rfl dX9_together_54 rfl ?_
    refine p_iload 5 57 rfl dX9_together_55 rfl ?_
    refine p_aload_n 0 58 rfl rfl dX9_together_57 rfl ?_
    refine p_getR 9 44 61 rfl dX9_together_58 fl_X9_66 rfl rfl (show hR _ M0 44 = mRo from hM.1 44) (by decide) ?_
    refine p_iconst (0) 62 rfl dX9_together_61 rfl ?_
    refine p_ialdE 63 rfl dX9_together_62 (i := 0) rfl (by decide) hR0.2.2.1.1 ?_
    refine p_iload_n 2 64 rfl rfl dX9_together_63 rfl ?_
    refine p_iadd 65 rfl dX9_together_64 ?_
    rw [nI_add]
    refine p_cV2i 68 rfl dX9_together_65 (c_mTownOn hM hlt (by omega)) ml_X9_310 vl_X9_townOn rfl (by decide) rfl (Nat.le_of_ble_eq_true rfl) (Nat.le_of_ble_eq_true rfl) rfl ?_
    refine p_iload_n 3 69 rfl rfl dX9_together_68 rfl ?_
    refine p_icmp_ne 76 72 rfl rfl dX9_together_69 (fun h69 => ?_) (fun h69 => ?_)
    · refine p_iconst (0) 77 rfl dX9_together_76 rfl ?_
      refine p_iadd 78 rfl dX9_together_77 ?_
      refine p_ist_4 80 rfl dX9_together_78 (Nat.le_of_ble_eq_true rfl) rfl ?_
      refine p_inc_5 83 rfl dX9_together_80 (1) rfl (Nat.le_of_ble_eq_true rfl) rfl ?_
      refine p_goto 43 rfl dX9_together_83 ?_
      have t1 := tOn_lt hO (d := vD (tV A) + k) hlt
      have hb : (tOn (tO A) i (vD (tV A) + k) == t) = false := by simp only [beq_eq_false_iff_ne]; exact fun q => h69 (by rw [q])
      have e : (cntN (i + 1) (fun c => tOn (tO A) c (vD (tV A) + k) == t)) = (cntN i (fun c => tOn (tO A) c (vD (tV A) + k) == t)) := by simp [cntN, hb]
      rw [show nI (cntN i (fun c => tOn (tO A) c (vD (tV A) + k) == t)) + 0 = nI (cntN i (fun c => tOn (tO A) c (vD (tV A) + k) == t)) from nI_add _ 0, nI_1, ← e]
      exact ih (i + 1) (by omega)
    · refine p_iconst (1) 73 rfl dX9_together_72 rfl ?_
      refine p_goto 77 rfl dX9_together_73 ?_
      refine p_iadd 78 rfl dX9_together_77 ?_
      refine p_ist_4 80 rfl dX9_together_78 (Nat.le_of_ble_eq_true rfl) rfl ?_
      refine p_inc_5 83 rfl dX9_together_80 (1) rfl (Nat.le_of_ble_eq_true rfl) rfl ?_
      refine p_goto 43 rfl dX9_together_83 ?_
      have t1 := tOn_lt hO (d := vD (tV A) + k) hlt
      have hb : (tOn (tO A) i (vD (tV A) + k) == t) = true := by simp only [beq_iff_eq]; exact nI_eqI h69 (by omega) (by omega)
      have e : (cntN (i + 1) (fun c => tOn (tO A) c (vD (tV A) + k) == t)) = (cntN i (fun c => tOn (tO A) c (vD (tV A) + k) == t)) + 1 := by simp [cntN, hb]
      rw [nI_1, nI_1, ← e]
      exact ih (i + 1) (by omega)
theorem lgc_ge (O : AO) (d : Nat) {t : Nat} : ∀ n, t < n → cntN (aC O) (fun c => tOn O c d == t) ≤ lgc O d n := by
  intro n
  induction n with
  | zero => intro h; omega
  | succ n ih =>
    intro h
    simp only [lgc]
    rcases Nat.lt_or_ge t n with w | w
    · have := ih w; omega
    · rw [show t = n by omega]; omega
set_option maxRecDepth 4000 in
theorem l_mTogT {τ : PH} (hR0 : RM τ A) {m k : Nat} (hk : k ≤ 60) (hm : m ≤ 6) {Q : PO → PH → Prop} (kk : ∀ (x3 x4 x5 : Option Value), lgc (tO A) (vD (tV A) + k) 4 < m → Ok Γ 11 0 0 mX9_together 100 [some (.ref M0), some (.int (nI m)), some (.int (nI k)), x3, x4, x5] [] τ Q) (kr : m ≤ lgc (tO A) (vD (tV A) + k) 4 → Q (.inl (some (.int (nI k)))) τ) : ∀ (n t : Nat) (x4 x5 : Option Value), t + n = 4 → lgc (tO A) (vD (tV A) + k) t < m → Ok Γ 11 0 0 mX9_together 32 [some (.ref M0), some (.int (nI m)), some (.int (nI k)), some (.int (nI t)), x4, x5] [] τ Q := by
  have hK := hR0.2.1
  have hO := hK.2.2.1
  have hc6 := hO.2.1
  have hw12 := hO.2.2.1
  have hs9 := hO.1
  have hv := hK.2.2.2.2.1.1
  have hd9 := hK.2.2.2.2.1.2
  have hM := hR0.1
  have hw := hR0.2.2.1
  intro n
  induction n with
  | zero =>
    intro t x4 x5 ht hl
    refine p_iload_n 3 33 rfl rfl dX9_together_32 rfl ?_
    refine p_iconst (4) 34 rfl dX9_together_33 rfl ?_
    refine p_icmp_ge 100 37 rfl rfl dX9_together_34 (fun h34 => ?_) (fun h34 => absurd (nI_le (a := 4) (b := t) (by omega) (by omega)) h34)
    rw [show t = 4 by omega] at hl
    exact kk _ _ _ hl
  | succ n ih =>
    intro t x4 x5 ht hl
    refine p_iload_n 3 33 rfl rfl dX9_together_32 rfl ?_
    refine p_iconst (4) 34 rfl dX9_together_33 rfl ?_
    refine p_icmp_ge 100 37 rfl rfl dX9_together_34 (fun h34 => absurd h34 (nI_ge (a := t) (b := 4) (by omega) (by omega))) (fun h34 => ?_)
    refine p_iconst (0) 38 rfl dX9_together_37 rfl ?_
    refine p_ist_4 40 rfl dX9_together_38 (Nat.le_of_ble_eq_true rfl) rfl ?_
    refine p_iconst (0) 41 rfl dX9_together_40 rfl ?_
    refine p_ist_5 43 rfl dX9_together_41 (Nat.le_of_ble_eq_true rfl) rfl ?_
    refine l_mTogC hR0 hk (by omega) (fun x5 => ?_) (aC (tO A)) 0 (by omega)
    have hcl := cntN_le (fun c => tOn (tO A) c (vD (tV A) + k) == t) (aC (tO A))
    refine p_iload 4 88 rfl dX9_together_86 rfl ?_
    refine p_iload_n 1 89 rfl rfl dX9_together_88 rfl ?_
    refine p_icmp_lt 94 92 rfl rfl dX9_together_89 (fun h89 => ?_) (fun h89 => ?_)
    · refine p_inc_3 97 rfl dX9_together_94 (1) rfl (Nat.le_of_ble_eq_true rfl) rfl ?_
      refine p_goto 32 rfl dX9_together_97 ?_
      have hlt2 : (cntN (aC (tO A)) (fun c => tOn (tO A) c (vD (tV A) + k) == t)) < m := (Nat.lt_or_ge (cntN (aC (tO A)) (fun c => tOn (tO A) c (vD (tV A) + k) == t)) m).elim id (fun q => absurd h89 (nI_nlt q (by omega)))
      rw [nI_1]
      exact ih (t + 1) _ _ (by omega) (by simp only [lgc]; omega)
    · refine p_iload_n 2 93 rfl rfl dX9_together_92 rfl ?_
      exact p_iret dX9_together_93 rfl (kr (Nat.le_trans ((Nat.lt_or_ge (cntN (aC (tO A)) (fun c => tOn (tO A) c (vD (tV A) + k) == t)) m).elim (fun q => absurd (nI_lt q (by omega)) h89) id) (lgc_ge _ _ 4 (by omega))))
set_option maxRecDepth 4000 in
theorem l_mTog {τ : PH} (hR0 : RM τ A) (h0 : hI τ M0 0 = 0) (hc1 : ChM σ τ) {m : Nat} (hm : m ≤ 6) (hm1 : 1 ≤ m) {F : Option Nat} : ∀ (n k : Nat) (x3 x4 x5 : Option Value), k + n = 61 → fnd n k (fun q => decide (m ≤ lgc (tO A) (vD (tV A) + q) 4)) = F → Ok Γ 11 0 0 mX9_together 24 [some (.ref M0), some (.int (nI m)), some (.int (nI k)), x3, x4, x5] [] τ (rM (0, oI F) (fun σ' => RM σ' A ∧ ChM σ σ')) := by
  intro n
  induction n with
  | zero =>
    intro k x3 x4 x5 hk hF0
    refine p_iload_n 2 25 rfl rfl dX9_together_24 rfl ?_
    refine p_bipush (60) 27 rfl dX9_together_25 rfl ?_
    refine p_icmp_gt 106 30 rfl rfl dX9_together_27 (fun h27 => ?_) (fun h27 => absurd (nI_lt (a := 60) (b := k) (by omega) (by omega)) h27)
    refine p_iconst (-1) 107 rfl dX9_together_106 rfl ?_
    exact p_iret dX9_together_107 rfl ⟨_, rfl, h0, fun _ => by rw [← hF0]; rfl, hR0, hc1⟩
  | succ n ih =>
    intro k x3 x4 x5 hk hF0
    refine p_iload_n 2 25 rfl rfl dX9_together_24 rfl ?_
    refine p_bipush (60) 27 rfl dX9_together_25 rfl ?_
    refine p_icmp_gt 106 30 rfl rfl dX9_together_27 (fun h27 => absurd h27 (nI_nlt (a := 60) (b := k) (by omega) (by omega))) (fun h27 => ?_)
    refine p_iconst (0) 31 rfl dX9_together_30 rfl ?_
    refine p_ist_n3 32 rfl rfl dX9_together_31 (Nat.le_of_ble_eq_true rfl) rfl ?_
    refine l_mTogT hR0 (by omega) hm (fun x3 x4 x5 hl => ?_) (fun hl => ⟨_, rfl, h0, fun _ => by rw [← hF0, fnd, if_pos (decide_eq_true hl)]; rfl, hR0, hc1⟩) 4 0 _ _ (by omega) (show 0 < m by omega)
    refine p_inc_2 103 rfl dX9_together_100 (1) rfl (Nat.le_of_ble_eq_true rfl) rfl ?_
    refine p_goto 24 rfl dX9_together_103 ?_
    rw [nI_1]
    refine ih (k + 1) _ _ _ (by omega) ?_
    rw [← hF0, fnd, if_neg (by simp only [decide_eq_true_eq]; omega)]
set_option maxRecDepth 8000 in
theorem q_together (hRM : RM σ A) (y : Int32) : CallOk Γ 12 0 0 mX9_together [.ref M0, .int y] σ (rM (fTogether A y) (fun σ' => RM σ' A ∧ ChM σ σ')) := by
  have hK := hRM.2.1
  have hO := hK.2.2.1
  have hs9 := hO.1
  have hc6 := hO.2.1
  have hw12 := hO.2.2.1
  have hk8 := hO.2.2.2.1
  have hv := hK.2.2.2.2.1.1
  have hd9 := hK.2.2.2.2.1.2
  refine p_enter rfl rfl (Nat.le_of_ble_eq_true rfl) rfl ?_
  refine p_aload_n 0 1 rfl rfl dX9_together_0 rfl ?_
  refine p_iconst (0) 2 rfl dX9_together_1 rfl ?_
  refine p_putI 9 0 5 rfl dX9_together_2 fl_X9_102 rfl rfl (Or.inl rfl) ?_
  have hQ : FQ σ (sI σ M0 0 0) := FQ.th
  have hR0 := hRM.q hQ
  have h0 : hI (sI σ M0 0 0) M0 0 = 0 := hI_sI _ _ _ _
  generalize sI σ M0 0 0 = τ at hQ hR0 h0 ⊢
  have hM := hR0.1
  have hw := hR0.2.2.1
  refine p_aload_n 0 6 rfl rfl dX9_together_5 rfl ?_
  refine p_iload_n 1 7 rfl rfl dX9_together_6 rfl ?_
  refine p_iconst (1) 8 rfl dX9_together_7 rfl ?_
  refine p_bipush (6) 10 rfl dX9_together_8 rfl ?_
  refine p_cS3i 13 rfl dX9_together_10 (c_within _ _ _) ml_X9_363 sl_X9_within (Nat.le_of_ble_eq_true rfl) (Nat.le_of_ble_eq_true rfl) rfl ?_
  refine p_iconst (1) 14 rfl dX9_together_13 rfl ?_
  refine p_cV2x 0 0 17 rfl dX9_together_14 (c_right h0 (btw y 1 6) (by decide)) ml_X9_273 vl_X9_right rfl (by decide) rfl (Nat.le_of_ble_eq_true rfl) (Nat.le_of_ble_eq_true rfl) (Nat.le_of_ble_eq_true rfl) (Nat.le_of_ble_eq_true rfl) rfl ?_
  intro v0 τ0 hp0
  obtain ⟨hv0, ht0, hf0⟩ := hp0
  subst hv0
  refine p_if_ne 22 20 rfl rfl dX9_together_17 (fun h17 => ?_) (fun h17 => ?_)
  · have hb0 : btw y 1 6 = true := by simpa only [b2i_eq0, Decidable.not_not, Bool.not_eq_true, Bool.not_eq_false] using h17
    have ee0 := ht0 hb0
    subst ee0
    obtain ⟨m, rfl, hma, hm⟩ := asB hb0 (by decide) (by decide)
    have hmL : m < 2147483648 := by omega
    refine p_iconst (0) 23 rfl dX9_together_22 rfl ?_
    refine p_ist_n2 24 rfl rfl dX9_together_23 (Nat.le_of_ble_eq_true rfl) rfl ?_
    have e : fTogether A (nI m) = (0, oI (fnd 61 0 (fun q => decide (m ≤ lgc (tO A) (vD (tV A) + q) 4)))) := by rw [fTogether, gd_t hb0, iN_nI hmL]
    rw [e]
    exact Ok.sub (l_mTog hR0 h0 hQ.ch hm hma 61 0 _ _ _ (by omega) rfl) (by decide) (by decide) (by decide)
  · have hb0 : btw y 1 6 = false := by simpa only [b2i_eq0, Bool.not_eq_true, Decidable.not_not] using h17
    have ee0 := hf0 hb0
    subst ee0
    refine p_iconst (0) 21 rfl dX9_together_20 rfl ?_
    exact p_iret dX9_together_21 rfl ⟨_, rfl, by rw [fTogether, gd_f hb0]; exact hI_sI _ _ _ _, fun q => absurd q (by rw [fTogether, gd_f hb0]; decide), (hRM.q hQ).q FQ.th, (hQ.tr FQ.th).ch⟩
end C91
