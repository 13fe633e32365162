/-! ===== the reference: days, take, leave, forge, fire, undo ===== -/
theorem RowM.pl {e : Bool} {f : Nat → Int32} {b : Nat} {O : AO} {V : AW} {i q : Nat} (h : RowM e f b O V) (hi : i < 9) (hs : aS O ≤ 9) (hq : e = true ∨ q = 0 ∨ vP V i ≠ 0) : RowM e (upd f (b + 19 + i) (atI q)) b O (wPl V (va_up (vP V) i q)) := by
  refine ⟨by rw [pk_un (by omega)]; exact h.1, fun s z => ?_, fun c z => by rw [pk_un (by omega)]; exact h.2.2 c z⟩
  have hh := h.2.1 s z
  rw [pk_un (show b + 1 + s ≠ b + 19 + i by omega), pk_un (show b + 10 + s ≠ b + 19 + i by omega)]
  refine ⟨fun g => hh.1 ?_, hh.2.1, ?_⟩
  · rcases g with g | g
    · exact Or.inl g
    · by_cases hc : s = i
      · subst hc
        rcases hq with w | w | w
        · exact Or.inl w
        · exact absurd (show vP (wPl V (va_up (vP V) s q)) s = 0 by show va_up (vP V) s q s = 0; rw [va_ups]; exact w) g
        · exact Or.inr w
      · exact Or.inr (fun w => g (by show va_up (vP V) i q s = 0; rw [va_upo hc]; exact w))
  · show _ = atI (va_up (vP V) i q s)
    by_cases hc : s = i
    · rw [hc, pk_us, va_ups]
    · rw [pk_un (by omega), va_upo hc]; exact hh.2.2
theorem RowM.lf {e : Bool} {f : Nat → Int32} {b : Nat} {O : AO} {V : AW} {i x : Nat} (h : RowM e f b O V) (hi : i < 9) (hs : aS O ≤ 9) : RowM e (upd f (b + 1 + i) (nI x)) b O (wLf V (va_up (vL V) i x)) := by
  refine ⟨by rw [pk_un (by omega)]; exact h.1, fun s z => ?_, fun c z => by rw [pk_un (by omega)]; exact h.2.2 c z⟩
  have hh := h.2.1 s z
  rw [pk_un (show b + 10 + s ≠ b + 1 + i by omega), pk_un (show b + 19 + s ≠ b + 1 + i by omega)]
  refine ⟨fun g => ?_, hh.2.1, hh.2.2⟩
  show _ = nI (va_up (vL V) i x s)
  by_cases hc : s = i
  · rw [hc, pk_us, va_ups]
  · rw [pk_un (by omega), va_upo hc]; exact hh.1 g
theorem b2i_f {b : Bool} (h : b2i b = 0) : b = false := by cases b; rfl; exact absurd h (by decide)
theorem b2i_t {b : Bool} (h : ¬ b2i b = 0) : b = true := by cases b; exact absurd rfl h; rfl
theorem atI_t {t : Nat} (h : t < 4) : atI (t + 1) = nI t := by unfold atI; rw [if_neg (by omega), if_pos (by omega), Nat.add_sub_cancel]
theorem atI_c (c : Nat) : atI (c + 5) = nI (10 + c) := by rw [atI_5 (by omega), show c + 5 + 5 = 10 + c by omega]
section C95
variable {Γ : Gm} {σ : PH} {A : AT}
theorem RM.row {σ' : PH} {V : AW} (h : RM σ A) (hf : FrB 0 σ σ') (hr : RowM true (hA σ' mRo) 0 (tO A) V) (hk : OkT (uV A V (tA A))) (hkn : knB (tO A) V) : RM σ' (uV A V (tA A)) := by
  obtain ⟨h1, h2, h3, h4, h5, h6, h7, h8, h9⟩ := id h
  refine h.act (hf.1.up (by decide) (by decide)) hk ⟨hkn, h9.2.2⟩ rfl rfl rfl rfl rfl rfl hr ⟨?_, ?_⟩ ?_
  · rw [hf.1.2.1 M0 46 (by simp)]; exact h4.1
  · rw [hf.1.2.2.2.2.2 mAh (by decide)]; exact h4.2
  · rw [hf.1.2.2.2.2.2 mRf (by decide)]; exact h8
theorem FrB0.ch {σ' : PH} (h : FrB 0 σ σ') : ChM σ σ' := FrA.ch (h.1.up (by decide) (by decide))
theorem FrK.ch {σ' : PH} (h : Fr [(M0, 46)] [mAh] σ σ') : ChM σ σ' := FrA.ch (h.up (by decide) (by decide))
set_option maxRecDepth 4000 in
theorem l_mDays {O : AO} {V : AW} {k : Nat} (hM : OM σ O) (hv : OkV O V) (hk : vD V + k ≤ 100000) : ∀ (n i : Nat) (σ1 : PH), i + n = k → RowM true (hA σ1 mRo) 0 O (daysF O i V) → FrB 0 σ σ1 → Ok Γ 11 0 0 mX9_days 41 [some (.ref M0), some (.int (nI k)), some (.int (nI i))] [] σ1 (rX (fun v σ' => v = nI (vD V + k) ∧ RowM true (hA σ' mRo) 0 O (daysF O k V) ∧ FrB 0 σ σ')) := by
  have hO := hM.2.1
  intro n
  induction n with
  | zero =>
    intro i σ1 hi hw1 hF
    have hM1 := hM.frB hF
    refine p_iload_n 2 42 rfl rfl dX9_days_41 rfl ?_
    refine p_iload_n 1 43 rfl rfl dX9_days_42 rfl ?_
    refine p_icmp_ge 57 46 rfl rfl dX9_days_43 (fun h43 => ?_) (fun h43 => absurd (nI_le (a := k) (b := i) (by omega) (by omega)) h43)
    refine p_aload_n 0 58 rfl rfl dX9_days_57 rfl ?_
    refine p_getR 9 44 61 rfl dX9_days_58 fl_X9_66 rfl rfl (show hR _ M0 44 = mRo from hM1.1 44) (by decide) ?_
    refine p_iconst (0) 62 rfl dX9_days_61 rfl ?_
    refine p_ialdE 63 rfl dX9_days_62 (i := 0) rfl (by decide) hw1.1 ?_
    exact p_iret dX9_days_63 rfl ⟨_, rfl, by rw [(days_vP i).2, show k = i by omega], by rw [show k = i by omega]; exact hw1, hF⟩
  | succ n ih =>
    intro i σ1 hi hw1 hF
    have hM1 := hM.frB hF
    refine p_iload_n 2 42 rfl rfl dX9_days_41 rfl ?_
    refine p_iload_n 1 43 rfl rfl dX9_days_42 rfl ?_
    refine p_icmp_ge 57 46 rfl rfl dX9_days_43 (fun h43 => absurd h43 (nI_ge (a := i) (b := k) (by omega) (by omega))) (fun h43 => ?_)
    refine p_aload_n 0 47 rfl rfl dX9_days_46 rfl ?_
    refine p_iconst (0) 48 rfl dX9_days_47 rfl ?_
    refine p_cV1v 0 0 51 rfl dX9_days_48 (c_dayGoes hM1 hw1 (daysF_ok hO hv i (by omega)) (by decide)) ml_X9_357 vl_X9_dayGoes rfl (by decide) rfl (Nat.le_of_ble_eq_true rfl) (Nat.le_of_ble_eq_true rfl) (Nat.le_of_ble_eq_true rfl) (Nat.le_of_ble_eq_true rfl) rfl ?_
    intro σ2 hp2
    refine p_inc_2 54 rfl dX9_days_51 (1) rfl (Nat.le_of_ble_eq_true rfl) rfl ?_
    refine p_goto 41 rfl dX9_days_54 ?_
    rw [nI_1]
    exact ih (i + 1) σ2 (by omega) hp2.1 (hF.tr hp2.2)
set_option maxRecDepth 8000 in
theorem q_days (hRM : RM σ A) (x : Int32) (hkN : OkT (nDays A x)) : CallOk Γ 12 0 0 mX9_days [.ref M0, .int x] σ (rM (fDays A x) (fun σ' => RM σ' (nDays A x) ∧ ChM σ σ')) := by
  have hK := hRM.2.1
  have hO := hK.2.2.1
  have hs9 := hO.1
  have hc6 := hO.2.1
  have hw12 := hO.2.2.1
  have hk8 := hO.2.2.2.1
  have hv := hK.2.2.2.2.1.1
  have hd9 := hK.2.2.2.2.1.2
  refine p_enter rfl rfl (Nat.le_of_ble_eq_true rfl) rfl ?_
  refine p_aload_n 0 1 rfl rfl dX9_days_0 rfl ?_
  refine p_iconst (0) 2 rfl dX9_days_1 rfl ?_
  refine p_putI 9 0 5 rfl dX9_days_2 fl_X9_102 rfl rfl (Or.inl rfl) ?_
  have hQ : FQ σ (sI σ M0 0 0) := FQ.th
  have hR0 := hRM.q hQ
  have h0 : hI (sI σ M0 0 0) M0 0 = 0 := hI_sI _ _ _ _
  generalize sI σ M0 0 0 = τ at hQ hR0 h0 ⊢
  have hM := hR0.1
  have hw := hR0.2.2.1
  refine p_iload_n 1 6 rfl rfl dX9_days_5 rfl ?_
  refine p_iconst (1) 7 rfl dX9_days_6 rfl ?_
  refine p_bipush (20) 9 rfl dX9_days_7 rfl ?_
  refine p_cS3i 12 rfl dX9_days_9 (c_within _ _ _) ml_X9_363 sl_X9_within (Nat.le_of_ble_eq_true rfl) (Nat.le_of_ble_eq_true rfl) rfl ?_
  refine p_if_eq 29 15 rfl rfl dX9_days_12 (fun h12 => ?_) (fun h12 => ?_)
  · have hb : btw x 1 20 = false := b2i_f h12
    have hno : daysOk A x = false := by unfold daysOk; rw [hb]; rfl
    refine p_aload_n 0 30 rfl rfl dX9_days_29 rfl ?_
    refine p_iconst (1) 31 rfl dX9_days_30 rfl ?_
    refine p_cV1x 0 0 34 rfl dX9_days_31 (c_refuses hM.1 (w := 1) (by decide)) ml_X9_411 vl_X9_refuses rfl (by decide) rfl (Nat.le_of_ble_eq_true rfl) (Nat.le_of_ble_eq_true rfl) (Nat.le_of_ble_eq_true rfl) (Nat.le_of_ble_eq_true rfl) rfl ?_
    intro v τ2 hp2
    obtain ⟨e1, e2⟩ := hp2
    subst e1 e2
    exact p_iret dX9_days_34 rfl ⟨_, rfl, by rw [show fDays A _ = (0, -1) by rw [fDays, if_neg (by rw [hno]; decide)]]; exact h0, fun _ => by rw [show fDays A _ = (0, -1) by rw [fDays, if_neg (by rw [hno]; decide)]], by rw [show nDays A _ = uR A 1 by rw [nDays, if_neg (by rw [hno]; decide)]]; exact hR0.ref (by decide), hQ.ch.tr (FrA.ch (Fr.sA (by simp)))⟩
  · have hb : btw x 1 20 = true := b2i_t h12
    obtain ⟨n, rfl, hna, hn⟩ := asB hb (by decide) (by decide)
    have hnL : n < 2147483648 := by omega
    refine p_aload_n 0 16 rfl rfl dX9_days_15 rfl ?_
    refine p_getR 9 44 19 rfl dX9_days_16 fl_X9_66 rfl rfl (show hR _ M0 44 = mRo from hM.1 44) (by decide) ?_
    refine p_iconst (0) 20 rfl dX9_days_19 rfl ?_
    refine p_ialdE 21 rfl dX9_days_20 (i := 0) rfl (by decide) hw.1 ?_
    refine p_iload_n 1 22 rfl rfl dX9_days_21 rfl ?_
    refine p_iadd 23 rfl dX9_days_22 ?_
    rw [nI_add]
    refine p_sipush (999) 26 rfl dX9_days_23 rfl ?_
    refine p_icmp_le 35 29 rfl rfl dX9_days_26 (fun h26 => ?_) (fun h26 => ?_)
    · have hyes : daysOk A (nI n) = true := by
        unfold daysOk; rw [hb, iN_nI hnL]; simp only [Bool.true_and, decide_eq_true_eq]
        exact (Nat.lt_or_ge 999 (vD (tV A) + n)).elim (fun q => absurd h26 (nI_ge q (by omega))) id
      have hl9 : vD (tV A) + n ≤ 999 := by unfold daysOk at hyes; rw [hb, iN_nI hnL] at hyes; simpa using hyes
      have en : nDays A (nI n) = uV A (daysF (tO A) n (tV A)) (kp (tA A) (tV A)) := by rw [nDays, if_pos hyes, iN_nI hnL]
      have ef : fDays A (nI n) = (0, nI (vD (tV A) + n)) := by rw [fDays, if_pos hyes, iN_nI hnL]
      rw [en] at hkN
      refine p_aload_n 0 36 rfl rfl dX9_days_35 rfl ?_
      refine p_cV0v 0 0 39 rfl dX9_days_36 (c_keeps hR0) ml_X9_414 vl_X9_keeps rfl (by decide) rfl (Nat.le_of_ble_eq_true rfl) (Nat.le_of_ble_eq_true rfl) (Nat.le_of_ble_eq_true rfl) (Nat.le_of_ble_eq_true rfl) rfl ?_
      intro τ1 hp1
      have hR1 := hp1.1
      have hM1 : OM τ1 (tO A) := hR1.1
      have hw1 : RowM true (hA τ1 mRo) 0 (tO A) (tV A) := hR1.2.2.1
      have h01 : hI τ1 M0 0 = 0 := (hp1.2.2.1 M0 0 (by simp)).trans h0
      have hkn : knB (tO A) (tV A) := hR0.2.2.2.2.2.2.2.2.2.1
      have hc1 : ChM σ τ1 := hQ.ch.tr (FrK.ch hp1.2)
      refine p_iconst (0) 40 rfl dX9_days_39 rfl ?_
      refine p_ist_n2 41 rfl rfl dX9_days_40 (Nat.le_of_ble_eq_true rfl) rfl ?_
      refine Ok.sub (Ok.mono (l_mDays hM1 hv (k := n) (by omega) n 0 τ1 (by omega) hw1 FrB.rf) ?_) (by decide) (by decide) (by decide)
      rintro o1 σ' ⟨v, e0, e1, e2, e3⟩
      subst e1
      refine ⟨_, e0, by rw [ef]; exact (e3.1.2.1 M0 0 (by simp)).trans h01, fun _ => by rw [ef], ?_, hc1.tr (FrB0.ch e3)⟩
      rw [en]
      exact hR1.row e3 e2 hkN (knB_days hkn n)
    · have hno : daysOk A (nI n) = false := by unfold daysOk; rw [iN_nI hnL, decide_eq_false (fun q : vD (tV A) + n ≤ 999 => absurd (nI_le q (by decide)) h26), Bool.and_false]
      refine p_aload_n 0 30 rfl rfl dX9_days_29 rfl ?_
      refine p_iconst (1) 31 rfl dX9_days_30 rfl ?_
      refine p_cV1x 0 0 34 rfl dX9_days_31 (c_refuses hM.1 (w := 1) (by decide)) ml_X9_411 vl_X9_refuses rfl (by decide) rfl (Nat.le_of_ble_eq_true rfl) (Nat.le_of_ble_eq_true rfl) (Nat.le_of_ble_eq_true rfl) (Nat.le_of_ble_eq_true rfl) rfl ?_
      intro v τ2 hp2
      obtain ⟨e1, e2⟩ := hp2
      subst e1 e2
      exact p_iret dX9_days_34 rfl ⟨_, rfl, by rw [show fDays A _ = (0, -1) by rw [fDays, if_neg (by rw [hno]; decide)]]; exact h0, fun _ => by rw [show fDays A _ = (0, -1) by rw [fDays, if_neg (by rw [hno]; decide)]], by rw [show nDays A _ = uR A 1 by rw [nDays, if_neg (by rw [hno]; decide)]]; exact hR0.ref (by decide), hQ.ch.tr (FrA.ch (Fr.sA (by simp)))⟩
set_option maxRecDepth 8000 in
theorem q_take (hRM : RM σ A) (x y : Int32) (hkN : OkT (nTake A x y)) : CallOk Γ 12 0 0 mX9_take [.ref M0, .int x, .int y] σ (rM (fTake A x y) (fun σ' => RM σ' (nTake A x y) ∧ ChM σ σ')) := by
  have hK := hRM.2.1
  have hO := hK.2.2.1
  have hs9 := hO.1
  have hc6 := hO.2.1
  have hw12 := hO.2.2.1
  have hk8 := hO.2.2.2.1
  have hv := hK.2.2.2.2.1.1
  have hd9 := hK.2.2.2.2.1.2
  refine p_enter rfl rfl (Nat.le_of_ble_eq_true rfl) rfl ?_
  refine p_aload_n 0 1 rfl rfl dX9_take_0 rfl ?_
  refine p_iconst (0) 2 rfl dX9_take_1 rfl ?_
  refine p_putI 9 0 5 rfl dX9_take_2 fl_X9_102 rfl rfl (Or.inl rfl) ?_
  have hQ : FQ σ (sI σ M0 0 0) := FQ.th
  have hR0 := hRM.q hQ
  have h0 : hI (sI σ M0 0 0) M0 0 = 0 := hI_sI _ _ _ _
  generalize sI σ M0 0 0 = τ at hQ hR0 h0 ⊢
  have hM := hR0.1
  have hw := hR0.2.2.1
  refine p_aload_n 0 6 rfl rfl dX9_take_5 rfl ?_
  refine p_iload_n 1 7 rfl rfl dX9_take_6 rfl ?_
  refine p_cV1x 0 0 10 rfl dX9_take_7 (c_isClerk hM h0 _) ml_X9_387 vl_X9_isClerk rfl (by decide) rfl (Nat.le_of_ble_eq_true rfl) (Nat.le_of_ble_eq_true rfl) (Nat.le_of_ble_eq_true rfl) (Nat.le_of_ble_eq_true rfl) rfl ?_
  intro v0 τ0 hp0
  obtain ⟨hv0, ht0, hf0⟩ := hp0
  subst hv0
  refine p_if_eq 21 13 rfl rfl dX9_take_10 (fun h10 => ?_) (fun h10 => ?_)
  · have hb0 : inR x (aC (tO A)) = false := by simpa only [b2i_eq0, Bool.not_eq_true, Decidable.not_not] using h10
    have ee0 := hf0 hb0
    subst ee0
    refine p_iconst (0) 22 rfl dX9_take_21 rfl ?_
    exact p_zret dX9_take_22 rfl (by decide) ⟨_, rfl, by rw [fTake, gd_f hb0]; exact hI_sI _ _ _ _, fun q => absurd q (by rw [fTake, gd_f hb0]; decide), by rw [show nTake A _ _ = A from if_neg (by simp [hb0])]; exact (hRM.q hQ).q FQ.th, (hQ.tr FQ.th).ch⟩
  · have hb0 : inR x (aC (tO A)) = true := by simpa only [b2i_eq0, Decidable.not_not, Bool.not_eq_true, Bool.not_eq_false] using h10
    have ee0 := ht0 hb0
    subst ee0
    obtain ⟨c, rfl, hc⟩ := asN hb0 (by omega)
    have hcL : c < 2147483648 := by omega
    refine p_aload_n 0 14 rfl rfl dX9_take_13 rfl ?_
    refine p_iload_n 2 15 rfl rfl dX9_take_14 rfl ?_
    refine p_cV1x 0 0 18 rfl dX9_take_15 (c_isSheet hM h0 _) ml_X9_378 vl_X9_isSheet rfl (by decide) rfl (Nat.le_of_ble_eq_true rfl) (Nat.le_of_ble_eq_true rfl) (Nat.le_of_ble_eq_true rfl) (Nat.le_of_ble_eq_true rfl) rfl ?_
    intro v1 τ1 hp1
    obtain ⟨hv1, ht1, hf1⟩ := hp1
    subst hv1
    refine p_if_ne 23 21 rfl rfl dX9_take_18 (fun h18 => ?_) (fun h18 => ?_)
    · have hb1 : inR y (aS (tO A)) = true := by simpa only [b2i_eq0, Decidable.not_not, Bool.not_eq_true, Bool.not_eq_false] using h18
      have ee1 := ht1 hb1
      subst ee1
      obtain ⟨s, rfl, hs⟩ := asN hb1 (by omega)
      have hsL : s < 2147483648 := by omega
      refine p_aload_n 0 24 rfl rfl dX9_take_23 rfl ?_
      refine p_getR 9 44 27 rfl dX9_take_24 fl_X9_66 rfl rfl (show hR _ M0 44 = mRo from hM.1 44) (by decide) ?_
      refine p_bipush (19) 29 rfl dX9_take_27 rfl ?_
      refine p_iload_n 2 30 rfl rfl dX9_take_29 rfl ?_
      refine p_iadd 31 rfl dX9_take_30 ?_
      rw [ix0 19 s 19 rfl]
      refine p_ialdE 32 rfl dX9_take_31 (i := 19 + s) rfl (by show _ < 68; omega) (at0 hw hs) ?_
      have hp := hvP hv (s := s) (by omega)
      have ht4 := tOn_lt hO (d := vD (tV A)) hc
      refine p_aload_n 0 33 rfl rfl dX9_take_32 rfl ?_
      refine p_iconst (0) 34 rfl dX9_take_33 rfl ?_
      refine p_iload_n 1 35 rfl rfl dX9_take_34 rfl ?_
      refine p_cV2i 38 rfl dX9_take_35 (c_clerkIn hM hw hv (by decide) hc) ml_X9_313 vl_X9_clerkIn rfl (by decide) rfl (Nat.le_of_ble_eq_true rfl) (Nat.le_of_ble_eq_true rfl) rfl ?_
      refine p_icmp_eq 55 41 rfl rfl dX9_take_38 (fun h38 => ?_) (fun h38 => ?_)
      · have hyes : vP (tV A) s = tOn (tO A) c (vD (tV A)) + 1 := (atI_town hp ht4).mp h38
        have en : nTake A (nI c) (nI s) = plc A s (c + 5) := by rw [nTake, if_pos ⟨hb0, hb1⟩, iN_nI hcL, iN_nI hsL, if_pos hyes]
        rw [en] at hkN
        refine p_aload_n 0 56 rfl rfl dX9_take_55 rfl ?_
        refine p_cV0v 0 0 59 rfl dX9_take_56 (c_keeps hR0) ml_X9_414 vl_X9_keeps rfl (by decide) rfl (Nat.le_of_ble_eq_true rfl) (Nat.le_of_ble_eq_true rfl) (Nat.le_of_ble_eq_true rfl) (Nat.le_of_ble_eq_true rfl) rfl ?_
        intro τ1 hp1
        have hR1 := hp1.1
        have hM1 : OM τ1 (tO A) := hR1.1
        have hw1 : RowM true (hA τ1 mRo) 0 (tO A) (tV A) := hR1.2.2.1
        have h01 : hI τ1 M0 0 = 0 := (hp1.2.2.1 M0 0 (by simp)).trans h0
        have hkn : knB (tO A) (tV A) := hR0.2.2.2.2.2.2.2.2.2.1
        have hc1 : ChM σ τ1 := hQ.ch.tr (FrK.ch hp1.2)
        refine p_aload_n 0 60 rfl rfl dX9_take_59 rfl ?_
        refine p_getR 9 44 63 rfl dX9_take_60 fl_X9_66 rfl rfl (show hR _ M0 44 = mRo from hM1.1 44) (by decide) ?_
        refine p_bipush (19) 65 rfl dX9_take_63 rfl ?_
        refine p_iload_n 2 66 rfl rfl dX9_take_65 rfl ?_
        refine p_iadd 67 rfl dX9_take_66 ?_
        rw [ix0 19 s 19 rfl]
        refine p_bipush (10) 69 rfl dX9_take_67 rfl ?_
        refine p_iload_n 1 70 rfl rfl dX9_take_69 rfl ?_
        refine p_iadd 71 rfl dX9_take_70 ?_
        rw [ix0 10 c 10 rfl]
        refine p_iastE 72 rfl dX9_take_71 (i := 19 + s) rfl (by show _ < 68; omega) ?_
        refine p_iconst (1) 73 rfl dX9_take_72 rfl ?_
        exact p_zret dX9_take_73 rfl (by decide) ⟨_, rfl, by rw [fTake, gd_t hb0, gd_t hb1]; exact h01, fun _ => by rw [fTake, gd_t hb0, gd_t hb1, iN_nI hcL, iN_nI hsL, show (vP (tV A) s == tOn (tO A) c (vD (tV A)) + 1) = true by simpa using hyes]; rfl, by rw [en]; exact hR1.row (FrB.row (by omega)) (by rw [sA_s, ← atI_c, show 19 + s = 0 + 19 + s by omega]; exact hw1.pl (by omega) hs9 (Or.inl rfl)) hkN hkn, hc1.tr (FrB0.ch (FrB.row (by omega)))⟩
      · have hno : ¬ vP (tV A) s = tOn (tO A) c (vD (tV A)) + 1 := fun q => h38 ((atI_town hp ht4).mpr q)
        refine p_aload_n 0 42 rfl rfl dX9_take_41 rfl ?_
        refine p_iconst (1) 43 rfl dX9_take_42 rfl ?_
        refine p_cV1x 0 0 46 rfl dX9_take_43 (c_refuses hM.1 (w := 1) (by decide)) ml_X9_411 vl_X9_refuses rfl (by decide) rfl (Nat.le_of_ble_eq_true rfl) (Nat.le_of_ble_eq_true rfl) (Nat.le_of_ble_eq_true rfl) (Nat.le_of_ble_eq_true rfl) rfl ?_
        intro v τ2 hp2
        obtain ⟨e1, e2⟩ := hp2
        subst e1 e2
        refine p_if_le 53 49 rfl rfl dX9_take_46 (fun h46 => ?_) (fun h46 => absurd (show (-1 : Int32) ≤ 0 by decide) h46)
        refine p_iconst (0) 54 rfl dX9_take_53 rfl ?_
        exact p_zret dX9_take_54 rfl (by decide) ⟨_, rfl, by rw [fTake, gd_t hb0, gd_t hb1]; exact h0, fun _ => by rw [fTake, gd_t hb0, gd_t hb1, iN_nI hcL, iN_nI hsL, show (vP (tV A) s == tOn (tO A) c (vD (tV A)) + 1) = false by simpa using hno]; rfl, by rw [show nTake A (nI c) (nI s) = uR A 1 by rw [nTake, if_pos ⟨hb0, hb1⟩, iN_nI hcL, iN_nI hsL, if_neg hno]]; exact hR0.ref (by decide), hQ.ch.tr (FrA.ch (Fr.sA (by simp)))⟩
    · have hb1 : inR y (aS (tO A)) = false := by simpa only [b2i_eq0, Bool.not_eq_true, Decidable.not_not] using h18
      have ee1 := hf1 hb1
      subst ee1
      refine p_iconst (0) 22 rfl dX9_take_21 rfl ?_
      exact p_zret dX9_take_22 rfl (by decide) ⟨_, rfl, by rw [fTake, gd_t hb0, gd_f hb1]; exact hI_sI _ _ _ _, fun q => absurd q (by rw [fTake, gd_t hb0, gd_f hb1]; decide), by rw [show nTake A _ _ = A from if_neg (by simp [hb1])]; exact (hRM.q hQ).q FQ.th, (hQ.tr FQ.th).ch⟩
set_option maxRecDepth 8000 in
theorem q_leave (hRM : RM σ A) (x y : Int32) (hkN : OkT (nLeave A x y)) : CallOk Γ 12 0 0 mX9_leave [.ref M0, .int x, .int y] σ (rM (fLeave A x y) (fun σ' => RM σ' (nLeave A x y) ∧ ChM σ σ')) := by
  have hK := hRM.2.1
  have hO := hK.2.2.1
  have hs9 := hO.1
  have hc6 := hO.2.1
  have hw12 := hO.2.2.1
  have hk8 := hO.2.2.2.1
  have hv := hK.2.2.2.2.1.1
  have hd9 := hK.2.2.2.2.1.2
  refine p_enter rfl rfl (Nat.le_of_ble_eq_true rfl) rfl ?_
  refine p_aload_n 0 1 rfl rfl dX9_leave_0 rfl ?_
  refine p_iconst (0) 2 rfl dX9_leave_1 rfl ?_
  refine p_putI 9 0 5 rfl dX9_leave_2 fl_X9_102 rfl rfl (Or.inl rfl) ?_
  have hQ : FQ σ (sI σ M0 0 0) := FQ.th
  have hR0 := hRM.q hQ
  have h0 : hI (sI σ M0 0 0) M0 0 = 0 := hI_sI _ _ _ _
  generalize sI σ M0 0 0 = τ at hQ hR0 h0 ⊢
  have hM := hR0.1
  have hw := hR0.2.2.1
  refine p_aload_n 0 6 rfl rfl dX9_leave_5 rfl ?_
  refine p_iload_n 1 7 rfl rfl dX9_leave_6 rfl ?_
  refine p_cV1x 0 0 10 rfl dX9_leave_7 (c_isClerk hM h0 _) ml_X9_387 vl_X9_isClerk rfl (by decide) rfl (Nat.le_of_ble_eq_true rfl) (Nat.le_of_ble_eq_true rfl) (Nat.le_of_ble_eq_true rfl) (Nat.le_of_ble_eq_true rfl) rfl ?_
  intro v0 τ0 hp0
  obtain ⟨hv0, ht0, hf0⟩ := hp0
  subst hv0
  refine p_if_eq 21 13 rfl rfl dX9_leave_10 (fun h10 => ?_) (fun h10 => ?_)
  · have hb0 : inR x (aC (tO A)) = false := by simpa only [b2i_eq0, Bool.not_eq_true, Decidable.not_not] using h10
    have ee0 := hf0 hb0
    subst ee0
    refine p_iconst (0) 22 rfl dX9_leave_21 rfl ?_
    exact p_iret dX9_leave_22 rfl ⟨_, rfl, by rw [fLeave, gd_f hb0]; exact hI_sI _ _ _ _, fun q => absurd q (by rw [fLeave, gd_f hb0]; decide), by rw [show nLeave A _ _ = A from if_neg (by simp [hb0])]; exact (hRM.q hQ).q FQ.th, (hQ.tr FQ.th).ch⟩
  · have hb0 : inR x (aC (tO A)) = true := by simpa only [b2i_eq0, Decidable.not_not, Bool.not_eq_true, Bool.not_eq_false] using h10
    have ee0 := ht0 hb0
    subst ee0
    obtain ⟨c, rfl, hc⟩ := asN hb0 (by omega)
    have hcL : c < 2147483648 := by omega
    refine p_aload_n 0 14 rfl rfl dX9_leave_13 rfl ?_
    refine p_iload_n 2 15 rfl rfl dX9_leave_14 rfl ?_
    refine p_cV1x 0 0 18 rfl dX9_leave_15 (c_isSheet hM h0 _) ml_X9_378 vl_X9_isSheet rfl (by decide) rfl (Nat.le_of_ble_eq_true rfl) (Nat.le_of_ble_eq_true rfl) (Nat.le_of_ble_eq_true rfl) (Nat.le_of_ble_eq_true rfl) rfl ?_
    intro v1 τ1 hp1
    obtain ⟨hv1, ht1, hf1⟩ := hp1
    subst hv1
    refine p_if_ne 23 21 rfl rfl dX9_leave_18 (fun h18 => ?_) (fun h18 => ?_)
    · have hb1 : inR y (aS (tO A)) = true := by simpa only [b2i_eq0, Decidable.not_not, Bool.not_eq_true, Bool.not_eq_false] using h18
      have ee1 := ht1 hb1
      subst ee1
      obtain ⟨s, rfl, hs⟩ := asN hb1 (by omega)
      have hsL : s < 2147483648 := by omega
      refine p_aload_n 0 24 rfl rfl dX9_leave_23 rfl ?_
      refine p_getR 9 44 27 rfl dX9_leave_24 fl_X9_66 rfl rfl (show hR _ M0 44 = mRo from hM.1 44) (by decide) ?_
      refine p_bipush (19) 29 rfl dX9_leave_27 rfl ?_
      refine p_iload_n 2 30 rfl rfl dX9_leave_29 rfl ?_
      refine p_iadd 31 rfl dX9_leave_30 ?_
      rw [ix0 19 s 19 rfl]
      refine p_ialdE 32 rfl dX9_leave_31 (i := 19 + s) rfl (by show _ < 68; omega) (at0 hw hs) ?_
      have hp := hvP hv (s := s) (by omega)
      have ht4 := tOn_lt hO (d := vD (tV A)) hc
      refine p_bipush (10) 34 rfl dX9_leave_32 rfl ?_
      refine p_iload_n 1 35 rfl rfl dX9_leave_34 rfl ?_
      refine p_iadd 36 rfl dX9_leave_35 ?_
      rw [ix0 10 c 10 rfl]
      refine p_icmp_eq 45 39 rfl rfl dX9_leave_36 (fun h36 => ?_) (fun h36 => ?_)
      · have hyes : vP (tV A) s = c + 5 := (atI_hand hp (by omega)).mp h36
        have en : nLeave A (nI c) (nI s) = plc A s (tOn (tO A) c (vD (tV A)) + 1) := by rw [nLeave, if_pos ⟨hb0, hb1⟩, iN_nI hcL, iN_nI hsL, if_pos hyes]
        rw [en] at hkN
        refine p_aload_n 0 46 rfl rfl dX9_leave_45 rfl ?_
        refine p_cV0v 0 0 49 rfl dX9_leave_46 (c_keeps hR0) ml_X9_414 vl_X9_keeps rfl (by decide) rfl (Nat.le_of_ble_eq_true rfl) (Nat.le_of_ble_eq_true rfl) (Nat.le_of_ble_eq_true rfl) (Nat.le_of_ble_eq_true rfl) rfl ?_
        intro τ1 hp1
        have hR1 := hp1.1
        have hM1 : OM τ1 (tO A) := hR1.1
        have hw1 : RowM true (hA τ1 mRo) 0 (tO A) (tV A) := hR1.2.2.1
        have h01 : hI τ1 M0 0 = 0 := (hp1.2.2.1 M0 0 (by simp)).trans h0
        have hkn : knB (tO A) (tV A) := hR0.2.2.2.2.2.2.2.2.2.1
        have hc1 : ChM σ τ1 := hQ.ch.tr (FrK.ch hp1.2)
        refine p_aload_n 0 50 rfl rfl dX9_leave_49 rfl ?_
        refine p_getR 9 44 53 rfl dX9_leave_50 fl_X9_66 rfl rfl (show hR _ M0 44 = mRo from hM1.1 44) (by decide) ?_
        refine p_bipush (19) 55 rfl dX9_leave_53 rfl ?_
        refine p_iload_n 2 56 rfl rfl dX9_leave_55 rfl ?_
        refine p_iadd 57 rfl dX9_leave_56 ?_
        rw [ix0 19 s 19 rfl]
        refine p_aload_n 0 58 rfl rfl dX9_leave_57 rfl ?_
        refine p_iconst (0) 59 rfl dX9_leave_58 rfl ?_
        refine p_iload_n 1 60 rfl rfl dX9_leave_59 rfl ?_
        refine p_cV2i 63 rfl dX9_leave_60 (c_clerkIn hM1 hw1 hv (by decide) hc) ml_X9_313 vl_X9_clerkIn rfl (by decide) rfl (Nat.le_of_ble_eq_true rfl) (Nat.le_of_ble_eq_true rfl) rfl ?_
        refine p_iastE 64 rfl dX9_leave_63 (i := 19 + s) rfl (by show _ < 68; omega) ?_
        refine p_aload_n 0 65 rfl rfl dX9_leave_64 rfl ?_
        refine p_getR 9 44 68 rfl dX9_leave_65 fl_X9_66 rfl rfl (show hR _ M0 44 = mRo from hM1.1 44) (by decide) ?_
        refine p_bipush (19) 70 rfl dX9_leave_68 rfl ?_
        refine p_iload_n 2 71 rfl rfl dX9_leave_70 rfl ?_
        refine p_iadd 72 rfl dX9_leave_71 ?_
        rw [ix0 19 s 19 rfl]
        refine p_ialdE 73 rfl dX9_leave_72 (i := 19 + s) rfl (by show _ < 68; omega) (by rw [sA_s, pk_us]) ?_
        exact p_iret dX9_leave_73 rfl ⟨_, rfl, by rw [fLeave, gd_t hb0, gd_t hb1]; exact h01, fun _ => by rw [fLeave, gd_t hb0, gd_t hb1, iN_nI hcL, iN_nI hsL, if_pos hyes], by rw [en]; exact hR1.row (FrB.row (by omega)) (by rw [sA_s, ← atI_t ht4, show 19 + s = 0 + 19 + s by omega]; exact hw1.pl (by omega) hs9 (Or.inl rfl)) hkN hkn, hc1.tr (FrB0.ch (FrB.row (by omega)))⟩
      · have hno : ¬ vP (tV A) s = c + 5 := fun q => h36 ((atI_hand hp (by omega)).mpr q)
        refine p_aload_n 0 40 rfl rfl dX9_leave_39 rfl ?_
        refine p_iconst (1) 41 rfl dX9_leave_40 rfl ?_
        refine p_cV1x 0 0 44 rfl dX9_leave_41 (c_refuses hM.1 (w := 1) (by decide)) ml_X9_411 vl_X9_refuses rfl (by decide) rfl (Nat.le_of_ble_eq_true rfl) (Nat.le_of_ble_eq_true rfl) (Nat.le_of_ble_eq_true rfl) (Nat.le_of_ble_eq_true rfl) rfl ?_
        intro v τ2 hp2
        obtain ⟨e1, e2⟩ := hp2
        subst e1 e2
        exact p_iret dX9_leave_44 rfl ⟨_, rfl, by rw [fLeave, gd_t hb0, gd_t hb1]; exact h0, fun _ => by rw [fLeave, gd_t hb0, gd_t hb1, iN_nI hcL, iN_nI hsL, if_neg hno], by rw [show nLeave A (nI c) (nI s) = uR A 1 by rw [nLeave, if_pos ⟨hb0, hb1⟩, iN_nI hcL, iN_nI hsL, if_neg hno]]; exact hR0.ref (by decide), hQ.ch.tr (FrA.ch (Fr.sA (by simp)))⟩
    · have hb1 : inR y (aS (tO A)) = false := by simpa only [b2i_eq0, Bool.not_eq_true, Decidable.not_not] using h18
      have ee1 := hf1 hb1
      subst ee1
      refine p_iconst (0) 22 rfl dX9_leave_21 rfl ?_
      exact p_iret dX9_leave_22 rfl ⟨_, rfl, by rw [fLeave, gd_t hb0, gd_f hb1]; exact hI_sI _ _ _ _, fun q => absurd q (by rw [fLeave, gd_t hb0, gd_f hb1]; decide), by rw [show nLeave A _ _ = A from if_neg (by simp [hb1])]; exact (hRM.q hQ).q FQ.th, (hQ.tr FQ.th).ch⟩
theorem bP_s {V : AW} {t i : Nat} : bP V t (i + 1) = if vP V i = t + 1 then va_up (bP V t i) i 0 else bP V t i := by
  funext s
  by_cases h : vP V i = t + 1
  · rw [if_pos h]
    by_cases hs : s = i
    · subst hs; rw [va_ups]; unfold bP; rw [if_pos ⟨Nat.lt_succ_self _, h⟩]
    · rw [va_upo hs]; unfold bP
      by_cases hl : s < i
      · by_cases hv : vP V s = t + 1
        · rw [if_pos ⟨by omega, hv⟩, if_pos ⟨hl, hv⟩]
        · rw [if_neg (fun q => hv q.2), if_neg (fun q => hv q.2)]
      · rw [if_neg (fun q => hl (by omega)), if_neg (fun q => hl q.1)]
  · rw [if_neg h]; unfold bP
    by_cases hs : s = i
    · subst hs; rw [if_neg (fun q => h q.2), if_neg (fun q => h q.2)]
    · by_cases hl : s < i
      · by_cases hv : vP V s = t + 1
        · rw [if_pos ⟨by omega, hv⟩, if_pos ⟨hl, hv⟩]
        · rw [if_neg (fun q => hv q.2), if_neg (fun q => hv q.2)]
      · rw [if_neg (fun q => hl (by omega)), if_neg (fun q => hl q.1)]
theorem atI_00 : atI 0 = -1 := rfl
set_option maxRecDepth 4000 in
theorem l_burns {O : AO} {V : AW} {e : Bool} {b t : Nat} (hM : OM σ O) (hv : OkV O V) (hb : b ≤ 34) (ht : t < 4) : ∀ (n i : Nat) (σ1 : PH), i + n = aS O → RowM e (hA σ1 mRo) b O (wPl V (bP V t i)) → FrB b σ σ1 → Ok Γ 1 0 0 mX9_burns 2 [some (.ref M0), some (.int (nI b)), some (.int (nI t)), some (.int (nI i))] [] σ1 (rV (fun σ' => RowM e (hA σ' mRo) b O (brn O V t) ∧ FrB b σ σ')) := by
  have hO := hM.2.1
  have hs9 := hO.1
  have hc6 := hO.2.1
  have hw12 := hO.2.2.1
  have hk8 := hO.2.2.2.1
  intro n
  induction n with
  | zero =>
    intro i σ1 hi hw1 hF
    have hM1 := hM.frB hF
    refine p_iload_n 3 3 rfl rfl dX9_burns_2 rfl ?_
    refine p_aload_n 0 4 rfl rfl dX9_burns_3 rfl ?_
    refine p_getIE 9 1 7 rfl dX9_burns_4 fl_X9_280 rfl rfl hM1.2.2.1.1 ?_
    refine p_icmp_ge 43 10 rfl rfl dX9_burns_7 (fun h7 => ?_) (fun h7 => absurd (nI_le (a := aS O) (b := i) (by omega) (by omega)) h7)
    exact p_vret dX9_burns_43 rfl ⟨rfl, by rw [show i = aS O by omega] at hw1; exact hw1, hF⟩
  | succ n ih =>
    intro i σ1 hi hw1 hF
    have hM1 := hM.frB hF
    have hlt : i < aS O := by omega
    have hp := hvP hv (s := i) (by omega)
    refine p_iload_n 3 3 rfl rfl dX9_burns_2 rfl ?_
    refine p_aload_n 0 4 rfl rfl dX9_burns_3 rfl ?_
    refine p_getIE 9 1 7 rfl dX9_burns_4 fl_X9_280 rfl rfl hM1.2.2.1.1 ?_
    refine p_icmp_ge 43 10 rfl rfl dX9_burns_7 (fun h7 => absurd h7 (nI_ge (a := i) (b := aS O) (by omega) (by omega))) (fun h7 => ?_)
    refine p_aload_n 0 11 rfl rfl dX9_burns_10 rfl ?_
    refine p_getR 9 44 14 rfl dX9_burns_11 fl_X9_66 rfl rfl (show hR _ M0 44 = mRo from hM1.1 44) (by decide) ?_
    refine p_iload_n 1 15 rfl rfl dX9_burns_14 rfl ?_
    refine p_bipush (19) 17 rfl dX9_burns_15 rfl ?_
    refine p_iadd 18 rfl dX9_burns_17 ?_
    refine p_iload_n 3 19 rfl rfl dX9_burns_18 rfl ?_
    refine p_iadd 20 rfl dX9_burns_19 ?_
    rw [ix b 19 (i) 19 rfl]
    refine p_ialdE 21 rfl dX9_burns_20 (i := b + 19 + i) rfl (by show _ < 68; omega) (hw1.2.1 i hlt).2.2 ?_
    refine p_iload_n 2 22 rfl rfl dX9_burns_21 rfl ?_
    refine p_icmp_ne 37 25 rfl rfl dX9_burns_22 (fun h22 => ?_) (fun h22 => ?_)
    · refine p_inc_3 40 rfl dX9_burns_37 (1) rfl (Nat.le_of_ble_eq_true rfl) rfl ?_
      refine p_goto 2 rfl dX9_burns_40 ?_
      have hno : ¬ vP V i = t + 1 := fun q => h22 (by show atI (bP V t i i) = nI t; rw [bP_i]; exact (atI_town hp ht).mpr q)
      rw [nI_1]
      refine ih (i + 1) σ1 (by omega) ?_ hF
      rw [bP_s, if_neg hno]; exact hw1
    · refine p_aload_n 0 26 rfl rfl dX9_burns_25 rfl ?_
      refine p_getR 9 44 29 rfl dX9_burns_26 fl_X9_66 rfl rfl (show hR _ M0 44 = mRo from hM1.1 44) (by decide) ?_
      refine p_iload_n 1 30 rfl rfl dX9_burns_29 rfl ?_
      refine p_bipush (19) 32 rfl dX9_burns_30 rfl ?_
      refine p_iadd 33 rfl dX9_burns_32 ?_
      refine p_iload_n 3 34 rfl rfl dX9_burns_33 rfl ?_
      refine p_iadd 35 rfl dX9_burns_34 ?_
      rw [ix b 19 (i) 19 rfl]
      refine p_iconst (-1) 36 rfl dX9_burns_35 rfl ?_
      refine p_iastE 37 rfl dX9_burns_36 (i := b + 19 + i) rfl (by show _ < 68; omega) ?_
      refine p_inc_3 40 rfl dX9_burns_37 (1) rfl (Nat.le_of_ble_eq_true rfl) rfl ?_
      refine p_goto 2 rfl dX9_burns_40 ?_
      have hyes : vP V i = t + 1 := (atI_town hp ht).mp (by rw [← bP_i V t i]; exact h22)
      rw [nI_1]
      refine ih (i + 1) _ (by omega) ?_ (hF.tr (FrB.row (by omega)))
      rw [bP_s, if_pos hyes, sA_s]; exact hw1.pl (q := 0) (by omega) hs9 (Or.inr (Or.inl rfl))
set_option maxRecDepth 4000 in
theorem c_burns {O : AO} {V : AW} {e : Bool} {b t : Nat} (hM : OM σ O) (hv : OkV O V) (hb : b ≤ 34) (ht : t < 4) (hw : RowM e (hA σ mRo) b O V) : CallOk Γ 1 0 0 mX9_burns [.ref M0, .int (nI b), .int (nI t)] σ (rV (fun σ' => RowM e (hA σ' mRo) b O (brn O V t) ∧ FrB b σ σ')) := by
  refine p_enter rfl rfl (Nat.le_of_ble_eq_true rfl) rfl ?_
  refine p_iconst (0) 1 rfl dX9_burns_0 rfl ?_
  refine p_ist_n3 2 rfl rfl dX9_burns_1 (Nat.le_of_ble_eq_true rfl) rfl ?_
  exact l_burns hM hv hb ht (aS O) 0 σ (by omega) (by rw [bP_0]; exact hw) FrB.rf
set_option maxRecDepth 8000 in
theorem q_fire (hRM : RM σ A) (x : Int32) (hkN : OkT (nFire A x)) : CallOk Γ 12 0 0 mX9_fire [.ref M0, .int x] σ (rM (fFire A x) (fun σ' => RM σ' (nFire A x) ∧ ChM σ σ')) := by
  have hK := hRM.2.1
  have hO := hK.2.2.1
  have hs9 := hO.1
  have hc6 := hO.2.1
  have hw12 := hO.2.2.1
  have hk8 := hO.2.2.2.1
  have hv := hK.2.2.2.2.1.1
  have hd9 := hK.2.2.2.2.1.2
  refine p_enter rfl rfl (Nat.le_of_ble_eq_true rfl) rfl ?_
  refine p_aload_n 0 1 rfl rfl dX9_fire_0 rfl ?_
  refine p_iconst (0) 2 rfl dX9_fire_1 rfl ?_
  refine p_putI 9 0 5 rfl dX9_fire_2 fl_X9_102 rfl rfl (Or.inl rfl) ?_
  have hQ : FQ σ (sI σ M0 0 0) := FQ.th
  have hR0 := hRM.q hQ
  have h0 : hI (sI σ M0 0 0) M0 0 = 0 := hI_sI _ _ _ _
  generalize sI σ M0 0 0 = τ at hQ hR0 h0 ⊢
  have hM := hR0.1
  have hw := hR0.2.2.1
  refine p_aload_n 0 6 rfl rfl dX9_fire_5 rfl ?_
  refine p_iload_n 1 7 rfl rfl dX9_fire_6 rfl ?_
  refine p_cV1x 0 0 10 rfl dX9_fire_7 (c_isTown h0 _) ml_X9_402 vl_X9_isTown rfl (by decide) rfl (Nat.le_of_ble_eq_true rfl) (Nat.le_of_ble_eq_true rfl) (Nat.le_of_ble_eq_true rfl) (Nat.le_of_ble_eq_true rfl) rfl ?_
  intro v0 τ0 hp0
  obtain ⟨hv0, ht0, hf0⟩ := hp0
  subst hv0
  refine p_if_ne 15 13 rfl rfl dX9_fire_10 (fun h10 => ?_) (fun h10 => ?_)
  · have hb0 : inR x 4 = true := by simpa only [b2i_eq0, Decidable.not_not, Bool.not_eq_true, Bool.not_eq_false] using h10
    have ee0 := ht0 hb0
    subst ee0
    obtain ⟨t, rfl, ht⟩ := asN hb0 (by omega)
    have htL : t < 2147483648 := by omega
    refine p_aload_n 0 16 rfl rfl dX9_fire_15 rfl ?_
    refine p_iload_n 1 17 rfl rfl dX9_fire_16 rfl ?_
    refine p_cV1i 20 rfl dX9_fire_17 (c_mArchive hM hw hv ht) ml_X9_405 vl_X9_archive rfl (by decide) rfl (Nat.le_of_ble_eq_true rfl) (Nat.le_of_ble_eq_true rfl) rfl ?_
    have hsl : shAt (tO A) (tV A) (t + 1) < 512 := Nat.lt_of_lt_of_le (setN_lt _ _) (Nat.pow_le_pow_right (by decide) hs9)
    refine p_ist_n2 21 rfl rfl dX9_fire_20 (Nat.le_of_ble_eq_true rfl) rfl ?_
    refine p_iload_n 2 22 rfl rfl dX9_fire_21 rfl ?_
    refine p_if_ne 31 25 rfl rfl dX9_fire_22 (fun h22 => ?_) (fun h22 => ?_)
    · have hyes : ¬ shAt (tO A) (tV A) (t + 1) = 0 := fun q => h22 (show nI (shAt (tO A) (tV A) (t + 1)) = 0 by rw [q]; rfl)
      have en : nFire A (nI t) = uV A (brn (tO A) (tV A) t) (kp (tA A) (tV A)) := by rw [nFire, if_pos hb0, iN_nI htL, if_neg hyes]
      rw [en] at hkN
      refine p_aload_n 0 32 rfl rfl dX9_fire_31 rfl ?_
      refine p_cV0v 0 0 35 rfl dX9_fire_32 (c_keeps hR0) ml_X9_414 vl_X9_keeps rfl (by decide) rfl (Nat.le_of_ble_eq_true rfl) (Nat.le_of_ble_eq_true rfl) (Nat.le_of_ble_eq_true rfl) (Nat.le_of_ble_eq_true rfl) rfl ?_
      intro τ1 hp1
      have hR1 := hp1.1
      have hM1 : OM τ1 (tO A) := hR1.1
      have hw1 : RowM true (hA τ1 mRo) 0 (tO A) (tV A) := hR1.2.2.1
      have h01 : hI τ1 M0 0 = 0 := (hp1.2.2.1 M0 0 (by simp)).trans h0
      have hkn : knB (tO A) (tV A) := hR0.2.2.2.2.2.2.2.2.2.1
      have hc1 : ChM σ τ1 := hQ.ch.tr (FrK.ch hp1.2)
      refine p_aload_n 0 36 rfl rfl dX9_fire_35 rfl ?_
      refine p_iconst (0) 37 rfl dX9_fire_36 rfl ?_
      refine p_iload_n 1 38 rfl rfl dX9_fire_37 rfl ?_
      refine p_cV2v 0 0 41 rfl dX9_fire_38 (c_burns hM1 hv (by decide) ht hw1) ml_X9_417 vl_X9_burns rfl (by decide) rfl (Nat.le_of_ble_eq_true rfl) (Nat.le_of_ble_eq_true rfl) (Nat.le_of_ble_eq_true rfl) (Nat.le_of_ble_eq_true rfl) rfl ?_
      intro τ3 hp3
      refine p_iload_n 2 42 rfl rfl dX9_fire_41 rfl ?_
      exact p_iret dX9_fire_42 rfl ⟨_, rfl, by rw [fFire, gd_t hb0]; exact (hp3.2.1.2.1 M0 0 (by simp)).trans h01, fun _ => by rw [fFire, gd_t hb0, iN_nI htL, if_neg hyes]; rfl, by rw [en]; exact hR1.row hp3.2 hp3.1 hkN hkn, hc1.tr (FrB0.ch hp3.2)⟩
    · have hno : shAt (tO A) (tV A) (t + 1) = 0 := nI_eqI (show nI (shAt (tO A) (tV A) (t + 1)) = nI 0 from h22) (by omega) (by decide)
      refine p_aload_n 0 26 rfl rfl dX9_fire_25 rfl ?_
      refine p_iconst (1) 27 rfl dX9_fire_26 rfl ?_
      refine p_cV1x 0 0 30 rfl dX9_fire_27 (c_refuses hM.1 (w := 1) (by decide)) ml_X9_411 vl_X9_refuses rfl (by decide) rfl (Nat.le_of_ble_eq_true rfl) (Nat.le_of_ble_eq_true rfl) (Nat.le_of_ble_eq_true rfl) (Nat.le_of_ble_eq_true rfl) rfl ?_
      intro v τ2 hp2
      obtain ⟨e1, e2⟩ := hp2
      subst e1 e2
      exact p_iret dX9_fire_30 rfl ⟨_, rfl, by rw [fFire, gd_t hb0]; exact h0, fun _ => by rw [fFire, gd_t hb0, iN_nI htL, if_pos hno], by rw [show nFire A (nI t) = uR A 1 by rw [nFire, if_pos hb0, iN_nI htL, if_pos hno]]; exact hR0.ref (by decide), hQ.ch.tr (FrA.ch (Fr.sA (by simp)))⟩
  · have hb0 : inR x 4 = false := by simpa only [b2i_eq0, Bool.not_eq_true, Decidable.not_not] using h10
    have ee0 := hf0 hb0
    subst ee0
    refine p_iconst (0) 14 rfl dX9_fire_13 rfl ?_
    exact p_iret dX9_fire_14 rfl ⟨_, rfl, by rw [fFire, gd_f hb0]; exact hI_sI _ _ _ _, fun q => absurd q (by rw [fFire, gd_f hb0]; decide), by rw [show nFire A _ = A from if_neg (by simp [hb0])]; exact (hRM.q hQ).q FQ.th, (hQ.tr FQ.th).ch⟩
set_option maxRecDepth 8000 in
theorem q_forge (hRM : RM σ A) (x y z : Int32) (hkN : OkT (nForge A x y z)) : CallOk Γ 12 0 0 mX9_forge [.ref M0, .int x, .int y, .int z] σ (rM (fForge A x y z) (fun σ' => RM σ' (nForge A x y z) ∧ ChM σ σ')) := by
  have hK := hRM.2.1
  have hO := hK.2.2.1
  have hs9 := hO.1
  have hc6 := hO.2.1
  have hw12 := hO.2.2.1
  have hk8 := hO.2.2.2.1
  have hv := hK.2.2.2.2.1.1
  have hd9 := hK.2.2.2.2.1.2
  refine p_enter rfl rfl (Nat.le_of_ble_eq_true rfl) rfl ?_
  refine p_aload_n 0 1 rfl rfl dX9_forge_0 rfl ?_
  refine p_iconst (0) 2 rfl dX9_forge_1 rfl ?_
  refine p_putI 9 0 5 rfl dX9_forge_2 fl_X9_102 rfl rfl (Or.inl rfl) ?_
  have hQ : FQ σ (sI σ M0 0 0) := FQ.th
  have hR0 := hRM.q hQ
  have h0 : hI (sI σ M0 0 0) M0 0 = 0 := hI_sI _ _ _ _
  generalize sI σ M0 0 0 = τ at hQ hR0 h0 ⊢
  have hM := hR0.1
  have hw := hR0.2.2.1
  refine p_aload_n 0 6 rfl rfl dX9_forge_5 rfl ?_
  refine p_iload_n 1 7 rfl rfl dX9_forge_6 rfl ?_
  refine p_cV1x 0 0 10 rfl dX9_forge_7 (c_isSheet hM h0 _) ml_X9_378 vl_X9_isSheet rfl (by decide) rfl (Nat.le_of_ble_eq_true rfl) (Nat.le_of_ble_eq_true rfl) (Nat.le_of_ble_eq_true rfl) (Nat.le_of_ble_eq_true rfl) rfl ?_
  intro v0 τ0 hp0
  obtain ⟨hv0, ht0, hf0⟩ := hp0
  subst hv0
  refine p_if_eq 45 13 rfl rfl dX9_forge_10 (fun h10 => ?_) (fun h10 => ?_)
  · have hb0 : inR x (aS (tO A)) = false := by simpa only [b2i_eq0, Bool.not_eq_true, Decidable.not_not] using h10
    have ee0 := hf0 hb0
    subst ee0
    have hno : frOk A x y z = false := by unfold frOk; simp [hb0]
    refine p_iconst (0) 46 rfl dX9_forge_45 rfl ?_
    exact p_iret dX9_forge_46 rfl ⟨_, rfl, by rw [fForge, gd_f hno]; exact hI_sI _ _ _ _, fun q => absurd q (by rw [fForge, gd_f hno]; decide), by rw [show nForge A x y z = A from if_neg (by rw [hno]; decide)]; exact (hRM.q hQ).q FQ.th, (hQ.tr FQ.th).ch⟩
  · have hb0 : inR x (aS (tO A)) = true := by simpa only [b2i_eq0, Decidable.not_not, Bool.not_eq_true, Bool.not_eq_false] using h10
    have ee0 := ht0 hb0
    subst ee0
    refine p_aload_n 0 14 rfl rfl dX9_forge_13 rfl ?_
    refine p_iload_n 2 15 rfl rfl dX9_forge_14 rfl ?_
    refine p_iconst (0) 16 rfl dX9_forge_15 rfl ?_
    refine p_iconst (1) 17 rfl dX9_forge_16 rfl ?_
    refine p_cS3i 20 rfl dX9_forge_17 (c_within _ _ _) ml_X9_363 sl_X9_within (Nat.le_of_ble_eq_true rfl) (Nat.le_of_ble_eq_true rfl) rfl ?_
    refine p_if_eq 37 23 rfl rfl dX9_forge_20 (fun h20 => ?_) (fun h20 => ?_)
    · refine p_iconst (0) 38 rfl dX9_forge_37 rfl ?_
      refine p_iconst (1) 39 rfl dX9_forge_38 rfl ?_
      refine p_cV2x 0 0 42 rfl dX9_forge_39 (c_right h0 false (by decide)) ml_X9_273 vl_X9_right rfl (by decide) rfl (Nat.le_of_ble_eq_true rfl) (Nat.le_of_ble_eq_true rfl) (Nat.le_of_ble_eq_true rfl) (Nat.le_of_ble_eq_true rfl) rfl ?_
      intro v1 τ1 hp1
      obtain ⟨hv1, ht1, hf1⟩ := hp1
      subst hv1
      refine p_if_ne 47 45 rfl rfl dX9_forge_42 (fun h42 => absurd rfl h42) (fun h42 => ?_)
      have ee1 := hf1 rfl
      subst ee1
      have hy : inR y 2 = false := by rw [← in_wi (n := 1) (by decide)]; exact b2i_f h20
      have hno : frOk A x y z = false := by unfold frOk; simp [hy]
      refine p_iconst (0) 46 rfl dX9_forge_45 rfl ?_
      exact p_iret dX9_forge_46 rfl ⟨_, rfl, by rw [fForge, gd_f hno]; exact hI_sI _ _ _ _, fun q => absurd q (by rw [fForge, gd_f hno]; decide), by rw [show nForge A x y z = A from if_neg (by rw [hno]; decide)]; exact (hRM.q hQ).q FQ.th, (hQ.tr FQ.th).ch⟩
    · refine p_iload_n 3 24 rfl rfl dX9_forge_23 rfl ?_
      refine p_iconst (0) 25 rfl dX9_forge_24 rfl ?_
      refine p_bipush (7) 27 rfl dX9_forge_25 rfl ?_
      refine p_cS3i 30 rfl dX9_forge_27 (c_within _ _ _) ml_X9_363 sl_X9_within (Nat.le_of_ble_eq_true rfl) (Nat.le_of_ble_eq_true rfl) rfl ?_
      refine p_if_eq 37 33 rfl rfl dX9_forge_30 (fun h30 => ?_) (fun h30 => ?_)
      · refine p_iconst (0) 38 rfl dX9_forge_37 rfl ?_
        refine p_iconst (1) 39 rfl dX9_forge_38 rfl ?_
        refine p_cV2x 0 0 42 rfl dX9_forge_39 (c_right h0 false (by decide)) ml_X9_273 vl_X9_right rfl (by decide) rfl (Nat.le_of_ble_eq_true rfl) (Nat.le_of_ble_eq_true rfl) (Nat.le_of_ble_eq_true rfl) (Nat.le_of_ble_eq_true rfl) rfl ?_
        intro v1 τ1 hp1
        obtain ⟨hv1, ht1, hf1⟩ := hp1
        subst hv1
        refine p_if_ne 47 45 rfl rfl dX9_forge_42 (fun h42 => absurd rfl h42) (fun h42 => ?_)
        have ee1 := hf1 rfl
        subst ee1
        have hz : inR z 8 = false := by rw [← in_wi (n := 7) (by decide)]; exact b2i_f h30
        have hno : frOk A x y z = false := by unfold frOk; simp [hz]
        refine p_iconst (0) 46 rfl dX9_forge_45 rfl ?_
        exact p_iret dX9_forge_46 rfl ⟨_, rfl, by rw [fForge, gd_f hno]; exact hI_sI _ _ _ _, fun q => absurd q (by rw [fForge, gd_f hno]; decide), by rw [show nForge A x y z = A from if_neg (by rw [hno]; decide)]; exact (hRM.q hQ).q FQ.th, (hQ.tr FQ.th).ch⟩
      · refine p_iconst (1) 34 rfl dX9_forge_33 rfl ?_
        refine p_goto 38 rfl dX9_forge_34 ?_
        refine p_iconst (1) 39 rfl dX9_forge_38 rfl ?_
        refine p_cV2x 0 0 42 rfl dX9_forge_39 (c_right h0 true (by decide)) ml_X9_273 vl_X9_right rfl (by decide) rfl (Nat.le_of_ble_eq_true rfl) (Nat.le_of_ble_eq_true rfl) (Nat.le_of_ble_eq_true rfl) (Nat.le_of_ble_eq_true rfl) rfl ?_
        intro v1 τ1 hp1
        obtain ⟨hv1, ht1, hf1⟩ := hp1
        subst hv1
        refine p_if_ne 47 45 rfl rfl dX9_forge_42 (fun h42 => ?_) (fun h42 => absurd h42 (by decide))
        have ee1 := ht1 rfl
        subst ee1
        have hy : inR y 2 = true := by rw [← in_wi (n := 1) (by decide)]; exact b2i_t h20
        have hz : inR z 8 = true := by rw [← in_wi (n := 7) (by decide)]; exact b2i_t h30
        have hfr : frOk A x y z = true := by unfold frOk; rw [hb0, hy, hz]; rfl
        obtain ⟨s, rfl, hs⟩ := asN hb0 (by omega)
        have hsL : s < 2147483648 := by omega
        obtain ⟨q, rfl, hq⟩ := asN hy (by omega)
        have hqL : q < 2147483648 := by omega
        obtain ⟨j, rfl, hj⟩ := asN hz (by omega)
        have hjL : j < 2147483648 := by omega
        refine p_aload_n 0 48 rfl rfl dX9_forge_47 rfl ?_
        refine p_iconst (0) 49 rfl dX9_forge_48 rfl ?_
        refine p_iload_n 1 50 rfl rfl dX9_forge_49 rfl ?_
        refine p_cV2i 53 rfl dX9_forge_50 (c_isBurnt hM hw hv (by decide) hs) ml_X9_319 vl_X9_isBurnt rfl (by decide) rfl (Nat.le_of_ble_eq_true rfl) (Nat.le_of_ble_eq_true rfl) rfl ?_
        refine p_if_eq 62 56 rfl rfl dX9_forge_53 (fun h53 => ?_) (fun h53 => ?_)
        · have hbu : (vP (tV A) s == 0) = false := by simpa only [b2i_eq0, Bool.not_eq_true, Decidable.not_not] using h53
          have hyes : ¬ vP (tV A) s = 0 := by simpa using hbu
          have en : nForge A (nI s) (nI q) (nI j) = uV A (forged (tV A) s q j) (kp (tA A) (tV A)) := by rw [nForge, if_pos hfr, iN_nI hsL, iN_nI hqL, iN_nI hjL, if_neg hyes]
          rw [en] at hkN
          have ef : fForge A (nI s) (nI q) (nI j) = (0, nI ((if q = 0 then vL (tV A) s else vR (tV A) s) ^^^ 2 ^ j)) := by rw [fForge, gd_t hfr, iN_nI hsL, iN_nI hqL, iN_nI hjL, if_neg hyes]
          refine p_aload_n 0 63 rfl rfl dX9_forge_62 rfl ?_
          refine p_cV0v 0 0 66 rfl dX9_forge_63 (c_keeps hR0) ml_X9_414 vl_X9_keeps rfl (by decide) rfl (Nat.le_of_ble_eq_true rfl) (Nat.le_of_ble_eq_true rfl) (Nat.le_of_ble_eq_true rfl) (Nat.le_of_ble_eq_true rfl) rfl ?_
          intro τ1 hp1
          have hR1 := hp1.1
          have hM1 : OM τ1 (tO A) := hR1.1
          have hw1 : RowM true (hA τ1 mRo) 0 (tO A) (tV A) := hR1.2.2.1
          have h01 : hI τ1 M0 0 = 0 := (hp1.2.2.1 M0 0 (by simp)).trans h0
          have hkn : knB (tO A) (tV A) := hR0.2.2.2.2.2.2.2.2.2.1
          have hc1 : ChM σ τ1 := hQ.ch.tr (FrK.ch hp1.2)
          have hknF : knB (tO A) (forged (tV A) s q j) := by
            intro c hc; have := hkn c hc; unfold forged; split <;> exact this
          refine p_iload_n 2 67 rfl rfl dX9_forge_66 rfl ?_
          refine p_if_ne 74 70 rfl rfl dX9_forge_67 (fun h67 => ?_) (fun h67 => ?_)
          · refine p_bipush (10) 76 rfl dX9_forge_74 rfl ?_
            refine p_iload_n 1 77 rfl rfl dX9_forge_76 rfl ?_
            refine p_iadd 78 rfl dX9_forge_77 ?_
            rw [ix0 10 s 10 rfl]
            have hq0 : ¬ q = 0 := fun e => h67 (by rw [e]; rfl)
            refine p_ist_4 80 rfl dX9_forge_78 (Nat.le_of_ble_eq_true rfl) rfl ?_
            refine p_aload_n 0 81 rfl rfl dX9_forge_80 rfl ?_
            refine p_getR 9 44 84 rfl dX9_forge_81 fl_X9_66 rfl rfl (show hR _ M0 44 = mRo from hM1.1 44) (by decide) ?_
            refine p_iload 4 86 rfl dX9_forge_84 rfl ?_
            refine p_dup2 87 rfl dX9_forge_86 rfl rfl ?_
            refine p_ialdE 88 rfl dX9_forge_87 (i := 10 + s) rfl (by show _ < 68; omega) (rt0 hw1 hs) ?_
            refine p_iconst (1) 89 rfl dX9_forge_88 rfl ?_
            refine p_iload_n 3 90 rfl rfl dX9_forge_89 rfl ?_
            refine p_ishl 91 rfl dX9_forge_90 ?_
            refine p_ixor 92 rfl dX9_forge_91 ?_
            rw [one_shl _ (by omega), nx_xor]
            refine p_iastE 93 rfl dX9_forge_92 (i := 10 + s) rfl (by show _ < 68; omega) ?_
            refine p_aload_n 0 94 rfl rfl dX9_forge_93 rfl ?_
            refine p_getR 9 44 97 rfl dX9_forge_94 fl_X9_66 rfl rfl (show hR _ M0 44 = mRo from hM1.1 44) (by decide) ?_
            refine p_iload 4 99 rfl dX9_forge_97 rfl ?_
            refine p_ialdE 100 rfl dX9_forge_99 (i := 10 + s) rfl (by show _ < 68; omega) (by rw [sA_s, pk_us]) ?_
            exact p_iret dX9_forge_100 rfl ⟨_, rfl, by rw [ef]; exact h01, fun _ => by rw [ef, if_neg hq0], by rw [en]; exact hR1.row (FrB.row (by omega)) (by rw [sA_s, forged, if_neg hq0, show 10 + s = 0 + 10 + s by omega]; exact hw1.rt (by omega) hs9) hkN hknF, hc1.tr (FrB0.ch (FrB.row (by omega)))⟩
          · refine p_iconst (1) 71 rfl dX9_forge_70 rfl ?_
            refine p_goto 76 rfl dX9_forge_71 ?_
            refine p_iload_n 1 77 rfl rfl dX9_forge_76 rfl ?_
            refine p_iadd 78 rfl dX9_forge_77 ?_
            rw [ix0 1 s 1 rfl]
            have hq0 : q = 0 := nI_eqI (show nI q = nI 0 from h67) (by omega) (by decide)
            refine p_ist_4 80 rfl dX9_forge_78 (Nat.le_of_ble_eq_true rfl) rfl ?_
            refine p_aload_n 0 81 rfl rfl dX9_forge_80 rfl ?_
            refine p_getR 9 44 84 rfl dX9_forge_81 fl_X9_66 rfl rfl (show hR _ M0 44 = mRo from hM1.1 44) (by decide) ?_
            refine p_iload 4 86 rfl dX9_forge_84 rfl ?_
            refine p_dup2 87 rfl dX9_forge_86 rfl rfl ?_
            refine p_ialdE 88 rfl dX9_forge_87 (i := 1 + s) rfl (by show _ < 68; omega) (lf0 hw1 hs) ?_
            refine p_iconst (1) 89 rfl dX9_forge_88 rfl ?_
            refine p_iload_n 3 90 rfl rfl dX9_forge_89 rfl ?_
            refine p_ishl 91 rfl dX9_forge_90 ?_
            refine p_ixor 92 rfl dX9_forge_91 ?_
            rw [one_shl _ (by omega), nx_xor]
            refine p_iastE 93 rfl dX9_forge_92 (i := 1 + s) rfl (by show _ < 68; omega) ?_
            refine p_aload_n 0 94 rfl rfl dX9_forge_93 rfl ?_
            refine p_getR 9 44 97 rfl dX9_forge_94 fl_X9_66 rfl rfl (show hR _ M0 44 = mRo from hM1.1 44) (by decide) ?_
            refine p_iload 4 99 rfl dX9_forge_97 rfl ?_
            refine p_ialdE 100 rfl dX9_forge_99 (i := 1 + s) rfl (by show _ < 68; omega) (by rw [sA_s, pk_us]) ?_
            exact p_iret dX9_forge_100 rfl ⟨_, rfl, by rw [ef]; exact h01, fun _ => by rw [ef, if_pos hq0], by rw [en]; exact hR1.row (FrB.row (by omega)) (by rw [sA_s, forged, if_pos hq0, show 1 + s = 0 + 1 + s by omega]; exact hw1.lf (by omega) hs9) hkN hknF, hc1.tr (FrB0.ch (FrB.row (by omega)))⟩
        · have hbu : (vP (tV A) s == 0) = true := by simpa only [b2i_eq0, Decidable.not_not, Bool.not_eq_true, Bool.not_eq_false] using h53
          have hburn : vP (tV A) s = 0 := by simpa using hbu
          refine p_aload_n 0 57 rfl rfl dX9_forge_56 rfl ?_
          refine p_iconst (1) 58 rfl dX9_forge_57 rfl ?_
          refine p_cV1x 0 0 61 rfl dX9_forge_58 (c_refuses hM.1 (w := 1) (by decide)) ml_X9_411 vl_X9_refuses rfl (by decide) rfl (Nat.le_of_ble_eq_true rfl) (Nat.le_of_ble_eq_true rfl) (Nat.le_of_ble_eq_true rfl) (Nat.le_of_ble_eq_true rfl) rfl ?_
          intro v τ2 hp2
          obtain ⟨e1, e2⟩ := hp2
          subst e1 e2
          exact p_iret dX9_forge_61 rfl ⟨_, rfl, by rw [fForge, gd_t hfr]; exact h0, fun _ => by rw [fForge, gd_t hfr, iN_nI hsL, if_pos hburn], by rw [show nForge A (nI s) (nI q) (nI j) = uR A 1 by rw [nForge, if_pos hfr, iN_nI hsL, if_pos hburn]]; exact hR0.ref (by decide), hQ.ch.tr (FrA.ch (Fr.sA (by simp)))⟩
theorem OkKn.undo {Ls : List AW} {V : AW} (h : OkKn A) (hl : tA A = Ls ++ [V]) : knB (tO A) V ∧ ∀ W ∈ Ls, knB (tO A) W :=
  ⟨h.2.1 V (by rw [hl]; simp), fun W hW => h.2.1 W (by rw [hl]; simp [hW])⟩
set_option maxRecDepth 4000 in
theorem l_mUndo (hr : ∀ k, hR σ M0 k = mRef k) {a : Nat} (ha4 : a < 40) (ha : hI σ M0 46 = nI a) : ∀ (n i : Nat) (σ1 : PH), i + n = 34 → (∀ j, j < i → hA σ1 mRo j = hA σ mAh (34 * a + j)) → Fr [] [mRo] σ σ1 → Ok Γ 11 0 0 mX9_undo 26 [some (.ref M0), some (.int (nI i))] [] σ1 (rX (fun v σ' => v = nI a ∧ (∀ j, j < 34 → hA σ' mRo j = hA σ mAh (34 * a + j)) ∧ Fr [] [mRo] σ σ')) := by
  intro n
  induction n with
  | zero =>
    intro i σ1 hi h1 hF
    have hr1 : ∀ k, hR σ1 M0 k = mRef k := fun k => by rw [hF.2.2.2.1]; exact hr k
    have ha1 : hI σ1 M0 46 = nI a := (hF.2.1 M0 46 (by simp)).trans ha
    refine p_iload_n 1 27 rfl rfl dX9_undo_26 rfl ?_
    refine p_bipush (34) 29 rfl dX9_undo_27 rfl ?_
    refine p_icmp_ge 58 32 rfl rfl dX9_undo_29 (fun h29 => ?_) (fun h29 => absurd (nI_le (a := 34) (b := i) (by omega) (by omega)) h29)
    refine p_aload_n 0 59 rfl rfl dX9_undo_58 rfl ?_
    refine p_getIE 9 46 62 rfl dX9_undo_59 fl_X9_296 rfl rfl ha1 ?_
    exact p_iret dX9_undo_62 rfl ⟨_, rfl, rfl, fun j hj => h1 j (by omega), hF⟩
  | succ n ih =>
    intro i σ1 hi h1 hF
    have hr1 : ∀ k, hR σ1 M0 k = mRef k := fun k => by rw [hF.2.2.2.1]; exact hr k
    have ha1 : hI σ1 M0 46 = nI a := (hF.2.1 M0 46 (by simp)).trans ha
    refine p_iload_n 1 27 rfl rfl dX9_undo_26 rfl ?_
    refine p_bipush (34) 29 rfl dX9_undo_27 rfl ?_
    refine p_icmp_ge 58 32 rfl rfl dX9_undo_29 (fun h29 => absurd h29 (nI_ge (a := i) (b := 34) (by omega) (by omega))) (fun h29 => ?_)
    refine p_aload_n 0 33 rfl rfl dX9_undo_32 rfl ?_
    refine p_getR 9 44 36 rfl dX9_undo_33 fl_X9_66 rfl rfl (show hR _ M0 44 = mRo from hr1 44) (by decide) ?_
    refine p_iload_n 1 37 rfl rfl dX9_undo_36 rfl ?_
    refine p_aload_n 0 38 rfl rfl dX9_undo_37 rfl ?_
    refine p_getR 9 45 41 rfl dX9_undo_38 fl_X9_69 rfl rfl (show hR _ M0 45 = mAh from hr1 45) (by decide) ?_
    refine p_bipush (34) 43 rfl dX9_undo_41 rfl ?_
    refine p_aload_n 0 44 rfl rfl dX9_undo_43 rfl ?_
    refine p_getIE 9 46 47 rfl dX9_undo_44 fl_X9_296 rfl rfl ha1 ?_
    refine p_imul 48 rfl dX9_undo_47 ?_
    refine p_iload_n 1 49 rfl rfl dX9_undo_48 rfl ?_
    refine p_iadd 50 rfl dX9_undo_49 ?_
    rw [show (34 : Int32) = nI 34 from rfl, nI_mu, nI_add]
    have ei : hA σ1 mAh (34 * a + i) = hA σ mAh (34 * a + i) := by rw [hF.2.2.2.2.2 mAh (by decide)]
    refine p_ialdE 51 rfl dX9_undo_50 (i := 34 * a + i) rfl (by show _ < 1360; omega) ei ?_
    refine p_iastE 52 rfl dX9_undo_51 (i := i) rfl (by show _ < 68; omega) ?_
    refine p_inc_1 55 rfl dX9_undo_52 (1) rfl (Nat.le_of_ble_eq_true rfl) rfl ?_
    refine p_goto 26 rfl dX9_undo_55 ?_
    rw [nI_1]
    refine ih (i + 1) _ (by omega) (fun j hj => ?_) (hF.tr (Fr.sA (by simp)))
    rw [sA_s]
    rcases Nat.lt_or_ge j i with w | w
    · rw [pk_un (by omega)]; exact h1 j w
    · rw [show j = i by omega, pk_us]
set_option maxRecDepth 8000 in
theorem q_undo (hRM : RM σ A) (hkN : OkT (nUndo A)) : CallOk Γ 12 0 0 mX9_undo [.ref M0] σ (rM (fUndo A) (fun σ' => RM σ' (nUndo A) ∧ ChM σ σ')) := by
  have hK := hRM.2.1
  have hO := hK.2.2.1
  have hs9 := hO.1
  have hc6 := hO.2.1
  have hw12 := hO.2.2.1
  have hk8 := hO.2.2.2.1
  have hv := hK.2.2.2.2.1.1
  have hd9 := hK.2.2.2.2.1.2
  refine p_enter rfl rfl (Nat.le_of_ble_eq_true rfl) rfl ?_
  refine p_aload_n 0 1 rfl rfl dX9_undo_0 rfl ?_
  refine p_iconst (0) 2 rfl dX9_undo_1 rfl ?_
  refine p_putI 9 0 5 rfl dX9_undo_2 fl_X9_102 rfl rfl (Or.inl rfl) ?_
  have hQ : FQ σ (sI σ M0 0 0) := FQ.th
  have hR0 := hRM.q hQ
  have h0 : hI (sI σ M0 0 0) M0 0 = 0 := hI_sI _ _ _ _
  generalize sI σ M0 0 0 = τ at hQ hR0 h0 ⊢
  have hM := hR0.1
  have hw := hR0.2.2.1
  refine p_aload_n 0 6 rfl rfl dX9_undo_5 rfl ?_
  refine p_getIE 9 46 9 rfl dX9_undo_6 fl_X9_296 rfl rfl hR0.2.2.2.1.1 ?_
  refine p_if_ne 14 12 rfl rfl dX9_undo_9 (fun h9 => ?_) (fun h9 => ?_)
  · have hpos : 0 < (tA A).length := (Nat.eq_zero_or_pos _).elim (fun q => absurd (show nI (tA A).length = 0 by rw [q]; rfl) h9) id
    have hl40 := hK.2.2.2.2.2.1
    obtain ⟨V, hV⟩ : ∃ V, (tA A).getLast? = some V := ⟨(tA A).getLast (fun q => by rw [q] at hpos; exact absurd hpos (Nat.lt_irrefl _)), List.getLast?_eq_some_getLast _⟩
    have hsp : tA A = (tA A).dropLast ++ [V] := by
      obtain ⟨ys, hys⟩ := List.getLast?_eq_some_iff.mp hV
      rw [hys, List.dropLast_concat]
    have en : nUndo A = uV A V (tA A).dropLast := by rw [nUndo, hV]
    have ef : fUndo A = (0, nI ((tA A).length - 1)) := by rw [fUndo, if_neg (by omega)]
    rw [en] at hkN
    refine p_aload_n 0 15 rfl rfl dX9_undo_14 rfl ?_
    refine p_dup 16 rfl dX9_undo_15 rfl ?_
    refine p_getIE 9 46 19 rfl dX9_undo_16 fl_X9_296 rfl rfl hR0.2.2.2.1.1 ?_
    refine p_iconst (1) 20 rfl dX9_undo_19 rfl ?_
    refine p_isub 21 rfl dX9_undo_20 ?_
    rw [show nI (tA A).length - 1 = nI ((tA A).length - 1) from nI_sb (b := 1) hpos]
    refine p_putI 9 46 24 rfl dX9_undo_21 fl_X9_296 rfl rfl (Or.inl rfl) ?_
    refine p_iconst (0) 25 rfl dX9_undo_24 rfl ?_
    refine p_ist_n1 26 rfl rfl dX9_undo_25 (Nat.le_of_ble_eq_true rfl) rfl ?_
    have ha2 : hI (sI τ M0 46 (nI ((tA A).length - 1))) M0 46 = nI ((tA A).length - 1) := hI_sI _ _ _ _
    refine Ok.sub (Ok.mono (l_mUndo (σ := sI τ M0 46 (nI ((tA A).length - 1))) hM.1 (by omega) ha2 34 0 _ (by omega) (fun j hj => absurd hj (Nat.not_lt_zero _)) Fr.rf) ?_) (by decide) (by decide) (by decide)
    rintro o1 σ' ⟨v, e0, e1, e2, e3⟩
    subst e1
    have hFF : Fr [(M0, 0), (M0, 46)] [mRo, mAh, mRf, mTo, mPi] τ σ' := (Fr.sI (by simp)).tr (e3.up (by decide) (by decide))
    have hdl : (tA A).dropLast.length = (tA A).length - 1 := List.length_dropLast
    have hkn := hR0.2.2.2.2.2.2.2.2.2.undo hsp
    refine ⟨_, e0, by rw [ef]; exact (e3.2.1 M0 0 (by simp)).trans ((hI_sIo (by decide)).trans h0), fun _ => by rw [ef], ?_, hQ.ch.tr (FrA.ch hFF)⟩
    rw [en]
    refine hR0.act hFF hkN ⟨hkn.1, hkn.2, hR0.2.2.2.2.2.2.2.2.2.2.2⟩ rfl rfl rfl rfl rfl rfl ?_ ⟨?_, fun i W hi => ?_⟩ ?_
    · have hv2 := hR0.2.2.2.1.2 ((tA A).length - 1) V (by rw [hsp, List.getElem?_append_right (by simp), show (tA A).dropLast.length = (tA A).length - 1 from hdl, ← hsp]; simp)
      exact hv2.cp hO.1 hO.2.1 (fun j hj => by rw [Nat.zero_add]; exact e2 j hj)
    · show hI σ' M0 46 = nI (tA A).dropLast.length
      rw [e3.2.1 M0 46 (by simp), ha2, hdl]
    · show RowM true (hA σ' mAh) (34 * i) (tO A) W
      rw [e3.2.2.2.2.2 mAh (by decide)]
      have hi2 : i < (tA A).dropLast.length := (List.getElem?_eq_some_iff.mp hi).1
      exact hR0.2.2.2.1.2 i W (by rw [hsp, List.getElem?_append_left hi2]; exact hi)
    · show hA σ' mRf 0 = tX A ∧ hA σ' mRf 1 = tY A ∧ hA σ' mRf 2 = tZ A
      rw [e3.2.2.2.2.2 mRf (by decide)]; exact hR0.2.2.2.2.2.2.2.1
  · have he : (tA A).length = 0 := nI_eqI (show nI (tA A).length = nI 0 from h9) (by have := hK.2.2.2.2.2.1; omega) (by decide)
    refine p_iconst (-1) 13 rfl dX9_undo_12 rfl ?_
    exact p_iret dX9_undo_13 rfl ⟨_, rfl, by rw [fUndo]; exact h0, fun _ => by rw [fUndo, if_pos he], by rw [show nUndo A = A by rw [nUndo, List.length_eq_zero_iff.mp he]; rfl]; exact hR0, hQ.ch⟩
end C95
