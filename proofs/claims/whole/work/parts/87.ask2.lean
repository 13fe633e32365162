/-! ===== the reference: what comes in days ===== -/
section C87
variable {Γ : Gm} {σ : PH} {A : AT}
theorem kAll_by (h : OkO (tO A)) (W : AW) : kBy (tO A) W (2 ^ aC (tO A) - 1) = kAll (tO A) W := by
  unfold kBy kAll
  have : ∀ n, n ≤ aC (tO A) → orK n (fun c => (2 ^ aC (tO A) - 1).testBit c) W = orK n (fun _ => true) W := by
    intro n
    induction n with
    | zero => intro _; rfl
    | succ n ih =>
      intro hn
      simp only [orK]
      have hb : (2 ^ aC (tO A) - 1).testBit n = true := by rw [Nat.testBit_two_pow_sub_one]; exact decide_eq_true (by omega)
      rw [ih (by omega), if_pos hb, if_pos trivial]
  exact this _ (Nat.le_refl _)
theorem p6 (h : OkO (tO A)) : 2 ^ aC (tO A) - 1 < 2 ^ 31 := by
  have := Nat.pow_le_pow_right (show 0 < 2 by decide) h.2.1
  omega
set_option maxRecDepth 8000 in
theorem q_then (hRM : RM σ A) (x y z : Int32) : CallOk Γ 12 0 0 mX9_then [.ref M0, .int x, .int y, .int z] σ (rM (fThen A x y z) (fun σ' => RM σ' A ∧ ChM σ σ')) := by
  have hK := hRM.2.1
  have hO := hK.2.2.1
  have hs9 := hO.1
  have hc6 := hO.2.1
  have hw12 := hO.2.2.1
  have hk8 := hO.2.2.2.1
  have hv := hK.2.2.2.2.1.1
  have hd9 := hK.2.2.2.2.1.2
  refine p_enter rfl rfl (Nat.le_of_ble_eq_true rfl) rfl ?_
  refine p_aload_n 0 1 rfl rfl dX9_then_0 rfl ?_
  refine p_iconst (0) 2 rfl dX9_then_1 rfl ?_
  refine p_putI 9 0 5 rfl dX9_then_2 fl_X9_102 rfl rfl (Or.inl rfl) ?_
  have hQ : FQ σ (sI σ M0 0 0) := FQ.th
  have hR0 := hRM.q hQ
  have h0 : hI (sI σ M0 0 0) M0 0 = 0 := hI_sI _ _ _ _
  generalize sI σ M0 0 0 = τ at hQ hR0 h0 ⊢
  have hM := hR0.1
  have hw := hR0.2.2.1
  refine p_aload_n 0 6 rfl rfl dX9_then_5 rfl ?_
  refine p_iload_n 1 7 rfl rfl dX9_then_6 rfl ?_
  refine p_cV1x 0 0 10 rfl dX9_then_7 (c_isClerk hM h0 _) ml_X9_387 vl_X9_isClerk rfl (by decide) rfl (Nat.le_of_ble_eq_true rfl) (Nat.le_of_ble_eq_true rfl) (Nat.le_of_ble_eq_true rfl) (Nat.le_of_ble_eq_true rfl) rfl ?_
  intro v0 τ0 hp0
  obtain ⟨hv0, ht0, hf0⟩ := hp0
  subst hv0
  refine p_if_eq 32 13 rfl rfl dX9_then_10 (fun h10 => ?_) (fun h10 => ?_)
  · have hb0 : inR x (aC (tO A)) = false := by simpa only [b2i_eq0, Bool.not_eq_true, Decidable.not_not] using h10
    have ee0 := hf0 hb0
    subst ee0
    refine p_iconst (0) 33 rfl dX9_then_32 rfl ?_
    exact p_iret dX9_then_33 rfl ⟨_, rfl, by rw [fThen, gd_f hb0]; exact hI_sI _ _ _ _, fun q => absurd q (by rw [fThen, gd_f hb0]; decide), (hRM.q hQ).q FQ.th, (hQ.tr FQ.th).ch⟩
  · have hb0 : inR x (aC (tO A)) = true := by simpa only [b2i_eq0, Decidable.not_not, Bool.not_eq_true, Bool.not_eq_false] using h10
    have ee0 := ht0 hb0
    subst ee0
    obtain ⟨c, rfl, hc⟩ := asN hb0 (by omega)
    have hcL : c < 2147483648 := by omega
    refine p_aload_n 0 14 rfl rfl dX9_then_13 rfl ?_
    refine p_iload_n 3 15 rfl rfl dX9_then_14 rfl ?_
    refine p_iconst (1) 16 rfl dX9_then_15 rfl ?_
    refine p_cV2x 0 0 19 rfl dX9_then_16 (c_isWhat (n := 1) h0 _ (by decide)) ml_X9_381 vl_X9_isWhat rfl (by decide) rfl (Nat.le_of_ble_eq_true rfl) (Nat.le_of_ble_eq_true rfl) (Nat.le_of_ble_eq_true rfl) (Nat.le_of_ble_eq_true rfl) rfl ?_
    intro v1 τ1 hp1
    obtain ⟨hv1, ht1, hf1⟩ := hp1
    subst hv1
    refine p_if_eq 32 22 rfl rfl dX9_then_19 (fun h19 => ?_) (fun h19 => ?_)
    · have hb1 : inR z 2 = false := by simpa only [b2i_eq0, Bool.not_eq_true, Decidable.not_not] using h19
      have ee1 := hf1 hb1
      subst ee1
      refine p_iconst (0) 33 rfl dX9_then_32 rfl ?_
      exact p_iret dX9_then_33 rfl ⟨_, rfl, by rw [fThen, gd_t hb0, gd_f hb1]; exact hI_sI _ _ _ _, fun q => absurd q (by rw [fThen, gd_t hb0, gd_f hb1]; decide), (hRM.q hQ).q FQ.th, (hQ.tr FQ.th).ch⟩
    · have hb1 : inR z 2 = true := by simpa only [b2i_eq0, Decidable.not_not, Bool.not_eq_true, Bool.not_eq_false] using h19
      have ee1 := ht1 hb1
      subst ee1
      obtain ⟨q, rfl, hq⟩ := asN hb1 (by omega)
      have hqL : q < 2147483648 := by omega
      refine p_aload_n 0 23 rfl rfl dX9_then_22 rfl ?_
      refine p_iload_n 2 24 rfl rfl dX9_then_23 rfl ?_
      refine p_iconst (0) 25 rfl dX9_then_24 rfl ?_
      refine p_iconst (2) 26 rfl dX9_then_25 rfl ?_
      refine p_cV3x 0 0 29 rfl dX9_then_26 (c_isDays h0 _ 0 (by decide)) ml_X9_426 vl_X9_isDays rfl (by decide) rfl (Nat.le_of_ble_eq_true rfl) (Nat.le_of_ble_eq_true rfl) (Nat.le_of_ble_eq_true rfl) (Nat.le_of_ble_eq_true rfl) rfl ?_
      intro v2 τ2 hp2
      obtain ⟨hv2, ht2, hf2⟩ := hp2
      subst hv2
      refine p_if_ne 34 32 rfl rfl dX9_then_29 (fun h29 => ?_) (fun h29 => ?_)
      · have hb2 : btw y 0 40 = true := by simpa only [b2i_eq0, Decidable.not_not, Bool.not_eq_true, Bool.not_eq_false] using h29
        have ee2 := ht2 hb2
        subst ee2
        obtain ⟨n, rfl, hna, hn⟩ := asB hb2 (by decide) (by decide)
        have hnL : n < 2147483648 := by omega
        refine p_aload_n 0 35 rfl rfl dX9_then_34 rfl ?_
        refine p_iload_n 2 36 rfl rfl dX9_then_35 rfl ?_
        refine p_cV1v 0 0 39 rfl dX9_then_36 (c_goesTo hM hw hv (by omega)) ml_X9_429 vl_X9_goesTo rfl (by decide) rfl (Nat.le_of_ble_eq_true rfl) (Nat.le_of_ble_eq_true rfl) (Nat.le_of_ble_eq_true rfl) (Nat.le_of_ble_eq_true rfl) rfl ?_
        intro σ1 hp1
        have hM1 := hM.frB hp1.2
        have hR1 := hR0.q (FQ.b hp1.2)
        have h01 : hI σ1 M0 0 = 0 := (hp1.2.1.2.1 M0 0 (by simp)).trans h0
        have hv1 := daysF_ok hO hv n (by omega)
        refine p_iload_n 3 40 rfl rfl dX9_then_39 rfl ?_
        refine p_if_ne 53 43 rfl rfl dX9_then_40 (fun h40 => ?_) (fun h40 => ?_)
        · refine p_aload_n 0 54 rfl rfl dX9_then_53 rfl ?_
          refine p_getR 9 44 57 rfl dX9_then_54 fl_X9_66 rfl rfl (show hR _ M0 44 = mRo from hM1.1 44) (by decide) ?_
          refine p_bipush (62) 59 rfl dX9_then_57 rfl ?_
          refine p_iload_n 1 60 rfl rfl dX9_then_59 rfl ?_
          refine p_iadd 61 rfl dX9_then_60 ?_
          rw [ix0 62 c 62 rfl]
          refine p_ialdE 62 rfl dX9_then_61 (i := 62 + c) rfl (by show _ < 68; omega) (hp1.1.2.2 c hc) ?_
          exact p_iret dX9_then_62 rfl ⟨_, rfl, by rw [fThen, gd_t hb0, gd_t hb1, gd_t hb2]; exact h01, fun _ => by rw [fThen, gd_t hb0, gd_t hb1, gd_t hb2]; have hq0 : ¬ q = 0 := fun e => h40 (by rw [e]; rfl); rw [iN_nI hcL, iN_nI hnL, iN_nI hqL, if_neg hq0]; skip, hR1, (hQ.tr (FQ.b hp1.2)).ch⟩
        · refine p_aload_n 0 44 rfl rfl dX9_then_43 rfl ?_
          refine p_bipush (34) 46 rfl dX9_then_44 rfl ?_
          refine p_iload_n 1 47 rfl rfl dX9_then_46 rfl ?_
          refine p_cV2i 50 rfl dX9_then_47 (c_clerkIn hM1 hp1.1 hv1 (by decide) hc) ml_X9_313 vl_X9_clerkIn rfl (by decide) rfl (Nat.le_of_ble_eq_true rfl) (Nat.le_of_ble_eq_true rfl) rfl ?_
          refine p_goto 62 rfl dX9_then_50 ?_
          exact p_iret dX9_then_62 rfl ⟨_, rfl, by rw [fThen, gd_t hb0, gd_t hb1, gd_t hb2]; exact h01, fun _ => by rw [fThen, gd_t hb0, gd_t hb1, gd_t hb2]; have hq0 : q = 0 := nI_eqI h40 (by omega) (by decide); rw [iN_nI hcL, iN_nI hnL, iN_nI hqL, if_pos hq0]; rw [(days_vP n).2], hR1, (hQ.tr (FQ.b hp1.2)).ch⟩
      · have hb2 : btw y 0 40 = false := by simpa only [b2i_eq0, Bool.not_eq_true, Decidable.not_not] using h29
        have ee2 := hf2 hb2
        subst ee2
        refine p_iconst (0) 33 rfl dX9_then_32 rfl ?_
        exact p_iret dX9_then_33 rfl ⟨_, rfl, by rw [fThen, gd_t hb0, gd_t hb1, gd_f hb2]; exact hI_sI _ _ _ _, fun q => absurd q (by rw [fThen, gd_t hb0, gd_t hb1, gd_f hb2]; decide), (hRM.q hQ).q FQ.th, (hQ.tr FQ.th).ch⟩
set_option maxRecDepth 8000 in
theorem q_unread (hRM : RM σ A) (y : Int32) : CallOk Γ 12 0 0 mX9_unread [.ref M0, .int y] σ (rM (fUnread A y) (fun σ' => RM σ' A ∧ ChM σ σ')) := by
  have hK := hRM.2.1
  have hO := hK.2.2.1
  have hs9 := hO.1
  have hc6 := hO.2.1
  have hw12 := hO.2.2.1
  have hk8 := hO.2.2.2.1
  have hv := hK.2.2.2.2.1.1
  have hd9 := hK.2.2.2.2.1.2
  refine p_enter rfl rfl (Nat.le_of_ble_eq_true rfl) rfl ?_
  refine p_aload_n 0 1 rfl rfl dX9_unread_0 rfl ?_
  refine p_iconst (0) 2 rfl dX9_unread_1 rfl ?_
  refine p_putI 9 0 5 rfl dX9_unread_2 fl_X9_102 rfl rfl (Or.inl rfl) ?_
  have hQ : FQ σ (sI σ M0 0 0) := FQ.th
  have hR0 := hRM.q hQ
  have h0 : hI (sI σ M0 0 0) M0 0 = 0 := hI_sI _ _ _ _
  generalize sI σ M0 0 0 = τ at hQ hR0 h0 ⊢
  have hM := hR0.1
  have hw := hR0.2.2.1
  refine p_aload_n 0 6 rfl rfl dX9_unread_5 rfl ?_
  refine p_iload_n 1 7 rfl rfl dX9_unread_6 rfl ?_
  refine p_iconst (0) 8 rfl dX9_unread_7 rfl ?_
  refine p_iconst (1) 9 rfl dX9_unread_8 rfl ?_
  refine p_cV3x 0 0 12 rfl dX9_unread_9 (c_isDays h0 _ 0 (by decide)) ml_X9_426 vl_X9_isDays rfl (by decide) rfl (Nat.le_of_ble_eq_true rfl) (Nat.le_of_ble_eq_true rfl) (Nat.le_of_ble_eq_true rfl) (Nat.le_of_ble_eq_true rfl) rfl ?_
  intro v0 τ0 hp0
  obtain ⟨hv0, ht0, hf0⟩ := hp0
  subst hv0
  refine p_if_ne 17 15 rfl rfl dX9_unread_12 (fun h12 => ?_) (fun h12 => ?_)
  · have hb0 : btw y 0 40 = true := by simpa only [b2i_eq0, Decidable.not_not, Bool.not_eq_true, Bool.not_eq_false] using h12
    have ee0 := ht0 hb0
    subst ee0
    obtain ⟨n, rfl, hna, hn⟩ := asB hb0 (by decide) (by decide)
    have hnL : n < 2147483648 := by omega
    refine p_aload_n 0 18 rfl rfl dX9_unread_17 rfl ?_
    refine p_iload_n 1 19 rfl rfl dX9_unread_18 rfl ?_
    refine p_cV1v 0 0 22 rfl dX9_unread_19 (c_goesTo hM hw hv (by omega)) ml_X9_429 vl_X9_goesTo rfl (by decide) rfl (Nat.le_of_ble_eq_true rfl) (Nat.le_of_ble_eq_true rfl) (Nat.le_of_ble_eq_true rfl) (Nat.le_of_ble_eq_true rfl) rfl ?_
    intro σ1 hp1
    have hM1 := hM.frB hp1.2
    have hR1 := hR0.q (FQ.b hp1.2)
    have h01 : hI σ1 M0 0 = 0 := (hp1.2.1.2.1 M0 0 (by simp)).trans h0
    have hv1 := daysF_ok hO hv n (by omega)
    refine p_aload_n 0 23 rfl rfl dX9_unread_22 rfl ?_
    refine p_getIE 9 3 26 rfl dX9_unread_23 fl_X9_286 rfl rfl hM1.2.2.1.2.2.1 ?_
    refine p_aload_n 0 27 rfl rfl dX9_unread_26 rfl ?_
    refine p_bipush (34) 29 rfl dX9_unread_27 rfl ?_
    refine p_aload_n 0 30 rfl rfl dX9_unread_29 rfl ?_
    refine p_cV0i 33 rfl dX9_unread_30 (c_everybody hM1) ml_X9_372 vl_X9_everybody rfl (by decide) rfl (Nat.le_of_ble_eq_true rfl) (Nat.le_of_ble_eq_true rfl) rfl ?_
    refine p_cV2i 36 rfl dX9_unread_33 (c_knownBy hM1 hp1.1 hv1 (by decide) (p6 hO)) ml_X9_338 vl_X9_knownBy rfl (by decide) rfl (Nat.le_of_ble_eq_true rfl) (Nat.le_of_ble_eq_true rfl) rfl ?_
    refine p_cS1i 39 rfl dX9_unread_36 (c_bits (Nat.lt_trans (kBy_l hO hv1 _) (by decide))) ml_X9_316 sl_X9_bits (Nat.le_of_ble_eq_true rfl) (Nat.le_of_ble_eq_true rfl) rfl ?_
    refine p_isub 40 rfl dX9_unread_39 ?_
    exact p_iret dX9_unread_40 rfl ⟨_, rfl, by rw [fUnread, gd_t hb0]; exact h01, fun _ => by rw [fUnread, gd_t hb0]; rw [iN_nI hnL]; rw [← kAll_by hO], hR1, (hQ.tr (FQ.b hp1.2)).ch⟩
  · have hb0 : btw y 0 40 = false := by simpa only [b2i_eq0, Bool.not_eq_true, Decidable.not_not] using h12
    have ee0 := hf0 hb0
    subst ee0
    refine p_iconst (0) 16 rfl dX9_unread_15 rfl ?_
    exact p_iret dX9_unread_16 rfl ⟨_, rfl, by rw [fUnread, gd_f hb0]; exact hI_sI _ _ _ _, fun q => absurd q (by rw [fUnread, gd_f hb0]; decide), (hRM.q hQ).q FQ.th, (hQ.tr FQ.th).ch⟩
set_option maxRecDepth 4000 in
theorem l_mFirst (hK : OkT A) {c k : Nat} (hc : c < aC (tO A)) (hk : k < aW (tO A)) {F : Option Nat} : ∀ (n i : Nat) (σ1 : PH), i + n = 41 → RM σ1 A → RowM true (hA σ1 mRo) 34 (tO A) (daysF (tO A) i (tV A)) → hI σ1 M0 0 = 0 → ChM σ σ1 → fnd n i (fun j => (vK (daysF (tO A) j (tV A)) c).testBit k) = F → Ok Γ 11 0 0 mX9_first 29 [some (.ref M0), some (.int (nI c)), some (.int (nI k)), some (.int (nI i))] [] σ1 (rM (0, oI F) (fun σ' => RM σ' A ∧ ChM σ σ')) := by
  have hO := hK.2.2.1
  have hc6 := hO.2.1
  have hw12 := hO.2.2.1
  have hs9 := hO.1
  have hv := hK.2.2.2.2.1.1
  have hd9 := hK.2.2.2.2.1.2
  intro n
  induction n with
  | zero =>
    intro i σ1 hi hR1 hw1 h01 hc1 hF0
    have hM1 := hR1.1
    have hv1 := daysF_ok hO hv i (by omega)
    refine p_iload_n 3 30 rfl rfl dX9_first_29 rfl ?_
    refine p_bipush (40) 32 rfl dX9_first_30 rfl ?_
    refine p_icmp_gt 66 35 rfl rfl dX9_first_32 (fun h32 => ?_) (fun h32 => absurd (nI_lt (a := 40) (b := i) (by omega) (by omega)) h32)
    refine p_iconst (-1) 67 rfl dX9_first_66 rfl ?_
    exact p_iret dX9_first_67 rfl ⟨_, rfl, h01, fun _ => by rw [← hF0]; rfl, hR1, hc1⟩
  | succ n ih =>
    intro i σ1 hi hR1 hw1 h01 hc1 hF0
    have hM1 := hR1.1
    have hv1 := daysF_ok hO hv i (by omega)
    refine p_iload_n 3 30 rfl rfl dX9_first_29 rfl ?_
    refine p_bipush (40) 32 rfl dX9_first_30 rfl ?_
    refine p_icmp_gt 66 35 rfl rfl dX9_first_32 (fun h32 => absurd h32 (nI_nlt (a := 40) (b := i) (by omega) (by omega))) (fun h32 => ?_)
    refine p_aload_n 0 36 rfl rfl dX9_first_35 rfl ?_
    refine p_getR 9 44 39 rfl dX9_first_36 fl_X9_66 rfl rfl (show hR _ M0 44 = mRo from hM1.1 44) (by decide) ?_
    refine p_bipush (62) 41 rfl dX9_first_39 rfl ?_
    refine p_iload_n 1 42 rfl rfl dX9_first_41 rfl ?_
    refine p_iadd 43 rfl dX9_first_42 ?_
    rw [ix0 62 c 62 rfl]
    refine p_ialdE 44 rfl dX9_first_43 (i := 62 + c) rfl (by show _ < 68; omega) (hw1.2.2 c hc) ?_
    refine p_iload_n 2 45 rfl rfl dX9_first_44 rfl ?_
    refine p_ishr 46 rfl dX9_first_45 ?_
    refine p_iconst (1) 47 rfl dX9_first_46 rfl ?_
    refine p_iand 48 rfl dX9_first_47 ?_
    rw [sb1 (by have := hv1.2.2.2 c (by omega); omega) (by omega)]
    refine p_iconst (1) 49 rfl dX9_first_48 rfl ?_
    refine p_icmp_ne 54 52 rfl rfl dX9_first_49 (fun h49 => ?_) (fun h49 => ?_)
    · have hb : (vK (daysF (tO A) i (tV A)) c).testBit k = false := by simpa only [b2i_eq0, b2i_1, Bool.not_eq_true, Decidable.not_not] using h49
      refine p_aload_n 0 55 rfl rfl dX9_first_54 rfl ?_
      refine p_bipush (34) 57 rfl dX9_first_55 rfl ?_
      refine p_cV1v 0 0 60 rfl dX9_first_57 (c_dayGoes hM1 hw1 hv1 (by decide)) ml_X9_357 vl_X9_dayGoes rfl (by decide) rfl (Nat.le_of_ble_eq_true rfl) (Nat.le_of_ble_eq_true rfl) (Nat.le_of_ble_eq_true rfl) (Nat.le_of_ble_eq_true rfl) rfl ?_
      intro σ2 hp2
      refine p_inc_3 63 rfl dX9_first_60 (1) rfl (Nat.le_of_ble_eq_true rfl) rfl ?_
      refine p_goto 29 rfl dX9_first_63 ?_
      rw [nI_1]
      refine ih (i + 1) σ2 (by omega) (hR1.q (FQ.b hp2.2)) hp2.1 ((hp2.2.1.2.1 M0 0 (by simp)).trans h01) (hc1.tr (FQ.b hp2.2).ch) ?_
      rw [← hF0, fnd, if_neg (by rw [hb]; decide)]
    · have hb : (vK (daysF (tO A) i (tV A)) c).testBit k = true := by simpa only [b2i_eq0, b2i_1, Decidable.not_not, Bool.not_eq_true, Bool.not_eq_false] using h49
      refine p_iload_n 3 53 rfl rfl dX9_first_52 rfl ?_
      exact p_iret dX9_first_53 rfl ⟨_, rfl, h01, fun _ => by rw [← hF0, fnd, if_pos hb]; rfl, hR1, hc1⟩
set_option maxRecDepth 8000 in
theorem q_first (hRM : RM σ A) (x y : Int32) : CallOk Γ 12 0 0 mX9_first [.ref M0, .int x, .int y] σ (rM (fFirst A x y) (fun σ' => RM σ' A ∧ ChM σ σ')) := by
  have hK := hRM.2.1
  have hO := hK.2.2.1
  have hs9 := hO.1
  have hc6 := hO.2.1
  have hw12 := hO.2.2.1
  have hk8 := hO.2.2.2.1
  have hv := hK.2.2.2.2.1.1
  have hd9 := hK.2.2.2.2.1.2
  refine p_enter rfl rfl (Nat.le_of_ble_eq_true rfl) rfl ?_
  refine p_aload_n 0 1 rfl rfl dX9_first_0 rfl ?_
  refine p_iconst (0) 2 rfl dX9_first_1 rfl ?_
  refine p_putI 9 0 5 rfl dX9_first_2 fl_X9_102 rfl rfl (Or.inl rfl) ?_
  have hQ : FQ σ (sI σ M0 0 0) := FQ.th
  have hR0 := hRM.q hQ
  have h0 : hI (sI σ M0 0 0) M0 0 = 0 := hI_sI _ _ _ _
  generalize sI σ M0 0 0 = τ at hQ hR0 h0 ⊢
  have hM := hR0.1
  have hw := hR0.2.2.1
  refine p_aload_n 0 6 rfl rfl dX9_first_5 rfl ?_
  refine p_iload_n 1 7 rfl rfl dX9_first_6 rfl ?_
  refine p_cV1x 0 0 10 rfl dX9_first_7 (c_isClerk hM h0 _) ml_X9_387 vl_X9_isClerk rfl (by decide) rfl (Nat.le_of_ble_eq_true rfl) (Nat.le_of_ble_eq_true rfl) (Nat.le_of_ble_eq_true rfl) (Nat.le_of_ble_eq_true rfl) rfl ?_
  intro v0 τ0 hp0
  obtain ⟨hv0, ht0, hf0⟩ := hp0
  subst hv0
  refine p_if_eq 21 13 rfl rfl dX9_first_10 (fun h10 => ?_) (fun h10 => ?_)
  · have hb0 : inR x (aC (tO A)) = false := by simpa only [b2i_eq0, Bool.not_eq_true, Decidable.not_not] using h10
    have ee0 := hf0 hb0
    subst ee0
    refine p_iconst (0) 22 rfl dX9_first_21 rfl ?_
    exact p_iret dX9_first_22 rfl ⟨_, rfl, by rw [fFirst, gd_f hb0]; exact hI_sI _ _ _ _, fun q => absurd q (by rw [fFirst, gd_f hb0]; decide), (hRM.q hQ).q FQ.th, (hQ.tr FQ.th).ch⟩
  · have hb0 : inR x (aC (tO A)) = true := by simpa only [b2i_eq0, Decidable.not_not, Bool.not_eq_true, Bool.not_eq_false] using h10
    have ee0 := ht0 hb0
    subst ee0
    obtain ⟨c, rfl, hc⟩ := asN hb0 (by omega)
    have hcL : c < 2147483648 := by omega
    refine p_aload_n 0 14 rfl rfl dX9_first_13 rfl ?_
    refine p_iload_n 2 15 rfl rfl dX9_first_14 rfl ?_
    refine p_cV1x 0 0 18 rfl dX9_first_15 (c_isWord hM h0 _) ml_X9_390 vl_X9_isWord rfl (by decide) rfl (Nat.le_of_ble_eq_true rfl) (Nat.le_of_ble_eq_true rfl) (Nat.le_of_ble_eq_true rfl) (Nat.le_of_ble_eq_true rfl) rfl ?_
    intro v1 τ1 hp1
    obtain ⟨hv1, ht1, hf1⟩ := hp1
    subst hv1
    refine p_if_ne 23 21 rfl rfl dX9_first_18 (fun h18 => ?_) (fun h18 => ?_)
    · have hb1 : inR y (aW (tO A)) = true := by simpa only [b2i_eq0, Decidable.not_not, Bool.not_eq_true, Bool.not_eq_false] using h18
      have ee1 := ht1 hb1
      subst ee1
      obtain ⟨k, rfl, hk⟩ := asN hb1 (by omega)
      have hkL : k < 2147483648 := by omega
      refine p_aload_n 0 24 rfl rfl dX9_first_23 rfl ?_
      refine p_cV0v 0 0 27 rfl dX9_first_24 (c_tries hM hw) ml_X9_420 vl_X9_tries rfl (by decide) rfl (Nat.le_of_ble_eq_true rfl) (Nat.le_of_ble_eq_true rfl) (Nat.le_of_ble_eq_true rfl) (Nat.le_of_ble_eq_true rfl) rfl ?_
      intro σ1 hp1
      have hR1 := hR0.q (FQ.b hp1.2)
      have h01 : hI σ1 M0 0 = 0 := (hp1.2.1.2.1 M0 0 (by simp)).trans h0
      refine p_iconst (0) 28 rfl dX9_first_27 rfl ?_
      refine p_ist_n3 29 rfl rfl dX9_first_28 (Nat.le_of_ble_eq_true rfl) rfl ?_
      have e : fFirst A (nI c) (nI k) = (0, oI (fnd 41 0 (fun j => (vK (daysF (tO A) j (tV A)) c).testBit k))) := by rw [fFirst, gd_t hb0, gd_t hb1, iN_nI hcL, iN_nI hkL]
      rw [e]
      exact Ok.sub (l_mFirst hK hc hk 41 0 σ1 (by omega) hR1 hp1.1 h01 (hQ.tr (FQ.b hp1.2)).ch rfl) (by decide) (by decide) (by decide)
    · have hb1 : inR y (aW (tO A)) = false := by simpa only [b2i_eq0, Bool.not_eq_true, Decidable.not_not] using h18
      have ee1 := hf1 hb1
      subst ee1
      refine p_iconst (0) 22 rfl dX9_first_21 rfl ?_
      exact p_iret dX9_first_22 rfl ⟨_, rfl, by rw [fFirst, gd_t hb0, gd_f hb1]; exact hI_sI _ _ _ _, fun q => absurd q (by rw [fFirst, gd_t hb0, gd_f hb1]; decide), (hRM.q hQ).q FQ.th, (hQ.tr FQ.th).ch⟩
set_option maxRecDepth 4000 in
theorem l_mMould (hK : OkT A) {s : Nat} (hs : s < aS (tO A)) {F : Option Nat} : ∀ (n i : Nat) (σ1 : PH), i + n = 40 → RM σ1 A → RowM true (hA σ1 mRo) 34 (tO A) (daysF (tO A) i (tV A)) → hI σ1 M0 0 = 0 → ChM σ σ1 → fnd n (i + 1) (fun j => vR (daysF (tO A) j (tV A)) s != vR (tV A) s) = F → Ok Γ 11 0 0 mX9_mould 21 [some (.ref M0), some (.int (nI s)), some (.int (nI (i + 1)))] [] σ1 (rM (0, oI F) (fun σ' => RM σ' A ∧ ChM σ σ')) := by
  have hO := hK.2.2.1
  have hc6 := hO.2.1
  have hw12 := hO.2.2.1
  have hs9 := hO.1
  have hv := hK.2.2.2.2.1.1
  have hd9 := hK.2.2.2.2.1.2
  intro n
  induction n with
  | zero =>
    intro i σ1 hi hR1 hw1 h01 hc1 hF0
    have hM1 := hR1.1
    have hv1 := daysF_ok hO hv i (by omega)
    refine p_iload_n 2 22 rfl rfl dX9_mould_21 rfl ?_
    refine p_bipush (40) 24 rfl dX9_mould_22 rfl ?_
    refine p_icmp_gt 62 27 rfl rfl dX9_mould_24 (fun h24 => ?_) (fun h24 => absurd (nI_lt (a := 40) (b := i + 1) (by omega) (by omega)) h24)
    refine p_iconst (-1) 63 rfl dX9_mould_62 rfl ?_
    exact p_iret dX9_mould_63 rfl ⟨_, rfl, h01, fun _ => by rw [← hF0]; rfl, hR1, hc1⟩
  | succ n ih =>
    intro i σ1 hi hR1 hw1 h01 hc1 hF0
    have hM1 := hR1.1
    have hv1 := daysF_ok hO hv i (by omega)
    refine p_iload_n 2 22 rfl rfl dX9_mould_21 rfl ?_
    refine p_bipush (40) 24 rfl dX9_mould_22 rfl ?_
    refine p_icmp_gt 62 27 rfl rfl dX9_mould_24 (fun h24 => absurd h24 (nI_nlt (a := 40) (b := i + 1) (by omega) (by omega))) (fun h24 => ?_)
    refine p_aload_n 0 28 rfl rfl dX9_mould_27 rfl ?_
    refine p_bipush (34) 30 rfl dX9_mould_28 rfl ?_
    refine p_cV1v 0 0 33 rfl dX9_mould_30 (c_dayGoes hM1 hw1 hv1 (by decide)) ml_X9_357 vl_X9_dayGoes rfl (by decide) rfl (Nat.le_of_ble_eq_true rfl) (Nat.le_of_ble_eq_true rfl) (Nat.le_of_ble_eq_true rfl) (Nat.le_of_ble_eq_true rfl) rfl ?_
    intro σ2 hp2
    have hR2 := hR1.q (FQ.b hp2.2)
    have hM2 := hR2.1
    have h02 : hI σ2 M0 0 = 0 := (hp2.2.1.2.1 M0 0 (by simp)).trans h01
    have hc2 := hc1.tr (FQ.b hp2.2).ch
    have hv2 := daysF_ok hO hv (i + 1) (by omega)
    refine p_aload_n 0 34 rfl rfl dX9_mould_33 rfl ?_
    refine p_getR 9 44 37 rfl dX9_mould_34 fl_X9_66 rfl rfl (show hR _ M0 44 = mRo from hM2.1 44) (by decide) ?_
    refine p_bipush (44) 39 rfl dX9_mould_37 rfl ?_
    refine p_iload_n 1 40 rfl rfl dX9_mould_39 rfl ?_
    refine p_iadd 41 rfl dX9_mould_40 ?_
    rw [ix0 44 s 44 rfl]
    refine p_ialdE 42 rfl dX9_mould_41 (i := 44 + s) rfl (by show _ < 68; omega) (hp2.1.2.1 s hs).2.1 ?_
    refine p_aload_n 0 43 rfl rfl dX9_mould_42 rfl ?_
    refine p_getR 9 44 46 rfl dX9_mould_43 fl_X9_66 rfl rfl (show hR _ M0 44 = mRo from hM2.1 44) (by decide) ?_
    refine p_bipush (10) 48 rfl dX9_mould_46 rfl ?_
    refine p_iload_n 1 49 rfl rfl dX9_mould_48 rfl ?_
    refine p_iadd 50 rfl dX9_mould_49 ?_
    rw [ix0 10 s 10 rfl]
    refine p_ialdE 51 rfl dX9_mould_50 (i := 10 + s) rfl (by show _ < 68; omega) (rt0 hR2.2.2.1 hs) ?_
    refine p_icmp_eq 56 54 rfl rfl dX9_mould_51 (fun h51 => ?_) (fun h51 => ?_)
    · have b1 := (hv2.2.1 s (by omega)).2.1
      have b2 := (hv.2.1 s (by omega)).2.1
      have hb : (vR (daysF (tO A) (i + 1) (tV A)) s != vR (tV A) s) = false := by
        have := nI_eqI (show nI (vR (daysF (tO A) (i + 1) (tV A)) s) = nI (vR (tV A) s) from h51) (by omega) (by omega)
        simp [this]
      refine p_inc_2 59 rfl dX9_mould_56 (1) rfl (Nat.le_of_ble_eq_true rfl) rfl ?_
      refine p_goto 21 rfl dX9_mould_59 ?_
      rw [nI_1]
      refine ih (i + 1) σ2 (by omega) hR2 hp2.1 h02 hc2 ?_
      rw [← hF0, fnd, if_neg (by rw [hb]; decide)]
    · have b1 := (hv2.2.1 s (by omega)).2.1
      have b2 := (hv.2.1 s (by omega)).2.1
      have hb : (vR (daysF (tO A) (i + 1) (tV A)) s != vR (tV A) s) = true := by
        simp only [bne_iff_ne]; exact fun q => h51 (by rw [← q]; rfl)
      refine p_iload_n 2 55 rfl rfl dX9_mould_54 rfl ?_
      exact p_iret dX9_mould_55 rfl ⟨_, rfl, h02, fun _ => by rw [← hF0, fnd, if_pos hb]; rfl, hR2, hc2⟩
set_option maxRecDepth 8000 in
theorem q_mould (hRM : RM σ A) (x : Int32) : CallOk Γ 12 0 0 mX9_mould [.ref M0, .int x] σ (rM (fMould A x) (fun σ' => RM σ' A ∧ ChM σ σ')) := by
  have hK := hRM.2.1
  have hO := hK.2.2.1
  have hs9 := hO.1
  have hc6 := hO.2.1
  have hw12 := hO.2.2.1
  have hk8 := hO.2.2.2.1
  have hv := hK.2.2.2.2.1.1
  have hd9 := hK.2.2.2.2.1.2
  refine p_enter rfl rfl (Nat.le_of_ble_eq_true rfl) rfl ?_
  refine p_aload_n 0 1 rfl rfl dX9_mould_0 rfl ?_
  refine p_iconst (0) 2 rfl dX9_mould_1 rfl ?_
  refine p_putI 9 0 5 rfl dX9_mould_2 fl_X9_102 rfl rfl (Or.inl rfl) ?_
  have hQ : FQ σ (sI σ M0 0 0) := FQ.th
  have hR0 := hRM.q hQ
  have h0 : hI (sI σ M0 0 0) M0 0 = 0 := hI_sI _ _ _ _
  generalize sI σ M0 0 0 = τ at hQ hR0 h0 ⊢
  have hM := hR0.1
  have hw := hR0.2.2.1
  refine p_aload_n 0 6 rfl rfl dX9_mould_5 rfl ?_
  refine p_iload_n 1 7 rfl rfl dX9_mould_6 rfl ?_
  refine p_cV1x 0 0 10 rfl dX9_mould_7 (c_isSheet hM h0 _) ml_X9_378 vl_X9_isSheet rfl (by decide) rfl (Nat.le_of_ble_eq_true rfl) (Nat.le_of_ble_eq_true rfl) (Nat.le_of_ble_eq_true rfl) (Nat.le_of_ble_eq_true rfl) rfl ?_
  intro v0 τ0 hp0
  obtain ⟨hv0, ht0, hf0⟩ := hp0
  subst hv0
  refine p_if_ne 15 13 rfl rfl dX9_mould_10 (fun h10 => ?_) (fun h10 => ?_)
  · have hb0 : inR x (aS (tO A)) = true := by simpa only [b2i_eq0, Decidable.not_not, Bool.not_eq_true, Bool.not_eq_false] using h10
    have ee0 := ht0 hb0
    subst ee0
    obtain ⟨s, rfl, hs⟩ := asN hb0 (by omega)
    have hsL : s < 2147483648 := by omega
    refine p_aload_n 0 16 rfl rfl dX9_mould_15 rfl ?_
    refine p_cV0v 0 0 19 rfl dX9_mould_16 (c_tries hM hw) ml_X9_420 vl_X9_tries rfl (by decide) rfl (Nat.le_of_ble_eq_true rfl) (Nat.le_of_ble_eq_true rfl) (Nat.le_of_ble_eq_true rfl) (Nat.le_of_ble_eq_true rfl) rfl ?_
    intro σ1 hp1
    have hR1 := hR0.q (FQ.b hp1.2)
    have h01 : hI σ1 M0 0 = 0 := (hp1.2.1.2.1 M0 0 (by simp)).trans h0
    refine p_iconst (1) 20 rfl dX9_mould_19 rfl ?_
    refine p_ist_n2 21 rfl rfl dX9_mould_20 (Nat.le_of_ble_eq_true rfl) rfl ?_
    have e : fMould A (nI s) = (0, oI (fnd 40 1 (fun j => vR (daysF (tO A) j (tV A)) s != vR (tV A) s))) := by rw [fMould, gd_t hb0, iN_nI hsL]
    rw [e]
    exact Ok.sub (l_mMould hK hs 40 0 σ1 (by omega) hR1 hp1.1 h01 (hQ.tr (FQ.b hp1.2)).ch rfl) (by decide) (by decide) (by decide)
  · have hb0 : inR x (aS (tO A)) = false := by simpa only [b2i_eq0, Bool.not_eq_true, Decidable.not_not] using h10
    have ee0 := hf0 hb0
    subst ee0
    refine p_iconst (0) 14 rfl dX9_mould_13 rfl ?_
    exact p_iret dX9_mould_14 rfl ⟨_, rfl, by rw [fMould, gd_f hb0]; exact hI_sI _ _ _ _, fun q => absurd q (by rw [fMould, gd_f hb0]; decide), (hRM.q hQ).q FQ.th, (hQ.tr FQ.th).ch⟩
end C87
