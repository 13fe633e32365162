/-! ===== the reference: meet, chain, company, heir, toRead, toSave ===== -/
section C88
variable {Γ : Gm} {σ : PH} {A : AT}
theorem tOf_ne {O : AO} {V : AW} {s k : Nat} (h : ¬ vP V s = 0) : ¬ tOf O V s k = 0 := by
  unfold tOf; split
  · omega
  · exact h
set_option maxRecDepth 4000 in
theorem l_mMeet (hK : OkT A) {s t : Nat} (hs : s < aS (tO A)) (ht : t < aS (tO A)) (hp0 : ¬ vP (tV A) s = 0) {F : Option Nat} : ∀ (n i : Nat) (σ1 : PH), i + n = 41 → RM σ1 A → RowM true (hA σ1 mRo) 34 (tO A) (daysF (tO A) i (tV A)) → hI σ1 M0 0 = 0 → ChM σ σ1 → fnd n i (fun j => tOf (tO A) (tV A) s j != 0 && tOf (tO A) (tV A) s j == tOf (tO A) (tV A) t j) = F → Ok Γ 11 0 0 mX9_meet 54 [some (.ref M0), some (.int (nI s)), some (.int (nI t)), some (.int (nI i))] [] σ1 (rM (0, oI F) (fun σ' => RM σ' A ∧ ChM σ σ')) := by
  have hO := hK.2.2.1
  have hc6 := hO.2.1
  have hw12 := hO.2.2.1
  have hs9 := hO.1
  have hv := hK.2.2.2.2.1.1
  have hd9 := hK.2.2.2.2.1.2
  intro n
  induction n with
  | zero =>
    intro i σ1 hi hR1 hw1 h01 hc1 hF0
    have hM1 := hR1.1
    have hv1 := daysF_ok hO hv i (by omega)
    refine p_iload_n 3 55 rfl rfl dX9_meet_54 rfl ?_
    refine p_bipush (40) 57 rfl dX9_meet_55 rfl ?_
    refine p_icmp_gt 91 60 rfl rfl dX9_meet_57 (fun h57 => ?_) (fun h57 => absurd (nI_lt (a := 40) (b := i) (by omega) (by omega)) h57)
    refine p_iconst (-1) 92 rfl dX9_meet_91 rfl ?_
    exact p_iret dX9_meet_92 rfl ⟨_, rfl, h01, fun _ => by rw [← hF0]; rfl, hR1, hc1⟩
  | succ n ih =>
    intro i σ1 hi hR1 hw1 h01 hc1 hF0
    have hM1 := hR1.1
    have hv1 := daysF_ok hO hv i (by omega)
    refine p_iload_n 3 55 rfl rfl dX9_meet_54 rfl ?_
    refine p_bipush (40) 57 rfl dX9_meet_55 rfl ?_
    refine p_icmp_gt 91 60 rfl rfl dX9_meet_57 (fun h57 => absurd h57 (nI_nlt (a := 40) (b := i) (by omega) (by omega))) (fun h57 => ?_)
    refine p_aload_n 0 61 rfl rfl dX9_meet_60 rfl ?_
    refine p_bipush (34) 63 rfl dX9_meet_61 rfl ?_
    refine p_iload_n 1 64 rfl rfl dX9_meet_63 rfl ?_
    refine p_cV2i 67 rfl dX9_meet_64 (c_sheetIn hM1 hw1 hv1 (by decide) hs) ml_X9_325 vl_X9_sheetIn rfl (by decide) rfl (Nat.le_of_ble_eq_true rfl) (Nat.le_of_ble_eq_true rfl) rfl ?_
    refine p_aload_n 0 68 rfl rfl dX9_meet_67 rfl ?_
    refine p_bipush (34) 70 rfl dX9_meet_68 rfl ?_
    refine p_iload_n 2 71 rfl rfl dX9_meet_70 rfl ?_
    refine p_cV2i 74 rfl dX9_meet_71 (c_sheetIn hM1 hw1 hv1 (by decide) ht) ml_X9_325 vl_X9_sheetIn rfl (by decide) rfl (Nat.le_of_ble_eq_true rfl) (Nat.le_of_ble_eq_true rfl) rfl ?_
    rw [tOf_days, tOf_days]
    refine p_icmp_ne 79 77 rfl rfl dX9_meet_74 (fun h74 => ?_) (fun h74 => ?_)
    · have t1 := tOf_lt hO hv (k := i) hs
      have t2 := tOf_lt hO hv (k := i) ht
      have hb : (tOf (tO A) (tV A) s i != 0 && tOf (tO A) (tV A) s i == tOf (tO A) (tV A) t i) = false := by
        have : ¬ tOf (tO A) (tV A) s i = tOf (tO A) (tV A) t i := fun q => h74 (by rw [q])
        simp [this]
      refine p_aload_n 0 80 rfl rfl dX9_meet_79 rfl ?_
      refine p_bipush (34) 82 rfl dX9_meet_80 rfl ?_
      refine p_cV1v 0 0 85 rfl dX9_meet_82 (c_dayGoes hM1 hw1 hv1 (by decide)) ml_X9_357 vl_X9_dayGoes rfl (by decide) rfl (Nat.le_of_ble_eq_true rfl) (Nat.le_of_ble_eq_true rfl) (Nat.le_of_ble_eq_true rfl) (Nat.le_of_ble_eq_true rfl) rfl ?_
      intro σ2 hp2
      refine p_inc_3 88 rfl dX9_meet_85 (1) rfl (Nat.le_of_ble_eq_true rfl) rfl ?_
      refine p_goto 54 rfl dX9_meet_88 ?_
      rw [nI_1]
      refine ih (i + 1) σ2 (by omega) (hR1.q (FQ.b hp2.2)) hp2.1 ((hp2.2.1.2.1 M0 0 (by simp)).trans h01) (hc1.tr (FQ.b hp2.2).ch) ?_
      rw [← hF0, fnd, if_neg (by rw [hb]; decide)]
    · have t1 := tOf_lt hO hv (k := i) hs
      have t2 := tOf_lt hO hv (k := i) ht
      have hq := (pI_inj (a := tOf (tO A) (tV A) s i) (b := tOf (tO A) (tV A) t i) (by omega) (by omega)).mp h74
      have hb : (tOf (tO A) (tV A) s i != 0 && tOf (tO A) (tV A) s i == tOf (tO A) (tV A) t i) = true := by rw [← hq]; simp [tOf_ne hp0]
      refine p_iload_n 3 78 rfl rfl dX9_meet_77 rfl ?_
      exact p_iret dX9_meet_78 rfl ⟨_, rfl, h01, fun _ => by rw [← hF0, fnd, if_pos hb]; rfl, hR1, hc1⟩
theorem fnd_f {p : Nat → Bool} (h : ∀ j, p j = false) : ∀ n i, fnd n i p = none := by
  intro n
  induction n with
  | zero => intro i; rfl
  | succ n ih => intro i; rw [fnd, if_neg (by rw [h i]; decide)]; exact ih _
theorem tOf_z {O : AO} {V : AW} {s k : Nat} (h : vP V s = 0) : tOf O V s k = 0 := by unfold tOf; rw [if_neg (by omega), h]
set_option maxRecDepth 8000 in
theorem q_meet (hRM : RM σ A) (x y : Int32) : CallOk Γ 12 0 0 mX9_meet [.ref M0, .int x, .int y] σ (rM (fMeet A x y) (fun σ' => RM σ' A ∧ ChM σ σ')) := by
  have hK := hRM.2.1
  have hO := hK.2.2.1
  have hs9 := hO.1
  have hc6 := hO.2.1
  have hw12 := hO.2.2.1
  have hk8 := hO.2.2.2.1
  have hv := hK.2.2.2.2.1.1
  have hd9 := hK.2.2.2.2.1.2
  refine p_enter rfl rfl (Nat.le_of_ble_eq_true rfl) rfl ?_
  refine p_aload_n 0 1 rfl rfl dX9_meet_0 rfl ?_
  refine p_iconst (0) 2 rfl dX9_meet_1 rfl ?_
  refine p_putI 9 0 5 rfl dX9_meet_2 fl_X9_102 rfl rfl (Or.inl rfl) ?_
  have hQ : FQ σ (sI σ M0 0 0) := FQ.th
  have hR0 := hRM.q hQ
  have h0 : hI (sI σ M0 0 0) M0 0 = 0 := hI_sI _ _ _ _
  generalize sI σ M0 0 0 = τ at hQ hR0 h0 ⊢
  have hM := hR0.1
  have hw := hR0.2.2.1
  refine p_aload_n 0 6 rfl rfl dX9_meet_5 rfl ?_
  refine p_iload_n 1 7 rfl rfl dX9_meet_6 rfl ?_
  refine p_cV1x 0 0 10 rfl dX9_meet_7 (c_isSheet hM h0 _) ml_X9_378 vl_X9_isSheet rfl (by decide) rfl (Nat.le_of_ble_eq_true rfl) (Nat.le_of_ble_eq_true rfl) (Nat.le_of_ble_eq_true rfl) (Nat.le_of_ble_eq_true rfl) rfl ?_
  intro v0 τ0 hp0
  obtain ⟨hv0, ht0, hf0⟩ := hp0
  subst hv0
  refine p_if_eq 21 13 rfl rfl dX9_meet_10 (fun h10 => ?_) (fun h10 => ?_)
  · have hb0 : inR x (aS (tO A)) = false := by simpa only [b2i_eq0, Bool.not_eq_true, Decidable.not_not] using h10
    have ee0 := hf0 hb0
    subst ee0
    refine p_iconst (0) 22 rfl dX9_meet_21 rfl ?_
    exact p_iret dX9_meet_22 rfl ⟨_, rfl, by rw [fMeet, gd_f hb0]; exact hI_sI _ _ _ _, fun q => absurd q (by rw [fMeet, gd_f hb0]; decide), (hRM.q hQ).q FQ.th, (hQ.tr FQ.th).ch⟩
  · have hb0 : inR x (aS (tO A)) = true := by simpa only [b2i_eq0, Decidable.not_not, Bool.not_eq_true, Bool.not_eq_false] using h10
    have ee0 := ht0 hb0
    subst ee0
    obtain ⟨s, rfl, hs⟩ := asN hb0 (by omega)
    have hsL : s < 2147483648 := by omega
    refine p_aload_n 0 14 rfl rfl dX9_meet_13 rfl ?_
    refine p_iload_n 2 15 rfl rfl dX9_meet_14 rfl ?_
    refine p_cV1x 0 0 18 rfl dX9_meet_15 (c_isSheet hM h0 _) ml_X9_378 vl_X9_isSheet rfl (by decide) rfl (Nat.le_of_ble_eq_true rfl) (Nat.le_of_ble_eq_true rfl) (Nat.le_of_ble_eq_true rfl) (Nat.le_of_ble_eq_true rfl) rfl ?_
    intro v1 τ1 hp1
    obtain ⟨hv1, ht1, hf1⟩ := hp1
    subst hv1
    refine p_if_ne 23 21 rfl rfl dX9_meet_18 (fun h18 => ?_) (fun h18 => ?_)
    · have hb1 : inR y (aS (tO A)) = true := by simpa only [b2i_eq0, Decidable.not_not, Bool.not_eq_true, Bool.not_eq_false] using h18
      have ee1 := ht1 hb1
      subst ee1
      obtain ⟨t, rfl, ht⟩ := asN hb1 (by omega)
      have htL : t < 2147483648 := by omega
      refine p_iload_n 1 24 rfl rfl dX9_meet_23 rfl ?_
      refine p_iload_n 2 25 rfl rfl dX9_meet_24 rfl ?_
      refine p_icmp_eq 46 28 rfl rfl dX9_meet_25 (fun h25 => ?_) (fun h25 => ?_)
      · refine p_iconst (-1) 47 rfl dX9_meet_46 rfl ?_
        exact p_iret dX9_meet_47 rfl ⟨_, rfl, by rw [fMeet, gd_t hb0, gd_t hb1]; exact h0, fun _ => by rw [fMeet, gd_t hb0, gd_t hb1]; rw [iN_nI hsL, iN_nI htL]; rw [if_pos (nI_eqI h25 (by omega) (by omega))], hR0, hQ.ch⟩
      · refine p_aload_n 0 29 rfl rfl dX9_meet_28 rfl ?_
        refine p_iconst (0) 30 rfl dX9_meet_29 rfl ?_
        refine p_iload_n 1 31 rfl rfl dX9_meet_30 rfl ?_
        refine p_cV2i 34 rfl dX9_meet_31 (c_isBurnt hM hw hv (by decide) hs) ml_X9_319 vl_X9_isBurnt rfl (by decide) rfl (Nat.le_of_ble_eq_true rfl) (Nat.le_of_ble_eq_true rfl) rfl ?_
        refine p_if_ne 46 37 rfl rfl dX9_meet_34 (fun h34 => ?_) (fun h34 => ?_)
        · refine p_iconst (-1) 47 rfl dX9_meet_46 rfl ?_
          exact p_iret dX9_meet_47 rfl ⟨_, rfl, by rw [fMeet, gd_t hb0, gd_t hb1]; exact h0, fun _ => by rw [fMeet, gd_t hb0, gd_t hb1]; rw [iN_nI hsL, iN_nI htL]; have hne : ¬ s = t := fun q => h25 (by rw [q]); have g1 : (vP (tV A) s == 0) = true := (by simpa only [b2i_eq0, Decidable.not_not] using h34); have g : vP (tV A) s = 0 := (by simpa using g1); rw [if_neg hne, fnd_f (fun j => by rw [tOf_z g]; rfl)]; rfl, hR0, hQ.ch⟩
        · refine p_aload_n 0 38 rfl rfl dX9_meet_37 rfl ?_
          refine p_iconst (0) 39 rfl dX9_meet_38 rfl ?_
          refine p_iload_n 2 40 rfl rfl dX9_meet_39 rfl ?_
          refine p_cV2i 43 rfl dX9_meet_40 (c_isBurnt hM hw hv (by decide) ht) ml_X9_319 vl_X9_isBurnt rfl (by decide) rfl (Nat.le_of_ble_eq_true rfl) (Nat.le_of_ble_eq_true rfl) rfl ?_
          refine p_if_eq 48 46 rfl rfl dX9_meet_43 (fun h43 => ?_) (fun h43 => ?_)
          · refine p_aload_n 0 49 rfl rfl dX9_meet_48 rfl ?_
            refine p_cV0v 0 0 52 rfl dX9_meet_49 (c_tries hM hw) ml_X9_420 vl_X9_tries rfl (by decide) rfl (Nat.le_of_ble_eq_true rfl) (Nat.le_of_ble_eq_true rfl) (Nat.le_of_ble_eq_true rfl) (Nat.le_of_ble_eq_true rfl) rfl ?_
            intro σ1 hp1
            have hR1 := hR0.q (FQ.b hp1.2)
            have h01 : hI σ1 M0 0 = 0 := (hp1.2.1.2.1 M0 0 (by simp)).trans h0
            refine p_iconst (0) 53 rfl dX9_meet_52 rfl ?_
            refine p_ist_n3 54 rfl rfl dX9_meet_53 (Nat.le_of_ble_eq_true rfl) rfl ?_
            have hne : ¬ s = t := fun q => h25 (by rw [q])
            have g1 : (vP (tV A) s == 0) = false := by simpa only [b2i_eq0, Bool.not_eq_true] using h34
            have e : fMeet A (nI s) (nI t) = (0, oI (fnd 41 0 (fun j => tOf (tO A) (tV A) s j != 0 && tOf (tO A) (tV A) s j == tOf (tO A) (tV A) t j))) := by rw [fMeet, gd_t hb0, gd_t hb1, iN_nI hsL, iN_nI htL, if_neg hne]
            rw [e]
            exact Ok.sub (l_mMeet hK hs ht (by simpa using g1) 41 0 σ1 (by omega) hR1 hp1.1 h01 (hQ.tr (FQ.b hp1.2)).ch rfl) (by decide) (by decide) (by decide)
          · refine p_iconst (-1) 47 rfl dX9_meet_46 rfl ?_
            exact p_iret dX9_meet_47 rfl ⟨_, rfl, by rw [fMeet, gd_t hb0, gd_t hb1]; exact h0, fun _ => by rw [fMeet, gd_t hb0, gd_t hb1]; rw [iN_nI hsL, iN_nI htL]; have hne : ¬ s = t := fun q => h25 (by rw [q]); have g1 : (vP (tV A) t == 0) = true := (by simpa only [b2i_eq0, Decidable.not_not] using h43); have g : vP (tV A) t = 0 := (by simpa using g1); rw [if_neg hne, fnd_f (fun j => by rw [tOf_z (s := t) g]; cases tOf (tO A) (tV A) s j <;> rfl)]; rfl, hR0, hQ.ch⟩
    · have hb1 : inR y (aS (tO A)) = false := by simpa only [b2i_eq0, Bool.not_eq_true, Decidable.not_not] using h18
      have ee1 := hf1 hb1
      subst ee1
      refine p_iconst (0) 22 rfl dX9_meet_21 rfl ?_
      exact p_iret dX9_meet_22 rfl ⟨_, rfl, by rw [fMeet, gd_t hb0, gd_f hb1]; exact hI_sI _ _ _ _, fun q => absurd q (by rw [fMeet, gd_t hb0, gd_f hb1]; decide), (hRM.q hQ).q FQ.th, (hQ.tr FQ.th).ch⟩
set_option maxRecDepth 4000 in
theorem l_mComp {τ : PH} (hR0 : RM τ A) (h0 : hI τ M0 0 = 0) (hc1 : ChM σ τ) {c d m : Nat} (hc : c < aC (tO A)) (hd : d < aC (tO A)) (hm : m ≤ 60) : ∀ (n i : Nat), i + n = m → Ok Γ 11 0 0 mX9_company 44 [some (.ref M0), some (.int (nI c)), some (.int (nI d)), some (.int (nI m)), some (.int (nI (cntN i (fun q => tOn (tO A) c (vD (tV A) + q) == tOn (tO A) d (vD (tV A) + q))))), some (.int (nI i))] [] τ (rM (0, nI (cntN m (fun q => tOn (tO A) c (vD (tV A) + q) == tOn (tO A) d (vD (tV A) + q)))) (fun σ' => RM σ' A ∧ ChM σ σ')) := by
  have hK := hR0.2.1
  have hO := hK.2.2.1
  have hc6 := hO.2.1
  have hw12 := hO.2.2.1
  have hs9 := hO.1
  have hv := hK.2.2.2.2.1.1
  have hd9 := hK.2.2.2.2.1.2
  have hM := hR0.1
  intro n
  induction n with
  | zero =>
    intro i hi
    refine p_iload 5 46 rfl dX9_company_44 rfl ?_
    refine p_iload_n 3 47 rfl rfl dX9_company_46 rfl ?_
    refine p_icmp_ge 97 50 rfl rfl dX9_company_47 (fun h47 => ?_) (fun h47 => absurd (nI_le (a := m) (b := i) (by omega) (by omega)) h47)
    refine p_iload 4 99 rfl dX9_company_97 rfl ?_
    exact p_iret dX9_company_99 rfl ⟨_, rfl, h0, fun _ => by rw [show m = i by omega], hR0, hc1⟩
  | succ n ih =>
    intro i hi
    refine p_iload 5 46 rfl dX9_company_44 rfl ?_
    refine p_iload_n 3 47 rfl rfl dX9_company_46 rfl ?_
    refine p_icmp_ge 97 50 rfl rfl dX9_company_47 (fun h47 => absurd h47 (nI_ge (a := i) (b := m) (by omega) (by omega))) (fun h47 => ?_)
    refine p_iload 4 52 rfl dX9_company_50 rfl ?_
    refine p_aload_n 0 53 rfl rfl dX9_company_52 rfl ?_
    refine p_iload_n 1 54 rfl rfl dX9_company_53 rfl ?_
    refine p_aload_n 0 55 rfl rfl dX9_company_54 rfl ?_
    refine p_getR 9 44 58 rfl dX9_company_55 fl_X9_66 rfl rfl (show hR _ M0 44 = mRo from hM.1 44) (by decide) ?_
    refine p_iconst (0) 59 rfl dX9_company_58 rfl ?_
    refine p_ialdE 60 rfl dX9_company_59 (i := 0) rfl (by decide) hR0.2.2.1.1 ?_
    refine p_iload 5 62 rfl dX9_company_60 rfl ?_
    refine p_iadd 63 rfl dX9_company_62 ?_
    rw [nI_add]
    refine p_cV2i 66 rfl dX9_company_63 (c_mTownOn hM hc (by omega)) ml_X9_310 vl_X9_townOn rfl (by decide) rfl (Nat.le_of_ble_eq_true rfl) (Nat.le_of_ble_eq_true rfl) rfl ?_
    refine p_aload_n 0 67 rfl rfl dX9_company_66 rfl ?_
    refine p_iload_n 2 68 rfl rfl dX9_company_67 rfl ?_
    refine p_aload_n 0 69 rfl rfl dX9_company_68 rfl ?_
    refine p_getR 9 44 72 rfl dX9_company_69 fl_X9_66 rfl rfl (show hR _ M0 44 = mRo from hM.1 44) (by decide) ?_
    refine p_iconst (0) 73 rfl dX9_company_72 rfl ?_
    refine p_ialdE 74 rfl dX9_company_73 (i := 0) rfl (by decide) hR0.2.2.1.1 ?_
    refine p_iload 5 76 rfl dX9_company_74 rfl ?_
    refine p_iadd 77 rfl dX9_company_76 ?_
    rw [nI_add]
    refine p_cV2i 80 rfl dX9_company_77 (c_mTownOn hM hd (by omega)) ml_X9_310 vl_X9_townOn rfl (by decide) rfl (Nat.le_of_ble_eq_true rfl) (Nat.le_of_ble_eq_true rfl) rfl ?_
    refine p_icmp_ne 87 83 rfl rfl dX9_company_80 (fun h80 => ?_) (fun h80 => ?_)
    · refine p_iconst (0) 88 rfl dX9_company_87 rfl ?_
      refine p_iadd 89 rfl dX9_company_88 ?_
      refine p_ist_4 91 rfl dX9_company_89 (Nat.le_of_ble_eq_true rfl) rfl ?_
      refine p_inc_5 94 rfl dX9_company_91 (1) rfl (Nat.le_of_ble_eq_true rfl) rfl ?_
      refine p_goto 44 rfl dX9_company_94 ?_
      have t1 := tOn_lt hO (d := vD (tV A) + i) hc
      have t2 := tOn_lt hO (d := vD (tV A) + i) hd
      have hb : (tOn (tO A) c (vD (tV A) + i) == tOn (tO A) d (vD (tV A) + i)) = false := by simp only [beq_eq_false_iff_ne]; exact fun q => h80 (by rw [q])
      have e : cntN (i + 1) (fun q => tOn (tO A) c (vD (tV A) + q) == tOn (tO A) d (vD (tV A) + q)) = cntN i (fun q => tOn (tO A) c (vD (tV A) + q) == tOn (tO A) d (vD (tV A) + q)) := by simp [cntN, hb]
      rw [show nI (cntN i (fun q => tOn (tO A) c (vD (tV A) + q) == tOn (tO A) d (vD (tV A) + q))) + 0 = nI (cntN i (fun q => tOn (tO A) c (vD (tV A) + q) == tOn (tO A) d (vD (tV A) + q))) from nI_add _ 0, nI_1, ← e]
      exact ih (i + 1) (by omega)
    · refine p_iconst (1) 84 rfl dX9_company_83 rfl ?_
      refine p_goto 88 rfl dX9_company_84 ?_
      refine p_iadd 89 rfl dX9_company_88 ?_
      refine p_ist_4 91 rfl dX9_company_89 (Nat.le_of_ble_eq_true rfl) rfl ?_
      refine p_inc_5 94 rfl dX9_company_91 (1) rfl (Nat.le_of_ble_eq_true rfl) rfl ?_
      refine p_goto 44 rfl dX9_company_94 ?_
      have t1 := tOn_lt hO (d := vD (tV A) + i) hc
      have t2 := tOn_lt hO (d := vD (tV A) + i) hd
      have hb : (tOn (tO A) c (vD (tV A) + i) == tOn (tO A) d (vD (tV A) + i)) = true := by simp only [beq_iff_eq]; exact nI_eqI h80 (by omega) (by omega)
      have e : cntN (i + 1) (fun q => tOn (tO A) c (vD (tV A) + q) == tOn (tO A) d (vD (tV A) + q)) = cntN i (fun q => tOn (tO A) c (vD (tV A) + q) == tOn (tO A) d (vD (tV A) + q)) + 1 := by simp [cntN, hb]
      rw [nI_1, nI_1, ← e]
      exact ih (i + 1) (by omega)
set_option maxRecDepth 8000 in
theorem q_company (hRM : RM σ A) (x y z : Int32) : CallOk Γ 12 0 0 mX9_company [.ref M0, .int x, .int y, .int z] σ (rM (fCompany A x y z) (fun σ' => RM σ' A ∧ ChM σ σ')) := by
  have hK := hRM.2.1
  have hO := hK.2.2.1
  have hs9 := hO.1
  have hc6 := hO.2.1
  have hw12 := hO.2.2.1
  have hk8 := hO.2.2.2.1
  have hv := hK.2.2.2.2.1.1
  have hd9 := hK.2.2.2.2.1.2
  refine p_enter rfl rfl (Nat.le_of_ble_eq_true rfl) rfl ?_
  refine p_aload_n 0 1 rfl rfl dX9_company_0 rfl ?_
  refine p_iconst (0) 2 rfl dX9_company_1 rfl ?_
  refine p_putI 9 0 5 rfl dX9_company_2 fl_X9_102 rfl rfl (Or.inl rfl) ?_
  have hQ : FQ σ (sI σ M0 0 0) := FQ.th
  have hR0 := hRM.q hQ
  have h0 : hI (sI σ M0 0 0) M0 0 = 0 := hI_sI _ _ _ _
  generalize sI σ M0 0 0 = τ at hQ hR0 h0 ⊢
  have hM := hR0.1
  have hw := hR0.2.2.1
  refine p_aload_n 0 6 rfl rfl dX9_company_5 rfl ?_
  refine p_iload_n 1 7 rfl rfl dX9_company_6 rfl ?_
  refine p_cV1x 0 0 10 rfl dX9_company_7 (c_isClerk hM h0 _) ml_X9_387 vl_X9_isClerk rfl (by decide) rfl (Nat.le_of_ble_eq_true rfl) (Nat.le_of_ble_eq_true rfl) (Nat.le_of_ble_eq_true rfl) (Nat.le_of_ble_eq_true rfl) rfl ?_
  intro v0 τ0 hp0
  obtain ⟨hv0, ht0, hf0⟩ := hp0
  subst hv0
  refine p_if_eq 36 13 rfl rfl dX9_company_10 (fun h10 => ?_) (fun h10 => ?_)
  · have hb0 : inR x (aC (tO A)) = false := by simpa only [b2i_eq0, Bool.not_eq_true, Decidable.not_not] using h10
    have ee0 := hf0 hb0
    subst ee0
    refine p_iconst (0) 37 rfl dX9_company_36 rfl ?_
    exact p_iret dX9_company_37 rfl ⟨_, rfl, by rw [fCompany, gd_f hb0]; exact hI_sI _ _ _ _, fun q => absurd q (by rw [fCompany, gd_f hb0]; decide), (hRM.q hQ).q FQ.th, (hQ.tr FQ.th).ch⟩
  · have hb0 : inR x (aC (tO A)) = true := by simpa only [b2i_eq0, Decidable.not_not, Bool.not_eq_true, Bool.not_eq_false] using h10
    have ee0 := ht0 hb0
    subst ee0
    obtain ⟨c, rfl, hc⟩ := asN hb0 (by omega)
    have hcL : c < 2147483648 := by omega
    refine p_aload_n 0 14 rfl rfl dX9_company_13 rfl ?_
    refine p_iload_n 2 15 rfl rfl dX9_company_14 rfl ?_
    refine p_cV1x 0 0 18 rfl dX9_company_15 (c_isClerk hM h0 _) ml_X9_387 vl_X9_isClerk rfl (by decide) rfl (Nat.le_of_ble_eq_true rfl) (Nat.le_of_ble_eq_true rfl) (Nat.le_of_ble_eq_true rfl) (Nat.le_of_ble_eq_true rfl) rfl ?_
    intro v1 τ1 hp1
    obtain ⟨hv1, ht1, hf1⟩ := hp1
    subst hv1
    refine p_if_eq 36 21 rfl rfl dX9_company_18 (fun h18 => ?_) (fun h18 => ?_)
    · have hb1 : inR y (aC (tO A)) = false := by simpa only [b2i_eq0, Bool.not_eq_true, Decidable.not_not] using h18
      have ee1 := hf1 hb1
      subst ee1
      refine p_iconst (0) 37 rfl dX9_company_36 rfl ?_
      exact p_iret dX9_company_37 rfl ⟨_, rfl, by rw [fCompany, gd_t hb0, gd_f hb1]; exact hI_sI _ _ _ _, fun q => absurd q (by rw [fCompany, gd_t hb0, gd_f hb1]; decide), (hRM.q hQ).q FQ.th, (hQ.tr FQ.th).ch⟩
    · have hb1 : inR y (aC (tO A)) = true := by simpa only [b2i_eq0, Decidable.not_not, Bool.not_eq_true, Bool.not_eq_false] using h18
      have ee1 := ht1 hb1
      subst ee1
      obtain ⟨d, rfl, hd⟩ := asN hb1 (by omega)
      have hdL : d < 2147483648 := by omega
      refine p_aload_n 0 22 rfl rfl dX9_company_21 rfl ?_
      refine p_iload_n 3 23 rfl rfl dX9_company_22 rfl ?_
      refine p_iconst (1) 24 rfl dX9_company_23 rfl ?_
      refine p_bipush (60) 26 rfl dX9_company_24 rfl ?_
      refine p_cS3i 29 rfl dX9_company_26 (c_within _ _ _) ml_X9_363 sl_X9_within (Nat.le_of_ble_eq_true rfl) (Nat.le_of_ble_eq_true rfl) rfl ?_
      refine p_iconst (2) 30 rfl dX9_company_29 rfl ?_
      refine p_cV2x 0 0 33 rfl dX9_company_30 (c_right h0 (btw z 1 60) (by decide)) ml_X9_273 vl_X9_right rfl (by decide) rfl (Nat.le_of_ble_eq_true rfl) (Nat.le_of_ble_eq_true rfl) (Nat.le_of_ble_eq_true rfl) (Nat.le_of_ble_eq_true rfl) rfl ?_
      intro v2 τ2 hp2
      obtain ⟨hv2, ht2, hf2⟩ := hp2
      subst hv2
      refine p_if_ne 38 36 rfl rfl dX9_company_33 (fun h33 => ?_) (fun h33 => ?_)
      · have hb2 : btw z 1 60 = true := by simpa only [b2i_eq0, Decidable.not_not, Bool.not_eq_true, Bool.not_eq_false] using h33
        have ee2 := ht2 hb2
        subst ee2
        obtain ⟨m, rfl, hma, hm⟩ := asB hb2 (by decide) (by decide)
        have hmL : m < 2147483648 := by omega
        refine p_iconst (0) 39 rfl dX9_company_38 rfl ?_
        refine p_ist_4 41 rfl dX9_company_39 (Nat.le_of_ble_eq_true rfl) rfl ?_
        refine p_iconst (0) 42 rfl dX9_company_41 rfl ?_
        refine p_ist_5 44 rfl dX9_company_42 (Nat.le_of_ble_eq_true rfl) rfl ?_
        have e : fCompany A (nI c) (nI d) (nI m) = (0, nI (cntN m (fun q => tOn (tO A) c (vD (tV A) + q) == tOn (tO A) d (vD (tV A) + q)))) := by rw [fCompany, gd_t hb0, gd_t hb1, gd_t hb2, iN_nI hcL, iN_nI hdL, iN_nI hmL]
        rw [e]
        exact Ok.sub (l_mComp hR0 h0 hQ.ch hc hd (by omega) m 0 (by omega)) (by decide) (by decide) (by decide)
      · have hb2 : btw z 1 60 = false := by simpa only [b2i_eq0, Bool.not_eq_true, Decidable.not_not] using h33
        have ee2 := hf2 hb2
        subst ee2
        refine p_iconst (0) 37 rfl dX9_company_36 rfl ?_
        exact p_iret dX9_company_37 rfl ⟨_, rfl, by rw [fCompany, gd_t hb0, gd_t hb1, gd_f hb2]; exact hI_sI _ _ _ _, fun q => absurd q (by rw [fCompany, gd_t hb0, gd_t hb1, gd_f hb2]; decide), (hRM.q hQ).q FQ.th, (hQ.tr FQ.th).ch⟩
end C88
