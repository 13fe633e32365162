/-! ===== the reference: sheet, clerk, word, town, far, toForge, fault ===== -/
theorem gd_t {b : Bool} {k : Nat} {r : Nat × Int32} (h : b = true) : gd b k r = r := if_pos h
theorem gd_f {b : Bool} {k : Nat} {r : Nat × Int32} (h : b = false) : gd b k r = (k, 0) := if_neg (by rw [h]; decide)
theorem lf0 {f : Nat → Int32} {O : AO} {V : AW} (hw : RowM true f 0 O V) {s : Nat} (hs : s < aS O) : f (1 + s) = nI (vL V s) := by
  have := (hw.2.1 s hs).1 (Or.inl rfl); rwa [Nat.zero_add] at this
theorem rt0 {e : Bool} {f : Nat → Int32} {O : AO} {V : AW} (hw : RowM e f 0 O V) {s : Nat} (hs : s < aS O) : f (10 + s) = nI (vR V s) := by
  have := (hw.2.1 s hs).2.1; rwa [Nat.zero_add] at this
section C86
variable {Γ : Gm} {σ : PH} {A : AT}
set_option maxRecDepth 8000 in
theorem q_far (hRM : RM σ A) (x y : Int32) : CallOk Γ 12 0 0 mX9_far [.ref M0, .int x, .int y] σ (rM (fFar A x y) (fun σ' => RM σ' A ∧ ChM σ σ')) := by
  have hK := hRM.2.1
  have hO := hK.2.2.1
  have hs9 := hO.1
  have hc6 := hO.2.1
  have hw12 := hO.2.2.1
  have hk8 := hO.2.2.2.1
  have hv := hK.2.2.2.2.1.1
  have hd9 := hK.2.2.2.2.1.2
  refine p_enter rfl rfl (Nat.le_of_ble_eq_true rfl) rfl ?_
  refine p_aload_n 0 1 rfl rfl dX9_far_0 rfl ?_
  refine p_iconst (0) 2 rfl dX9_far_1 rfl ?_
  refine p_putI 9 0 5 rfl dX9_far_2 fl_X9_102 rfl rfl (Or.inl rfl) ?_
  have hQ : FQ σ (sI σ M0 0 0) := FQ.th
  have hR0 := hRM.q hQ
  have h0 : hI (sI σ M0 0 0) M0 0 = 0 := hI_sI _ _ _ _
  generalize sI σ M0 0 0 = τ at hQ hR0 h0 ⊢
  have hM := hR0.1
  have hw := hR0.2.2.1
  refine p_aload_n 0 6 rfl rfl dX9_far_5 rfl ?_
  refine p_iload_n 1 7 rfl rfl dX9_far_6 rfl ?_
  refine p_cV1x 0 0 10 rfl dX9_far_7 (c_isSheet hM h0 _) ml_X9_378 vl_X9_isSheet rfl (by decide) rfl (Nat.le_of_ble_eq_true rfl) (Nat.le_of_ble_eq_true rfl) (Nat.le_of_ble_eq_true rfl) (Nat.le_of_ble_eq_true rfl) rfl ?_
  intro v0 τ0 hp0
  obtain ⟨hv0, ht0, hf0⟩ := hp0
  subst hv0
  refine p_if_eq 31 13 rfl rfl dX9_far_10 (fun h10 => ?_) (fun h10 => ?_)
  · have hb0 : inR x (aS (tO A)) = false := by simpa only [b2i_eq0, Bool.not_eq_true, Decidable.not_not] using h10
    have ee0 := hf0 hb0
    subst ee0
    refine p_iconst (0) 32 rfl dX9_far_31 rfl ?_
    exact p_iret dX9_far_32 rfl ⟨_, rfl, by rw [fFar, gd_f hb0]; exact hI_sI _ _ _ _, fun q => absurd q (by rw [fFar, gd_f hb0]; decide), (hRM.q hQ).q FQ.th, (hQ.tr FQ.th).ch⟩
  · have hb0 : inR x (aS (tO A)) = true := by simpa only [b2i_eq0, Decidable.not_not, Bool.not_eq_true, Bool.not_eq_false] using h10
    have ee0 := ht0 hb0
    subst ee0
    obtain ⟨s, rfl, hs⟩ := asN hb0 (by omega)
    have hsL : s < 2147483648 := by omega
    refine p_aload_n 0 14 rfl rfl dX9_far_13 rfl ?_
    refine p_iload_n 2 15 rfl rfl dX9_far_14 rfl ?_
    refine p_cV1x 0 0 18 rfl dX9_far_15 (c_isSheet hM h0 _) ml_X9_378 vl_X9_isSheet rfl (by decide) rfl (Nat.le_of_ble_eq_true rfl) (Nat.le_of_ble_eq_true rfl) (Nat.le_of_ble_eq_true rfl) (Nat.le_of_ble_eq_true rfl) rfl ?_
    intro v1 τ1 hp1
    obtain ⟨hv1, ht1, hf1⟩ := hp1
    subst hv1
    refine p_if_eq 31 21 rfl rfl dX9_far_18 (fun h18 => ?_) (fun h18 => ?_)
    · have hb1 : inR y (aS (tO A)) = false := by simpa only [b2i_eq0, Bool.not_eq_true, Decidable.not_not] using h18
      have ee1 := hf1 hb1
      subst ee1
      refine p_iconst (0) 32 rfl dX9_far_31 rfl ?_
      exact p_iret dX9_far_32 rfl ⟨_, rfl, by rw [fFar, gd_t hb0, gd_f hb1]; exact hI_sI _ _ _ _, fun q => absurd q (by rw [fFar, gd_t hb0, gd_f hb1]; decide), (hRM.q hQ).q FQ.th, (hQ.tr FQ.th).ch⟩
    · have hb1 : inR y (aS (tO A)) = true := by simpa only [b2i_eq0, Decidable.not_not, Bool.not_eq_true, Bool.not_eq_false] using h18
      have ee1 := ht1 hb1
      subst ee1
      obtain ⟨t, rfl, ht⟩ := asN hb1 (by omega)
      have htL : t < 2147483648 := by omega
      refine p_aload_n 0 22 rfl rfl dX9_far_21 rfl ?_
      refine p_iconst (0) 23 rfl dX9_far_22 rfl ?_
      refine p_iload_n 1 24 rfl rfl dX9_far_23 rfl ?_
      refine p_iload_n 2 25 rfl rfl dX9_far_24 rfl ?_
      refine p_cV3i 28 rfl dX9_far_25 (c_offBy hM hw hv (by decide) hs ht (Or.inl rfl)) ml_X9_322 vl_X9_offBy rfl (by decide) rfl (Nat.le_of_ble_eq_true rfl) (Nat.le_of_ble_eq_true rfl) rfl ?_
      refine p_goto 32 rfl dX9_far_28 ?_
      exact p_iret dX9_far_32 rfl ⟨_, rfl, by rw [fFar, gd_t hb0, gd_t hb1]; exact h0, fun _ => by rw [fFar, gd_t hb0, gd_t hb1]; rw [iN_nI hsL, iN_nI htL], hR0, hQ.ch⟩
set_option maxRecDepth 8000 in
theorem q_sheet (hRM : RM σ A) (x y : Int32) : CallOk Γ 12 0 0 mX9_sheet [.ref M0, .int x, .int y] σ (rM (fSheet A x y) (fun σ' => RM σ' A ∧ ChM σ σ')) := by
  have hK := hRM.2.1
  have hO := hK.2.2.1
  have hs9 := hO.1
  have hc6 := hO.2.1
  have hw12 := hO.2.2.1
  have hk8 := hO.2.2.2.1
  have hv := hK.2.2.2.2.1.1
  have hd9 := hK.2.2.2.2.1.2
  refine p_enter rfl rfl (Nat.le_of_ble_eq_true rfl) rfl ?_
  refine p_aload_n 0 1 rfl rfl dX9_sheet_0 rfl ?_
  refine p_iconst (0) 2 rfl dX9_sheet_1 rfl ?_
  refine p_putI 9 0 5 rfl dX9_sheet_2 fl_X9_102 rfl rfl (Or.inl rfl) ?_
  have hQ : FQ σ (sI σ M0 0 0) := FQ.th
  have hR0 := hRM.q hQ
  have h0 : hI (sI σ M0 0 0) M0 0 = 0 := hI_sI _ _ _ _
  generalize sI σ M0 0 0 = τ at hQ hR0 h0 ⊢
  have hM := hR0.1
  have hw := hR0.2.2.1
  refine p_aload_n 0 6 rfl rfl dX9_sheet_5 rfl ?_
  refine p_iload_n 1 7 rfl rfl dX9_sheet_6 rfl ?_
  refine p_cV1x 0 0 10 rfl dX9_sheet_7 (c_isSheet hM h0 _) ml_X9_378 vl_X9_isSheet rfl (by decide) rfl (Nat.le_of_ble_eq_true rfl) (Nat.le_of_ble_eq_true rfl) (Nat.le_of_ble_eq_true rfl) (Nat.le_of_ble_eq_true rfl) rfl ?_
  intro v0 τ0 hp0
  obtain ⟨hv0, ht0, hf0⟩ := hp0
  subst hv0
  refine p_if_eq 22 13 rfl rfl dX9_sheet_10 (fun h10 => ?_) (fun h10 => ?_)
  · have hb0 : inR x (aS (tO A)) = false := by simpa only [b2i_eq0, Bool.not_eq_true, Decidable.not_not] using h10
    have ee0 := hf0 hb0
    subst ee0
    refine p_iconst (0) 23 rfl dX9_sheet_22 rfl ?_
    exact p_iret dX9_sheet_23 rfl ⟨_, rfl, by rw [fSheet, gd_f hb0]; exact hI_sI _ _ _ _, fun q => absurd q (by rw [fSheet, gd_f hb0]; decide), (hRM.q hQ).q FQ.th, (hQ.tr FQ.th).ch⟩
  · have hb0 : inR x (aS (tO A)) = true := by simpa only [b2i_eq0, Decidable.not_not, Bool.not_eq_true, Bool.not_eq_false] using h10
    have ee0 := ht0 hb0
    subst ee0
    obtain ⟨s, rfl, hs⟩ := asN hb0 (by omega)
    have hsL : s < 2147483648 := by omega
    refine p_aload_n 0 14 rfl rfl dX9_sheet_13 rfl ?_
    refine p_iload_n 2 15 rfl rfl dX9_sheet_14 rfl ?_
    refine p_iconst (4) 16 rfl dX9_sheet_15 rfl ?_
    refine p_cV2x 0 0 19 rfl dX9_sheet_16 (c_isWhat (n := 4) h0 _ (by decide)) ml_X9_381 vl_X9_isWhat rfl (by decide) rfl (Nat.le_of_ble_eq_true rfl) (Nat.le_of_ble_eq_true rfl) (Nat.le_of_ble_eq_true rfl) (Nat.le_of_ble_eq_true rfl) rfl ?_
    intro v1 τ1 hp1
    obtain ⟨hv1, ht1, hf1⟩ := hp1
    subst hv1
    refine p_if_ne 24 22 rfl rfl dX9_sheet_19 (fun h19 => ?_) (fun h19 => ?_)
    · have hb1 : inR y 5 = true := by simpa only [b2i_eq0, Decidable.not_not, Bool.not_eq_true, Bool.not_eq_false] using h19
      have ee1 := ht1 hb1
      subst ee1
      refine p_iload_n 2 25 rfl rfl dX9_sheet_24 rfl ?_
      rcases swt3 y with hs25 | hs25 | hs25 | hs25 | hs25
      · subst hs25
        refine p_tswIn (off := 31) 56 rfl dX9_sheet_25 (by decide) (by decide) rfl ?_
        refine p_aload_n 0 57 rfl rfl dX9_sheet_56 rfl ?_
        refine p_getR 9 44 60 rfl dX9_sheet_57 fl_X9_66 rfl rfl (show hR _ M0 44 = mRo from hM.1 44) (by decide) ?_
        refine p_iconst (1) 61 rfl dX9_sheet_60 rfl ?_
        refine p_iload_n 1 62 rfl rfl dX9_sheet_61 rfl ?_
        refine p_iadd 63 rfl dX9_sheet_62 ?_
        rw [ix0 1 s 1 rfl]
        refine p_ialdE 64 rfl dX9_sheet_63 (i := 1 + s) rfl (by show _ < 68; omega) (lf0 hw hs) ?_
        exact p_iret dX9_sheet_64 rfl ⟨_, rfl, by rw [fSheet, gd_t hb0, gd_t hb1]; exact h0, fun _ => by rw [fSheet, gd_t hb0, gd_t hb1]; simp only [sel, iN_nI hsL, show iN 0 = 0 from rfl]; rfl, hR0, hQ.ch⟩
      · subst hs25
        refine p_tswIn (off := 40) 65 rfl dX9_sheet_25 (by decide) (by decide) rfl ?_
        refine p_aload_n 0 66 rfl rfl dX9_sheet_65 rfl ?_
        refine p_getR 9 44 69 rfl dX9_sheet_66 fl_X9_66 rfl rfl (show hR _ M0 44 = mRo from hM.1 44) (by decide) ?_
        refine p_bipush (10) 71 rfl dX9_sheet_69 rfl ?_
        refine p_iload_n 1 72 rfl rfl dX9_sheet_71 rfl ?_
        refine p_iadd 73 rfl dX9_sheet_72 ?_
        rw [ix0 10 s 10 rfl]
        refine p_ialdE 74 rfl dX9_sheet_73 (i := 10 + s) rfl (by show _ < 68; omega) (rt0 hw hs) ?_
        exact p_iret dX9_sheet_74 rfl ⟨_, rfl, by rw [fSheet, gd_t hb0, gd_t hb1]; exact h0, fun _ => by rw [fSheet, gd_t hb0, gd_t hb1]; simp only [sel, iN_nI hsL, show iN 1 = 1 from rfl]; rfl, hR0, hQ.ch⟩
      · subst hs25
        refine p_tswIn (off := 50) 75 rfl dX9_sheet_25 (by decide) (by decide) rfl ?_
        refine p_aload_n 0 76 rfl rfl dX9_sheet_75 rfl ?_
        refine p_iconst (0) 77 rfl dX9_sheet_76 rfl ?_
        refine p_iload_n 1 78 rfl rfl dX9_sheet_77 rfl ?_
        refine p_cV2i 81 rfl dX9_sheet_78 (c_sheetIn hM hw hv (by decide) hs) ml_X9_325 vl_X9_sheetIn rfl (by decide) rfl (Nat.le_of_ble_eq_true rfl) (Nat.le_of_ble_eq_true rfl) rfl ?_
        exact p_iret dX9_sheet_81 rfl ⟨_, rfl, by rw [fSheet, gd_t hb0, gd_t hb1]; exact h0, fun _ => by rw [fSheet, gd_t hb0, gd_t hb1]; simp only [sel, iN_nI hsL, show iN 2 = 2 from rfl]; rfl, hR0, hQ.ch⟩
      · subst hs25
        refine p_tswIn (off := 57) 82 rfl dX9_sheet_25 (by decide) (by decide) rfl ?_
        refine p_aload_n 0 83 rfl rfl dX9_sheet_82 rfl ?_
        refine p_getR 9 44 86 rfl dX9_sheet_83 fl_X9_66 rfl rfl (show hR _ M0 44 = mRo from hM.1 44) (by decide) ?_
        refine p_bipush (19) 88 rfl dX9_sheet_86 rfl ?_
        refine p_iload_n 1 89 rfl rfl dX9_sheet_88 rfl ?_
        refine p_iadd 90 rfl dX9_sheet_89 ?_
        rw [ix0 19 s 19 rfl]
        have hp : vP (tV A) s < 100 := hvP hv (by omega)
        refine p_ialdE 91 rfl dX9_sheet_90 (i := 19 + s) rfl (by show _ < 68; omega) (at0 hw hs) ?_
        refine p_bipush (10) 93 rfl dX9_sheet_91 rfl ?_
        refine p_icmp_ge 100 96 rfl rfl dX9_sheet_93 (fun h93 => ?_) (fun h93 => ?_)
        · refine p_aload_n 0 101 rfl rfl dX9_sheet_100 rfl ?_
          refine p_getR 9 44 104 rfl dX9_sheet_101 fl_X9_66 rfl rfl (show hR _ M0 44 = mRo from hM.1 44) (by decide) ?_
          refine p_bipush (19) 106 rfl dX9_sheet_104 rfl ?_
          refine p_iload_n 1 107 rfl rfl dX9_sheet_106 rfl ?_
          refine p_iadd 108 rfl dX9_sheet_107 ?_
          rw [ix0 19 s 19 rfl]
          refine p_ialdE 109 rfl dX9_sheet_108 (i := 19 + s) rfl (by show _ < 68; omega) (at0 hw hs) ?_
          refine p_bipush (10) 111 rfl dX9_sheet_109 rfl ?_
          refine p_isub 112 rfl dX9_sheet_111 ?_
          exact p_iret dX9_sheet_112 rfl ⟨_, rfl, by rw [fSheet, gd_t hb0, gd_t hb1]; exact h0, fun _ => by rw [fSheet, gd_t hb0, gd_t hb1]; simp only [sel, iN_nI hsL, show iN 3 = 3 from rfl]; show _ = (if 5 ≤ vP (tV A) s then nI (vP (tV A) s - 5) else -1); have h5 : 5 ≤ vP (tV A) s := (Nat.lt_or_ge (vP (tV A) s) 5).elim (fun q => absurd h93 (Int32.not_le.mpr ((atI_lt hp).mpr q))) id; rw [if_pos h5, atI_5 h5]; exact (nI_sb (a := vP (tV A) s + 5) (b := 10) (by omega)).trans (by rw [show vP (tV A) s + 5 - 10 = vP (tV A) s - 5 by omega]), hR0, hQ.ch⟩
        · refine p_iconst (-1) 97 rfl dX9_sheet_96 rfl ?_
          refine p_goto 112 rfl dX9_sheet_97 ?_
          exact p_iret dX9_sheet_112 rfl ⟨_, rfl, by rw [fSheet, gd_t hb0, gd_t hb1]; exact h0, fun _ => by rw [fSheet, gd_t hb0, gd_t hb1]; simp only [sel, iN_nI hsL, show iN 3 = 3 from rfl]; show _ = (if 5 ≤ vP (tV A) s then nI (vP (tV A) s - 5) else -1); have h5 : ¬ 5 ≤ vP (tV A) s := fun q => by { have := (atI_lt hp).mp (Int32.not_le.mp h93); omega }; rw [if_neg h5], hR0, hQ.ch⟩
      · refine p_tswOut 113 rfl dX9_sheet_25 hs25 ?_
        refine p_aload_n 0 114 rfl rfl dX9_sheet_113 rfl ?_
        refine p_iload_n 1 115 rfl rfl dX9_sheet_114 rfl ?_
        refine p_cV1i 118 rfl dX9_sheet_115 (c_mFitting hM hw hv hs) ml_X9_384 vl_X9_fitting rfl (by decide) rfl (Nat.le_of_ble_eq_true rfl) (Nat.le_of_ble_eq_true rfl) rfl ?_
        exact p_iret dX9_sheet_118 rfl ⟨_, rfl, by rw [fSheet, gd_t hb0, gd_t hb1]; exact h0, fun _ => by rw [fSheet, gd_t hb0, gd_t hb1]; obtain ⟨q, rfl, hq⟩ := asN hb1 (by omega); rw [nI_toInt (show q < 2 ^ 31 by omega)] at hs25; have hqe : q = 4 := (by omega); subst hqe; simp only [sel, iN_nI hsL, iN_nI (show 4 < 2147483648 by decide)]; rfl, hR0, hQ.ch⟩
    · have hb1 : inR y 5 = false := by simpa only [b2i_eq0, Bool.not_eq_true, Decidable.not_not] using h19
      have ee1 := hf1 hb1
      subst ee1
      refine p_iconst (0) 23 rfl dX9_sheet_22 rfl ?_
      exact p_iret dX9_sheet_23 rfl ⟨_, rfl, by rw [fSheet, gd_t hb0, gd_f hb1]; exact hI_sI _ _ _ _, fun q => absurd q (by rw [fSheet, gd_t hb0, gd_f hb1]; decide), (hRM.q hQ).q FQ.th, (hQ.tr FQ.th).ch⟩
set_option maxRecDepth 8000 in
theorem q_town (hRM : RM σ A) (x y : Int32) : CallOk Γ 12 0 0 mX9_town [.ref M0, .int x, .int y] σ (rM (fTown A x y) (fun σ' => RM σ' A ∧ ChM σ σ')) := by
  have hK := hRM.2.1
  have hO := hK.2.2.1
  have hs9 := hO.1
  have hc6 := hO.2.1
  have hw12 := hO.2.2.1
  have hk8 := hO.2.2.2.1
  have hv := hK.2.2.2.2.1.1
  have hd9 := hK.2.2.2.2.1.2
  refine p_enter rfl rfl (Nat.le_of_ble_eq_true rfl) rfl ?_
  refine p_aload_n 0 1 rfl rfl dX9_town_0 rfl ?_
  refine p_iconst (0) 2 rfl dX9_town_1 rfl ?_
  refine p_putI 9 0 5 rfl dX9_town_2 fl_X9_102 rfl rfl (Or.inl rfl) ?_
  have hQ : FQ σ (sI σ M0 0 0) := FQ.th
  have hR0 := hRM.q hQ
  have h0 : hI (sI σ M0 0 0) M0 0 = 0 := hI_sI _ _ _ _
  generalize sI σ M0 0 0 = τ at hQ hR0 h0 ⊢
  have hM := hR0.1
  have hw := hR0.2.2.1
  refine p_aload_n 0 6 rfl rfl dX9_town_5 rfl ?_
  refine p_iload_n 1 7 rfl rfl dX9_town_6 rfl ?_
  refine p_cV1x 0 0 10 rfl dX9_town_7 (c_isTown h0 _) ml_X9_402 vl_X9_isTown rfl (by decide) rfl (Nat.le_of_ble_eq_true rfl) (Nat.le_of_ble_eq_true rfl) (Nat.le_of_ble_eq_true rfl) (Nat.le_of_ble_eq_true rfl) rfl ?_
  intro v0 τ0 hp0
  obtain ⟨hv0, ht0, hf0⟩ := hp0
  subst hv0
  refine p_if_eq 22 13 rfl rfl dX9_town_10 (fun h10 => ?_) (fun h10 => ?_)
  · have hb0 : inR x 4 = false := by simpa only [b2i_eq0, Bool.not_eq_true, Decidable.not_not] using h10
    have ee0 := hf0 hb0
    subst ee0
    refine p_iconst (0) 23 rfl dX9_town_22 rfl ?_
    exact p_iret dX9_town_23 rfl ⟨_, rfl, by rw [fTown, gd_f hb0]; exact hI_sI _ _ _ _, fun q => absurd q (by rw [fTown, gd_f hb0]; decide), (hRM.q hQ).q FQ.th, (hQ.tr FQ.th).ch⟩
  · have hb0 : inR x 4 = true := by simpa only [b2i_eq0, Decidable.not_not, Bool.not_eq_true, Bool.not_eq_false] using h10
    have ee0 := ht0 hb0
    subst ee0
    obtain ⟨s, rfl, hs⟩ := asN hb0 (by omega)
    have hsL : s < 2147483648 := by omega
    refine p_aload_n 0 14 rfl rfl dX9_town_13 rfl ?_
    refine p_iload_n 2 15 rfl rfl dX9_town_14 rfl ?_
    refine p_iconst (4) 16 rfl dX9_town_15 rfl ?_
    refine p_cV2x 0 0 19 rfl dX9_town_16 (c_isWhat (n := 4) h0 _ (by decide)) ml_X9_381 vl_X9_isWhat rfl (by decide) rfl (Nat.le_of_ble_eq_true rfl) (Nat.le_of_ble_eq_true rfl) (Nat.le_of_ble_eq_true rfl) (Nat.le_of_ble_eq_true rfl) rfl ?_
    intro v1 τ1 hp1
    obtain ⟨hv1, ht1, hf1⟩ := hp1
    subst hv1
    refine p_if_ne 24 22 rfl rfl dX9_town_19 (fun h19 => ?_) (fun h19 => ?_)
    · have hb1 : inR y 5 = true := by simpa only [b2i_eq0, Decidable.not_not, Bool.not_eq_true, Bool.not_eq_false] using h19
      have ee1 := ht1 hb1
      subst ee1
      obtain ⟨q, rfl, hq⟩ := asN hb1 (by omega)
      have hqL : q < 2147483648 := by omega
      refine p_iload_n 2 25 rfl rfl dX9_town_24 rfl ?_
      refine p_if_ne 36 28 rfl rfl dX9_town_25 (fun h25 => ?_) (fun h25 => ?_)
      · refine p_iload_n 2 37 rfl rfl dX9_town_36 rfl ?_
        refine p_iconst (1) 38 rfl dX9_town_37 rfl ?_
        refine p_icmp_ne 50 41 rfl rfl dX9_town_38 (fun h38 => ?_) (fun h38 => ?_)
        · refine p_iload_n 2 51 rfl rfl dX9_town_50 rfl ?_
          refine p_iconst (2) 52 rfl dX9_town_51 rfl ?_
          refine p_icmp_ne 64 55 rfl rfl dX9_town_52 (fun h52 => ?_) (fun h52 => ?_)
          · refine p_iload_n 2 65 rfl rfl dX9_town_64 rfl ?_
            refine p_iconst (3) 66 rfl dX9_town_65 rfl ?_
            refine p_icmp_ne 78 69 rfl rfl dX9_town_66 (fun h66 => ?_) (fun h66 => ?_)
            · refine p_aload_n 0 79 rfl rfl dX9_town_78 rfl ?_
              refine p_aload_n 0 80 rfl rfl dX9_town_79 rfl ?_
              refine p_iload_n 1 81 rfl rfl dX9_town_80 rfl ?_
              refine p_cV1i 84 rfl dX9_town_81 (c_mArchive hM hw hv hs) ml_X9_405 vl_X9_archive rfl (by decide) rfl (Nat.le_of_ble_eq_true rfl) (Nat.le_of_ble_eq_true rfl) rfl ?_
              refine p_cV1i 87 rfl dX9_town_84 (c_lostBy hM hw hv (Nat.lt_trans (Nat.lt_of_lt_of_le (setN_lt _ _) (Nat.pow_le_pow_right (by decide) hs9)) (by decide))) ml_X9_408 vl_X9_lostBy rfl (by decide) rfl (Nat.le_of_ble_eq_true rfl) (Nat.le_of_ble_eq_true rfl) rfl ?_
              exact p_iret dX9_town_87 rfl ⟨_, rfl, by rw [fTown, gd_t hb0, gd_t hb1]; exact h0, fun _ => by rw [fTown, gd_t hb0, gd_t hb1]; have hn25 : ¬ q = 0 := fun e => h25 (by rw [e]; rfl); have hn38 : ¬ q = 1 := fun e => h38 (by rw [e]; rfl); have hn52 : ¬ q = 2 := fun e => h52 (by rw [e]; rfl); have hn66 : ¬ q = 3 := fun e => h66 (by rw [e]; rfl); have hqe : q = 4 := (by omega); subst hqe; simp only [sel, iN_nI hsL, iN_nI (show 4 < 2147483648 by decide)]; rfl, hR0, hQ.ch⟩
            · refine p_aload_n 0 70 rfl rfl dX9_town_69 rfl ?_
              refine p_iconst (0) 71 rfl dX9_town_70 rfl ?_
              refine p_iload_n 1 72 rfl rfl dX9_town_71 rfl ?_
              refine p_cV2i 75 rfl dX9_town_72 (c_showsIn hM hw hv (by decide) (by omega)) ml_X9_347 vl_X9_showsIn rfl (by decide) rfl (Nat.le_of_ble_eq_true rfl) (Nat.le_of_ble_eq_true rfl) rfl ?_
              refine p_goto 87 rfl dX9_town_75 ?_
              exact p_iret dX9_town_87 rfl ⟨_, rfl, by rw [fTown, gd_t hb0, gd_t hb1]; exact h0, fun _ => by rw [fTown, gd_t hb0, gd_t hb1]; have hn25 : ¬ q = 0 := fun e => h25 (by rw [e]; rfl); have hn38 : ¬ q = 1 := fun e => h38 (by rw [e]; rfl); have hn52 : ¬ q = 2 := fun e => h52 (by rw [e]; rfl); have hqe : q = 3 := nI_eqI h66 (by omega) (by decide); subst hqe; simp only [sel, iN_nI hsL, iN_nI (show 3 < 2147483648 by decide)]; rfl, hR0, hQ.ch⟩
          · refine p_aload_n 0 56 rfl rfl dX9_town_55 rfl ?_
            refine p_iconst (0) 57 rfl dX9_town_56 rfl ?_
            refine p_iload_n 1 58 rfl rfl dX9_town_57 rfl ?_
            refine p_cV2i 61 rfl dX9_town_58 (c_clerksAt hM hw hv (by decide) (by omega)) ml_X9_335 vl_X9_clerksAt rfl (by decide) rfl (Nat.le_of_ble_eq_true rfl) (Nat.le_of_ble_eq_true rfl) rfl ?_
            refine p_goto 87 rfl dX9_town_61 ?_
            exact p_iret dX9_town_87 rfl ⟨_, rfl, by rw [fTown, gd_t hb0, gd_t hb1]; exact h0, fun _ => by rw [fTown, gd_t hb0, gd_t hb1]; have hn25 : ¬ q = 0 := fun e => h25 (by rw [e]; rfl); have hn38 : ¬ q = 1 := fun e => h38 (by rw [e]; rfl); have hqe : q = 2 := nI_eqI h52 (by omega) (by decide); subst hqe; simp only [sel, iN_nI hsL, iN_nI (show 2 < 2147483648 by decide)]; rfl, hR0, hQ.ch⟩
        · refine p_aload_n 0 42 rfl rfl dX9_town_41 rfl ?_
          refine p_iconst (0) 43 rfl dX9_town_42 rfl ?_
          refine p_iload_n 1 44 rfl rfl dX9_town_43 rfl ?_
          refine p_cV2i 47 rfl dX9_town_44 (c_mSheetsAt hM hw hv (by decide) (by omega)) ml_X9_328 vl_X9_sheetsAt rfl (by decide) rfl (Nat.le_of_ble_eq_true rfl) (Nat.le_of_ble_eq_true rfl) rfl ?_
          refine p_goto 87 rfl dX9_town_47 ?_
          exact p_iret dX9_town_87 rfl ⟨_, rfl, by rw [fTown, gd_t hb0, gd_t hb1]; exact h0, fun _ => by rw [fTown, gd_t hb0, gd_t hb1]; have hn25 : ¬ q = 0 := fun e => h25 (by rw [e]; rfl); have hqe : q = 1 := nI_eqI h38 (by omega) (by decide); subst hqe; simp only [sel, iN_nI hsL, iN_nI (show 1 < 2147483648 by decide)]; rfl, hR0, hQ.ch⟩
      · refine p_aload_n 0 29 rfl rfl dX9_town_28 rfl ?_
        refine p_iload_n 1 30 rfl rfl dX9_town_29 rfl ?_
        refine p_cV1i 33 rfl dX9_town_30 (c_mArchive hM hw hv hs) ml_X9_405 vl_X9_archive rfl (by decide) rfl (Nat.le_of_ble_eq_true rfl) (Nat.le_of_ble_eq_true rfl) rfl ?_
        refine p_goto 87 rfl dX9_town_33 ?_
        exact p_iret dX9_town_87 rfl ⟨_, rfl, by rw [fTown, gd_t hb0, gd_t hb1]; exact h0, fun _ => by rw [fTown, gd_t hb0, gd_t hb1]; have hqe : q = 0 := nI_eqI h25 (by omega) (by decide); subst hqe; simp only [sel, iN_nI hsL, iN_nI (show 0 < 2147483648 by decide)]; rfl, hR0, hQ.ch⟩
    · have hb1 : inR y 5 = false := by simpa only [b2i_eq0, Bool.not_eq_true, Decidable.not_not] using h19
      have ee1 := hf1 hb1
      subst ee1
      refine p_iconst (0) 23 rfl dX9_town_22 rfl ?_
      exact p_iret dX9_town_23 rfl ⟨_, rfl, by rw [fTown, gd_t hb0, gd_f hb1]; exact hI_sI _ _ _ _, fun q => absurd q (by rw [fTown, gd_t hb0, gd_f hb1]; decide), (hRM.q hQ).q FQ.th, (hQ.tr FQ.th).ch⟩
theorem gr0 {a b : Nat} (ha : a ≤ 100) (hb : b ≤ 8) : (if (0 : Int32) ≤ nI a - nI b then nI a - nI b else 0) = nI (a - b) := by
  rw [← mx_sub (by omega) (by omega)]
  unfold mx
  by_cases h : (0 : Int32) < nI a - nI b
  · rw [if_pos h, if_pos (Int32.le_of_lt h)]
  · rw [if_neg h]
    by_cases h2 : (0 : Int32) ≤ nI a - nI b
    · rw [if_pos h2]; exact Int32.le_antisymm (Int32.not_lt.mp h) h2
    · rw [if_neg h2]
set_option maxRecDepth 8000 in
theorem q_toForge (hRM : RM σ A) (x y : Int32) : CallOk Γ 12 0 0 mX9_toForge [.ref M0, .int x, .int y] σ (rM (fToForge A x y) (fun σ' => RM σ' A ∧ ChM σ σ')) := by
  have hK := hRM.2.1
  have hO := hK.2.2.1
  have hs9 := hO.1
  have hc6 := hO.2.1
  have hw12 := hO.2.2.1
  have hk8 := hO.2.2.2.1
  have hv := hK.2.2.2.2.1.1
  have hd9 := hK.2.2.2.2.1.2
  refine p_enter rfl rfl (Nat.le_of_ble_eq_true rfl) rfl ?_
  refine p_aload_n 0 1 rfl rfl dX9_toForge_0 rfl ?_
  refine p_iconst (0) 2 rfl dX9_toForge_1 rfl ?_
  refine p_putI 9 0 5 rfl dX9_toForge_2 fl_X9_102 rfl rfl (Or.inl rfl) ?_
  have hQ : FQ σ (sI σ M0 0 0) := FQ.th
  have hR0 := hRM.q hQ
  have h0 : hI (sI σ M0 0 0) M0 0 = 0 := hI_sI _ _ _ _
  generalize sI σ M0 0 0 = τ at hQ hR0 h0 ⊢
  have hM := hR0.1
  have hw := hR0.2.2.1
  refine p_aload_n 0 6 rfl rfl dX9_toForge_5 rfl ?_
  refine p_iload_n 1 7 rfl rfl dX9_toForge_6 rfl ?_
  refine p_cV1x 0 0 10 rfl dX9_toForge_7 (c_isSheet hM h0 _) ml_X9_378 vl_X9_isSheet rfl (by decide) rfl (Nat.le_of_ble_eq_true rfl) (Nat.le_of_ble_eq_true rfl) (Nat.le_of_ble_eq_true rfl) (Nat.le_of_ble_eq_true rfl) rfl ?_
  intro v0 τ0 hp0
  obtain ⟨hv0, ht0, hf0⟩ := hp0
  subst hv0
  refine p_if_eq 21 13 rfl rfl dX9_toForge_10 (fun h10 => ?_) (fun h10 => ?_)
  · have hb0 : inR x (aS (tO A)) = false := by simpa only [b2i_eq0, Bool.not_eq_true, Decidable.not_not] using h10
    have ee0 := hf0 hb0
    subst ee0
    refine p_iconst (0) 22 rfl dX9_toForge_21 rfl ?_
    exact p_iret dX9_toForge_22 rfl ⟨_, rfl, by rw [fToForge, gd_f hb0]; exact hI_sI _ _ _ _, fun q => absurd q (by rw [fToForge, gd_f hb0]; decide), (hRM.q hQ).q FQ.th, (hQ.tr FQ.th).ch⟩
  · have hb0 : inR x (aS (tO A)) = true := by simpa only [b2i_eq0, Decidable.not_not, Bool.not_eq_true, Bool.not_eq_false] using h10
    have ee0 := ht0 hb0
    subst ee0
    obtain ⟨s, rfl, hs⟩ := asN hb0 (by omega)
    have hsL : s < 2147483648 := by omega
    refine p_aload_n 0 14 rfl rfl dX9_toForge_13 rfl ?_
    refine p_iload_n 2 15 rfl rfl dX9_toForge_14 rfl ?_
    refine p_cV1x 0 0 18 rfl dX9_toForge_15 (c_isSheet hM h0 _) ml_X9_378 vl_X9_isSheet rfl (by decide) rfl (Nat.le_of_ble_eq_true rfl) (Nat.le_of_ble_eq_true rfl) (Nat.le_of_ble_eq_true rfl) (Nat.le_of_ble_eq_true rfl) rfl ?_
    intro v1 τ1 hp1
    obtain ⟨hv1, ht1, hf1⟩ := hp1
    subst hv1
    refine p_if_ne 23 21 rfl rfl dX9_toForge_18 (fun h18 => ?_) (fun h18 => ?_)
    · have hb1 : inR y (aS (tO A)) = true := by simpa only [b2i_eq0, Decidable.not_not, Bool.not_eq_true, Bool.not_eq_false] using h18
      have ee1 := ht1 hb1
      subst ee1
      obtain ⟨t, rfl, ht⟩ := asN hb1 (by omega)
      have htL : t < 2147483648 := by omega
      refine p_iload_n 1 24 rfl rfl dX9_toForge_23 rfl ?_
      refine p_iload_n 2 25 rfl rfl dX9_toForge_24 rfl ?_
      refine p_icmp_eq 46 28 rfl rfl dX9_toForge_25 (fun h25 => ?_) (fun h25 => ?_)
      · refine p_iconst (-1) 47 rfl dX9_toForge_46 rfl ?_
        exact p_iret dX9_toForge_47 rfl ⟨_, rfl, by rw [fToForge, gd_t hb0, gd_t hb1]; exact h0, fun _ => by rw [fToForge, gd_t hb0, gd_t hb1]; skip; have g : (s = t ∨ vP (tV A) s = 0 ∨ vP (tV A) t = 0) := Or.inl (nI_eqI h25 (by omega) (by omega)); rw [iN_nI hsL, iN_nI htL, if_pos g], hR0, hQ.ch⟩
      · refine p_aload_n 0 29 rfl rfl dX9_toForge_28 rfl ?_
        refine p_iconst (0) 30 rfl dX9_toForge_29 rfl ?_
        refine p_iload_n 1 31 rfl rfl dX9_toForge_30 rfl ?_
        refine p_cV2i 34 rfl dX9_toForge_31 (c_isBurnt hM hw hv (by decide) hs) ml_X9_319 vl_X9_isBurnt rfl (by decide) rfl (Nat.le_of_ble_eq_true rfl) (Nat.le_of_ble_eq_true rfl) rfl ?_
        refine p_if_ne 46 37 rfl rfl dX9_toForge_34 (fun h34 => ?_) (fun h34 => ?_)
        · refine p_iconst (-1) 47 rfl dX9_toForge_46 rfl ?_
          exact p_iret dX9_toForge_47 rfl ⟨_, rfl, by rw [fToForge, gd_t hb0, gd_t hb1]; exact h0, fun _ => by rw [fToForge, gd_t hb0, gd_t hb1]; skip; have g1 : (vP (tV A) s == 0) = true := (by simpa only [b2i_eq0, Decidable.not_not] using h34); have g : (s = t ∨ vP (tV A) s = 0 ∨ vP (tV A) t = 0) := Or.inr (Or.inl (by simpa using g1)); rw [iN_nI hsL, iN_nI htL, if_pos g], hR0, hQ.ch⟩
        · refine p_aload_n 0 38 rfl rfl dX9_toForge_37 rfl ?_
          refine p_iconst (0) 39 rfl dX9_toForge_38 rfl ?_
          refine p_iload_n 2 40 rfl rfl dX9_toForge_39 rfl ?_
          refine p_cV2i 43 rfl dX9_toForge_40 (c_isBurnt hM hw hv (by decide) ht) ml_X9_319 vl_X9_isBurnt rfl (by decide) rfl (Nat.le_of_ble_eq_true rfl) (Nat.le_of_ble_eq_true rfl) rfl ?_
          refine p_if_eq 48 46 rfl rfl dX9_toForge_43 (fun h43 => ?_) (fun h43 => ?_)
          · refine p_iconst (0) 49 rfl dX9_toForge_48 rfl ?_
            refine p_aload_n 0 50 rfl rfl dX9_toForge_49 rfl ?_
            refine p_iconst (0) 51 rfl dX9_toForge_50 rfl ?_
            refine p_iload_n 1 52 rfl rfl dX9_toForge_51 rfl ?_
            refine p_iload_n 2 53 rfl rfl dX9_toForge_52 rfl ?_
            refine p_cV3i 56 rfl dX9_toForge_53 (c_offBy hM hw hv (by decide) hs ht (Or.inl rfl)) ml_X9_322 vl_X9_offBy rfl (by decide) rfl (Nat.le_of_ble_eq_true rfl) (Nat.le_of_ble_eq_true rfl) rfl ?_
            refine p_aload_n 0 57 rfl rfl dX9_toForge_56 rfl ?_
            refine p_getIE 9 4 60 rfl dX9_toForge_57 fl_X9_289 rfl rfl hM.2.2.1.2.2.2 ?_
            refine p_isub 61 rfl dX9_toForge_60 ?_
            refine p_cS2i 64 rfl dX9_toForge_61 (c_greater _ _) ml_X9_360 sl_X9_greater (Nat.le_of_ble_eq_true rfl) (Nat.le_of_ble_eq_true rfl) rfl ?_
            exact p_iret dX9_toForge_64 rfl ⟨_, rfl, by rw [fToForge, gd_t hb0, gd_t hb1]; exact h0, fun _ => by rw [fToForge, gd_t hb0, gd_t hb1]; skip; have g1 : (vP (tV A) s == 0) = false := (by simpa only [b2i_eq0, Bool.not_eq_true] using h34); have g2 : (vP (tV A) t == 0) = false := (by simpa only [b2i_eq0, Bool.not_eq_true] using h43); have g : ¬ (s = t ∨ vP (tV A) s = 0 ∨ vP (tV A) t = 0) := fun z => z.elim (fun z => h25 (by rw [z])) (fun z => z.elim (fun z => by simp [z] at g1) (fun z => by simp [z] at g2)); rw [iN_nI hsL, iN_nI htL, if_neg g]; exact gr0 (Nat.le_trans (popN_le _ _) (by decide)) hk8, hR0, hQ.ch⟩
          · refine p_iconst (-1) 47 rfl dX9_toForge_46 rfl ?_
            exact p_iret dX9_toForge_47 rfl ⟨_, rfl, by rw [fToForge, gd_t hb0, gd_t hb1]; exact h0, fun _ => by rw [fToForge, gd_t hb0, gd_t hb1]; skip; have g1 : (vP (tV A) t == 0) = true := (by simpa only [b2i_eq0, Decidable.not_not] using h43); have g : (s = t ∨ vP (tV A) s = 0 ∨ vP (tV A) t = 0) := Or.inr (Or.inr (by simpa using g1)); rw [iN_nI hsL, iN_nI htL, if_pos g], hR0, hQ.ch⟩
    · have hb1 : inR y (aS (tO A)) = false := by simpa only [b2i_eq0, Bool.not_eq_true, Decidable.not_not] using h18
      have ee1 := hf1 hb1
      subst ee1
      refine p_iconst (0) 22 rfl dX9_toForge_21 rfl ?_
      exact p_iret dX9_toForge_22 rfl ⟨_, rfl, by rw [fToForge, gd_t hb0, gd_f hb1]; exact hI_sI _ _ _ _, fun q => absurd q (by rw [fToForge, gd_t hb0, gd_f hb1]; decide), (hRM.q hQ).q FQ.th, (hQ.tr FQ.th).ch⟩
set_option maxRecDepth 4000 in
theorem q_fault (hRM : RM σ A) : CallOk Γ 12 0 0 mX9_fault [.ref M0] σ (rM (0, tF A) (fun σ' => RM σ' A ∧ ChM σ σ')) := by
  have hK := hRM.2.1
  have hO := hK.2.2.1
  have hs9 := hO.1
  have hc6 := hO.2.1
  have hw12 := hO.2.2.1
  have hk8 := hO.2.2.2.1
  have hv := hK.2.2.2.2.1.1
  have hd9 := hK.2.2.2.2.1.2
  refine p_enter rfl rfl (Nat.le_of_ble_eq_true rfl) rfl ?_
  refine p_aload_n 0 1 rfl rfl dX9_fault_0 rfl ?_
  refine p_iconst (0) 2 rfl dX9_fault_1 rfl ?_
  refine p_putI 9 0 5 rfl dX9_fault_2 fl_X9_102 rfl rfl (Or.inl rfl) ?_
  have hQ : FQ σ (sI σ M0 0 0) := FQ.th
  have hR0 := hRM.q hQ
  have h0 : hI (sI σ M0 0 0) M0 0 = 0 := hI_sI _ _ _ _
  generalize sI σ M0 0 0 = τ at hQ hR0 h0 ⊢
  have hM := hR0.1
  have hw := hR0.2.2.1
  refine p_aload_n 0 6 rfl rfl dX9_fault_5 rfl ?_
  refine p_getIE 9 15 9 rfl dX9_fault_6 fl_X9_35 rfl rfl hR0.2.2.2.2.2.2.1.2.1 ?_
  exact p_iret dX9_fault_9 rfl ⟨_, rfl, h0, fun _ => rfl, hR0, hQ.ch⟩
theorem vP_day {O : AO} {V : AW} : vP (dayF O V) = vP V := by
  have h1 : ∀ n, vP (layF O n V) = vP V := by
    intro n
    induction n with
    | zero => rfl
    | succ n ih =>
      show vP (layT O (layF O n V) n) = _
      rw [← ih]; unfold layT; split <;> rfl
  have h2 : ∀ (W : AW) ps n, vP (mldF O ps n W) = vP W := by
    intro W ps n
    induction n with
    | zero => rfl
    | succ n ih =>
      show vP (mldP O (mldF O ps n W) ps n) = _
      rw [← ih]; unfold mldP; split
      · rfl
      · split <;> rfl
  show vP (mldA O (layF O 4 V)) = _
  unfold mldA
  split
  · exact h1 4
  · rw [h2]; exact h1 4
theorem days_vP {O : AO} {V : AW} : ∀ n, vP (daysF O n V) = vP V ∧ vD (daysF O n V) = vD V + n := by
  intro n
  induction n with
  | zero => exact ⟨rfl, rfl⟩
  | succ n ih => exact ⟨(vP_day).trans ih.1, by show vD (daysF O n V) + 1 = _; rw [ih.2]; omega⟩
theorem tOf_days {O : AO} {V : AW} {s n : Nat} : tOf O (daysF O n V) s 0 = tOf O V s n := by
  unfold tOf; rw [(days_vP n).1, (days_vP n).2]; rfl
set_option maxRecDepth 8000 in
theorem q_where (hRM : RM σ A) (x y : Int32) : CallOk Γ 12 0 0 mX9_where [.ref M0, .int x, .int y] σ (rM (fWhere A x y) (fun σ' => RM σ' A ∧ ChM σ σ')) := by
  have hK := hRM.2.1
  have hO := hK.2.2.1
  have hs9 := hO.1
  have hc6 := hO.2.1
  have hw12 := hO.2.2.1
  have hk8 := hO.2.2.2.1
  have hv := hK.2.2.2.2.1.1
  have hd9 := hK.2.2.2.2.1.2
  refine p_enter rfl rfl (Nat.le_of_ble_eq_true rfl) rfl ?_
  refine p_aload_n 0 1 rfl rfl dX9_where_0 rfl ?_
  refine p_iconst (0) 2 rfl dX9_where_1 rfl ?_
  refine p_putI 9 0 5 rfl dX9_where_2 fl_X9_102 rfl rfl (Or.inl rfl) ?_
  have hQ : FQ σ (sI σ M0 0 0) := FQ.th
  have hR0 := hRM.q hQ
  have h0 : hI (sI σ M0 0 0) M0 0 = 0 := hI_sI _ _ _ _
  generalize sI σ M0 0 0 = τ at hQ hR0 h0 ⊢
  have hM := hR0.1
  have hw := hR0.2.2.1
  refine p_aload_n 0 6 rfl rfl dX9_where_5 rfl ?_
  refine p_iload_n 1 7 rfl rfl dX9_where_6 rfl ?_
  refine p_cV1x 0 0 10 rfl dX9_where_7 (c_isSheet hM h0 _) ml_X9_378 vl_X9_isSheet rfl (by decide) rfl (Nat.le_of_ble_eq_true rfl) (Nat.le_of_ble_eq_true rfl) (Nat.le_of_ble_eq_true rfl) (Nat.le_of_ble_eq_true rfl) rfl ?_
  intro v0 τ0 hp0
  obtain ⟨hv0, ht0, hf0⟩ := hp0
  subst hv0
  refine p_if_eq 23 13 rfl rfl dX9_where_10 (fun h10 => ?_) (fun h10 => ?_)
  · have hb0 : inR x (aS (tO A)) = false := by simpa only [b2i_eq0, Bool.not_eq_true, Decidable.not_not] using h10
    have ee0 := hf0 hb0
    subst ee0
    refine p_iconst (0) 24 rfl dX9_where_23 rfl ?_
    exact p_iret dX9_where_24 rfl ⟨_, rfl, by rw [fWhere, gd_f hb0]; exact hI_sI _ _ _ _, fun q => absurd q (by rw [fWhere, gd_f hb0]; decide), (hRM.q hQ).q FQ.th, (hQ.tr FQ.th).ch⟩
  · have hb0 : inR x (aS (tO A)) = true := by simpa only [b2i_eq0, Decidable.not_not, Bool.not_eq_true, Bool.not_eq_false] using h10
    have ee0 := ht0 hb0
    subst ee0
    obtain ⟨s, rfl, hs⟩ := asN hb0 (by omega)
    have hsL : s < 2147483648 := by omega
    refine p_aload_n 0 14 rfl rfl dX9_where_13 rfl ?_
    refine p_iload_n 2 15 rfl rfl dX9_where_14 rfl ?_
    refine p_iconst (0) 16 rfl dX9_where_15 rfl ?_
    refine p_iconst (2) 17 rfl dX9_where_16 rfl ?_
    refine p_cV3x 0 0 20 rfl dX9_where_17 (c_isDays h0 _ 0 (by decide)) ml_X9_426 vl_X9_isDays rfl (by decide) rfl (Nat.le_of_ble_eq_true rfl) (Nat.le_of_ble_eq_true rfl) (Nat.le_of_ble_eq_true rfl) (Nat.le_of_ble_eq_true rfl) rfl ?_
    intro v1 τ1 hp1
    obtain ⟨hv1, ht1, hf1⟩ := hp1
    subst hv1
    refine p_if_ne 25 23 rfl rfl dX9_where_20 (fun h20 => ?_) (fun h20 => ?_)
    · have hb1 : btw y 0 40 = true := by simpa only [b2i_eq0, Decidable.not_not, Bool.not_eq_true, Bool.not_eq_false] using h20
      have ee1 := ht1 hb1
      subst ee1
      obtain ⟨n, rfl, hna, hn⟩ := asB hb1 (by decide) (by decide)
      have hnL : n < 2147483648 := by omega
      refine p_aload_n 0 26 rfl rfl dX9_where_25 rfl ?_
      refine p_iload_n 2 27 rfl rfl dX9_where_26 rfl ?_
      refine p_cV1v 0 0 30 rfl dX9_where_27 (c_goesTo hM hw hv (by omega)) ml_X9_429 vl_X9_goesTo rfl (by decide) rfl (Nat.le_of_ble_eq_true rfl) (Nat.le_of_ble_eq_true rfl) (Nat.le_of_ble_eq_true rfl) (Nat.le_of_ble_eq_true rfl) rfl ?_
      intro σ1 hp1
      have hM1 := hM.frB hp1.2
      have hR1 := hR0.q (FQ.b hp1.2)
      have h01 : hI σ1 M0 0 = 0 := (hp1.2.1.2.1 M0 0 (by simp)).trans h0
      have hv1 := daysF_ok hO hv n (by omega)
      refine p_aload_n 0 31 rfl rfl dX9_where_30 rfl ?_
      refine p_bipush (34) 33 rfl dX9_where_31 rfl ?_
      refine p_iload_n 1 34 rfl rfl dX9_where_33 rfl ?_
      refine p_cV2i 37 rfl dX9_where_34 (c_sheetIn hM1 hp1.1 hv1 (by decide) hs) ml_X9_325 vl_X9_sheetIn rfl (by decide) rfl (Nat.le_of_ble_eq_true rfl) (Nat.le_of_ble_eq_true rfl) rfl ?_
      exact p_iret dX9_where_37 rfl ⟨_, rfl, by rw [fWhere, gd_t hb0, gd_t hb1]; exact h01, fun _ => by rw [fWhere, gd_t hb0, gd_t hb1]; rw [iN_nI hsL, iN_nI hnL]; rw [tOf_days], hR1, (hQ.tr (FQ.b hp1.2)).ch⟩
    · have hb1 : btw y 0 40 = false := by simpa only [b2i_eq0, Bool.not_eq_true, Decidable.not_not] using h20
      have ee1 := hf1 hb1
      subst ee1
      refine p_iconst (0) 24 rfl dX9_where_23 rfl ?_
      exact p_iret dX9_where_24 rfl ⟨_, rfl, by rw [fWhere, gd_t hb0, gd_f hb1]; exact hI_sI _ _ _ _, fun q => absurd q (by rw [fWhere, gd_t hb0, gd_f hb1]; decide), (hRM.q hQ).q FQ.th, (hQ.tr FQ.th).ch⟩
end C86
