/-! ===== the reference: hear, forget, image, restore, feed ===== -/
def HeM (σ : PH) (a k : Nat) (Hs : List Hr) : Prop := hI σ M0 k = nI Hs.length ∧ ∀ i (h : Hr), Hs[i]? = some h → hA σ a (4 * i) = nI h.1 ∧ hA σ a (4 * i + 1) = nI h.2.1 ∧ hA σ a (4 * i + 2) = nI h.2.2.1 ∧ hA σ a (4 * i + 3) = b2i h.2.2.2
theorem RM.gen {σ σ' : PH} {A A' : AT} (h : RM σ A) (hf : Fr [(M0, 0), (M0, 13), (M0, 46), (M0, 51), (M0, 56), (M0, 57), (M0, 58)] [mRo, mAh, mRf, mTo, mPi, mHe, iRo, iAh, iHe, mTp] σ σ') (hk : OkT A') (hkn : OkKn A') (eO : tO A' = tO A) (eF : tF A' = tF A)
    (hrow : RowM true (hA σ' mRo) 0 (tO A) (tV A')) (hac : AcM σ' (tO A) (tA A')) (hhe : HeM σ' mHe 51 (tH A')) (hj : RpJ σ' (tO A) (tI A')) (htp : hI σ' M0 13 = nI (tN A') ∧ ∀ i, i < tN A' → hA σ' mTp i = nI (tB A' i)) (hrf : hA σ' mRf 0 = tX A' ∧ hA σ' mRf 1 = tY A' ∧ hA σ' mRf 2 = tZ A') : RM σ' A' := by
  have e : ∀ r, r ∈ [mRl, mRd, mWl, mWr, mCd, mCo] → hA σ' r = hA σ r := fun r hr => hf.2.2.2.2.2 r ((show ∀ r ∈ [mRl, mRd, mWl, mWr, mCd, mCo], r ∉ [mRo, mAh, mRf, mTo, mPi, mHe, iRo, iAh, iHe, mTp] by decide) r hr)
  have eJ : ∀ k, k ∈ [1, 2, 3, 4, 5, 6, 15] → hI σ' M0 k = hI σ M0 k := fun k hk => hf.2.1 M0 k ((show ∀ k ∈ [1, 2, 3, 4, 5, 6, 15], (M0, k) ∉ [(M0, 0), (M0, 13), (M0, 46), (M0, 51), (M0, 56), (M0, 57), (M0, 58)] by decide) k hk)
  obtain ⟨h1, h2, h3, h4, h5, h6, h7, h8, h9⟩ := h
  refine ⟨?_, hk, by rw [eO]; exact hrow, by rw [eO]; exact hac, hhe, by rw [eO]; exact hj, ⟨htp.1, by rw [eF, eJ 15 (by simp)]; exact h7.2.1, htp.2⟩, hrf, by rw [e mCo (by simp)]; exact h9.1, hkn⟩
  rw [eO]
  obtain ⟨g1, g2, g3, g4, g5, g6, g7⟩ := h1
  refine ⟨fun k => by rw [hf.2.2.2.1]; exact g1 k, g2, by rw [eJ 1 (by simp), eJ 2 (by simp), eJ 3 (by simp), eJ 4 (by simp)]; exact g3, fun c hc => by rw [e mRl (by simp), e mRd (by simp)]; exact g4 c hc, fun k hk => by rw [e mWl (by simp), e mWr (by simp)]; exact g5 k hk, ?_, ?_⟩
  · unfold RuM at g6 ⊢; rw [eJ 5 (by simp), e mCd (by simp)]; exact g6
  · unfold RuM at g7 ⊢; rw [eJ 6 (by simp), e mCd (by simp)]; exact g7
theorem FrG.ch {σ σ' : PH} (h : Fr [(M0, 0), (M0, 13), (M0, 46), (M0, 51), (M0, 56), (M0, 57), (M0, 58)] [mRo, mAh, mRf, mTo, mPi, mHe, iRo, iAh, iHe, mTp] σ σ') : ChM σ σ' := by
  refine ⟨h.1, h.2.2.2.2.1, h.2.2.2.1, fun r hr => ⟨?_, ?_⟩⟩
  · funext k
    refine h.2.1 r k (fun z => ?_)
    simp only [List.mem_cons, List.not_mem_nil, or_false, Prod.mk.injEq] at z
    rcases z with z | z | z | z | z | z | z <;> (rw [z.1] at hr; exact absurd hr (by decide))
  · refine h.2.2.2.2.2 r (fun z => ?_)
    simp only [List.mem_cons, List.not_mem_nil, or_false] at z
    rcases z with z | z | z | z | z | z | z | z | z | z <;> (rw [z] at hr; exact absurd hr (by decide))
theorem m4 (m : Nat) : (4 : Int32) * nI m = nI (4 * m) := nI_mu 4 m
theorem RpJ.fr {σ σ' : PH} {O : AO} {im : Option (AW × List AW × List Hr)} (h : RpJ σ O im) (e56 : hI σ' M0 56 = hI σ M0 56) (e57 : hI σ' M0 57 = hI σ M0 57) (e58 : hI σ' M0 58 = hI σ M0 58) (a1 : hA σ' iRo = hA σ iRo) (a2 : hA σ' iAh = hA σ iAh) (a3 : hA σ' iHe = hA σ iHe) : RpJ σ' O im := by
  unfold RpJ at h ⊢
  cases im with
  | none => show hI σ' M0 56 = 0; rw [e56]; exact h
  | some q => simp only [e56, e57, e58, a1, a2, a3]; exact h
section C96
variable {Γ : Gm} {σ : PH} {A : AT}
set_option maxRecDepth 12000 in
theorem q_hear (hRM : RM σ A) (x y z : Int32) (b : Bool) (hkN : OkT (nHear A x y z b)) : CallOk Γ 12 0 0 mX9_hear [.ref M0, .int x, .int y, .int z, .int (b2i b)] σ (rM (fHear A x y z) (fun σ' => RM σ' (nHear A x y z b) ∧ ChM σ σ')) := by
  have hK := hRM.2.1
  have hO := hK.2.2.1
  have hs9 := hO.1
  have hc6 := hO.2.1
  have hw12 := hO.2.2.1
  have hk8 := hO.2.2.2.1
  have hv := hK.2.2.2.2.1.1
  have hd9 := hK.2.2.2.2.1.2
  refine p_enter rfl rfl (Nat.le_of_ble_eq_true rfl) rfl ?_
  refine p_aload_n 0 1 rfl rfl dX9_hear_0 rfl ?_
  refine p_iconst (0) 2 rfl dX9_hear_1 rfl ?_
  refine p_putI 9 0 5 rfl dX9_hear_2 fl_X9_102 rfl rfl (Or.inl rfl) ?_
  have hQ : FQ σ (sI σ M0 0 0) := FQ.th
  have hR0 := hRM.q hQ
  have h0 : hI (sI σ M0 0 0) M0 0 = 0 := hI_sI _ _ _ _
  generalize sI σ M0 0 0 = τ at hQ hR0 h0 ⊢
  have hM := hR0.1
  have hw := hR0.2.2.1
  refine p_aload_n 0 6 rfl rfl dX9_hear_5 rfl ?_
  refine p_iload_n 1 7 rfl rfl dX9_hear_6 rfl ?_
  refine p_cV1x 0 0 10 rfl dX9_hear_7 (c_isClerk hM h0 _) ml_X9_387 vl_X9_isClerk rfl (by decide) rfl (Nat.le_of_ble_eq_true rfl) (Nat.le_of_ble_eq_true rfl) (Nat.le_of_ble_eq_true rfl) (Nat.le_of_ble_eq_true rfl) rfl ?_
  intro v0 τ0 hp0
  obtain ⟨hv0, ht0, hf0⟩ := hp0
  subst hv0
  refine p_if_eq 21 13 rfl rfl dX9_hear_10 (fun h10 => ?_) (fun h10 => ?_)
  · have hb0 : inR x (aC (tO A)) = false := by simpa only [b2i_eq0, Bool.not_eq_true, Decidable.not_not] using h10
    have ee0 := hf0 hb0
    subst ee0
    refine p_iconst (0) 22 rfl dX9_hear_21 rfl ?_
    exact p_iret dX9_hear_22 rfl ⟨_, rfl, by rw [fHear, gd_f hb0]; exact hI_sI _ _ _ _, fun q => absurd q (by rw [fHear, gd_f hb0]; decide), by rw [show nHear A _ _ _ _ = A from if_neg (by simp [hb0])]; exact (hRM.q hQ).q FQ.th, (hQ.tr FQ.th).ch⟩
  · have hb0 : inR x (aC (tO A)) = true := by simpa only [b2i_eq0, Decidable.not_not, Bool.not_eq_true, Bool.not_eq_false] using h10
    have ee0 := ht0 hb0
    subst ee0
    obtain ⟨c, rfl, hc⟩ := asN hb0 (by omega)
    have hcL : c < 2147483648 := by omega
    refine p_aload_n 0 14 rfl rfl dX9_hear_13 rfl ?_
    refine p_iload_n 2 15 rfl rfl dX9_hear_14 rfl ?_
    refine p_cV1x 0 0 18 rfl dX9_hear_15 (c_isWord hM h0 _) ml_X9_390 vl_X9_isWord rfl (by decide) rfl (Nat.le_of_ble_eq_true rfl) (Nat.le_of_ble_eq_true rfl) (Nat.le_of_ble_eq_true rfl) (Nat.le_of_ble_eq_true rfl) rfl ?_
    intro v1 τ1 hp1
    obtain ⟨hv1, ht1, hf1⟩ := hp1
    subst hv1
    refine p_if_ne 23 21 rfl rfl dX9_hear_18 (fun h18 => ?_) (fun h18 => ?_)
    · have hb1 : inR y (aW (tO A)) = true := by simpa only [b2i_eq0, Decidable.not_not, Bool.not_eq_true, Bool.not_eq_false] using h18
      have ee1 := ht1 hb1
      subst ee1
      obtain ⟨k, rfl, hk⟩ := asN hb1 (by omega)
      have hkL : k < 2147483648 := by omega
      refine p_aload_n 0 24 rfl rfl dX9_hear_23 rfl ?_
      refine p_getIE 9 51 27 rfl dX9_hear_24 fl_X9_299 rfl rfl hR0.2.2.2.2.1.1 ?_
      refine p_bipush (8) 29 rfl dX9_hear_27 rfl ?_
      refine p_icmp_eq 42 32 rfl rfl dX9_hear_29 (fun h29 => ?_) (fun h29 => ?_)
      · have hl8 : (tH A).length = 8 := nI_eqI (show nI (tH A).length = nI 8 from h29) (by have := hK.2.2.2.2.2.2.2.1.1; omega) (by decide)
        have hno : hrOk A z = false := by unfold hrOk; rw [decide_eq_false (by omega)]; rfl
        refine p_aload_n 0 43 rfl rfl dX9_hear_42 rfl ?_
        refine p_iconst (2) 44 rfl dX9_hear_43 rfl ?_
        refine p_cV1x 0 0 47 rfl dX9_hear_44 (c_refuses hM.1 (w := 2) (by decide)) ml_X9_411 vl_X9_refuses rfl (by decide) rfl (Nat.le_of_ble_eq_true rfl) (Nat.le_of_ble_eq_true rfl) (Nat.le_of_ble_eq_true rfl) (Nat.le_of_ble_eq_true rfl) rfl ?_
        intro v τ2 hp2
        obtain ⟨e1, e2⟩ := hp2
        subst e1 e2
        exact p_iret dX9_hear_47 rfl ⟨_, rfl, by rw [fHear, gd_t hb0, gd_t hb1]; exact h0, fun _ => by rw [fHear, gd_t hb0, gd_t hb1, if_neg (by rw [hno]; decide)], by rw [show nHear A (nI c) (nI k) z b = uR A 2 by rw [nHear, if_pos ⟨hb0, hb1⟩, if_neg (by rw [hno]; decide)]]; exact hR0.ref (by decide), hQ.ch.tr (FrA.ch (Fr.sA (by simp)))⟩
      · refine p_iload_n 3 33 rfl rfl dX9_hear_32 rfl ?_
        refine p_iconst (0) 34 rfl dX9_hear_33 rfl ?_
        refine p_bipush (12) 36 rfl dX9_hear_34 rfl ?_
        refine p_cS3i 39 rfl dX9_hear_36 (c_within _ _ _) ml_X9_363 sl_X9_within (Nat.le_of_ble_eq_true rfl) (Nat.le_of_ble_eq_true rfl) rfl ?_
        refine p_if_ne 48 42 rfl rfl dX9_hear_39 (fun h39 => ?_) (fun h39 => ?_)
        · have hz : btw z 0 12 = true := b2i_t h39
          have hl8 : (tH A).length < 8 := by
            have h1 := hK.2.2.2.2.2.2.2.1.1
            have h2 : ¬ (tH A).length = 8 := fun q => h29 (by rw [q]; rfl)
            omega
          have hyes : hrOk A z = true := by unfold hrOk; rw [hz, decide_eq_true hl8]; rfl
          obtain ⟨n, rfl, hna, hn⟩ := asB hz (by decide) (by decide)
          have hnL : n < 2147483648 := by omega
          have en : nHear A (nI c) (nI k) (nI n) b = uH A (tH A ++ [(c, k, n, b)]) := by rw [nHear, if_pos ⟨hb0, hb1⟩, if_pos hyes, iN_nI hcL, iN_nI hkL, iN_nI hnL]
          have ef : fHear A (nI c) (nI k) (nI n) = (0, nI ((tH A).length + 1)) := by rw [fHear, gd_t hb0, gd_t hb1, if_pos hyes]
          rw [en] at hkN
          refine p_aload_n 0 49 rfl rfl dX9_hear_48 rfl ?_
          refine p_getR 9 52 52 rfl dX9_hear_49 fl_X9_84 rfl rfl (show hR _ M0 52 = mHe from hM.1 52) (by decide) ?_
          refine p_iconst (4) 53 rfl dX9_hear_52 rfl ?_
          refine p_aload_n 0 54 rfl rfl dX9_hear_53 rfl ?_
          refine p_getIE 9 51 57 rfl dX9_hear_54 fl_X9_299 rfl rfl hR0.2.2.2.2.1.1 ?_
          refine p_imul 58 rfl dX9_hear_57 ?_
          rw [m4]
          refine p_iload_n 1 59 rfl rfl dX9_hear_58 rfl ?_
          refine p_iastE 60 rfl dX9_hear_59 (i := 4 * (tH A).length) rfl (by show _ < 32; omega) ?_
          refine p_aload_n 0 61 rfl rfl dX9_hear_60 rfl ?_
          refine p_getR 9 52 64 rfl dX9_hear_61 fl_X9_84 rfl rfl (show hR _ M0 52 = mHe from hM.1 52) (by decide) ?_
          refine p_iconst (4) 65 rfl dX9_hear_64 rfl ?_
          refine p_aload_n 0 66 rfl rfl dX9_hear_65 rfl ?_
          refine p_getIE 9 51 69 rfl dX9_hear_66 fl_X9_299 rfl rfl hR0.2.2.2.2.1.1 ?_
          refine p_imul 70 rfl dX9_hear_69 ?_
          refine p_iconst (1) 71 rfl dX9_hear_70 rfl ?_
          refine p_iadd 72 rfl dX9_hear_71 ?_
          rw [m4, show nI (4 * (tH A).length) + 1 = nI (4 * (tH A).length + 1) from nI_add _ 1]
          refine p_iload_n 2 73 rfl rfl dX9_hear_72 rfl ?_
          refine p_iastE 74 rfl dX9_hear_73 (i := 4 * (tH A).length + 1) rfl (by show _ < 32; omega) ?_
          refine p_aload_n 0 75 rfl rfl dX9_hear_74 rfl ?_
          refine p_getR 9 52 78 rfl dX9_hear_75 fl_X9_84 rfl rfl (show hR _ M0 52 = mHe from hM.1 52) (by decide) ?_
          refine p_iconst (4) 79 rfl dX9_hear_78 rfl ?_
          refine p_aload_n 0 80 rfl rfl dX9_hear_79 rfl ?_
          refine p_getIE 9 51 83 rfl dX9_hear_80 fl_X9_299 rfl rfl hR0.2.2.2.2.1.1 ?_
          refine p_imul 84 rfl dX9_hear_83 ?_
          refine p_iconst (2) 85 rfl dX9_hear_84 rfl ?_
          refine p_iadd 86 rfl dX9_hear_85 ?_
          rw [m4, show nI (4 * (tH A).length) + 2 = nI (4 * (tH A).length + 2) from nI_add _ 2]
          refine p_iload_n 3 87 rfl rfl dX9_hear_86 rfl ?_
          refine p_iastE 88 rfl dX9_hear_87 (i := 4 * (tH A).length + 2) rfl (by show _ < 32; omega) ?_
          refine p_aload_n 0 89 rfl rfl dX9_hear_88 rfl ?_
          refine p_getR 9 52 92 rfl dX9_hear_89 fl_X9_84 rfl rfl (show hR _ M0 52 = mHe from hM.1 52) (by decide) ?_
          refine p_iconst (4) 93 rfl dX9_hear_92 rfl ?_
          refine p_aload_n 0 94 rfl rfl dX9_hear_93 rfl ?_
          refine p_getIE 9 51 97 rfl dX9_hear_94 fl_X9_299 rfl rfl hR0.2.2.2.2.1.1 ?_
          refine p_imul 98 rfl dX9_hear_97 ?_
          refine p_iconst (3) 99 rfl dX9_hear_98 rfl ?_
          refine p_iadd 100 rfl dX9_hear_99 ?_
          rw [m4, show nI (4 * (tH A).length) + 3 = nI (4 * (tH A).length + 3) from nI_add _ 3]
          refine p_iload 4 102 rfl dX9_hear_100 rfl ?_
          refine p_if_eq 109 105 rfl rfl dX9_hear_102 (fun h102 => ?_) (fun h102 => ?_)
          · have hbb : b = false := by simpa only [b2i_eq0, Bool.not_eq_true, Decidable.not_not] using h102
            refine p_iconst (0) 110 rfl dX9_hear_109 rfl ?_
            refine p_iastE 111 rfl dX9_hear_110 (i := 4 * (tH A).length + 3) rfl (by show _ < 32; omega) ?_
            refine p_aload_n 0 112 rfl rfl dX9_hear_111 rfl ?_
            refine p_dup 113 rfl dX9_hear_112 rfl ?_
            refine p_getIE 9 51 116 rfl dX9_hear_113 fl_X9_299 rfl rfl hR0.2.2.2.2.1.1 ?_
            refine p_iconst (1) 117 rfl dX9_hear_116 rfl ?_
            refine p_iadd 118 rfl dX9_hear_117 ?_
            rw [show nI (tH A).length + 1 = nI ((tH A).length + 1) from nI_add _ 1]
            have hFF : Fr [(M0, 0), (M0, 13), (M0, 46), (M0, 51), (M0, 56), (M0, 57), (M0, 58)] [mRo, mAh, mRf, mTo, mPi, mHe, iRo, iAh, iHe, mTp] τ1 (sI (sA (sA (sA (sA τ1 mHe (4 * (tH A).length) (nI c)) mHe (4 * (tH A).length + 1) (nI k)) mHe (4 * (tH A).length + 2) (nI n)) mHe (4 * (tH A).length + 3) 0) M0 51 (nI ((tH A).length + 1))) := ((((Fr.sA (by simp)).tr (Fr.sA (by simp))).tr (Fr.sA (by simp))).tr (Fr.sA (by simp))).tr (Fr.sI (by simp))
            have hFF_o : ∀ r, r ≠ mHe → hA (sI (sA (sA (sA (sA τ1 mHe (4 * (tH A).length) (nI c)) mHe (4 * (tH A).length + 1) (nI k)) mHe (4 * (tH A).length + 2) (nI n)) mHe (4 * (tH A).length + 3) 0) M0 51 (nI ((tH A).length + 1))) r = hA τ1 r := fun r hr => by
              rw [hA_sI, sA_o hr, sA_o hr, sA_o hr, sA_o hr]
            have hFF_s : hA (sI (sA (sA (sA (sA τ1 mHe (4 * (tH A).length) (nI c)) mHe (4 * (tH A).length + 1) (nI k)) mHe (4 * (tH A).length + 2) (nI n)) mHe (4 * (tH A).length + 3) 0) M0 51 (nI ((tH A).length + 1))) mHe = upd (upd (upd (upd (hA τ1 mHe) (4 * (tH A).length) (nI c)) (4 * (tH A).length + 1) (nI k)) (4 * (tH A).length + 2) (nI n)) (4 * (tH A).length + 3) 0 := by
              rw [hA_sI, sA_s, sA_s, sA_s, sA_s]
            have hfin : RM (sI (sA (sA (sA (sA τ1 mHe (4 * (tH A).length) (nI c)) mHe (4 * (tH A).length + 1) (nI k)) mHe (4 * (tH A).length + 2) (nI n)) mHe (4 * (tH A).length + 3) 0) M0 51 (nI ((tH A).length + 1))) (nHear A (nI c) (nI k) (nI n) b) := by
              rw [en]
              refine hR0.gen hFF hkN ⟨hR0.2.2.2.2.2.2.2.2.2.1, hR0.2.2.2.2.2.2.2.2.2.2.1, hR0.2.2.2.2.2.2.2.2.2.2.2⟩ rfl rfl ?_ ?_ ?_ ?_ ?_ ?_
              · rw [hFF_o mRo (by decide)]; exact hw
              · exact ⟨(hI_sIo (by decide)).trans hR0.2.2.2.1.1, by rw [hFF_o mAh (by decide)]; exact hR0.2.2.2.1.2⟩
              · refine ⟨(hI_sI _ _ _ _).trans (by show _ = nI (tH A ++ [(c, k, n, b)]).length; simp), fun i h hi => ?_⟩
                rw [hFF_s]
                rcases Nat.lt_or_ge i (tH A).length with w | w
                · have hi' : (tH A)[i]? = some h := by rw [← List.getElem?_append_left w]; exact hi
                  have := hR0.2.2.2.2.1.2 i h hi'
                  rw [pk_un (by omega), pk_un (by omega), pk_un (by omega), pk_un (by omega), pk_un (by omega), pk_un (by omega), pk_un (by omega), pk_un (by omega), pk_un (by omega), pk_un (by omega), pk_un (by omega), pk_un (by omega), pk_un (by omega), pk_un (by omega), pk_un (by omega), pk_un (by omega)]
                  exact this
                · have hi' : [(c, k, n, b)][i - (tH A).length]? = some h := by rw [← List.getElem?_append_right w]; exact hi
                  have hi0 : i - (tH A).length = 0 := by
                    rcases Nat.eq_zero_or_pos (i - (tH A).length) with q | q
                    · exact q
                    · rw [List.getElem?_eq_none (by simp; omega)] at hi'; cases hi'
                  rw [hi0] at hi'
                  cases hi'
                  rw [show i = (tH A).length by omega]
                  refine ⟨?_, ?_, ?_, ?_⟩
                  · rw [pk_un (by omega), pk_un (by omega), pk_un (by omega), pk_us]
                  · rw [pk_un (by omega), pk_un (by omega), pk_us]
                  · rw [pk_un (by omega), pk_us]
                  · rw [pk_us, hbb]; rfl
              · exact hR0.2.2.2.2.2.1.fr (hI_sIo (by decide)) (hI_sIo (by decide)) (hI_sIo (by decide)) (hFF_o iRo (by decide)) (hFF_o iAh (by decide)) (hFF_o iHe (by decide))
              · exact ⟨(hI_sIo (by decide)).trans hR0.2.2.2.2.2.2.1.1, by rw [hFF_o mTp (by decide)]; exact hR0.2.2.2.2.2.2.1.2.2⟩
              · rw [hFF_o mRf (by decide)]; exact hR0.2.2.2.2.2.2.2.1
            refine p_putI 9 51 121 rfl dX9_hear_118 fl_X9_299 rfl rfl (Or.inl rfl) ?_
            refine p_aload_n 0 122 rfl rfl dX9_hear_121 rfl ?_
            refine p_getIE 9 51 125 rfl dX9_hear_122 fl_X9_299 rfl rfl (hI_sI _ _ _ _) ?_
            exact p_iret dX9_hear_125 rfl ⟨_, rfl, by rw [ef]; exact (hI_sIo (by decide)).trans h0, fun _ => by rw [ef], hfin, hQ.ch.tr (FrG.ch hFF)⟩
          · have hbb : b = true := by simpa only [b2i_eq0, Decidable.not_not, Bool.not_eq_true, Bool.not_eq_false] using h102
            refine p_iconst (1) 106 rfl dX9_hear_105 rfl ?_
            refine p_goto 110 rfl dX9_hear_106 ?_
            refine p_iastE 111 rfl dX9_hear_110 (i := 4 * (tH A).length + 3) rfl (by show _ < 32; omega) ?_
            refine p_aload_n 0 112 rfl rfl dX9_hear_111 rfl ?_
            refine p_dup 113 rfl dX9_hear_112 rfl ?_
            refine p_getIE 9 51 116 rfl dX9_hear_113 fl_X9_299 rfl rfl hR0.2.2.2.2.1.1 ?_
            refine p_iconst (1) 117 rfl dX9_hear_116 rfl ?_
            refine p_iadd 118 rfl dX9_hear_117 ?_
            rw [show nI (tH A).length + 1 = nI ((tH A).length + 1) from nI_add _ 1]
            have hFF : Fr [(M0, 0), (M0, 13), (M0, 46), (M0, 51), (M0, 56), (M0, 57), (M0, 58)] [mRo, mAh, mRf, mTo, mPi, mHe, iRo, iAh, iHe, mTp] τ1 (sI (sA (sA (sA (sA τ1 mHe (4 * (tH A).length) (nI c)) mHe (4 * (tH A).length + 1) (nI k)) mHe (4 * (tH A).length + 2) (nI n)) mHe (4 * (tH A).length + 3) 1) M0 51 (nI ((tH A).length + 1))) := ((((Fr.sA (by simp)).tr (Fr.sA (by simp))).tr (Fr.sA (by simp))).tr (Fr.sA (by simp))).tr (Fr.sI (by simp))
            have hFF_o : ∀ r, r ≠ mHe → hA (sI (sA (sA (sA (sA τ1 mHe (4 * (tH A).length) (nI c)) mHe (4 * (tH A).length + 1) (nI k)) mHe (4 * (tH A).length + 2) (nI n)) mHe (4 * (tH A).length + 3) 1) M0 51 (nI ((tH A).length + 1))) r = hA τ1 r := fun r hr => by
              rw [hA_sI, sA_o hr, sA_o hr, sA_o hr, sA_o hr]
            have hFF_s : hA (sI (sA (sA (sA (sA τ1 mHe (4 * (tH A).length) (nI c)) mHe (4 * (tH A).length + 1) (nI k)) mHe (4 * (tH A).length + 2) (nI n)) mHe (4 * (tH A).length + 3) 1) M0 51 (nI ((tH A).length + 1))) mHe = upd (upd (upd (upd (hA τ1 mHe) (4 * (tH A).length) (nI c)) (4 * (tH A).length + 1) (nI k)) (4 * (tH A).length + 2) (nI n)) (4 * (tH A).length + 3) 1 := by
              rw [hA_sI, sA_s, sA_s, sA_s, sA_s]
            have hfin : RM (sI (sA (sA (sA (sA τ1 mHe (4 * (tH A).length) (nI c)) mHe (4 * (tH A).length + 1) (nI k)) mHe (4 * (tH A).length + 2) (nI n)) mHe (4 * (tH A).length + 3) 1) M0 51 (nI ((tH A).length + 1))) (nHear A (nI c) (nI k) (nI n) b) := by
              rw [en]
              refine hR0.gen hFF hkN ⟨hR0.2.2.2.2.2.2.2.2.2.1, hR0.2.2.2.2.2.2.2.2.2.2.1, hR0.2.2.2.2.2.2.2.2.2.2.2⟩ rfl rfl ?_ ?_ ?_ ?_ ?_ ?_
              · rw [hFF_o mRo (by decide)]; exact hw
              · exact ⟨(hI_sIo (by decide)).trans hR0.2.2.2.1.1, by rw [hFF_o mAh (by decide)]; exact hR0.2.2.2.1.2⟩
              · refine ⟨(hI_sI _ _ _ _).trans (by show _ = nI (tH A ++ [(c, k, n, b)]).length; simp), fun i h hi => ?_⟩
                rw [hFF_s]
                rcases Nat.lt_or_ge i (tH A).length with w | w
                · have hi' : (tH A)[i]? = some h := by rw [← List.getElem?_append_left w]; exact hi
                  have := hR0.2.2.2.2.1.2 i h hi'
                  rw [pk_un (by omega), pk_un (by omega), pk_un (by omega), pk_un (by omega), pk_un (by omega), pk_un (by omega), pk_un (by omega), pk_un (by omega), pk_un (by omega), pk_un (by omega), pk_un (by omega), pk_un (by omega), pk_un (by omega), pk_un (by omega), pk_un (by omega), pk_un (by omega)]
                  exact this
                · have hi' : [(c, k, n, b)][i - (tH A).length]? = some h := by rw [← List.getElem?_append_right w]; exact hi
                  have hi0 : i - (tH A).length = 0 := by
                    rcases Nat.eq_zero_or_pos (i - (tH A).length) with q | q
                    · exact q
                    · rw [List.getElem?_eq_none (by simp; omega)] at hi'; cases hi'
                  rw [hi0] at hi'
                  cases hi'
                  rw [show i = (tH A).length by omega]
                  refine ⟨?_, ?_, ?_, ?_⟩
                  · rw [pk_un (by omega), pk_un (by omega), pk_un (by omega), pk_us]
                  · rw [pk_un (by omega), pk_un (by omega), pk_us]
                  · rw [pk_un (by omega), pk_us]
                  · rw [pk_us, hbb]; rfl
              · exact hR0.2.2.2.2.2.1.fr (hI_sIo (by decide)) (hI_sIo (by decide)) (hI_sIo (by decide)) (hFF_o iRo (by decide)) (hFF_o iAh (by decide)) (hFF_o iHe (by decide))
              · exact ⟨(hI_sIo (by decide)).trans hR0.2.2.2.2.2.2.1.1, by rw [hFF_o mTp (by decide)]; exact hR0.2.2.2.2.2.2.1.2.2⟩
              · rw [hFF_o mRf (by decide)]; exact hR0.2.2.2.2.2.2.2.1
            refine p_putI 9 51 121 rfl dX9_hear_118 fl_X9_299 rfl rfl (Or.inl rfl) ?_
            refine p_aload_n 0 122 rfl rfl dX9_hear_121 rfl ?_
            refine p_getIE 9 51 125 rfl dX9_hear_122 fl_X9_299 rfl rfl (hI_sI _ _ _ _) ?_
            exact p_iret dX9_hear_125 rfl ⟨_, rfl, by rw [ef]; exact (hI_sIo (by decide)).trans h0, fun _ => by rw [ef], hfin, hQ.ch.tr (FrG.ch hFF)⟩
        · have hz : btw z 0 12 = false := b2i_f h39
          have hno : hrOk A z = false := by unfold hrOk; rw [hz, Bool.and_false]
          refine p_aload_n 0 43 rfl rfl dX9_hear_42 rfl ?_
          refine p_iconst (2) 44 rfl dX9_hear_43 rfl ?_
          refine p_cV1x 0 0 47 rfl dX9_hear_44 (c_refuses hM.1 (w := 2) (by decide)) ml_X9_411 vl_X9_refuses rfl (by decide) rfl (Nat.le_of_ble_eq_true rfl) (Nat.le_of_ble_eq_true rfl) (Nat.le_of_ble_eq_true rfl) (Nat.le_of_ble_eq_true rfl) rfl ?_
          intro v τ2 hp2
          obtain ⟨e1, e2⟩ := hp2
          subst e1 e2
          exact p_iret dX9_hear_47 rfl ⟨_, rfl, by rw [fHear, gd_t hb0, gd_t hb1]; exact h0, fun _ => by rw [fHear, gd_t hb0, gd_t hb1, if_neg (by rw [hno]; decide)], by rw [show nHear A (nI c) (nI k) z b = uR A 2 by rw [nHear, if_pos ⟨hb0, hb1⟩, if_neg (by rw [hno]; decide)]]; exact hR0.ref (by decide), hQ.ch.tr (FrA.ch (Fr.sA (by simp)))⟩
    · have hb1 : inR y (aW (tO A)) = false := by simpa only [b2i_eq0, Bool.not_eq_true, Decidable.not_not] using h18
      have ee1 := hf1 hb1
      subst ee1
      refine p_iconst (0) 22 rfl dX9_hear_21 rfl ?_
      exact p_iret dX9_hear_22 rfl ⟨_, rfl, by rw [fHear, gd_t hb0, gd_f hb1]; exact hI_sI _ _ _ _, fun q => absurd q (by rw [fHear, gd_t hb0, gd_f hb1]; decide), by rw [show nHear A _ _ _ _ = A from if_neg (by simp [hb1])]; exact (hRM.q hQ).q FQ.th, (hQ.tr FQ.th).ch⟩
set_option maxRecDepth 4000 in
theorem q_forget (hRM : RM σ A) : CallOk Γ 12 0 0 mX9_forget [.ref M0] σ (rV (fun σ' => RM σ' (uH A []) ∧ ChM σ σ')) := by
  have hK := hRM.2.1
  have hO := hK.2.2.1
  have hs9 := hO.1
  have hc6 := hO.2.1
  have hw12 := hO.2.2.1
  have hk8 := hO.2.2.2.1
  have hv := hK.2.2.2.2.1.1
  have hd9 := hK.2.2.2.2.1.2
  refine p_enter rfl rfl (Nat.le_of_ble_eq_true rfl) rfl ?_
  refine p_aload_n 0 1 rfl rfl dX9_forget_0 rfl ?_
  refine p_iconst (0) 2 rfl dX9_forget_1 rfl ?_
  refine p_putI 9 0 5 rfl dX9_forget_2 fl_X9_102 rfl rfl (Or.inl rfl) ?_
  have hQ : FQ σ (sI σ M0 0 0) := FQ.th
  have hR0 := hRM.q hQ
  have h0 : hI (sI σ M0 0 0) M0 0 = 0 := hI_sI _ _ _ _
  generalize sI σ M0 0 0 = τ at hQ hR0 h0 ⊢
  have hM := hR0.1
  have hw := hR0.2.2.1
  refine p_aload_n 0 6 rfl rfl dX9_forget_5 rfl ?_
  refine p_iconst (0) 7 rfl dX9_forget_6 rfl ?_
  refine p_putI 9 51 10 rfl dX9_forget_7 fl_X9_299 rfl rfl (Or.inl rfl) ?_
  exact p_vret dX9_forget_10 rfl ⟨rfl, by
   have hFF : Fr [(M0, 0), (M0, 13), (M0, 46), (M0, 51), (M0, 56), (M0, 57), (M0, 58)] [mRo, mAh, mRf, mTo, mPi, mHe, iRo, iAh, iHe, mTp] τ (sI τ M0 51 0) := Fr.sI (by simp)
   exact hR0.gen hFF ⟨hK.1, hK.2.1, hK.2.2.1, hK.2.2.2.1, hK.2.2.2.2.1, hK.2.2.2.2.2.1, hK.2.2.2.2.2.2.1, ⟨Nat.zero_le _, fun q hq => by cases hq⟩, hK.2.2.2.2.2.2.2.2⟩ hR0.2.2.2.2.2.2.2.2.2 rfl rfl hw ⟨(hI_sIo (by decide)).trans hR0.2.2.2.1.1, hR0.2.2.2.1.2⟩ ⟨hI_sI _ _ _ _, fun i h hi => by cases hi⟩ (hR0.2.2.2.2.2.1.fr (hI_sIo (by decide)) (hI_sIo (by decide)) (hI_sIo (by decide)) rfl rfl rfl) ⟨(hI_sIo (by decide)).trans hR0.2.2.2.2.2.2.1.1, hR0.2.2.2.2.2.2.1.2.2⟩ hR0.2.2.2.2.2.2.2.1, hQ.ch.tr (FrG.ch (Fr.sI (by simp)))⟩
set_option maxRecDepth 4000 in
theorem l_copies {a b : Nat} (ha : kd a = 16) (hb : kd b = 16) (hl : ln a = ln b) (hne : a ≠ b) : ∀ (n i : Nat) (σ1 : PH), i + n = ln a → (∀ j, j < i → hA σ1 b j = hA σ a j) → Fr [] [b] σ σ1 → Ok Γ 1 0 0 mX9_copies 2 [some (.ref M0), some (.ref a), some (.ref b), some (.int (nI i))] [] σ1 (rV (fun σ' => (∀ j, j < ln a → hA σ' b j = hA σ a j) ∧ Fr [] [b] σ σ')) := by
  have hln : ln a < 8192 := Nat.mod_lt _ (by decide)
  intro n
  induction n with
  | zero =>
    intro i σ1 hi h1 hF
    refine p_iload_n 3 3 rfl rfl dX9_copies_2 rfl ?_
    refine p_aload_n 1 4 rfl rfl dX9_copies_3 rfl ?_
    refine p_alen 5 rfl dX9_copies_4 (Or.inl ha) ?_
    refine p_icmp_ge 20 8 rfl rfl dX9_copies_5 (fun h5 => ?_) (fun h5 => absurd (nI_le (a := ln a) (b := i) (by omega) (by omega)) h5)
    exact p_vret dX9_copies_20 rfl ⟨rfl, fun j hj => h1 j (by omega), hF⟩
  | succ n ih =>
    intro i σ1 hi h1 hF
    refine p_iload_n 3 3 rfl rfl dX9_copies_2 rfl ?_
    refine p_aload_n 1 4 rfl rfl dX9_copies_3 rfl ?_
    refine p_alen 5 rfl dX9_copies_4 (Or.inl ha) ?_
    refine p_icmp_ge 20 8 rfl rfl dX9_copies_5 (fun h5 => absurd h5 (nI_ge (a := i) (b := ln a) (by omega) (by omega))) (fun h5 => ?_)
    refine p_aload_n 2 9 rfl rfl dX9_copies_8 rfl ?_
    refine p_iload_n 3 10 rfl rfl dX9_copies_9 rfl ?_
    refine p_aload_n 1 11 rfl rfl dX9_copies_10 rfl ?_
    refine p_iload_n 3 12 rfl rfl dX9_copies_11 rfl ?_
    have ei : hA σ1 a i = hA σ a i := by rw [hF.2.2.2.2.2 a (by simpa using hne)]
    refine p_ialdE 13 rfl dX9_copies_12 (i := i) ha (by omega) ei ?_
    refine p_iastE 14 rfl dX9_copies_13 (i := i) hb (by omega) ?_
    refine p_inc_3 17 rfl dX9_copies_14 (1) rfl (Nat.le_of_ble_eq_true rfl) rfl ?_
    refine p_goto 2 rfl dX9_copies_17 ?_
    rw [nI_1]
    refine ih (i + 1) _ (by omega) (fun j hj => ?_) (hF.tr (Fr.sA (by simp)))
    rw [sA_s]
    rcases Nat.lt_or_ge j i with w | w
    · rw [pk_un (by omega)]; exact h1 j w
    · rw [show j = i by omega, pk_us]
set_option maxRecDepth 4000 in
theorem c_copies {a b : Nat} (ha : kd a = 16) (hb : kd b = 16) (hl : ln a = ln b) (hne : a ≠ b) : CallOk Γ 1 0 0 mX9_copies [.ref M0, .ref a, .ref b] σ (rV (fun σ' => (∀ j, j < ln a → hA σ' b j = hA σ a j) ∧ Fr [] [b] σ σ')) := by
  refine p_enter rfl rfl (Nat.le_of_ble_eq_true rfl) rfl ?_
  refine p_iconst (0) 1 rfl dX9_copies_0 rfl ?_
  refine p_ist_n3 2 rfl rfl dX9_copies_1 (Nat.le_of_ble_eq_true rfl) rfl ?_
  exact l_copies ha hb hl hne (ln a) 0 σ (by omega) (fun j hj => absurd hj (Nat.not_lt_zero _)) Fr.rf
set_option maxRecDepth 4000 in
theorem l_imRow (hr : ∀ k, hR σ M0 k = mRef k) {Q : PO → PH → Prop} (kk : ∀ (σ2 : PH) (x1 : Option Value), (∀ j, j < 34 → hA σ2 iRo j = hA σ mRo j) → Fr [] [iRo] σ σ2 → Ok Γ 11 0 0 mX9_image 52 [some (.ref M0), x1] [] σ2 Q) : ∀ (n i : Nat) (σ1 : PH), i + n = 34 → (∀ j, j < i → hA σ1 iRo j = hA σ mRo j) → Fr [] [iRo] σ σ1 → Ok Γ 11 0 0 mX9_image 28 [some (.ref M0), some (.int (nI i))] [] σ1 Q := by
  intro n
  induction n with
  | zero =>
    intro i σ1 hi h1 hF
    have hr1 : ∀ k, hR σ1 M0 k = mRef k := fun k => by rw [hF.2.2.2.1]; exact hr k
    refine p_iload_n 1 29 rfl rfl dX9_image_28 rfl ?_
    refine p_bipush (34) 31 rfl dX9_image_29 rfl ?_
    refine p_icmp_ge 52 34 rfl rfl dX9_image_31 (fun h31 => ?_) (fun h31 => absurd (nI_le (a := 34) (b := i) (by omega) (by omega)) h31)
    exact kk σ1 _ (fun j hj => h1 j (by omega)) hF
  | succ n ih =>
    intro i σ1 hi h1 hF
    have hr1 : ∀ k, hR σ1 M0 k = mRef k := fun k => by rw [hF.2.2.2.1]; exact hr k
    refine p_iload_n 1 29 rfl rfl dX9_image_28 rfl ?_
    refine p_bipush (34) 31 rfl dX9_image_29 rfl ?_
    refine p_icmp_ge 52 34 rfl rfl dX9_image_31 (fun h31 => absurd h31 (nI_ge (a := i) (b := 34) (by omega) (by omega))) (fun h31 => ?_)
    refine p_aload_n 0 35 rfl rfl dX9_image_34 rfl ?_
    refine p_getR 9 59 38 rfl dX9_image_35 fl_X9_93 rfl rfl (show hR _ M0 59 = iRo from hr1 59) (by decide) ?_
    refine p_iload_n 1 39 rfl rfl dX9_image_38 rfl ?_
    refine p_aload_n 0 40 rfl rfl dX9_image_39 rfl ?_
    refine p_getR 9 44 43 rfl dX9_image_40 fl_X9_66 rfl rfl (show hR _ M0 44 = mRo from hr1 44) (by decide) ?_
    refine p_iload_n 1 44 rfl rfl dX9_image_43 rfl ?_
    have ei : hA σ1 mRo i = hA σ mRo i := by rw [hF.2.2.2.2.2 mRo (by decide)]
    refine p_ialdE 45 rfl dX9_image_44 (i := i) rfl (by show i < 68; omega) ei ?_
    refine p_iastE 46 rfl dX9_image_45 (i := i) rfl (by show i < 34; omega) ?_
    refine p_inc_1 49 rfl dX9_image_46 (1) rfl (Nat.le_of_ble_eq_true rfl) rfl ?_
    refine p_goto 28 rfl dX9_image_49 ?_
    rw [nI_1]
    refine ih (i + 1) _ (by omega) (fun j hj => ?_) (hF.tr (Fr.sA (by simp)))
    rw [sA_s]
    rcases Nat.lt_or_ge j i with w | w
    · rw [pk_un (by omega)]; exact h1 j w
    · rw [show j = i by omega, pk_us]
set_option maxRecDepth 4000 in
theorem l_reRow (hr : ∀ k, hR σ M0 k = mRef k) {Q : PO → PH → Prop} (kk : ∀ (σ2 : PH) (x1 : Option Value), (∀ j, j < 34 → hA σ2 mRo j = hA σ iRo j) → Fr [] [mRo] σ σ2 → Ok Γ 11 0 0 mX9_restore 56 [some (.ref M0), x1] [] σ2 Q) : ∀ (n i : Nat) (σ1 : PH), i + n = 34 → (∀ j, j < i → hA σ1 mRo j = hA σ iRo j) → Fr [] [mRo] σ σ1 → Ok Γ 11 0 0 mX9_restore 32 [some (.ref M0), some (.int (nI i))] [] σ1 Q := by
  intro n
  induction n with
  | zero =>
    intro i σ1 hi h1 hF
    have hr1 : ∀ k, hR σ1 M0 k = mRef k := fun k => by rw [hF.2.2.2.1]; exact hr k
    refine p_iload_n 1 33 rfl rfl dX9_restore_32 rfl ?_
    refine p_bipush (34) 35 rfl dX9_restore_33 rfl ?_
    refine p_icmp_ge 56 38 rfl rfl dX9_restore_35 (fun h35 => ?_) (fun h35 => absurd (nI_le (a := 34) (b := i) (by omega) (by omega)) h35)
    exact kk σ1 _ (fun j hj => h1 j (by omega)) hF
  | succ n ih =>
    intro i σ1 hi h1 hF
    have hr1 : ∀ k, hR σ1 M0 k = mRef k := fun k => by rw [hF.2.2.2.1]; exact hr k
    refine p_iload_n 1 33 rfl rfl dX9_restore_32 rfl ?_
    refine p_bipush (34) 35 rfl dX9_restore_33 rfl ?_
    refine p_icmp_ge 56 38 rfl rfl dX9_restore_35 (fun h35 => absurd h35 (nI_ge (a := i) (b := 34) (by omega) (by omega))) (fun h35 => ?_)
    refine p_aload_n 0 39 rfl rfl dX9_restore_38 rfl ?_
    refine p_getR 9 44 42 rfl dX9_restore_39 fl_X9_66 rfl rfl (show hR _ M0 44 = mRo from hr1 44) (by decide) ?_
    refine p_iload_n 1 43 rfl rfl dX9_restore_42 rfl ?_
    refine p_aload_n 0 44 rfl rfl dX9_restore_43 rfl ?_
    refine p_getR 9 59 47 rfl dX9_restore_44 fl_X9_93 rfl rfl (show hR _ M0 59 = iRo from hr1 59) (by decide) ?_
    refine p_iload_n 1 48 rfl rfl dX9_restore_47 rfl ?_
    have ei : hA σ1 iRo i = hA σ iRo i := by rw [hF.2.2.2.2.2 iRo (by decide)]
    refine p_ialdE 49 rfl dX9_restore_48 (i := i) rfl (by show i < 34; omega) ei ?_
    refine p_iastE 50 rfl dX9_restore_49 (i := i) rfl (by show i < 68; omega) ?_
    refine p_inc_1 53 rfl dX9_restore_50 (1) rfl (Nat.le_of_ble_eq_true rfl) rfl ?_
    refine p_goto 32 rfl dX9_restore_53 ?_
    rw [nI_1]
    refine ih (i + 1) _ (by omega) (fun j hj => ?_) (hF.tr (Fr.sA (by simp)))
    rw [sA_s]
    rcases Nat.lt_or_ge j i with w | w
    · rw [pk_un (by omega)]; exact h1 j w
    · rw [show j = i by omega, pk_us]
theorem cpAh {O : AO} {f g : Nat → Int32} {Ls : List AW} (hO : OkO O) (hl : Ls.length ≤ 40) (h : ∀ i V, Ls[i]? = some V → RowM true f (34 * i) O V) (he : ∀ j, j < 1360 → g j = f j) : ∀ i V, Ls[i]? = some V → RowM true g (34 * i) O V := by
  intro i V hi
  have hil : i < Ls.length := (List.getElem?_eq_some_iff.mp hi).1
  exact (h i V hi).cp hO.1 hO.2.1 (fun j hj => he _ (by omega))
theorem cpHe {f g : Nat → Int32} {Hs : List Hr} (hl : Hs.length ≤ 8) (h : ∀ i (q : Hr), Hs[i]? = some q → f (4 * i) = nI q.1 ∧ f (4 * i + 1) = nI q.2.1 ∧ f (4 * i + 2) = nI q.2.2.1 ∧ f (4 * i + 3) = b2i q.2.2.2) (he : ∀ j, j < 32 → g j = f j) : ∀ i (q : Hr), Hs[i]? = some q → g (4 * i) = nI q.1 ∧ g (4 * i + 1) = nI q.2.1 ∧ g (4 * i + 2) = nI q.2.2.1 ∧ g (4 * i + 3) = b2i q.2.2.2 := by
  intro i q hi
  have hil : i < Hs.length := (List.getElem?_eq_some_iff.mp hi).1
  rw [he _ (by omega), he _ (by omega), he _ (by omega), he _ (by omega)]; exact h i q hi
set_option maxRecDepth 12000 in
theorem q_image (hRM : RM σ A) (hkN : OkT (nImage A)) : CallOk Γ 12 0 0 mX9_image [.ref M0] σ (rV (fun σ' => RM σ' (nImage A) ∧ ChM σ σ')) := by
  have hK := hRM.2.1
  have hO := hK.2.2.1
  have hs9 := hO.1
  have hc6 := hO.2.1
  have hw12 := hO.2.2.1
  have hk8 := hO.2.2.2.1
  have hv := hK.2.2.2.2.1.1
  have hd9 := hK.2.2.2.2.1.2
  refine p_enter rfl rfl (Nat.le_of_ble_eq_true rfl) rfl ?_
  refine p_aload_n 0 1 rfl rfl dX9_image_0 rfl ?_
  refine p_iconst (0) 2 rfl dX9_image_1 rfl ?_
  refine p_putI 9 0 5 rfl dX9_image_2 fl_X9_102 rfl rfl (Or.inl rfl) ?_
  have hQ : FQ σ (sI σ M0 0 0) := FQ.th
  have hR0 := hRM.q hQ
  have h0 : hI (sI σ M0 0 0) M0 0 = 0 := hI_sI _ _ _ _
  generalize sI σ M0 0 0 = τ at hQ hR0 h0 ⊢
  have hM := hR0.1
  have hw := hR0.2.2.1
  have hr2 := hM.1
  refine p_aload_n 0 6 rfl rfl dX9_image_5 rfl ?_
  refine p_iconst (1) 7 rfl dX9_image_6 rfl ?_
  refine p_putZ 9 56 10 rfl dX9_image_7 fl_X9_302 rfl rfl (by first | exact Or.inl rfl | exact Or.inr rfl | assumption) (Or.inl rfl) ?_
  refine p_aload_n 0 11 rfl rfl dX9_image_10 rfl ?_
  refine p_aload_n 0 12 rfl rfl dX9_image_11 rfl ?_
  refine p_getIE 9 46 15 rfl dX9_image_12 fl_X9_296 rfl rfl ((hI_sIo (by decide)).trans hR0.2.2.2.1.1) ?_
  refine p_putI 9 57 18 rfl dX9_image_15 fl_X9_476 rfl rfl (Or.inl rfl) ?_
  refine p_aload_n 0 19 rfl rfl dX9_image_18 rfl ?_
  refine p_aload_n 0 20 rfl rfl dX9_image_19 rfl ?_
  refine p_getIE 9 51 23 rfl dX9_image_20 fl_X9_299 rfl rfl ((hI_sIo (by decide)).trans ((hI_sIo (by decide)).trans hR0.2.2.2.2.1.1)) ?_
  refine p_putI 9 58 26 rfl dX9_image_23 fl_X9_479 rfl rfl (Or.inl rfl) ?_
  refine p_iconst (0) 27 rfl dX9_image_26 rfl ?_
  refine p_ist_n1 28 rfl rfl dX9_image_27 (Nat.le_of_ble_eq_true rfl) rfl ?_
  have hF0 : Fr [(M0, 0), (M0, 13), (M0, 46), (M0, 51), (M0, 56), (M0, 57), (M0, 58)] [mRo, mAh, mRf, mTo, mPi, mHe, iRo, iAh, iHe, mTp] τ (sI (sI (sI τ M0 56 1) M0 57 (nI (tA A).length)) M0 58 (nI (tH A).length)) := ((Fr.sI (by simp)).tr (Fr.sI (by simp))).tr (Fr.sI (by simp))
  have hr0 : ∀ k, hR (sI (sI (sI τ M0 56 1) M0 57 (nI (tA A).length)) M0 58 (nI (tH A).length)) M0 k = mRef k := hM.1
  have i56 : hI (sI (sI (sI τ M0 56 1) M0 57 (nI (tA A).length)) M0 58 (nI (tH A).length)) M0 56 = 1 := (hI_sIo (by decide)).trans ((hI_sIo (by decide)).trans (hI_sI _ _ _ _))
  have i57 : hI (sI (sI (sI τ M0 56 1) M0 57 (nI (tA A).length)) M0 58 (nI (tH A).length)) M0 57 = nI (tA A).length := (hI_sIo (by decide)).trans (hI_sI _ _ _ _)
  have i58 : hI (sI (sI (sI τ M0 56 1) M0 57 (nI (tA A).length)) M0 58 (nI (tH A).length)) M0 58 = nI (tH A).length := hI_sI _ _ _ _
  have aa : ∀ r, hA (sI (sI (sI τ M0 56 1) M0 57 (nI (tA A).length)) M0 58 (nI (tH A).length)) r = hA τ r := fun r => rfl
  have h_im : ∀ k, k ∉ [56, 57, 58] → hI (sI (sI (sI τ M0 56 1) M0 57 (nI (tA A).length)) M0 58 (nI (tH A).length)) M0 k = hI τ M0 k := fun k hk => by
    simp only [List.mem_cons, List.not_mem_nil, or_false, not_or] at hk
    rw [hI_sIo (by simp [hk.2.2]), hI_sIo (by simp [hk.2.1]), hI_sIo (by simp [hk.1])]
  generalize (sI (sI (sI τ M0 56 1) M0 57 (nI (tA A).length)) M0 58 (nI (tH A).length)) = τ1 at hF0 hr0 i56 i57 i58 aa h_im ⊢
  refine Ok.sub (l_imRow (σ := τ1) hr0 (fun τ2 x1 hcp hF2 => ?_) 34 0 τ1 (by omega) (fun j hj => absurd hj (Nat.not_lt_zero _)) Fr.rf) (by decide) (by decide) (by decide)
  have hr2 : ∀ k, hR τ2 M0 k = mRef k := fun k => by rw [hF2.2.2.2.1]; exact hr0 k
  refine p_aload_n 0 53 rfl rfl dX9_image_52 rfl ?_
  refine p_aload_n 0 54 rfl rfl dX9_image_53 rfl ?_
  refine p_getR 9 45 57 rfl dX9_image_54 fl_X9_69 rfl rfl (show hR _ M0 45 = mAh from hr2 45) (by decide) ?_
  refine p_aload_n 0 58 rfl rfl dX9_image_57 rfl ?_
  refine p_getR 9 60 61 rfl dX9_image_58 fl_X9_96 rfl rfl (show hR _ M0 60 = iAh from hr2 60) (by decide) ?_
  refine p_cV2v 0 0 64 rfl dX9_image_61 (c_copies (a := mAh) (b := iAh) rfl rfl rfl (by decide)) ml_X9_292 vl_X9_copies rfl (by decide) rfl (Nat.le_of_ble_eq_true rfl) (Nat.le_of_ble_eq_true rfl) (Nat.le_of_ble_eq_true rfl) (Nat.le_of_ble_eq_true rfl) rfl ?_
  intro τ3 hp3
  have hr2 : ∀ k, hR τ3 M0 k = mRef k := fun k => by rw [hp3.2.2.2.2.1]; exact hr2 k
  refine p_aload_n 0 65 rfl rfl dX9_image_64 rfl ?_
  refine p_aload_n 0 66 rfl rfl dX9_image_65 rfl ?_
  refine p_getR 9 52 69 rfl dX9_image_66 fl_X9_84 rfl rfl (show hR _ M0 52 = mHe from hr2 52) (by decide) ?_
  refine p_aload_n 0 70 rfl rfl dX9_image_69 rfl ?_
  refine p_getR 9 61 73 rfl dX9_image_70 fl_X9_99 rfl rfl (show hR _ M0 61 = iHe from hr2 61) (by decide) ?_
  refine p_cV2v 0 0 76 rfl dX9_image_73 (c_copies (a := mHe) (b := iHe) rfl rfl rfl (by decide)) ml_X9_292 vl_X9_copies rfl (by decide) rfl (Nat.le_of_ble_eq_true rfl) (Nat.le_of_ble_eq_true rfl) (Nat.le_of_ble_eq_true rfl) (Nat.le_of_ble_eq_true rfl) rfl ?_
  intro τ4 hp4
  have hF23 := hF2.up (YI := [(M0, 0), (M0, 13), (M0, 46), (M0, 51), (M0, 56), (M0, 57), (M0, 58)]) (Y := [mRo, mAh, mRf, mTo, mPi, mHe, iRo, iAh, iHe, mTp]) (by decide) (by decide)
  have hF34 := hp3.2.up (YI := [(M0, 0), (M0, 13), (M0, 46), (M0, 51), (M0, 56), (M0, 57), (M0, 58)]) (Y := [mRo, mAh, mRf, mTo, mPi, mHe, iRo, iAh, iHe, mTp]) (by decide) (by decide)
  have hF45 := hp4.2.up (YI := [(M0, 0), (M0, 13), (M0, 46), (M0, 51), (M0, 56), (M0, 57), (M0, 58)]) (Y := [mRo, mAh, mRf, mTo, mPi, mHe, iRo, iAh, iHe, mTp]) (by decide) (by decide)
  have hFF : Fr [(M0, 0), (M0, 13), (M0, 46), (M0, 51), (M0, 56), (M0, 57), (M0, 58)] [mRo, mAh, mRf, mTo, mPi, mHe, iRo, iAh, iHe, mTp] τ τ4 := ((hF0.tr hF23).tr hF34).tr hF45
  have eR : ∀ r, r ∉ [iRo, iAh, iHe] → hA τ4 r = hA τ r := fun r hr => by
    simp only [List.mem_cons, List.not_mem_nil, or_false, not_or] at hr
    rw [hp4.2.2.2.2.2.2 r (by simpa using hr.2.2), hp3.2.2.2.2.2.2 r (by simpa using hr.2.1), hF2.2.2.2.2.2 r (by simpa using hr.1), aa]
  have eI : ∀ k, k ∉ [56, 57, 58] → hI τ4 M0 k = hI τ M0 k := fun k hk => by
    rw [hp4.2.2.1 M0 k (by simp), hp3.2.2.1 M0 k (by simp), hF2.2.1 M0 k (by simp)]
    exact h_im k hk
  have eJ : ∀ k, hI τ4 M0 k = hI τ1 M0 k := fun k => by
    rw [hp4.2.2.1 M0 k (by simp), hp3.2.2.1 M0 k (by simp), hF2.2.1 M0 k (by simp)]
  have a1 : ∀ j, j < 34 → hA τ4 iRo j = hA τ mRo j := fun j hj => by
    rw [hp4.2.2.2.2.2.2 iRo (by decide), hp3.2.2.2.2.2.2 iRo (by decide), hcp j hj, aa]
  have a2 : ∀ j, j < 1360 → hA τ4 iAh j = hA τ mAh j := fun j hj => by
    rw [hp4.2.2.2.2.2.2 iAh (by decide), hp3.1 j hj, hF2.2.2.2.2.2 mAh (by decide), aa]
  have a3 : ∀ j, j < 32 → hA τ4 iHe j = hA τ mHe j := fun j hj => by
    rw [hp4.1 j hj, hp3.2.2.2.2.2.2 mHe (by decide), hF2.2.2.2.2.2 mHe (by decide), aa]
  exact p_vret dX9_image_76 rfl ⟨rfl, by
     refine hR0.gen hFF hkN ⟨hR0.2.2.2.2.2.2.2.2.2.1, hR0.2.2.2.2.2.2.2.2.2.2.1, ⟨hR0.2.2.2.2.2.2.2.2.2.1, hR0.2.2.2.2.2.2.2.2.2.2.1⟩⟩ rfl rfl ?_ ?_ ?_ ?_ ?_ ?_
     · rw [eR mRo (by decide)]; exact hw
     · exact ⟨(eI 46 (by decide)).trans hR0.2.2.2.1.1, by rw [eR mAh (by decide)]; exact hR0.2.2.2.1.2⟩
     · exact ⟨(eI 51 (by decide)).trans hR0.2.2.2.2.1.1, by rw [eR mHe (by decide)]; exact hR0.2.2.2.2.1.2⟩
     · exact ⟨(eJ 56).trans i56, hw.cp hO.1 hO.2.1 (fun j hj => by rw [Nat.zero_add]; exact a1 j hj), ⟨(eJ 57).trans i57, cpAh hO hK.2.2.2.2.2.1 hR0.2.2.2.1.2 a2⟩, (eJ 58).trans i58, cpHe hK.2.2.2.2.2.2.2.1.1 hR0.2.2.2.2.1.2 a3⟩
     · exact ⟨(eI 13 (by decide)).trans hR0.2.2.2.2.2.2.1.1, by rw [eR mTp (by decide)]; exact hR0.2.2.2.2.2.2.1.2.2⟩
     · rw [eR mRf (by decide)]; exact hR0.2.2.2.2.2.2.2.1, hQ.ch.tr (FrG.ch hFF)⟩
set_option maxRecDepth 12000 in
theorem q_restore (hRM : RM σ A) (hkN : OkT (nRestore A)) : CallOk Γ 12 0 0 mX9_restore [.ref M0] σ (rM (((0, if (tI A).isSome = true then 1 else 0) : Nat × Int32)) (fun σ' => RM σ' (nRestore A) ∧ ChM σ σ')) := by
  have hK := hRM.2.1
  have hO := hK.2.2.1
  have hs9 := hO.1
  have hc6 := hO.2.1
  have hw12 := hO.2.2.1
  have hk8 := hO.2.2.2.1
  have hv := hK.2.2.2.2.1.1
  have hd9 := hK.2.2.2.2.1.2
  refine p_enter rfl rfl (Nat.le_of_ble_eq_true rfl) rfl ?_
  refine p_aload_n 0 1 rfl rfl dX9_restore_0 rfl ?_
  refine p_iconst (0) 2 rfl dX9_restore_1 rfl ?_
  refine p_putI 9 0 5 rfl dX9_restore_2 fl_X9_102 rfl rfl (Or.inl rfl) ?_
  have hQ : FQ σ (sI σ M0 0 0) := FQ.th
  have hR0 := hRM.q hQ
  have h0 : hI (sI σ M0 0 0) M0 0 = 0 := hI_sI _ _ _ _
  generalize sI σ M0 0 0 = τ at hQ hR0 h0 ⊢
  have hM := hR0.1
  have hw := hR0.2.2.1
  have hr2 := hM.1
  have hJ := hR0.2.2.2.2.2.1
  unfold RpJ at hJ
  refine p_aload_n 0 6 rfl rfl dX9_restore_5 rfl ?_
  refine p_getI 9 56 9 rfl dX9_restore_6 fl_X9_302 rfl rfl ?_
  refine p_if_ne 14 12 rfl rfl dX9_restore_9 (fun h9 => ?_) (fun h9 => ?_)
  · obtain ⟨q, hq⟩ : ∃ q, tI A = some q := by
      cases hi : tI A with
      | none => rw [hi] at hJ; exact absurd hJ h9
      | some q => exact ⟨q, rfl⟩
    rw [hq] at hJ
    obtain ⟨j1, j2, j3, j4⟩ := hJ
    have en : nRestore A = (tB A, tN A, tF A, tO A, q.1, q.2.1, q.2.2, tI A, tX A, tY A, tZ A) := by rw [nRestore, hq]
    rw [en] at hkN
    have hOI := hK.2.2.2.2.2.2.2.2
    rw [hq] at hOI
    have hkJ := hR0.2.2.2.2.2.2.2.2.2.2.2
    rw [hq] at hkJ
    refine p_aload_n 0 15 rfl rfl dX9_restore_14 rfl ?_
    refine p_aload_n 0 16 rfl rfl dX9_restore_15 rfl ?_
    refine p_getIE 9 57 19 rfl dX9_restore_16 fl_X9_476 rfl rfl j3.1 ?_
    refine p_putI 9 46 22 rfl dX9_restore_19 fl_X9_296 rfl rfl (Or.inl rfl) ?_
    refine p_aload_n 0 23 rfl rfl dX9_restore_22 rfl ?_
    refine p_aload_n 0 24 rfl rfl dX9_restore_23 rfl ?_
    refine p_getIE 9 58 27 rfl dX9_restore_24 fl_X9_479 rfl rfl ((hI_sIo (by decide)).trans j4.1) ?_
    refine p_putI 9 51 30 rfl dX9_restore_27 fl_X9_299 rfl rfl (Or.inl rfl) ?_
    refine p_iconst (0) 31 rfl dX9_restore_30 rfl ?_
    refine p_ist_n1 32 rfl rfl dX9_restore_31 (Nat.le_of_ble_eq_true rfl) rfl ?_
    have hF0 : Fr [(M0, 0), (M0, 13), (M0, 46), (M0, 51), (M0, 56), (M0, 57), (M0, 58)] [mRo, mAh, mRf, mTo, mPi, mHe, iRo, iAh, iHe, mTp] τ (sI (sI τ M0 46 (nI q.2.1.length)) M0 51 (nI q.2.2.length)) := (Fr.sI (by simp)).tr (Fr.sI (by simp))
    have hr0 : ∀ k, hR (sI (sI τ M0 46 (nI q.2.1.length)) M0 51 (nI q.2.2.length)) M0 k = mRef k := hM.1
    have i46 : hI (sI (sI τ M0 46 (nI q.2.1.length)) M0 51 (nI q.2.2.length)) M0 46 = nI q.2.1.length := (hI_sIo (by decide)).trans (hI_sI _ _ _ _)
    have i51 : hI (sI (sI τ M0 46 (nI q.2.1.length)) M0 51 (nI q.2.2.length)) M0 51 = nI q.2.2.length := hI_sI _ _ _ _
    have aa : ∀ r, hA (sI (sI τ M0 46 (nI q.2.1.length)) M0 51 (nI q.2.2.length)) r = hA τ r := fun r => rfl
    have h_im : ∀ k, k ∉ [46, 51] → hI (sI (sI τ M0 46 (nI q.2.1.length)) M0 51 (nI q.2.2.length)) M0 k = hI τ M0 k := fun k hk => by
      simp only [List.mem_cons, List.not_mem_nil, or_false, not_or] at hk
      rw [hI_sIo (by simp [hk.2]), hI_sIo (by simp [hk.1])]
    generalize (sI (sI τ M0 46 (nI q.2.1.length)) M0 51 (nI q.2.2.length)) = τ1 at hF0 hr0 i46 i51 aa h_im ⊢
    refine Ok.sub (l_reRow (σ := τ1) hr0 (fun τ2 x1 hcp hF2 => ?_) 34 0 τ1 (by omega) (fun j hj => absurd hj (Nat.not_lt_zero _)) Fr.rf) (by decide) (by decide) (by decide)
    have hr2 : ∀ k, hR τ2 M0 k = mRef k := fun k => by rw [hF2.2.2.2.1]; exact hr0 k
    refine p_aload_n 0 57 rfl rfl dX9_restore_56 rfl ?_
    refine p_aload_n 0 58 rfl rfl dX9_restore_57 rfl ?_
    refine p_getR 9 60 61 rfl dX9_restore_58 fl_X9_96 rfl rfl (show hR _ M0 60 = iAh from hr2 60) (by decide) ?_
    refine p_aload_n 0 62 rfl rfl dX9_restore_61 rfl ?_
    refine p_getR 9 45 65 rfl dX9_restore_62 fl_X9_69 rfl rfl (show hR _ M0 45 = mAh from hr2 45) (by decide) ?_
    refine p_cV2v 0 0 68 rfl dX9_restore_65 (c_copies (a := iAh) (b := mAh) rfl rfl rfl (by decide)) ml_X9_292 vl_X9_copies rfl (by decide) rfl (Nat.le_of_ble_eq_true rfl) (Nat.le_of_ble_eq_true rfl) (Nat.le_of_ble_eq_true rfl) (Nat.le_of_ble_eq_true rfl) rfl ?_
    intro τ3 hp3
    have hr2 : ∀ k, hR τ3 M0 k = mRef k := fun k => by rw [hp3.2.2.2.2.1]; exact hr2 k
    refine p_aload_n 0 69 rfl rfl dX9_restore_68 rfl ?_
    refine p_aload_n 0 70 rfl rfl dX9_restore_69 rfl ?_
    refine p_getR 9 61 73 rfl dX9_restore_70 fl_X9_99 rfl rfl (show hR _ M0 61 = iHe from hr2 61) (by decide) ?_
    refine p_aload_n 0 74 rfl rfl dX9_restore_73 rfl ?_
    refine p_getR 9 52 77 rfl dX9_restore_74 fl_X9_84 rfl rfl (show hR _ M0 52 = mHe from hr2 52) (by decide) ?_
    refine p_cV2v 0 0 80 rfl dX9_restore_77 (c_copies (a := iHe) (b := mHe) rfl rfl rfl (by decide)) ml_X9_292 vl_X9_copies rfl (by decide) rfl (Nat.le_of_ble_eq_true rfl) (Nat.le_of_ble_eq_true rfl) (Nat.le_of_ble_eq_true rfl) (Nat.le_of_ble_eq_true rfl) rfl ?_
    intro τ4 hp4
    have hF23 := hF2.up (YI := [(M0, 0), (M0, 13), (M0, 46), (M0, 51), (M0, 56), (M0, 57), (M0, 58)]) (Y := [mRo, mAh, mRf, mTo, mPi, mHe, iRo, iAh, iHe, mTp]) (by decide) (by decide)
    have hF34 := hp3.2.up (YI := [(M0, 0), (M0, 13), (M0, 46), (M0, 51), (M0, 56), (M0, 57), (M0, 58)]) (Y := [mRo, mAh, mRf, mTo, mPi, mHe, iRo, iAh, iHe, mTp]) (by decide) (by decide)
    have hF45 := hp4.2.up (YI := [(M0, 0), (M0, 13), (M0, 46), (M0, 51), (M0, 56), (M0, 57), (M0, 58)]) (Y := [mRo, mAh, mRf, mTo, mPi, mHe, iRo, iAh, iHe, mTp]) (by decide) (by decide)
    have hFF : Fr [(M0, 0), (M0, 13), (M0, 46), (M0, 51), (M0, 56), (M0, 57), (M0, 58)] [mRo, mAh, mRf, mTo, mPi, mHe, iRo, iAh, iHe, mTp] τ τ4 := ((hF0.tr hF23).tr hF34).tr hF45
    have eR : ∀ r, r ∉ [mRo, mAh, mHe] → hA τ4 r = hA τ r := fun r hr => by
      simp only [List.mem_cons, List.not_mem_nil, or_false, not_or] at hr
      rw [hp4.2.2.2.2.2.2 r (by simpa using hr.2.2), hp3.2.2.2.2.2.2 r (by simpa using hr.2.1), hF2.2.2.2.2.2 r (by simpa using hr.1), aa]
    have eJ : ∀ k, hI τ4 M0 k = hI τ1 M0 k := fun k => by
      rw [hp4.2.2.1 M0 k (by simp), hp3.2.2.1 M0 k (by simp), hF2.2.1 M0 k (by simp)]
    have eI : ∀ k, k ∉ [46, 51] → hI τ4 M0 k = hI τ M0 k := fun k hk => (eJ k).trans (h_im k hk)
    have a1 : ∀ j, j < 34 → hA τ4 mRo j = hA τ iRo j := fun j hj => by
      rw [hp4.2.2.2.2.2.2 mRo (by decide), hp3.2.2.2.2.2.2 mRo (by decide), hcp j hj, aa]
    have a2 : ∀ j, j < 1360 → hA τ4 mAh j = hA τ iAh j := fun j hj => by
      rw [hp4.2.2.2.2.2.2 mAh (by decide), hp3.1 j hj, hF2.2.2.2.2.2 iAh (by decide), aa]
    have a3 : ∀ j, j < 32 → hA τ4 mHe j = hA τ iHe j := fun j hj => by
      rw [hp4.1 j hj, hp3.2.2.2.2.2.2 iHe (by decide), hF2.2.2.2.2.2 iHe (by decide), aa]
    refine p_iconst (1) 81 rfl dX9_restore_80 rfl ?_
    exact p_zret dX9_restore_81 rfl (by decide) ⟨_, rfl, by show hI τ4 M0 0 = 0; rw [eI 0 (by decide)]; exact h0, fun _ => by show _ = (if (tI A).isSome = true then (1 : Int32) else 0); rw [hq]; rfl, by
       rw [en]
       refine hR0.gen hFF hkN ⟨hkJ.1, hkJ.2, hR0.2.2.2.2.2.2.2.2.2.2.2⟩ rfl rfl ?_ ?_ ?_ ?_ ?_ ?_
       · exact j2.cp hO.1 hO.2.1 (fun j hj => by rw [Nat.zero_add]; exact a1 j hj)
       · exact ⟨(eJ 46).trans i46, cpAh hO hkN.2.2.2.2.2.1 j3.2 a2⟩
       · exact ⟨(eJ 51).trans i51, cpHe hkN.2.2.2.2.2.2.2.1.1 j4.2 a3⟩
       · exact hR0.2.2.2.2.2.1.fr (eI 56 (by decide)) (eI 57 (by decide)) (eI 58 (by decide)) (eR iRo (by decide)) (eR iAh (by decide)) (eR iHe (by decide))
       · exact ⟨(eI 13 (by decide)).trans hR0.2.2.2.2.2.2.1.1, by rw [eR mTp (by decide)]; exact hR0.2.2.2.2.2.2.1.2.2⟩
       · rw [eR mRf (by decide)]; exact hR0.2.2.2.2.2.2.2.1, hQ.ch.tr (FrG.ch hFF)⟩
  · have hn : tI A = none := by
      cases hi : tI A with
      | none => rfl
      | some q => rw [hi] at hJ; exact absurd (hJ.1.symm.trans h9) (by decide)
    refine p_iconst (0) 13 rfl dX9_restore_12 rfl ?_
    exact p_zret dX9_restore_13 rfl (by decide) ⟨_, rfl, h0, fun _ => by show _ = (if (tI A).isSome = true then (1 : Int32) else 0); rw [hn]; rfl, by rw [show nRestore A = A by rw [nRestore, hn]]; exact hR0, hQ.ch⟩
theorem shf_sm : ∀ j, j < 4 → ((shf j &&& 31).toBitVec.smod 32).toNat = 24 - 8 * j := by decide
theorem byt_sh (x : Int32) {j : Nat} (hj : j < 4) : x >>> (shf j &&& 31) &&& 255 = nI (byt x j) := by
  apply Int32.toBitVec_inj.1
  rw [Int32.toBitVec_and, Int32.toBitVec_shiftRight]
  show x.toBitVec.sshiftRight ((shf j &&& 31).toBitVec.smod 32).toNat &&& 255#32 = BitVec.ofNat 32 (x.toBitVec.toNat / 2 ^ (24 - 8 * j) % 256)
  rw [shf_sm j hj]
  apply BitVec.eq_of_getLsbD_eq
  intro i hi
  have h255 : (255#32).getLsbD i = decide (i < 8) := by
    have : ∀ i, i < 32 → (255#32).getLsbD i = decide (i < 8) := by decide
    exact this i hi
  rw [BitVec.getLsbD_and, h255, BitVec.getLsbD_sshiftRight, BitVec.getLsbD_ofNat, show (256 : Nat) = 2 ^ 8 from rfl, Nat.testBit_mod_two_pow, Nat.testBit_div_two_pow]
  by_cases h8 : i < 8
  · rw [decide_eq_true h8, decide_eq_false (show ¬ 32 ≤ i by omega), decide_eq_true hi, if_pos (show 24 - 8 * j + i < 32 by omega), Nat.add_comm]
    simp [BitVec.getLsbD]
  · rw [decide_eq_false h8]; simp
def TM (σ : PH) (b : Nat → Nat) (n : Nat) : Prop := hI σ M0 13 = nI n ∧ ∀ i, i < n → hA σ mTp i = nI (b i)
set_option maxRecDepth 4000 in
theorem l_mLays (hr : ∀ k, hR σ M0 k = mRef k) {b : Nat → Nat} {n0 : Nat} (hn : n0 + 4 ≤ 700) (x : Int32) : ∀ (n i : Nat) (σ1 : PH), i + n = 4 → TM σ1 (putB b n0 x i) (n0 + i) → Fr [(M0, 13)] [mTp] σ σ1 → Ok Γ 1 0 0 mX9_lays 3 [some (.ref M0), some (.int x), some (.int (shf i))] [] σ1 (rV (fun σ' => TM σ' (putB b n0 x 4) (n0 + 4) ∧ Fr [(M0, 13)] [mTp] σ σ')) := by
  intro n
  induction n with
  | zero =>
    intro i σ1 hi ht hF
    have hr1 : ∀ k, hR σ1 M0 k = mRef k := fun k => by rw [hF.2.2.2.1]; exact hr k
    refine p_iload_n 2 4 rfl rfl dX9_lays_3 rfl ?_
    refine p_if_lt 39 7 rfl rfl dX9_lays_4 (fun h4 => ?_) (fun h4 => absurd (show shf i < 0 by rw [show i = 4 by omega]; decide) h4)
    exact p_vret dX9_lays_39 rfl ⟨rfl, by rw [show i = 4 by omega] at ht; exact ht, hF⟩
  | succ n ih =>
    intro i σ1 hi ht hF
    have hr1 : ∀ k, hR σ1 M0 k = mRef k := fun k => by rw [hF.2.2.2.1]; exact hr k
    refine p_iload_n 2 4 rfl rfl dX9_lays_3 rfl ?_
    refine p_if_lt 39 7 rfl rfl dX9_lays_4 (fun h4 => absurd h4 (shf_ok i (by omega)).2.1) (fun h4 => ?_)
    refine p_aload_n 0 8 rfl rfl dX9_lays_7 rfl ?_
    refine p_getR 9 12 11 rfl dX9_lays_8 fl_X9_32 rfl rfl (show hR _ M0 12 = mTp from hr1 12) (by decide) ?_
    refine p_aload_n 0 12 rfl rfl dX9_lays_11 rfl ?_
    refine p_getIE 9 13 15 rfl dX9_lays_12 fl_X9_105 rfl rfl ht.1 ?_
    refine p_iload_n 1 16 rfl rfl dX9_lays_15 rfl ?_
    refine p_iload_n 2 17 rfl rfl dX9_lays_16 rfl ?_
    refine p_ishr 18 rfl dX9_lays_17 ?_
    refine p_sipush (255) 21 rfl dX9_lays_18 rfl ?_
    refine p_iand 22 rfl dX9_lays_21 ?_
    rw [byt_sh x (by omega)]
    refine p_iastE 23 rfl dX9_lays_22 (i := n0 + i) rfl (by show _ < 700; omega) ?_
    refine p_aload_n 0 24 rfl rfl dX9_lays_23 rfl ?_
    refine p_dup 25 rfl dX9_lays_24 rfl ?_
    refine p_getIE 9 13 28 rfl dX9_lays_25 fl_X9_105 rfl rfl ht.1 ?_
    refine p_iconst (1) 29 rfl dX9_lays_28 rfl ?_
    refine p_iadd 30 rfl dX9_lays_29 ?_
    rw [nI_1]
    refine p_putI 9 13 33 rfl dX9_lays_30 fl_X9_105 rfl rfl (Or.inl rfl) ?_
    refine p_inc_2 36 rfl dX9_lays_33 (-8) rfl (Nat.le_of_ble_eq_true rfl) rfl ?_
    refine p_goto 3 rfl dX9_lays_36 ?_
    rw [(shf_ok i (by omega)).1]
    refine ih (i + 1) _ (by omega) ⟨hI_sI _ _ _ _, fun j hj => ?_⟩ (hF.tr ((Fr.sA (by simp)).tr (Fr.sI (by simp))))
    rw [hA_sI, sA_s, putB_s _ _ _ _ j (by omega)]
    by_cases e : j = n0 + i
    · rw [e, pk_us, if_pos rfl]
    · rw [pk_un e, if_neg e]; exact ht.2 j (by omega)
set_option maxRecDepth 4000 in
theorem c_mLays (hr : ∀ k, hR σ M0 k = mRef k) {b : Nat → Nat} {n0 : Nat} (hn : n0 + 4 ≤ 700) (x : Int32) (ht : TM σ b n0) : CallOk Γ 1 0 0 mX9_lays [.ref M0, .int x] σ (rV (fun σ' => TM σ' (putB b n0 x 4) (n0 + 4) ∧ Fr [(M0, 13)] [mTp] σ σ')) := by
  refine p_enter rfl rfl (Nat.le_of_ble_eq_true rfl) rfl ?_
  refine p_bipush (24) 2 rfl dX9_lays_0 rfl ?_
  refine p_ist_n2 3 rfl rfl dX9_lays_2 (Nat.le_of_ble_eq_true rfl) rfl ?_
  exact l_mLays hr hn x 4 0 σ (by omega) (by rw [putB_0]; exact ht) Fr.rf
set_option maxRecDepth 8000 in
theorem q_feed (hRM : RM σ A) (x y z v w : Int32) (hkN : OkT (nFeed A x y z v w)) : CallOk Γ 12 0 0 mX9_feed [.ref M0, .int x, .int y, .int z, .int v, .int w] σ (rM (fFeed A) (fun σ' => RM σ' (nFeed A x y z v w) ∧ ChM σ σ')) := by
  have hK := hRM.2.1
  have hO := hK.2.2.1
  have hs9 := hO.1
  have hc6 := hO.2.1
  have hw12 := hO.2.2.1
  have hk8 := hO.2.2.2.1
  have hv := hK.2.2.2.2.1.1
  have hd9 := hK.2.2.2.2.1.2
  refine p_enter rfl rfl (Nat.le_of_ble_eq_true rfl) rfl ?_
  refine p_aload_n 0 1 rfl rfl dX9_feed_0 rfl ?_
  refine p_iconst (0) 2 rfl dX9_feed_1 rfl ?_
  refine p_putI 9 0 5 rfl dX9_feed_2 fl_X9_102 rfl rfl (Or.inl rfl) ?_
  have hQ : FQ σ (sI σ M0 0 0) := FQ.th
  have hR0 := hRM.q hQ
  have h0 : hI (sI σ M0 0 0) M0 0 = 0 := hI_sI _ _ _ _
  generalize sI σ M0 0 0 = τ at hQ hR0 h0 ⊢
  have hM := hR0.1
  have hw := hR0.2.2.1
  have ht : TM τ (tB A) (tN A) := ⟨hR0.2.2.2.2.2.2.1.1, hR0.2.2.2.2.2.2.1.2.2⟩
  have hn7 := hK.1
  refine p_aload_n 0 6 rfl rfl dX9_feed_5 rfl ?_
  refine p_getIE 9 13 9 rfl dX9_feed_6 fl_X9_105 rfl rfl ht.1 ?_
  refine p_bipush (20) 11 rfl dX9_feed_9 rfl ?_
  refine p_iadd 12 rfl dX9_feed_11 ?_
  rw [show nI (tN A) + 20 = nI (tN A + 20) from nI_add _ 20]
  refine p_sipush (700) 15 rfl dX9_feed_12 rfl ?_
  refine p_icmp_le 20 18 rfl rfl dX9_feed_15 (fun h15 => ?_) (fun h15 => ?_)
  · have hyes : tN A + 20 ≤ 700 := (Nat.lt_or_ge 700 (tN A + 20)).elim (fun q => absurd h15 (nI_ge q (by omega))) id
    have hrr := hM.1
    refine p_aload_n 0 21 rfl rfl dX9_feed_20 rfl ?_
    refine p_iload_n 1 22 rfl rfl dX9_feed_21 rfl ?_
    refine p_cV1v 0 0 25 rfl dX9_feed_22 (c_mLays hrr (by omega) x ht) ml_X9_108 vl_X9_lays rfl (by decide) rfl (Nat.le_of_ble_eq_true rfl) (Nat.le_of_ble_eq_true rfl) (Nat.le_of_ble_eq_true rfl) (Nat.le_of_ble_eq_true rfl) rfl ?_
    intro τ1 hq1
    have hrr : ∀ k, hR τ1 M0 k = mRef k := fun k => by rw [hq1.2.2.2.2.1]; exact hrr k
    refine p_aload_n 0 26 rfl rfl dX9_feed_25 rfl ?_
    refine p_iload_n 2 27 rfl rfl dX9_feed_26 rfl ?_
    refine p_cV1v 0 0 30 rfl dX9_feed_27 (c_mLays hrr (by omega) y hq1.1) ml_X9_108 vl_X9_lays rfl (by decide) rfl (Nat.le_of_ble_eq_true rfl) (Nat.le_of_ble_eq_true rfl) (Nat.le_of_ble_eq_true rfl) (Nat.le_of_ble_eq_true rfl) rfl ?_
    intro τ2 hq2
    have hrr : ∀ k, hR τ2 M0 k = mRef k := fun k => by rw [hq2.2.2.2.2.1]; exact hrr k
    refine p_aload_n 0 31 rfl rfl dX9_feed_30 rfl ?_
    refine p_iload_n 3 32 rfl rfl dX9_feed_31 rfl ?_
    refine p_cV1v 0 0 35 rfl dX9_feed_32 (c_mLays hrr (by omega) z hq2.1) ml_X9_108 vl_X9_lays rfl (by decide) rfl (Nat.le_of_ble_eq_true rfl) (Nat.le_of_ble_eq_true rfl) (Nat.le_of_ble_eq_true rfl) (Nat.le_of_ble_eq_true rfl) rfl ?_
    intro τ3 hq3
    have hrr : ∀ k, hR τ3 M0 k = mRef k := fun k => by rw [hq3.2.2.2.2.1]; exact hrr k
    refine p_aload_n 0 36 rfl rfl dX9_feed_35 rfl ?_
    refine p_iload 4 38 rfl dX9_feed_36 rfl ?_
    refine p_cV1v 0 0 41 rfl dX9_feed_38 (c_mLays hrr (by omega) v hq3.1) ml_X9_108 vl_X9_lays rfl (by decide) rfl (Nat.le_of_ble_eq_true rfl) (Nat.le_of_ble_eq_true rfl) (Nat.le_of_ble_eq_true rfl) (Nat.le_of_ble_eq_true rfl) rfl ?_
    intro τ4 hq4
    have hrr : ∀ k, hR τ4 M0 k = mRef k := fun k => by rw [hq4.2.2.2.2.1]; exact hrr k
    refine p_aload_n 0 42 rfl rfl dX9_feed_41 rfl ?_
    refine p_iload 5 44 rfl dX9_feed_42 rfl ?_
    refine p_cV1v 0 0 47 rfl dX9_feed_44 (c_mLays hrr (by omega) w hq4.1) ml_X9_108 vl_X9_lays rfl (by decide) rfl (Nat.le_of_ble_eq_true rfl) (Nat.le_of_ble_eq_true rfl) (Nat.le_of_ble_eq_true rfl) (Nat.le_of_ble_eq_true rfl) rfl ?_
    intro τ5 hq5
    have hrr : ∀ k, hR τ5 M0 k = mRef k := fun k => by rw [hq5.2.2.2.2.1]; exact hrr k
    have hFt : Fr [(M0, 13)] [mTp] τ τ5 := (((hq1.2.tr hq2.2).tr hq3.2).tr hq4.2).tr hq5.2
    refine p_aload_n 0 48 rfl rfl dX9_feed_47 rfl ?_
    refine p_getIE 9 13 51 rfl dX9_feed_48 fl_X9_105 rfl rfl hq5.1.1 ?_
    exact p_iret dX9_feed_51 rfl ⟨_, rfl, (hFt.2.1 M0 0 (by simp)).trans h0, fun _ => by rw [fFeed, if_pos hyes], by
   have en : nFeed A x y z v w = uT A (feedB (tB A) (tN A) [x, y, z, v, w]) (tN A + 20) := if_pos hyes
   rw [en] at hkN ⊢
   have eR : ∀ r, r ≠ mTp → hA τ5 r = hA τ r := fun r hr => hFt.2.2.2.2.2 r (by simpa using hr)
   have eI : ∀ k, k ≠ 13 → hI τ5 M0 k = hI τ M0 k := fun k hk => hFt.2.1 M0 k (by simpa using hk)
   exact hR0.gen (hFt.up (by decide) (by decide)) hkN hR0.2.2.2.2.2.2.2.2.2 rfl rfl (by rw [eR mRo (by decide)]; exact hw) ⟨(eI 46 (by decide)).trans hR0.2.2.2.1.1, by rw [eR mAh (by decide)]; exact hR0.2.2.2.1.2⟩ ⟨(eI 51 (by decide)).trans hR0.2.2.2.2.1.1, by rw [eR mHe (by decide)]; exact hR0.2.2.2.2.1.2⟩ (hR0.2.2.2.2.2.1.fr (eI 56 (by decide)) (eI 57 (by decide)) (eI 58 (by decide)) (eR iRo (by decide)) (eR iAh (by decide)) (eR iHe (by decide))) hq5.1 (by rw [eR mRf (by decide)]; exact hR0.2.2.2.2.2.2.2.1), hQ.ch.tr (FrG.ch (hFt.up (by decide) (by decide)))⟩
  · have hno : ¬ tN A + 20 ≤ 700 := fun q => absurd (nI_le q (by decide)) h15
    refine p_iconst (-1) 19 rfl dX9_feed_18 rfl ?_
    exact p_iret dX9_feed_19 rfl ⟨_, rfl, h0, fun _ => by rw [fFeed, if_neg hno], by rw [show nFeed A x y z v w = A from if_neg hno]; exact hR0, hQ.ch⟩
end C96
