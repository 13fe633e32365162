/-! ===== the reference: lines of words and clerks ===== -/
section Cad
variable {Γ : Gm} {σ : PH} {tx : Nat → Nat} {z : Nat}
set_option maxRecDepth 12000 in
theorem c_rWord {S : RS} {B : OB} {o : List Int32} (hT : TpM σ tx z) (h : RdM σ tx z S) (h0 : S.1 = 0) (ho : OkR z S) (hc : CO σ o) (hB : RBm σ B o) (hl : o.length ≤ 2 * S.2.2.2.1) (h12 : aW B.1 < 12) : CallOk Γ 6 0 0 mX9_readsWord [.ref M0] σ (rV (fun σ' => LMx σ' tx z ((rdW tx z B.1 (nI (rdW tx z B.1 (-1) S).1) (rdW tx z B.1 (-1) S).2).2, if (rdW tx z B.1 (nI (rdW tx z B.1 (-1) S).1) (rdW tx z B.1 (-1) S).2).2.1 = 0 then bWord B (rdW tx z B.1 (-1) S).1 (rdW tx z B.1 (nI (rdW tx z B.1 (-1) S).1) (rdW tx z B.1 (-1) S).2).1 else B) ∧ Fj [14, 15, 18, 19, 20, 21, 22, 23, 25, 26, 27, 28, 29, 30, 31, 32, 33, 34, 35] [nRd, nRl, nWl, nWr, nRw, rCd, mWt, mTs] σ σ')) := by
  have hs9 := hB.1.1
  refine p_enter rfl rfl (Nat.le_of_ble_eq_true rfl) rfl ?_
  refine p_aload_n 0 1 rfl rfl dX9_readsWord_0 rfl ?_
  refine p_aload_n 0 2 rfl rfl dX9_readsWord_1 rfl ?_
  refine p_getIE 9 25 5 rfl dX9_readsWord_2 fl_X9_224 rfl rfl hB.2.1.1.1 ?_
  refine p_cV1x 0 0 8 rfl dX9_readsWord_5 (c_among hT h (m := aS B.1) hs9) ml_X9_237 vl_X9_amongHere rfl (by decide) rfl (Nat.le_of_ble_eq_true rfl) (Nat.le_of_ble_eq_true rfl) (Nat.le_of_ble_eq_true rfl) (Nat.le_of_ble_eq_true rfl) rfl ?_
  rintro v1 σ1 ⟨hp1v, hp1r, hp1f, hp1j, hp1g⟩
  subst hp1v
  have hB1 := hB.fr hp1f rfl rfl
  refine p_if_ne 12 11 rfl rfl dX9_readsWord_8 (fun h8 => ?_) (fun h8 => ?_)
  · have hg1 : (amF z (aS B.1) S).1 = 0 := by have := b2i_t h8; simpa using this
    have hq1 := hp1g hg1
    have h1 : RdM σ1 tx z S := by rw [hq1.1] at hp1r; exact hp1r
    have hk1 := (rdW_am (tx := tx) (O := B.1) (be := -1) h0).2 hg1
    have ew1 : (rdW tx z B.1 (-1) S) = (S.2.2.2.2.2, adv tx z S) := hk1.2.2.2.2 (fun q => q.elim (fun e => absurd e (nI_m1 (by omega))) (fun e => by rw [hasW_m1 hB.1] at e; cases e))
    refine p_aload_n 0 13 rfl rfl dX9_readsWord_12 rfl ?_
    refine p_getIE 9 22 16 rfl dX9_readsWord_13 fl_X9_129 rfl rfl hq1.2.1 ?_
    refine p_ist_n1 17 rfl rfl dX9_readsWord_16 (Nat.le_of_ble_eq_true rfl) rfl ?_
    refine p_aload_n 0 18 rfl rfl dX9_readsWord_17 rfl ?_
    refine p_cV0v 0 0 21 rfl dX9_readsWord_18 (c_goesR (hT.fr hp1f rfl) h1 h0) ml_X9_165 vl_X9_goes rfl (by decide) rfl (Nat.le_of_ble_eq_true rfl) (Nat.le_of_ble_eq_true rfl) (Nat.le_of_ble_eq_true rfl) (Nat.le_of_ble_eq_true rfl) rfl ?_
    intro σ2 hp2
    have hT2 : TpM σ2 tx z := (hT.fr hp1f rfl).fr hp2.2 rfl
    have hFb : Fj [14, 15, 18, 19, 20, 21, 22, 23, 25, 26, 27, 28, 29, 30, 31, 32, 33, 34, 35] [nRd, nRl, nWl, nWr, nRw, rCd, mWt, mTs] σ σ2 := (hp1f.up (by decide) (by decide)).tr (hp2.2.up (by decide) (by decide))
    have hB2 := hB1.fr hp2.2 rfl rfl
    have h0a : (adv tx z S).1 = 0 := by rw [adv_f]; exact h0
    have hoa := adv_ok (tx := tx) ho
    refine p_aload_n 0 22 rfl rfl dX9_readsWord_21 rfl ?_
    refine p_aload_n 0 23 rfl rfl dX9_readsWord_22 rfl ?_
    refine p_getIE 9 25 26 rfl dX9_readsWord_23 fl_X9_224 rfl rfl hB2.2.1.1.1 ?_
    refine p_cV1x 0 0 29 rfl dX9_readsWord_26 (c_among hT2 hp2.1 (m := aS B.1) hs9) ml_X9_237 vl_X9_amongHere rfl (by decide) rfl (Nat.le_of_ble_eq_true rfl) (Nat.le_of_ble_eq_true rfl) (Nat.le_of_ble_eq_true rfl) (Nat.le_of_ble_eq_true rfl) rfl ?_
    rintro v3 σ3 ⟨hp3v, hp3r, hp3f, hp3j, hp3g⟩
    subst hp3v
    have hT3 := hT2.fr hp3f rfl
    have hB3 := hB2.fr hp3f rfl rfl
    refine p_if_ne 33 32 rfl rfl dX9_readsWord_29 (fun h29 => ?_) (fun h29 => ?_)
    · have hg3 : (amF z (aS B.1) (adv tx z S)).1 = 0 := by have := b2i_t h29; simpa using this
      have hq3 := hp3g hg3
      have h3 : RdM σ3 tx z (adv tx z S) := by rw [hq3.1] at hp3r; exact hp3r
      have hk3 := (rdW_am (tx := tx) (O := B.1) (be := nI S.2.2.2.2.2) h0a).2 hg3
      refine p_aload_n 0 34 rfl rfl dX9_readsWord_33 rfl ?_
      refine p_getIE 9 22 37 rfl dX9_readsWord_34 fl_X9_129 rfl rfl hq3.2.1 ?_
      refine p_iload_n 1 38 rfl rfl dX9_readsWord_37 rfl ?_
      refine p_icmp_eq 53 41 rfl rfl dX9_readsWord_38 (fun h38 => ?_) (fun h38 => ?_)
      · refine p_aload_n 0 54 rfl rfl dX9_readsWord_53 rfl ?_
        refine p_iconst (4) 55 rfl dX9_readsWord_54 rfl ?_
        refine p_cV1v 0 0 58 rfl dX9_readsWord_55 (c_wrong h3 (w := 4) (by decide) (by decide)) ml_X9_168 vl_X9_wrong rfl (by decide) rfl (Nat.le_of_ble_eq_true rfl) (Nat.le_of_ble_eq_true rfl) (Nat.le_of_ble_eq_true rfl) (Nat.le_of_ble_eq_true rfl) rfl ?_
        intro σ4 hp4
        have hdup : nI (adv tx z S).2.2.2.2.2 = nI S.2.2.2.2.2 ∨ hasW B.1 (nI S.2.2.2.2.2) (nI (adv tx z S).2.2.2.2.2) = true := Or.inl h38
        have ew2 : ((rdW tx z B.1 (nI (rdW tx z B.1 (-1) S).1) (rdW tx z B.1 (-1) S).2).2, if (rdW tx z B.1 (nI (rdW tx z B.1 (-1) S).1) (rdW tx z B.1 (-1) S).2).2.1 = 0 then bWord B (rdW tx z B.1 (-1) S).1 (rdW tx z B.1 (nI (rdW tx z B.1 (-1) S).1) (rdW tx z B.1 (-1) S).2).1 else B) = (fai z 4 (adv tx z S), B) := by rw [ew1]; show ((rdW tx z B.1 (nI S.2.2.2.2.2) (adv tx z S)).2, if (rdW tx z B.1 (nI S.2.2.2.2.2) (adv tx z S)).2.1 = 0 then _ else B) = _; rw [hk3.2.2.2.1 hdup]; show (_, if (fai z 4 (adv tx z S)).1 = 0 then _ else B) = _; rw [if_neg (by rw [(fai_k h0a).2.1]; decide)]
        refine p_aload_n 0 59 rfl rfl dX9_readsWord_58 rfl ?_
        refine p_cV0i 62 rfl dX9_readsWord_59 (c_isGood hp4.1) ml_X9_161 vl_X9_isGood rfl (by decide) rfl (Nat.le_of_ble_eq_true rfl) (Nat.le_of_ble_eq_true rfl) rfl ?_
        refine p_if_ne 66 65 rfl rfl dX9_readsWord_62 (fun h62 => absurd (b2i_t h62) (by rw [(fai_k h0a).2.1]; decide)) (fun h62 => ?_)
        exact p_vret dX9_readsWord_65 rfl ⟨rfl, by rw [ew2]; exact LMx.f (hT3.fr hp4.2.1 rfl) hp4.1 (by rw [(fai_k h0a).2.1]; decide), (hFb.tr (hp3f.up (by decide) (by decide))).tr (hp4.2.1.up (by decide) (by decide))⟩
      · refine p_aload_n 0 42 rfl rfl dX9_readsWord_41 rfl ?_
        refine p_iload_n 1 43 rfl rfl dX9_readsWord_42 rfl ?_
        refine p_aload_n 0 44 rfl rfl dX9_readsWord_43 rfl ?_
        refine p_getIE 9 22 47 rfl dX9_readsWord_44 fl_X9_129 rfl rfl hq3.2.1 ?_
        refine p_cV2i 50 rfl dX9_readsWord_47 (c_isWordOf hT3.1 hB3 _ _) ml_X9_240 vl_X9_isWordOf rfl (by decide) rfl (Nat.le_of_ble_eq_true rfl) (Nat.le_of_ble_eq_true rfl) rfl ?_
        refine p_if_eq 58 53 rfl rfl dX9_readsWord_50 (fun h50 => ?_) (fun h50 => ?_)
        · have hnd : ¬ (nI (adv tx z S).2.2.2.2.2 = nI S.2.2.2.2.2 ∨ hasW B.1 (nI S.2.2.2.2.2) (nI (adv tx z S).2.2.2.2.2) = true) := fun q => q.elim h38 (fun e => by rw [b2i_f h50] at e; cases e)
          have ew3 : (rdW tx z B.1 (nI (rdW tx z B.1 (-1) S).1) (rdW tx z B.1 (-1) S).2) = ((adv tx z S).2.2.2.2.2, adv tx z (adv tx z S)) := by rw [ew1]; exact hk3.2.2.2.2 hnd
          refine p_aload_n 0 59 rfl rfl dX9_readsWord_58 rfl ?_
          refine p_cV0i 62 rfl dX9_readsWord_59 (c_isGood h3) ml_X9_161 vl_X9_isGood rfl (by decide) rfl (Nat.le_of_ble_eq_true rfl) (Nat.le_of_ble_eq_true rfl) rfl ?_
          refine p_if_ne 66 65 rfl rfl dX9_readsWord_62 (fun h62 => ?_) (fun h62 => absurd (b2i_f h62) (by rw [h0a]; decide))
          refine p_aload_n 0 67 rfl rfl dX9_readsWord_66 rfl ?_
          refine p_getR 9 38 70 rfl dX9_readsWord_67 fl_X9_47 rfl rfl (show hR _ M0 38 = nWl from hT3.1 38) (by decide) ?_
          refine p_aload_n 0 71 rfl rfl dX9_readsWord_70 rfl ?_
          refine p_getIE 9 27 74 rfl dX9_readsWord_71 fl_X9_234 rfl rfl hB3.2.1.1.2.2 ?_
          refine p_iload_n 1 75 rfl rfl dX9_readsWord_74 rfl ?_
          refine p_iastE 76 rfl dX9_readsWord_75 (i := aW B.1) rfl (by show _ < 12; omega) ?_
          refine p_aload_n 0 77 rfl rfl dX9_readsWord_76 rfl ?_
          refine p_getR 9 39 80 rfl dX9_readsWord_77 fl_X9_50 rfl rfl (show hR _ M0 39 = nWr from hT3.1 39) (by decide) ?_
          refine p_aload_n 0 81 rfl rfl dX9_readsWord_80 rfl ?_
          refine p_getIE 9 27 84 rfl dX9_readsWord_81 fl_X9_234 rfl rfl hB3.2.1.1.2.2 ?_
          refine p_aload_n 0 85 rfl rfl dX9_readsWord_84 rfl ?_
          refine p_getIE 9 22 88 rfl dX9_readsWord_85 fl_X9_129 rfl rfl hq3.2.1 ?_
          refine p_iastE 89 rfl dX9_readsWord_88 (i := aW B.1) rfl (by show _ < 12; omega) ?_
          refine p_aload_n 0 90 rfl rfl dX9_readsWord_89 rfl ?_
          refine p_dup 91 rfl dX9_readsWord_90 rfl ?_
          refine p_getIE 9 27 94 rfl dX9_readsWord_91 fl_X9_234 rfl rfl hB3.2.1.1.2.2 ?_
          refine p_iconst (1) 95 rfl dX9_readsWord_94 rfl ?_
          refine p_iadd 96 rfl dX9_readsWord_95 ?_
          rw [nI_1]
          refine p_putI 9 27 99 rfl dX9_readsWord_96 fl_X9_234 rfl rfl (Or.inl rfl) ?_
          have hF7 : Fj [27] [nWl, nWr] σ3 (sI (sA (sA σ3 nWl (aW B.1) (nI S.2.2.2.2.2)) nWr (aW B.1) (nI (adv tx z S).2.2.2.2.2)) M0 27 (nI (aW B.1 + 1))) := ((Fj.sA (by simp)).tr (Fj.sA (by simp))).tr (Fj.sI (by simp))
          have h7 : RdM (sI (sA (sA σ3 nWl (aW B.1) (nI S.2.2.2.2.2)) nWr (aW B.1) (nI (adv tx z S).2.2.2.2.2)) M0 27 (nI (aW B.1 + 1))) tx z (adv tx z S) := h3.fr hF7 rfl rfl
          refine p_aload_n 0 100 rfl rfl dX9_readsWord_99 rfl ?_
          refine p_cV0v 0 0 103 rfl dX9_readsWord_100 (c_goesR (hT3.fr hF7 rfl) h7 h0a) ml_X9_165 vl_X9_goes rfl (by decide) rfl (Nat.le_of_ble_eq_true rfl) (Nat.le_of_ble_eq_true rfl) (Nat.le_of_ble_eq_true rfl) (Nat.le_of_ble_eq_true rfl) rfl ?_
          intro σ8 hp8
          have hFF : Fj [14, 15, 18, 19, 20, 21, 22, 23, 25, 26, 27, 28, 29, 30, 31, 32, 33, 34, 35] [nRd, nRl, nWl, nWr, nRw, rCd, mWt, mTs] σ σ8 := ((hFb.tr (hp3f.up (by decide) (by decide))).tr (hF7.up (by decide) (by decide))).tr (hp8.2.up (by decide) (by decide))
          have hfin : LMx σ8 tx z ((rdW tx z B.1 (nI (rdW tx z B.1 (-1) S).1) (rdW tx z B.1 (-1) S).2).2, if (rdW tx z B.1 (nI (rdW tx z B.1 (-1) S).1) (rdW tx z B.1 (-1) S).2).2.1 = 0 then bWord B (rdW tx z B.1 (-1) S).1 (rdW tx z B.1 (nI (rdW tx z B.1 (-1) S).1) (rdW tx z B.1 (-1) S).2).1 else B) := by
            have e9 : ((rdW tx z B.1 (nI (rdW tx z B.1 (-1) S).1) (rdW tx z B.1 (-1) S).2).2, if (rdW tx z B.1 (nI (rdW tx z B.1 (-1) S).1) (rdW tx z B.1 (-1) S).2).2.1 = 0 then bWord B (rdW tx z B.1 (-1) S).1 (rdW tx z B.1 (nI (rdW tx z B.1 (-1) S).1) (rdW tx z B.1 (-1) S).2).1 else B) = (adv tx z (adv tx z S), bWord B S.2.2.2.2.2 (adv tx z S).2.2.2.2.2) := by
              rw [ew3, ew1]; show (_, if (adv tx z (adv tx z S)).1 = 0 then _ else B) = _
              rw [if_pos (by rw [adv_f]; exact h0a)]
            rw [e9]
            have s1 := adv_st (tx := tx) ho (by rw [hk1.2.1]; decide)
            have s2 := adv_st (tx := tx) hoa (by rw [hk3.2.1]; decide)
            refine ⟨(hT3.fr hF7 rfl).fr hp8.2 rfl, hp8.1, fun _ => ⟨o, (((hc.fr hp1f rfl rfl).fr hp2.2 rfl rfl).fr hp3f rfl rfl).fr hF7 rfl rfl |>.fr hp8.2 rfl rfl, RBm.fr ?_ hp8.2 rfl rfl, by show o.length ≤ 2 * (adv tx z (adv tx z S)).2.2.2.1; omega⟩⟩
            obtain ⟨b1, b2, b3, b4, b5, b6, b7⟩ := hB3
            have ei : ∀ k, k ≠ 27 → hI (sI (sA (sA σ3 nWl (aW B.1) (nI S.2.2.2.2.2)) nWr (aW B.1) (nI (adv tx z S).2.2.2.2.2)) M0 27 (nI (aW B.1 + 1))) M0 k = hI σ3 M0 k := fun k hk => hI_sIo (by simp [hk])
            have eo : ∀ r, r ≠ nWl → r ≠ nWr → hA (sI (sA (sA σ3 nWl (aW B.1) (nI S.2.2.2.2.2)) nWr (aW B.1) (nI (adv tx z S).2.2.2.2.2)) M0 27 (nI (aW B.1 + 1))) r = hA σ3 r := fun r h1 h2 => by rw [hA_sI, sA_o h2, sA_o h1]
            refine ⟨⟨b1.1, b1.2.1, by show aW B.1 + 1 ≤ 12; omega, b1.2.2.2.1, b1.2.2.2.2.1, fun k hk => ?_⟩, ⟨⟨(ei 25 (by decide)).trans b2.1.1, (ei 26 (by decide)).trans b2.1.2.1, hI_sI _ _ _ _⟩, (ei 28 (by decide)).trans b2.2.1, b2.2.2⟩, by rw [eo nRw (by decide) (by decide)]; exact b3, by rw [eo nRl (by decide) (by decide), eo nRd (by decide) (by decide)]; exact b4, fun k hk => ?_, b6.e (ei 29 (by decide)), b7.e (ei 30 (by decide))⟩
            · have hk' : k < aW B.1 + 1 := hk
              show va_up (aL B.1) (aW B.1) S.2.2.2.2.2 k < aS B.1 ∧ va_up (aB B.1) (aW B.1) (adv tx z S).2.2.2.2.2 k < aS B.1
              by_cases e : k = aW B.1
              · rw [e, va_ups, va_ups]; exact ⟨hk1.2.2.1, hk3.2.2.1⟩
              · rw [va_upo e, va_upo e]; exact b1.2.2.2.2.2 k (by omega)
            · have hk' : k < aW B.1 + 1 := hk
              rw [hA_sI, sA_o (show nWl ≠ nWr by decide), sA_s, sA_s, sA_o (show nWr ≠ nWl by decide)]
              show _ = nI (va_up (aL B.1) (aW B.1) S.2.2.2.2.2 k) ∧ _ = nI (va_up (aB B.1) (aW B.1) (adv tx z S).2.2.2.2.2 k)
              by_cases e : k = aW B.1
              · rw [e, va_ups, va_ups, pk_us, pk_us]; exact ⟨rfl, rfl⟩
              · rw [va_upo e, va_upo e, pk_un e, pk_un e]; exact b5 k (by omega)
          exact p_vret dX9_readsWord_103 rfl ⟨rfl, hfin, hFF⟩
        · refine p_aload_n 0 54 rfl rfl dX9_readsWord_53 rfl ?_
          refine p_iconst (4) 55 rfl dX9_readsWord_54 rfl ?_
          refine p_cV1v 0 0 58 rfl dX9_readsWord_55 (c_wrong h3 (w := 4) (by decide) (by decide)) ml_X9_168 vl_X9_wrong rfl (by decide) rfl (Nat.le_of_ble_eq_true rfl) (Nat.le_of_ble_eq_true rfl) (Nat.le_of_ble_eq_true rfl) (Nat.le_of_ble_eq_true rfl) rfl ?_
          intro σ4 hp4
          have hdup : nI (adv tx z S).2.2.2.2.2 = nI S.2.2.2.2.2 ∨ hasW B.1 (nI S.2.2.2.2.2) (nI (adv tx z S).2.2.2.2.2) = true := Or.inr (b2i_t h50)
          have ew2 : ((rdW tx z B.1 (nI (rdW tx z B.1 (-1) S).1) (rdW tx z B.1 (-1) S).2).2, if (rdW tx z B.1 (nI (rdW tx z B.1 (-1) S).1) (rdW tx z B.1 (-1) S).2).2.1 = 0 then bWord B (rdW tx z B.1 (-1) S).1 (rdW tx z B.1 (nI (rdW tx z B.1 (-1) S).1) (rdW tx z B.1 (-1) S).2).1 else B) = (fai z 4 (adv tx z S), B) := by rw [ew1]; show ((rdW tx z B.1 (nI S.2.2.2.2.2) (adv tx z S)).2, if (rdW tx z B.1 (nI S.2.2.2.2.2) (adv tx z S)).2.1 = 0 then _ else B) = _; rw [hk3.2.2.2.1 hdup]; show (_, if (fai z 4 (adv tx z S)).1 = 0 then _ else B) = _; rw [if_neg (by rw [(fai_k h0a).2.1]; decide)]
          refine p_aload_n 0 59 rfl rfl dX9_readsWord_58 rfl ?_
          refine p_cV0i 62 rfl dX9_readsWord_59 (c_isGood hp4.1) ml_X9_161 vl_X9_isGood rfl (by decide) rfl (Nat.le_of_ble_eq_true rfl) (Nat.le_of_ble_eq_true rfl) rfl ?_
          refine p_if_ne 66 65 rfl rfl dX9_readsWord_62 (fun h62 => absurd (b2i_t h62) (by rw [(fai_k h0a).2.1]; decide)) (fun h62 => ?_)
          exact p_vret dX9_readsWord_65 rfl ⟨rfl, by rw [ew2]; exact LMx.f (hT3.fr hp4.2.1 rfl) hp4.1 (by rw [(fai_k h0a).2.1]; decide), (hFb.tr (hp3f.up (by decide) (by decide))).tr (hp4.2.1.up (by decide) (by decide))⟩
    · have hf3 : ¬ (amF z (aS B.1) (adv tx z S)).1 = 0 := by have := b2i_f h29; simpa using this
      have ew2 : ((rdW tx z B.1 (nI (rdW tx z B.1 (-1) S).1) (rdW tx z B.1 (-1) S).2).2, if (rdW tx z B.1 (nI (rdW tx z B.1 (-1) S).1) (rdW tx z B.1 (-1) S).2).2.1 = 0 then bWord B (rdW tx z B.1 (-1) S).1 (rdW tx z B.1 (nI (rdW tx z B.1 (-1) S).1) (rdW tx z B.1 (-1) S).2).1 else B) = ((amF z (aS B.1) (adv tx z S)), B) := by rw [ew1]; show ((rdW tx z B.1 (nI S.2.2.2.2.2) (adv tx z S)).2, if (rdW tx z B.1 (nI S.2.2.2.2.2) (adv tx z S)).2.1 = 0 then _ else B) = _; rw [(rdW_am h0a).1 hf3]; show (_, if (amF z (aS B.1) (adv tx z S)).1 = 0 then _ else B) = _; rw [if_neg hf3]
      exact p_vret dX9_readsWord_32 rfl ⟨rfl, by rw [ew2]; exact LMx.f (hT2.fr hp3f rfl) hp3r hf3, hFb.tr (hp3f.up (by decide) (by decide))⟩
  · have hf1 : ¬ (amF z (aS B.1) S).1 = 0 := by have := b2i_f h8; simpa using this
    have ew1 : (rdW tx z B.1 (-1) S) = (0, (amF z (aS B.1) S)) := (rdW_am h0).1 hf1
    have ew2 : ((rdW tx z B.1 (nI (rdW tx z B.1 (-1) S).1) (rdW tx z B.1 (-1) S).2).2, if (rdW tx z B.1 (nI (rdW tx z B.1 (-1) S).1) (rdW tx z B.1 (-1) S).2).2.1 = 0 then bWord B (rdW tx z B.1 (-1) S).1 (rdW tx z B.1 (nI (rdW tx z B.1 (-1) S).1) (rdW tx z B.1 (-1) S).2).1 else B) = ((amF z (aS B.1) S), B) := by rw [ew1, rdW_flt hf1 (amF_flt h0 hf1)]; show ((amF z (aS B.1) S), if (amF z (aS B.1) S).1 = 0 then _ else B) = _; rw [if_neg hf1]
    exact p_vret dX9_readsWord_11 rfl ⟨rfl, by rw [ew2]; exact LMx.f (hT.fr hp1f rfl) hp1r hf1, hp1f.up (by decide) (by decide)⟩
/-- a clerk under way: n towns of the round are read -/
def bCk (B : OB) (n : Nat) (f : Nat → Nat) : OB := ((aS B.1, aC B.1 + 1, aW B.1, aK B.1, va_up (aT B.1) (aC B.1) n, va_up (aR B.1) (aC B.1) f, aL B.1, aB B.1, aY B.1, aM B.1), B.2.1, B.2.2.1, B.2.2.2.1, B.2.2.2.2)
theorem bCk_stpL (B : OB) (n : Nat) (f : Nat → Nat) : stpL (bCk B n f).1 = n := by
  unfold stpL
  rw [if_pos (show 0 < aC (bCk B n f).1 from Nat.succ_pos _)]
  show va_up (aT B.1) (aC B.1) n (aC B.1 + 1 - 1) = n
  rw [Nat.add_sub_cancel, va_ups]
theorem upup {α : Type} (f : Nat → α) (k : Nat) (a b : α) : va_up (va_up f k a) k b = va_up f k b := by
  funext j
  by_cases e : j = k
  · rw [e, va_ups, va_ups]
  · rw [va_upo e, va_upo e, va_upo e]
theorem bCk_stp (B : OB) (n t : Nat) (f : Nat → Nat) : bStp (bCk B n f) t = bCk B (n + 1) (va_up f n t) := by
  unfold bStp
  rw [if_pos (show 0 < aC (bCk B n f).1 from Nat.succ_pos _)]
  unfold bStop
  show ((_, _, _, _, va_up (va_up (aT B.1) (aC B.1) n) (aC B.1 + 1 - 1) (va_up (aT B.1) (aC B.1) n (aC B.1 + 1 - 1) + 1), va_up (va_up (aR B.1) (aC B.1) f) (aC B.1 + 1 - 1) (va_up (va_up (aR B.1) (aC B.1) f (aC B.1 + 1 - 1)) (va_up (aT B.1) (aC B.1) n (aC B.1 + 1 - 1)) t), _, _, _, _), _) = _
  rw [Nat.add_sub_cancel, va_ups, va_ups, upup, upup]
  rfl
set_option maxRecDepth 8000 in
theorem l_ckE {S : RS} {B : OB} {o : List Int32} {Z : LX} {n : Nat} {f : Nat → Nat} {σ1 : PH} {x4 : Option Value} (h6 : aC B.1 < 6) (hn1 : 1 ≤ n) (hn6 : n ≤ 6) (hT1 : TpM σ1 tx z) (h1 : RdM σ1 tx z S) (h0 : S.1 = 0) (hB1 : RBm σ1 B o) (hc1 : CO σ1 o) (hkn : hA σ1 nRw (28 + aC B.1) = 0) (hrd : ∀ j, j < n → hA σ1 nRd (6 * aC B.1 + j) = nI (f j) ∧ f j < 4) (hl1 : o.length ≤ 2 * S.2.2.2.1) (hZ : (S, bCk B n f) = Z) (hF : Fj [14, 15, 18, 19, 20, 21, 22, 23, 25, 26, 27, 28, 29, 30, 31, 32, 33, 34, 35] [nRd, nRl, nWl, nWr, nRw, rCd, mWt, mTs] σ σ1) : Ok Γ 7 0 0 mX9_readsClerk 98 [some (.ref M0), some (.int (nI (aC B.1))), some (.int (nI n)), some (.int 0), x4] [] σ1 (rV (fun σ' => LMx σ' tx z Z ∧ Fj [14, 15, 18, 19, 20, 21, 22, 23, 25, 26, 27, 28, 29, 30, 31, 32, 33, 34, 35] [nRd, nRl, nWl, nWr, nRw, rCd, mWt, mTs] σ σ')) := by
  refine p_aload_n 0 99 rfl rfl dX9_readsClerk_98 rfl ?_
  refine p_getR 9 37 102 rfl dX9_readsClerk_99 fl_X9_44 rfl rfl (show hR _ M0 37 = nRl from hT1.1 37) (by decide) ?_
  refine p_iload_n 1 103 rfl rfl dX9_readsClerk_102 rfl ?_
  refine p_iload_n 2 104 rfl rfl dX9_readsClerk_103 rfl ?_
  refine p_iastE 105 rfl dX9_readsClerk_104 (i := aC B.1) rfl (by show _ < 6; omega) ?_
  have h1a : RdM (sA σ1 nRl (aC B.1) (nI n)) tx z S := h1.fr (Fj.sA (XI := []) (X := [nRl]) (by simp)) rfl rfl
  refine p_aload_n 0 106 rfl rfl dX9_readsClerk_105 rfl ?_
  refine p_cV0i 109 rfl dX9_readsClerk_106 (c_isGood h1a) ml_X9_161 vl_X9_isGood rfl (by decide) rfl (Nat.le_of_ble_eq_true rfl) (Nat.le_of_ble_eq_true rfl) rfl ?_
  refine p_if_eq 122 112 rfl rfl dX9_readsClerk_109 (fun h109 => absurd (b2i_f h109) (by rw [h0]; decide)) (fun h109 => ?_)
  refine p_aload_n 0 113 rfl rfl dX9_readsClerk_112 rfl ?_
  refine p_dup 114 rfl dX9_readsClerk_113 rfl ?_
  refine p_getIE 9 26 117 rfl dX9_readsClerk_114 fl_X9_231 rfl rfl hB1.2.1.1.2.1 ?_
  refine p_iconst (1) 118 rfl dX9_readsClerk_117 rfl ?_
  refine p_iadd 119 rfl dX9_readsClerk_118 ?_
  rw [nI_1]
  refine p_putI 9 26 122 rfl dX9_readsClerk_119 fl_X9_231 rfl rfl (Or.inl rfl) ?_
  exact p_vret dX9_readsClerk_122 rfl ⟨rfl, by
     have hF7 : Fj [26] [nRl] σ1 (sI (sA σ1 nRl (aC B.1) (nI n)) M0 26 (nI (aC B.1 + 1))) := (Fj.sA (by simp)).tr (Fj.sI (by simp))
     rw [← hZ]
     refine ⟨hT1.fr hF7 rfl, h1.fr hF7 rfl rfl, fun _ => ⟨o, hc1.fr hF7 rfl rfl, ?_, hl1⟩⟩
     obtain ⟨b1, b2, b3, b4, b5, b6, b7⟩ := hB1
     have ei : ∀ k, k ≠ 26 → hI (sI (sA σ1 nRl (aC B.1) (nI n)) M0 26 (nI (aC B.1 + 1))) M0 k = hI σ1 M0 k := fun k hk => hI_sIo (by simp [hk])
     have eo : ∀ r, r ≠ nRl → hA (sI (sA σ1 nRl (aC B.1) (nI n)) M0 26 (nI (aC B.1 + 1))) r = hA σ1 r := fun r h1 => by rw [hA_sI, sA_o h1]
     refine ⟨⟨b1.1, by show aC B.1 + 1 ≤ 6; omega, b1.2.2.1, b1.2.2.2.1, fun c hc => ?_, b1.2.2.2.2.2⟩, ⟨⟨(ei 25 (by decide)).trans b2.1.1, hI_sI _ _ _ _, (ei 27 (by decide)).trans b2.1.2.2⟩, (ei 28 (by decide)).trans b2.2.1, b2.2.2⟩, ?_, fun c hc => ?_, by rw [eo nWl (by decide), eo nWr (by decide)]; exact b5, b6.e (ei 29 (by decide)), b7.e (ei 30 (by decide))⟩
     · have hc' : c < aC B.1 + 1 := hc
       show 1 ≤ va_up (aT B.1) (aC B.1) n c ∧ va_up (aT B.1) (aC B.1) n c ≤ 6 ∧ ∀ j, j < va_up (aT B.1) (aC B.1) n c → va_up (aR B.1) (aC B.1) f c j < 4
       by_cases e : c = aC B.1
       · rw [e, va_ups, va_ups]; exact ⟨hn1, hn6, fun j hj => (hrd j hj).2⟩
       · rw [va_upo e, va_upo e]; exact b1.2.2.2.2.1 c (by omega)
     · rw [eo nRw (by decide)]
       refine ⟨b3.1, b3.2.1, fun c hc => ?_⟩
       have hc' : c < aC B.1 + 1 := hc
       rcases Nat.lt_or_ge c (aC B.1) with q | q
       · exact b3.2.2 c q
       · rw [show c = aC B.1 by omega]; exact hkn
     · have hc' : c < aC B.1 + 1 := hc
       rw [eo nRd (by decide), hA_sI, sA_s]
       show _ = nI (va_up (aT B.1) (aC B.1) n c) ∧ ∀ j, j < va_up (aT B.1) (aC B.1) n c → _ = nI (va_up (aR B.1) (aC B.1) f c j)
       by_cases e : c = aC B.1
       · rw [e, va_ups, va_ups, pk_us]; exact ⟨rfl, fun j hj => (hrd j hj).1⟩
       · rw [va_upo e, va_upo e, pk_un e]; exact b4 c (by omega), hF.tr ((Fj.sA (by simp)).tr (Fj.sI (by simp)))⟩
set_option maxRecDepth 8000 in
theorem l_ck49 {S : RS} {B : OB} {o : List Int32} {n : Nat} {f : Nat → Nat} {σ1 : PH} {x4 : Option Value} {Q : PO → PH → Prop} (h6 : aC B.1 < 6) (hn5 : n < 6) (hT1 : TpM σ1 tx z) (h1 : RdM σ1 tx z S) (ho1 : OkR z S) (h0 : S.1 = 0) (hB1 : RBm σ1 B o) (hc1 : CO σ1 o) (hkn : hA σ1 nRw (28 + aC B.1) = 0) (hrd : ∀ j, j < n → hA σ1 nRd (6 * aC B.1 + j) = nI (f j) ∧ f j < 4) (hl1 : o.length ≤ 2 * S.2.2.2.1) (hF : Fj [14, 15, 18, 19, 20, 21, 22, 23, 25, 26, 27, 28, 29, 30, 31, 32, 33, 34, 35] [nRd, nRl, nWl, nWr, nRw, rCd, mWt, mTs] σ σ1) (kf : ¬ (rdN tx z 3 S).2.1 = 0 → ∀ σ3, TpM σ3 tx z → RdM σ3 tx z (rdN tx z 3 S).2 → Fj [14, 15, 18, 19, 20, 21, 22, 23, 25, 26, 27, 28, 29, 30, 31, 32, 33, 34, 35] [nRd, nRl, nWl, nWr, nRw, rCd, mWt, mTs] σ σ3 → Q (.inl none) σ3) (kz : ∀ x4, (rdN tx z 3 S).2.1 = 0 → ¬ (rdN tx z 3 S).2.2.2.1 = 2 → ∀ σ3, TpM σ3 tx z → RdM σ3 tx z (rdN tx z 3 S).2 → OkR z (rdN tx z 3 S).2 → RBm σ3 B o → CO σ3 o → hA σ3 nRw (28 + aC B.1) = 0 → (∀ j, j < n + 1 → hA σ3 nRd (6 * aC B.1 + j) = nI ((va_up f n (rdN tx z 3 S).1) j) ∧ (va_up f n (rdN tx z 3 S).1) j < 4) → o.length ≤ 2 * (rdN tx z 3 S).2.2.2.2.1 → Fj [14, 15, 18, 19, 20, 21, 22, 23, 25, 26, 27, 28, 29, 30, 31, 32, 33, 34, 35] [nRd, nRl, nWl, nWr, nRw, rCd, mWt, mTs] σ σ3 → Ok Γ 7 0 0 mX9_readsClerk 19 [some (.ref M0), some (.int (nI (aC B.1))), some (.int (nI (n + 1))), some (.int 0), x4] [] σ3 Q) (ky : ∀ x4, (rdN tx z 3 S).2.1 = 0 → (rdN tx z 3 S).2.2.2.1 = 2 → ∀ σ3, TpM σ3 tx z → RdM σ3 tx z (rdN tx z 3 S).2 → OkR z (rdN tx z 3 S).2 → RBm σ3 B o → CO σ3 o → hA σ3 nRw (28 + aC B.1) = 0 → (∀ j, j < n + 1 → hA σ3 nRd (6 * aC B.1 + j) = nI ((va_up f n (rdN tx z 3 S).1) j) ∧ (va_up f n (rdN tx z 3 S).1) j < 4) → o.length ≤ 2 * (rdN tx z 3 S).2.2.2.2.1 → Fj [14, 15, 18, 19, 20, 21, 22, 23, 25, 26, 27, 28, 29, 30, 31, 32, 33, 34, 35] [nRd, nRl, nWl, nWr, nRw, rCd, mWt, mTs] σ σ3 → Ok Γ 7 0 0 mX9_readsClerk 19 [some (.ref M0), some (.int (nI (aC B.1))), some (.int (nI (n + 1))), some (.int 1), x4] [] σ3 Q) : Ok Γ 7 0 0 mX9_readsClerk 49 [some (.ref M0), some (.int (nI (aC B.1))), some (.int (nI n)), some (.int 1), x4] [] σ1 Q := by
  refine p_aload_n 0 50 rfl rfl dX9_readsClerk_49 rfl ?_
  refine p_iconst (0) 51 rfl dX9_readsClerk_50 rfl ?_
  refine p_iconst (3) 52 rfl dX9_readsClerk_51 rfl ?_
  refine p_cV2x 0 0 55 rfl dX9_readsClerk_52 (c_number hT1 h1 (m := 3) (by decide)) ml_X9_227 vl_X9_number rfl (by decide) rfl (Nat.le_of_ble_eq_true rfl) (Nat.le_of_ble_eq_true rfl) (Nat.le_of_ble_eq_true rfl) (Nat.le_of_ble_eq_true rfl) rfl ?_
  rintro v2 σ2 ⟨hr2, hv2, hF2⟩
  have hT2 := hT1.fr hF2 rfl
  refine p_ist_4 57 rfl dX9_readsClerk_55 (Nat.le_of_ble_eq_true rfl) rfl ?_
  refine p_aload_n 0 58 rfl rfl dX9_readsClerk_57 rfl ?_
  refine p_cV0i 61 rfl dX9_readsClerk_58 (c_isGood hr2) ml_X9_161 vl_X9_isGood rfl (by decide) rfl (Nat.le_of_ble_eq_true rfl) (Nat.le_of_ble_eq_true rfl) rfl ?_
  refine p_if_ne 65 64 rfl rfl dX9_readsClerk_61 (fun h61 => ?_) (fun h61 => ?_)
  · have hg2 : (rdN tx z 3 S).2.1 = 0 := by have := b2i_t h61; simpa using this
    have hz2 := rdN_0 hg2
    refine p_aload_n 0 66 rfl rfl dX9_readsClerk_65 rfl ?_
    refine p_getR 9 36 69 rfl dX9_readsClerk_66 fl_X9_41 rfl rfl (show hR _ M0 36 = nRd from hT2.1 36) (by decide) ?_
    refine p_bipush (6) 71 rfl dX9_readsClerk_69 rfl ?_
    refine p_iload_n 1 72 rfl rfl dX9_readsClerk_71 rfl ?_
    refine p_imul 73 rfl dX9_readsClerk_72 ?_
    rw [show (6 : Int32) * nI (aC B.1) = nI (6 * aC B.1) from nI_mu 6 _]
    refine p_iload_n 2 74 rfl rfl dX9_readsClerk_73 rfl ?_
    refine p_iadd 75 rfl dX9_readsClerk_74 ?_
    rw [nI_add]
    refine p_iload 4 77 rfl dX9_readsClerk_75 rfl ?_
    refine p_iastE 78 rfl dX9_readsClerk_77 (i := 6 * aC B.1 + n) rfl (by show _ < 36; omega) ?_
    have hFn : Fj [] [nRd] σ2 (sA σ2 nRd (6 * aC B.1 + n) v2) := Fj.sA (by simp)
    have hTN := hT2.fr hFn rfl
    have hrN : RdM (sA σ2 nRd (6 * aC B.1 + n) v2) tx z (rdN tx z 3 S).2 := hr2.fr hFn rfl rfl
    have hoN : OkR z (rdN tx z 3 S).2 := (rdN_ok (tx := tx) (m := 3) ho1).1
    have hBN : RBm (sA σ2 nRd (6 * aC B.1 + n) v2) B o := by
      have hb := hB1.fr hF2 rfl rfl
      obtain ⟨b1, b2, b3, b4, b5, b6, b7⟩ := hb
      refine ⟨b1, b2, by rw [sA_o (show nRw ≠ nRd by decide)]; exact b3, fun c hc => ?_, by rw [sA_o (show nWl ≠ nRd by decide), sA_o (show nWr ≠ nRd by decide)]; exact b5, b6.e rfl, b7.e rfl⟩
      rw [sA_o (show nRl ≠ nRd by decide), sA_s]
      refine ⟨(b4 c hc).1, fun j hj => ?_⟩
      have := (b1.2.2.2.2.1 c hc).2.1
      rw [pk_un (by omega)]; exact (b4 c hc).2 j hj
    have hcN : CO (sA σ2 nRd (6 * aC B.1 + n) v2) o := (hc1.fr hF2 rfl rfl).fr hFn rfl rfl
    have hkN : hA (sA σ2 nRd (6 * aC B.1 + n) v2) nRw (28 + aC B.1) = 0 := by rw [sA_o (show nRw ≠ nRd by decide), hF2.2.2.2.2 nRw (by simp)]; exact hkn
    have hrdN : ∀ j, j < n + 1 → hA (sA σ2 nRd (6 * aC B.1 + n) v2) nRd (6 * aC B.1 + j) = nI ((va_up f n (rdN tx z 3 S).1) j) ∧ (va_up f n (rdN tx z 3 S).1) j < 4 := fun j hj => by
      rw [sA_s]
      have h3 : (rdN tx z 3 S).1 ≤ 3 := rdN_le _ _ _ _
      by_cases e : j = n
      · rw [e, va_ups, pk_us]; exact ⟨hv2 hg2, by omega⟩
      · rw [va_upo e, pk_un (by omega), hF2.2.2.2.2 nRd (by simp)]; exact hrd j (by omega)
    have hlN : o.length ≤ 2 * (rdN tx z 3 S).2.2.2.2.1 := by
      have := adv_st (tx := tx) ho1 (by rw [hz2.2.1]; decide)
      have e : (rdN tx z 3 S).2 = adv tx z S := by rw [hz2.2.2.2]
      rw [e]; omega
    have hFN : Fj [14, 15, 18, 19, 20, 21, 22, 23, 25, 26, 27, 28, 29, 30, 31, 32, 33, 34, 35] [nRd, nRl, nWl, nWr, nRw, rCd, mWt, mTs] σ (sA σ2 nRd (6 * aC B.1 + n) v2) := (hF.tr (hF2.up (by decide) (by decide))).tr (hFn.up (by decide) (by decide))
    refine p_inc_2 81 rfl dX9_readsClerk_78 (1) rfl (Nat.le_of_ble_eq_true rfl) rfl ?_
    rw [nI_1]
    refine p_aload_n 0 82 rfl rfl dX9_readsClerk_81 rfl ?_
    refine p_getIE 9 19 85 rfl dX9_readsClerk_82 fl_X9_135 rfl rfl ((hrN.2.2.2.1 hg2).1.1.2.2.1) ?_
    refine p_iconst (2) 86 rfl dX9_readsClerk_85 rfl ?_
    refine p_icmp_ne 93 89 rfl rfl dX9_readsClerk_86 (fun h86 => ?_) (fun h86 => ?_)
    · refine p_iconst (0) 94 rfl dX9_readsClerk_93 rfl ?_
      refine p_ist_n3 95 rfl rfl dX9_readsClerk_94 (Nat.le_of_ble_eq_true rfl) rfl ?_
      refine p_goto 19 rfl dX9_readsClerk_95 ?_
      exact kz _ hg2 (fun q => h86 (show nI (rdN tx z 3 S).2.2.2.1 = 2 by rw [q]; rfl)) (sA σ2 nRd (6 * aC B.1 + n) v2) hTN hrN hoN hBN hcN hkN hrdN hlN hFN
    · refine p_iconst (1) 90 rfl dX9_readsClerk_89 rfl ?_
      refine p_goto 94 rfl dX9_readsClerk_90 ?_
      refine p_ist_n3 95 rfl rfl dX9_readsClerk_94 (Nat.le_of_ble_eq_true rfl) rfl ?_
      refine p_goto 19 rfl dX9_readsClerk_95 ?_
      exact ky _ hg2 (nI_eqI (show nI (rdN tx z 3 S).2.2.2.1 = nI 2 from h86) (by have := hoN.2.1; omega) (by decide)) (sA σ2 nRd (6 * aC B.1 + n) v2) hTN hrN hoN hBN hcN hkN hrdN hlN hFN
  · have hf2 : ¬ (rdN tx z 3 S).2.1 = 0 := by have := b2i_f h61; simpa using this
    exact p_vret dX9_readsClerk_64 rfl (kf hf2 σ2 hT2 hr2 (hF.tr (hF2.up (by decide) (by decide))))
theorem stpF_n {m : Nat} {X : LX} (h : ¬ X.1.2.2.1 = 2) : stpF tx z m X = X := by
  cases m with
  | zero => rfl
  | succ m => exact if_neg h
theorem stpF_y {m : Nat} {X : LX} (h : X.1.2.2.1 = 2) : stpF tx z (m + 1) X = stpF tx z m (lnStop tx z X) := if_pos h
set_option maxRecDepth 8000 in
theorem l_ck {B : OB} {o : List Int32} {Z : LX} (h6 : aC B.1 < 6) : ∀ (m n : Nat) (S : RS) (f : Nat → Nat) (σ1 : PH) (x4 : Option Value), n + m = 6 → 1 ≤ n → TpM σ1 tx z → RdM σ1 tx z S → OkR z S → S.1 = 0 → RBm σ1 B o → CO σ1 o → hA σ1 nRw (28 + aC B.1) = 0 → (∀ j, j < n → hA σ1 nRd (6 * aC B.1 + j) = nI (f j) ∧ f j < 4) → o.length ≤ 2 * S.2.2.2.1 → stpF tx z (m + 1) (S, bCk B n f) = Z → Fj [14, 15, 18, 19, 20, 21, 22, 23, 25, 26, 27, 28, 29, 30, 31, 32, 33, 34, 35] [nRd, nRl, nWl, nWr, nRw, rCd, mWt, mTs] σ σ1 → (¬ S.2.2.1 = 2 → Ok Γ 7 0 0 mX9_readsClerk 19 [some (.ref M0), some (.int (nI (aC B.1))), some (.int (nI n)), some (.int 0), x4] [] σ1 (rV (fun σ' => LMx σ' tx z Z ∧ Fj [14, 15, 18, 19, 20, 21, 22, 23, 25, 26, 27, 28, 29, 30, 31, 32, 33, 34, 35] [nRd, nRl, nWl, nWr, nRw, rCd, mWt, mTs] σ σ'))) ∧ (S.2.2.1 = 2 → Ok Γ 7 0 0 mX9_readsClerk 19 [some (.ref M0), some (.int (nI (aC B.1))), some (.int (nI n)), some (.int 1), x4] [] σ1 (rV (fun σ' => LMx σ' tx z Z ∧ Fj [14, 15, 18, 19, 20, 21, 22, 23, 25, 26, 27, 28, 29, 30, 31, 32, 33, 34, 35] [nRd, nRl, nWl, nWr, nRw, rCd, mWt, mTs] σ σ'))) := by
  intro m
  induction m with
  | zero =>
    intro n S f σ1 x4 hnm hn1 hT1 h1 ho1 h0 hB1 hc1 hkn hrd hl1 hZ hF
    refine ⟨fun hk => ?_, fun hk => ?_⟩
    · refine p_iload_n 3 20 rfl rfl dX9_readsClerk_19 rfl ?_
      refine p_if_eq 98 23 rfl rfl dX9_readsClerk_20 (fun h20 => ?_) (fun h20 => absurd rfl h20)
      exact l_ckE h6 hn1 (by omega) hT1 h1 h0 hB1 hc1 hkn hrd hl1 (by rw [← hZ, stpF_n hk]) hF
    · have h6n : n = 6 := by omega
      have eS : lnStop tx z (S, bCk B n f) = (fai z 2 S, bCk B n f) := by
        unfold lnStop; rw [if_neg (by rw [bCk_stpL]; omega)]
      refine p_iload_n 3 20 rfl rfl dX9_readsClerk_19 rfl ?_
      refine p_if_eq 98 23 rfl rfl dX9_readsClerk_20 (fun h20 => absurd h20 (by decide)) (fun h20 => ?_)
      refine p_aload_n 0 24 rfl rfl dX9_readsClerk_23 rfl ?_
      refine p_cV0i 27 rfl dX9_readsClerk_24 (c_isGood h1) ml_X9_161 vl_X9_isGood rfl (by decide) rfl (Nat.le_of_ble_eq_true rfl) (Nat.le_of_ble_eq_true rfl) rfl ?_
      refine p_if_eq 98 30 rfl rfl dX9_readsClerk_27 (fun h27 => absurd (b2i_f h27) (by rw [h0]; decide)) (fun h27 => ?_)
      refine p_iload_n 2 31 rfl rfl dX9_readsClerk_30 rfl ?_
      refine p_bipush (6) 33 rfl dX9_readsClerk_31 rfl ?_
      refine p_icmp_ne 49 36 rfl rfl dX9_readsClerk_33 (fun h33 => absurd (by rw [h6n]; rfl) h33) (fun h33 => ?_)
      refine p_aload_n 0 37 rfl rfl dX9_readsClerk_36 rfl ?_
      refine p_getIE 9 19 40 rfl dX9_readsClerk_37 fl_X9_135 rfl rfl (h1.2.2.2.1 h0).1.1.2.2.1 ?_
      refine p_iconst (2) 41 rfl dX9_readsClerk_40 rfl ?_
      refine p_icmp_ne 49 44 rfl rfl dX9_readsClerk_41 (fun h41 => absurd (by rw [hk]; rfl) h41) (fun h41 => ?_)
      refine p_aload_n 0 45 rfl rfl dX9_readsClerk_44 rfl ?_
      refine p_iconst (2) 46 rfl dX9_readsClerk_45 rfl ?_
      refine p_cV1v 0 0 49 rfl dX9_readsClerk_46 (c_wrong h1 (w := 2) (by decide) (by decide)) ml_X9_168 vl_X9_wrong rfl (by decide) rfl (Nat.le_of_ble_eq_true rfl) (Nat.le_of_ble_eq_true rfl) (Nat.le_of_ble_eq_true rfl) (Nat.le_of_ble_eq_true rfl) rfl ?_
      intro σ2 hp2
      have hfl : ¬ (fai z 2 S).1 = 0 := by rw [(fai_k h0).2.1]; decide
      have efl : (rdN tx z 3 (fai z 2 S)).2 = fai z 2 S := by rw [rdN_flt hfl (fai_k h0).1]
      refine p_aload_n 0 50 rfl rfl dX9_readsClerk_49 rfl ?_
      refine p_iconst (0) 51 rfl dX9_readsClerk_50 rfl ?_
      refine p_iconst (3) 52 rfl dX9_readsClerk_51 rfl ?_
      refine p_cV2x 0 0 55 rfl dX9_readsClerk_52 (c_number (hT1.fr hp2.2.1 rfl) hp2.1 (m := 3) (by decide)) ml_X9_227 vl_X9_number rfl (by decide) rfl (Nat.le_of_ble_eq_true rfl) (Nat.le_of_ble_eq_true rfl) (Nat.le_of_ble_eq_true rfl) (Nat.le_of_ble_eq_true rfl) rfl ?_
      rintro v3 σ3 ⟨hr3, hv3, hF3⟩
      refine p_ist_4 57 rfl dX9_readsClerk_55 (Nat.le_of_ble_eq_true rfl) rfl ?_
      refine p_aload_n 0 58 rfl rfl dX9_readsClerk_57 rfl ?_
      refine p_cV0i 61 rfl dX9_readsClerk_58 (c_isGood hr3) ml_X9_161 vl_X9_isGood rfl (by decide) rfl (Nat.le_of_ble_eq_true rfl) (Nat.le_of_ble_eq_true rfl) rfl ?_
      refine p_if_ne 65 64 rfl rfl dX9_readsClerk_61 (fun h61 => absurd (b2i_t h61) (by rw [efl]; simpa using hfl)) (fun h61 => ?_)
      exact p_vret dX9_readsClerk_64 rfl ⟨rfl, by rw [← hZ, stpF_y hk, eS, stpF_n (by show ¬ (fai z 2 S).2.2.1 = 2; rw [(fai_k h0).1]; decide)]; exact LMx.f (((hT1.fr hp2.2.1 rfl)).fr hF3 rfl) (by rw [efl] at hr3; exact hr3) hfl, (hF.tr (hp2.2.1.up (by decide) (by decide))).tr (hF3.up (by decide) (by decide))⟩
  | succ m ih =>
    intro n S f σ1 x4 hnm hn1 hT1 h1 ho1 h0 hB1 hc1 hkn hrd hl1 hZ hF
    refine ⟨fun hk => ?_, fun hk => ?_⟩
    · refine p_iload_n 3 20 rfl rfl dX9_readsClerk_19 rfl ?_
      refine p_if_eq 98 23 rfl rfl dX9_readsClerk_20 (fun h20 => ?_) (fun h20 => absurd rfl h20)
      exact l_ckE h6 hn1 (by omega) hT1 h1 h0 hB1 hc1 hkn hrd hl1 (by rw [← hZ, stpF_n hk]) hF
    · have h6n : ¬ n = 6 := by omega
      refine p_iload_n 3 20 rfl rfl dX9_readsClerk_19 rfl ?_
      refine p_if_eq 98 23 rfl rfl dX9_readsClerk_20 (fun h20 => absurd h20 (by decide)) (fun h20 => ?_)
      refine p_aload_n 0 24 rfl rfl dX9_readsClerk_23 rfl ?_
      refine p_cV0i 27 rfl dX9_readsClerk_24 (c_isGood h1) ml_X9_161 vl_X9_isGood rfl (by decide) rfl (Nat.le_of_ble_eq_true rfl) (Nat.le_of_ble_eq_true rfl) rfl ?_
      refine p_if_eq 98 30 rfl rfl dX9_readsClerk_27 (fun h27 => absurd (b2i_f h27) (by rw [h0]; decide)) (fun h27 => ?_)
      refine p_iload_n 2 31 rfl rfl dX9_readsClerk_30 rfl ?_
      refine p_bipush (6) 33 rfl dX9_readsClerk_31 rfl ?_
      refine p_icmp_ne 49 36 rfl rfl dX9_readsClerk_33 (fun h33 => ?_) (fun h33 => absurd (nI_eqI (show nI n = nI 6 from h33) (by omega) (by decide)) h6n)
      have eS : lnStop tx z (S, bCk B n f) = ((rdN tx z 3 S).2, if (rdN tx z 3 S).2.1 = 0 then bStp (bCk B n f) (rdN tx z 3 S).1 else bCk B n f) := by
        unfold lnStop; rw [if_pos (by rw [bCk_stpL]; omega)]
      rw [stpF_y hk, eS] at hZ
      refine l_ck49 h6 (by omega) hT1 h1 ho1 h0 hB1 hc1 hkn hrd hl1 hF (fun hf σ3 hT3 h3 hF3 => ⟨rfl, ?_, hF3⟩) (fun x4 hg hk2 σ3 a1 a2 a3 a4 a5 a6 a7 a8 a9 => ?_) (fun x4 hg hk2 σ3 a1 a2 a3 a4 a5 a6 a7 a8 a9 => ?_)
      · rw [← hZ, if_neg hf, stpF_n (by show ¬ (rdN tx z 3 S).2.2.2.1 = 2; rw [h3.2.2.2.2 hf]; decide)]
        exact LMx.f hT3 h3 hf
      · rw [if_pos hg, bCk_stp] at hZ
        exact (ih (n + 1) _ _ σ3 x4 (by omega) (by omega) a1 a2 a3 hg a4 a5 a6 a7 a8 hZ a9).1 hk2
      · rw [if_pos hg, bCk_stp] at hZ
        exact (ih (n + 1) _ _ σ3 x4 (by omega) (by omega) a1 a2 a3 hg a4 a5 a6 a7 a8 hZ a9).2 hk2
theorem bCk_1 (B : OB) (t : Nat) : bClerk B t = bCk B 1 (va_up (fun _ => t) 0 t) := by
  have : va_up (fun _ : Nat => t) 0 t = fun _ => t := by
    funext j
    by_cases e : j = 0
    · rw [e, va_ups]
    · rw [va_upo e]
  rw [this]; rfl
set_option maxRecDepth 8000 in
theorem c_rClerk {S : RS} {B : OB} {o : List Int32} (hT : TpM σ tx z) (h : RdM σ tx z S) (h0 : S.1 = 0) (ho : OkR z S) (hc : CO σ o) (hB : RBm σ B o) (hl : o.length ≤ 2 * S.2.2.2.1) (h6 : aC B.1 < 6) : CallOk Γ 7 0 0 mX9_readsClerk [.ref M0] σ (rV (fun σ' => LMx σ' tx z (stpF tx z 6 ((rdN tx z 3 S).2, if (rdN tx z 3 S).2.1 = 0 then bClerk B (rdN tx z 3 S).1 else B)) ∧ Fj [14, 15, 18, 19, 20, 21, 22, 23, 25, 26, 27, 28, 29, 30, 31, 32, 33, 34, 35] [nRd, nRl, nWl, nWr, nRw, rCd, mWt, mTs] σ σ')) := by
  refine p_enter rfl rfl (Nat.le_of_ble_eq_true rfl) rfl ?_
  refine p_aload_n 0 1 rfl rfl dX9_readsClerk_0 rfl ?_
  refine p_getIE 9 26 4 rfl dX9_readsClerk_1 fl_X9_231 rfl rfl hB.2.1.1.2.1 ?_
  refine p_ist_n1 5 rfl rfl dX9_readsClerk_4 (Nat.le_of_ble_eq_true rfl) rfl ?_
  refine p_iconst (0) 6 rfl dX9_readsClerk_5 rfl ?_
  refine p_ist_n2 7 rfl rfl dX9_readsClerk_6 (Nat.le_of_ble_eq_true rfl) rfl ?_
  refine p_aload_n 0 8 rfl rfl dX9_readsClerk_7 rfl ?_
  refine p_getR 9 40 11 rfl dX9_readsClerk_8 fl_X9_53 rfl rfl (show hR _ M0 40 = nRw from hT.1 40) (by decide) ?_
  refine p_bipush (28) 13 rfl dX9_readsClerk_11 rfl ?_
  refine p_iload_n 1 14 rfl rfl dX9_readsClerk_13 rfl ?_
  refine p_iadd 15 rfl dX9_readsClerk_14 ?_
  rw [ix0 28 (aC B.1) 28 rfl]
  refine p_iconst (0) 16 rfl dX9_readsClerk_15 rfl ?_
  refine p_iastE 17 rfl dX9_readsClerk_16 (i := 28 + aC B.1) rfl (by show _ < 34; omega) ?_
  have hF0 : Fj [] [nRw] σ (sA σ nRw (28 + aC B.1) 0) := Fj.sA (by simp)
  have hT0 := hT.fr hF0 rfl
  have h1 : RdM (sA σ nRw (28 + aC B.1) 0) tx z S := h.fr hF0 rfl rfl
  have hB0 : RBm (sA σ nRw (28 + aC B.1) 0) B o := by
    obtain ⟨b1, b2, b3, b4, b5, b6, b7⟩ := hB
    refine ⟨b1, b2, ?_, by rw [sA_o (show nRl ≠ nRw by decide), sA_o (show nRd ≠ nRw by decide)]; exact b4, by rw [sA_o (show nWl ≠ nRw by decide), sA_o (show nWr ≠ nRw by decide)]; exact b5, b6.e rfl, b7.e rfl⟩
    rw [sA_s]
    refine ⟨by rw [pk_un (by omega)]; exact b3.1, fun s hs => ?_, fun c hc => by rw [pk_un (by omega)]; exact b3.2.2 c hc⟩
    have := b1.1
    rw [pk_un (by omega), pk_un (by omega), pk_un (by omega)]; exact b3.2.1 s hs
  have hkn : hA (sA σ nRw (28 + aC B.1) 0) nRw (28 + aC B.1) = 0 := by rw [sA_s, pk_us]
  refine p_iconst (1) 18 rfl dX9_readsClerk_17 rfl ?_
  refine p_ist_n3 19 rfl rfl dX9_readsClerk_18 (Nat.le_of_ble_eq_true rfl) rfl ?_
  refine p_iload_n 3 20 rfl rfl dX9_readsClerk_19 rfl ?_
  refine p_if_eq 98 23 rfl rfl dX9_readsClerk_20 (fun h20 => absurd h20 (by decide)) (fun h20 => ?_)
  refine p_aload_n 0 24 rfl rfl dX9_readsClerk_23 rfl ?_
  refine p_cV0i 27 rfl dX9_readsClerk_24 (c_isGood h1) ml_X9_161 vl_X9_isGood rfl (by decide) rfl (Nat.le_of_ble_eq_true rfl) (Nat.le_of_ble_eq_true rfl) rfl ?_
  refine p_if_eq 98 30 rfl rfl dX9_readsClerk_27 (fun h27 => absurd (b2i_f h27) (by rw [h0]; decide)) (fun h27 => ?_)
  refine p_iload_n 2 31 rfl rfl dX9_readsClerk_30 rfl ?_
  refine p_bipush (6) 33 rfl dX9_readsClerk_31 rfl ?_
  refine p_icmp_ne 49 36 rfl rfl dX9_readsClerk_33 (fun h33 => ?_) (fun h33 => absurd h33 (by decide))
  refine l_ck49 (n := 0) (f := fun _ => (rdN tx z 3 S).1) h6 (by decide) hT0 h1 ho h0 hB0 (hc.fr hF0 rfl rfl) hkn (fun j hj => absurd hj (Nat.not_lt_zero _)) hl (hF0.up (by decide) (by decide)) (fun hf σ3 hT3 h3 hF3 => ⟨rfl, ?_, hF3⟩) (fun x4 hg hk2 σ3 a1 a2 a3 a4 a5 a6 a7 a8 a9 => ?_) (fun x4 hg hk2 σ3 a1 a2 a3 a4 a5 a6 a7 a8 a9 => ?_)
  · rw [if_neg hf, stpF_n (by show ¬ (rdN tx z 3 S).2.2.2.1 = 2; rw [h3.2.2.2.2 hf]; decide)]
    exact LMx.f hT3 h3 hf
  · rw [if_pos hg, bCk_1]
    exact (l_ck h6 5 1 _ _ σ3 x4 (by omega) (by omega) a1 a2 a3 hg a4 a5 a6 a7 a8 rfl a9).1 hk2
  · rw [if_pos hg, bCk_1]
    exact (l_ck h6 5 1 _ _ σ3 x4 (by omega) (by omega) a1 a2 a3 hg a4 a5 a6 a7 a8 rfl a9).2 hk2
end Cad
