/-! ===== the reference: borne, ask ===== -/
def FH (σ σ' : PH) : Prop := FQ σ σ' ∧ hI σ' M0 0 = hI σ M0 0 ∧ hA σ' mSa = hA σ mSa
theorem FH.rf {σ : PH} : FH σ σ := ⟨FQ.rf, rfl, rfl⟩
theorem FH.tr {σ σ1 σ2 : PH} (h : FH σ σ1) (g : FH σ1 σ2) : FH σ σ2 := ⟨h.1.tr g.1, g.2.1.trans h.2.1, g.2.2.trans h.2.2⟩
theorem FH.b {σ σ' : PH} (h : FrB 34 σ σ') : FH σ σ' := ⟨FQ.b h, h.1.2.1 M0 0 (by simp), h.1.2.2.2.2.2 mSa (by decide)⟩
theorem FH.so {σ σ' : PH} (h : Fr [] [mSo] σ σ') : FH σ σ' := ⟨⟨h.1, h.2.2.2.2.1, h.2.2.2.1, fun r k _ => h.2.1 r k (by simp), fun r q => h.2.2.2.2.2 r (fun z => q (by simp only [List.mem_cons, List.not_mem_nil, or_false] at z; simp [z])), fun k _ => by rw [h.2.2.2.2.2 mRo (by decide)], by rw [h.2.2.2.2.2 mCo (by decide)]⟩, h.2.1 M0 0 (by simp), h.2.2.2.2.2 mSa (by decide)⟩
theorem b2i_inj {a b : Bool} (h : b2i a = b2i b) : a = b := by cases a <;> cases b <;> first | rfl | exact absurd h (by decide)
section C99
variable {Γ : Gm} {σ : PH} {A : AT}
set_option maxRecDepth 4000 in
theorem l_hrI {τ : PH} (hR0 : RM τ A) {W : AW} {k : Nat} (hk : k ≤ 12) (hw1 : RowM true (hA τ mRo) 34 (tO A) (daysF (tO A) k W)) (hv1 : OkV (tO A) (daysF (tO A) k W)) {Q : PO → PH → Prop} (kk : (∀ (j : Nat) (q : Hr), (tH A)[j]? = some q → q.2.2.1 = k → gdH (tO A) W q = true) → ∀ x2, Ok Γ 8 0 0 mX9_isHeard 82 [some (.ref M0), some (.int (nI k)), x2] [] τ Q) (kf : (∃ q, q ∈ (tH A) ∧ gdH (tO A) W q = false) → Q (.inl (some (.int 0))) τ) : ∀ (n i : Nat), i + n = (tH A).length → (∀ (j : Nat) (q : Hr), j < i → (tH A)[j]? = some q → q.2.2.1 = k → gdH (tO A) W q = true) → Ok Γ 8 0 0 mX9_isHeard 10 [some (.ref M0), some (.int (nI k)), some (.int (nI i))] [] τ Q := by
  have hK := hR0.2.1
  have hO := hK.2.2.1
  have hc6 := hO.2.1
  have hw12 := hO.2.2.1
  have hs9 := hO.1
  have hv := hK.2.2.2.2.1.1
  have hd9 := hK.2.2.2.2.1.2
  have hM := hR0.1
  have hw := hR0.2.2.1
  have hl8 := hK.2.2.2.2.2.2.2.1.1
  intro n
  induction n with
  | zero =>
    intro i hi hall
    refine p_iload_n 2 11 rfl rfl dX9_isHeard_10 rfl ?_
    refine p_aload_n 0 12 rfl rfl dX9_isHeard_11 rfl ?_
    refine p_getIE 9 51 15 rfl dX9_isHeard_12 fl_X9_299 rfl rfl hR0.2.2.2.2.1.1 ?_
    refine p_icmp_ge 82 18 rfl rfl dX9_isHeard_15 (fun h15 => ?_) (fun h15 => absurd (nI_le (a := (tH A).length) (b := i) (by omega) (by omega)) h15)
    exact kk (fun j q hq hd => hall j q (by have := (List.getElem?_eq_some_iff.mp hq).1; omega) hq hd) _
  | succ n ih =>
    intro i hi hall
    have hlt : i < (tH A).length := by omega
    obtain ⟨q, hq⟩ : ∃ q, (tH A)[i]? = some q := ⟨_, List.getElem?_eq_getElem hlt⟩
    have he := hR0.2.2.2.2.1.2 i q hq
    have hqm : q ∈ (tH A) := List.mem_of_getElem? hq
    have hqo := hK.2.2.2.2.2.2.2.1.2 q hqm
    have hqc := hqo.1
    have hqw := hqo.2.1
    have hqd := hqo.2.2
    refine p_iload_n 2 11 rfl rfl dX9_isHeard_10 rfl ?_
    refine p_aload_n 0 12 rfl rfl dX9_isHeard_11 rfl ?_
    refine p_getIE 9 51 15 rfl dX9_isHeard_12 fl_X9_299 rfl rfl hR0.2.2.2.2.1.1 ?_
    refine p_icmp_ge 82 18 rfl rfl dX9_isHeard_15 (fun h15 => absurd h15 (nI_ge (a := i) (b := (tH A).length) (by omega) (by omega))) (fun h15 => ?_)
    refine p_aload_n 0 19 rfl rfl dX9_isHeard_18 rfl ?_
    refine p_getR 9 52 22 rfl dX9_isHeard_19 fl_X9_84 rfl rfl (show hR _ M0 52 = mHe from hM.1 52) (by decide) ?_
    refine p_iconst (4) 23 rfl dX9_isHeard_22 rfl ?_
    refine p_iload_n 2 24 rfl rfl dX9_isHeard_23 rfl ?_
    refine p_imul 25 rfl dX9_isHeard_24 ?_
    refine p_iconst (2) 26 rfl dX9_isHeard_25 rfl ?_
    refine p_iadd 27 rfl dX9_isHeard_26 ?_
    rw [m4, show nI (4 * i) + 2 = nI (4 * i + 2) from nI_add _ 2]
    refine p_ialdE 28 rfl dX9_isHeard_27 (i := 4 * i + 2) rfl (by show _ < 32; omega) he.2.2.1 ?_
    refine p_iload_n 1 29 rfl rfl dX9_isHeard_28 rfl ?_
    refine p_icmp_ne 76 32 rfl rfl dX9_isHeard_29 (fun h29 => ?_) (fun h29 => ?_)
    · refine p_inc_2 79 rfl dX9_isHeard_76 (1) rfl (Nat.le_of_ble_eq_true rfl) rfl ?_
      refine p_goto 10 rfl dX9_isHeard_79 ?_
      rw [nI_1]
      refine ih (i + 1) (by omega) (fun j q2 hj hq2 hd2 => ?_)
      rcases Nat.lt_or_ge j i with w | w
      · exact hall j q2 w hq2 hd2
      · rw [show j = i by omega, hq] at hq2
        cases hq2
        exact absurd (by rw [hd2]) h29
    · refine p_aload_n 0 33 rfl rfl dX9_isHeard_32 rfl ?_
      refine p_getR 9 44 36 rfl dX9_isHeard_33 fl_X9_66 rfl rfl (show hR _ M0 44 = mRo from hM.1 44) (by decide) ?_
      refine p_bipush (62) 38 rfl dX9_isHeard_36 rfl ?_
      refine p_aload_n 0 39 rfl rfl dX9_isHeard_38 rfl ?_
      refine p_getR 9 52 42 rfl dX9_isHeard_39 fl_X9_84 rfl rfl (show hR _ M0 52 = mHe from hM.1 52) (by decide) ?_
      refine p_iconst (4) 43 rfl dX9_isHeard_42 rfl ?_
      refine p_iload_n 2 44 rfl rfl dX9_isHeard_43 rfl ?_
      refine p_imul 45 rfl dX9_isHeard_44 ?_
      rw [m4]
      refine p_ialdE 46 rfl dX9_isHeard_45 (i := 4 * i) rfl (by show _ < 32; omega) he.1 ?_
      refine p_iadd 47 rfl dX9_isHeard_46 ?_
      rw [ix0 62 q.1 62 rfl]
      refine p_ialdE 48 rfl dX9_isHeard_47 (i := 62 + q.1) rfl (by show _ < 68; omega) (hw1.2.2 q.1 hqc) ?_
      refine p_aload_n 0 49 rfl rfl dX9_isHeard_48 rfl ?_
      refine p_getR 9 52 52 rfl dX9_isHeard_49 fl_X9_84 rfl rfl (show hR _ M0 52 = mHe from hM.1 52) (by decide) ?_
      refine p_iconst (4) 53 rfl dX9_isHeard_52 rfl ?_
      refine p_iload_n 2 54 rfl rfl dX9_isHeard_53 rfl ?_
      refine p_imul 55 rfl dX9_isHeard_54 ?_
      refine p_iconst (1) 56 rfl dX9_isHeard_55 rfl ?_
      refine p_iadd 57 rfl dX9_isHeard_56 ?_
      rw [m4, show nI (4 * i) + 1 = nI (4 * i + 1) from nI_add _ 1]
      refine p_ialdE 58 rfl dX9_isHeard_57 (i := 4 * i + 1) rfl (by show _ < 32; omega) he.2.1 ?_
      refine p_ishr 59 rfl dX9_isHeard_58 ?_
      refine p_iconst (1) 60 rfl dX9_isHeard_59 rfl ?_
      refine p_iand 61 rfl dX9_isHeard_60 ?_
      rw [sb1 (by have := hv1.2.2.2 q.1 (by omega); omega) (by omega)]
      refine p_aload_n 0 62 rfl rfl dX9_isHeard_61 rfl ?_
      refine p_getR 9 52 65 rfl dX9_isHeard_62 fl_X9_84 rfl rfl (show hR _ M0 52 = mHe from hM.1 52) (by decide) ?_
      refine p_iconst (4) 66 rfl dX9_isHeard_65 rfl ?_
      refine p_iload_n 2 67 rfl rfl dX9_isHeard_66 rfl ?_
      refine p_imul 68 rfl dX9_isHeard_67 ?_
      refine p_iconst (3) 69 rfl dX9_isHeard_68 rfl ?_
      refine p_iadd 70 rfl dX9_isHeard_69 ?_
      rw [m4, show nI (4 * i) + 3 = nI (4 * i + 3) from nI_add _ 3]
      refine p_ialdE 71 rfl dX9_isHeard_70 (i := 4 * i + 3) rfl (by show _ < 32; omega) he.2.2.2 ?_
      refine p_icmp_eq 76 74 rfl rfl dX9_isHeard_71 (fun h71 => ?_) (fun h71 => ?_)
      · refine p_inc_2 79 rfl dX9_isHeard_76 (1) rfl (Nat.le_of_ble_eq_true rfl) rfl ?_
        refine p_goto 10 rfl dX9_isHeard_79 ?_
        rw [nI_1]
        refine ih (i + 1) (by omega) (fun j q2 hj hq2 hd2 => ?_)
        rcases Nat.lt_or_ge j i with w | w
        · exact hall j q2 w hq2 hd2
        · rw [show j = i by omega, hq] at hq2
          cases hq2
          show ((vK (daysF (tO A) q.2.2.1 W) q.1).testBit q.2.1 == q.2.2.2) = true
          rw [hd2, beq_iff_eq]
          exact b2i_inj h71
      · refine p_iconst (0) 75 rfl dX9_isHeard_74 rfl ?_
        exact p_zret dX9_isHeard_75 rfl (by decide) (kf ⟨q, hqm, by
      have hdk : q.2.2.1 = k := nI_eqI h29 (by omega) (by omega)
      show ((vK (daysF (tO A) q.2.2.1 W) q.1).testBit q.2.1 == q.2.2.2) = false
      rw [hdk, beq_eq_false_iff_ne]
      exact fun z => h71 (by rw [z])⟩)
set_option maxRecDepth 4000 in
theorem l_hrS {τ : PH} (hR0 : RM τ A) {W : AW} {k : Nat} (hk : k ≤ 12) (hw1 : RowM true (hA τ mRo) 34 (tO A) (daysF (tO A) k W)) (hv1 : OkV (tO A) (daysF (tO A) k W)) {Q : PO → PH → Prop} (kk : ∀ σ2 x2, (∀ j, j < aC (tO A) → hA σ2 mSo j = nI (vK (daysF (tO A) k W) j)) → Fr [] [mSo] τ σ2 → Ok Γ 8 0 0 mX9_isHeard 119 [some (.ref M0), some (.int (nI k)), x2] [] σ2 Q) : ∀ (n i : Nat) (σ1 : PH), i + n = aC (tO A) → (∀ j, j < i → hA σ1 mSo j = nI (vK (daysF (tO A) k W) j)) → Fr [] [mSo] τ σ1 → Ok Γ 8 0 0 mX9_isHeard 90 [some (.ref M0), some (.int (nI k)), some (.int (nI i))] [] σ1 Q := by
  have hK := hR0.2.1
  have hO := hK.2.2.1
  have hc6 := hO.2.1
  have hw12 := hO.2.2.1
  have hs9 := hO.1
  have hv := hK.2.2.2.2.1.1
  have hd9 := hK.2.2.2.2.1.2
  have hM := hR0.1
  have hw := hR0.2.2.1
  have hl8 := hK.2.2.2.2.2.2.2.1.1
  intro n
  induction n with
  | zero =>
    intro i σ1 hi h1 hF
    have hr1 : ∀ k, hR σ1 M0 k = mRef k := fun k => by rw [hF.2.2.2.1]; exact hM.1 k
    have hc1 : hI σ1 M0 2 = nI (aC (tO A)) := (hF.2.1 M0 2 (by simp)).trans hM.2.2.1.2.1
    refine p_iload_n 2 91 rfl rfl dX9_isHeard_90 rfl ?_
    refine p_aload_n 0 92 rfl rfl dX9_isHeard_91 rfl ?_
    refine p_getIE 9 2 95 rfl dX9_isHeard_92 fl_X9_283 rfl rfl hc1 ?_
    refine p_icmp_ge 119 98 rfl rfl dX9_isHeard_95 (fun h95 => ?_) (fun h95 => absurd (nI_le (a := aC (tO A)) (b := i) (by omega) (by omega)) h95)
    exact kk σ1 _ (fun j hj => h1 j (by omega)) hF
  | succ n ih =>
    intro i σ1 hi h1 hF
    have hr1 : ∀ k, hR σ1 M0 k = mRef k := fun k => by rw [hF.2.2.2.1]; exact hM.1 k
    have hc1 : hI σ1 M0 2 = nI (aC (tO A)) := (hF.2.1 M0 2 (by simp)).trans hM.2.2.1.2.1
    refine p_iload_n 2 91 rfl rfl dX9_isHeard_90 rfl ?_
    refine p_aload_n 0 92 rfl rfl dX9_isHeard_91 rfl ?_
    refine p_getIE 9 2 95 rfl dX9_isHeard_92 fl_X9_283 rfl rfl hc1 ?_
    refine p_icmp_ge 119 98 rfl rfl dX9_isHeard_95 (fun h95 => absurd h95 (nI_ge (a := i) (b := aC (tO A)) (by omega) (by omega))) (fun h95 => ?_)
    refine p_aload_n 0 99 rfl rfl dX9_isHeard_98 rfl ?_
    refine p_getR 9 53 102 rfl dX9_isHeard_99 fl_X9_87 rfl rfl (show hR _ M0 53 = mSo from hr1 53) (by decide) ?_
    refine p_iload_n 2 103 rfl rfl dX9_isHeard_102 rfl ?_
    refine p_aload_n 0 104 rfl rfl dX9_isHeard_103 rfl ?_
    refine p_getR 9 44 107 rfl dX9_isHeard_104 fl_X9_66 rfl rfl (show hR _ M0 44 = mRo from hr1 44) (by decide) ?_
    refine p_bipush (62) 109 rfl dX9_isHeard_107 rfl ?_
    refine p_iload_n 2 110 rfl rfl dX9_isHeard_109 rfl ?_
    refine p_iadd 111 rfl dX9_isHeard_110 ?_
    rw [ix0 62 i 62 rfl]
    have ei : hA σ1 mRo (62 + i) = nI (vK (daysF (tO A) k W) i) := by rw [hF.2.2.2.2.2 mRo (by decide)]; exact hw1.2.2 i (by omega)
    refine p_ialdE 112 rfl dX9_isHeard_111 (i := 62 + i) rfl (by show _ < 68; omega) ei ?_
    refine p_iastE 113 rfl dX9_isHeard_112 (i := i) rfl (by show i < 6; omega) ?_
    refine p_inc_2 116 rfl dX9_isHeard_113 (1) rfl (Nat.le_of_ble_eq_true rfl) rfl ?_
    refine p_goto 90 rfl dX9_isHeard_116 ?_
    rw [nI_1]
    refine ih (i + 1) _ (by omega) (fun j hj => ?_) (hF.tr (Fr.sA (by simp)))
    rw [sA_s]
    rcases Nat.lt_or_ge j i with w | w
    · rw [pk_un (by omega)]; exact h1 j w
    · rw [show j = i by omega, pk_us]
set_option maxRecDepth 8000 in
theorem l_hr {τ : PH} (hR0 : RM τ A) {W : AW} (hvW : OkV (tO A) W) (hdW : vD W ≤ 1100) : ∀ (n k : Nat) (σ1 : PH) (x2 : Option Value), k + n = 13 → RowM true (hA σ1 mRo) 34 (tO A) (daysF (tO A) k W) → (∀ q, q ∈ (tH A) → q.2.2.1 < k → gdH (tO A) W q = true) → (6 < k → ∀ c, c < aC (tO A) → hA σ1 mSo c = nI (vK (daysF (tO A) 6 W) c)) → FH τ σ1 → Ok Γ 8 0 0 mX9_isHeard 2 [some (.ref M0), some (.int (nI k)), x2] [] σ1 (rX (fun v σ' => v = b2i (allS (tO A) W (tH A)) ∧ (allS (tO A) W (tH A) = true → ∀ c, c < aC (tO A) → hA σ' mSo c = nI (vK (daysF (tO A) 6 W) c)) ∧ FH τ σ')) := by
  have hK := hR0.2.1
  have hO := hK.2.2.1
  have hc6 := hO.2.1
  have hw12 := hO.2.2.1
  have hs9 := hO.1
  have hv := hK.2.2.2.2.1.1
  have hd9 := hK.2.2.2.2.1.2
  have hM := hR0.1
  have hw := hR0.2.2.1
  have hl8 := hK.2.2.2.2.2.2.2.1.1
  intro n
  induction n with
  | zero =>
    intro k σ1 x2 hk hw1 hal hso hF
    have hR1 := hR0.q hF.1
    have hT : allS (tO A) W (tH A) = true := by
      unfold allS; rw [List.all_eq_true]; exact fun q hq => hal q hq (by have := (hK.2.2.2.2.2.2.2.1.2 q hq).2.2; omega)
    refine p_iload_n 1 3 rfl rfl dX9_isHeard_2 rfl ?_
    refine p_bipush (12) 5 rfl dX9_isHeard_3 rfl ?_
    refine p_icmp_gt 131 8 rfl rfl dX9_isHeard_5 (fun h5 => ?_) (fun h5 => absurd (nI_lt (a := 12) (b := k) (by omega) (by omega)) h5)
    refine p_iconst (1) 132 rfl dX9_isHeard_131 rfl ?_
    exact p_zret dX9_isHeard_132 rfl (by decide) ⟨_, rfl, by rw [hT]; rfl, fun _ => hso (by omega), hF⟩
  | succ n ih =>
    intro k σ1 x2 hk hw1 hal hso hF
    have hR1 := hR0.q hF.1
    have hv1 := daysF_ok hO hvW k (by omega)
    refine p_iload_n 1 3 rfl rfl dX9_isHeard_2 rfl ?_
    refine p_bipush (12) 5 rfl dX9_isHeard_3 rfl ?_
    refine p_icmp_gt 131 8 rfl rfl dX9_isHeard_5 (fun h5 => absurd h5 (nI_nlt (a := 12) (b := k) (by omega) (by omega))) (fun h5 => ?_)
    refine p_iconst (0) 9 rfl dX9_isHeard_8 rfl ?_
    refine p_ist_n2 10 rfl rfl dX9_isHeard_9 (Nat.le_of_ble_eq_true rfl) rfl ?_
    refine l_hrI hR1 (by omega) hw1 hv1 (fun hkk x2 => ?_) (fun hex => ?_) (tH A).length 0 (by omega) (fun j q hj => absurd hj (Nat.not_lt_zero _))
    · have hal2 : ∀ q, q ∈ (tH A) → q.2.2.1 < k + 1 → gdH (tO A) W q = true := fun q hq hd => by
        rcases Nat.lt_or_ge q.2.2.1 k with w | w
        · exact hal q hq w
        · obtain ⟨j, hj⟩ := List.getElem?_of_mem hq
          exact hkk j q hj (by omega)
      refine p_iload_n 1 83 rfl rfl dX9_isHeard_82 rfl ?_
      refine p_bipush (6) 85 rfl dX9_isHeard_83 rfl ?_
      refine p_icmp_ne 119 88 rfl rfl dX9_isHeard_85 (fun h85 => ?_) (fun h85 => ?_)
      · have hk6 : ¬ k = 6 := fun e => h85 (by rw [e]; rfl)
        refine p_aload_n 0 120 rfl rfl dX9_isHeard_119 rfl ?_
        refine p_bipush (34) 122 rfl dX9_isHeard_120 rfl ?_
        refine p_cV1v 0 0 125 rfl dX9_isHeard_122 (c_dayGoes hR1.1 hw1 hv1 (by decide)) ml_X9_357 vl_X9_dayGoes rfl (by decide) rfl (Nat.le_of_ble_eq_true rfl) (Nat.le_of_ble_eq_true rfl) (Nat.le_of_ble_eq_true rfl) (Nat.le_of_ble_eq_true rfl) rfl ?_
        intro σ3 hp3
        refine p_inc_1 128 rfl dX9_isHeard_125 (1) rfl (Nat.le_of_ble_eq_true rfl) rfl ?_
        refine p_goto 2 rfl dX9_isHeard_128 ?_
        rw [nI_1]
        refine ih (k + 1) σ3 _ (by omega) hp3.1 hal2 ?_ (hF.tr (FH.b hp3.2))
        intro h7 c hc; rw [hp3.2.1.2.2.2.2.2 mSo (by decide)]; exact hso (by omega) c hc
      · have hk6 : k = 6 := nI_eqI (show nI k = nI 6 from h85) (by omega) (by decide)
        refine p_iconst (0) 89 rfl dX9_isHeard_88 rfl ?_
        refine p_ist_n2 90 rfl rfl dX9_isHeard_89 (Nat.le_of_ble_eq_true rfl) rfl ?_
        refine l_hrS hR1 (by omega) hw1 hv1 (fun σ2 x2 hs2 hF2 => ?_) (aC (tO A)) 0 σ1 (by omega) (fun j hj => absurd hj (Nat.not_lt_zero _)) Fr.rf
        have hR2 := hR1.q (FH.so hF2).1
        have hw2 : RowM true (hA σ2 mRo) 34 (tO A) (daysF (tO A) k W) := by rw [hF2.2.2.2.2.2 mRo (by decide)]; exact hw1
        refine p_aload_n 0 120 rfl rfl dX9_isHeard_119 rfl ?_
        refine p_bipush (34) 122 rfl dX9_isHeard_120 rfl ?_
        refine p_cV1v 0 0 125 rfl dX9_isHeard_122 (c_dayGoes hR2.1 hw2 hv1 (by decide)) ml_X9_357 vl_X9_dayGoes rfl (by decide) rfl (Nat.le_of_ble_eq_true rfl) (Nat.le_of_ble_eq_true rfl) (Nat.le_of_ble_eq_true rfl) (Nat.le_of_ble_eq_true rfl) rfl ?_
        intro σ3 hp3
        refine p_inc_1 128 rfl dX9_isHeard_125 (1) rfl (Nat.le_of_ble_eq_true rfl) rfl ?_
        refine p_goto 2 rfl dX9_isHeard_128 ?_
        rw [nI_1]
        refine ih (k + 1) σ3 _ (by omega) hp3.1 hal2 ?_ ((hF.tr (FH.so hF2)).tr (FH.b hp3.2))
        intro h7 c hc; rw [hp3.2.1.2.2.2.2.2 mSo (by decide)]; rw [← hk6]; exact hs2 c hc
    · obtain ⟨q, hq, hg⟩ := hex
      have hT : allS (tO A) W (tH A) = false := by
        unfold allS
        rw [List.all_eq_false]
        exact ⟨q, hq, by rw [hg]; decide⟩
      exact ⟨_, rfl, by rw [hT]; rfl, fun z => (by rw [hT] at z; cases z), hF⟩
set_option maxRecDepth 4000 in
theorem c_isHeard {τ : PH} (hR0 : RM τ A) {W : AW} (hvW : OkV (tO A) W) (hdW : vD W ≤ 1100) (hw1 : RowM true (hA τ mRo) 34 (tO A) W) : CallOk Γ 8 0 0 mX9_isHeard [.ref M0] τ (rX (fun v σ' => v = b2i (allS (tO A) W (tH A)) ∧ (allS (tO A) W (tH A) = true → ∀ c, c < aC (tO A) → hA σ' mSo c = nI (vK (daysF (tO A) 6 W) c)) ∧ FH τ σ')) := by
  refine p_enter rfl rfl (Nat.le_of_ble_eq_true rfl) rfl ?_
  refine p_iconst (0) 1 rfl dX9_isHeard_0 rfl ?_
  refine p_ist_n1 2 rfl rfl dX9_isHeard_1 (Nat.le_of_ble_eq_true rfl) rfl ?_
  exact l_hr hR0 hvW hdW 13 0 τ _ (by omega) hw1 (fun q _ h => absurd h (Nat.not_lt_zero _)) (fun h => absurd h (by decide)) FH.rf
set_option maxRecDepth 8000 in
theorem c_isGuess {τ : PH} (hR0 : RM τ A) {g : Nat} (hg : g < 9 * aC (tO A)) : CallOk Γ 10 0 0 mX9_isGuess [.ref M0, .int (nI g)] τ (rX (fun v σ' => v = b2i (okP A g) ∧ (okP A g = true → ∀ c, c < aC (tO A) → hA σ' mSo c = nI (ansW A c g)) ∧ FH τ σ')) := by
  have hK := hR0.2.1
  have hO := hK.2.2.1
  have hc6 := hO.2.1
  have hw12 := hO.2.2.1
  have hs9 := hO.1
  have hv := hK.2.2.2.2.1.1
  have hd9 := hK.2.2.2.2.1.2
  have hM := hR0.1
  have hw := hR0.2.2.1
  refine p_enter rfl rfl (Nat.le_of_ble_eq_true rfl) rfl ?_
  refine p_iload_n 1 1 rfl rfl dX9_isGuess_0 rfl ?_
  refine p_bipush (9) 3 rfl dX9_isGuess_1 rfl ?_
  refine p_idiv 4 rfl dX9_isGuess_3 (by decide) ?_
  rw [show nI g / 9 = nI (g / 9) from pk_div (d := 9) (by omega) (by decide) (by decide)]
  refine p_ist_n2 5 rfl rfl dX9_isGuess_4 (Nat.le_of_ble_eq_true rfl) rfl ?_
  refine p_iload_n 1 6 rfl rfl dX9_isGuess_5 rfl ?_
  refine p_bipush (9) 8 rfl dX9_isGuess_6 rfl ?_
  refine p_irem 9 rfl dX9_isGuess_8 (by decide) ?_
  rw [show nI g - nI g / 9 * 9 = nI (g % 9) from pk_rem (d := 9) (by omega) (by decide) (by decide)]
  refine p_ist_n3 10 rfl rfl dX9_isGuess_9 (Nat.le_of_ble_eq_true rfl) rfl ?_
  refine p_iload_n 3 11 rfl rfl dX9_isGuess_10 rfl ?_
  refine p_aload_n 0 12 rfl rfl dX9_isGuess_11 rfl ?_
  refine p_getIE 9 1 15 rfl dX9_isGuess_12 fl_X9_280 rfl rfl hM.2.2.1.1 ?_
  refine p_icmp_ge 43 18 rfl rfl dX9_isGuess_15 (fun h15 => ?_) (fun h15 => ?_)
  · refine p_iconst (0) 44 rfl dX9_isGuess_43 rfl ?_
    exact p_zret dX9_isGuess_44 rfl (by decide) ⟨_, rfl, by rw [show okP A g = false by unfold okP canB; rw [decide_eq_false (show ¬ g % 9 < aS (tO A) from fun z => absurd h15 (nI_ge z (by omega)))]; simp]; rfl, fun z => (by rw [show okP A g = false by unfold okP canB; rw [decide_eq_false (show ¬ g % 9 < aS (tO A) from fun z => absurd h15 (nI_ge z (by omega)))]; simp] at z; cases z), FH.rf⟩
  · have hs : g % 9 < aS (tO A) := (Nat.lt_or_ge (g % 9) (aS (tO A))).elim id (fun z => absurd (nI_le z (by omega)) h15)
    have hp := hvP hv (s := g % 9) (by omega)
    refine p_aload_n 0 19 rfl rfl dX9_isGuess_18 rfl ?_
    refine p_iconst (0) 20 rfl dX9_isGuess_19 rfl ?_
    refine p_iload_n 3 21 rfl rfl dX9_isGuess_20 rfl ?_
    refine p_cV2i 24 rfl dX9_isGuess_21 (c_isBurnt hM hw hv (by decide) hs) ml_X9_319 vl_X9_isBurnt rfl (by decide) rfl (Nat.le_of_ble_eq_true rfl) (Nat.le_of_ble_eq_true rfl) rfl ?_
    refine p_if_ne 43 27 rfl rfl dX9_isGuess_24 (fun h24 => ?_) (fun h24 => ?_)
    · have hb : (vP (tV A) (g % 9) == 0) = true := by simpa only [b2i_eq0, b2i_1, Decidable.not_not, Bool.not_eq_true, Bool.not_eq_false] using h24
      have hno : okP A g = false := by unfold okP canB; rw [show (vP (tV A) (g % 9) != 0) = false by simpa using hb]; simp
      refine p_iconst (0) 44 rfl dX9_isGuess_43 rfl ?_
      exact p_zret dX9_isGuess_44 rfl (by decide) ⟨_, rfl, by rw [hno]; rfl, fun z => (by rw [hno] at z; cases z), FH.rf⟩
    · refine p_aload_n 0 28 rfl rfl dX9_isGuess_27 rfl ?_
      refine p_getR 9 44 31 rfl dX9_isGuess_28 fl_X9_66 rfl rfl (show hR _ M0 44 = mRo from hM.1 44) (by decide) ?_
      refine p_bipush (19) 33 rfl dX9_isGuess_31 rfl ?_
      refine p_iload_n 3 34 rfl rfl dX9_isGuess_33 rfl ?_
      refine p_iadd 35 rfl dX9_isGuess_34 ?_
      rw [ix0 19 (g % 9) 19 rfl]
      refine p_ialdE 36 rfl dX9_isGuess_35 (i := 19 + g % 9) rfl (by show _ < 68; omega) (at0 hw hs) ?_
      refine p_bipush (10) 38 rfl dX9_isGuess_36 rfl ?_
      refine p_iload_n 2 39 rfl rfl dX9_isGuess_38 rfl ?_
      refine p_iadd 40 rfl dX9_isGuess_39 ?_
      rw [ix0 10 (g / 9) 10 rfl]
      refine p_icmp_ne 45 43 rfl rfl dX9_isGuess_40 (fun h40 => ?_) (fun h40 => ?_)
      · have hb : (vP (tV A) (g % 9) == 0) = false := by simpa only [b2i_eq0, b2i_1, Bool.not_eq_true, Decidable.not_not] using h24
        have hpp : ¬ vP (tV A) (g % 9) = g / 9 + 5 := fun z => h40 ((atI_hand hp (by omega)).mpr z)
        have hcan : canB A g = true := by
          unfold canB
          rw [decide_eq_true (show g / 9 < aC (tO A) by omega), decide_eq_true hs, show (vP (tV A) (g % 9) != 0) = true by simpa using hb, show (vP (tV A) (g % 9) != g / 9 + 5) = true by simpa using hpp]; rfl
        have hokp : okP A g = allS (tO A) (borW A g) (tH A) := by unfold okP; rw [hcan]; rfl
        have hub := OkU.pl (s := g % 9) (q := g / 9 + 5) ⟨hv, hd9⟩ (by omega) (by omega)
        refine p_aload_n 0 46 rfl rfl dX9_isGuess_45 rfl ?_
        refine p_cV0v 0 0 49 rfl dX9_isGuess_46 (c_tries hM hw) ml_X9_420 vl_X9_tries rfl (by decide) rfl (Nat.le_of_ble_eq_true rfl) (Nat.le_of_ble_eq_true rfl) (Nat.le_of_ble_eq_true rfl) (Nat.le_of_ble_eq_true rfl) rfl ?_
        intro τ1 hp1
        have hM1 := hM.frB hp1.2
        have hR1 := hR0.q (FQ.b hp1.2)
        refine p_aload_n 0 50 rfl rfl dX9_isGuess_49 rfl ?_
        refine p_getR 9 44 53 rfl dX9_isGuess_50 fl_X9_66 rfl rfl (show hR _ M0 44 = mRo from hM1.1 44) (by decide) ?_
        refine p_bipush (53) 55 rfl dX9_isGuess_53 rfl ?_
        refine p_iload_n 3 56 rfl rfl dX9_isGuess_55 rfl ?_
        refine p_iadd 57 rfl dX9_isGuess_56 ?_
        rw [ix0 53 (g % 9) 53 rfl]
        refine p_bipush (10) 59 rfl dX9_isGuess_57 rfl ?_
        refine p_iload_n 2 60 rfl rfl dX9_isGuess_59 rfl ?_
        refine p_iadd 61 rfl dX9_isGuess_60 ?_
        rw [ix0 10 (g / 9) 10 rfl]
        refine p_iastE 62 rfl dX9_isGuess_61 (i := 53 + g % 9) rfl (by show _ < 68; omega) ?_
        have hR2 : RM (sA τ1 mRo (53 + g % 9) (nI (10 + g / 9))) A := hR1.q (FQ.b (FrB.row (by omega)))
        have hw2 : RowM true (hA (sA τ1 mRo (53 + g % 9) (nI (10 + g / 9))) mRo) 34 (tO A) (borW A g) := by
          rw [sA_s, ← atI_c, show 53 + g % 9 = 34 + 19 + g % 9 by omega]; exact hp1.1.pl (by omega) hs9 (Or.inl rfl)
        refine p_aload_n 0 63 rfl rfl dX9_isGuess_62 rfl ?_
        refine p_cV0x 0 0 66 rfl dX9_isGuess_63 (c_isHeard hR2 hub.1 (show vD (tV A) ≤ 1100 by omega) hw2) ml_X9_438 vl_X9_isHeard rfl (by decide) rfl (Nat.le_of_ble_eq_true rfl) (Nat.le_of_ble_eq_true rfl) (Nat.le_of_ble_eq_true rfl) (Nat.le_of_ble_eq_true rfl) rfl ?_
        rintro v τ3 ⟨e5, e6, e7⟩
        exact p_zret dX9_isGuess_66 rfl (nz_v e5) ⟨_, rfl, by rw [e5, hokp]; rfl, fun z c hc => by rw [hokp] at z; exact e6 z c hc, (FH.b hp1.2).tr ((FH.b (FrB.row (by omega))).tr e7)⟩
      · have hpp := (atI_hand hp (by omega)).mp h40
        have hno : okP A g = false := by unfold okP canB; rw [show (vP (tV A) (g % 9) != g / 9 + 5) = false by simpa using hpp]; simp
        refine p_iconst (0) 44 rfl dX9_isGuess_43 rfl ?_
        exact p_zret dX9_isGuess_44 rfl (by decide) ⟨_, rfl, by rw [hno]; rfl, fun z => (by rw [hno] at z; cases z), FH.rf⟩
theorem prL_cut (hc6 : aC (tO A) ≤ 6) : prL (okP A) 54 = prL (okP A) (9 * aC (tO A)) := by
  have : ∀ k, 9 * aC (tO A) + k ≤ 54 → prL (okP A) (9 * aC (tO A) + k) = prL (okP A) (9 * aC (tO A)) := by
    intro k
    induction k with
    | zero => intro _; rfl
    | succ k ih =>
      intro hk
      have hn : okP A (9 * aC (tO A) + k) = false := by unfold okP canB; rw [decide_eq_false (by omega)]; rfl
      show (if okP A (9 * aC (tO A) + k) = true then _ else prL (okP A) (9 * aC (tO A) + k)) = _
      rw [if_neg (by rw [hn]; decide)]; exact ih (by omega)
  have := this (54 - 9 * aC (tO A)) (by omega)
  rwa [show 9 * aC (tO A) + (54 - 9 * aC (tO A)) = 54 by omega] at this
theorem m9 (m : Nat) : (9 : Int32) * nI m = nI (9 * m) := nI_mu 9 m
set_option maxRecDepth 4000 in
theorem l_mBorne (hK : OkT A) {w : Nat} (hw3 : w < 3) : ∀ (n i : Nat) (σ1 : PH), i + n = 9 * aC (tO A) → RM σ1 A → hI σ1 M0 0 = 0 → ChM σ σ1 → Ok Γ 11 0 0 mX9_borne 45 [some (.ref M0), some (.int (nI w)), some (.int (nI (prL (okP A) i).length)), some (.int (fstI (prL (okP A) i))), some (.int (nI i))] [] σ1 (rM (0, if w = 0 then nI (prL (okP A) 54).length else fstI (prL (okP A) 54)) (fun σ' => RM σ' A ∧ ChM σ σ')) := by
  have hO := hK.2.2.1
  have hc6 := hO.2.1
  have hw12 := hO.2.2.1
  have hs9 := hO.1
  have hv := hK.2.2.2.2.1.1
  have hd9 := hK.2.2.2.2.1.2
  intro n
  induction n with
  | zero =>
    intro i σ1 hi hR1 h01 hc1
    have hM1 := hR1.1
    refine p_iload 4 47 rfl dX9_borne_45 rfl ?_
    refine p_bipush (9) 49 rfl dX9_borne_47 rfl ?_
    refine p_aload_n 0 50 rfl rfl dX9_borne_49 rfl ?_
    refine p_getIE 9 2 53 rfl dX9_borne_50 fl_X9_283 rfl rfl hM1.2.2.1.2.1 ?_
    refine p_imul 54 rfl dX9_borne_53 ?_
    rw [m9]
    refine p_icmp_ge 98 57 rfl rfl dX9_borne_54 (fun h54 => ?_) (fun h54 => absurd (nI_le (a := 9 * aC (tO A)) (b := i) (by omega) (by omega)) h54)
    refine p_iload_n 1 99 rfl rfl dX9_borne_98 rfl ?_
    refine p_if_ne 106 102 rfl rfl dX9_borne_99 (fun h99 => ?_) (fun h99 => ?_)
    · refine p_iload_n 3 107 rfl rfl dX9_borne_106 rfl ?_
      exact p_iret dX9_borne_107 rfl ⟨_, rfl, h01, fun _ => by rw [if_neg (fun e : w = 0 => h99 (by rw [e]; rfl)), prL_cut hc6, show i = 9 * aC (tO A) by omega], hR1, hc1⟩
    · refine p_iload_n 2 103 rfl rfl dX9_borne_102 rfl ?_
      refine p_goto 107 rfl dX9_borne_103 ?_
      exact p_iret dX9_borne_107 rfl ⟨_, rfl, h01, fun _ => by rw [if_pos (nI_eqI (show nI w = nI 0 from h99) (by omega) (by decide)), prL_cut hc6, show i = 9 * aC (tO A) by omega], hR1, hc1⟩
  | succ n ih =>
    intro i σ1 hi hR1 h01 hc1
    have hM1 := hR1.1
    refine p_iload 4 47 rfl dX9_borne_45 rfl ?_
    refine p_bipush (9) 49 rfl dX9_borne_47 rfl ?_
    refine p_aload_n 0 50 rfl rfl dX9_borne_49 rfl ?_
    refine p_getIE 9 2 53 rfl dX9_borne_50 fl_X9_283 rfl rfl hM1.2.2.1.2.1 ?_
    refine p_imul 54 rfl dX9_borne_53 ?_
    rw [m9]
    refine p_icmp_ge 98 57 rfl rfl dX9_borne_54 (fun h54 => absurd h54 (nI_ge (a := i) (b := 9 * aC (tO A)) (by omega) (by omega))) (fun h54 => ?_)
    refine p_aload_n 0 58 rfl rfl dX9_borne_57 rfl ?_
    refine p_iload 4 60 rfl dX9_borne_58 rfl ?_
    refine p_cV1x 0 0 63 rfl dX9_borne_60 (c_isGuess hR1 (by omega)) ml_X9_441 vl_X9_isGuess rfl (by decide) rfl (Nat.le_of_ble_eq_true rfl) (Nat.le_of_ble_eq_true rfl) (Nat.le_of_ble_eq_true rfl) (Nat.le_of_ble_eq_true rfl) rfl ?_
    rintro v σ2 ⟨e1, e2, e3⟩
    subst e1
    have hR2 := hR1.q e3.1
    have h02 : hI σ2 M0 0 = 0 := e3.2.1.trans h01
    have hc2 := hc1.tr e3.1.ch
    refine p_if_ne 69 66 rfl rfl dX9_borne_63 (fun h63 => ?_) (fun h63 => ?_)
    · refine p_inc_2 72 rfl dX9_borne_69 (1) rfl (Nat.le_of_ble_eq_true rfl) rfl ?_
      refine p_iload_n 3 73 rfl rfl dX9_borne_72 rfl ?_
      refine p_iconst (-1) 74 rfl dX9_borne_73 rfl ?_
      refine p_icmp_ne 92 77 rfl rfl dX9_borne_74 (fun h74 => ?_) (fun h74 => ?_)
      · refine p_inc_4 95 rfl dX9_borne_92 (1) rfl (Nat.le_of_ble_eq_true rfl) rfl ?_
        refine p_goto 45 rfl dX9_borne_95 ?_
        have hb : okP A i = true := by simpa only [b2i_eq0, b2i_1, Decidable.not_not, Bool.not_eq_true, Bool.not_eq_false] using h63
        have e : prL (okP A) (i + 1) = prL (okP A) i ++ [i] := by simp [prL, hb]
        have this := ih (i + 1) σ2 (by omega) hR2 h02 hc2
        rw [e] at this
        rw [show (prL (okP A) i ++ [i]).length = (prL (okP A) i).length + 1 by simp] at this
        have hne : prL (okP A) i ≠ [] := fun z => h74 (by rw [z]; rfl)
        have e4 : fstI (prL (okP A) i ++ [i]) = fstI (prL (okP A) i) := by
          cases hl : prL (okP A) i with
          | nil => exact absurd hl hne
          | cons a l => rfl
        rw [e4] at this
        rw [nI_1, nI_1]
        exact this
      · refine p_iload 4 79 rfl dX9_borne_77 rfl ?_
        refine p_bipush (9) 81 rfl dX9_borne_79 rfl ?_
        refine p_idiv 82 rfl dX9_borne_81 (by decide) ?_
        rw [show nI i / 9 = nI (i / 9) from pk_div (d := 9) (by omega) (by decide) (by decide)]
        refine p_bipush (10) 84 rfl dX9_borne_82 rfl ?_
        refine p_imul 85 rfl dX9_borne_84 ?_
        rw [show nI (i / 9) * 10 = nI (i / 9 * 10) from nI_mu _ 10]
        refine p_iload 4 87 rfl dX9_borne_85 rfl ?_
        refine p_bipush (9) 89 rfl dX9_borne_87 rfl ?_
        refine p_irem 90 rfl dX9_borne_89 (by decide) ?_
        rw [show nI i - nI i / 9 * 9 = nI (i % 9) from pk_rem (d := 9) (by omega) (by decide) (by decide)]
        refine p_iadd 91 rfl dX9_borne_90 ?_
        rw [nI_add]
        refine p_ist_n3 92 rfl rfl dX9_borne_91 (Nat.le_of_ble_eq_true rfl) rfl ?_
        refine p_inc_4 95 rfl dX9_borne_92 (1) rfl (Nat.le_of_ble_eq_true rfl) rfl ?_
        refine p_goto 45 rfl dX9_borne_95 ?_
        have hb : okP A i = true := by simpa only [b2i_eq0, b2i_1, Decidable.not_not, Bool.not_eq_true, Bool.not_eq_false] using h63
        have e : prL (okP A) (i + 1) = prL (okP A) i ++ [i] := by simp [prL, hb]
        have this := ih (i + 1) σ2 (by omega) hR2 h02 hc2
        rw [e] at this
        rw [show (prL (okP A) i ++ [i]).length = (prL (okP A) i).length + 1 by simp] at this
        have hne : prL (okP A) i = [] := by
          cases hl : prL (okP A) i with
          | nil => rfl
          | cons a l =>
            have h1 := prL_mem (okP A) i a (by rw [hl]; simp)
            rw [hl] at h74
            exact absurd h74 (nI_m1 (by omega))
        have e4 : fstI (prL (okP A) i ++ [i]) = nI (i / 9 * 10 + i % 9) := by rw [hne]; rfl
        rw [e4] at this
        rw [nI_1, nI_1]
        exact this
    · refine p_goto 92 rfl dX9_borne_66 ?_
      refine p_inc_4 95 rfl dX9_borne_92 (1) rfl (Nat.le_of_ble_eq_true rfl) rfl ?_
      refine p_goto 45 rfl dX9_borne_95 ?_
      have hb : okP A i = false := by simpa only [b2i_eq0, b2i_1, Bool.not_eq_true, Decidable.not_not] using h63
      have e : prL (okP A) (i + 1) = prL (okP A) i := by simp [prL, hb]
      rw [nI_1, ← e]
      exact ih (i + 1) σ2 (by omega) hR2 h02 hc2
set_option maxRecDepth 8000 in
theorem q_borne (hRM : RM σ A) (x : Int32) : CallOk Γ 12 0 0 mX9_borne [.ref M0, .int x] σ (rM (fBorne A x) (fun σ' => RM σ' A ∧ ChM σ σ')) := by
  have hK := hRM.2.1
  have hO := hK.2.2.1
  have hs9 := hO.1
  have hc6 := hO.2.1
  have hw12 := hO.2.2.1
  have hk8 := hO.2.2.2.1
  have hv := hK.2.2.2.2.1.1
  have hd9 := hK.2.2.2.2.1.2
  refine p_enter rfl rfl (Nat.le_of_ble_eq_true rfl) rfl ?_
  refine p_aload_n 0 1 rfl rfl dX9_borne_0 rfl ?_
  refine p_iconst (0) 2 rfl dX9_borne_1 rfl ?_
  refine p_putI 9 0 5 rfl dX9_borne_2 fl_X9_102 rfl rfl (Or.inl rfl) ?_
  have hQ : FQ σ (sI σ M0 0 0) := FQ.th
  have hR0 := hRM.q hQ
  have h0 : hI (sI σ M0 0 0) M0 0 = 0 := hI_sI _ _ _ _
  generalize sI σ M0 0 0 = τ at hQ hR0 h0 ⊢
  have hM := hR0.1
  have hw := hR0.2.2.1
  refine p_aload_n 0 6 rfl rfl dX9_borne_5 rfl ?_
  refine p_iload_n 1 7 rfl rfl dX9_borne_6 rfl ?_
  refine p_iconst (2) 8 rfl dX9_borne_7 rfl ?_
  refine p_cV2x 0 0 11 rfl dX9_borne_8 (c_isWhat (n := 2) h0 _ (by decide)) ml_X9_381 vl_X9_isWhat rfl (by decide) rfl (Nat.le_of_ble_eq_true rfl) (Nat.le_of_ble_eq_true rfl) (Nat.le_of_ble_eq_true rfl) (Nat.le_of_ble_eq_true rfl) rfl ?_
  intro v0 τ0 hp0
  obtain ⟨hv0, ht0, hf0⟩ := hp0
  subst hv0
  refine p_if_ne 16 14 rfl rfl dX9_borne_11 (fun h11 => ?_) (fun h11 => ?_)
  · have hb0 : inR x 3 = true := by simpa only [b2i_eq0, Decidable.not_not, Bool.not_eq_true, Bool.not_eq_false] using h11
    have ee0 := ht0 hb0
    subst ee0
    obtain ⟨q, rfl, hq⟩ := asN hb0 (by omega)
    have hqL : q < 2147483648 := by omega
    refine p_iload_n 1 17 rfl rfl dX9_borne_16 rfl ?_
    refine p_iconst (2) 18 rfl dX9_borne_17 rfl ?_
    refine p_icmp_ne 38 21 rfl rfl dX9_borne_18 (fun h18 => ?_) (fun h18 => ?_)
    · refine p_iconst (0) 39 rfl dX9_borne_38 rfl ?_
      refine p_ist_n2 40 rfl rfl dX9_borne_39 (Nat.le_of_ble_eq_true rfl) rfl ?_
      refine p_iconst (-1) 41 rfl dX9_borne_40 rfl ?_
      refine p_ist_n3 42 rfl rfl dX9_borne_41 (Nat.le_of_ble_eq_true rfl) rfl ?_
      refine p_iconst (0) 43 rfl dX9_borne_42 rfl ?_
      refine p_ist_4 45 rfl dX9_borne_43 (Nat.le_of_ble_eq_true rfl) rfl ?_
      have hq2 : ¬ q = 2 := fun e => h18 (by rw [e]; rfl)
      have e : fBorne A (nI q) = (0, if q = 0 then nI (prL (okP A) 54).length else fstI (prL (okP A) 54)) := by rw [fBorne, gd_t hb0, iN_nI hqL, if_neg hq2]
      rw [e]
      exact Ok.sub (l_mBorne hK hq (9 * aC (tO A)) 0 _ (by omega) hR0 h0 hQ.ch) (by decide) (by decide) (by decide)
    · have hq2 : q = 2 := nI_eqI (show nI q = nI 2 from h18) (by omega) (by decide)
      refine p_aload_n 0 22 rfl rfl dX9_borne_21 rfl ?_
      refine p_cV0v 0 0 25 rfl dX9_borne_22 (c_tries hM hw) ml_X9_420 vl_X9_tries rfl (by decide) rfl (Nat.le_of_ble_eq_true rfl) (Nat.le_of_ble_eq_true rfl) (Nat.le_of_ble_eq_true rfl) (Nat.le_of_ble_eq_true rfl) rfl ?_
      intro σ1 hp1
      have hR1 := hR0.q (FQ.b hp1.2)
      have h01 : hI σ1 M0 0 = 0 := (hp1.2.1.2.1 M0 0 (by simp)).trans h0
      refine p_aload_n 0 26 rfl rfl dX9_borne_25 rfl ?_
      refine p_cV0x 0 0 29 rfl dX9_borne_26 (c_isHeard hR1 hv (show vD (tV A) ≤ 1100 by omega) hp1.1) ml_X9_438 vl_X9_isHeard rfl (by decide) rfl (Nat.le_of_ble_eq_true rfl) (Nat.le_of_ble_eq_true rfl) (Nat.le_of_ble_eq_true rfl) (Nat.le_of_ble_eq_true rfl) rfl ?_
      rintro v σ2 ⟨e1, e2, e3⟩
      subst e1
      refine p_if_eq 36 32 rfl rfl dX9_borne_29 (fun h29 => ?_) (fun h29 => ?_)
      · refine p_iconst (0) 37 rfl dX9_borne_36 rfl ?_
        exact p_iret dX9_borne_37 rfl ⟨_, rfl, by rw [fBorne, gd_t hb0]; exact e3.2.1.trans h01, fun _ => by have hbb : allS (tO A) (tV A) (tH A) = false := b2i_f h29; rw [fBorne, gd_t hb0, iN_nI hqL, if_pos hq2, hbb]; rfl, hR1.q e3.1, (hQ.tr (FQ.b hp1.2)).ch.tr e3.1.ch⟩
      · refine p_iconst (1) 33 rfl dX9_borne_32 rfl ?_
        refine p_goto 37 rfl dX9_borne_33 ?_
        exact p_iret dX9_borne_37 rfl ⟨_, rfl, by rw [fBorne, gd_t hb0]; exact e3.2.1.trans h01, fun _ => by have hbb : allS (tO A) (tV A) (tH A) = true := b2i_t h29; rw [fBorne, gd_t hb0, iN_nI hqL, if_pos hq2, hbb]; rfl, hR1.q e3.1, (hQ.tr (FQ.b hp1.2)).ch.tr e3.1.ch⟩
  · have hb0 : inR x 3 = false := by simpa only [b2i_eq0, Bool.not_eq_true, Decidable.not_not] using h11
    have ee0 := hf0 hb0
    subst ee0
    refine p_iconst (0) 15 rfl dX9_borne_14 rfl ?_
    exact p_iret dX9_borne_15 rfl ⟨_, rfl, by rw [fBorne, gd_f hb0]; exact hI_sI _ _ _ _, fun q => absurd q (by rw [fBorne, gd_f hb0]; decide), (hRM.q hQ).q FQ.th, (hQ.tr FQ.th).ch⟩
def ANM (σ : PH) (A : AT) (l : List Nat) : Prop := ∀ k, k < l.length → ∀ c, c < aC (tO A) → hA σ mSa (6 * k + c) = nI (ansW A c (l.getD k 0))
theorem gD_l {l : List Nat} {i k : Nat} (h : k < l.length) : (l ++ [i]).getD k 0 = l.getD k 0 := by rw [List.getD_eq_getElem?_getD, List.getD_eq_getElem?_getD, List.getElem?_append_left h]
theorem gD_r {l : List Nat} {i : Nat} : (l ++ [i]).getD l.length 0 = i := by rw [List.getD_eq_getElem?_getD, List.getElem?_append_right (Nat.le_refl _), Nat.sub_self]; rfl
theorem m6 (m : Nat) : (6 : Int32) * nI m = nI (6 * m) := nI_mu 6 m
theorem FQ.sa {σ σ' : PH} (h : Fr [] [mSa] σ σ') : FQ σ σ' := ⟨h.1, h.2.2.2.2.1, h.2.2.2.1, fun r k _ => h.2.1 r k (by simp), fun r q => h.2.2.2.2.2 r (fun z => q (by simp only [List.mem_cons, List.not_mem_nil, or_false] at z; simp [z])), fun k _ => by rw [h.2.2.2.2.2 mRo (by decide)], by rw [h.2.2.2.2.2 mCo (by decide)]⟩
set_option maxRecDepth 4000 in
theorem l_askC {τ : PH} (hR0 : RM τ A) {w m g : Nat} {x5 x6 x7 x8 x9 : Option Value} {f : Nat → Nat} (hm : m < 54) (hso : ∀ j, j < aC (tO A) → hA τ mSo j = nI (f j)) {Q : PO → PH → Prop} (kk : ∀ σ2 x4, (∀ j, j < aC (tO A) → hA σ2 mSa (6 * m + j) = nI (f j)) → (∀ j, j < 6 * m → hA σ2 mSa j = hA τ mSa j) → Fr [] [mSa] τ σ2 → Ok Γ 11 0 0 mX9_ask 79 [some (.ref M0), some (.int (nI w)), some (.int (nI m)), some (.int (nI g)), x4, x5, x6, x7, x8, x9] [] σ2 Q) : ∀ (n i : Nat) (σ1 : PH), i + n = aC (tO A) → (∀ j, j < i → hA σ1 mSa (6 * m + j) = nI (f j)) → (∀ j, j < 6 * m → hA σ1 mSa j = hA τ mSa j) → Fr [] [mSa] τ σ1 → Ok Γ 11 0 0 mX9_ask 45 [some (.ref M0), some (.int (nI w)), some (.int (nI m)), some (.int (nI g)), some (.int (nI i)), x5, x6, x7, x8, x9] [] σ1 Q := by
  have hK := hR0.2.1
  have hO := hK.2.2.1
  have hc6 := hO.2.1
  have hw12 := hO.2.2.1
  have hs9 := hO.1
  have hv := hK.2.2.2.2.1.1
  have hd9 := hK.2.2.2.2.1.2
  have hM := hR0.1
  have hw := hR0.2.2.1
  intro n
  induction n with
  | zero =>
    intro i σ1 hi h1 h2 hF
    have hr1 : ∀ k, hR σ1 M0 k = mRef k := fun k => by rw [hF.2.2.2.1]; exact hM.1 k
    have hc1 : hI σ1 M0 2 = nI (aC (tO A)) := (hF.2.1 M0 2 (by simp)).trans hM.2.2.1.2.1
    refine p_iload 4 47 rfl dX9_ask_45 rfl ?_
    refine p_aload_n 0 48 rfl rfl dX9_ask_47 rfl ?_
    refine p_getIE 9 2 51 rfl dX9_ask_48 fl_X9_283 rfl rfl hc1 ?_
    refine p_icmp_ge 79 54 rfl rfl dX9_ask_51 (fun h51 => ?_) (fun h51 => absurd (nI_le (a := aC (tO A)) (b := i) (by omega) (by omega)) h51)
    exact kk σ1 _ (fun j hj => h1 j (by omega)) h2 hF
  | succ n ih =>
    intro i σ1 hi h1 h2 hF
    have hr1 : ∀ k, hR σ1 M0 k = mRef k := fun k => by rw [hF.2.2.2.1]; exact hM.1 k
    have hc1 : hI σ1 M0 2 = nI (aC (tO A)) := (hF.2.1 M0 2 (by simp)).trans hM.2.2.1.2.1
    refine p_iload 4 47 rfl dX9_ask_45 rfl ?_
    refine p_aload_n 0 48 rfl rfl dX9_ask_47 rfl ?_
    refine p_getIE 9 2 51 rfl dX9_ask_48 fl_X9_283 rfl rfl hc1 ?_
    refine p_icmp_ge 79 54 rfl rfl dX9_ask_51 (fun h51 => absurd h51 (nI_ge (a := i) (b := aC (tO A)) (by omega) (by omega))) (fun h51 => ?_)
    refine p_aload_n 0 55 rfl rfl dX9_ask_54 rfl ?_
    refine p_getR 9 54 58 rfl dX9_ask_55 fl_X9_90 rfl rfl (show hR _ M0 54 = mSa from hr1 54) (by decide) ?_
    refine p_bipush (6) 60 rfl dX9_ask_58 rfl ?_
    refine p_iload_n 2 61 rfl rfl dX9_ask_60 rfl ?_
    refine p_imul 62 rfl dX9_ask_61 ?_
    refine p_iload 4 64 rfl dX9_ask_62 rfl ?_
    rw [m6]
    refine p_iadd 65 rfl dX9_ask_64 ?_
    rw [nI_add]
    refine p_aload_n 0 66 rfl rfl dX9_ask_65 rfl ?_
    refine p_getR 9 53 69 rfl dX9_ask_66 fl_X9_87 rfl rfl (show hR _ M0 53 = mSo from hr1 53) (by decide) ?_
    refine p_iload 4 71 rfl dX9_ask_69 rfl ?_
    have ei : hA σ1 mSo i = nI (f i) := by rw [hF.2.2.2.2.2 mSo (by decide)]; exact hso i (by omega)
    refine p_ialdE 72 rfl dX9_ask_71 (i := i) rfl (by show i < 6; omega) ei ?_
    refine p_iastE 73 rfl dX9_ask_72 (i := 6 * m + i) rfl (by show _ < 324; omega) ?_
    refine p_inc_4 76 rfl dX9_ask_73 (1) rfl (Nat.le_of_ble_eq_true rfl) rfl ?_
    refine p_goto 45 rfl dX9_ask_76 ?_
    rw [nI_1]
    refine ih (i + 1) _ (by omega) (fun j hj => ?_) (fun j hj => ?_) (hF.tr (Fr.sA (by simp)))
    · rw [sA_s]
      rcases Nat.lt_or_ge j i with w | w
      · rw [pk_un (by omega)]; exact h1 j w
      · rw [show j = i by omega, pk_us]
    · rw [sA_s, pk_un (by omega)]; exact h2 j hj
set_option maxRecDepth 8000 in
theorem l_askG (hK : OkT A) {w : Nat} {x5 x6 x7 x8 x9 : Option Value} {Q : PO → PH → Prop} (kk : ∀ σ2 x4, RM σ2 A → hI σ2 M0 0 = 0 → ChM σ σ2 → ANM σ2 A (prL (okP A) 54) → Ok Γ 11 0 0 mX9_ask 88 [some (.ref M0), some (.int (nI w)), some (.int (nI (prL (okP A) 54).length)), some (.int (nI (9 * aC (tO A)))), x4, x5, x6, x7, x8, x9] [] σ2 Q) : ∀ (n i : Nat) (σ1 : PH) (x4 : Option Value), i + n = 9 * aC (tO A) → RM σ1 A → hI σ1 M0 0 = 0 → ChM σ σ1 → ANM σ1 A (prL (okP A) i) → Ok Γ 11 0 0 mX9_ask 20 [some (.ref M0), some (.int (nI w)), some (.int (nI (prL (okP A) i).length)), some (.int (nI i)), x4, x5, x6, x7, x8, x9] [] σ1 Q := by
  have hO := hK.2.2.1
  have hc6 := hO.2.1
  have hw12 := hO.2.2.1
  have hs9 := hO.1
  have hv := hK.2.2.2.2.1.1
  have hd9 := hK.2.2.2.2.1.2
  intro n
  induction n with
  | zero =>
    intro i σ1 x4 hi hR1 h01 hc1 han
    have hM1 := hR1.1
    refine p_iload_n 3 21 rfl rfl dX9_ask_20 rfl ?_
    refine p_bipush (9) 23 rfl dX9_ask_21 rfl ?_
    refine p_aload_n 0 24 rfl rfl dX9_ask_23 rfl ?_
    refine p_getIE 9 2 27 rfl dX9_ask_24 fl_X9_283 rfl rfl hM1.2.2.1.2.1 ?_
    refine p_imul 28 rfl dX9_ask_27 ?_
    rw [m9]
    refine p_icmp_ge 88 31 rfl rfl dX9_ask_28 (fun h28 => ?_) (fun h28 => absurd (nI_le (a := 9 * aC (tO A)) (b := i) (by omega) (by omega)) h28)
    have hii : i = 9 * aC (tO A) := by omega
    subst hii
    rw [← prL_cut hc6] at han ⊢
    exact kk σ1 _ hR1 h01 hc1 han
  | succ n ih =>
    intro i σ1 x4 hi hR1 h01 hc1 han
    have hM1 := hR1.1
    refine p_iload_n 3 21 rfl rfl dX9_ask_20 rfl ?_
    refine p_bipush (9) 23 rfl dX9_ask_21 rfl ?_
    refine p_aload_n 0 24 rfl rfl dX9_ask_23 rfl ?_
    refine p_getIE 9 2 27 rfl dX9_ask_24 fl_X9_283 rfl rfl hM1.2.2.1.2.1 ?_
    refine p_imul 28 rfl dX9_ask_27 ?_
    rw [m9]
    refine p_icmp_ge 88 31 rfl rfl dX9_ask_28 (fun h28 => absurd h28 (nI_ge (a := i) (b := 9 * aC (tO A)) (by omega) (by omega))) (fun h28 => ?_)
    refine p_aload_n 0 32 rfl rfl dX9_ask_31 rfl ?_
    refine p_iload_n 3 33 rfl rfl dX9_ask_32 rfl ?_
    refine p_cV1x 0 0 36 rfl dX9_ask_33 (c_isGuess hR1 (by omega)) ml_X9_441 vl_X9_isGuess rfl (by decide) rfl (Nat.le_of_ble_eq_true rfl) (Nat.le_of_ble_eq_true rfl) (Nat.le_of_ble_eq_true rfl) (Nat.le_of_ble_eq_true rfl) rfl ?_
    rintro v σ2 ⟨e1, e2, e3⟩
    subst e1
    have hR2 := hR1.q e3.1
    have h02 : hI σ2 M0 0 = 0 := e3.2.1.trans h01
    have hc2 := hc1.tr e3.1.ch
    refine p_if_ne 42 39 rfl rfl dX9_ask_36 (fun h36 => ?_) (fun h36 => ?_)
    · refine p_iconst (0) 43 rfl dX9_ask_42 rfl ?_
      refine p_ist_4 45 rfl dX9_ask_43 (Nat.le_of_ble_eq_true rfl) rfl ?_
      have hb : okP A i = true := by simpa only [b2i_eq0, b2i_1, Decidable.not_not, Bool.not_eq_true, Bool.not_eq_false] using h36
      have e : prL (okP A) (i + 1) = prL (okP A) i ++ [i] := by simp [prL, hb]
      have hpl := prL_len (okP A) i
      refine l_askC hR2 (f := fun c => ansW A c i) (by omega) (e2 hb) (fun σ3 x4 h4 h5 hF3 => ?_) (aC (tO A)) 0 σ2 (by omega) (fun j hj => absurd hj (Nat.not_lt_zero _)) (fun j hj => rfl) Fr.rf
      refine p_inc_2 82 rfl dX9_ask_79 (1) rfl (Nat.le_of_ble_eq_true rfl) rfl ?_
      refine p_inc_3 85 rfl dX9_ask_82 (1) rfl (Nat.le_of_ble_eq_true rfl) rfl ?_
      refine p_goto 20 rfl dX9_ask_85 ?_
      have hR3 := hR2.q (FQ.sa hF3)
      have this := ih (i + 1) σ3 x4 (by omega) hR3 ((hF3.2.1 M0 0 (by simp)).trans h02) (hc2.tr (FQ.sa hF3).ch) ?_
      · rw [e, show (prL (okP A) i ++ [i]).length = (prL (okP A) i).length + 1 by simp] at this
        rw [nI_1, nI_1]
        exact this
      rw [e]
      intro k hk c hc
      rcases Nat.lt_or_ge k (prL (okP A) i).length with z | z
      · rw [h5 _ (by omega), e3.2.2, gD_l z]; exact han k z c hc
      · have hk2 : k = (prL (okP A) i).length := by simp at hk; omega
        rw [hk2, h4 c hc, gD_r]
    · refine p_goto 82 rfl dX9_ask_39 ?_
      refine p_inc_3 85 rfl dX9_ask_82 (1) rfl (Nat.le_of_ble_eq_true rfl) rfl ?_
      refine p_goto 20 rfl dX9_ask_85 ?_
      have hb : okP A i = false := by simpa only [b2i_eq0, b2i_1, Bool.not_eq_true, Decidable.not_not] using h36
      have e : prL (okP A) (i + 1) = prL (okP A) i := by simp [prL, hb]
      rw [nI_1, ← e]
      refine ih (i + 1) σ2 _ (by omega) hR2 h02 hc2 ?_
      rw [e]
      intro k hk c hc
      rw [e3.2.2]; exact han k hk c hc
set_option maxRecDepth 4000 in
theorem l_askU {τ : PH} (hR0 : RM τ A) {w c : Nat} {l : List Nat} {bb mm : Int32} (hc : c < aC (tO A)) (hl : l.length ≤ 54) (han : ANM τ A l) (hbd : ∀ k, k < l.length → ansW A c (l.getD k 0) < 4096) {u a : Nat} (ha : a < l.length) {Q : PO → PH → Prop} (kk : ∀ x9, Ok Γ 11 0 0 mX9_ask 177 [some (.ref M0), some (.int (nI w)), some (.int (nI l.length)), some (.int bb), some (.int mm), some (.int (nI c)), some (.int (nI u)), some (.int (nI a)), some (.int (b2i (!anyN a (fun j => ansW A c (l.getD j 0) == ansW A c (l.getD a 0))))), x9] [] τ Q) : ∀ (n i : Nat), i + n = a → Ok Γ 11 0 0 mX9_ask 123 [some (.ref M0), some (.int (nI w)), some (.int (nI l.length)), some (.int bb), some (.int mm), some (.int (nI c)), some (.int (nI u)), some (.int (nI a)), some (.int (b2i (!anyN i (fun j => ansW A c (l.getD j 0) == ansW A c (l.getD a 0))))), some (.int (nI i))] [] τ Q := by
  have hK := hR0.2.1
  have hO := hK.2.2.1
  have hc6 := hO.2.1
  have hw12 := hO.2.2.1
  have hs9 := hO.1
  have hv := hK.2.2.2.2.1.1
  have hd9 := hK.2.2.2.2.1.2
  have hM := hR0.1
  have hw := hR0.2.2.1
  intro n
  induction n with
  | zero =>
    intro i hi
    refine p_iload 9 125 rfl dX9_ask_123 rfl ?_
    refine p_iload 7 127 rfl dX9_ask_125 rfl ?_
    refine p_icmp_ge 177 130 rfl rfl dX9_ask_127 (fun h127 => ?_) (fun h127 => absurd (nI_le (a := a) (b := i) (by omega) (by omega)) h127)
    rw [show i = a by omega]
    exact kk _
  | succ n ih =>
    intro i hi
    refine p_iload 9 125 rfl dX9_ask_123 rfl ?_
    refine p_iload 7 127 rfl dX9_ask_125 rfl ?_
    refine p_icmp_ge 177 130 rfl rfl dX9_ask_127 (fun h127 => absurd h127 (nI_ge (a := i) (b := a) (by omega) (by omega))) (fun h127 => ?_)
    refine p_iload 8 132 rfl dX9_ask_130 rfl ?_
    refine p_if_eq 177 135 rfl rfl dX9_ask_132 (fun h132 => ?_) (fun h132 => ?_)
    · have hb : anyN i (fun j => ansW A c (l.getD j 0) == ansW A c (l.getD a 0)) = true := by
        have := b2i_eq0.mp h132
        simpa using this
      have e : anyN a (fun j => ansW A c (l.getD j 0) == ansW A c (l.getD a 0)) = true := anyN_mono (by omega) hb
      rw [e] at kk
      rw [hb]
      exact kk _
    · have hb : anyN i (fun j => ansW A c (l.getD j 0) == ansW A c (l.getD a 0)) = false := by
        have := b2i_t h132
        simpa using this
      refine p_aload_n 0 136 rfl rfl dX9_ask_135 rfl ?_
      refine p_getR 9 54 139 rfl dX9_ask_136 fl_X9_90 rfl rfl (show hR _ M0 54 = mSa from hM.1 54) (by decide) ?_
      refine p_bipush (6) 141 rfl dX9_ask_139 rfl ?_
      refine p_iload 7 143 rfl dX9_ask_141 rfl ?_
      refine p_imul 144 rfl dX9_ask_143 ?_
      rw [m6]
      refine p_iload 5 146 rfl dX9_ask_144 rfl ?_
      refine p_iadd 147 rfl dX9_ask_146 ?_
      rw [nI_add]
      refine p_ialdE 148 rfl dX9_ask_147 (i := 6 * a + c) rfl (by show _ < 324; omega) (han a ha c hc) ?_
      refine p_aload_n 0 149 rfl rfl dX9_ask_148 rfl ?_
      refine p_getR 9 54 152 rfl dX9_ask_149 fl_X9_90 rfl rfl (show hR _ M0 54 = mSa from hM.1 54) (by decide) ?_
      refine p_bipush (6) 154 rfl dX9_ask_152 rfl ?_
      refine p_iload 9 156 rfl dX9_ask_154 rfl ?_
      refine p_imul 157 rfl dX9_ask_156 ?_
      rw [m6]
      refine p_iload 5 159 rfl dX9_ask_157 rfl ?_
      refine p_iadd 160 rfl dX9_ask_159 ?_
      rw [nI_add]
      refine p_ialdE 161 rfl dX9_ask_160 (i := 6 * i + c) rfl (by show _ < 324; omega) (han i (by omega) c hc) ?_
      refine p_icmp_eq 168 164 rfl rfl dX9_ask_161 (fun h161 => ?_) (fun h161 => ?_)
      · refine p_iconst (0) 169 rfl dX9_ask_168 rfl ?_
        refine p_ist_8 171 rfl dX9_ask_169 (Nat.le_of_ble_eq_true rfl) rfl ?_
        refine p_inc_9 174 rfl dX9_ask_171 (1) rfl (Nat.le_of_ble_eq_true rfl) rfl ?_
        refine p_goto 123 rfl dX9_ask_174 ?_
        have hb2 : (fun j => ansW A c (l.getD j 0) == ansW A c (l.getD a 0)) i = true := by
          show (ansW A c (l.getD i 0) == ansW A c (l.getD a 0)) = true
          rw [beq_iff_eq]; exact (nI_eqI h161 (by have := hbd a ha; omega) (by have := hbd i (by omega); omega)).symm
        rw [nI_1]
        have e : anyN (i + 1) (fun j => ansW A c (l.getD j 0) == ansW A c (l.getD a 0)) = true := by show (anyN i (fun j => ansW A c (l.getD j 0) == ansW A c (l.getD a 0)) || (fun j => ansW A c (l.getD j 0) == ansW A c (l.getD a 0)) i) = true; rw [hb2, Bool.or_true]
        have this := ih (i + 1) (by omega)
        rw [e] at this
        exact this
      · refine p_iconst (1) 165 rfl dX9_ask_164 rfl ?_
        refine p_goto 169 rfl dX9_ask_165 ?_
        refine p_ist_8 171 rfl dX9_ask_169 (Nat.le_of_ble_eq_true rfl) rfl ?_
        refine p_inc_9 174 rfl dX9_ask_171 (1) rfl (Nat.le_of_ble_eq_true rfl) rfl ?_
        refine p_goto 123 rfl dX9_ask_174 ?_
        have hb2 : (fun j => ansW A c (l.getD j 0) == ansW A c (l.getD a 0)) i = false := by
          show (ansW A c (l.getD i 0) == ansW A c (l.getD a 0)) = false
          rw [beq_eq_false_iff_ne]; exact fun z => h161 (by rw [z])
        rw [nI_1]
        have e : anyN (i + 1) (fun j => ansW A c (l.getD j 0) == ansW A c (l.getD a 0)) = false := by show (anyN i (fun j => ansW A c (l.getD j 0) == ansW A c (l.getD a 0)) || (fun j => ansW A c (l.getD j 0) == ansW A c (l.getD a 0)) i) = false; rw [hb2, Bool.or_false]; exact hb
        have this := ih (i + 1) (by omega)
        rw [e] at this
        exact this
set_option maxRecDepth 4000 in
theorem l_askV {τ : PH} (hR0 : RM τ A) {w c : Nat} {l : List Nat} {bb mm : Int32} (hc : c < aC (tO A)) (hl : l.length ≤ 54) (han : ANM τ A l) (hbd : ∀ k, k < l.length → ansW A c (l.getD k 0) < 4096) {Q : PO → PH → Prop} (kk : ∀ x7 x8 x9, Ok Γ 11 0 0 mX9_ask 198 [some (.ref M0), some (.int (nI w)), some (.int (nI l.length)), some (.int bb), some (.int mm), some (.int (nI c)), some (.int (nI (cntN l.length (fun a => !anyN a (fun j => ansW A c (l.getD j 0) == ansW A c (l.getD a 0)))))), x7, x8, x9] [] τ Q) : ∀ (n a : Nat) (x8 x9 : Option Value), a + n = l.length → Ok Γ 11 0 0 mX9_ask 111 [some (.ref M0), some (.int (nI w)), some (.int (nI l.length)), some (.int bb), some (.int mm), some (.int (nI c)), some (.int (nI (cntN a (fun a => !anyN a (fun j => ansW A c (l.getD j 0) == ansW A c (l.getD a 0)))))), some (.int (nI a)), x8, x9] [] τ Q := by
  have hK := hR0.2.1
  have hO := hK.2.2.1
  have hc6 := hO.2.1
  have hw12 := hO.2.2.1
  have hs9 := hO.1
  have hv := hK.2.2.2.2.1.1
  have hd9 := hK.2.2.2.2.1.2
  have hM := hR0.1
  have hw := hR0.2.2.1
  intro n
  induction n with
  | zero =>
    intro a x8 x9 hi
    refine p_iload 7 113 rfl dX9_ask_111 rfl ?_
    refine p_iload_n 2 114 rfl rfl dX9_ask_113 rfl ?_
    refine p_icmp_ge 198 117 rfl rfl dX9_ask_114 (fun h114 => ?_) (fun h114 => absurd (nI_le (a := l.length) (b := a) (by omega) (by omega)) h114)
    rw [show a = l.length by omega]
    exact kk _ _ _
  | succ n ih =>
    intro a x8 x9 hi
    refine p_iload 7 113 rfl dX9_ask_111 rfl ?_
    refine p_iload_n 2 114 rfl rfl dX9_ask_113 rfl ?_
    refine p_icmp_ge 198 117 rfl rfl dX9_ask_114 (fun h114 => absurd h114 (nI_ge (a := a) (b := l.length) (by omega) (by omega))) (fun h114 => ?_)
    refine p_iconst (1) 118 rfl dX9_ask_117 rfl ?_
    refine p_ist_8 120 rfl dX9_ask_118 (Nat.le_of_ble_eq_true rfl) rfl ?_
    refine p_iconst (0) 121 rfl dX9_ask_120 rfl ?_
    refine p_ist_9 123 rfl dX9_ask_121 (Nat.le_of_ble_eq_true rfl) rfl ?_
    refine l_askU hR0 hc hl han hbd (by omega) (fun x9 => ?_) a 0 (by omega)
    refine p_iload 6 179 rfl dX9_ask_177 rfl ?_
    refine p_iload 8 181 rfl dX9_ask_179 rfl ?_
    refine p_if_eq 188 184 rfl rfl dX9_ask_181 (fun h181 => ?_) (fun h181 => ?_)
    · refine p_iconst (0) 189 rfl dX9_ask_188 rfl ?_
      refine p_iadd 190 rfl dX9_ask_189 ?_
      refine p_ist_6 192 rfl dX9_ask_190 (Nat.le_of_ble_eq_true rfl) rfl ?_
      refine p_inc_7 195 rfl dX9_ask_192 (1) rfl (Nat.le_of_ble_eq_true rfl) rfl ?_
      refine p_goto 111 rfl dX9_ask_195 ?_
      have hb : (fun a => !anyN a (fun j => ansW A c (l.getD j 0) == ansW A c (l.getD a 0))) a = false := by simpa only [b2i_eq0, Bool.not_eq_true, Decidable.not_not] using h181
      rw [show nI (cntN a (fun a => !anyN a (fun j => ansW A c (l.getD j 0) == ansW A c (l.getD a 0)))) + 0 = nI (cntN a (fun a => !anyN a (fun j => ansW A c (l.getD j 0) == ansW A c (l.getD a 0)))) from nI_add _ 0, nI_1, ← cntN_f hb]
      exact ih (a + 1) _ _ (by omega)
    · refine p_iconst (1) 185 rfl dX9_ask_184 rfl ?_
      refine p_goto 189 rfl dX9_ask_185 ?_
      refine p_iadd 190 rfl dX9_ask_189 ?_
      refine p_ist_6 192 rfl dX9_ask_190 (Nat.le_of_ble_eq_true rfl) rfl ?_
      refine p_inc_7 195 rfl dX9_ask_192 (1) rfl (Nat.le_of_ble_eq_true rfl) rfl ?_
      refine p_goto 111 rfl dX9_ask_195 ?_
      have hb : (fun a => !anyN a (fun j => ansW A c (l.getD j 0) == ansW A c (l.getD a 0))) a = true := by simpa only [b2i_eq0, Decidable.not_not, Bool.not_eq_true, Bool.not_eq_false] using h181
      rw [nI_1, nI_1, ← cntN_t hb]
      exact ih (a + 1) _ _ (by omega)
theorem askB_m (u : Nat → Nat) {m : Nat} (h : ∀ i, u i ≤ m) : ∀ n, (askB u n).2 ≤ m := by
  intro n
  induction n with
  | zero => exact Nat.zero_le _
  | succ n ih => simp only [askB]; split
                 · exact h n
                 · exact ih
theorem ansW_lt (hK : OkT A) {c p : Nat} (hc : c < 6) (hp : p / 9 < aC (tO A)) : ansW A c p < 4096 := by
  have hO := hK.2.2.1
  have hc6 := hO.2.1
  have hub := OkU.pl (s := p % 9) (q := p / 9 + 5) hK.2.2.2.2.1 (by omega) (by omega)
  exact (daysF_ok hO hub.1 6 (by have : vD (tV A) ≤ 999 := hK.2.2.2.2.1.2; show vD (tV A) + 6 ≤ 100000; omega)).2.2.2 c hc
theorem unl_le (c : Nat) : unl A c ≤ 54 := Nat.le_trans (cntN_le _ _) (prL_len _ _)
set_option maxRecDepth 8000 in
theorem l_mAsk {τ : PH} (hR0 : RM τ A) (h0 : hI τ M0 0 = 0) (hc1 : ChM σ τ) {w : Nat} (hw2 : w < 2) (han : ANM τ A (prL (okP A) 54)) : ∀ (n i : Nat) (x6 x7 x8 x9 : Option Value), i + n = aC (tO A) → Ok Γ 11 0 0 mX9_ask 96 [some (.ref M0), some (.int (nI w)), some (.int (nI (prL (okP A) 54).length)), some (.int (oI (askB (unl A) i).1)), some (.int (nI (askB (unl A) i).2)), some (.int (nI i)), x6, x7, x8, x9] [] τ (rM (0, if w = 0 then oI (askB (unl A) (aC (tO A))).1 else nI (askB (unl A) (aC (tO A))).2) (fun σ' => RM σ' A ∧ ChM σ σ')) := by
  have hK := hR0.2.1
  have hO := hK.2.2.1
  have hc6 := hO.2.1
  have hw12 := hO.2.2.1
  have hs9 := hO.1
  have hv := hK.2.2.2.2.1.1
  have hd9 := hK.2.2.2.2.1.2
  have hM := hR0.1
  have hw := hR0.2.2.1
  intro n
  induction n with
  | zero =>
    intro i x6 x7 x8 x9 hi
    refine p_iload 5 98 rfl dX9_ask_96 rfl ?_
    refine p_aload_n 0 99 rfl rfl dX9_ask_98 rfl ?_
    refine p_getIE 9 2 102 rfl dX9_ask_99 fl_X9_283 rfl rfl hM.2.2.1.2.1 ?_
    refine p_icmp_ge 221 105 rfl rfl dX9_ask_102 (fun h102 => ?_) (fun h102 => absurd (nI_le (a := aC (tO A)) (b := i) (by omega) (by omega)) h102)
    refine p_iload_n 1 222 rfl rfl dX9_ask_221 rfl ?_
    refine p_if_ne 229 225 rfl rfl dX9_ask_222 (fun h222 => ?_) (fun h222 => ?_)
    · refine p_iload 4 231 rfl dX9_ask_229 rfl ?_
      exact p_iret dX9_ask_231 rfl ⟨_, rfl, h0, fun _ => by rw [if_neg (fun e : w = 0 => h222 (by rw [e]; rfl)), show i = aC (tO A) by omega], hR0, hc1⟩
    · refine p_iload_n 3 226 rfl rfl dX9_ask_225 rfl ?_
      refine p_goto 231 rfl dX9_ask_226 ?_
      exact p_iret dX9_ask_231 rfl ⟨_, rfl, h0, fun _ => by rw [if_pos (nI_eqI (show nI w = nI 0 from h222) (by omega) (by decide)), show i = aC (tO A) by omega], hR0, hc1⟩
  | succ n ih =>
    intro i x6 x7 x8 x9 hi
    have hlt : i < aC (tO A) := by omega
    refine p_iload 5 98 rfl dX9_ask_96 rfl ?_
    refine p_aload_n 0 99 rfl rfl dX9_ask_98 rfl ?_
    refine p_getIE 9 2 102 rfl dX9_ask_99 fl_X9_283 rfl rfl hM.2.2.1.2.1 ?_
    refine p_icmp_ge 221 105 rfl rfl dX9_ask_102 (fun h102 => absurd h102 (nI_ge (a := i) (b := aC (tO A)) (by omega) (by omega))) (fun h102 => ?_)
    refine p_iconst (0) 106 rfl dX9_ask_105 rfl ?_
    refine p_ist_6 108 rfl dX9_ask_106 (Nat.le_of_ble_eq_true rfl) rfl ?_
    refine p_iconst (0) 109 rfl dX9_ask_108 rfl ?_
    refine p_ist_7 111 rfl dX9_ask_109 (Nat.le_of_ble_eq_true rfl) rfl ?_
    have hul := unl_le (A := A) i
    have hml := askB_m (unl A) (m := 54) (unl_le (A := A)) i
    refine l_askV hR0 hlt (prL_len _ _) han (fun k hk => ansW_lt hK (by omega) ?_) (fun x7 x8 x9 => ?_) (prL (okP A) 54).length 0 _ _ (by omega)
    · have hkm := prL_mem (okP A) 54 ((prL (okP A) 54).getD k 0) (by rw [List.getD_eq_getElem?_getD, List.getElem?_eq_getElem hk]; exact List.getElem_mem hk)
      have h2 := hkm.2
      unfold okP canB at h2
      simp only [Bool.and_eq_true, decide_eq_true_eq] at h2
      exact h2.1.1.1.1
    rw [show cntN (prL (okP A) 54).length (fun a => !anyN a (fun j => ansW A i ((prL (okP A) 54).getD j 0) == ansW A i ((prL (okP A) 54).getD a 0))) = unl A i from rfl]
    refine p_iload 6 200 rfl dX9_ask_198 rfl ?_
    refine p_iload 4 202 rfl dX9_ask_200 rfl ?_
    refine p_icmp_gt 208 205 rfl rfl dX9_ask_202 (fun h202 => ?_) (fun h202 => ?_)
    · refine p_iload 5 210 rfl dX9_ask_208 rfl ?_
      refine p_ist_n3 211 rfl rfl dX9_ask_210 (Nat.le_of_ble_eq_true rfl) rfl ?_
      refine p_iload 6 213 rfl dX9_ask_211 rfl ?_
      refine p_ist_4 215 rfl dX9_ask_213 (Nat.le_of_ble_eq_true rfl) rfl ?_
      refine p_inc_5 218 rfl dX9_ask_215 (1) rfl (Nat.le_of_ble_eq_true rfl) rfl ?_
      refine p_goto 96 rfl dX9_ask_218 ?_
      have hnl : (askB (unl A) i).2 < unl A i := (Nat.lt_or_ge (askB (unl A) i).2 (unl A i)).elim id (fun z => absurd h202 (nI_nlt z (by omega)))
      have e : askB (unl A) (i + 1) = (some i, unl A i) := by simp only [askB]; rw [if_pos hnl]
      have this := ih (i + 1) (some (.int (nI (unl A i)))) x7 x8 x9 (by omega)
      rw [e] at this
      rw [nI_1]
      exact this
    · refine p_goto 215 rfl dX9_ask_205 ?_
      refine p_inc_5 218 rfl dX9_ask_215 (1) rfl (Nat.le_of_ble_eq_true rfl) rfl ?_
      refine p_goto 96 rfl dX9_ask_218 ?_
      have hnl : ¬ (askB (unl A) i).2 < unl A i := fun z => h202 (nI_lt z (by omega))
      have e : askB (unl A) (i + 1) = askB (unl A) i := by simp only [askB]; rw [if_neg hnl]
      rw [nI_1, ← e]
      exact ih (i + 1) _ _ _ _ (by omega)
set_option maxRecDepth 8000 in
theorem q_ask (hRM : RM σ A) (x : Int32) : CallOk Γ 12 0 0 mX9_ask [.ref M0, .int x] σ (rM (fAsk A x) (fun σ' => RM σ' A ∧ ChM σ σ')) := by
  have hK := hRM.2.1
  have hO := hK.2.2.1
  have hs9 := hO.1
  have hc6 := hO.2.1
  have hw12 := hO.2.2.1
  have hk8 := hO.2.2.2.1
  have hv := hK.2.2.2.2.1.1
  have hd9 := hK.2.2.2.2.1.2
  refine p_enter rfl rfl (Nat.le_of_ble_eq_true rfl) rfl ?_
  refine p_aload_n 0 1 rfl rfl dX9_ask_0 rfl ?_
  refine p_iconst (0) 2 rfl dX9_ask_1 rfl ?_
  refine p_putI 9 0 5 rfl dX9_ask_2 fl_X9_102 rfl rfl (Or.inl rfl) ?_
  have hQ : FQ σ (sI σ M0 0 0) := FQ.th
  have hR0 := hRM.q hQ
  have h0 : hI (sI σ M0 0 0) M0 0 = 0 := hI_sI _ _ _ _
  generalize sI σ M0 0 0 = τ at hQ hR0 h0 ⊢
  have hM := hR0.1
  have hw := hR0.2.2.1
  refine p_aload_n 0 6 rfl rfl dX9_ask_5 rfl ?_
  refine p_iload_n 1 7 rfl rfl dX9_ask_6 rfl ?_
  refine p_iconst (1) 8 rfl dX9_ask_7 rfl ?_
  refine p_cV2x 0 0 11 rfl dX9_ask_8 (c_isWhat (n := 1) h0 _ (by decide)) ml_X9_381 vl_X9_isWhat rfl (by decide) rfl (Nat.le_of_ble_eq_true rfl) (Nat.le_of_ble_eq_true rfl) (Nat.le_of_ble_eq_true rfl) (Nat.le_of_ble_eq_true rfl) rfl ?_
  intro v0 τ0 hp0
  obtain ⟨hv0, ht0, hf0⟩ := hp0
  subst hv0
  refine p_if_ne 16 14 rfl rfl dX9_ask_11 (fun h11 => ?_) (fun h11 => ?_)
  · have hb0 : inR x 2 = true := by simpa only [b2i_eq0, Decidable.not_not, Bool.not_eq_true, Bool.not_eq_false] using h11
    have ee0 := ht0 hb0
    subst ee0
    obtain ⟨q, rfl, hq⟩ := asN hb0 (by omega)
    have hqL : q < 2147483648 := by omega
    refine p_iconst (0) 17 rfl dX9_ask_16 rfl ?_
    refine p_ist_n2 18 rfl rfl dX9_ask_17 (Nat.le_of_ble_eq_true rfl) rfl ?_
    refine p_iconst (0) 19 rfl dX9_ask_18 rfl ?_
    refine p_ist_n3 20 rfl rfl dX9_ask_19 (Nat.le_of_ble_eq_true rfl) rfl ?_
    have e : fAsk A (nI q) = (0, if q = 0 then oI (askB (unl A) (aC (tO A))).1 else nI (askB (unl A) (aC (tO A))).2) := by rw [fAsk, gd_t hb0, iN_nI hqL]
    rw [e]
    refine Ok.sub (l_askG hK (fun σ2 x4 hR2 h02 hc2 han => ?_) (9 * aC (tO A)) 0 _ _ (by omega) hR0 h0 hQ.ch (fun k hk => absurd hk (Nat.not_lt_zero _))) (by decide) (by decide) (by decide)
    refine p_iconst (-1) 89 rfl dX9_ask_88 rfl ?_
    refine p_ist_n3 90 rfl rfl dX9_ask_89 (Nat.le_of_ble_eq_true rfl) rfl ?_
    refine p_iconst (0) 91 rfl dX9_ask_90 rfl ?_
    refine p_ist_4 93 rfl dX9_ask_91 (Nat.le_of_ble_eq_true rfl) rfl ?_
    refine p_iconst (0) 94 rfl dX9_ask_93 rfl ?_
    refine p_ist_5 96 rfl dX9_ask_94 (Nat.le_of_ble_eq_true rfl) rfl ?_
    exact l_mAsk hR2 h02 hc2 hq han (aC (tO A)) 0 _ _ _ _ (by omega)
  · have hb0 : inR x 2 = false := by simpa only [b2i_eq0, Bool.not_eq_true, Decidable.not_not] using h11
    have ee0 := hf0 hb0
    subst ee0
    refine p_iconst (0) 15 rfl dX9_ask_14 rfl ?_
    exact p_iret dX9_ask_15 rfl ⟨_, rfl, by rw [fAsk, gd_f hb0]; exact hI_sI _ _ _ _, fun q => absurd q (by rw [fAsk, gd_f hb0]; decide), (hRM.q hQ).q FQ.th, (hQ.tr FQ.th).ch⟩
end C99
