/-! ===== days go by ===== -/
section C41
variable {Γ : Gm} {σ : PH} {o w : Nat} {O : AO} {V : AW} {ps : List Int32}
def PB (w o : Nat) (σ : PH) (b : Bool) (V : AW) : PO → PH → Prop := rX (fun y σ' => y = b2i b ∧ RpW σ' w V ∧ WF w o σ σ')
set_option maxRecDepth 4000 in
theorem t_passDay {σ1 : PH} {b : Bool} {x2 : Option Value} (hw : RpW σ1 w V) (hF : WF w o σ σ1) : Ok Γ 5 0 0 mX7_passDay 62 [some (.ref w), some (.int (b2i b)), x2] [] σ1 (PB w o σ b (wDy V (vD V + 1))) := by
  refine p_aload_n 0 63 rfl rfl dX7_passDay_62 rfl ?_
  refine p_dup 64 rfl dX7_passDay_63 rfl ?_
  refine p_getIE 7 1 67 rfl dX7_passDay_64 fl_X7_9 hw.1.1.kd rfl hw.2.1 ?_
  refine p_iconst (1) 68 rfl dX7_passDay_67 rfl ?_
  refine p_iadd 69 rfl dX7_passDay_68 ?_
  rw [nI_1]
  refine p_putI 7 1 72 rfl dX7_passDay_69 fl_X7_9 hw.1.1.kd rfl (Or.inl rfl) ?_
  refine p_iload_n 1 73 rfl rfl dX7_passDay_72 rfl ?_
  exact p_zret dX7_passDay_73 rfl (by cases b <;> rfl) ⟨_, rfl, rfl, hw.setD, hF.tr (Fr.sI (by simp))⟩
set_option maxRecDepth 4000 in
theorem m_passDay {b : Bool} (hY : OkY O) (hv : OkV O V) (hps : aM O = some ps) : ∀ (n i : Nat) (σ1 : PH), i + n = aS O → RpQ σ1 o O → RpW σ1 w (mldF O ps i V) → hR σ1 w 0 = o → WF w o σ σ1 → Ok Γ 5 0 0 mX7_passDay 40 [some (.ref w), some (.int (b2i b)), some (.int (nI i))] [] σ1 (PB w o σ b (wDy (mldF O ps (aS O) V) (vD (mldF O ps (aS O) V) + 1))) := by
  intro n
  induction n with
  | zero =>
    intro i σ1 hi hQ hw hwo hF
    have ho := hQ.1
    have hs9 := ho.2.1.1
    have hiN : i = aS O := by omega
    subst hiN
    refine p_iload_n 2 41 rfl rfl dX7_passDay_40 rfl ?_
    refine p_aload_n 0 42 rfl rfl dX7_passDay_41 rfl ?_
    refine p_getR 7 0 45 rfl dX7_passDay_42 fl_X7_31 hw.1.1.kd rfl hwo ho.1.1.ne0 ?_
    refine p_getIE 4 0 48 rfl dX7_passDay_45 fl_X7_58 ho.1.1.kd rfl ho.2.2.1 ?_
    refine p_icmp_ge 62 51 rfl rfl dX7_passDay_48 (fun h48 => ?_) (fun h48 => absurd (nI_le (Nat.le_refl _) (by omega)) h48)
    exact t_passDay hw hF
  | succ n ih =>
    intro i σ1 hi hQ hw hwo hF
    have ho := hQ.1
    have hs9 := ho.2.1.1
    have hlt : i < aS O := by omega
    have hvi := mldF_ok (ps := ps) hv i
    refine p_iload_n 2 41 rfl rfl dX7_passDay_40 rfl ?_
    refine p_aload_n 0 42 rfl rfl dX7_passDay_41 rfl ?_
    refine p_getR 7 0 45 rfl dX7_passDay_42 fl_X7_31 hw.1.1.kd rfl hwo ho.1.1.ne0 ?_
    refine p_getIE 4 0 48 rfl dX7_passDay_45 fl_X7_58 ho.1.1.kd rfl ho.2.2.1 ?_
    refine p_icmp_ge 62 51 rfl rfl dX7_passDay_48 (fun h48 => absurd h48 (nI_ge hlt (by omega))) (fun h48 => ?_)
    refine p_aload_n 0 52 rfl rfl dX7_passDay_51 rfl ?_
    refine p_iload_n 2 53 rfl rfl dX7_passDay_52 rfl ?_
    refine p_cV1v 0 0 56 rfl dX7_passDay_53 (c_mouldOn (ps := ps) hQ hY hw hvi hwo hlt hps) ml_X7_119 vl_X7_mouldOn hw.1.1.kd (by decide) rfl (Nat.le_of_ble_eq_true rfl) (Nat.le_of_ble_eq_true rfl) (Nat.le_of_ble_eq_true rfl) (Nat.le_of_ble_eq_true rfl) rfl ?_
    rintro σ2 ⟨hw2, hF2⟩
    refine p_inc_2 59 rfl dX7_passDay_56 (1) rfl (Nat.le_of_ble_eq_true rfl) rfl ?_
    refine p_goto 40 rfl dX7_passDay_59 ?_
    rw [nI_1]
    exact ih (i + 1) σ2 (by omega) (hQ.wf hw.1.1 hF2) hw2 (by rw [hF2.2.2.2.1]; exact hwo) (hF.tr hF2)
set_option maxRecDepth 4000 in
theorem u_passDay {σ1 : PH} {b : Bool} {x2 : Option Value} (hQ : RpQ σ1 o O) (hY : OkY O) (hw : RpW σ1 w V) (hv : OkV O V) (hwo : hR σ1 w 0 = o) (hF : WF w o σ σ1) : Ok Γ 5 0 0 mX7_passDay 25 [some (.ref w), some (.int (b2i b)), x2] [] σ1 (PB w o σ b (wDy (mldA O V) (vD V + 1))) := by
  have ho := hQ.1
  refine p_aload_n 0 26 rfl rfl dX7_passDay_25 rfl ?_
  refine p_getR 7 0 29 rfl dX7_passDay_26 fl_X7_31 hw.1.1.kd rfl hwo ho.1.1.ne0 ?_
  refine p_getR 4 13 32 rfl dX7_passDay_29 fl_X7_109 ho.1.1.kd rfl ho.1.2.2.2.2.2.2.2.2.2.1 (mk0 (Nat.succ_ne_zero _)) ?_
  refine p_getI 6 0 35 rfl dX7_passDay_32 fl_X7_113 hQ.2.2.1 rfl ?_
  refine p_if_eq 62 38 rfl rfl dX7_passDay_35 (fun h35 => ?_) (fun h35 => ?_)
  · have hn : aM O = none := by
      have h2 := hQ.2.2
      cases hy : aM O with
      | none => rfl
      | some ps => rw [hy] at h2; exact absurd (h2.2.2.2.1.symm.trans h35) (by decide)
    have e : mldA O V = V := by unfold mldA; rw [hn]
    rw [e]
    exact t_passDay hw hF
  · refine p_iconst (0) 39 rfl dX7_passDay_38 rfl ?_
    refine p_ist_n2 40 rfl rfl dX7_passDay_39 (Nat.le_of_ble_eq_true rfl) rfl ?_
    obtain ⟨ps, hps⟩ : ∃ ps, aM O = some ps := by
      have h2 := hQ.2.2
      cases hy : aM O with
      | none => rw [hy] at h2; exact absurd h2.2.2.2 h35
      | some ps => exact ⟨ps, rfl⟩
    have e : mldA O V = mldF O ps (aS O) V := by unfold mldA; rw [hps]
    rw [e, ← mldF_day O V ps (aS O)]
    exact m_passDay hY hv hps (aS O) 0 σ1 (by omega) hQ hw hwo hF
set_option maxRecDepth 4000 in
theorem l_passDay (hY : OkY O) (hv : OkV O V) : ∀ (n i : Nat) (σ1 : PH), i + n = 4 → RpQ σ1 o O → RpW σ1 w (layF O i V) → hR σ1 w 0 = o → WF w o σ σ1 → Ok Γ 5 0 0 mX7_passDay 4 [some (.ref w), some (.int (b2i (lrnF O V i))), some (.int (nI i))] [] σ1 (PB w o σ (lrnF O V 4) (dayF O V)) := by
  intro n
  induction n with
  | zero =>
    intro i σ1 hi hQ hw hwo hF
    have ho := hQ.1
    refine p_iload_n 2 5 rfl rfl dX7_passDay_4 rfl ?_
    refine p_iconst (4) 6 rfl dX7_passDay_5 rfl ?_
    refine p_icmp_ge 25 9 rfl rfl dX7_passDay_6 (fun h6 => ?_) (fun h6 => absurd (nI_le (a := 4) (b := i) (by omega) (by omega)) h6)
    have hiN : i = 4 := by omega
    subst hiN
    have := u_passDay (Γ := Γ) (b := lrnF O V 4) (x2 := some (.int (nI 4))) hQ hY hw (layF_ok hQ.1.2.1 hv 4) hwo hF
    rw [layF_day] at this
    exact this
  | succ n ih =>
    intro i σ1 hi hQ hw hwo hF
    have ho := hQ.1
    have hlt : i < 4 := by omega
    have hvi := layF_ok ho.2.1 hv i
    refine p_iload_n 2 5 rfl rfl dX7_passDay_4 rfl ?_
    refine p_iconst (4) 6 rfl dX7_passDay_5 rfl ?_
    refine p_icmp_ge 25 9 rfl rfl dX7_passDay_6 (fun h6 => absurd h6 (nI_ge (a := i) (b := 4) hlt (by omega))) (fun h6 => ?_)
    refine p_aload_n 0 10 rfl rfl dX7_passDay_9 rfl ?_
    refine p_iload_n 2 11 rfl rfl dX7_passDay_10 rfl ?_
    refine p_cV1x 0 0 14 rfl dX7_passDay_11 (c_layIn hQ hY hw hvi hwo hlt) ml_X7_106 vl_X7_layIn hw.1.1.kd (by decide) rfl (Nat.le_of_ble_eq_true rfl) (Nat.le_of_ble_eq_true rfl) (Nat.le_of_ble_eq_true rfl) (Nat.le_of_ble_eq_true rfl) rfl ?_
    rintro x2 σ2 ⟨hx2, hw2, hF2⟩
    subst hx2
    refine p_if_eq 19 17 rfl rfl dX7_passDay_14 (fun h14 => ?_) (fun h14 => ?_)
    · refine p_inc_2 22 rfl dX7_passDay_19 (1) rfl (Nat.le_of_ble_eq_true rfl) rfl ?_
      refine p_goto 4 rfl dX7_passDay_22 ?_
      simp only [b2i_eq0, Bool.not_eq_true] at h14
      have e : lrnF O V (i + 1) = lrnF O V i := by simp [lrnF, h14]
      rw [nI_1, ← e]
      exact ih (i + 1) σ2 (by omega) (hQ.wf hw.1.1 hF2) hw2 (by rw [hF2.2.2.2.1]; exact hwo) (hF.tr hF2)
    · refine p_iconst (1) 18 rfl dX7_passDay_17 rfl ?_
      refine p_ist_n1 19 rfl rfl dX7_passDay_18 (Nat.le_of_ble_eq_true rfl) rfl ?_
      refine p_inc_2 22 rfl dX7_passDay_19 (1) rfl (Nat.le_of_ble_eq_true rfl) rfl ?_
      refine p_goto 4 rfl dX7_passDay_22 ?_
      simp only [b2i_eq0, Decidable.not_not] at h14
      have e : b2i (lrnF O V (i + 1)) = 1 := by simp [lrnF, h14, b2i]
      rw [nI_1, ← e]
      exact ih (i + 1) σ2 (by omega) (hQ.wf hw.1.1 hF2) hw2 (by rw [hF2.2.2.2.1]; exact hwo) (hF.tr hF2)
set_option maxRecDepth 4000 in
theorem c_passDay (hQ : RpQ σ o O) (hY : OkY O) (hw : RpW σ w V) (hv : OkV O V) (hwo : hR σ w 0 = o) : CallOk Γ 5 0 0 mX7_passDay [.ref w] σ (PB w o σ (lrnF O V 4) (dayF O V)) := by
  refine p_enter rfl rfl (Nat.le_of_ble_eq_true rfl) rfl ?_
  refine p_iconst (0) 1 rfl dX7_passDay_0 rfl ?_
  refine p_ist_n1 2 rfl rfl dX7_passDay_1 (Nat.le_of_ble_eq_true rfl) rfl ?_
  refine p_iconst (0) 3 rfl dX7_passDay_2 rfl ?_
  refine p_ist_n2 4 rfl rfl dX7_passDay_3 (Nat.le_of_ble_eq_true rfl) rfl ?_
  exact l_passDay hY hv 4 0 σ rfl hQ hw hwo Fr.rf
set_option maxRecDepth 4000 in
theorem l_passDays {k : Nat} (hY : OkY O) (hv : OkV O V) (hk : vD V + k ≤ 100000) : ∀ (n i : Nat) (σ1 : PH), i + n = k → RpQ σ1 o O → RpW σ1 w (daysF O i V) → hR σ1 w 0 = o → WF w o σ σ1 → Ok Γ 6 0 0 mX7_passDays 2 [some (.ref w), some (.int (nI k)), some (.int (nI i))] [] σ1 (rV (fun σ' => RpW σ' w (daysF O k V) ∧ WF w o σ σ')) := by
  intro n
  induction n with
  | zero =>
    intro i σ1 hi hQ hw hwo hF
    have hiN : i = k := by omega
    subst hiN
    refine p_iload_n 2 3 rfl rfl dX7_passDays_2 rfl ?_
    refine p_iload_n 1 4 rfl rfl dX7_passDays_3 rfl ?_
    refine p_icmp_ge 18 7 rfl rfl dX7_passDays_4 (fun h4 => ?_) (fun h4 => absurd (nI_le (Nat.le_refl _) (by omega)) h4)
    exact p_vret dX7_passDays_18 rfl ⟨rfl, hw, hF⟩
  | succ n ih =>
    intro i σ1 hi hQ hw hwo hF
    have hlt : i < k := by omega
    refine p_iload_n 2 3 rfl rfl dX7_passDays_2 rfl ?_
    refine p_iload_n 1 4 rfl rfl dX7_passDays_3 rfl ?_
    refine p_icmp_ge 18 7 rfl rfl dX7_passDays_4 (fun h4 => absurd h4 (nI_ge hlt (by omega))) (fun h4 => ?_)
    refine p_aload_n 0 8 rfl rfl dX7_passDays_7 rfl ?_
    refine p_cV0x 0 0 11 rfl dX7_passDays_8 (c_passDay hQ hY hw (daysF_ok hQ.1.2.1 hv i (by omega)) hwo) ml_X7_102 vl_X7_passDay hw.1.1.kd (by decide) rfl (Nat.le_of_ble_eq_true rfl) (Nat.le_of_ble_eq_true rfl) (Nat.le_of_ble_eq_true rfl) (Nat.le_of_ble_eq_true rfl) rfl ?_
    rintro x2 σ2 ⟨-, hw2, hF2⟩
    refine p_pop 12 rfl dX7_passDays_11 rfl ?_
    refine p_inc_2 15 rfl dX7_passDays_12 (1) rfl (Nat.le_of_ble_eq_true rfl) rfl ?_
    refine p_goto 2 rfl dX7_passDays_15 ?_
    rw [nI_1]
    exact ih (i + 1) σ2 (by omega) (hQ.wf hw.1.1 hF2) hw2 (by rw [hF2.2.2.2.1]; exact hwo) (hF.tr hF2)
set_option maxRecDepth 4000 in
theorem c_passDays (hQ : RpQ σ o O) (hY : OkY O) (hw : RpW σ w V) (hv : OkV O V) (hwo : hR σ w 0 = o) {k : Nat} (hk : vD V + k ≤ 100000) : CallOk Γ 6 0 0 mX7_passDays [.ref w, .int (nI k)] σ (rV (fun σ' => RpW σ' w (daysF O k V) ∧ WF w o σ σ')) := by
  refine p_enter rfl rfl (Nat.le_of_ble_eq_true rfl) rfl ?_
  refine p_iconst (0) 1 rfl dX7_passDays_0 rfl ?_
  refine p_ist_n2 2 rfl rfl dX7_passDays_1 (Nat.le_of_ble_eq_true rfl) rfl ?_
  exact l_passDays hY hv hk k 0 σ (by omega) hQ hw hwo Fr.rf
def telT (O : AO) (V : AW) (t : Nat) : AW := tch O V (clIn O V t) (kBy O V (clIn O V t))
def telF (O : AO) : Nat → AW → AW
  | 0, V => V
  | n + 1, V => telT O (telF O n V) n
theorem telF_ok {O : AO} {V : AW} (h : OkO O) (hv : OkV O V) : ∀ n, OkV O (telF O n V) := by
  intro n
  induction n with
  | zero => exact hv
  | succ n ih => exact tch_ok ih (kBy_lt h ih _)
set_option maxRecDepth 4000 in
theorem l_tellInTowns (hv : OkV O V) : ∀ (n i : Nat) (x2 : Option Value) (σ1 : PH), i + n = 4 → RpO σ1 o O → RpW σ1 w (telF O i V) → hR σ1 w 0 = o → WF w o σ σ1 → Ok Γ 3 0 0 mX7_tellInTowns 2 [some (.ref w), some (.int (nI i)), x2] [] σ1 (rV (fun σ' => RpW σ' w (telF O 4 V) ∧ WF w o σ σ')) := by
  intro n
  induction n with
  | zero =>
    intro i x2 σ1 hi ho hw hwo hF
    refine p_iload_n 1 3 rfl rfl dX7_tellInTowns_2 rfl ?_
    refine p_iconst (4) 4 rfl dX7_tellInTowns_3 rfl ?_
    refine p_icmp_ge 30 7 rfl rfl dX7_tellInTowns_4 (fun h4 => ?_) (fun h4 => absurd (nI_le (a := 4) (b := i) (by omega) (by omega)) h4)
    exact p_vret dX7_tellInTowns_30 rfl ⟨rfl, (show i = 4 by omega) ▸ hw, hF⟩
  | succ n ih =>
    intro i x2 σ1 hi ho hw hwo hF
    have hlt : i < 4 := by omega
    have hvi := telF_ok ho.2.1 hv i
    have hcl := clIn_lt ho.2.1 (telF O i V) i
    have hkb := kBy_lt ho.2.1 hvi (clIn O (telF O i V) i)
    refine p_iload_n 1 3 rfl rfl dX7_tellInTowns_2 rfl ?_
    refine p_iconst (4) 4 rfl dX7_tellInTowns_3 rfl ?_
    refine p_icmp_ge 30 7 rfl rfl dX7_tellInTowns_4 (fun h4 => absurd h4 (nI_ge (a := i) (b := 4) hlt (by omega))) (fun h4 => ?_)
    refine p_aload_n 0 8 rfl rfl dX7_tellInTowns_7 rfl ?_
    refine p_iload_n 1 9 rfl rfl dX7_tellInTowns_8 rfl ?_
    refine p_cV1i 12 rfl dX7_tellInTowns_9 (c_clerksIn ho hw hvi hwo (by omega)) ml_X7_123 vl_X7_clerksIn hw.1.1.kd (by decide) rfl (Nat.le_of_ble_eq_true rfl) (Nat.le_of_ble_eq_true rfl) rfl ?_
    refine p_ist_n2 13 rfl rfl dX7_tellInTowns_12 (Nat.le_of_ble_eq_true rfl) rfl ?_
    refine p_aload_n 0 14 rfl rfl dX7_tellInTowns_13 rfl ?_
    refine p_iload_n 2 15 rfl rfl dX7_tellInTowns_14 rfl ?_
    refine p_aload_n 0 16 rfl rfl dX7_tellInTowns_15 rfl ?_
    refine p_iload_n 2 17 rfl rfl dX7_tellInTowns_16 rfl ?_
    refine p_cV1i 20 rfl dX7_tellInTowns_17 (c_wordsKnownBy ho hw hvi hwo (by omega)) ml_X7_99 vl_X7_wordsKnownBy hw.1.1.kd (by decide) rfl (Nat.le_of_ble_eq_true rfl) (Nat.le_of_ble_eq_true rfl) rfl ?_
    refine p_cV2x 0 0 23 rfl dX7_tellInTowns_20 (c_teach ho hw hvi hwo (by omega) hkb) ml_X7_139 vl_X7_teach hw.1.1.kd (by decide) rfl (Nat.le_of_ble_eq_true rfl) (Nat.le_of_ble_eq_true rfl) (Nat.le_of_ble_eq_true rfl) (Nat.le_of_ble_eq_true rfl) rfl ?_
    rintro x2 σ2 ⟨-, hw2, hF2⟩
    refine p_pop 24 rfl dX7_tellInTowns_23 rfl ?_
    refine p_inc_1 27 rfl dX7_tellInTowns_24 (1) rfl (Nat.le_of_ble_eq_true rfl) rfl ?_
    refine p_goto 2 rfl dX7_tellInTowns_27 ?_
    rw [nI_1]
    exact ih (i + 1) _ σ2 (by omega) (ho.wf hw.1.1 hF2) hw2 (by rw [hF2.2.2.2.1]; exact hwo) (hF.tr hF2)
set_option maxRecDepth 4000 in
theorem c_tellInTowns (ho : RpO σ o O) (hw : RpW σ w V) (hv : OkV O V) (hwo : hR σ w 0 = o) : CallOk Γ 3 0 0 mX7_tellInTowns [.ref w] σ (rV (fun σ' => RpW σ' w (telF O 4 V) ∧ WF w o σ σ')) := by
  refine p_enter rfl rfl (Nat.le_of_ble_eq_true rfl) rfl ?_
  refine p_iconst (0) 1 rfl dX7_tellInTowns_0 rfl ?_
  refine p_ist_n1 2 rfl rfl dX7_tellInTowns_1 (Nat.le_of_ble_eq_true rfl) rfl ?_
  exact l_tellInTowns hv 4 0 none σ rfl ho hw hwo Fr.rf
end C41
