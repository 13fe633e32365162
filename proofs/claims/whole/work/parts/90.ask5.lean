/-! ===== the reference: toRead, heir, toSave, wisest, gathering ===== -/
section C90
variable {Γ : Gm} {σ : PH} {A : AT}
set_option maxRecDepth 4000 in
theorem l_mToRead {τ : PH} (hR0 : RM τ A) (h0 : hI τ M0 0 = 0) (hc1 : ChM σ τ) : ∀ (n i : Nat), i + n = aW (tO A) → Ok Γ 11 0 0 mX9_toRead 9 [some (.ref M0), some (.int (nI (rdF (tO A) (tV A) i))), some (.int (nI i))] [] τ (rM (0, nI (rdF (tO A) (tV A) (aW (tO A)))) (fun σ' => RM σ' A ∧ ChM σ σ')) := by
  have hK := hR0.2.1
  have hO := hK.2.2.1
  have hc6 := hO.2.1
  have hw12 := hO.2.2.1
  have hs9 := hO.1
  have hv := hK.2.2.2.2.1.1
  have hd9 := hK.2.2.2.2.1.2
  have hM := hR0.1
  have hw := hR0.2.2.1
  intro n
  induction n with
  | zero =>
    intro i hi
    refine p_iload_n 2 10 rfl rfl dX9_toRead_9 rfl ?_
    refine p_aload_n 0 11 rfl rfl dX9_toRead_10 rfl ?_
    refine p_getIE 9 3 14 rfl dX9_toRead_11 fl_X9_286 rfl rfl hM.2.2.1.2.2.1 ?_
    refine p_icmp_ge 67 17 rfl rfl dX9_toRead_14 (fun h14 => ?_) (fun h14 => absurd (nI_le (a := aW (tO A)) (b := i) (by omega) (by omega)) h14)
    refine p_iload_n 1 68 rfl rfl dX9_toRead_67 rfl ?_
    exact p_iret dX9_toRead_68 rfl ⟨_, rfl, h0, fun _ => by rw [show i = aW (tO A) by omega], hR0, hc1⟩
  | succ n ih =>
    intro i hi
    have hlt : i < aW (tO A) := by omega
    refine p_iload_n 2 10 rfl rfl dX9_toRead_9 rfl ?_
    refine p_aload_n 0 11 rfl rfl dX9_toRead_10 rfl ?_
    refine p_getIE 9 3 14 rfl dX9_toRead_11 fl_X9_286 rfl rfl hM.2.2.1.2.2.1 ?_
    refine p_icmp_ge 67 17 rfl rfl dX9_toRead_14 (fun h14 => absurd h14 (nI_ge (a := i) (b := aW (tO A)) (by omega) (by omega))) (fun h14 => ?_)
    have hl := hO.2.2.2.2.2 i hlt
    refine p_iload_n 1 18 rfl rfl dX9_toRead_17 rfl ?_
    refine p_aload_n 0 19 rfl rfl dX9_toRead_18 rfl ?_
    refine p_iconst (0) 20 rfl dX9_toRead_19 rfl ?_
    refine p_aload_n 0 21 rfl rfl dX9_toRead_20 rfl ?_
    refine p_getR 9 9 24 rfl dX9_toRead_21 fl_X9_23 rfl rfl (show hR _ M0 9 = mWl from hM.1 9) (by decide) ?_
    refine p_iload_n 2 25 rfl rfl dX9_toRead_24 rfl ?_
    refine p_ialdE 26 rfl dX9_toRead_25 (i := i) rfl (by show i < 12; omega) (hM.2.2.2.2.1 i hlt).1 ?_
    refine p_aload_n 0 27 rfl rfl dX9_toRead_26 rfl ?_
    refine p_getR 9 10 30 rfl dX9_toRead_27 fl_X9_26 rfl rfl (show hR _ M0 10 = mWr from hM.1 10) (by decide) ?_
    refine p_iload_n 2 31 rfl rfl dX9_toRead_30 rfl ?_
    refine p_ialdE 32 rfl dX9_toRead_31 (i := i) rfl (by show i < 12; omega) (hM.2.2.2.2.1 i hlt).2 ?_
    refine p_cV3i 35 rfl dX9_toRead_32 (c_doesFit hM hw hv (by decide) hl.1 hl.2) ml_X9_331 vl_X9_doesFit rfl (by decide) rfl (Nat.le_of_ble_eq_true rfl) (Nat.le_of_ble_eq_true rfl) rfl ?_
    refine p_if_eq 58 38 rfl rfl dX9_toRead_35 (fun h35 => ?_) (fun h35 => ?_)
    · refine p_iconst (0) 59 rfl dX9_toRead_58 rfl ?_
      refine p_ior 60 rfl dX9_toRead_59 ?_
      refine p_ist_n1 61 rfl rfl dX9_toRead_60 (Nat.le_of_ble_eq_true rfl) rfl ?_
      refine p_inc_2 64 rfl dX9_toRead_61 (1) rfl (Nat.le_of_ble_eq_true rfl) rfl ?_
      refine p_goto 9 rfl dX9_toRead_64 ?_
      have hb : fitt (tO A) (tV A) (aL (tO A) i) (aB (tO A) i) = false := by simpa only [b2i_eq0, b2i_1, Bool.not_eq_true, Decidable.not_not] using h35
      have e : rdF (tO A) (tV A) (i + 1) = rdF (tO A) (tV A) i := by simp [rdF, hb]
      rw [or0, nI_1, ← e]
      exact ih (i + 1) (by omega)
    · refine p_iconst (1) 39 rfl dX9_toRead_38 rfl ?_
      refine p_aload_n 0 40 rfl rfl dX9_toRead_39 rfl ?_
      refine p_getR 9 9 43 rfl dX9_toRead_40 fl_X9_23 rfl rfl (show hR _ M0 9 = mWl from hM.1 9) (by decide) ?_
      refine p_iload_n 2 44 rfl rfl dX9_toRead_43 rfl ?_
      refine p_ialdE 45 rfl dX9_toRead_44 (i := i) rfl (by show i < 12; omega) (hM.2.2.2.2.1 i hlt).1 ?_
      refine p_ishl 46 rfl dX9_toRead_45 ?_
      rw [one_shl _ (by omega)]
      refine p_iconst (1) 47 rfl dX9_toRead_46 rfl ?_
      refine p_aload_n 0 48 rfl rfl dX9_toRead_47 rfl ?_
      refine p_getR 9 10 51 rfl dX9_toRead_48 fl_X9_26 rfl rfl (show hR _ M0 10 = mWr from hM.1 10) (by decide) ?_
      refine p_iload_n 2 52 rfl rfl dX9_toRead_51 rfl ?_
      refine p_ialdE 53 rfl dX9_toRead_52 (i := i) rfl (by show i < 12; omega) (hM.2.2.2.2.1 i hlt).2 ?_
      refine p_ishl 54 rfl dX9_toRead_53 ?_
      rw [one_shl _ (by omega)]
      refine p_ior 55 rfl dX9_toRead_54 ?_
      rw [nx_or]
      refine p_goto 59 rfl dX9_toRead_55 ?_
      refine p_ior 60 rfl dX9_toRead_59 ?_
      refine p_ist_n1 61 rfl rfl dX9_toRead_60 (Nat.le_of_ble_eq_true rfl) rfl ?_
      refine p_inc_2 64 rfl dX9_toRead_61 (1) rfl (Nat.le_of_ble_eq_true rfl) rfl ?_
      refine p_goto 9 rfl dX9_toRead_64 ?_
      have hb : fitt (tO A) (tV A) (aL (tO A) i) (aB (tO A) i) = true := by simpa only [b2i_eq0, b2i_1, Decidable.not_not, Bool.not_eq_true, Bool.not_eq_false] using h35
      have e : rdF (tO A) (tV A) (i + 1) = rdF (tO A) (tV A) i ||| (2 ^ aL (tO A) i ||| 2 ^ aB (tO A) i) := by simp [rdF, hb]
      rw [nx_or, nI_1, ← e]
      exact ih (i + 1) (by omega)
set_option maxRecDepth 4000 in
theorem q_toRead (hRM : RM σ A) : CallOk Γ 12 0 0 mX9_toRead [.ref M0] σ (rM (0, nI (rdF (tO A) (tV A) (aW (tO A)))) (fun σ' => RM σ' A ∧ ChM σ σ')) := by
  have hK := hRM.2.1
  have hO := hK.2.2.1
  have hs9 := hO.1
  have hc6 := hO.2.1
  have hw12 := hO.2.2.1
  have hk8 := hO.2.2.2.1
  have hv := hK.2.2.2.2.1.1
  have hd9 := hK.2.2.2.2.1.2
  refine p_enter rfl rfl (Nat.le_of_ble_eq_true rfl) rfl ?_
  refine p_aload_n 0 1 rfl rfl dX9_toRead_0 rfl ?_
  refine p_iconst (0) 2 rfl dX9_toRead_1 rfl ?_
  refine p_putI 9 0 5 rfl dX9_toRead_2 fl_X9_102 rfl rfl (Or.inl rfl) ?_
  have hQ : FQ σ (sI σ M0 0 0) := FQ.th
  have hR0 := hRM.q hQ
  have h0 : hI (sI σ M0 0 0) M0 0 = 0 := hI_sI _ _ _ _
  generalize sI σ M0 0 0 = τ at hQ hR0 h0 ⊢
  have hM := hR0.1
  have hw := hR0.2.2.1
  refine p_iconst (0) 6 rfl dX9_toRead_5 rfl ?_
  refine p_ist_n1 7 rfl rfl dX9_toRead_6 (Nat.le_of_ble_eq_true rfl) rfl ?_
  refine p_iconst (0) 8 rfl dX9_toRead_7 rfl ?_
  refine p_ist_n2 9 rfl rfl dX9_toRead_8 (Nat.le_of_ble_eq_true rfl) rfl ?_
  exact Ok.sub (l_mToRead hR0 h0 hQ.ch (aW (tO A)) 0 (by omega)) (by decide) (by decide) (by decide)
set_option maxRecDepth 4000 in
theorem l_mHeir {τ : PH} (hR0 : RM τ A) (h0 : hI τ M0 0 = 0) (hc1 : ChM σ τ) {c : Nat} (hc : c < aC (tO A)) : ∀ (n i : Nat) (x5 : Option Value), i + n = aC (tO A) → Ok Γ 11 0 0 mX9_heir 22 [some (.ref M0), some (.int (nI c)), some (.int (oI (wbs (fun o => o != c) (fun o => pop (vK (tV A) o &&& vK (tV A) c)) i))), some (.int (wbv (fun o => pop (vK (tV A) o &&& vK (tV A) c)) (wbs (fun o => o != c) (fun o => pop (vK (tV A) o &&& vK (tV A) c)) i))), some (.int (nI i)), x5] [] τ (rM (0, oI (wbs (fun o => o != c) (fun o => pop (vK (tV A) o &&& vK (tV A) c)) (aC (tO A)))) (fun σ' => RM σ' A ∧ ChM σ σ')) := by
  have hK := hR0.2.1
  have hO := hK.2.2.1
  have hc6 := hO.2.1
  have hw12 := hO.2.2.1
  have hs9 := hO.1
  have hv := hK.2.2.2.2.1.1
  have hd9 := hK.2.2.2.2.1.2
  have hM := hR0.1
  have hw := hR0.2.2.1
  have hf : ∀ o, (fun o => pop (vK (tV A) o &&& vK (tV A) c)) o < 100 := fun o => Nat.lt_of_le_of_lt (popN_le _ _) (by decide)
  intro n
  induction n with
  | zero =>
    intro i x5 hi
    refine p_iload 4 24 rfl dX9_heir_22 rfl ?_
    refine p_aload_n 0 25 rfl rfl dX9_heir_24 rfl ?_
    refine p_getIE 9 2 28 rfl dX9_heir_25 fl_X9_283 rfl rfl hM.2.2.1.2.1 ?_
    refine p_icmp_ge 83 31 rfl rfl dX9_heir_28 (fun h28 => ?_) (fun h28 => absurd (nI_le (a := aC (tO A)) (b := i) (by omega) (by omega)) h28)
    refine p_iload_n 2 84 rfl rfl dX9_heir_83 rfl ?_
    exact p_iret dX9_heir_84 rfl ⟨_, rfl, h0, fun _ => by rw [show i = aC (tO A) by omega], hR0, hc1⟩
  | succ n ih =>
    intro i x5 hi
    have hlt : i < aC (tO A) := by omega
    refine p_iload 4 24 rfl dX9_heir_22 rfl ?_
    refine p_aload_n 0 25 rfl rfl dX9_heir_24 rfl ?_
    refine p_getIE 9 2 28 rfl dX9_heir_25 fl_X9_283 rfl rfl hM.2.2.1.2.1 ?_
    refine p_icmp_ge 83 31 rfl rfl dX9_heir_28 (fun h28 => absurd h28 (nI_ge (a := i) (b := aC (tO A)) (by omega) (by omega))) (fun h28 => ?_)
    refine p_aload_n 0 32 rfl rfl dX9_heir_31 rfl ?_
    refine p_getR 9 44 35 rfl dX9_heir_32 fl_X9_66 rfl rfl (show hR _ M0 44 = mRo from hM.1 44) (by decide) ?_
    refine p_bipush (28) 37 rfl dX9_heir_35 rfl ?_
    refine p_iload_n 1 38 rfl rfl dX9_heir_37 rfl ?_
    refine p_iadd 39 rfl dX9_heir_38 ?_
    rw [ix0 28 c 28 rfl]
    refine p_ialdE 40 rfl dX9_heir_39 (i := 28 + c) rfl (by show _ < 68; omega) (kn0 hw hc) ?_
    refine p_aload_n 0 41 rfl rfl dX9_heir_40 rfl ?_
    refine p_getR 9 44 44 rfl dX9_heir_41 fl_X9_66 rfl rfl (show hR _ M0 44 = mRo from hM.1 44) (by decide) ?_
    refine p_bipush (28) 46 rfl dX9_heir_44 rfl ?_
    refine p_iload 4 48 rfl dX9_heir_46 rfl ?_
    refine p_iadd 49 rfl dX9_heir_48 ?_
    rw [ix0 28 i 28 rfl]
    refine p_ialdE 50 rfl dX9_heir_49 (i := 28 + i) rfl (by show _ < 68; omega) (kn0 hw hlt) ?_
    refine p_iand 51 rfl dX9_heir_50 ?_
    rw [nx_and]
    refine p_cS1i 54 rfl dX9_heir_51 (c_bits (Nat.lt_of_le_of_lt Nat.and_le_left (by have := hv.2.2.2 c (by omega); omega))) ml_X9_316 sl_X9_bits (Nat.le_of_ble_eq_true rfl) (Nat.le_of_ble_eq_true rfl) rfl ?_
    rw [show pop (vK (tV A) c &&& vK (tV A) i) = (fun o => pop (vK (tV A) o &&& vK (tV A) c)) i by rw [Nat.and_comm]]
    refine p_ist_5 56 rfl dX9_heir_54 (Nat.le_of_ble_eq_true rfl) rfl ?_
    refine p_iload 4 58 rfl dX9_heir_56 rfl ?_
    refine p_iload_n 1 59 rfl rfl dX9_heir_58 rfl ?_
    refine p_icmp_eq 77 62 rfl rfl dX9_heir_59 (fun h59 => ?_) (fun h59 => ?_)
    · refine p_inc_4 80 rfl dX9_heir_77 (1) rfl (Nat.le_of_ble_eq_true rfl) rfl ?_
      refine p_goto 22 rfl dX9_heir_80 ?_
      have hpi : ¬ (fun o => o != c) i = true := by have := nI_eqI h59 (by omega) (by omega); simp [this]
      rw [nI_1, ← wbs_f (i := i) hf (Or.inl hpi)]
      exact ih (i + 1) _ (by omega)
    · refine p_iload 5 64 rfl dX9_heir_62 rfl ?_
      refine p_iload_n 3 65 rfl rfl dX9_heir_64 rfl ?_
      refine p_icmp_gt 71 68 rfl rfl dX9_heir_65 (fun h65 => ?_) (fun h65 => ?_)
      · refine p_iload 4 73 rfl dX9_heir_71 rfl ?_
        refine p_ist_n2 74 rfl rfl dX9_heir_73 (Nat.le_of_ble_eq_true rfl) rfl ?_
        refine p_iload 5 76 rfl dX9_heir_74 rfl ?_
        refine p_ist_n3 77 rfl rfl dX9_heir_76 (Nat.le_of_ble_eq_true rfl) rfl ?_
        refine p_inc_4 80 rfl dX9_heir_77 (1) rfl (Nat.le_of_ble_eq_true rfl) rfl ?_
        refine p_goto 22 rfl dX9_heir_80 ?_
        have hpi : (fun o => o != c) i = true := by simp only [bne_iff_ne]; exact fun q => h59 (by rw [q])
        have e := wbs_t (p := (fun o => o != c)) (i := i) hpi hf (Int32.not_le.mpr h65)
        have g := ih (i + 1) (some (.int (nI ((fun o => pop (vK (tV A) o &&& vK (tV A) c)) i)))) (by omega)
        rw [e] at g
        rw [nI_1]
        exact g
      · refine p_goto 77 rfl dX9_heir_68 ?_
        refine p_inc_4 80 rfl dX9_heir_77 (1) rfl (Nat.le_of_ble_eq_true rfl) rfl ?_
        refine p_goto 22 rfl dX9_heir_80 ?_
        have hpi : (fun o => o != c) i = true := by simp only [bne_iff_ne]; exact fun q => h59 (by rw [q])
        rw [nI_1, ← wbs_f (p := (fun o => o != c)) (i := i) hf (Or.inr (Int32.not_lt.mp h65))]
        exact ih (i + 1) _ (by omega)
set_option maxRecDepth 8000 in
theorem q_heir (hRM : RM σ A) (x : Int32) : CallOk Γ 12 0 0 mX9_heir [.ref M0, .int x] σ (rM (fHeir A x) (fun σ' => RM σ' A ∧ ChM σ σ')) := by
  have hK := hRM.2.1
  have hO := hK.2.2.1
  have hs9 := hO.1
  have hc6 := hO.2.1
  have hw12 := hO.2.2.1
  have hk8 := hO.2.2.2.1
  have hv := hK.2.2.2.2.1.1
  have hd9 := hK.2.2.2.2.1.2
  refine p_enter rfl rfl (Nat.le_of_ble_eq_true rfl) rfl ?_
  refine p_aload_n 0 1 rfl rfl dX9_heir_0 rfl ?_
  refine p_iconst (0) 2 rfl dX9_heir_1 rfl ?_
  refine p_putI 9 0 5 rfl dX9_heir_2 fl_X9_102 rfl rfl (Or.inl rfl) ?_
  have hQ : FQ σ (sI σ M0 0 0) := FQ.th
  have hR0 := hRM.q hQ
  have h0 : hI (sI σ M0 0 0) M0 0 = 0 := hI_sI _ _ _ _
  generalize sI σ M0 0 0 = τ at hQ hR0 h0 ⊢
  have hM := hR0.1
  have hw := hR0.2.2.1
  refine p_aload_n 0 6 rfl rfl dX9_heir_5 rfl ?_
  refine p_iload_n 1 7 rfl rfl dX9_heir_6 rfl ?_
  refine p_cV1x 0 0 10 rfl dX9_heir_7 (c_isClerk hM h0 _) ml_X9_387 vl_X9_isClerk rfl (by decide) rfl (Nat.le_of_ble_eq_true rfl) (Nat.le_of_ble_eq_true rfl) (Nat.le_of_ble_eq_true rfl) (Nat.le_of_ble_eq_true rfl) rfl ?_
  intro v0 τ0 hp0
  obtain ⟨hv0, ht0, hf0⟩ := hp0
  subst hv0
  refine p_if_ne 15 13 rfl rfl dX9_heir_10 (fun h10 => ?_) (fun h10 => ?_)
  · have hb0 : inR x (aC (tO A)) = true := by simpa only [b2i_eq0, Decidable.not_not, Bool.not_eq_true, Bool.not_eq_false] using h10
    have ee0 := ht0 hb0
    subst ee0
    obtain ⟨c, rfl, hc⟩ := asN hb0 (by omega)
    have hcL : c < 2147483648 := by omega
    refine p_iconst (-1) 16 rfl dX9_heir_15 rfl ?_
    refine p_ist_n2 17 rfl rfl dX9_heir_16 (Nat.le_of_ble_eq_true rfl) rfl ?_
    refine p_iconst (-1) 18 rfl dX9_heir_17 rfl ?_
    refine p_ist_n3 19 rfl rfl dX9_heir_18 (Nat.le_of_ble_eq_true rfl) rfl ?_
    refine p_iconst (0) 20 rfl dX9_heir_19 rfl ?_
    refine p_ist_4 22 rfl dX9_heir_20 (Nat.le_of_ble_eq_true rfl) rfl ?_
    have e : fHeir A (nI c) = (0, oI (wbs (fun o => o != c) (fun o => pop (vK (tV A) o &&& vK (tV A) c)) (aC (tO A)))) := by rw [fHeir, gd_t hb0, iN_nI hcL]
    rw [e]
    exact Ok.sub (l_mHeir hR0 h0 hQ.ch hc (aC (tO A)) 0 _ (by omega)) (by decide) (by decide) (by decide)
  · have hb0 : inR x (aC (tO A)) = false := by simpa only [b2i_eq0, Bool.not_eq_true, Decidable.not_not] using h10
    have ee0 := hf0 hb0
    subst ee0
    refine p_iconst (0) 14 rfl dX9_heir_13 rfl ?_
    exact p_iret dX9_heir_14 rfl ⟨_, rfl, by rw [fHeir, gd_f hb0]; exact hI_sI _ _ _ _, fun q => absurd q (by rw [fHeir, gd_f hb0]; decide), (hRM.q hQ).q FQ.th, (hQ.tr FQ.th).ch⟩
set_option maxRecDepth 4000 in
theorem l_mToSave {τ : PH} (hR0 : RM τ A) (h0 : hI τ M0 0 = 0) (hc1 : ChM σ τ) {t : Nat} (ht : t < 4) : ∀ (n i : Nat), i + n = aS (tO A) → Ok Γ 11 0 0 mX9_toSave 36 [some (.ref M0), some (.int (nI t)), some (.int (nI (shAt (tO A) (tV A) (t + 1)))), some (.int (oI (lsv (fun s => (shAt (tO A) (tV A) (t + 1)).testBit s) (fun s => pop (wLost (tO A) (tV A) ((shAt (tO A) (tV A) (t + 1)) ^^^ ((shAt (tO A) (tV A) (t + 1)) &&& 2 ^ s)))) (pop (wLost (tO A) (tV A) (shAt (tO A) (tV A) (t + 1)))) i).1)), some (.int (nI (lsv (fun s => (shAt (tO A) (tV A) (t + 1)).testBit s) (fun s => pop (wLost (tO A) (tV A) ((shAt (tO A) (tV A) (t + 1)) ^^^ ((shAt (tO A) (tV A) (t + 1)) &&& 2 ^ s)))) (pop (wLost (tO A) (tV A) (shAt (tO A) (tV A) (t + 1)))) i).2)), some (.int (nI i))] [] τ (rM (0, oI (lsv (fun s => (shAt (tO A) (tV A) (t + 1)).testBit s) (fun s => pop (wLost (tO A) (tV A) ((shAt (tO A) (tV A) (t + 1)) ^^^ ((shAt (tO A) (tV A) (t + 1)) &&& 2 ^ s)))) (pop (wLost (tO A) (tV A) (shAt (tO A) (tV A) (t + 1)))) (aS (tO A))).1) (fun σ' => RM σ' A ∧ ChM σ σ')) := by
  have hK := hR0.2.1
  have hO := hK.2.2.1
  have hc6 := hO.2.1
  have hw12 := hO.2.2.1
  have hs9 := hO.1
  have hv := hK.2.2.2.2.1.1
  have hd9 := hK.2.2.2.2.1.2
  have hM := hR0.1
  have hw := hR0.2.2.1
  have hf : ∀ o, (fun s => pop (wLost (tO A) (tV A) ((shAt (tO A) (tV A) (t + 1)) ^^^ ((shAt (tO A) (tV A) (t + 1)) &&& 2 ^ s)))) o < 100 := fun o => Nat.lt_of_le_of_lt (popN_le _ _) (by decide)
  have hl : ∀ n, (lsv (fun s => (shAt (tO A) (tV A) (t + 1)).testBit s) (fun s => pop (wLost (tO A) (tV A) ((shAt (tO A) (tV A) (t + 1)) ^^^ ((shAt (tO A) (tV A) (t + 1)) &&& 2 ^ s)))) (pop (wLost (tO A) (tV A) (shAt (tO A) (tV A) (t + 1)))) n).2 < 100 := lsv_lt hf (Nat.lt_of_le_of_lt (popN_le _ _) (by decide))
  have hS : (shAt (tO A) (tV A) (t + 1)) < 2 ^ 31 := Nat.lt_trans (shAt_lt hO _ _) (by decide)
  intro n
  induction n with
  | zero =>
    intro i hi
    refine p_iload 5 38 rfl dX9_toSave_36 rfl ?_
    refine p_aload_n 0 39 rfl rfl dX9_toSave_38 rfl ?_
    refine p_getIE 9 1 42 rfl dX9_toSave_39 fl_X9_280 rfl rfl hM.2.2.1.1 ?_
    refine p_icmp_ge 103 45 rfl rfl dX9_toSave_42 (fun h42 => ?_) (fun h42 => absurd (nI_le (a := aS (tO A)) (b := i) (by omega) (by omega)) h42)
    refine p_iload_n 3 104 rfl rfl dX9_toSave_103 rfl ?_
    exact p_iret dX9_toSave_104 rfl ⟨_, rfl, h0, fun _ => by rw [show i = aS (tO A) by omega], hR0, hc1⟩
  | succ n ih =>
    intro i hi
    have hlt : i < aS (tO A) := by omega
    refine p_iload 5 38 rfl dX9_toSave_36 rfl ?_
    refine p_aload_n 0 39 rfl rfl dX9_toSave_38 rfl ?_
    refine p_getIE 9 1 42 rfl dX9_toSave_39 fl_X9_280 rfl rfl hM.2.2.1.1 ?_
    refine p_icmp_ge 103 45 rfl rfl dX9_toSave_42 (fun h42 => absurd h42 (nI_ge (a := i) (b := aS (tO A)) (by omega) (by omega))) (fun h42 => ?_)
    refine p_iload_n 2 46 rfl rfl dX9_toSave_45 rfl ?_
    refine p_iload 5 48 rfl dX9_toSave_46 rfl ?_
    refine p_ishr 49 rfl dX9_toSave_48 ?_
    refine p_iconst (1) 50 rfl dX9_toSave_49 rfl ?_
    refine p_iand 51 rfl dX9_toSave_50 ?_
    rw [sb1 hS (by omega)]
    refine p_if_eq 97 54 rfl rfl dX9_toSave_51 (fun h51 => ?_) (fun h51 => ?_)
    · refine p_inc_5 100 rfl dX9_toSave_97 (1) rfl (Nat.le_of_ble_eq_true rfl) rfl ?_
      refine p_goto 36 rfl dX9_toSave_100 ?_
      have hb : (shAt (tO A) (tV A) (t + 1)).testBit i = false := by simpa only [b2i_eq0, b2i_1, Bool.not_eq_true, Decidable.not_not] using h51
      rw [nI_1, ← lsv_f (i := i) (p := (fun s => (shAt (tO A) (tV A) (t + 1)).testBit s)) (f := (fun s => pop (wLost (tO A) (tV A) ((shAt (tO A) (tV A) (t + 1)) ^^^ ((shAt (tO A) (tV A) (t + 1)) &&& 2 ^ s))))) (m0 := (pop (wLost (tO A) (tV A) (shAt (tO A) (tV A) (t + 1))))) (Or.inl (by show ¬ (shAt (tO A) (tV A) (t + 1)).testBit i = true; rw [hb]; decide))]
      exact ih (i + 1) (by omega)
    · refine p_aload_n 0 55 rfl rfl dX9_toSave_54 rfl ?_
      refine p_iload_n 2 56 rfl rfl dX9_toSave_55 rfl ?_
      refine p_iconst (1) 57 rfl dX9_toSave_56 rfl ?_
      refine p_iload 5 59 rfl dX9_toSave_57 rfl ?_
      refine p_ishl 60 rfl dX9_toSave_59 ?_
      rw [one_shl _ (by omega)]
      refine p_iconst (-1) 61 rfl dX9_toSave_60 rfl ?_
      refine p_ixor 62 rfl dX9_toSave_61 ?_
      refine p_iand 63 rfl dX9_toSave_62 ?_
      rw [and_not_nI]
      refine p_cV1i 66 rfl dX9_toSave_63 (c_lostBy hM hw hv (Nat.lt_of_le_of_lt (xor_le _ _) hS)) ml_X9_408 vl_X9_lostBy rfl (by decide) rfl (Nat.le_of_ble_eq_true rfl) (Nat.le_of_ble_eq_true rfl) rfl ?_
      refine p_cS1i 69 rfl dX9_toSave_66 (c_bits (Nat.lt_trans (Nat.lt_of_lt_of_le (setN_lt _ _) (Nat.pow_le_pow_right (by decide) hw12)) (by decide))) ml_X9_316 sl_X9_bits (Nat.le_of_ble_eq_true rfl) (Nat.le_of_ble_eq_true rfl) rfl ?_
      refine p_iload 4 71 rfl dX9_toSave_69 rfl ?_
      refine p_icmp_lt 77 74 rfl rfl dX9_toSave_71 (fun h71 => ?_) (fun h71 => ?_)
      · refine p_iload 5 79 rfl dX9_toSave_77 rfl ?_
        refine p_ist_n3 80 rfl rfl dX9_toSave_79 (Nat.le_of_ble_eq_true rfl) rfl ?_
        refine p_aload_n 0 81 rfl rfl dX9_toSave_80 rfl ?_
        refine p_iload_n 2 82 rfl rfl dX9_toSave_81 rfl ?_
        refine p_iconst (1) 83 rfl dX9_toSave_82 rfl ?_
        refine p_iload 5 85 rfl dX9_toSave_83 rfl ?_
        refine p_ishl 86 rfl dX9_toSave_85 ?_
        rw [one_shl _ (by omega)]
        refine p_iconst (-1) 87 rfl dX9_toSave_86 rfl ?_
        refine p_ixor 88 rfl dX9_toSave_87 ?_
        refine p_iand 89 rfl dX9_toSave_88 ?_
        rw [and_not_nI]
        refine p_cV1i 92 rfl dX9_toSave_89 (c_lostBy hM hw hv (Nat.lt_of_le_of_lt (xor_le _ _) hS)) ml_X9_408 vl_X9_lostBy rfl (by decide) rfl (Nat.le_of_ble_eq_true rfl) (Nat.le_of_ble_eq_true rfl) rfl ?_
        refine p_cS1i 95 rfl dX9_toSave_92 (c_bits (Nat.lt_trans (Nat.lt_of_lt_of_le (setN_lt _ _) (Nat.pow_le_pow_right (by decide) hw12)) (by decide))) ml_X9_316 sl_X9_bits (Nat.le_of_ble_eq_true rfl) (Nat.le_of_ble_eq_true rfl) rfl ?_
        refine p_ist_4 97 rfl dX9_toSave_95 (Nat.le_of_ble_eq_true rfl) rfl ?_
        refine p_inc_5 100 rfl dX9_toSave_97 (1) rfl (Nat.le_of_ble_eq_true rfl) rfl ?_
        refine p_goto 36 rfl dX9_toSave_100 ?_
        have hb : (shAt (tO A) (tV A) (t + 1)).testBit i = true := by simpa only [b2i_eq0, b2i_1, Decidable.not_not, Bool.not_eq_true, Bool.not_eq_false] using h51
        have hlt2 : (fun s => pop (wLost (tO A) (tV A) ((shAt (tO A) (tV A) (t + 1)) ^^^ ((shAt (tO A) (tV A) (t + 1)) &&& 2 ^ s)))) i < (lsv (fun s => (shAt (tO A) (tV A) (t + 1)).testBit s) (fun s => pop (wLost (tO A) (tV A) ((shAt (tO A) (tV A) (t + 1)) ^^^ ((shAt (tO A) (tV A) (t + 1)) &&& 2 ^ s)))) (pop (wLost (tO A) (tV A) (shAt (tO A) (tV A) (t + 1)))) i).2 := (Nat.lt_or_ge ((fun s => pop (wLost (tO A) (tV A) ((shAt (tO A) (tV A) (t + 1)) ^^^ ((shAt (tO A) (tV A) (t + 1)) &&& 2 ^ s)))) i) (lsv (fun s => (shAt (tO A) (tV A) (t + 1)).testBit s) (fun s => pop (wLost (tO A) (tV A) ((shAt (tO A) (tV A) (t + 1)) ^^^ ((shAt (tO A) (tV A) (t + 1)) &&& 2 ^ s)))) (pop (wLost (tO A) (tV A) (shAt (tO A) (tV A) (t + 1)))) i).2).elim id (fun q => absurd h71 (nI_nlt q (Nat.lt_trans (hf i) (by decide))))
        have e := lsv_t (i := i) (p := (fun s => (shAt (tO A) (tV A) (t + 1)).testBit s)) (f := (fun s => pop (wLost (tO A) (tV A) ((shAt (tO A) (tV A) (t + 1)) ^^^ ((shAt (tO A) (tV A) (t + 1)) &&& 2 ^ s))))) (m0 := (pop (wLost (tO A) (tV A) (shAt (tO A) (tV A) (t + 1))))) hb hlt2
        have g := ih (i + 1) (by omega)
        rw [e] at g
        rw [nI_1]
        exact g
      · refine p_goto 97 rfl dX9_toSave_74 ?_
        refine p_inc_5 100 rfl dX9_toSave_97 (1) rfl (Nat.le_of_ble_eq_true rfl) rfl ?_
        refine p_goto 36 rfl dX9_toSave_100 ?_
        have hb : (shAt (tO A) (tV A) (t + 1)).testBit i = true := by simpa only [b2i_eq0, b2i_1, Decidable.not_not, Bool.not_eq_true, Bool.not_eq_false] using h51
        rw [nI_1, ← lsv_f (i := i) (p := (fun s => (shAt (tO A) (tV A) (t + 1)).testBit s)) (f := (fun s => pop (wLost (tO A) (tV A) ((shAt (tO A) (tV A) (t + 1)) ^^^ ((shAt (tO A) (tV A) (t + 1)) &&& 2 ^ s))))) (m0 := (pop (wLost (tO A) (tV A) (shAt (tO A) (tV A) (t + 1))))) (Or.inr (fun q => h71 (nI_lt q (by have := hl i; omega))))]
        exact ih (i + 1) (by omega)
set_option maxRecDepth 8000 in
theorem q_toSave (hRM : RM σ A) (x : Int32) : CallOk Γ 12 0 0 mX9_toSave [.ref M0, .int x] σ (rM (fToSave A x) (fun σ' => RM σ' A ∧ ChM σ σ')) := by
  have hK := hRM.2.1
  have hO := hK.2.2.1
  have hs9 := hO.1
  have hc6 := hO.2.1
  have hw12 := hO.2.2.1
  have hk8 := hO.2.2.2.1
  have hv := hK.2.2.2.2.1.1
  have hd9 := hK.2.2.2.2.1.2
  refine p_enter rfl rfl (Nat.le_of_ble_eq_true rfl) rfl ?_
  refine p_aload_n 0 1 rfl rfl dX9_toSave_0 rfl ?_
  refine p_iconst (0) 2 rfl dX9_toSave_1 rfl ?_
  refine p_putI 9 0 5 rfl dX9_toSave_2 fl_X9_102 rfl rfl (Or.inl rfl) ?_
  have hQ : FQ σ (sI σ M0 0 0) := FQ.th
  have hR0 := hRM.q hQ
  have h0 : hI (sI σ M0 0 0) M0 0 = 0 := hI_sI _ _ _ _
  generalize sI σ M0 0 0 = τ at hQ hR0 h0 ⊢
  have hM := hR0.1
  have hw := hR0.2.2.1
  refine p_aload_n 0 6 rfl rfl dX9_toSave_5 rfl ?_
  refine p_iload_n 1 7 rfl rfl dX9_toSave_6 rfl ?_
  refine p_cV1x 0 0 10 rfl dX9_toSave_7 (c_isTown h0 _) ml_X9_402 vl_X9_isTown rfl (by decide) rfl (Nat.le_of_ble_eq_true rfl) (Nat.le_of_ble_eq_true rfl) (Nat.le_of_ble_eq_true rfl) (Nat.le_of_ble_eq_true rfl) rfl ?_
  intro v0 τ0 hp0
  obtain ⟨hv0, ht0, hf0⟩ := hp0
  subst hv0
  refine p_if_ne 15 13 rfl rfl dX9_toSave_10 (fun h10 => ?_) (fun h10 => ?_)
  · have hb0 : inR x 4 = true := by simpa only [b2i_eq0, Decidable.not_not, Bool.not_eq_true, Bool.not_eq_false] using h10
    have ee0 := ht0 hb0
    subst ee0
    obtain ⟨t, rfl, ht⟩ := asN hb0 (by omega)
    have htL : t < 2147483648 := by omega
    refine p_aload_n 0 16 rfl rfl dX9_toSave_15 rfl ?_
    refine p_iload_n 1 17 rfl rfl dX9_toSave_16 rfl ?_
    refine p_cV1i 20 rfl dX9_toSave_17 (c_mArchive hM hw hv ht) ml_X9_405 vl_X9_archive rfl (by decide) rfl (Nat.le_of_ble_eq_true rfl) (Nat.le_of_ble_eq_true rfl) rfl ?_
    refine p_ist_n2 21 rfl rfl dX9_toSave_20 (Nat.le_of_ble_eq_true rfl) rfl ?_
    refine p_iconst (-1) 22 rfl dX9_toSave_21 rfl ?_
    refine p_ist_n3 23 rfl rfl dX9_toSave_22 (Nat.le_of_ble_eq_true rfl) rfl ?_
    refine p_aload_n 0 24 rfl rfl dX9_toSave_23 rfl ?_
    refine p_iload_n 2 25 rfl rfl dX9_toSave_24 rfl ?_
    refine p_cV1i 28 rfl dX9_toSave_25 (c_lostBy hM hw hv (Nat.lt_trans (shAt_lt hO (tV A) (t + 1)) (by decide))) ml_X9_408 vl_X9_lostBy rfl (by decide) rfl (Nat.le_of_ble_eq_true rfl) (Nat.le_of_ble_eq_true rfl) rfl ?_
    refine p_cS1i 31 rfl dX9_toSave_28 (c_bits (Nat.lt_trans (Nat.lt_of_lt_of_le (setN_lt _ _) (Nat.pow_le_pow_right (by decide) hw12)) (by decide))) ml_X9_316 sl_X9_bits (Nat.le_of_ble_eq_true rfl) (Nat.le_of_ble_eq_true rfl) rfl ?_
    refine p_ist_4 33 rfl dX9_toSave_31 (Nat.le_of_ble_eq_true rfl) rfl ?_
    refine p_iconst (0) 34 rfl dX9_toSave_33 rfl ?_
    refine p_ist_5 36 rfl dX9_toSave_34 (Nat.le_of_ble_eq_true rfl) rfl ?_
    have e : fToSave A (nI t) = (0, oI (lsv (fun s => (shAt (tO A) (tV A) (t + 1)).testBit s) (fun s => pop (wLost (tO A) (tV A) ((shAt (tO A) (tV A) (t + 1)) ^^^ ((shAt (tO A) (tV A) (t + 1)) &&& 2 ^ s)))) (pop (wLost (tO A) (tV A) (shAt (tO A) (tV A) (t + 1)))) (aS (tO A))).1) := by rw [fToSave, gd_t hb0, iN_nI htL]
    rw [e]
    exact Ok.sub (l_mToSave hR0 h0 hQ.ch ht (aS (tO A)) 0 (by omega)) (by decide) (by decide) (by decide)
  · have hb0 : inR x 4 = false := by simpa only [b2i_eq0, Bool.not_eq_true, Decidable.not_not] using h10
    have ee0 := hf0 hb0
    subst ee0
    refine p_iconst (0) 14 rfl dX9_toSave_13 rfl ?_
    exact p_iret dX9_toSave_14 rfl ⟨_, rfl, by rw [fToSave, gd_f hb0]; exact hI_sI _ _ _ _, fun q => absurd q (by rw [fToSave, gd_f hb0]; decide), (hRM.q hQ).q FQ.th, (hQ.tr FQ.th).ch⟩
set_option maxRecDepth 4000 in
theorem l_mWisest {σ1 : PH} (hR1 : RM σ1 A) (h01 : hI σ1 M0 0 = 0) (hc1 : ChM σ σ1) {d : Nat} (hd : d ≤ 40) (hw1 : RowM true (hA σ1 mRo) 34 (tO A) (daysF (tO A) d (tV A))) : ∀ (n i : Nat), i + n = aC (tO A) → Ok Γ 11 0 0 mX9_wisest 26 [some (.ref M0), some (.int (nI d)), some (.int (oI (wbs (fun _ => true) (fun c => pop (vK (daysF (tO A) d (tV A)) c)) i))), some (.int (nI i))] [] σ1 (rM (0, oI (wbs (fun _ => true) (fun c => pop (vK (daysF (tO A) d (tV A)) c)) (aC (tO A)))) (fun σ' => RM σ' A ∧ ChM σ σ')) := by
  have hK := hR1.2.1
  have hO := hK.2.2.1
  have hc6 := hO.2.1
  have hw12 := hO.2.2.1
  have hs9 := hO.1
  have hv := hK.2.2.2.2.1.1
  have hd9 := hK.2.2.2.2.1.2
  have hM1 := hR1.1
  have hv1 := daysF_ok hO hv d (by omega)
  intro n
  induction n with
  | zero =>
    intro i hi
    refine p_iload_n 3 27 rfl rfl dX9_wisest_26 rfl ?_
    refine p_aload_n 0 28 rfl rfl dX9_wisest_27 rfl ?_
    refine p_getIE 9 2 31 rfl dX9_wisest_28 fl_X9_283 rfl rfl hM1.2.2.1.2.1 ?_
    refine p_icmp_ge 74 34 rfl rfl dX9_wisest_31 (fun h31 => ?_) (fun h31 => absurd (nI_le (a := aC (tO A)) (b := i) (by omega) (by omega)) h31)
    refine p_iload_n 2 75 rfl rfl dX9_wisest_74 rfl ?_
    exact p_iret dX9_wisest_75 rfl ⟨_, rfl, h01, fun _ => by rw [show i = aC (tO A) by omega], hR1, hc1⟩
  | succ n ih =>
    intro i hi
    have hlt : i < aC (tO A) := by omega
    refine p_iload_n 3 27 rfl rfl dX9_wisest_26 rfl ?_
    refine p_aload_n 0 28 rfl rfl dX9_wisest_27 rfl ?_
    refine p_getIE 9 2 31 rfl dX9_wisest_28 fl_X9_283 rfl rfl hM1.2.2.1.2.1 ?_
    refine p_icmp_ge 74 34 rfl rfl dX9_wisest_31 (fun h31 => absurd h31 (nI_ge (a := i) (b := aC (tO A)) (by omega) (by omega))) (fun h31 => ?_)
    refine p_iload_n 2 35 rfl rfl dX9_wisest_34 rfl ?_
    refine p_iconst (-1) 36 rfl dX9_wisest_35 rfl ?_
    refine p_icmp_eq 66 39 rfl rfl dX9_wisest_36 (fun h36 => ?_) (fun h36 => ?_)
    · refine p_iload_n 3 67 rfl rfl dX9_wisest_66 rfl ?_
      refine p_ist_n2 68 rfl rfl dX9_wisest_67 (Nat.le_of_ble_eq_true rfl) rfl ?_
      refine p_inc_3 71 rfl dX9_wisest_68 (1) rfl (Nat.le_of_ble_eq_true rfl) rfl ?_
      refine p_goto 26 rfl dX9_wisest_71 ?_
      have hn0 : wbs (fun _ => true) (fun c => pop (vK (daysF (tO A) d (tV A)) c)) i = none := by
        cases q : wbs (fun _ => true) (fun c => pop (vK (daysF (tO A) d (tV A)) c)) i with
        | none => rfl
        | some bb => rw [q] at h36; exact absurd h36 (nI_m1 (by have := wbs_lt _ _ q; omega))
      have e : wbs (fun _ => true) (fun c => pop (vK (daysF (tO A) d (tV A)) c)) (i + 1) = some i := by rw [wbs, if_pos rfl, hn0]
      have g := ih (i + 1) (by omega)
      rw [e] at g
      rw [nI_1]
      exact g
    · obtain ⟨bb, hbb⟩ : ∃ bb, wbs (fun _ => true) (fun c => pop (vK (daysF (tO A) d (tV A)) c)) i = some bb := by
        cases q : wbs (fun _ => true) (fun c => pop (vK (daysF (tO A) d (tV A)) c)) i with
        | none => rw [q] at h36; exact absurd rfl h36
        | some bb => exact ⟨bb, rfl⟩
      have hbl := wbs_lt _ _ hbb
      rw [hbb]
      refine p_aload_n 0 40 rfl rfl dX9_wisest_39 rfl ?_
      refine p_getR 9 44 43 rfl dX9_wisest_40 fl_X9_66 rfl rfl (show hR _ M0 44 = mRo from hM1.1 44) (by decide) ?_
      refine p_bipush (62) 45 rfl dX9_wisest_43 rfl ?_
      refine p_iload_n 3 46 rfl rfl dX9_wisest_45 rfl ?_
      refine p_iadd 47 rfl dX9_wisest_46 ?_
      rw [ix0 62 i 62 rfl]
      refine p_ialdE 48 rfl dX9_wisest_47 (i := 62 + i) rfl (by show _ < 68; omega) (hw1.2.2 i (by omega)) ?_
      refine p_cS1i 51 rfl dX9_wisest_48 (c_bits (by have := hv1.2.2.2 i (by omega); omega)) ml_X9_316 sl_X9_bits (Nat.le_of_ble_eq_true rfl) (Nat.le_of_ble_eq_true rfl) rfl ?_
      refine p_aload_n 0 52 rfl rfl dX9_wisest_51 rfl ?_
      refine p_getR 9 44 55 rfl dX9_wisest_52 fl_X9_66 rfl rfl (show hR _ M0 44 = mRo from hM1.1 44) (by decide) ?_
      refine p_bipush (62) 57 rfl dX9_wisest_55 rfl ?_
      refine p_iload_n 2 58 rfl rfl dX9_wisest_57 rfl ?_
      refine p_iadd 59 rfl dX9_wisest_58 ?_
      rw [show oI (some bb) = nI bb from rfl, ix0 62 bb 62 rfl]
      refine p_ialdE 60 rfl dX9_wisest_59 (i := 62 + bb) rfl (by show _ < 68; omega) (hw1.2.2 bb (by omega)) ?_
      refine p_cS1i 63 rfl dX9_wisest_60 (c_bits (by have := hv1.2.2.2 bb (by omega); omega)) ml_X9_316 sl_X9_bits (Nat.le_of_ble_eq_true rfl) (Nat.le_of_ble_eq_true rfl) rfl ?_
      refine p_icmp_le 68 66 rfl rfl dX9_wisest_63 (fun h63 => ?_) (fun h63 => ?_)
      · refine p_inc_3 71 rfl dX9_wisest_68 (1) rfl (Nat.le_of_ble_eq_true rfl) rfl ?_
        refine p_goto 26 rfl dX9_wisest_71 ?_
        have e : wbs (fun _ => true) (fun c => pop (vK (daysF (tO A) d (tV A)) c)) (i + 1) = some bb := by
          rw [wbs, if_pos rfl, hbb]
          exact if_neg (fun q => nI_ge q (Nat.lt_of_le_of_lt (popN_le _ _) (by decide)) h63)
        have g := ih (i + 1) (by omega)
        rw [e] at g
        rw [nI_1]
        exact g
      · refine p_iload_n 3 67 rfl rfl dX9_wisest_66 rfl ?_
        refine p_ist_n2 68 rfl rfl dX9_wisest_67 (Nat.le_of_ble_eq_true rfl) rfl ?_
        refine p_inc_3 71 rfl dX9_wisest_68 (1) rfl (Nat.le_of_ble_eq_true rfl) rfl ?_
        refine p_goto 26 rfl dX9_wisest_71 ?_
        have e : wbs (fun _ => true) (fun c => pop (vK (daysF (tO A) d (tV A)) c)) (i + 1) = some i := by
          rw [wbs, if_pos rfl, hbb]
          exact if_pos ((Nat.lt_or_ge ((fun c => pop (vK (daysF (tO A) d (tV A)) c)) bb) ((fun c => pop (vK (daysF (tO A) d (tV A)) c)) i)).elim id (fun q => absurd (nI_le q (Nat.lt_of_le_of_lt (popN_le _ _) (by decide))) h63))
        have g := ih (i + 1) (by omega)
        rw [e] at g
        rw [nI_1]
        exact g
set_option maxRecDepth 8000 in
theorem q_wisest (hRM : RM σ A) (y : Int32) : CallOk Γ 12 0 0 mX9_wisest [.ref M0, .int y] σ (rM (fWisest A y) (fun σ' => RM σ' A ∧ ChM σ σ')) := by
  have hK := hRM.2.1
  have hO := hK.2.2.1
  have hs9 := hO.1
  have hc6 := hO.2.1
  have hw12 := hO.2.2.1
  have hk8 := hO.2.2.2.1
  have hv := hK.2.2.2.2.1.1
  have hd9 := hK.2.2.2.2.1.2
  refine p_enter rfl rfl (Nat.le_of_ble_eq_true rfl) rfl ?_
  refine p_aload_n 0 1 rfl rfl dX9_wisest_0 rfl ?_
  refine p_iconst (0) 2 rfl dX9_wisest_1 rfl ?_
  refine p_putI 9 0 5 rfl dX9_wisest_2 fl_X9_102 rfl rfl (Or.inl rfl) ?_
  have hQ : FQ σ (sI σ M0 0 0) := FQ.th
  have hR0 := hRM.q hQ
  have h0 : hI (sI σ M0 0 0) M0 0 = 0 := hI_sI _ _ _ _
  generalize sI σ M0 0 0 = τ at hQ hR0 h0 ⊢
  have hM := hR0.1
  have hw := hR0.2.2.1
  refine p_aload_n 0 6 rfl rfl dX9_wisest_5 rfl ?_
  refine p_iload_n 1 7 rfl rfl dX9_wisest_6 rfl ?_
  refine p_iconst (0) 8 rfl dX9_wisest_7 rfl ?_
  refine p_iconst (1) 9 rfl dX9_wisest_8 rfl ?_
  refine p_cV3x 0 0 12 rfl dX9_wisest_9 (c_isDays h0 _ 0 (by decide)) ml_X9_426 vl_X9_isDays rfl (by decide) rfl (Nat.le_of_ble_eq_true rfl) (Nat.le_of_ble_eq_true rfl) (Nat.le_of_ble_eq_true rfl) (Nat.le_of_ble_eq_true rfl) rfl ?_
  intro v0 τ0 hp0
  obtain ⟨hv0, ht0, hf0⟩ := hp0
  subst hv0
  refine p_if_ne 17 15 rfl rfl dX9_wisest_12 (fun h12 => ?_) (fun h12 => ?_)
  · have hb0 : btw y 0 40 = true := by simpa only [b2i_eq0, Decidable.not_not, Bool.not_eq_true, Bool.not_eq_false] using h12
    have ee0 := ht0 hb0
    subst ee0
    obtain ⟨d, rfl, hda, hd⟩ := asB hb0 (by decide) (by decide)
    have hdL : d < 2147483648 := by omega
    refine p_aload_n 0 18 rfl rfl dX9_wisest_17 rfl ?_
    refine p_iload_n 1 19 rfl rfl dX9_wisest_18 rfl ?_
    refine p_cV1v 0 0 22 rfl dX9_wisest_19 (c_goesTo hM hw hv (by omega)) ml_X9_429 vl_X9_goesTo rfl (by decide) rfl (Nat.le_of_ble_eq_true rfl) (Nat.le_of_ble_eq_true rfl) (Nat.le_of_ble_eq_true rfl) (Nat.le_of_ble_eq_true rfl) rfl ?_
    intro σ1 hp1
    have hM1 := hM.frB hp1.2
    have hR1 := hR0.q (FQ.b hp1.2)
    have h01 : hI σ1 M0 0 = 0 := (hp1.2.1.2.1 M0 0 (by simp)).trans h0
    have hv1 := daysF_ok hO hv d (by omega)
    refine p_iconst (-1) 23 rfl dX9_wisest_22 rfl ?_
    refine p_ist_n2 24 rfl rfl dX9_wisest_23 (Nat.le_of_ble_eq_true rfl) rfl ?_
    refine p_iconst (0) 25 rfl dX9_wisest_24 rfl ?_
    refine p_ist_n3 26 rfl rfl dX9_wisest_25 (Nat.le_of_ble_eq_true rfl) rfl ?_
    have e : fWisest A (nI d) = (0, oI (wbs (fun _ => true) (fun c => pop (vK (daysF (tO A) d (tV A)) c)) (aC (tO A)))) := by rw [fWisest, gd_t hb0, iN_nI hdL]
    rw [e]
    exact Ok.sub (l_mWisest hR1 h01 (hQ.tr (FQ.b hp1.2)).ch hd hp1.1 (aC (tO A)) 0 (by omega)) (by decide) (by decide) (by decide)
  · have hb0 : btw y 0 40 = false := by simpa only [b2i_eq0, Bool.not_eq_true, Decidable.not_not] using h12
    have ee0 := hf0 hb0
    subst ee0
    refine p_iconst (0) 16 rfl dX9_wisest_15 rfl ?_
    exact p_iret dX9_wisest_16 rfl ⟨_, rfl, by rw [fWisest, gd_f hb0]; exact hI_sI _ _ _ _, fun q => absurd q (by rw [fWisest, gd_f hb0]; decide), (hRM.q hQ).q FQ.th, (hQ.tr FQ.th).ch⟩
theorem shIn_days {O : AO} {V : AW} {t n : Nat} : shIn O (daysF O n V) t 0 = shIn O V t n := by
  unfold shIn; congr 1; funext s; rw [tOf_days]
theorem gbs_1 (f : Nat → Nat) : ∃ b, gbs 1 f = (b, f b) ∧ b = 0 := by
  refine ⟨0, ?_, rfl⟩
  rw [gbs]
  by_cases h : (gbs 0 f).2 < f 0
  · rw [if_pos h]
  · rw [if_neg h]
    have : f 0 = 0 := by have : (gbs 0 f).2 = 0 := rfl
                         omega
    show (0, 0) = _
    rw [this]
set_option maxRecDepth 4000 in
theorem l_mGath {σ1 : PH} (hR1 : RM σ1 A) (h01 : hI σ1 M0 0 = 0) (hc1 : ChM σ σ1) {d : Nat} (hd : d ≤ 40) (hw1 : RowM true (hA σ1 mRo) 34 (tO A) (daysF (tO A) d (tV A))) : ∀ (n i bb : Nat), i + n = 4 → bb < i → gbs i (fun t => pop (shIn (tO A) (tV A) t d)) = (bb, (fun t => pop (shIn (tO A) (tV A) t d)) bb) → 1 ≤ i → Ok Γ 11 0 0 mX9_gathering 26 [some (.ref M0), some (.int (nI d)), some (.int (nI bb)), some (.int (nI i))] [] σ1 (rM (0, nI (gbs 4 (fun t => pop (shIn (tO A) (tV A) t d))).1) (fun σ' => RM σ' A ∧ ChM σ σ')) := by
  have hK := hR1.2.1
  have hO := hK.2.2.1
  have hc6 := hO.2.1
  have hw12 := hO.2.2.1
  have hs9 := hO.1
  have hv := hK.2.2.2.2.1.1
  have hd9 := hK.2.2.2.2.1.2
  have hM1 := hR1.1
  have hv1 := daysF_ok hO hv d (by omega)
  intro n
  induction n with
  | zero =>
    intro i bb hi hbi hg h1i
    refine p_iload_n 3 27 rfl rfl dX9_gathering_26 rfl ?_
    refine p_iconst (4) 28 rfl dX9_gathering_27 rfl ?_
    refine p_icmp_ge 62 31 rfl rfl dX9_gathering_28 (fun h28 => ?_) (fun h28 => absurd (nI_le (a := 4) (b := i) (by omega) (by omega)) h28)
    refine p_iload_n 2 63 rfl rfl dX9_gathering_62 rfl ?_
    exact p_iret dX9_gathering_63 rfl ⟨_, rfl, h01, fun _ => by rw [show i = 4 by omega] at hg; rw [hg], hR1, hc1⟩
  | succ n ih =>
    intro i bb hi hbi hg h1i
    refine p_iload_n 3 27 rfl rfl dX9_gathering_26 rfl ?_
    refine p_iconst (4) 28 rfl dX9_gathering_27 rfl ?_
    refine p_icmp_ge 62 31 rfl rfl dX9_gathering_28 (fun h28 => absurd h28 (nI_ge (a := i) (b := 4) (by omega) (by omega))) (fun h28 => ?_)
    refine p_aload_n 0 32 rfl rfl dX9_gathering_31 rfl ?_
    refine p_bipush (34) 34 rfl dX9_gathering_32 rfl ?_
    refine p_iload_n 3 35 rfl rfl dX9_gathering_34 rfl ?_
    refine p_cV2i 38 rfl dX9_gathering_35 (c_mSheetsAt hM1 hw1 hv1 (by decide) (by omega)) ml_X9_328 vl_X9_sheetsAt rfl (by decide) rfl (Nat.le_of_ble_eq_true rfl) (Nat.le_of_ble_eq_true rfl) rfl ?_
    refine p_cS1i 41 rfl dX9_gathering_38 (c_bits (Nat.lt_trans (shIn_l hO _ _ _) (by decide))) ml_X9_316 sl_X9_bits (Nat.le_of_ble_eq_true rfl) (Nat.le_of_ble_eq_true rfl) rfl ?_
    refine p_aload_n 0 42 rfl rfl dX9_gathering_41 rfl ?_
    refine p_bipush (34) 44 rfl dX9_gathering_42 rfl ?_
    refine p_iload_n 2 45 rfl rfl dX9_gathering_44 rfl ?_
    refine p_cV2i 48 rfl dX9_gathering_45 (c_mSheetsAt hM1 hw1 hv1 (by decide) (by omega)) ml_X9_328 vl_X9_sheetsAt rfl (by decide) rfl (Nat.le_of_ble_eq_true rfl) (Nat.le_of_ble_eq_true rfl) rfl ?_
    refine p_cS1i 51 rfl dX9_gathering_48 (c_bits (Nat.lt_trans (shIn_l hO _ _ _) (by decide))) ml_X9_316 sl_X9_bits (Nat.le_of_ble_eq_true rfl) (Nat.le_of_ble_eq_true rfl) rfl ?_
    refine p_icmp_le 56 54 rfl rfl dX9_gathering_51 (fun h51 => ?_) (fun h51 => ?_)
    · refine p_inc_3 59 rfl dX9_gathering_56 (1) rfl (Nat.le_of_ble_eq_true rfl) rfl ?_
      refine p_goto 26 rfl dX9_gathering_59 ?_
      have l1 : pop (shIn (tO A) (daysF (tO A) d (tV A)) i 0) = (fun t => pop (shIn (tO A) (tV A) t d)) i := by rw [shIn_days]
      have l2 : pop (shIn (tO A) (daysF (tO A) d (tV A)) bb 0) = (fun t => pop (shIn (tO A) (tV A) t d)) bb := by rw [shIn_days]
      have h51b := h51
      rw [show nI (pop (setN (aS (tO A)) fun s => tOf (tO A) (daysF (tO A) d (tV A)) s 0 == i + 1)) = nI (pop (shIn (tO A) (daysF (tO A) d (tV A)) i 0)) from rfl, show nI (pop (setN (aS (tO A)) fun s => tOf (tO A) (daysF (tO A) d (tV A)) s 0 == bb + 1)) = nI (pop (shIn (tO A) (daysF (tO A) d (tV A)) bb 0)) from rfl, l1, l2] at h51b
      have f1 : (fun t => pop (shIn (tO A) (tV A) t d)) i < 100 := Nat.lt_of_le_of_lt (popN_le _ _) (by decide)
      have f2 : (fun t => pop (shIn (tO A) (tV A) t d)) bb < 100 := Nat.lt_of_le_of_lt (popN_le _ _) (by decide)
      have e : gbs (i + 1) (fun t => pop (shIn (tO A) (tV A) t d)) = (bb, (fun t => pop (shIn (tO A) (tV A) t d)) bb) := by
        rw [gbs, hg]
        exact if_neg (fun q => nI_ge q (by omega) h51b)
      rw [nI_1]
      exact ih (i + 1) bb (by omega) (by omega) e (by omega)
    · refine p_iload_n 3 55 rfl rfl dX9_gathering_54 rfl ?_
      refine p_ist_n2 56 rfl rfl dX9_gathering_55 (Nat.le_of_ble_eq_true rfl) rfl ?_
      refine p_inc_3 59 rfl dX9_gathering_56 (1) rfl (Nat.le_of_ble_eq_true rfl) rfl ?_
      refine p_goto 26 rfl dX9_gathering_59 ?_
      have l1 : pop (shIn (tO A) (daysF (tO A) d (tV A)) i 0) = (fun t => pop (shIn (tO A) (tV A) t d)) i := by rw [shIn_days]
      have l2 : pop (shIn (tO A) (daysF (tO A) d (tV A)) bb 0) = (fun t => pop (shIn (tO A) (tV A) t d)) bb := by rw [shIn_days]
      have h51b := h51
      rw [show nI (pop (setN (aS (tO A)) fun s => tOf (tO A) (daysF (tO A) d (tV A)) s 0 == i + 1)) = nI (pop (shIn (tO A) (daysF (tO A) d (tV A)) i 0)) from rfl, show nI (pop (setN (aS (tO A)) fun s => tOf (tO A) (daysF (tO A) d (tV A)) s 0 == bb + 1)) = nI (pop (shIn (tO A) (daysF (tO A) d (tV A)) bb 0)) from rfl, l1, l2] at h51b
      have f1 : (fun t => pop (shIn (tO A) (tV A) t d)) i < 100 := Nat.lt_of_le_of_lt (popN_le _ _) (by decide)
      have f2 : (fun t => pop (shIn (tO A) (tV A) t d)) bb < 100 := Nat.lt_of_le_of_lt (popN_le _ _) (by decide)
      have e : gbs (i + 1) (fun t => pop (shIn (tO A) (tV A) t d)) = (i, (fun t => pop (shIn (tO A) (tV A) t d)) i) := by
        rw [gbs, hg]
        exact if_pos ((Nat.lt_or_ge ((fun t => pop (shIn (tO A) (tV A) t d)) bb) ((fun t => pop (shIn (tO A) (tV A) t d)) i)).elim id (fun q => absurd (nI_le q (by omega)) h51b))
      rw [nI_1]
      exact ih (i + 1) i (by omega) (by omega) e (by omega)
set_option maxRecDepth 8000 in
theorem q_gathering (hRM : RM σ A) (y : Int32) : CallOk Γ 12 0 0 mX9_gathering [.ref M0, .int y] σ (rM (fGath A y) (fun σ' => RM σ' A ∧ ChM σ σ')) := by
  have hK := hRM.2.1
  have hO := hK.2.2.1
  have hs9 := hO.1
  have hc6 := hO.2.1
  have hw12 := hO.2.2.1
  have hk8 := hO.2.2.2.1
  have hv := hK.2.2.2.2.1.1
  have hd9 := hK.2.2.2.2.1.2
  refine p_enter rfl rfl (Nat.le_of_ble_eq_true rfl) rfl ?_
  refine p_aload_n 0 1 rfl rfl dX9_gathering_0 rfl ?_
  refine p_iconst (0) 2 rfl dX9_gathering_1 rfl ?_
  refine p_putI 9 0 5 rfl dX9_gathering_2 fl_X9_102 rfl rfl (Or.inl rfl) ?_
  have hQ : FQ σ (sI σ M0 0 0) := FQ.th
  have hR0 := hRM.q hQ
  have h0 : hI (sI σ M0 0 0) M0 0 = 0 := hI_sI _ _ _ _
  generalize sI σ M0 0 0 = τ at hQ hR0 h0 ⊢
  have hM := hR0.1
  have hw := hR0.2.2.1
  refine p_aload_n 0 6 rfl rfl dX9_gathering_5 rfl ?_
  refine p_iload_n 1 7 rfl rfl dX9_gathering_6 rfl ?_
  refine p_iconst (0) 8 rfl dX9_gathering_7 rfl ?_
  refine p_iconst (1) 9 rfl dX9_gathering_8 rfl ?_
  refine p_cV3x 0 0 12 rfl dX9_gathering_9 (c_isDays h0 _ 0 (by decide)) ml_X9_426 vl_X9_isDays rfl (by decide) rfl (Nat.le_of_ble_eq_true rfl) (Nat.le_of_ble_eq_true rfl) (Nat.le_of_ble_eq_true rfl) (Nat.le_of_ble_eq_true rfl) rfl ?_
  intro v0 τ0 hp0
  obtain ⟨hv0, ht0, hf0⟩ := hp0
  subst hv0
  refine p_if_ne 17 15 rfl rfl dX9_gathering_12 (fun h12 => ?_) (fun h12 => ?_)
  · have hb0 : btw y 0 40 = true := by simpa only [b2i_eq0, Decidable.not_not, Bool.not_eq_true, Bool.not_eq_false] using h12
    have ee0 := ht0 hb0
    subst ee0
    obtain ⟨d, rfl, hda, hd⟩ := asB hb0 (by decide) (by decide)
    have hdL : d < 2147483648 := by omega
    refine p_aload_n 0 18 rfl rfl dX9_gathering_17 rfl ?_
    refine p_iload_n 1 19 rfl rfl dX9_gathering_18 rfl ?_
    refine p_cV1v 0 0 22 rfl dX9_gathering_19 (c_goesTo hM hw hv (by omega)) ml_X9_429 vl_X9_goesTo rfl (by decide) rfl (Nat.le_of_ble_eq_true rfl) (Nat.le_of_ble_eq_true rfl) (Nat.le_of_ble_eq_true rfl) (Nat.le_of_ble_eq_true rfl) rfl ?_
    intro σ1 hp1
    have hM1 := hM.frB hp1.2
    have hR1 := hR0.q (FQ.b hp1.2)
    have h01 : hI σ1 M0 0 = 0 := (hp1.2.1.2.1 M0 0 (by simp)).trans h0
    have hv1 := daysF_ok hO hv d (by omega)
    refine p_iconst (0) 23 rfl dX9_gathering_22 rfl ?_
    refine p_ist_n2 24 rfl rfl dX9_gathering_23 (Nat.le_of_ble_eq_true rfl) rfl ?_
    refine p_iconst (1) 25 rfl dX9_gathering_24 rfl ?_
    refine p_ist_n3 26 rfl rfl dX9_gathering_25 (Nat.le_of_ble_eq_true rfl) rfl ?_
    have e : fGath A (nI d) = (0, nI (gbs 4 (fun t => pop (shIn (tO A) (tV A) t d))).1) := by rw [fGath, gd_t hb0, iN_nI hdL]
    rw [e]
    obtain ⟨bb, hg, hb0z⟩ := gbs_1 (fun t => pop (shIn (tO A) (tV A) t d))
    subst hb0z
    exact Ok.sub (l_mGath hR1 h01 (hQ.tr (FQ.b hp1.2)).ch hd hp1.1 3 1 0 (by omega) (by omega) hg (by omega)) (by decide) (by decide) (by decide)
  · have hb0 : btw y 0 40 = false := by simpa only [b2i_eq0, Bool.not_eq_true, Decidable.not_not] using h12
    have ee0 := hf0 hb0
    subst ee0
    refine p_iconst (0) 16 rfl dX9_gathering_15 rfl ?_
    exact p_iret dX9_gathering_16 rfl ⟨_, rfl, by rw [fGath, gd_f hb0]; exact hI_sI _ _ _ _, fun q => absurd q (by rw [fGath, gd_f hb0]; decide), (hRM.q hQ).q FQ.th, (hQ.tr FQ.th).ch⟩
end C90
