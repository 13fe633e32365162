/-! ===== the reference: clerk, word, chain ===== -/
section C89
variable {Γ : Gm} {σ : PH} {A : AT}
set_option maxRecDepth 8000 in
theorem l_mClerk {τ : PH} (hR0 : RM τ A) (h0 : hI τ M0 0 = 0) (hc1 : ChM σ τ) {c q : Nat} (hc : c < aC (tO A)) (hq : q < 4) : ∀ (n i : Nat), i + n = aS (tO A) → Ok Γ 11 0 0 mX9_clerk 29 [some (.ref M0), some (.int (nI c)), some (.int (nI q)), some (.int (nI (setN i (fun s => vP (tV A) s == c + 5)))), some (.int (nI i))] [] τ (rM (0, [nI (tOn (tO A) c (vD (tV A))), nI (vK (tV A) c), nI (shAt (tO A) (tV A) (c + 5)), nI (aT (tO A) c)].getD q 0) (fun σ' => RM σ' A ∧ ChM σ σ')) := by
  have hK := hR0.2.1
  have hO := hK.2.2.1
  have hc6 := hO.2.1
  have hw12 := hO.2.2.1
  have hs9 := hO.1
  have hv := hK.2.2.2.2.1.1
  have hd9 := hK.2.2.2.2.1.2
  have hM := hR0.1
  have hw := hR0.2.2.1
  intro n
  induction n with
  | zero =>
    intro i hi
    refine p_iload 4 31 rfl dX9_clerk_29 rfl ?_
    refine p_aload_n 0 32 rfl rfl dX9_clerk_31 rfl ?_
    refine p_getIE 9 1 35 rfl dX9_clerk_32 fl_X9_280 rfl rfl hM.2.2.1.1 ?_
    refine p_icmp_ge 72 38 rfl rfl dX9_clerk_35 (fun h35 => ?_) (fun h35 => absurd (nI_le (a := aS (tO A)) (b := i) (by omega) (by omega)) h35)
    refine p_iload_n 2 73 rfl rfl dX9_clerk_72 rfl ?_
    refine p_if_ne 85 76 rfl rfl dX9_clerk_73 (fun h73 => ?_) (fun h73 => ?_)
    · refine p_iload_n 2 86 rfl rfl dX9_clerk_85 rfl ?_
      refine p_iconst (1) 87 rfl dX9_clerk_86 rfl ?_
      refine p_icmp_ne 102 90 rfl rfl dX9_clerk_87 (fun h87 => ?_) (fun h87 => ?_)
      · refine p_iload_n 2 103 rfl rfl dX9_clerk_102 rfl ?_
        refine p_iconst (2) 104 rfl dX9_clerk_103 rfl ?_
        refine p_icmp_ne 111 107 rfl rfl dX9_clerk_104 (fun h104 => ?_) (fun h104 => ?_)
        · refine p_aload_n 0 112 rfl rfl dX9_clerk_111 rfl ?_
          refine p_getR 9 8 115 rfl dX9_clerk_112 fl_X9_20 rfl rfl (show hR _ M0 8 = mRl from hM.1 8) (by decide) ?_
          refine p_iload_n 1 116 rfl rfl dX9_clerk_115 rfl ?_
          refine p_ialdE 117 rfl dX9_clerk_116 (i := c) rfl (by show c < 6; omega) (hM.2.2.2.1 c hc).1 ?_
          exact p_iret dX9_clerk_117 rfl ⟨_, rfl, h0, fun _ => by have hn73 : ¬ q = 0 := fun e => h73 (by rw [e]; rfl); have hn87 : ¬ q = 1 := fun e => h87 (by rw [e]; rfl); have hn104 : ¬ q = 2 := fun e => h104 (by rw [e]; rfl); have hqe : q = 3 := (by omega); subst hqe; rfl, hR0, hc1⟩
        · refine p_iload_n 3 108 rfl rfl dX9_clerk_107 rfl ?_
          refine p_goto 117 rfl dX9_clerk_108 ?_
          exact p_iret dX9_clerk_117 rfl ⟨_, rfl, h0, fun _ => by have hn73 : ¬ q = 0 := fun e => h73 (by rw [e]; rfl); have hn87 : ¬ q = 1 := fun e => h87 (by rw [e]; rfl); have hqe : q = 2 := nI_eqI h104 (by omega) (by decide); subst hqe; rw [show i = aS (tO A) by omega]; rfl, hR0, hc1⟩
      · refine p_aload_n 0 91 rfl rfl dX9_clerk_90 rfl ?_
        refine p_getR 9 44 94 rfl dX9_clerk_91 fl_X9_66 rfl rfl (show hR _ M0 44 = mRo from hM.1 44) (by decide) ?_
        refine p_bipush (28) 96 rfl dX9_clerk_94 rfl ?_
        refine p_iload_n 1 97 rfl rfl dX9_clerk_96 rfl ?_
        refine p_iadd 98 rfl dX9_clerk_97 ?_
        rw [ix0 28 c 28 rfl]
        refine p_ialdE 99 rfl dX9_clerk_98 (i := 28 + c) rfl (by show _ < 68; omega) (kn0 hw hc) ?_
        refine p_goto 117 rfl dX9_clerk_99 ?_
        exact p_iret dX9_clerk_117 rfl ⟨_, rfl, h0, fun _ => by have hn73 : ¬ q = 0 := fun e => h73 (by rw [e]; rfl); have hqe : q = 1 := nI_eqI h87 (by omega) (by decide); subst hqe; rfl, hR0, hc1⟩
    · refine p_aload_n 0 77 rfl rfl dX9_clerk_76 rfl ?_
      refine p_iconst (0) 78 rfl dX9_clerk_77 rfl ?_
      refine p_iload_n 1 79 rfl rfl dX9_clerk_78 rfl ?_
      refine p_cV2i 82 rfl dX9_clerk_79 (c_clerkIn hM hw hv (by decide) hc) ml_X9_313 vl_X9_clerkIn rfl (by decide) rfl (Nat.le_of_ble_eq_true rfl) (Nat.le_of_ble_eq_true rfl) rfl ?_
      refine p_goto 117 rfl dX9_clerk_82 ?_
      exact p_iret dX9_clerk_117 rfl ⟨_, rfl, h0, fun _ => by have hqe : q = 0 := nI_eqI h73 (by omega) (by decide); subst hqe; rfl, hR0, hc1⟩
  | succ n ih =>
    intro i hi
    have hlt : i < aS (tO A) := by omega
    refine p_iload 4 31 rfl dX9_clerk_29 rfl ?_
    refine p_aload_n 0 32 rfl rfl dX9_clerk_31 rfl ?_
    refine p_getIE 9 1 35 rfl dX9_clerk_32 fl_X9_280 rfl rfl hM.2.2.1.1 ?_
    refine p_icmp_ge 72 38 rfl rfl dX9_clerk_35 (fun h35 => absurd h35 (nI_ge (a := i) (b := aS (tO A)) (by omega) (by omega))) (fun h35 => ?_)
    refine p_iload_n 3 39 rfl rfl dX9_clerk_38 rfl ?_
    refine p_aload_n 0 40 rfl rfl dX9_clerk_39 rfl ?_
    refine p_getR 9 44 43 rfl dX9_clerk_40 fl_X9_66 rfl rfl (show hR _ M0 44 = mRo from hM.1 44) (by decide) ?_
    refine p_bipush (19) 45 rfl dX9_clerk_43 rfl ?_
    refine p_iload 4 47 rfl dX9_clerk_45 rfl ?_
    refine p_iadd 48 rfl dX9_clerk_47 ?_
    rw [ix0 19 i 19 rfl]
    refine p_ialdE 49 rfl dX9_clerk_48 (i := 19 + i) rfl (by show _ < 68; omega) (at0 hw hlt) ?_
    refine p_bipush (10) 51 rfl dX9_clerk_49 rfl ?_
    refine p_iload_n 1 52 rfl rfl dX9_clerk_51 rfl ?_
    refine p_iadd 53 rfl dX9_clerk_52 ?_
    rw [ix0 10 c 10 rfl]
    refine p_icmp_ne 63 56 rfl rfl dX9_clerk_53 (fun h53 => ?_) (fun h53 => ?_)
    · refine p_iconst (0) 64 rfl dX9_clerk_63 rfl ?_
      refine p_ior 65 rfl dX9_clerk_64 ?_
      refine p_ist_n3 66 rfl rfl dX9_clerk_65 (Nat.le_of_ble_eq_true rfl) rfl ?_
      refine p_inc_4 69 rfl dX9_clerk_66 (1) rfl (Nat.le_of_ble_eq_true rfl) rfl ?_
      refine p_goto 29 rfl dX9_clerk_69 ?_
      have hp := hvP hv (s := i) (by omega)
      have hb : (vP (tV A) i == c + 5) = false := by simp only [beq_eq_false_iff_ne]; exact fun w => h53 ((atI_hand hp (by omega)).mpr w)
      rw [or0, nI_1, ← set_f (p := (fun s => vP (tV A) s == c + 5)) (by rw [hb]; decide)]
      exact ih (i + 1) (by omega)
    · refine p_iconst (1) 57 rfl dX9_clerk_56 rfl ?_
      refine p_iload 4 59 rfl dX9_clerk_57 rfl ?_
      refine p_ishl 60 rfl dX9_clerk_59 ?_
      refine p_goto 64 rfl dX9_clerk_60 ?_
      refine p_ior 65 rfl dX9_clerk_64 ?_
      refine p_ist_n3 66 rfl rfl dX9_clerk_65 (Nat.le_of_ble_eq_true rfl) rfl ?_
      refine p_inc_4 69 rfl dX9_clerk_66 (1) rfl (Nat.le_of_ble_eq_true rfl) rfl ?_
      refine p_goto 29 rfl dX9_clerk_69 ?_
      have hp := hvP hv (s := i) (by omega)
      have hb : (vP (tV A) i == c + 5) = true := by simp only [beq_iff_eq]; exact (atI_hand hp (by omega)).mp h53
      rw [set_t (p := (fun s => vP (tV A) s == c + 5)) hb (by omega), nI_1]
      exact ih (i + 1) (by omega)
set_option maxRecDepth 8000 in
theorem q_clerk (hRM : RM σ A) (x y : Int32) : CallOk Γ 12 0 0 mX9_clerk [.ref M0, .int x, .int y] σ (rM (fClerk A x y) (fun σ' => RM σ' A ∧ ChM σ σ')) := by
  have hK := hRM.2.1
  have hO := hK.2.2.1
  have hs9 := hO.1
  have hc6 := hO.2.1
  have hw12 := hO.2.2.1
  have hk8 := hO.2.2.2.1
  have hv := hK.2.2.2.2.1.1
  have hd9 := hK.2.2.2.2.1.2
  refine p_enter rfl rfl (Nat.le_of_ble_eq_true rfl) rfl ?_
  refine p_aload_n 0 1 rfl rfl dX9_clerk_0 rfl ?_
  refine p_iconst (0) 2 rfl dX9_clerk_1 rfl ?_
  refine p_putI 9 0 5 rfl dX9_clerk_2 fl_X9_102 rfl rfl (Or.inl rfl) ?_
  have hQ : FQ σ (sI σ M0 0 0) := FQ.th
  have hR0 := hRM.q hQ
  have h0 : hI (sI σ M0 0 0) M0 0 = 0 := hI_sI _ _ _ _
  generalize sI σ M0 0 0 = τ at hQ hR0 h0 ⊢
  have hM := hR0.1
  have hw := hR0.2.2.1
  refine p_aload_n 0 6 rfl rfl dX9_clerk_5 rfl ?_
  refine p_iload_n 1 7 rfl rfl dX9_clerk_6 rfl ?_
  refine p_cV1x 0 0 10 rfl dX9_clerk_7 (c_isClerk hM h0 _) ml_X9_387 vl_X9_isClerk rfl (by decide) rfl (Nat.le_of_ble_eq_true rfl) (Nat.le_of_ble_eq_true rfl) (Nat.le_of_ble_eq_true rfl) (Nat.le_of_ble_eq_true rfl) rfl ?_
  intro v0 τ0 hp0
  obtain ⟨hv0, ht0, hf0⟩ := hp0
  subst hv0
  refine p_if_eq 22 13 rfl rfl dX9_clerk_10 (fun h10 => ?_) (fun h10 => ?_)
  · have hb0 : inR x (aC (tO A)) = false := by simpa only [b2i_eq0, Bool.not_eq_true, Decidable.not_not] using h10
    have ee0 := hf0 hb0
    subst ee0
    refine p_iconst (0) 23 rfl dX9_clerk_22 rfl ?_
    exact p_iret dX9_clerk_23 rfl ⟨_, rfl, by rw [fClerk, gd_f hb0]; exact hI_sI _ _ _ _, fun q => absurd q (by rw [fClerk, gd_f hb0]; decide), (hRM.q hQ).q FQ.th, (hQ.tr FQ.th).ch⟩
  · have hb0 : inR x (aC (tO A)) = true := by simpa only [b2i_eq0, Decidable.not_not, Bool.not_eq_true, Bool.not_eq_false] using h10
    have ee0 := ht0 hb0
    subst ee0
    obtain ⟨c, rfl, hc⟩ := asN hb0 (by omega)
    have hcL : c < 2147483648 := by omega
    refine p_aload_n 0 14 rfl rfl dX9_clerk_13 rfl ?_
    refine p_iload_n 2 15 rfl rfl dX9_clerk_14 rfl ?_
    refine p_iconst (3) 16 rfl dX9_clerk_15 rfl ?_
    refine p_cV2x 0 0 19 rfl dX9_clerk_16 (c_isWhat (n := 3) h0 _ (by decide)) ml_X9_381 vl_X9_isWhat rfl (by decide) rfl (Nat.le_of_ble_eq_true rfl) (Nat.le_of_ble_eq_true rfl) (Nat.le_of_ble_eq_true rfl) (Nat.le_of_ble_eq_true rfl) rfl ?_
    intro v1 τ1 hp1
    obtain ⟨hv1, ht1, hf1⟩ := hp1
    subst hv1
    refine p_if_ne 24 22 rfl rfl dX9_clerk_19 (fun h19 => ?_) (fun h19 => ?_)
    · have hb1 : inR y 4 = true := by simpa only [b2i_eq0, Decidable.not_not, Bool.not_eq_true, Bool.not_eq_false] using h19
      have ee1 := ht1 hb1
      subst ee1
      obtain ⟨q, rfl, hq⟩ := asN hb1 (by omega)
      have hqL : q < 2147483648 := by omega
      refine p_iconst (0) 25 rfl dX9_clerk_24 rfl ?_
      refine p_ist_n3 26 rfl rfl dX9_clerk_25 (Nat.le_of_ble_eq_true rfl) rfl ?_
      refine p_iconst (0) 27 rfl dX9_clerk_26 rfl ?_
      refine p_ist_4 29 rfl dX9_clerk_27 (Nat.le_of_ble_eq_true rfl) rfl ?_
      have e : fClerk A (nI c) (nI q) = (0, [nI (tOn (tO A) c (vD (tV A))), nI (vK (tV A) c), nI (shAt (tO A) (tV A) (c + 5)), nI (aT (tO A) c)].getD q 0) := by rw [fClerk, gd_t hb0, gd_t hb1, sel, iN_nI hcL, iN_nI hqL]
      rw [e]
      exact Ok.sub (l_mClerk hR0 h0 hQ.ch hc hq (aS (tO A)) 0 (by omega)) (by decide) (by decide) (by decide)
    · have hb1 : inR y 4 = false := by simpa only [b2i_eq0, Bool.not_eq_true, Decidable.not_not] using h19
      have ee1 := hf1 hb1
      subst ee1
      refine p_iconst (0) 23 rfl dX9_clerk_22 rfl ?_
      exact p_iret dX9_clerk_23 rfl ⟨_, rfl, by rw [fClerk, gd_t hb0, gd_f hb1]; exact hI_sI _ _ _ _, fun q => absurd q (by rw [fClerk, gd_t hb0, gd_f hb1]; decide), (hRM.q hQ).q FQ.th, (hQ.tr FQ.th).ch⟩
theorem wOf_bit {O : AO} {V : AW} (hO : OkO O) {k t : Nat} (hk : k < aW O) : (wOf O V (shIn O V t 0)).testBit k = decide (tShow O V k = t + 1) := by
  have hl := hO.2.2.2.2.2 k hk
  unfold wOf shIn
  rw [setN_bit, decide_eq_true hk, Bool.true_and, setN_bit, setN_bit, decide_eq_true hl.1, decide_eq_true hl.2]
  unfold tShow
  cases hf : fitt O V (aL O k) (aB O k) with
  | false => simp
  | true =>
    by_cases e : tOf O V (aL O k) 0 = tOf O V (aB O k) 0
    · simp only [e, and_self, if_true, Bool.and_true, Bool.and_self, Bool.true_and]
      by_cases g : tOf O V (aB O k) 0 = t + 1 <;> simp [g]
    · rw [if_neg (by simp [e])]
      by_cases g : tOf O V (aL O k) 0 = t + 1
      · have : ¬ tOf O V (aB O k) 0 = t + 1 := fun q => e (by rw [g, q])
        simp [this]
      · simp [g]
theorem tShow_lt {O : AO} {V : AW} (hO : OkO O) (hv : OkV O V) {k : Nat} (hk : k < aW O) : tShow O V k < 5 := by
  have hl := hO.2.2.2.2.2 k hk
  unfold tShow
  split
  · exact tOf_lt hO hv hl.1
  · decide
set_option maxRecDepth 4000 in
theorem l_showsWhere {O : AO} {V : AW} {e : Bool} (hM : OM σ O) (hw : RowM e (hA σ mRo) 0 O V) (hv : OkV O V) {k : Nat} (hk : k < aW O) : ∀ (n i : Nat), i + n = 4 → (∀ j, j < i → ¬ tShow O V k = j + 1) → Ok Γ 6 0 0 mX9_showsWhere 2 [some (.ref M0), some (.int (nI k)), some (.int (nI i))] [] σ (rI σ (pI (tShow O V k))) := by
  have hO := hM.2.1
  have hs9 := hO.1
  have hc6 := hO.2.1
  have hw12 := hO.2.2.1
  have hk8 := hO.2.2.2.1
  have h5 := tShow_lt hO hv hk
  intro n
  induction n with
  | zero =>
    intro i hi hn
    refine p_iload_n 2 3 rfl rfl dX9_showsWhere_2 rfl ?_
    refine p_iconst (4) 4 rfl dX9_showsWhere_3 rfl ?_
    refine p_icmp_ge 29 7 rfl rfl dX9_showsWhere_4 (fun h4 => ?_) (fun h4 => absurd (nI_le (a := 4) (b := i) (by omega) (by omega)) h4)
    refine p_iconst (-1) 30 rfl dX9_showsWhere_29 rfl ?_
    exact p_iret dX9_showsWhere_30 rfl ⟨by have e0 : tShow O V k = 0 := (Nat.eq_zero_or_pos _).elim id (fun q => absurd (show tShow O V k = tShow O V k - 1 + 1 by omega) (hn (tShow O V k - 1) (by omega))); rw [e0]; rfl, rfl⟩
  | succ n ih =>
    intro i hi hn
    refine p_iload_n 2 3 rfl rfl dX9_showsWhere_2 rfl ?_
    refine p_iconst (4) 4 rfl dX9_showsWhere_3 rfl ?_
    refine p_icmp_ge 29 7 rfl rfl dX9_showsWhere_4 (fun h4 => absurd h4 (nI_ge (a := i) (b := 4) (by omega) (by omega))) (fun h4 => ?_)
    refine p_aload_n 0 8 rfl rfl dX9_showsWhere_7 rfl ?_
    refine p_iconst (0) 9 rfl dX9_showsWhere_8 rfl ?_
    refine p_iload_n 2 10 rfl rfl dX9_showsWhere_9 rfl ?_
    refine p_cV2i 13 rfl dX9_showsWhere_10 (c_showsIn hM hw hv (by decide) (by omega)) ml_X9_347 vl_X9_showsIn rfl (by decide) rfl (Nat.le_of_ble_eq_true rfl) (Nat.le_of_ble_eq_true rfl) rfl ?_
    refine p_iload_n 1 14 rfl rfl dX9_showsWhere_13 rfl ?_
    refine p_ishr 15 rfl dX9_showsWhere_14 ?_
    refine p_iconst (1) 16 rfl dX9_showsWhere_15 rfl ?_
    refine p_iand 17 rfl dX9_showsWhere_16 ?_
    rw [sb1 (Nat.lt_trans (wOf_l hO _ _) (by decide)) (by omega), wOf_bit hO hk]
    refine p_iconst (1) 18 rfl dX9_showsWhere_17 rfl ?_
    refine p_icmp_ne 23 21 rfl rfl dX9_showsWhere_18 (fun h18 => ?_) (fun h18 => ?_)
    · refine p_inc_2 26 rfl dX9_showsWhere_23 (1) rfl (Nat.le_of_ble_eq_true rfl) rfl ?_
      refine p_goto 2 rfl dX9_showsWhere_26 ?_
      rw [nI_1]
      have g : ¬ tShow O V k = i + 1 := fun q => h18 (b2i_1.mpr (by simp [q]))
      exact ih (i + 1) (by omega) (fun j hj => (Nat.lt_or_ge j i).elim (fun w => hn j w) (fun w => by rw [show j = i by omega]; exact g))
    · refine p_iload_n 2 22 rfl rfl dX9_showsWhere_21 rfl ?_
      exact p_iret dX9_showsWhere_22 rfl ⟨by have g : tShow O V k = i + 1 := (by have := b2i_1.mp h18; simpa using this); rw [g, pI_s], rfl⟩
set_option maxRecDepth 4000 in
theorem c_showsWhere {O : AO} {V : AW} {e : Bool} (hM : OM σ O) (hw : RowM e (hA σ mRo) 0 O V) (hv : OkV O V) {k : Nat} (hk : k < aW O) : CallOk Γ 6 0 0 mX9_showsWhere [.ref M0, .int (nI k)] σ (rI σ (pI (tShow O V k))) := by
  refine p_enter rfl rfl (Nat.le_of_ble_eq_true rfl) rfl ?_
  refine p_iconst (0) 1 rfl dX9_showsWhere_0 rfl ?_
  refine p_ist_n2 2 rfl rfl dX9_showsWhere_1 (Nat.le_of_ble_eq_true rfl) rfl ?_
  exact l_showsWhere hM hw hv hk 4 0 (by omega) (fun j hj => absurd hj (Nat.not_lt_zero _))
set_option maxRecDepth 8000 in
theorem q_word (hRM : RM σ A) (x y : Int32) : CallOk Γ 12 0 0 mX9_word [.ref M0, .int x, .int y] σ (rM (fWord A x y) (fun σ' => RM σ' A ∧ ChM σ σ')) := by
  have hK := hRM.2.1
  have hO := hK.2.2.1
  have hs9 := hO.1
  have hc6 := hO.2.1
  have hw12 := hO.2.2.1
  have hk8 := hO.2.2.2.1
  have hv := hK.2.2.2.2.1.1
  have hd9 := hK.2.2.2.2.1.2
  refine p_enter rfl rfl (Nat.le_of_ble_eq_true rfl) rfl ?_
  refine p_aload_n 0 1 rfl rfl dX9_word_0 rfl ?_
  refine p_iconst (0) 2 rfl dX9_word_1 rfl ?_
  refine p_putI 9 0 5 rfl dX9_word_2 fl_X9_102 rfl rfl (Or.inl rfl) ?_
  have hQ : FQ σ (sI σ M0 0 0) := FQ.th
  have hR0 := hRM.q hQ
  have h0 : hI (sI σ M0 0 0) M0 0 = 0 := hI_sI _ _ _ _
  generalize sI σ M0 0 0 = τ at hQ hR0 h0 ⊢
  have hM := hR0.1
  have hw := hR0.2.2.1
  refine p_aload_n 0 6 rfl rfl dX9_word_5 rfl ?_
  refine p_iload_n 1 7 rfl rfl dX9_word_6 rfl ?_
  refine p_cV1x 0 0 10 rfl dX9_word_7 (c_isWord hM h0 _) ml_X9_390 vl_X9_isWord rfl (by decide) rfl (Nat.le_of_ble_eq_true rfl) (Nat.le_of_ble_eq_true rfl) (Nat.le_of_ble_eq_true rfl) (Nat.le_of_ble_eq_true rfl) rfl ?_
  intro v0 τ0 hp0
  obtain ⟨hv0, ht0, hf0⟩ := hp0
  subst hv0
  refine p_if_eq 22 13 rfl rfl dX9_word_10 (fun h10 => ?_) (fun h10 => ?_)
  · have hb0 : inR x (aW (tO A)) = false := by simpa only [b2i_eq0, Bool.not_eq_true, Decidable.not_not] using h10
    have ee0 := hf0 hb0
    subst ee0
    refine p_iconst (0) 23 rfl dX9_word_22 rfl ?_
    exact p_iret dX9_word_23 rfl ⟨_, rfl, by rw [fWord, gd_f hb0]; exact hI_sI _ _ _ _, fun q => absurd q (by rw [fWord, gd_f hb0]; decide), (hRM.q hQ).q FQ.th, (hQ.tr FQ.th).ch⟩
  · have hb0 : inR x (aW (tO A)) = true := by simpa only [b2i_eq0, Decidable.not_not, Bool.not_eq_true, Bool.not_eq_false] using h10
    have ee0 := ht0 hb0
    subst ee0
    obtain ⟨k, rfl, hk⟩ := asN hb0 (by omega)
    have hkL : k < 2147483648 := by omega
    refine p_aload_n 0 14 rfl rfl dX9_word_13 rfl ?_
    refine p_iload_n 2 15 rfl rfl dX9_word_14 rfl ?_
    refine p_iconst (3) 16 rfl dX9_word_15 rfl ?_
    refine p_cV2x 0 0 19 rfl dX9_word_16 (c_isWhat (n := 3) h0 _ (by decide)) ml_X9_381 vl_X9_isWhat rfl (by decide) rfl (Nat.le_of_ble_eq_true rfl) (Nat.le_of_ble_eq_true rfl) (Nat.le_of_ble_eq_true rfl) (Nat.le_of_ble_eq_true rfl) rfl ?_
    intro v1 τ1 hp1
    obtain ⟨hv1, ht1, hf1⟩ := hp1
    subst hv1
    refine p_if_ne 24 22 rfl rfl dX9_word_19 (fun h19 => ?_) (fun h19 => ?_)
    · have hb1 : inR y 4 = true := by simpa only [b2i_eq0, Decidable.not_not, Bool.not_eq_true, Bool.not_eq_false] using h19
      have ee1 := ht1 hb1
      subst ee1
      obtain ⟨q, rfl, hq⟩ := asN hb1 (by omega)
      have hqL : q < 2147483648 := by omega
      refine p_iload_n 2 25 rfl rfl dX9_word_24 rfl ?_
      refine p_if_ne 37 28 rfl rfl dX9_word_25 (fun h25 => ?_) (fun h25 => ?_)
      · refine p_iload_n 2 38 rfl rfl dX9_word_37 rfl ?_
        refine p_iconst (1) 39 rfl dX9_word_38 rfl ?_
        refine p_icmp_ne 51 42 rfl rfl dX9_word_39 (fun h39 => ?_) (fun h39 => ?_)
        · refine p_iload_n 2 52 rfl rfl dX9_word_51 rfl ?_
          refine p_iconst (2) 53 rfl dX9_word_52 rfl ?_
          refine p_icmp_ne 64 56 rfl rfl dX9_word_53 (fun h53 => ?_) (fun h53 => ?_)
          · refine p_aload_n 0 65 rfl rfl dX9_word_64 rfl ?_
            refine p_iconst (0) 66 rfl dX9_word_65 rfl ?_
            refine p_iload_n 1 67 rfl rfl dX9_word_66 rfl ?_
            refine p_cV2i 70 rfl dX9_word_67 (c_mKnowers hM hw hv (by decide) (by omega)) ml_X9_396 vl_X9_knowers rfl (by decide) rfl (Nat.le_of_ble_eq_true rfl) (Nat.le_of_ble_eq_true rfl) rfl ?_
            exact p_iret dX9_word_70 rfl ⟨_, rfl, by rw [fWord, gd_t hb0, gd_t hb1]; exact h0, fun _ => by rw [fWord, gd_t hb0, gd_t hb1]; have hn25 : ¬ q = 0 := fun e => h25 (by rw [e]; rfl); have hn39 : ¬ q = 1 := fun e => h39 (by rw [e]; rfl); have hn53 : ¬ q = 2 := fun e => h53 (by rw [e]; rfl); have hqe : q = 3 := (by omega); subst hqe; simp only [sel, iN_nI hkL, iN_nI (show 3 < 2147483648 by decide)]; rfl, hR0, hQ.ch⟩
          · refine p_aload_n 0 57 rfl rfl dX9_word_56 rfl ?_
            refine p_iload_n 1 58 rfl rfl dX9_word_57 rfl ?_
            refine p_cV1i 61 rfl dX9_word_58 (c_showsWhere hM hw hv hk) ml_X9_393 vl_X9_showsWhere rfl (by decide) rfl (Nat.le_of_ble_eq_true rfl) (Nat.le_of_ble_eq_true rfl) rfl ?_
            refine p_goto 70 rfl dX9_word_61 ?_
            exact p_iret dX9_word_70 rfl ⟨_, rfl, by rw [fWord, gd_t hb0, gd_t hb1]; exact h0, fun _ => by rw [fWord, gd_t hb0, gd_t hb1]; have hn25 : ¬ q = 0 := fun e => h25 (by rw [e]; rfl); have hn39 : ¬ q = 1 := fun e => h39 (by rw [e]; rfl); have hqe : q = 2 := nI_eqI h53 (by omega) (by decide); subst hqe; simp only [sel, iN_nI hkL, iN_nI (show 2 < 2147483648 by decide)]; rfl, hR0, hQ.ch⟩
        · refine p_aload_n 0 43 rfl rfl dX9_word_42 rfl ?_
          refine p_getR 9 10 46 rfl dX9_word_43 fl_X9_26 rfl rfl (show hR _ M0 10 = mWr from hM.1 10) (by decide) ?_
          refine p_iload_n 1 47 rfl rfl dX9_word_46 rfl ?_
          refine p_ialdE 48 rfl dX9_word_47 (i := k) rfl (by show k < 12; omega) (hM.2.2.2.2.1 k hk).2 ?_
          refine p_goto 70 rfl dX9_word_48 ?_
          exact p_iret dX9_word_70 rfl ⟨_, rfl, by rw [fWord, gd_t hb0, gd_t hb1]; exact h0, fun _ => by rw [fWord, gd_t hb0, gd_t hb1]; have hn25 : ¬ q = 0 := fun e => h25 (by rw [e]; rfl); have hqe : q = 1 := nI_eqI h39 (by omega) (by decide); subst hqe; simp only [sel, iN_nI hkL, iN_nI (show 1 < 2147483648 by decide)]; rfl, hR0, hQ.ch⟩
      · refine p_aload_n 0 29 rfl rfl dX9_word_28 rfl ?_
        refine p_getR 9 9 32 rfl dX9_word_29 fl_X9_23 rfl rfl (show hR _ M0 9 = mWl from hM.1 9) (by decide) ?_
        refine p_iload_n 1 33 rfl rfl dX9_word_32 rfl ?_
        refine p_ialdE 34 rfl dX9_word_33 (i := k) rfl (by show k < 12; omega) (hM.2.2.2.2.1 k hk).1 ?_
        refine p_goto 70 rfl dX9_word_34 ?_
        exact p_iret dX9_word_70 rfl ⟨_, rfl, by rw [fWord, gd_t hb0, gd_t hb1]; exact h0, fun _ => by rw [fWord, gd_t hb0, gd_t hb1]; have hqe : q = 0 := nI_eqI h25 (by omega) (by decide); subst hqe; simp only [sel, iN_nI hkL, iN_nI (show 0 < 2147483648 by decide)]; rfl, hR0, hQ.ch⟩
    · have hb1 : inR y 4 = false := by simpa only [b2i_eq0, Bool.not_eq_true, Decidable.not_not] using h19
      have ee1 := hf1 hb1
      subst ee1
      refine p_iconst (0) 23 rfl dX9_word_22 rfl ?_
      exact p_iret dX9_word_23 rfl ⟨_, rfl, by rw [fWord, gd_t hb0, gd_f hb1]; exact hI_sI _ _ _ _, fun q => absurd q (by rw [fWord, gd_t hb0, gd_f hb1]; decide), (hRM.q hQ).q FQ.th, (hQ.tr FQ.th).ch⟩
set_option maxRecDepth 4000 in
theorem l_mTell {τ : PH} (hM : OM τ (tO A)) {W : AW} (hv : OkV (tO A) W) {c k i : Nat} {Q : PO → PH → Prop} (kk : ∀ (σ2 : PH) (x4 : Option Value), RowM true (hA σ2 mRo) 34 (tO A) (telF (tO A) 4 W) → FrB 34 τ σ2 → Ok Γ 11 0 0 mX9_chain 97 [some (.ref M0), some (.int (nI c)), some (.int (nI k)), some (.int (nI i)), x4] [] σ2 Q) : ∀ (n t : Nat) (σ2 : PH), t + n = 4 → RowM true (hA σ2 mRo) 34 (tO A) (telF (tO A) t W) → FrB 34 τ σ2 → Ok Γ 11 0 0 mX9_chain 57 [some (.ref M0), some (.int (nI c)), some (.int (nI k)), some (.int (nI i)), some (.int (nI t))] [] σ2 Q := by
  have hO := hM.2.1
  have hc6 := hO.2.1
  intro n
  induction n with
  | zero =>
    intro t σ2 ht hw2 hF2
    have hM2 := hM.frB hF2
    have hv2 := telF_ok hO hv t
    refine p_iload 4 59 rfl dX9_chain_57 rfl ?_
    refine p_iconst (4) 60 rfl dX9_chain_59 rfl ?_
    refine p_icmp_ge 97 63 rfl rfl dX9_chain_60 (fun h60 => ?_) (fun h60 => absurd (nI_le (a := 4) (b := t) (by omega) (by omega)) h60)
    rw [show t = 4 by omega] at hw2
    exact kk σ2 _ hw2 hF2
  | succ n ih =>
    intro t σ2 ht hw2 hF2
    have hM2 := hM.frB hF2
    have hv2 := telF_ok hO hv t
    refine p_iload 4 59 rfl dX9_chain_57 rfl ?_
    refine p_iconst (4) 60 rfl dX9_chain_59 rfl ?_
    refine p_icmp_ge 97 63 rfl rfl dX9_chain_60 (fun h60 => absurd h60 (nI_ge (a := t) (b := 4) (by omega) (by omega))) (fun h60 => ?_)
    refine p_aload_n 0 64 rfl rfl dX9_chain_63 rfl ?_
    refine p_bipush (34) 66 rfl dX9_chain_64 rfl ?_
    refine p_aload_n 0 67 rfl rfl dX9_chain_66 rfl ?_
    refine p_bipush (34) 69 rfl dX9_chain_67 rfl ?_
    refine p_iload 4 71 rfl dX9_chain_69 rfl ?_
    refine p_cV2i 74 rfl dX9_chain_71 (c_clerksAt hM2 hw2 hv2 (by decide) (by omega)) ml_X9_335 vl_X9_clerksAt rfl (by decide) rfl (Nat.le_of_ble_eq_true rfl) (Nat.le_of_ble_eq_true rfl) rfl ?_
    refine p_aload_n 0 75 rfl rfl dX9_chain_74 rfl ?_
    refine p_bipush (34) 77 rfl dX9_chain_75 rfl ?_
    refine p_aload_n 0 78 rfl rfl dX9_chain_77 rfl ?_
    refine p_bipush (34) 80 rfl dX9_chain_78 rfl ?_
    refine p_iload 4 82 rfl dX9_chain_80 rfl ?_
    refine p_cV2i 85 rfl dX9_chain_82 (c_clerksAt hM2 hw2 hv2 (by decide) (by omega)) ml_X9_335 vl_X9_clerksAt rfl (by decide) rfl (Nat.le_of_ble_eq_true rfl) (Nat.le_of_ble_eq_true rfl) rfl ?_
    refine p_cV2i 88 rfl dX9_chain_85 (c_knownBy hM2 hw2 hv2 (by decide) (Nat.lt_trans (clIn_l hO _ _) (by decide))) ml_X9_338 vl_X9_knownBy rfl (by decide) rfl (Nat.le_of_ble_eq_true rfl) (Nat.le_of_ble_eq_true rfl) rfl ?_
    refine p_cV3v 0 0 91 rfl dX9_chain_88 (c_learns hM2 hw2 (by decide) (Nat.lt_trans (clIn_l hO _ _) (by decide))) ml_X9_350 vl_X9_learns rfl (by decide) rfl (Nat.le_of_ble_eq_true rfl) (Nat.le_of_ble_eq_true rfl) (Nat.le_of_ble_eq_true rfl) (Nat.le_of_ble_eq_true rfl) rfl ?_
    intro σ3 hp3
    refine p_inc_4 94 rfl dX9_chain_91 (1) rfl (Nat.le_of_ble_eq_true rfl) rfl ?_
    refine p_goto 57 rfl dX9_chain_94 ?_
    rw [nI_1]
    exact ih (t + 1) σ3 (by omega) hp3.1 (hF2.tr hp3.2)
set_option maxRecDepth 4000 in
theorem l_mChain (hK : OkT A) {c k : Nat} (hc : c < aC (tO A)) (hk : k < aW (tO A)) {F : Option Nat} : ∀ (n i : Nat) (σ1 : PH) (x4 : Option Value), i + n = 41 → RM σ1 A → RowM true (hA σ1 mRo) 34 (tO A) (chnF (tO A) i (tV A)) → hI σ1 M0 0 = 0 → ChM σ σ1 → fnd n i (fun j => (vK (chnF (tO A) j (tV A)) c).testBit k) = F → Ok Γ 11 0 0 mX9_chain 29 [some (.ref M0), some (.int (nI c)), some (.int (nI k)), some (.int (nI i)), x4] [] σ1 (rM (0, oI F) (fun σ' => RM σ' A ∧ ChM σ σ')) := by
  have hO := hK.2.2.1
  have hc6 := hO.2.1
  have hw12 := hO.2.2.1
  have hs9 := hO.1
  have hv := hK.2.2.2.2.1.1
  have hd9 := hK.2.2.2.2.1.2
  intro n
  induction n with
  | zero =>
    intro i σ1 x4 hi hR1 hw1 h01 hc1 hF0
    have hM1 := hR1.1
    have hv1 := chnF_ok hO hv i (by omega)
    refine p_iload_n 3 30 rfl rfl dX9_chain_29 rfl ?_
    refine p_bipush (40) 32 rfl dX9_chain_30 rfl ?_
    refine p_icmp_gt 109 35 rfl rfl dX9_chain_32 (fun h32 => ?_) (fun h32 => absurd (nI_lt (a := 40) (b := i) (by omega) (by omega)) h32)
    refine p_iconst (-1) 110 rfl dX9_chain_109 rfl ?_
    exact p_iret dX9_chain_110 rfl ⟨_, rfl, h01, fun _ => by rw [← hF0]; rfl, hR1, hc1⟩
  | succ n ih =>
    intro i σ1 x4 hi hR1 hw1 h01 hc1 hF0
    have hM1 := hR1.1
    have hv1 := chnF_ok hO hv i (by omega)
    refine p_iload_n 3 30 rfl rfl dX9_chain_29 rfl ?_
    refine p_bipush (40) 32 rfl dX9_chain_30 rfl ?_
    refine p_icmp_gt 109 35 rfl rfl dX9_chain_32 (fun h32 => absurd h32 (nI_nlt (a := 40) (b := i) (by omega) (by omega))) (fun h32 => ?_)
    refine p_aload_n 0 36 rfl rfl dX9_chain_35 rfl ?_
    refine p_getR 9 44 39 rfl dX9_chain_36 fl_X9_66 rfl rfl (show hR _ M0 44 = mRo from hM1.1 44) (by decide) ?_
    refine p_bipush (62) 41 rfl dX9_chain_39 rfl ?_
    refine p_iload_n 1 42 rfl rfl dX9_chain_41 rfl ?_
    refine p_iadd 43 rfl dX9_chain_42 ?_
    rw [ix0 62 c 62 rfl]
    refine p_ialdE 44 rfl dX9_chain_43 (i := 62 + c) rfl (by show _ < 68; omega) (hw1.2.2 c hc) ?_
    refine p_iload_n 2 45 rfl rfl dX9_chain_44 rfl ?_
    refine p_ishr 46 rfl dX9_chain_45 ?_
    refine p_iconst (1) 47 rfl dX9_chain_46 rfl ?_
    refine p_iand 48 rfl dX9_chain_47 ?_
    rw [sb1 (by have := hv1.2.2.2 c (by omega); omega) (by omega)]
    refine p_iconst (1) 49 rfl dX9_chain_48 rfl ?_
    refine p_icmp_ne 54 52 rfl rfl dX9_chain_49 (fun h49 => ?_) (fun h49 => ?_)
    · have hb : (vK (chnF (tO A) i (tV A)) c).testBit k = false := by simpa only [b2i_eq0, b2i_1, Bool.not_eq_true, Decidable.not_not] using h49
      refine p_iconst (0) 55 rfl dX9_chain_54 rfl ?_
      refine p_ist_4 57 rfl dX9_chain_55 (Nat.le_of_ble_eq_true rfl) rfl ?_
      refine l_mTell hM1 hv1 (fun σ2 x4b hw2 hF2 => ?_) 4 0 σ1 (by omega) hw1 FrB.rf
      refine p_aload_n 0 98 rfl rfl dX9_chain_97 rfl ?_
      refine p_bipush (34) 100 rfl dX9_chain_98 rfl ?_
      refine p_cV1v 0 0 103 rfl dX9_chain_100 (c_dayGoes (hM1.frB hF2) hw2 (telF_ok hO hv1 4) (by decide)) ml_X9_357 vl_X9_dayGoes rfl (by decide) rfl (Nat.le_of_ble_eq_true rfl) (Nat.le_of_ble_eq_true rfl) (Nat.le_of_ble_eq_true rfl) (Nat.le_of_ble_eq_true rfl) rfl ?_
      intro σ3 hp3
      have hB := hF2.tr hp3.2
      refine p_inc_3 106 rfl dX9_chain_103 (1) rfl (Nat.le_of_ble_eq_true rfl) rfl ?_
      refine p_goto 29 rfl dX9_chain_106 ?_
      rw [nI_1]
      refine ih (i + 1) σ3 x4b (by omega) (hR1.q (FQ.b hB)) hp3.1 ((hB.1.2.1 M0 0 (by simp)).trans h01) (hc1.tr (FQ.b hB).ch) ?_
      rw [← hF0, fnd, if_neg (by rw [hb]; decide)]
    · have hb : (vK (chnF (tO A) i (tV A)) c).testBit k = true := by simpa only [b2i_eq0, b2i_1, Decidable.not_not, Bool.not_eq_true, Bool.not_eq_false] using h49
      refine p_iload_n 3 53 rfl rfl dX9_chain_52 rfl ?_
      exact p_iret dX9_chain_53 rfl ⟨_, rfl, h01, fun _ => by rw [← hF0, fnd, if_pos hb]; rfl, hR1, hc1⟩
set_option maxRecDepth 8000 in
theorem q_chain (hRM : RM σ A) (x y : Int32) : CallOk Γ 12 0 0 mX9_chain [.ref M0, .int x, .int y] σ (rM (fChain A x y) (fun σ' => RM σ' A ∧ ChM σ σ')) := by
  have hK := hRM.2.1
  have hO := hK.2.2.1
  have hs9 := hO.1
  have hc6 := hO.2.1
  have hw12 := hO.2.2.1
  have hk8 := hO.2.2.2.1
  have hv := hK.2.2.2.2.1.1
  have hd9 := hK.2.2.2.2.1.2
  refine p_enter rfl rfl (Nat.le_of_ble_eq_true rfl) rfl ?_
  refine p_aload_n 0 1 rfl rfl dX9_chain_0 rfl ?_
  refine p_iconst (0) 2 rfl dX9_chain_1 rfl ?_
  refine p_putI 9 0 5 rfl dX9_chain_2 fl_X9_102 rfl rfl (Or.inl rfl) ?_
  have hQ : FQ σ (sI σ M0 0 0) := FQ.th
  have hR0 := hRM.q hQ
  have h0 : hI (sI σ M0 0 0) M0 0 = 0 := hI_sI _ _ _ _
  generalize sI σ M0 0 0 = τ at hQ hR0 h0 ⊢
  have hM := hR0.1
  have hw := hR0.2.2.1
  refine p_aload_n 0 6 rfl rfl dX9_chain_5 rfl ?_
  refine p_iload_n 1 7 rfl rfl dX9_chain_6 rfl ?_
  refine p_cV1x 0 0 10 rfl dX9_chain_7 (c_isClerk hM h0 _) ml_X9_387 vl_X9_isClerk rfl (by decide) rfl (Nat.le_of_ble_eq_true rfl) (Nat.le_of_ble_eq_true rfl) (Nat.le_of_ble_eq_true rfl) (Nat.le_of_ble_eq_true rfl) rfl ?_
  intro v0 τ0 hp0
  obtain ⟨hv0, ht0, hf0⟩ := hp0
  subst hv0
  refine p_if_eq 21 13 rfl rfl dX9_chain_10 (fun h10 => ?_) (fun h10 => ?_)
  · have hb0 : inR x (aC (tO A)) = false := by simpa only [b2i_eq0, Bool.not_eq_true, Decidable.not_not] using h10
    have ee0 := hf0 hb0
    subst ee0
    refine p_iconst (0) 22 rfl dX9_chain_21 rfl ?_
    exact p_iret dX9_chain_22 rfl ⟨_, rfl, by rw [fChain, gd_f hb0]; exact hI_sI _ _ _ _, fun q => absurd q (by rw [fChain, gd_f hb0]; decide), (hRM.q hQ).q FQ.th, (hQ.tr FQ.th).ch⟩
  · have hb0 : inR x (aC (tO A)) = true := by simpa only [b2i_eq0, Decidable.not_not, Bool.not_eq_true, Bool.not_eq_false] using h10
    have ee0 := ht0 hb0
    subst ee0
    obtain ⟨c, rfl, hc⟩ := asN hb0 (by omega)
    have hcL : c < 2147483648 := by omega
    refine p_aload_n 0 14 rfl rfl dX9_chain_13 rfl ?_
    refine p_iload_n 2 15 rfl rfl dX9_chain_14 rfl ?_
    refine p_cV1x 0 0 18 rfl dX9_chain_15 (c_isWord hM h0 _) ml_X9_390 vl_X9_isWord rfl (by decide) rfl (Nat.le_of_ble_eq_true rfl) (Nat.le_of_ble_eq_true rfl) (Nat.le_of_ble_eq_true rfl) (Nat.le_of_ble_eq_true rfl) rfl ?_
    intro v1 τ1 hp1
    obtain ⟨hv1, ht1, hf1⟩ := hp1
    subst hv1
    refine p_if_ne 23 21 rfl rfl dX9_chain_18 (fun h18 => ?_) (fun h18 => ?_)
    · have hb1 : inR y (aW (tO A)) = true := by simpa only [b2i_eq0, Decidable.not_not, Bool.not_eq_true, Bool.not_eq_false] using h18
      have ee1 := ht1 hb1
      subst ee1
      obtain ⟨k, rfl, hk⟩ := asN hb1 (by omega)
      have hkL : k < 2147483648 := by omega
      refine p_aload_n 0 24 rfl rfl dX9_chain_23 rfl ?_
      refine p_cV0v 0 0 27 rfl dX9_chain_24 (c_tries hM hw) ml_X9_420 vl_X9_tries rfl (by decide) rfl (Nat.le_of_ble_eq_true rfl) (Nat.le_of_ble_eq_true rfl) (Nat.le_of_ble_eq_true rfl) (Nat.le_of_ble_eq_true rfl) rfl ?_
      intro σ1 hp1
      have hR1 := hR0.q (FQ.b hp1.2)
      have h01 : hI σ1 M0 0 = 0 := (hp1.2.1.2.1 M0 0 (by simp)).trans h0
      refine p_iconst (0) 28 rfl dX9_chain_27 rfl ?_
      refine p_ist_n3 29 rfl rfl dX9_chain_28 (Nat.le_of_ble_eq_true rfl) rfl ?_
      have e : fChain A (nI c) (nI k) = (0, oI (fnd 41 0 (fun j => (vK (chnF (tO A) j (tV A)) c).testBit k))) := by rw [fChain, gd_t hb0, gd_t hb1, iN_nI hcL, iN_nI hkL]
      rw [e]
      exact Ok.sub (l_mChain hK hc hk 41 0 σ1 _ (by omega) hR1 hp1.1 h01 (hQ.tr (FQ.b hp1.2)).ch rfl) (by decide) (by decide) (by decide)
    · have hb1 : inR y (aW (tO A)) = false := by simpa only [b2i_eq0, Bool.not_eq_true, Decidable.not_not] using h18
      have ee1 := hf1 hb1
      subst ee1
      refine p_iconst (0) 22 rfl dX9_chain_21 rfl ?_
      exact p_iret dX9_chain_22 rfl ⟨_, rfl, by rw [fChain, gd_t hb0, gd_f hb1]; exact hI_sI _ _ _ _, fun q => absurd q (by rw [fChain, gd_t hb0, gd_f hb1]; decide), (hRM.q hQ).q FQ.th, (hQ.tr FQ.th).ch⟩
end C89
