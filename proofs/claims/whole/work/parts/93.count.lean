/-! ===== the reference: couples, count ===== -/
theorem FQ.co {σ : PH} {k : Nat} {x : Int32} (hk : k ≠ 0) : FQ σ (sA σ mCo k x) := ⟨rfl, rfl, rfl, fun _ _ _ => rfl, fun r q => sA_o (fun e => q (by rw [e]; simp)), fun j _ => by rw [sA_o (show mRo ≠ mCo by decide)], by rw [sA_s, pk_un (fun e => hk e.symm)]⟩
theorem low_min : ∀ k, k < 512 → ∀ s, s < 9 → low k = some s → (∀ j, j < s → k.testBit j = false) ∧ k.testBit s = true ∧ k ^^^ (k &&& 2 ^ s) = k &&& (k - 1) := by decide +kernel
theorem bsd_bit {O : AO} {V : AW} {s q : Nat} (hq : q < aS O) : (bsd O V s).testBit q = (fitt O V s q || fitt O V q s) := by
  unfold bsd bsN ftg
  rw [Nat.testBit_or, setN_bit, setN_bit, decide_eq_true hq, Bool.true_and, Bool.true_and]
theorem gr_mx {a b : Nat} (ha : a < 2 ^ 31) (hb : b < 2 ^ 31) : (if nI a ≤ nI b then nI b else nI a) = nI (max a b) := by
  by_cases h : a ≤ b
  · rw [if_pos (nI_le h hb), Nat.max_eq_right h]
  · rw [if_neg (nI_ge (by omega) ha), Nat.max_eq_left (by omega)]
def TabC (σ : PH) (T : Nat → Nat) (k : Nat) : Prop := ∀ j, j ≤ k → hA σ mCo j = nI (T j)
section C93
variable {Γ : Gm} {σ : PH} {A : AT}
set_option maxRecDepth 4000 in
theorem l_coLow {τ : PH} {k s : Nat} (hk : k + 1 < 512) (hs9 : s < 9) (hs : low (k + 1) = some s) {x3 x4 x5 : Option Value} {Q : PO → PH → Prop} (kk : Ok Γ 5 0 0 mX9_couples 28 [some (.ref M0), some (.int (nI (k + 1))), some (.int (nI s)), x3, x4, x5] [] τ Q) : ∀ (n i : Nat), i + n = s → Ok Γ 5 0 0 mX9_couples 14 [some (.ref M0), some (.int (nI (k + 1))), some (.int (nI i)), x3, x4, x5] [] τ Q := by
  have hlm := low_min (k + 1) hk s hs9 hs
  intro n
  induction n with
  | zero =>
    intro i hi
    refine p_iload_n 1 15 rfl rfl dX9_couples_14 rfl ?_
    refine p_iload_n 2 16 rfl rfl dX9_couples_15 rfl ?_
    refine p_ishr 17 rfl dX9_couples_16 ?_
    refine p_iconst (1) 18 rfl dX9_couples_17 rfl ?_
    refine p_iand 19 rfl dX9_couples_18 ?_
    rw [sb1 (by omega) (by omega)]
    refine p_if_ne 28 22 rfl rfl dX9_couples_19 (fun h19 => ?_) (fun h19 => absurd h19 (fun q => absurd (b2i_eq0.mp q) (fun w => w (by rw [show i = s by omega]; exact hlm.2.1))))
    rw [show i = s by omega]
    exact kk
  | succ n ih =>
    intro i hi
    refine p_iload_n 1 15 rfl rfl dX9_couples_14 rfl ?_
    refine p_iload_n 2 16 rfl rfl dX9_couples_15 rfl ?_
    refine p_ishr 17 rfl dX9_couples_16 ?_
    refine p_iconst (1) 18 rfl dX9_couples_17 rfl ?_
    refine p_iand 19 rfl dX9_couples_18 ?_
    rw [sb1 (by omega) (by omega)]
    refine p_if_ne 28 22 rfl rfl dX9_couples_19 (fun h19 => absurd (b2i_eq0.mpr (by rw [hlm.1 i (by omega)]; decide)) h19) (fun h19 => ?_)
    refine p_inc_2 25 rfl dX9_couples_22 (1) rfl (Nat.le_of_ble_eq_true rfl) rfl ?_
    refine p_goto 14 rfl dX9_couples_25 ?_
    rw [nI_1]
    exact ih (i + 1) (by omega)
set_option maxRecDepth 4000 in
theorem l_coPart {τ : PH} (hR0 : RM τ A) {T : Nat → Nat} {k s r : Nat} (hTb : ∀ j, T j ≤ j) (hk : k + 1 < 512) (hrk : r < k + 1) (htb : ∀ j, j < k + 1 → hA τ mCo j = nI (T j)) (hs : s < aS (tO A)) {Q : PO → PH → Prop} (kk : ∀ x5, Ok Γ 5 0 0 mX9_couples 118 [some (.ref M0), some (.int (nI (k + 1))), some (.int (nI s)), some (.int (nI r)), some (.int (nI (mcI (bsd (tO A) (tV A)) T s r (aS (tO A) - (s + 1))))), x5] [] τ Q) : ∀ (n j : Nat), s + 1 + j + n = aS (tO A) → Ok Γ 5 0 0 mX9_couples 49 [some (.ref M0), some (.int (nI (k + 1))), some (.int (nI s)), some (.int (nI r)), some (.int (nI (mcI (bsd (tO A) (tV A)) T s r j))), some (.int (nI (s + 1 + j)))] [] τ Q := by
  have hK := hR0.2.1
  have hO := hK.2.2.1
  have hc6 := hO.2.1
  have hw12 := hO.2.2.1
  have hs9 := hO.1
  have hv := hK.2.2.2.2.1.1
  have hd9 := hK.2.2.2.2.1.2
  have hM := hR0.1
  have hw := hR0.2.2.1
  intro n
  induction n with
  | zero =>
    intro j hj
    refine p_iload 5 51 rfl dX9_couples_49 rfl ?_
    refine p_aload_n 0 52 rfl rfl dX9_couples_51 rfl ?_
    refine p_getIE 9 1 55 rfl dX9_couples_52 fl_X9_280 rfl rfl hM.2.2.1.1 ?_
    refine p_icmp_ge 118 58 rfl rfl dX9_couples_55 (fun h55 => ?_) (fun h55 => absurd (nI_le (a := aS (tO A)) (b := s + 1 + j) (by omega) (by omega)) h55)
    rw [show j = aS (tO A) - (s + 1) by omega]
    exact kk _
  | succ n ih =>
    intro j hj
    refine p_iload 5 51 rfl dX9_couples_49 rfl ?_
    refine p_aload_n 0 52 rfl rfl dX9_couples_51 rfl ?_
    refine p_getIE 9 1 55 rfl dX9_couples_52 fl_X9_280 rfl rfl hM.2.2.1.1 ?_
    refine p_icmp_ge 118 58 rfl rfl dX9_couples_55 (fun h55 => absurd h55 (nI_ge (a := s + 1 + j) (b := aS (tO A)) (by omega) (by omega))) (fun h55 => ?_)
    refine p_iload_n 3 59 rfl rfl dX9_couples_58 rfl ?_
    refine p_iload 5 61 rfl dX9_couples_59 rfl ?_
    refine p_ishr 62 rfl dX9_couples_61 ?_
    refine p_iconst (1) 63 rfl dX9_couples_62 rfl ?_
    refine p_iand 64 rfl dX9_couples_63 ?_
    rw [sb1 (by omega) (by omega)]
    refine p_iconst (1) 65 rfl dX9_couples_64 rfl ?_
    refine p_icmp_ne 112 68 rfl rfl dX9_couples_65 (fun h65 => ?_) (fun h65 => ?_)
    · refine p_inc_5 115 rfl dX9_couples_112 (1) rfl (Nat.le_of_ble_eq_true rfl) rfl ?_
      refine p_goto 49 rfl dX9_couples_115 ?_
      have g : r.testBit (s + 1 + j) = false := by simpa only [b2i_eq0, b2i_1, Bool.not_eq_true, Decidable.not_not] using h65
      have hb : (r &&& bsd (tO A) (tV A) s).testBit (s + 1 + j) = false := by rw [Nat.testBit_and, bsd_bit (by omega), g]; rfl
      have e : mcI (bsd (tO A) (tV A)) T s r (j + 1) = mcI (bsd (tO A) (tV A)) T s r j := by simp [mcI, hb]
      rw [nI_1, ← e]
      exact ih (j + 1) (by omega)
    · refine p_aload_n 0 69 rfl rfl dX9_couples_68 rfl ?_
      refine p_iconst (0) 70 rfl dX9_couples_69 rfl ?_
      refine p_iload_n 2 71 rfl rfl dX9_couples_70 rfl ?_
      refine p_iload 5 73 rfl dX9_couples_71 rfl ?_
      refine p_cV3i 76 rfl dX9_couples_73 (c_doesFit hM hw hv (by decide) hs (by omega)) ml_X9_331 vl_X9_doesFit rfl (by decide) rfl (Nat.le_of_ble_eq_true rfl) (Nat.le_of_ble_eq_true rfl) rfl ?_
      refine p_if_ne 90 79 rfl rfl dX9_couples_76 (fun h76 => ?_) (fun h76 => ?_)
      · refine p_iload 4 92 rfl dX9_couples_90 rfl ?_
        refine p_iconst (1) 93 rfl dX9_couples_92 rfl ?_
        refine p_aload_n 0 94 rfl rfl dX9_couples_93 rfl ?_
        refine p_getR 9 49 97 rfl dX9_couples_94 fl_X9_78 rfl rfl (show hR _ M0 49 = mCo from hM.1 49) (by decide) ?_
        refine p_iload_n 3 98 rfl rfl dX9_couples_97 rfl ?_
        refine p_iconst (1) 99 rfl dX9_couples_98 rfl ?_
        refine p_iload 5 101 rfl dX9_couples_99 rfl ?_
        refine p_ishl 102 rfl dX9_couples_101 ?_
        rw [one_shl _ (by omega)]
        refine p_iconst (-1) 103 rfl dX9_couples_102 rfl ?_
        refine p_ixor 104 rfl dX9_couples_103 ?_
        refine p_iand 105 rfl dX9_couples_104 ?_
        have h2 : r ^^^ (r &&& 2 ^ (s + 1 + j)) ≤ r := xor_le _ _
        have h3 := hTb (r ^^^ (r &&& 2 ^ (s + 1 + j)))
        have h4 := mcI_le (B := (bsd (tO A) (tV A))) (s := s) hTb hrk j
        rw [and_not_nI]
        refine p_ialdE 106 rfl dX9_couples_105 rfl (by show _ < 512; omega) (htb _ (by omega)) ?_
        refine p_iadd 107 rfl dX9_couples_106 ?_
        rw [show (1 : Int32) + nI (T (r ^^^ (r &&& 2 ^ (s + 1 + j)))) = nI (1 + T (r ^^^ (r &&& 2 ^ (s + 1 + j)))) from nI_add 1 _]
        refine p_cS2i 110 rfl dX9_couples_107 (c_greater _ _) ml_X9_360 sl_X9_greater (Nat.le_of_ble_eq_true rfl) (Nat.le_of_ble_eq_true rfl) rfl ?_
        rw [gr_mx (by omega) (by omega)]
        refine p_ist_4 112 rfl dX9_couples_110 (Nat.le_of_ble_eq_true rfl) rfl ?_
        refine p_inc_5 115 rfl dX9_couples_112 (1) rfl (Nat.le_of_ble_eq_true rfl) rfl ?_
        refine p_goto 49 rfl dX9_couples_115 ?_
        have g : r.testBit (s + 1 + j) = true := by simpa only [b2i_eq0, b2i_1, Decidable.not_not, Bool.not_eq_true, Bool.not_eq_false] using h65
        have g1 : fitt (tO A) (tV A) s (s + 1 + j) = true := by simpa only [b2i_eq0, b2i_1, Decidable.not_not, Bool.not_eq_true, Bool.not_eq_false] using h76
        have hb : (r &&& bsd (tO A) (tV A) s).testBit (s + 1 + j) = true := by rw [Nat.testBit_and, bsd_bit (by omega), g, g1]; rfl
        have e : mcI (bsd (tO A) (tV A)) T s r (j + 1) = max (mcI (bsd (tO A) (tV A)) T s r j) (1 + T (r ^^^ (r &&& 2 ^ (s + 1 + j)))) := by simp [mcI, hb]
        rw [nI_1, ← e]
        exact ih (j + 1) (by omega)
      · refine p_aload_n 0 80 rfl rfl dX9_couples_79 rfl ?_
        refine p_iconst (0) 81 rfl dX9_couples_80 rfl ?_
        refine p_iload 5 83 rfl dX9_couples_81 rfl ?_
        refine p_iload_n 2 84 rfl rfl dX9_couples_83 rfl ?_
        refine p_cV3i 87 rfl dX9_couples_84 (c_doesFit hM hw hv (by decide) (by omega) hs) ml_X9_331 vl_X9_doesFit rfl (by decide) rfl (Nat.le_of_ble_eq_true rfl) (Nat.le_of_ble_eq_true rfl) rfl ?_
        refine p_if_eq 112 90 rfl rfl dX9_couples_87 (fun h87 => ?_) (fun h87 => ?_)
        · refine p_inc_5 115 rfl dX9_couples_112 (1) rfl (Nat.le_of_ble_eq_true rfl) rfl ?_
          refine p_goto 49 rfl dX9_couples_115 ?_
          have g : r.testBit (s + 1 + j) = true := by simpa only [b2i_eq0, b2i_1, Decidable.not_not, Bool.not_eq_true, Bool.not_eq_false] using h65
          have g1 : fitt (tO A) (tV A) s (s + 1 + j) = false := by simpa only [b2i_eq0, b2i_1, Bool.not_eq_true, Decidable.not_not] using h76
          have g2 : fitt (tO A) (tV A) (s + 1 + j) s = false := by simpa only [b2i_eq0, b2i_1, Bool.not_eq_true, Decidable.not_not] using h87
          have hb : (r &&& bsd (tO A) (tV A) s).testBit (s + 1 + j) = false := by rw [Nat.testBit_and, bsd_bit (by omega), g, g1, g2]; rfl
          have e : mcI (bsd (tO A) (tV A)) T s r (j + 1) = mcI (bsd (tO A) (tV A)) T s r j := by simp [mcI, hb]
          rw [nI_1, ← e]
          exact ih (j + 1) (by omega)
        · refine p_iload 4 92 rfl dX9_couples_90 rfl ?_
          refine p_iconst (1) 93 rfl dX9_couples_92 rfl ?_
          refine p_aload_n 0 94 rfl rfl dX9_couples_93 rfl ?_
          refine p_getR 9 49 97 rfl dX9_couples_94 fl_X9_78 rfl rfl (show hR _ M0 49 = mCo from hM.1 49) (by decide) ?_
          refine p_iload_n 3 98 rfl rfl dX9_couples_97 rfl ?_
          refine p_iconst (1) 99 rfl dX9_couples_98 rfl ?_
          refine p_iload 5 101 rfl dX9_couples_99 rfl ?_
          refine p_ishl 102 rfl dX9_couples_101 ?_
          rw [one_shl _ (by omega)]
          refine p_iconst (-1) 103 rfl dX9_couples_102 rfl ?_
          refine p_ixor 104 rfl dX9_couples_103 ?_
          refine p_iand 105 rfl dX9_couples_104 ?_
          have h2 : r ^^^ (r &&& 2 ^ (s + 1 + j)) ≤ r := xor_le _ _
          have h3 := hTb (r ^^^ (r &&& 2 ^ (s + 1 + j)))
          have h4 := mcI_le (B := (bsd (tO A) (tV A))) (s := s) hTb hrk j
          rw [and_not_nI]
          refine p_ialdE 106 rfl dX9_couples_105 rfl (by show _ < 512; omega) (htb _ (by omega)) ?_
          refine p_iadd 107 rfl dX9_couples_106 ?_
          rw [show (1 : Int32) + nI (T (r ^^^ (r &&& 2 ^ (s + 1 + j)))) = nI (1 + T (r ^^^ (r &&& 2 ^ (s + 1 + j)))) from nI_add 1 _]
          refine p_cS2i 110 rfl dX9_couples_107 (c_greater _ _) ml_X9_360 sl_X9_greater (Nat.le_of_ble_eq_true rfl) (Nat.le_of_ble_eq_true rfl) rfl ?_
          rw [gr_mx (by omega) (by omega)]
          refine p_ist_4 112 rfl dX9_couples_110 (Nat.le_of_ble_eq_true rfl) rfl ?_
          refine p_inc_5 115 rfl dX9_couples_112 (1) rfl (Nat.le_of_ble_eq_true rfl) rfl ?_
          refine p_goto 49 rfl dX9_couples_115 ?_
          have g : r.testBit (s + 1 + j) = true := by simpa only [b2i_eq0, b2i_1, Decidable.not_not, Bool.not_eq_true, Bool.not_eq_false] using h65
          have g2 : fitt (tO A) (tV A) (s + 1 + j) s = true := by simpa only [b2i_eq0, b2i_1, Decidable.not_not, Bool.not_eq_true, Bool.not_eq_false] using h87
          have hb : (r &&& bsd (tO A) (tV A) s).testBit (s + 1 + j) = true := by rw [Nat.testBit_and, bsd_bit (by omega), g, g2, Bool.or_true]; rfl
          have e : mcI (bsd (tO A) (tV A)) T s r (j + 1) = max (mcI (bsd (tO A) (tV A)) T s r j) (1 + T (r ^^^ (r &&& 2 ^ (s + 1 + j)))) := by simp [mcI, hb]
          rw [nI_1, ← e]
          exact ih (j + 1) (by omega)
set_option maxRecDepth 8000 in
theorem l_couples (hRM : RM σ A) : ∀ (n k : Nat) (σ1 : PH) (x2 x3 x4 x5 : Option Value), k + 1 + n = 2 ^ aS (tO A) → TabC σ1 ((mcT (bsd (tO A) (tV A)) (aS (tO A))) k) k → FQ σ σ1 → hI σ1 = hI σ → Ok Γ 5 0 0 mX9_couples 2 [some (.ref M0), some (.int (nI (k + 1))), x2, x3, x4, x5] [] σ1 (rX (fun v σ' => v = nI (cpls (tO A) (tV A)) ∧ FQ σ σ' ∧ hI σ' = hI σ)) := by
  have hK := hRM.2.1
  have hO := hK.2.2.1
  have hc6 := hO.2.1
  have hw12 := hO.2.2.1
  have hs9 := hO.1
  have hv := hK.2.2.2.2.1.1
  have hd9 := hK.2.2.2.2.1.2
  intro n
  induction n with
  | zero =>
    intro k σ1 x2 x3 x4 x5 hk htb hq1 hi1
    have hR0 := hRM.q hq1
    have hM := hR0.1
    have hp := p9 hs9
    refine p_iload_n 1 3 rfl rfl dX9_couples_2 rfl ?_
    refine p_iconst (1) 4 rfl dX9_couples_3 rfl ?_
    refine p_aload_n 0 5 rfl rfl dX9_couples_4 rfl ?_
    refine p_getIE 9 1 8 rfl dX9_couples_5 fl_X9_280 rfl rfl hM.2.2.1.1 ?_
    refine p_ishl 9 rfl dX9_couples_8 ?_
    rw [one_shl _ (by omega)]
    refine p_icmp_ge 132 12 rfl rfl dX9_couples_9 (fun h9 => ?_) (fun h9 => absurd (nI_le (a := 2 ^ aS (tO A)) (b := k + 1) (by omega) (by omega)) h9)
    refine p_aload_n 0 133 rfl rfl dX9_couples_132 rfl ?_
    refine p_getR 9 49 136 rfl dX9_couples_133 fl_X9_78 rfl rfl (show hR _ M0 49 = mCo from hM.1 49) (by decide) ?_
    refine p_iconst (1) 137 rfl dX9_couples_136 rfl ?_
    refine p_aload_n 0 138 rfl rfl dX9_couples_137 rfl ?_
    refine p_getIE 9 1 141 rfl dX9_couples_138 fl_X9_280 rfl rfl hM.2.2.1.1 ?_
    refine p_ishl 142 rfl dX9_couples_141 ?_
    rw [one_shl _ (by omega)]
    refine p_iconst (1) 143 rfl dX9_couples_142 rfl ?_
    refine p_isub 144 rfl dX9_couples_143 ?_
    rw [show nI (2 ^ aS (tO A)) - 1 = nI (2 ^ aS (tO A) - 1) from nI_sb (b := 1) (by omega)]
    refine p_ialdE 145 rfl dX9_couples_144 (i := 2 ^ aS (tO A) - 1) rfl (by show _ < 512; omega) (htb _ (by omega)) ?_
    exact p_iret dX9_couples_145 rfl ⟨_, rfl, by rw [show k = 2 ^ aS (tO A) - 1 by omega]; rfl, hq1, hi1⟩
  | succ n ih =>
    intro k σ1 x2 x3 x4 x5 hk htb hq1 hi1
    have hR0 := hRM.q hq1
    have hM := hR0.1
    have hp := p9 hs9
    have hka : (k + 1) &&& k ≤ k := Nat.and_le_right
    obtain ⟨s, hs⟩ := low512 (k + 1) (by omega) (by omega)
    have hsn : s < aS (tO A) := (lowF_lt (m := k + 1) (k := aS (tO A)) (by omega) _ _ _ hs).1
    have hlm := low_min (k + 1) (by omega) s (by omega) hs
    refine p_iload_n 1 3 rfl rfl dX9_couples_2 rfl ?_
    refine p_iconst (1) 4 rfl dX9_couples_3 rfl ?_
    refine p_aload_n 0 5 rfl rfl dX9_couples_4 rfl ?_
    refine p_getIE 9 1 8 rfl dX9_couples_5 fl_X9_280 rfl rfl hM.2.2.1.1 ?_
    refine p_ishl 9 rfl dX9_couples_8 ?_
    rw [one_shl _ (by omega)]
    refine p_icmp_ge 132 12 rfl rfl dX9_couples_9 (fun h9 => absurd h9 (nI_ge (a := k + 1) (b := 2 ^ aS (tO A)) (by omega) (by omega))) (fun h9 => ?_)
    refine p_iconst (0) 13 rfl dX9_couples_12 rfl ?_
    refine p_ist_n2 14 rfl rfl dX9_couples_13 (Nat.le_of_ble_eq_true rfl) rfl ?_
    refine l_coLow (by omega) (by omega) hs ?_ s 0 (by omega)
    refine p_iload_n 1 29 rfl rfl dX9_couples_28 rfl ?_
    refine p_iconst (1) 30 rfl dX9_couples_29 rfl ?_
    refine p_iload_n 2 31 rfl rfl dX9_couples_30 rfl ?_
    refine p_ishl 32 rfl dX9_couples_31 ?_
    rw [one_shl _ (by omega)]
    refine p_iconst (-1) 33 rfl dX9_couples_32 rfl ?_
    refine p_ixor 34 rfl dX9_couples_33 ?_
    refine p_iand 35 rfl dX9_couples_34 ?_
    rw [and_not_nI, hlm.2.2, show k + 1 - 1 = k from rfl]
    refine p_ist_n3 36 rfl rfl dX9_couples_35 (Nat.le_of_ble_eq_true rfl) rfl ?_
    refine p_aload_n 0 37 rfl rfl dX9_couples_36 rfl ?_
    refine p_getR 9 49 40 rfl dX9_couples_37 fl_X9_78 rfl rfl (show hR _ M0 49 = mCo from hM.1 49) (by decide) ?_
    refine p_iload_n 3 41 rfl rfl dX9_couples_40 rfl ?_
    refine p_ialdE 42 rfl dX9_couples_41 (i := (k + 1) &&& k) rfl (by show _ < 512; omega) (htb _ (by omega)) ?_
    refine p_ist_4 44 rfl dX9_couples_42 (Nat.le_of_ble_eq_true rfl) rfl ?_
    refine p_iload_n 2 45 rfl rfl dX9_couples_44 rfl ?_
    refine p_iconst (1) 46 rfl dX9_couples_45 rfl ?_
    refine p_iadd 47 rfl dX9_couples_46 ?_
    refine p_ist_5 49 rfl dX9_couples_47 (Nat.le_of_ble_eq_true rfl) rfl ?_
    rw [nI_1]
    refine l_coPart hR0 (T := (mcT (bsd (tO A) (tV A)) (aS (tO A))) k) (mcT_le _ _ k) (by omega) (r := (k + 1) &&& k) (by omega) (fun j hj => htb j (by omega)) (s := s) hsn (fun x5 => ?_) (aS (tO A) - (s + 1)) 0 (by omega)
    have ev : mcI (bsd (tO A) (tV A)) ((mcT (bsd (tO A) (tV A)) (aS (tO A))) k) s ((k + 1) &&& k) (aS (tO A) - (s + 1)) = (mcV (bsd (tO A) (tV A)) ((mcT (bsd (tO A) (tV A)) (aS (tO A))) k) (aS (tO A)) (k + 1)) := by simp [mcV, hs]
    rw [ev]
    refine p_aload_n 0 119 rfl rfl dX9_couples_118 rfl ?_
    refine p_getR 9 49 122 rfl dX9_couples_119 fl_X9_78 rfl rfl (show hR _ M0 49 = mCo from hM.1 49) (by decide) ?_
    refine p_iload_n 1 123 rfl rfl dX9_couples_122 rfl ?_
    refine p_iload 4 125 rfl dX9_couples_123 rfl ?_
    refine p_iastE 126 rfl dX9_couples_125 (i := k + 1) rfl (by show k + 1 < 512; omega) ?_
    refine p_inc_1 129 rfl dX9_couples_126 (1) rfl (Nat.le_of_ble_eq_true rfl) rfl ?_
    refine p_goto 2 rfl dX9_couples_129 ?_
    rw [nI_1]
    refine ih (k + 1) _ _ _ _ _ (by omega) (fun j hj => ?_) (hq1.tr (FQ.co (by omega))) hi1
    rw [sA_s]
    rcases Nat.lt_or_ge j (k + 1) with z | z
    · rw [pk_un (by omega), show (mcT (bsd (tO A) (tV A)) (aS (tO A))) (k + 1) j = (mcT (bsd (tO A) (tV A)) (aS (tO A))) k j by simp only [mcT]; rw [if_neg (by omega)]]; exact htb j (by omega)
    · rw [show j = k + 1 by omega, pk_us, show (mcT (bsd (tO A) (tV A)) (aS (tO A))) (k + 1) (k + 1) = (mcV (bsd (tO A) (tV A)) ((mcT (bsd (tO A) (tV A)) (aS (tO A))) k) (aS (tO A)) (k + 1)) by simp only [mcT]; rw [if_pos True.intro]]
set_option maxRecDepth 4000 in
theorem c_couples (hRM : RM σ A) : CallOk Γ 5 0 0 mX9_couples [.ref M0] σ (rX (fun v σ' => v = nI (cpls (tO A) (tV A)) ∧ FQ σ σ' ∧ hI σ' = hI σ)) := by
  have hK := hRM.2.1
  have hO := hK.2.2.1
  have hc6 := hO.2.1
  have hw12 := hO.2.2.1
  have hs9 := hO.1
  have hv := hK.2.2.2.2.1.1
  have hd9 := hK.2.2.2.2.1.2
  have hp := p9 hs9
  refine p_enter rfl rfl (Nat.le_of_ble_eq_true rfl) rfl ?_
  refine p_iconst (1) 1 rfl dX9_couples_0 rfl ?_
  refine p_ist_n1 2 rfl rfl dX9_couples_1 (Nat.le_of_ble_eq_true rfl) rfl ?_
  exact l_couples hRM (2 ^ aS (tO A) - 1) 0 σ _ _ _ _ (by omega) (fun j hj => by rw [show j = 0 by omega]; exact hRM.2.2.2.2.2.2.2.2.1) FQ.rf rfl
theorem btw_in {x : Int32} : btw x 0 14 = inR x 15 := by
  unfold btw; rw [nI_0]; exact in_wi (n := 14) (by decide)
theorem swt11 (x : Int32) : x = 0 ∨ x = 1 ∨ x = 2 ∨ x = 3 ∨ x = 4 ∨ x = 5 ∨ x = 6 ∨ x = 7 ∨ x = 8 ∨ x = 9 ∨ x = 10 ∨ x = 11 ∨ (x.toInt < 0 ∨ 11 < x.toInt) := by
  by_cases h0 : x.toInt = 0
  · exact Or.inl (Int32.toInt_inj.mp (h0.trans (by decide)))
  by_cases h1 : x.toInt = 1
  · exact Or.inr (Or.inl (Int32.toInt_inj.mp (h1.trans (by decide))))
  by_cases h2 : x.toInt = 2
  · exact Or.inr (Or.inr (Or.inl (Int32.toInt_inj.mp (h2.trans (by decide)))))
  by_cases h3 : x.toInt = 3
  · exact Or.inr (Or.inr (Or.inr (Or.inl (Int32.toInt_inj.mp (h3.trans (by decide))))))
  by_cases h4 : x.toInt = 4
  · exact Or.inr (Or.inr (Or.inr (Or.inr (Or.inl (Int32.toInt_inj.mp (h4.trans (by decide)))))))
  by_cases h5 : x.toInt = 5
  · exact Or.inr (Or.inr (Or.inr (Or.inr (Or.inr (Or.inl (Int32.toInt_inj.mp (h5.trans (by decide))))))))
  by_cases h6 : x.toInt = 6
  · exact Or.inr (Or.inr (Or.inr (Or.inr (Or.inr (Or.inr (Or.inl (Int32.toInt_inj.mp (h6.trans (by decide)))))))))
  by_cases h7 : x.toInt = 7
  · exact Or.inr (Or.inr (Or.inr (Or.inr (Or.inr (Or.inr (Or.inr (Or.inl (Int32.toInt_inj.mp (h7.trans (by decide))))))))))
  by_cases h8 : x.toInt = 8
  · exact Or.inr (Or.inr (Or.inr (Or.inr (Or.inr (Or.inr (Or.inr (Or.inr (Or.inl (Int32.toInt_inj.mp (h8.trans (by decide)))))))))))
  by_cases h9 : x.toInt = 9
  · exact Or.inr (Or.inr (Or.inr (Or.inr (Or.inr (Or.inr (Or.inr (Or.inr (Or.inr (Or.inl (Int32.toInt_inj.mp (h9.trans (by decide))))))))))))
  by_cases h10 : x.toInt = 10
  · exact Or.inr (Or.inr (Or.inr (Or.inr (Or.inr (Or.inr (Or.inr (Or.inr (Or.inr (Or.inr (Or.inl (Int32.toInt_inj.mp (h10.trans (by decide)))))))))))))
  by_cases h11 : x.toInt = 11
  · exact Or.inr (Or.inr (Or.inr (Or.inr (Or.inr (Or.inr (Or.inr (Or.inr (Or.inr (Or.inr (Or.inr (Or.inl (Int32.toInt_inj.mp (h11.trans (by decide))))))))))))))
  exact Or.inr (Or.inr (Or.inr (Or.inr (Or.inr (Or.inr (Or.inr (Or.inr (Or.inr (Or.inr (Or.inr (Or.inr (by omega))))))))))))
set_option maxRecDepth 8000 in
theorem q_count (hRM : RM σ A) (x : Int32) : CallOk Γ 12 0 0 mX9_count [.ref M0, .int x] σ (rM (fCount A x) (fun σ' => RM σ' A ∧ ChM σ σ')) := by
  have hK := hRM.2.1
  have hO := hK.2.2.1
  have hs9 := hO.1
  have hc6 := hO.2.1
  have hw12 := hO.2.2.1
  have hk8 := hO.2.2.2.1
  have hv := hK.2.2.2.2.1.1
  have hd9 := hK.2.2.2.2.1.2
  refine p_enter rfl rfl (Nat.le_of_ble_eq_true rfl) rfl ?_
  refine p_aload_n 0 1 rfl rfl dX9_count_0 rfl ?_
  refine p_iconst (0) 2 rfl dX9_count_1 rfl ?_
  refine p_putI 9 0 5 rfl dX9_count_2 fl_X9_102 rfl rfl (Or.inl rfl) ?_
  have hQ : FQ σ (sI σ M0 0 0) := FQ.th
  have hR0 := hRM.q hQ
  have h0 : hI (sI σ M0 0 0) M0 0 = 0 := hI_sI _ _ _ _
  generalize sI σ M0 0 0 = τ at hQ hR0 h0 ⊢
  have hM := hR0.1
  have hw := hR0.2.2.1
  refine p_aload_n 0 6 rfl rfl dX9_count_5 rfl ?_
  refine p_iload_n 1 7 rfl rfl dX9_count_6 rfl ?_
  refine p_iconst (0) 8 rfl dX9_count_7 rfl ?_
  refine p_bipush (14) 10 rfl dX9_count_8 rfl ?_
  refine p_cS3i 13 rfl dX9_count_10 (c_within _ _ _) ml_X9_363 sl_X9_within (Nat.le_of_ble_eq_true rfl) (Nat.le_of_ble_eq_true rfl) rfl ?_
  refine p_iconst (1) 14 rfl dX9_count_13 rfl ?_
  refine p_cV2x 0 0 17 rfl dX9_count_14 (c_right h0 (btw x 0 14) (by decide)) ml_X9_273 vl_X9_right rfl (by decide) rfl (Nat.le_of_ble_eq_true rfl) (Nat.le_of_ble_eq_true rfl) (Nat.le_of_ble_eq_true rfl) (Nat.le_of_ble_eq_true rfl) rfl ?_
  intro v0 τ0 hp0
  obtain ⟨hv0, ht0, hf0⟩ := hp0
  subst hv0
  refine p_if_ne 22 20 rfl rfl dX9_count_17 (fun h17 => ?_) (fun h17 => ?_)
  · have hb0 : btw x 0 14 = true := by simpa only [b2i_eq0, Decidable.not_not, Bool.not_eq_true, Bool.not_eq_false] using h17
    have ee0 := ht0 hb0
    subst ee0
    refine p_iload_n 1 23 rfl rfl dX9_count_22 rfl ?_
    rcases swt11 x with hs23 | hs23 | hs23 | hs23 | hs23 | hs23 | hs23 | hs23 | hs23 | hs23 | hs23 | hs23 | hs23
    · subst hs23
      refine p_tswIn (off := 61) 84 rfl dX9_count_23 (by decide) (by decide) rfl ?_
      refine p_aload_n 0 85 rfl rfl dX9_count_84 rfl ?_
      refine p_getIE 9 1 88 rfl dX9_count_85 fl_X9_280 rfl rfl hM.2.2.1.1 ?_
      exact p_iret dX9_count_88 rfl ⟨_, rfl, by rw [fCount, ← btw_in, gd_t hb0]; exact h0, fun _ => by rw [fCount, ← btw_in, gd_t hb0]; simp only [sel, show iN 0 = 0 from rfl]; rfl, hR0, hQ.ch⟩
    · subst hs23
      refine p_tswIn (off := 66) 89 rfl dX9_count_23 (by decide) (by decide) rfl ?_
      refine p_aload_n 0 90 rfl rfl dX9_count_89 rfl ?_
      refine p_getIE 9 2 93 rfl dX9_count_90 fl_X9_283 rfl rfl hM.2.2.1.2.1 ?_
      exact p_iret dX9_count_93 rfl ⟨_, rfl, by rw [fCount, ← btw_in, gd_t hb0]; exact h0, fun _ => by rw [fCount, ← btw_in, gd_t hb0]; simp only [sel, show iN 1 = 1 from rfl]; rfl, hR0, hQ.ch⟩
    · subst hs23
      refine p_tswIn (off := 71) 94 rfl dX9_count_23 (by decide) (by decide) rfl ?_
      refine p_aload_n 0 95 rfl rfl dX9_count_94 rfl ?_
      refine p_getIE 9 3 98 rfl dX9_count_95 fl_X9_286 rfl rfl hM.2.2.1.2.2.1 ?_
      exact p_iret dX9_count_98 rfl ⟨_, rfl, by rw [fCount, ← btw_in, gd_t hb0]; exact h0, fun _ => by rw [fCount, ← btw_in, gd_t hb0]; simp only [sel, show iN 2 = 2 from rfl]; rfl, hR0, hQ.ch⟩
    · subst hs23
      refine p_tswIn (off := 76) 99 rfl dX9_count_23 (by decide) (by decide) rfl ?_
      refine p_aload_n 0 100 rfl rfl dX9_count_99 rfl ?_
      refine p_getIE 9 4 103 rfl dX9_count_100 fl_X9_289 rfl rfl hM.2.2.1.2.2.2 ?_
      exact p_iret dX9_count_103 rfl ⟨_, rfl, by rw [fCount, ← btw_in, gd_t hb0]; exact h0, fun _ => by rw [fCount, ← btw_in, gd_t hb0]; simp only [sel, show iN 3 = 3 from rfl]; rfl, hR0, hQ.ch⟩
    · subst hs23
      refine p_tswIn (off := 81) 104 rfl dX9_count_23 (by decide) (by decide) rfl ?_
      refine p_aload_n 0 105 rfl rfl dX9_count_104 rfl ?_
      refine p_getR 9 44 108 rfl dX9_count_105 fl_X9_66 rfl rfl (show hR _ M0 44 = mRo from hM.1 44) (by decide) ?_
      refine p_iconst (0) 109 rfl dX9_count_108 rfl ?_
      refine p_ialdE 110 rfl dX9_count_109 (i := 0) rfl (by decide) hw.1 ?_
      exact p_iret dX9_count_110 rfl ⟨_, rfl, by rw [fCount, ← btw_in, gd_t hb0]; exact h0, fun _ => by rw [fCount, ← btw_in, gd_t hb0]; simp only [sel, show iN 4 = 4 from rfl]; rfl, hR0, hQ.ch⟩
    · subst hs23
      refine p_tswIn (off := 88) 111 rfl dX9_count_23 (by decide) (by decide) rfl ?_
      refine p_aload_n 0 112 rfl rfl dX9_count_111 rfl ?_
      refine p_cV0i 115 rfl dX9_count_112 (c_burntOnes hM hw hv) ml_X9_366 vl_X9_burntOnes rfl (by decide) rfl (Nat.le_of_ble_eq_true rfl) (Nat.le_of_ble_eq_true rfl) rfl ?_
      exact p_iret dX9_count_115 rfl ⟨_, rfl, by rw [fCount, ← btw_in, gd_t hb0]; exact h0, fun _ => by rw [fCount, ← btw_in, gd_t hb0]; simp only [sel, show iN 5 = 5 from rfl]; rfl, hR0, hQ.ch⟩
    · subst hs23
      refine p_tswIn (off := 93) 116 rfl dX9_count_23 (by decide) (by decide) rfl ?_
      refine p_aload_n 0 117 rfl rfl dX9_count_116 rfl ?_
      refine p_iconst (0) 118 rfl dX9_count_117 rfl ?_
      refine p_cV1i 121 rfl dX9_count_118 (c_borneOnes hM hw hv (by decide)) ml_X9_369 vl_X9_borneOnes rfl (by decide) rfl (Nat.le_of_ble_eq_true rfl) (Nat.le_of_ble_eq_true rfl) rfl ?_
      exact p_iret dX9_count_121 rfl ⟨_, rfl, by rw [fCount, ← btw_in, gd_t hb0]; exact h0, fun _ => by rw [fCount, ← btw_in, gd_t hb0]; simp only [sel, show iN 6 = 6 from rfl]; rfl, hR0, hQ.ch⟩
    · subst hs23
      refine p_tswIn (off := 99) 122 rfl dX9_count_23 (by decide) (by decide) rfl ?_
      refine p_aload_n 0 123 rfl rfl dX9_count_122 rfl ?_
      refine p_iconst (0) 124 rfl dX9_count_123 rfl ?_
      refine p_aload_n 0 125 rfl rfl dX9_count_124 rfl ?_
      refine p_cV0i 128 rfl dX9_count_125 (c_everybody hM) ml_X9_372 vl_X9_everybody rfl (by decide) rfl (Nat.le_of_ble_eq_true rfl) (Nat.le_of_ble_eq_true rfl) rfl ?_
      refine p_cV2i 131 rfl dX9_count_128 (c_knownBy hM hw hv (by decide) (p6 hO)) ml_X9_338 vl_X9_knownBy rfl (by decide) rfl (Nat.le_of_ble_eq_true rfl) (Nat.le_of_ble_eq_true rfl) rfl ?_
      exact p_iret dX9_count_131 rfl ⟨_, rfl, by rw [fCount, ← btw_in, gd_t hb0]; exact h0, fun _ => by rw [fCount, ← btw_in, gd_t hb0]; simp only [sel, show iN 7 = 7 from rfl]; rw [kAll_by hO]; rfl, hR0, hQ.ch⟩
    · subst hs23
      refine p_tswIn (off := 109) 132 rfl dX9_count_23 (by decide) (by decide) rfl ?_
      refine p_aload_n 0 133 rfl rfl dX9_count_132 rfl ?_
      refine p_cV0x 0 0 136 rfl dX9_count_133 (c_couples hR0) ml_X9_375 vl_X9_couples rfl (by decide) rfl (Nat.le_of_ble_eq_true rfl) (Nat.le_of_ble_eq_true rfl) (Nat.le_of_ble_eq_true rfl) (Nat.le_of_ble_eq_true rfl) rfl ?_
      intro v τ2 hp2
      obtain ⟨hv2, hq2, hi2⟩ := hp2
      subst hv2
      have hR2 := hR0.q hq2
      have h02 : hI τ2 M0 0 = 0 := by rw [hi2]; exact h0
      exact p_iret dX9_count_136 rfl ⟨_, rfl, by rw [fCount, ← btw_in, gd_t hb0]; exact h02, fun _ => by rw [fCount, ← btw_in, gd_t hb0]; simp only [sel, show iN 8 = 8 from rfl]; rfl, hR2, (hQ.tr hq2).ch⟩
    · subst hs23
      refine p_tswIn (off := 114) 137 rfl dX9_count_23 (by decide) (by decide) rfl ?_
      refine p_aload_n 0 138 rfl rfl dX9_count_137 rfl ?_
      refine p_getIE 9 46 141 rfl dX9_count_138 fl_X9_296 rfl rfl hR0.2.2.2.1.1 ?_
      exact p_iret dX9_count_141 rfl ⟨_, rfl, by rw [fCount, ← btw_in, gd_t hb0]; exact h0, fun _ => by rw [fCount, ← btw_in, gd_t hb0]; simp only [sel, show iN 9 = 9 from rfl]; rfl, hR0, hQ.ch⟩
    · subst hs23
      refine p_tswIn (off := 119) 142 rfl dX9_count_23 (by decide) (by decide) rfl ?_
      refine p_aload_n 0 143 rfl rfl dX9_count_142 rfl ?_
      refine p_getIE 9 51 146 rfl dX9_count_143 fl_X9_299 rfl rfl hR0.2.2.2.2.1.1 ?_
      exact p_iret dX9_count_146 rfl ⟨_, rfl, by rw [fCount, ← btw_in, gd_t hb0]; exact h0, fun _ => by rw [fCount, ← btw_in, gd_t hb0]; simp only [sel, show iN 10 = 10 from rfl]; rfl, hR0, hQ.ch⟩
    · subst hs23
      refine p_tswIn (off := 124) 147 rfl dX9_count_23 (by decide) (by decide) rfl ?_
      refine p_aload_n 0 148 rfl rfl dX9_count_147 rfl ?_
      refine p_getIE 9 13 151 rfl dX9_count_148 fl_X9_105 rfl rfl hR0.2.2.2.2.2.2.1.1 ?_
      exact p_iret dX9_count_151 rfl ⟨_, rfl, by rw [fCount, ← btw_in, gd_t hb0]; exact h0, fun _ => by rw [fCount, ← btw_in, gd_t hb0]; simp only [sel, show iN 11 = 11 from rfl]; rfl, hR0, hQ.ch⟩
    · refine p_tswOut 152 rfl dX9_count_23 hs23 ?_
      refine p_aload_n 0 153 rfl rfl dX9_count_152 rfl ?_
      refine p_getR 9 16 156 rfl dX9_count_153 fl_X9_38 rfl rfl (show hR _ M0 16 = mRf from hM.1 16) (by decide) ?_
      refine p_iload_n 1 157 rfl rfl dX9_count_156 rfl ?_
      refine p_bipush (12) 159 rfl dX9_count_157 rfl ?_
      refine p_isub 160 rfl dX9_count_159 ?_
      obtain ⟨q, rfl, hq0, hq⟩ := asB hb0 (by decide) (by decide)
      rw [nI_toInt (show q < 2 ^ 31 by omega)] at hs23
      obtain ⟨j, rfl⟩ : ∃ j, q = 12 + j := ⟨q - 12, by omega⟩
      have hj : j < 3 := by omega
      have hval : hA τ0 mRf j = sel (nI (12 + j)) [nI (aS (tO A)), nI (aC (tO A)), nI (aW (tO A)), nI (aK (tO A)), nI (vD (tV A)), nI (shAt (tO A) (tV A) 0), nI (inHd (tO A) (tV A)), nI (kAll (tO A) (tV A)), nI (cpls (tO A) (tV A)), nI (tA A).length, nI (tH A).length, nI (tN A), tX A, tY A, tZ A] := by
        rw [sel, iN_nI (by omega)]
        have h3 : j = 0 ∨ j = 1 ∨ j = 2 := by omega
        rcases h3 with rfl | rfl | rfl
        · exact hR0.2.2.2.2.2.2.2.1.1
        · exact hR0.2.2.2.2.2.2.2.1.2.1
        · exact hR0.2.2.2.2.2.2.2.1.2.2
      rw [show nI (12 + j) - 12 = nI j from (nI_sb (a := 12 + j) (b := 12) (by omega)).trans (by rw [Nat.add_sub_cancel_left])]
      refine p_ialdE 161 rfl dX9_count_160 (i := j) rfl (by show j < 3; omega) rfl ?_
      exact p_iret dX9_count_161 rfl ⟨_, rfl, by rw [fCount, ← btw_in, gd_t hb0]; exact h0, fun _ => by rw [fCount, ← btw_in, gd_t hb0]; exact hval, hR0, hQ.ch⟩
  · have hb0 : btw x 0 14 = false := by simpa only [b2i_eq0, Bool.not_eq_true, Decidable.not_not] using h17
    have ee0 := hf0 hb0
    subst ee0
    refine p_iconst (0) 21 rfl dX9_count_20 rfl ?_
    exact p_iret dX9_count_21 rfl ⟨_, rfl, by rw [fCount, ← btw_in, gd_f hb0]; exact hI_sI _ _ _ _, fun q => absurd q (by rw [fCount, ← btw_in, gd_f hb0]; decide), (hRM.q hQ).q FQ.th, (hQ.tr FQ.th).ch⟩
end C93
