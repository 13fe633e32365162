/-! ===== company; what to save, what to read ===== -/
theorem lsv_t {p : Nat → Bool} {f : Nat → Nat} {m0 i : Nat} (hp : p i = true) (h : f i < (lsv p f m0 i).2) : lsv p f m0 (i + 1) = (some i, f i) := by
  rw [lsv, if_pos ⟨hp, h⟩]
theorem lsv_f {p : Nat → Bool} {f : Nat → Nat} {m0 i : Nat} (h : ¬ p i = true ∨ ¬ f i < (lsv p f m0 i).2) : lsv p f m0 (i + 1) = lsv p f m0 i := by
  rw [lsv, if_neg (fun z => h.elim (fun q => q z.1) (fun q => q z.2))]
section C50
variable {Γ : Gm} {σ : PH} {o o' : Nat} {A : AT}
set_option maxRecDepth 6000 in
theorem l_company (hT : IT σ o o' A) {s k z : Nat} (hs : s < aC (tO A)) (hk : k < aC (tO A)) (hz : z ≤ 60) : ∀ (n i : Nat), i + n = z → Ok Γ 14 0 0 mX8_company 23 [some (.ref T0), some (.int (nI s)), some (.int (nI k)), some (.int (nI z)), some (.int (nI (cntN i (fun q => tOn (tO A) s (vD (tV A) + q) == tOn (tO A) k (vD (tV A) + q))))), some (.int (nI i))] [] σ (rS (0, nI (cntN z (fun q => tOn (tO A) s (vD (tV A) + q) == tOn (tO A) k (vD (tV A) + q)))) false (fun σ' => IT σ' o o' A ∧ Ch cls σ σ')) := by
  have hS := hT.1
  have hK := hT.2.1
  have hto : hR σ T0 3 = o := hT.2.2.1.2.2.1
  have hQ := hT.2.2.2.1
  have ho := hQ.1
  have hw := hT.2.2.2.2.1.1
  have hwo := hT.2.2.2.2.1.2
  have hv := hK.2.2.2.2.1.1
  have hd9 := hK.2.2.2.2.1.2
  have hY := hK.2.2.2.1
  have hO := hK.2.2.1
  have hs9 := hO.1
  have hc6 := hO.2.1
  have hw12 := hO.2.2.1
  have hk8 := hO.2.2.2.1
  intro n
  induction n with
  | zero =>
    intro i hi
    refine p_iload 5 25 rfl dX8_company_23 rfl ?_
    refine p_iload_n 3 26 rfl rfl dX8_company_25 rfl ?_
    refine p_icmp_ge 77 29 rfl rfl dX8_company_26 (fun h26 => ?_) (fun h26 => absurd (nI_le (a := z) (b := i) (by omega) (by omega)) h26)
    refine p_iload 4 79 rfl dX8_company_77 rfl ?_
    exact p_iret dX8_company_79 rfl ⟨by rw [show z = i by omega]; rfl, hT, Ch.rf⟩
  | succ n ih =>
    intro i hi
    refine p_iload 5 25 rfl dX8_company_23 rfl ?_
    refine p_iload_n 3 26 rfl rfl dX8_company_25 rfl ?_
    refine p_icmp_ge 77 29 rfl rfl dX8_company_26 (fun h26 => absurd h26 (nI_ge (a := i) (b := z) (by omega) (by omega))) (fun h26 => ?_)
    refine p_aload_n 0 30 rfl rfl dX8_company_29 rfl ?_
    refine p_getR 8 3 33 rfl dX8_company_30 fl_X8_23 rfl rfl hto ho.1.1.ne0 ?_
    refine p_iload_n 1 34 rfl rfl dX8_company_33 rfl ?_
    refine p_aload_n 0 35 rfl rfl dX8_company_34 rfl ?_
    refine p_getR 8 6 38 rfl dX8_company_35 fl_X8_44 rfl rfl hS.2.2.1 (by decide) ?_
    refine p_getIE 7 1 41 rfl dX8_company_38 fl_X8_143 rfl rfl hw.2.1 ?_
    refine p_iload 5 43 rfl dX8_company_41 rfl ?_
    refine p_iadd 44 rfl dX8_company_43 ?_
    rw [nI_add]
    refine p_cV2i 47 rfl dX8_company_44 (c_townOn ho hs (by omega)) ml_X8_197 vl_X4_townOn ho.1.1.kd (by decide) rfl (Nat.le_of_ble_eq_true rfl) (Nat.le_of_ble_eq_true rfl) rfl ?_
    refine p_aload_n 0 48 rfl rfl dX8_company_47 rfl ?_
    refine p_getR 8 3 51 rfl dX8_company_48 fl_X8_23 rfl rfl hto ho.1.1.ne0 ?_
    refine p_iload_n 2 52 rfl rfl dX8_company_51 rfl ?_
    refine p_aload_n 0 53 rfl rfl dX8_company_52 rfl ?_
    refine p_getR 8 6 56 rfl dX8_company_53 fl_X8_44 rfl rfl hS.2.2.1 (by decide) ?_
    refine p_getIE 7 1 59 rfl dX8_company_56 fl_X8_143 rfl rfl hw.2.1 ?_
    refine p_iload 5 61 rfl dX8_company_59 rfl ?_
    refine p_iadd 62 rfl dX8_company_61 ?_
    rw [nI_add]
    refine p_cV2i 65 rfl dX8_company_62 (c_townOn ho hk (by omega)) ml_X8_197 vl_X4_townOn ho.1.1.kd (by decide) rfl (Nat.le_of_ble_eq_true rfl) (Nat.le_of_ble_eq_true rfl) rfl ?_
    refine p_icmp_ne 71 68 rfl rfl dX8_company_65 (fun h65 => ?_) (fun h65 => ?_)
    · refine p_inc_5 74 rfl dX8_company_71 (1) rfl (Nat.le_of_ble_eq_true rfl) rfl ?_
      refine p_goto 23 rfl dX8_company_74 ?_
      have e : cntN (i + 1) (fun q => tOn (tO A) s (vD (tV A) + q) == tOn (tO A) k (vD (tV A) + q)) = cntN i (fun q => tOn (tO A) s (vD (tV A) + q) == tOn (tO A) k (vD (tV A) + q)) := by
        have hb : ¬ tOn (tO A) s (vD (tV A) + i) = tOn (tO A) k (vD (tV A) + i) := fun q => h65 (by rw [q])
        simp [cntN, hb]
      rw [nI_1, ← e]
      exact ih (i + 1) (by omega)
    · refine p_inc_4 71 rfl dX8_company_68 (1) rfl (Nat.le_of_ble_eq_true rfl) rfl ?_
      refine p_inc_5 74 rfl dX8_company_71 (1) rfl (Nat.le_of_ble_eq_true rfl) rfl ?_
      refine p_goto 23 rfl dX8_company_74 ?_
      have e : cntN (i + 1) (fun q => tOn (tO A) s (vD (tV A) + q) == tOn (tO A) k (vD (tV A) + q)) = cntN i (fun q => tOn (tO A) s (vD (tV A) + q) == tOn (tO A) k (vD (tV A) + q)) + 1 := by
        have hb := (nI_eq (by have := tOn_lt hO (c := s) (d := vD (tV A) + i) hs; omega) (by have := tOn_lt hO (c := k) (d := vD (tV A) + i) hk; omega)).mp h65
        simp [cntN, hb]
      rw [nI_1, nI_1, ← e]
      exact ih (i + 1) (by omega)
set_option maxRecDepth 6000 in
theorem t_company (hT : IT σ o o' A) (x y z : Int32) : CallOk Γ 14 8 48 mX8_company [.ref T0, .int x, .int y, .int z] σ (rS (fCompany A x y z) false (fun σ' => IT σ' o o' A ∧ Ch cls σ σ')) := by
  have hS := hT.1
  have hK := hT.2.1
  have hto : hR σ T0 3 = o := hT.2.2.1.2.2.1
  have hQ := hT.2.2.2.1
  have ho := hQ.1
  have hw := hT.2.2.2.2.1.1
  have hwo := hT.2.2.2.2.1.2
  have hv := hK.2.2.2.2.1.1
  have hd9 := hK.2.2.2.2.1.2
  have hY := hK.2.2.2.1
  have hO := hK.2.2.1
  have hs9 := hO.1
  have hc6 := hO.2.1
  have hw12 := hO.2.2.1
  have hk8 := hO.2.2.2.1
  refine p_enter rfl rfl (Nat.le_of_ble_eq_true rfl) rfl ?_
  refine p_aload_n 0 1 rfl rfl dX8_company_0 rfl ?_
  refine p_iload_n 1 2 rfl rfl dX8_company_1 rfl ?_
  refine p_cV1n 5 rfl dX8_company_2 (c_needClerk hto hQ _) ml_X8_194 vl_X8_needClerk rfl (by decide) rfl (Nat.le_of_ble_eq_true rfl) (Nat.le_of_ble_eq_true rfl) (Nat.le_of_ble_eq_true rfl) (Nat.le_of_ble_eq_true rfl) rfl (fun h2 => ?_) (fun h2 => ⟨by simp [fCompany, gd, h2], hT, Ch.rf⟩)
  obtain ⟨s, rfl, hs⟩ := asN h2 (by omega)
  have hsL : s < 2147483648 := by omega
  refine p_aload_n 0 6 rfl rfl dX8_company_5 rfl ?_
  refine p_iload_n 2 7 rfl rfl dX8_company_6 rfl ?_
  refine p_cV1n 10 rfl dX8_company_7 (c_needClerk hto hQ _) ml_X8_194 vl_X8_needClerk rfl (by decide) rfl (Nat.le_of_ble_eq_true rfl) (Nat.le_of_ble_eq_true rfl) (Nat.le_of_ble_eq_true rfl) (Nat.le_of_ble_eq_true rfl) rfl (fun h7 => ?_) (fun h7 => ⟨by simp [fCompany, gd, h2, h7], hT, Ch.rf⟩)
  obtain ⟨k, rfl, hk⟩ := asN h7 (by omega)
  have hkL : k < 2147483648 := by omega
  refine p_iload_n 3 11 rfl rfl dX8_company_10 rfl ?_
  refine p_iconst (1) 12 rfl dX8_company_11 rfl ?_
  refine p_bipush (60) 14 rfl dX8_company_12 rfl ?_
  refine p_cS3n 17 rfl dX8_company_14 (c_needBetween _ 1 60) ml_X8_267 sl_X8_needBetween (Nat.le_of_ble_eq_true rfl) (Nat.le_of_ble_eq_true rfl) (Nat.le_of_ble_eq_true rfl) (Nat.le_of_ble_eq_true rfl) rfl (fun h14 => ?_) (fun h14 => ⟨by simp [fCompany, gd, h2, h7, h14], hT, Ch.rf⟩)
  obtain ⟨q, rfl, hqa, hq⟩ := asB h14 (by decide) (by decide)
  have hqL : q < 2147483648 := by omega
  refine p_iconst (0) 18 rfl dX8_company_17 rfl ?_
  refine p_ist_4 20 rfl dX8_company_18 (Nat.le_of_ble_eq_true rfl) rfl ?_
  refine p_iconst (0) 21 rfl dX8_company_20 rfl ?_
  refine p_ist_5 23 rfl dX8_company_21 (Nat.le_of_ble_eq_true rfl) rfl ?_
  have e : fCompany A (nI s) (nI k) (nI q) = (0, nI (cntN q (fun q => tOn (tO A) s (vD (tV A) + q) == tOn (tO A) k (vD (tV A) + q)))) := by simp [fCompany, gd, h2, h7, h14, iN_nI hsL, iN_nI hkL, iN_nI hqL]
  rw [e]
  exact (l_company hT hs hk hq q 0 (by omega)).sub (Nat.le_refl _) (Nat.zero_le _) (Nat.zero_le _)
variable {O : AO}
set_option maxRecDepth 4000 in
theorem m_largestCompany (ho : RpO σ o O) {d t : Nat} (hd : d ≤ 200000) (ht : t < 4) {Q : PO → PH → Prop} (kk : ∀ a b, Ok Γ 2 0 0 mX4_largestCompany 4 [some (.ref o), some (.int (nI d)), some (.int (nI (lgc O d (t + 1)))), some (.int (nI (t + 1))), a, b] [] σ Q) : ∀ (n i : Nat), i + n = aC O → Ok Γ 2 0 0 mX4_largestCompany 15 [some (.ref o), some (.int (nI d)), some (.int (nI (lgc O d t))), some (.int (nI t)), some (.int (nI (cntN i (fun c => tOn O c d == t)))), some (.int (nI i))] [] σ Q := by
  have hc6 := ho.2.1.2.1
  intro n
  induction n with
  | zero =>
    intro i hi
    refine p_iload 5 17 rfl dX4_largestCompany_15 rfl ?_
    refine p_aload_n 0 18 rfl rfl dX4_largestCompany_17 rfl ?_
    refine p_getIE 4 4 21 rfl dX4_largestCompany_18 fl_X4_25 ho.1.1.kd rfl ho.2.2.2.1 ?_
    refine p_icmp_ge 44 24 rfl rfl dX4_largestCompany_21 (fun h21 => ?_) (fun h21 => absurd (nI_le (a := aC O) (b := i) (by omega) (by omega)) h21)
    refine p_iload_n 2 45 rfl rfl dX4_largestCompany_44 rfl ?_
    refine p_iload 4 47 rfl dX4_largestCompany_45 rfl ?_
    refine p_max 50 rfl dX4_largestCompany_47 ml_X4_71 (Nat.le_of_ble_eq_true rfl) (Nat.le_of_ble_eq_true rfl) ?_
    refine p_ist_n2 51 rfl rfl dX4_largestCompany_50 (Nat.le_of_ble_eq_true rfl) rfl ?_
    refine p_inc_3 54 rfl dX4_largestCompany_51 (1) rfl (Nat.le_of_ble_eq_true rfl) rfl ?_
    refine p_goto 4 rfl dX4_largestCompany_54 ?_
    have hiN : i = aC O := by omega
    subst hiN
    rw [mx_nI (by have := lgc_le O d t; omega) (by have := cntN_le (fun c => tOn O c d == t) (aC O); omega), nI_1]
    exact kk _ _
  | succ n ih =>
    intro i hi
    have hlt : i < aC O := by omega
    refine p_iload 5 17 rfl dX4_largestCompany_15 rfl ?_
    refine p_aload_n 0 18 rfl rfl dX4_largestCompany_17 rfl ?_
    refine p_getIE 4 4 21 rfl dX4_largestCompany_18 fl_X4_25 ho.1.1.kd rfl ho.2.2.2.1 ?_
    refine p_icmp_ge 44 24 rfl rfl dX4_largestCompany_21 (fun h21 => absurd h21 (nI_ge hlt (by omega))) (fun h21 => ?_)
    refine p_aload_n 0 25 rfl rfl dX4_largestCompany_24 rfl ?_
    refine p_iload 5 27 rfl dX4_largestCompany_25 rfl ?_
    refine p_iload_n 1 28 rfl rfl dX4_largestCompany_27 rfl ?_
    refine p_cV2i 31 rfl dX4_largestCompany_28 (c_townOn ho hlt hd) ml_X4_67 vl_X4_townOn ho.1.1.kd (by decide) rfl (Nat.le_of_ble_eq_true rfl) (Nat.le_of_ble_eq_true rfl) rfl ?_
    refine p_iload_n 3 32 rfl rfl dX4_largestCompany_31 rfl ?_
    refine p_icmp_ne 38 35 rfl rfl dX4_largestCompany_32 (fun h32 => ?_) (fun h32 => ?_)
    · refine p_inc_5 41 rfl dX4_largestCompany_38 (1) rfl (Nat.le_of_ble_eq_true rfl) rfl ?_
      refine p_goto 15 rfl dX4_largestCompany_41 ?_
      have e : cntN (i + 1) (fun c => tOn O c d == t) = cntN i (fun c => tOn O c d == t) := by
        have hb : ¬ tOn O i d = t := fun q => h32 (by rw [q])
        simp [cntN, hb]
      rw [nI_1, ← e]
      exact ih (i + 1) (by omega)
    · refine p_inc_4 38 rfl dX4_largestCompany_35 (1) rfl (Nat.le_of_ble_eq_true rfl) rfl ?_
      refine p_inc_5 41 rfl dX4_largestCompany_38 (1) rfl (Nat.le_of_ble_eq_true rfl) rfl ?_
      refine p_goto 15 rfl dX4_largestCompany_41 ?_
      have e : cntN (i + 1) (fun c => tOn O c d == t) = cntN i (fun c => tOn O c d == t) + 1 := by
        have hb := (nI_eq (by have := tOn_lt ho.2.1 (c := i) (d := d) hlt; omega) (by omega)).mp h32
        simp [cntN, hb]
      rw [nI_1, nI_1, ← e]
      exact ih (i + 1) (by omega)
set_option maxRecDepth 4000 in
theorem l_largestCompany (ho : RpO σ o O) {d : Nat} (hd : d ≤ 200000) : ∀ (n i : Nat) (x4 x5 : Option Value), i + n = 4 → Ok Γ 2 0 0 mX4_largestCompany 4 [some (.ref o), some (.int (nI d)), some (.int (nI (lgc O d i))), some (.int (nI i)), x4, x5] [] σ (rI σ (nI (lgc O d 4))) := by
  intro n
  induction n with
  | zero =>
    intro i x4 x5 hi
    refine p_iload_n 3 5 rfl rfl dX4_largestCompany_4 rfl ?_
    refine p_iconst (4) 6 rfl dX4_largestCompany_5 rfl ?_
    refine p_icmp_ge 57 9 rfl rfl dX4_largestCompany_6 (fun h6 => ?_) (fun h6 => absurd (nI_le (a := 4) (b := i) (by omega) (by omega)) h6)
    refine p_iload_n 2 58 rfl rfl dX4_largestCompany_57 rfl ?_
    exact p_iret dX4_largestCompany_58 rfl ⟨by rw [show i = 4 by omega], rfl⟩
  | succ n ih =>
    intro i x4 x5 hi
    refine p_iload_n 3 5 rfl rfl dX4_largestCompany_4 rfl ?_
    refine p_iconst (4) 6 rfl dX4_largestCompany_5 rfl ?_
    refine p_icmp_ge 57 9 rfl rfl dX4_largestCompany_6 (fun h6 => absurd h6 (nI_ge (a := i) (b := 4) (by omega) (by omega))) (fun h6 => ?_)
    refine p_iconst (0) 10 rfl dX4_largestCompany_9 rfl ?_
    refine p_ist_4 12 rfl dX4_largestCompany_10 (Nat.le_of_ble_eq_true rfl) rfl ?_
    refine p_iconst (0) 13 rfl dX4_largestCompany_12 rfl ?_
    refine p_ist_5 15 rfl dX4_largestCompany_13 (Nat.le_of_ble_eq_true rfl) rfl ?_
    exact m_largestCompany ho hd (by omega) (fun a b => ih (i + 1) a b (by omega)) (aC O) 0 (by omega)
set_option maxRecDepth 4000 in
theorem c_largestCompany (ho : RpO σ o O) {d : Nat} (hd : d ≤ 200000) : CallOk Γ 2 0 0 mX4_largestCompany [.ref o, .int (nI d)] σ (rI σ (nI (lgc O d 4))) := by
  refine p_enter rfl rfl (Nat.le_of_ble_eq_true rfl) rfl ?_
  refine p_iconst (0) 1 rfl dX4_largestCompany_0 rfl ?_
  refine p_ist_n2 2 rfl rfl dX4_largestCompany_1 (Nat.le_of_ble_eq_true rfl) rfl ?_
  refine p_iconst (0) 3 rfl dX4_largestCompany_2 rfl ?_
  refine p_ist_n3 4 rfl rfl dX4_largestCompany_3 (Nat.le_of_ble_eq_true rfl) rfl ?_
  exact l_largestCompany ho hd 4 0 _ _ rfl
set_option maxRecDepth 6000 in
theorem l_together (hT : IT σ o o' A) {k : Nat} (hk : k ≤ 6) : ∀ (n i : Nat), i + n = 61 → Ok Γ 14 0 0 mX8_together 9 [some (.ref T0), some (.int (nI k)), some (.int (nI i))] [] σ (rS (0, oI (fnd n i (fun q => decide (k ≤ lgc (tO A) (vD (tV A) + q) 4)))) true (fun σ' => IT σ' o o' A ∧ Ch cls σ σ')) := by
  have hS := hT.1
  have hK := hT.2.1
  have hto : hR σ T0 3 = o := hT.2.2.1.2.2.1
  have hQ := hT.2.2.2.1
  have ho := hQ.1
  have hw := hT.2.2.2.2.1.1
  have hwo := hT.2.2.2.2.1.2
  have hv := hK.2.2.2.2.1.1
  have hd9 := hK.2.2.2.2.1.2
  have hY := hK.2.2.2.1
  have hO := hK.2.2.1
  have hs9 := hO.1
  have hc6 := hO.2.1
  have hw12 := hO.2.2.1
  have hk8 := hO.2.2.2.1
  intro n
  induction n with
  | zero =>
    intro i hi
    refine p_iload_n 2 10 rfl rfl dX8_together_9 rfl ?_
    refine p_bipush (60) 12 rfl dX8_together_10 rfl ?_
    refine p_icmp_gt 43 15 rfl rfl dX8_together_12 (fun h12 => ?_) (fun h12 => absurd (nI_lt (a := 60) (b := i) (by omega) (by omega)) h12)
    refine p_iconst (-1) 44 rfl dX8_together_43 rfl ?_
    exact p_iret dX8_together_44 rfl ⟨rfl, hT, Ch.rf⟩
  | succ n ih =>
    intro i hi
    have hlg := lgc_le (tO A) (vD (tV A) + i) 4
    refine p_iload_n 2 10 rfl rfl dX8_together_9 rfl ?_
    refine p_bipush (60) 12 rfl dX8_together_10 rfl ?_
    refine p_icmp_gt 43 15 rfl rfl dX8_together_12 (fun h12 => absurd h12 (nI_nlt (a := 60) (b := i) (by omega) (by omega))) (fun h12 => ?_)
    refine p_aload_n 0 16 rfl rfl dX8_together_15 rfl ?_
    refine p_getR 8 3 19 rfl dX8_together_16 fl_X8_23 rfl rfl hto ho.1.1.ne0 ?_
    refine p_aload_n 0 20 rfl rfl dX8_together_19 rfl ?_
    refine p_getR 8 6 23 rfl dX8_together_20 fl_X8_44 rfl rfl hS.2.2.1 (by decide) ?_
    refine p_getIE 7 1 26 rfl dX8_together_23 fl_X8_143 rfl rfl hw.2.1 ?_
    refine p_iload_n 2 27 rfl rfl dX8_together_26 rfl ?_
    refine p_iadd 28 rfl dX8_together_27 ?_
    rw [nI_add]
    refine p_cV1i 31 rfl dX8_together_28 (c_largestCompany ho (by omega)) ml_X8_324 vl_X4_largestCompany ho.1.1.kd (by decide) rfl (Nat.le_of_ble_eq_true rfl) (Nat.le_of_ble_eq_true rfl) rfl ?_
    refine p_iload_n 1 32 rfl rfl dX8_together_31 rfl ?_
    refine p_icmp_lt 37 35 rfl rfl dX8_together_32 (fun h32 => ?_) (fun h32 => ?_)
    · refine p_inc_2 40 rfl dX8_together_37 (1) rfl (Nat.le_of_ble_eq_true rfl) rfl ?_
      refine p_goto 9 rfl dX8_together_40 ?_
      have hb : ¬ k ≤ lgc (tO A) (vD (tV A) + i) 4 := fun z => nI_nlt z (by omega) h32
      have e : fnd (n + 1) i (fun q => decide (k ≤ lgc (tO A) (vD (tV A) + q) 4)) = fnd n (i + 1) (fun q => decide (k ≤ lgc (tO A) (vD (tV A) + q) 4)) := by simp [fnd, hb]
      rw [nI_1, e]
      exact ih (i + 1) (by omega)
    · refine p_iload_n 2 36 rfl rfl dX8_together_35 rfl ?_
      exact p_iret dX8_together_36 rfl ⟨by
        have hb : k ≤ lgc (tO A) (vD (tV A) + i) 4 := Nat.le_of_not_lt (fun z => h32 (nI_lt z (by omega)))
        simp [fnd, hb, oI], hT, Ch.rf⟩
set_option maxRecDepth 6000 in
theorem t_together (hT : IT σ o o' A) (y : Int32) : CallOk Γ 14 8 48 mX8_together [.ref T0, .int y] σ (rS (fTogether A y) true (fun σ' => IT σ' o o' A ∧ Ch cls σ σ')) := by
  have hS := hT.1
  have hK := hT.2.1
  have hto : hR σ T0 3 = o := hT.2.2.1.2.2.1
  have hQ := hT.2.2.2.1
  have ho := hQ.1
  have hw := hT.2.2.2.2.1.1
  have hwo := hT.2.2.2.2.1.2
  have hv := hK.2.2.2.2.1.1
  have hd9 := hK.2.2.2.2.1.2
  have hY := hK.2.2.2.1
  have hO := hK.2.2.1
  have hs9 := hO.1
  have hc6 := hO.2.1
  have hw12 := hO.2.2.1
  have hk8 := hO.2.2.2.1
  refine p_enter rfl rfl (Nat.le_of_ble_eq_true rfl) rfl ?_
  refine p_iload_n 1 1 rfl rfl dX8_together_0 rfl ?_
  refine p_iconst (1) 2 rfl dX8_together_1 rfl ?_
  refine p_bipush (6) 4 rfl dX8_together_2 rfl ?_
  refine p_cS3n 7 rfl dX8_together_4 (c_needBetween _ 1 6) ml_X8_267 sl_X8_needBetween (Nat.le_of_ble_eq_true rfl) (Nat.le_of_ble_eq_true rfl) (Nat.le_of_ble_eq_true rfl) (Nat.le_of_ble_eq_true rfl) rfl (fun h4 => ?_) (fun h4 => ⟨by simp [fTogether, gd, h4], hT, Ch.rf⟩)
  obtain ⟨k, rfl, hka, hk⟩ := asB h4 (by decide) (by decide)
  have hkL : k < 2147483648 := by omega
  refine p_iconst (0) 8 rfl dX8_together_7 rfl ?_
  refine p_ist_n2 9 rfl rfl dX8_together_8 (Nat.le_of_ble_eq_true rfl) rfl ?_
  have e : fTogether A (nI k) = (0, oI (fnd 61 0 (fun q => decide (k ≤ lgc (tO A) (vD (tV A) + q) 4)))) := by simp [fTogether, gd, h4, iN_nI hkL]
  rw [e]
  exact (l_together hT hk 61 0 rfl).sub (Nat.le_refl _) (Nat.zero_le _) (Nat.zero_le _)
set_option maxRecDepth 6000 in
theorem l_toRead (hT : IT σ o o' A)  : ∀ (n i : Nat) (x3 x4 : Option Value), i + n = aW (tO A) → Ok Γ 14 0 0 mX8_toRead 4 [some (.ref T0), some (.int (nI (rdF (tO A) (tV A) i))), some (.int (nI i)), x3, x4] [] σ (rS (0, nI (rdF (tO A) (tV A) (aW (tO A)))) false (fun σ' => IT σ' o o' A ∧ Ch cls σ σ')) := by
  have hS := hT.1
  have hK := hT.2.1
  have hto : hR σ T0 3 = o := hT.2.2.1.2.2.1
  have hQ := hT.2.2.2.1
  have ho := hQ.1
  have hw := hT.2.2.2.2.1.1
  have hwo := hT.2.2.2.2.1.2
  have hv := hK.2.2.2.2.1.1
  have hd9 := hK.2.2.2.2.1.2
  have hY := hK.2.2.2.1
  have hO := hK.2.2.1
  have hs9 := hO.1
  have hc6 := hO.2.1
  have hw12 := hO.2.2.1
  have hk8 := hO.2.2.2.1
  intro n
  induction n with
  | zero =>
    intro i x3 x4 hi
    refine p_iload_n 2 5 rfl rfl dX8_toRead_4 rfl ?_
    refine p_aload_n 0 6 rfl rfl dX8_toRead_5 rfl ?_
    refine p_getR 8 3 9 rfl dX8_toRead_6 fl_X8_23 rfl rfl hto ho.1.1.ne0 ?_
    refine p_getIE 4 7 12 rfl dX8_toRead_9 fl_X8_137 ho.1.1.kd rfl ho.2.2.2.2.1 ?_
    refine p_icmp_ge 66 15 rfl rfl dX8_toRead_12 (fun h12 => ?_) (fun h12 => absurd (nI_le (a := aW (tO A)) (b := i) (by omega) (by omega)) h12)
    refine p_iload_n 1 67 rfl rfl dX8_toRead_66 rfl ?_
    exact p_iret dX8_toRead_67 rfl ⟨by rw [show aW (tO A) = i by omega]; rfl, hT, Ch.rf⟩
  | succ n ih =>
    intro i x3 x4 hi
    have hlt : i < aW (tO A) := by omega
    have hlr := hO.2.2.2.2.2 i hlt
    refine p_iload_n 2 5 rfl rfl dX8_toRead_4 rfl ?_
    refine p_aload_n 0 6 rfl rfl dX8_toRead_5 rfl ?_
    refine p_getR 8 3 9 rfl dX8_toRead_6 fl_X8_23 rfl rfl hto ho.1.1.ne0 ?_
    refine p_getIE 4 7 12 rfl dX8_toRead_9 fl_X8_137 ho.1.1.kd rfl ho.2.2.2.2.1 ?_
    refine p_icmp_ge 66 15 rfl rfl dX8_toRead_12 (fun h12 => absurd h12 (nI_ge (a := i) (b := aW (tO A)) (by omega) (by omega))) (fun h12 => ?_)
    refine p_aload_n 0 16 rfl rfl dX8_toRead_15 rfl ?_
    refine p_getR 8 3 19 rfl dX8_toRead_16 fl_X8_23 rfl rfl hto ho.1.1.ne0 ?_
    refine p_getR 4 8 22 rfl dX8_toRead_19 fl_X8_214 ho.1.1.kd rfl ho.1.2.2.2.2.2.2.1 (mk0 (Nat.succ_ne_zero _)) ?_
    refine p_iload_n 2 23 rfl rfl dX8_toRead_22 rfl ?_
    refine p_ialdE 24 rfl dX8_toRead_23 (kd16 _ _) (lt12 (by omega)) (ho.2.2.2.2.2.2.2 i hlt).1 ?_
    refine p_ist_n3 25 rfl rfl dX8_toRead_24 (Nat.le_of_ble_eq_true rfl) rfl ?_
    refine p_aload_n 0 26 rfl rfl dX8_toRead_25 rfl ?_
    refine p_getR 8 3 29 rfl dX8_toRead_26 fl_X8_23 rfl rfl hto ho.1.1.ne0 ?_
    refine p_getR 4 9 32 rfl dX8_toRead_29 fl_X8_217 ho.1.1.kd rfl ho.1.2.2.2.2.2.2.2.1 (mk0 (Nat.succ_ne_zero _)) ?_
    refine p_iload_n 2 33 rfl rfl dX8_toRead_32 rfl ?_
    refine p_ialdE 34 rfl dX8_toRead_33 (kd16 _ _) (lt12 (by omega)) (ho.2.2.2.2.2.2.2 i hlt).2 ?_
    refine p_ist_4 36 rfl dX8_toRead_34 (Nat.le_of_ble_eq_true rfl) rfl ?_
    refine p_aload_n 0 37 rfl rfl dX8_toRead_36 rfl ?_
    refine p_getR 8 6 40 rfl dX8_toRead_37 fl_X8_44 rfl rfl hS.2.2.1 (by decide) ?_
    refine p_iload_n 3 41 rfl rfl dX8_toRead_40 rfl ?_
    refine p_iload 4 43 rfl dX8_toRead_41 rfl ?_
    refine p_cV2i 46 rfl dX8_toRead_43 (c_fits ho hw hv hwo (by omega) (by omega)) ml_X8_306 vl_X7_fits rfl (by decide) rfl (Nat.le_of_ble_eq_true rfl) (Nat.le_of_ble_eq_true rfl) rfl ?_
    refine p_if_eq 60 49 rfl rfl dX8_toRead_46 (fun h46 => ?_) (fun h46 => ?_)
    · refine p_inc_2 63 rfl dX8_toRead_60 (1) rfl (Nat.le_of_ble_eq_true rfl) rfl ?_
      refine p_goto 4 rfl dX8_toRead_63 ?_
      have hb : fitt (tO A) (tV A) (aL (tO A) i) (aB (tO A) i) = false := by simpa only [b2i_eq0, Bool.not_eq_true] using h46
      have e : rdF (tO A) (tV A) (i + 1) = rdF (tO A) (tV A) i := by simp [rdF, hb]
      rw [nI_1, ← e]
      exact ih (i + 1) _ _ (by omega)
    · refine p_iload_n 1 50 rfl rfl dX8_toRead_49 rfl ?_
      refine p_iconst (1) 51 rfl dX8_toRead_50 rfl ?_
      refine p_iload_n 3 52 rfl rfl dX8_toRead_51 rfl ?_
      refine p_ishl 53 rfl dX8_toRead_52 ?_
      refine p_iconst (1) 54 rfl dX8_toRead_53 rfl ?_
      refine p_iload 4 56 rfl dX8_toRead_54 rfl ?_
      refine p_ishl 57 rfl dX8_toRead_56 ?_
      refine p_ior 58 rfl dX8_toRead_57 ?_
      refine p_ior 59 rfl dX8_toRead_58 ?_
      refine p_ist_n1 60 rfl rfl dX8_toRead_59 (Nat.le_of_ble_eq_true rfl) rfl ?_
      refine p_inc_2 63 rfl dX8_toRead_60 (1) rfl (Nat.le_of_ble_eq_true rfl) rfl ?_
      refine p_goto 4 rfl dX8_toRead_63 ?_
      have hb : fitt (tO A) (tV A) (aL (tO A) i) (aB (tO A) i) = true := by simpa only [b2i_eq0, Decidable.not_not, Bool.not_eq_true, Bool.not_eq_false] using h46
      have e : rdF (tO A) (tV A) (i + 1) = rdF (tO A) (tV A) i ||| (2 ^ aL (tO A) i ||| 2 ^ aB (tO A) i) := by simp [rdF, hb]
      rw [nI_1, one_shl _ (by omega), one_shl _ (by omega), nx_or, nx_or, ← e]
      exact ih (i + 1) _ _ (by omega)
set_option maxRecDepth 6000 in
theorem t_toRead (hT : IT σ o o' A)  : CallOk Γ 14 8 48 mX8_toRead [.ref T0] σ (rS (((0, nI (rdF (tO A) (tV A) (aW (tO A)))) : Nat × Int32)) false (fun σ' => IT σ' o o' A ∧ Ch cls σ σ')) := by
  have hS := hT.1
  have hK := hT.2.1
  have hto : hR σ T0 3 = o := hT.2.2.1.2.2.1
  have hQ := hT.2.2.2.1
  have ho := hQ.1
  have hw := hT.2.2.2.2.1.1
  have hwo := hT.2.2.2.2.1.2
  have hv := hK.2.2.2.2.1.1
  have hd9 := hK.2.2.2.2.1.2
  have hY := hK.2.2.2.1
  have hO := hK.2.2.1
  have hs9 := hO.1
  have hc6 := hO.2.1
  have hw12 := hO.2.2.1
  have hk8 := hO.2.2.2.1
  refine p_enter rfl rfl (Nat.le_of_ble_eq_true rfl) rfl ?_
  refine p_iconst (0) 1 rfl dX8_toRead_0 rfl ?_
  refine p_ist_n1 2 rfl rfl dX8_toRead_1 (Nat.le_of_ble_eq_true rfl) rfl ?_
  refine p_iconst (0) 3 rfl dX8_toRead_2 rfl ?_
  refine p_ist_n2 4 rfl rfl dX8_toRead_3 (Nat.le_of_ble_eq_true rfl) rfl ?_
  exact (l_toRead hT (aW (tO A)) 0 _ _ (by omega)).sub (Nat.le_refl _) (Nat.zero_le _) (Nat.zero_le _)
theorem wLost_lt {O : AO} (h : OkO O) (V : AW) (m : Nat) : wLost O V m < 4096 := Nat.lt_of_lt_of_le (setN_lt _ _) (Nat.pow_le_pow_right (by decide) h.2.2.1)
set_option maxRecDepth 6000 in
theorem l_toSave (hT : IT σ o o' A) {t : Nat} (ht : t < 4) : ∀ (n i : Nat) (x6 : Option Value), i + n = aS (tO A) → Ok Γ 14 0 0 mX8_toSave 31 [some (.ref T0), some (.int (nI t)), some (.int (nI (shAt (tO A) (tV A) (t + 1)))), some (.int (oI (lsv (fun s => (shAt (tO A) (tV A) (t + 1)).testBit s) (fun s => pop (wLost (tO A) (tV A) ((shAt (tO A) (tV A) (t + 1)) ^^^ ((shAt (tO A) (tV A) (t + 1)) &&& 2 ^ s)))) (pop (wLost (tO A) (tV A) (shAt (tO A) (tV A) (t + 1)))) i).1)), some (.int (nI (lsv (fun s => (shAt (tO A) (tV A) (t + 1)).testBit s) (fun s => pop (wLost (tO A) (tV A) ((shAt (tO A) (tV A) (t + 1)) ^^^ ((shAt (tO A) (tV A) (t + 1)) &&& 2 ^ s)))) (pop (wLost (tO A) (tV A) (shAt (tO A) (tV A) (t + 1)))) i).2)), some (.int (nI i)), x6] [] σ (rS (0, oI (lsv (fun s => (shAt (tO A) (tV A) (t + 1)).testBit s) (fun s => pop (wLost (tO A) (tV A) ((shAt (tO A) (tV A) (t + 1)) ^^^ ((shAt (tO A) (tV A) (t + 1)) &&& 2 ^ s)))) (pop (wLost (tO A) (tV A) (shAt (tO A) (tV A) (t + 1)))) (aS (tO A))).1) false (fun σ' => IT σ' o o' A ∧ Ch cls σ σ')) := by
  have hS := hT.1
  have hK := hT.2.1
  have hto : hR σ T0 3 = o := hT.2.2.1.2.2.1
  have hQ := hT.2.2.2.1
  have ho := hQ.1
  have hw := hT.2.2.2.2.1.1
  have hwo := hT.2.2.2.2.1.2
  have hv := hK.2.2.2.2.1.1
  have hd9 := hK.2.2.2.2.1.2
  have hY := hK.2.2.2.1
  have hO := hK.2.2.1
  have hs9 := hO.1
  have hc6 := hO.2.1
  have hw12 := hO.2.2.1
  have hk8 := hO.2.2.2.1
  intro n
  induction n with
  | zero =>
    intro i x6 hi
    refine p_iload 5 33 rfl dX8_toSave_31 rfl ?_
    refine p_aload_n 0 34 rfl rfl dX8_toSave_33 rfl ?_
    refine p_getR 8 3 37 rfl dX8_toSave_34 fl_X8_23 rfl rfl hto ho.1.1.ne0 ?_
    refine p_getIE 4 0 40 rfl dX8_toSave_37 fl_X8_131 ho.1.1.kd rfl ho.2.2.1 ?_
    refine p_icmp_ge 92 43 rfl rfl dX8_toSave_40 (fun h40 => ?_) (fun h40 => absurd (nI_le (a := aS (tO A)) (b := i) (by omega) (by omega)) h40)
    refine p_iload_n 3 93 rfl rfl dX8_toSave_92 rfl ?_
    exact p_iret dX8_toSave_93 rfl ⟨by rw [show aS (tO A) = i by omega]; rfl, hT, Ch.rf⟩
  | succ n ih =>
    intro i x6 hi
    have har := shAt_lt hO (tV A) (t + 1)
    have hlv := lsv_lt (p := (fun s => (shAt (tO A) (tV A) (t + 1)).testBit s)) (f := (fun s => pop (wLost (tO A) (tV A) ((shAt (tO A) (tV A) (t + 1)) ^^^ ((shAt (tO A) (tV A) (t + 1)) &&& 2 ^ s))))) (m0 := (pop (wLost (tO A) (tV A) (shAt (tO A) (tV A) (t + 1))))) (fun c => Nat.lt_of_le_of_lt (pop_le _) (by decide)) (Nat.lt_of_le_of_lt (pop_le _) (by decide)) i
    refine p_iload 5 33 rfl dX8_toSave_31 rfl ?_
    refine p_aload_n 0 34 rfl rfl dX8_toSave_33 rfl ?_
    refine p_getR 8 3 37 rfl dX8_toSave_34 fl_X8_23 rfl rfl hto ho.1.1.ne0 ?_
    refine p_getIE 4 0 40 rfl dX8_toSave_37 fl_X8_131 ho.1.1.kd rfl ho.2.2.1 ?_
    refine p_icmp_ge 92 43 rfl rfl dX8_toSave_40 (fun h40 => absurd h40 (nI_ge (a := i) (b := aS (tO A)) (by omega) (by omega))) (fun h40 => ?_)
    refine p_iload_n 2 44 rfl rfl dX8_toSave_43 rfl ?_
    refine p_iload 5 46 rfl dX8_toSave_44 rfl ?_
    refine p_cS2i 49 rfl dX8_toSave_46 (c_hasBitN (by omega) (by omega)) ml_X8_274 sl_X8_hasBit (Nat.le_of_ble_eq_true rfl) (Nat.le_of_ble_eq_true rfl) rfl ?_
    refine p_if_eq 86 52 rfl rfl dX8_toSave_49 (fun h49 => ?_) (fun h49 => ?_)
    · refine p_inc_5 89 rfl dX8_toSave_86 (1) rfl (Nat.le_of_ble_eq_true rfl) rfl ?_
      refine p_goto 31 rfl dX8_toSave_89 ?_
      have hb : (shAt (tO A) (tV A) (t + 1)).testBit i = false := by simpa only [b2i_eq0, Bool.not_eq_true] using h49
      have e : lsv (fun s => (shAt (tO A) (tV A) (t + 1)).testBit s) (fun s => pop (wLost (tO A) (tV A) ((shAt (tO A) (tV A) (t + 1)) ^^^ ((shAt (tO A) (tV A) (t + 1)) &&& 2 ^ s)))) (pop (wLost (tO A) (tV A) (shAt (tO A) (tV A) (t + 1)))) (i + 1) = lsv (fun s => (shAt (tO A) (tV A) (t + 1)).testBit s) (fun s => pop (wLost (tO A) (tV A) ((shAt (tO A) (tV A) (t + 1)) ^^^ ((shAt (tO A) (tV A) (t + 1)) &&& 2 ^ s)))) (pop (wLost (tO A) (tV A) (shAt (tO A) (tV A) (t + 1)))) i := lsv_f (Or.inl (by simp [hb]))
      rw [nI_1, ← e]
      exact ih (i + 1) _ (by omega)
    · refine p_aload_n 0 53 rfl rfl dX8_toSave_52 rfl ?_
      refine p_getR 8 6 56 rfl dX8_toSave_53 fl_X8_44 rfl rfl hS.2.2.1 (by decide) ?_
      refine p_iload_n 2 57 rfl rfl dX8_toSave_56 rfl ?_
      refine p_iconst (1) 58 rfl dX8_toSave_57 rfl ?_
      refine p_iload 5 60 rfl dX8_toSave_58 rfl ?_
      refine p_ishl 61 rfl dX8_toSave_60 ?_
      refine p_iconst (-1) 62 rfl dX8_toSave_61 rfl ?_
      refine p_ixor 63 rfl dX8_toSave_62 ?_
      refine p_iand 64 rfl dX8_toSave_63 ?_
      rw [one_shl _ (by omega), and_not_nI]
      refine p_cV1i 67 rfl dX8_toSave_64 (c_wordsLost ho hw hv hwo (Nat.lt_trans (Nat.xor_lt_two_pow (n := 9) har (Nat.lt_of_le_of_lt Nat.and_le_left har)) (by decide))) ml_X8_243 vl_X7_wordsLost rfl (by decide) rfl (Nat.le_of_ble_eq_true rfl) (Nat.le_of_ble_eq_true rfl) rfl ?_
      refine p_cS1i 70 rfl dX8_toSave_67 (c_bitCountN (wLost_lt hO _ _)) ml_X8_284 sl_J6_bitCount_0f7a4 (Nat.le_of_ble_eq_true rfl) (Nat.le_of_ble_eq_true rfl) rfl ?_
      refine p_ist_6 72 rfl dX8_toSave_70 (Nat.le_of_ble_eq_true rfl) rfl ?_
      refine p_iload 6 74 rfl dX8_toSave_72 rfl ?_
      refine p_iload 4 76 rfl dX8_toSave_74 rfl ?_
      refine p_icmp_ge 86 79 rfl rfl dX8_toSave_76 (fun h76 => ?_) (fun h76 => ?_)
      · refine p_inc_5 89 rfl dX8_toSave_86 (1) rfl (Nat.le_of_ble_eq_true rfl) rfl ?_
        refine p_goto 31 rfl dX8_toSave_89 ?_
        have e : lsv (fun s => (shAt (tO A) (tV A) (t + 1)).testBit s) (fun s => pop (wLost (tO A) (tV A) ((shAt (tO A) (tV A) (t + 1)) ^^^ ((shAt (tO A) (tV A) (t + 1)) &&& 2 ^ s)))) (pop (wLost (tO A) (tV A) (shAt (tO A) (tV A) (t + 1)))) (i + 1) = lsv (fun s => (shAt (tO A) (tV A) (t + 1)).testBit s) (fun s => pop (wLost (tO A) (tV A) ((shAt (tO A) (tV A) (t + 1)) ^^^ ((shAt (tO A) (tV A) (t + 1)) &&& 2 ^ s)))) (pop (wLost (tO A) (tV A) (shAt (tO A) (tV A) (t + 1)))) i := lsv_f (Or.inr (fun z => nI_ge z (by omega) h76))
        rw [nI_1, ← e]
        exact ih (i + 1) _ (by omega)
      · refine p_iload 6 81 rfl dX8_toSave_79 rfl ?_
        refine p_ist_4 83 rfl dX8_toSave_81 (Nat.le_of_ble_eq_true rfl) rfl ?_
        refine p_iload 5 85 rfl dX8_toSave_83 rfl ?_
        refine p_ist_n3 86 rfl rfl dX8_toSave_85 (Nat.le_of_ble_eq_true rfl) rfl ?_
        refine p_inc_5 89 rfl dX8_toSave_86 (1) rfl (Nat.le_of_ble_eq_true rfl) rfl ?_
        refine p_goto 31 rfl dX8_toSave_89 ?_
        have hb : (shAt (tO A) (tV A) (t + 1)).testBit i = true := by simpa only [b2i_eq0, Decidable.not_not, Bool.not_eq_true, Bool.not_eq_false] using h49
        have e : lsv (fun s => (shAt (tO A) (tV A) (t + 1)).testBit s) (fun s => pop (wLost (tO A) (tV A) ((shAt (tO A) (tV A) (t + 1)) ^^^ ((shAt (tO A) (tV A) (t + 1)) &&& 2 ^ s)))) (pop (wLost (tO A) (tV A) (shAt (tO A) (tV A) (t + 1)))) (i + 1) = (some i, pop (wLost (tO A) (tV A) ((shAt (tO A) (tV A) (t + 1)) ^^^ ((shAt (tO A) (tV A) (t + 1)) &&& 2 ^ i)))) := lsv_t hb (Nat.lt_of_not_le (fun z => h76 (nI_le z (by have := pop_le (wLost (tO A) (tV A) ((shAt (tO A) (tV A) (t + 1)) ^^^ ((shAt (tO A) (tV A) (t + 1)) &&& 2 ^ i))); omega))))
        have := ih (i + 1) (some (.int (nI (pop (wLost (tO A) (tV A) ((shAt (tO A) (tV A) (t + 1)) ^^^ ((shAt (tO A) (tV A) (t + 1)) &&& 2 ^ i))))))) (by omega)
        rw [e] at this
        rw [nI_1]
        exact this
set_option maxRecDepth 6000 in
theorem t_toSave (hT : IT σ o o' A) (x : Int32) : CallOk Γ 14 8 48 mX8_toSave [.ref T0, .int x] σ (rS (fToSave A x) false (fun σ' => IT σ' o o' A ∧ Ch cls σ σ')) := by
  have hS := hT.1
  have hK := hT.2.1
  have hto : hR σ T0 3 = o := hT.2.2.1.2.2.1
  have hQ := hT.2.2.2.1
  have ho := hQ.1
  have hw := hT.2.2.2.2.1.1
  have hwo := hT.2.2.2.2.1.2
  have hv := hK.2.2.2.2.1.1
  have hd9 := hK.2.2.2.2.1.2
  have hY := hK.2.2.2.1
  have hO := hK.2.2.1
  have hs9 := hO.1
  have hc6 := hO.2.1
  have hw12 := hO.2.2.1
  have hk8 := hO.2.2.2.1
  refine p_enter rfl rfl (Nat.le_of_ble_eq_true rfl) rfl ?_
  refine p_iload_n 1 1 rfl rfl dX8_toSave_0 rfl ?_
  refine p_cS1n 4 rfl dX8_toSave_1 (c_needTown _) ml_X8_228 sl_X8_needTown (Nat.le_of_ble_eq_true rfl) (Nat.le_of_ble_eq_true rfl) (Nat.le_of_ble_eq_true rfl) (Nat.le_of_ble_eq_true rfl) rfl (fun h1 => ?_) (fun h1 => ⟨by simp [fToSave, gd, h1], hT, Ch.rf⟩)
  obtain ⟨t, rfl, ht⟩ := asN h1 (by omega)
  have htL : t < 2147483648 := by omega
  have har := shAt_lt hO (tV A) (t + 1)
  refine p_aload_n 0 5 rfl rfl dX8_toSave_4 rfl ?_
  refine p_getR 8 6 8 rfl dX8_toSave_5 fl_X8_44 rfl rfl hS.2.2.1 (by decide) ?_
  refine p_iload_n 1 9 rfl rfl dX8_toSave_8 rfl ?_
  refine p_cV1i 12 rfl dX8_toSave_9 (c_archive ho hw hv hwo (by omega)) ml_X8_231 vl_X7_archive rfl (by decide) rfl (Nat.le_of_ble_eq_true rfl) (Nat.le_of_ble_eq_true rfl) rfl ?_
  refine p_ist_n2 13 rfl rfl dX8_toSave_12 (Nat.le_of_ble_eq_true rfl) rfl ?_
  refine p_iconst (-1) 14 rfl dX8_toSave_13 rfl ?_
  refine p_ist_n3 15 rfl rfl dX8_toSave_14 (Nat.le_of_ble_eq_true rfl) rfl ?_
  refine p_aload_n 0 16 rfl rfl dX8_toSave_15 rfl ?_
  refine p_getR 8 6 19 rfl dX8_toSave_16 fl_X8_44 rfl rfl hS.2.2.1 (by decide) ?_
  refine p_iload_n 2 20 rfl rfl dX8_toSave_19 rfl ?_
  refine p_cV1i 23 rfl dX8_toSave_20 (c_wordsLost ho hw hv hwo (by omega)) ml_X8_243 vl_X7_wordsLost rfl (by decide) rfl (Nat.le_of_ble_eq_true rfl) (Nat.le_of_ble_eq_true rfl) rfl ?_
  refine p_cS1i 26 rfl dX8_toSave_23 (c_bitCountN (wLost_lt hO _ _)) ml_X8_284 sl_J6_bitCount_0f7a4 (Nat.le_of_ble_eq_true rfl) (Nat.le_of_ble_eq_true rfl) rfl ?_
  refine p_ist_4 28 rfl dX8_toSave_26 (Nat.le_of_ble_eq_true rfl) rfl ?_
  refine p_iconst (0) 29 rfl dX8_toSave_28 rfl ?_
  refine p_ist_5 31 rfl dX8_toSave_29 (Nat.le_of_ble_eq_true rfl) rfl ?_
  have e : fToSave A (nI t) = (0, oI (lsv (fun s => (shAt (tO A) (tV A) (t + 1)).testBit s) (fun s => pop (wLost (tO A) (tV A) ((shAt (tO A) (tV A) (t + 1)) ^^^ ((shAt (tO A) (tV A) (t + 1)) &&& 2 ^ s)))) (pop (wLost (tO A) (tV A) (shAt (tO A) (tV A) (t + 1)))) (aS (tO A))).1) := by simp [fToSave, gd, h1, iN_nI htL]
  rw [e]
  exact (l_toSave hT ht (aS (tO A)) 0 _ (by omega)).sub (Nat.le_refl _) (Nat.zero_le _) (Nat.zero_le _)
end C50
