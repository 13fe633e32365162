/-! ===== the reference: fires, game, odd ===== -/
def fpr (t m : Nat) : Nat → Nat
  | 0 => 1
  | i + 1 => fpr t m i * (if m.testBit i = true then t else 10 - t)
def fso (O : AO) (V : AW) (m : Nat) : Nat → Nat
  | 0 => 0
  | i + 1 => fso O V m i ||| (if m.testBit i = true then shAt O V (i + 1) else 0)
def fal (O : AO) (V : AW) (w t : Nat) : Nat → Nat
  | 0 => 0
  | m + 1 => fal O V w t m + (if (wLost O V (fso O V m 4)).testBit w = true then fpr t m 4 else 0)
def lsB (l r m : Nat) : Bool := (decide (l < 5) && m.testBit (l - 1)) || (decide (r < 5) && m.testBit (r - 1))
def falC (l r t : Nat) : Nat → Nat
  | 0 => 0
  | m + 1 => falC l r t m + (if lsB l r m = true then fpr t m 4 else 0)
theorem falC_eq : ∀ l, l < 10 → ∀ r, r < 10 → ∀ t, t < 11 → falC (l + 1) (r + 1) t 16 = (100 - frS (l + 1) (r + 1) t) * 100 := by decide +kernel
theorem fso_lt {O : AO} (h : OkO O) (V : AW) (m : Nat) : ∀ i, fso O V m i < 512 := by
  intro i
  induction i with
  | zero => show (0 : Nat) < 512; decide
  | succ i ih =>
    refine Nat.or_lt_two_pow (n := 9) ih ?_
    split
    · exact Nat.lt_of_lt_of_le (setN_lt _ _) (Nat.pow_le_pow_right (by decide) h.1)
    · decide
theorem fso_bit {O : AO} {V : AW} {m s : Nat} (hs : s < aS O) (hp : ¬ vP V s = 0) : (fso O V m 4).testBit s = (decide (vP V s < 5) && m.testBit (vP V s - 1)) := by
  have h1 : ∀ i, (shAt O V (i + 1)).testBit s = (vP V s == i + 1) := fun i => by unfold shAt; rw [setN_bit, decide_eq_true hs, Bool.true_and]
  have hb : ∀ (b : Bool) (x : Nat), (if b = true then x else 0).testBit s = (b && x.testBit s) := fun b x => by cases b <;> simp
  simp only [fso, Nat.testBit_or, hb, h1, Nat.zero_testBit, Bool.false_or]
  rcases Nat.lt_or_ge (vP V s) 5 with h | h
  · have : vP V s = 1 ∨ vP V s = 2 ∨ vP V s = 3 ∨ vP V s = 4 := by omega
    rcases this with g | g | g | g <;> rw [g] <;> simp
  · have g1 : (vP V s == 0 + 1) = false := by simp only [beq_eq_false_iff_ne]; omega
    have g2 : (vP V s == 1 + 1) = false := by simp only [beq_eq_false_iff_ne]; omega
    have g3 : (vP V s == 2 + 1) = false := by simp only [beq_eq_false_iff_ne]; omega
    have g4 : (vP V s == 3 + 1) = false := by simp only [beq_eq_false_iff_ne]; omega
    rw [g1, g2, g3, g4, decide_eq_false (by omega)]; simp
theorem fal_C {O : AO} {V : AW} {w t : Nat} (hO : OkO O) (hw : w < aW O) (hd : dead O V w = false) : ∀ m, fal O V w t m = falC (vP V (aL O w)) (vP V (aB O w)) t m := by
  have hl := hO.2.2.2.2.2 w hw
  have hd2 : ¬ vP V (aL O w) = 0 ∧ ¬ vP V (aB O w) = 0 := by unfold dead at hd; simpa using hd
  intro m
  induction m with
  | zero => rfl
  | succ m ih =>
    have e : (wLost O V (fso O V m 4)).testBit w = lsB (vP V (aL O w)) (vP V (aB O w)) m := by
      unfold wLost lsB
      rw [setN_bit, decide_eq_true hw, hd, fso_bit hl.1 hd2.1, fso_bit hl.2 hd2.2]; rfl
    simp only [fal, falC, ih, e]
section C97
variable {Γ : Gm} {σ : PH} {A : AT}
set_option maxRecDepth 4000 in
theorem l_frT {τ : PH} (hR0 : RM τ A) {w t a m : Nat} (ht : t ≤ 10) (hm : m < 16) {Q : PO → PH → Prop} (kk : ∀ x7 x8, Ok Γ 11 0 0 mX9_fires 129 [some (.ref M0), some (.int (nI w)), some (.int (nI t)), some (.int (nI a)), some (.int (nI m)), some (.int (nI (fpr t m 4))), some (.int (nI (fso (tO A) (tV A) m 4))), x7, x8] [] τ Q) : ∀ (n i : Nat) (x8 : Option Value), i + n = 4 → Ok Γ 11 0 0 mX9_fires 61 [some (.ref M0), some (.int (nI w)), some (.int (nI t)), some (.int (nI a)), some (.int (nI m)), some (.int (nI (fpr t m i))), some (.int (nI (fso (tO A) (tV A) m i))), some (.int (nI i)), x8] [] τ Q := by
  have hK := hR0.2.1
  have hO := hK.2.2.1
  have hc6 := hO.2.1
  have hw12 := hO.2.2.1
  have hs9 := hO.1
  have hv := hK.2.2.2.2.1.1
  have hd9 := hK.2.2.2.2.1.2
  have hM := hR0.1
  have hw := hR0.2.2.1
  intro n
  induction n with
  | zero =>
    intro i x8 hi
    refine p_iload 7 63 rfl dX9_fires_61 rfl ?_
    refine p_iconst (4) 64 rfl dX9_fires_63 rfl ?_
    refine p_icmp_ge 129 67 rfl rfl dX9_fires_64 (fun h64 => ?_) (fun h64 => absurd (nI_le (a := 4) (b := i) (by omega) (by omega)) h64)
    rw [show i = 4 by omega]
    exact kk _ _
  | succ n ih =>
    intro i x8 hi
    refine p_iload 7 63 rfl dX9_fires_61 rfl ?_
    refine p_iconst (4) 64 rfl dX9_fires_63 rfl ?_
    refine p_icmp_ge 129 67 rfl rfl dX9_fires_64 (fun h64 => absurd h64 (nI_ge (a := i) (b := 4) (by omega) (by omega))) (fun h64 => ?_)
    refine p_iload 4 69 rfl dX9_fires_67 rfl ?_
    refine p_iload 7 71 rfl dX9_fires_69 rfl ?_
    refine p_ishr 72 rfl dX9_fires_71 ?_
    refine p_iconst (1) 73 rfl dX9_fires_72 rfl ?_
    refine p_iand 74 rfl dX9_fires_73 ?_
    refine p_iconst (1) 75 rfl dX9_fires_74 rfl ?_
    rw [sb1 (by omega) (by omega)]
    refine p_icmp_ne 82 78 rfl rfl dX9_fires_75 (fun h75 => ?_) (fun h75 => ?_)
    · refine p_iconst (0) 83 rfl dX9_fires_82 rfl ?_
      refine p_ist_8 85 rfl dX9_fires_83 (Nat.le_of_ble_eq_true rfl) rfl ?_
      refine p_iload 5 87 rfl dX9_fires_85 rfl ?_
      refine p_iload 8 89 rfl dX9_fires_87 rfl ?_
      refine p_if_eq 96 92 rfl rfl dX9_fires_89 (fun h89 => ?_) (fun h89 => absurd rfl h89)
      refine p_bipush (10) 98 rfl dX9_fires_96 rfl ?_
      refine p_iload_n 2 99 rfl rfl dX9_fires_98 rfl ?_
      refine p_isub 100 rfl dX9_fires_99 ?_
      refine p_imul 101 rfl dX9_fires_100 ?_
      refine p_ist_5 103 rfl dX9_fires_101 (Nat.le_of_ble_eq_true rfl) rfl ?_
      refine p_iload 6 105 rfl dX9_fires_103 rfl ?_
      refine p_iload 8 107 rfl dX9_fires_105 rfl ?_
      refine p_if_eq 119 110 rfl rfl dX9_fires_107 (fun h107 => ?_) (fun h107 => absurd rfl h107)
      refine p_iconst (0) 120 rfl dX9_fires_119 rfl ?_
      refine p_ior 121 rfl dX9_fires_120 ?_
      refine p_ist_6 123 rfl dX9_fires_121 (Nat.le_of_ble_eq_true rfl) rfl ?_
      refine p_inc_7 126 rfl dX9_fires_123 (1) rfl (Nat.le_of_ble_eq_true rfl) rfl ?_
      refine p_goto 61 rfl dX9_fires_126 ?_
      have hb : m.testBit i = false := by simpa only [b2i_eq0, b2i_1, Bool.not_eq_true, Decidable.not_not] using h75
      rw [show (10 : Int32) - nI t = nI (10 - t) from nI_sb (a := 10) (by omega), nI_mu, or0, nI_1]
      have e1 : fpr t m (i + 1) = fpr t m i * (10 - t) := by simp [fpr, hb]
      have e2 : fso (tO A) (tV A) m (i + 1) = fso (tO A) (tV A) m i := by simp [fso, hb]
      rw [← e1, ← e2]
      exact ih (i + 1) _ (by omega)
    · refine p_iconst (1) 79 rfl dX9_fires_78 rfl ?_
      refine p_goto 83 rfl dX9_fires_79 ?_
      refine p_ist_8 85 rfl dX9_fires_83 (Nat.le_of_ble_eq_true rfl) rfl ?_
      refine p_iload 5 87 rfl dX9_fires_85 rfl ?_
      refine p_iload 8 89 rfl dX9_fires_87 rfl ?_
      refine p_if_eq 96 92 rfl rfl dX9_fires_89 (fun h89 => absurd h89 (by decide)) (fun h89 => ?_)
      refine p_iload_n 2 93 rfl rfl dX9_fires_92 rfl ?_
      refine p_goto 100 rfl dX9_fires_93 ?_
      refine p_imul 101 rfl dX9_fires_100 ?_
      refine p_ist_5 103 rfl dX9_fires_101 (Nat.le_of_ble_eq_true rfl) rfl ?_
      refine p_iload 6 105 rfl dX9_fires_103 rfl ?_
      refine p_iload 8 107 rfl dX9_fires_105 rfl ?_
      refine p_if_eq 119 110 rfl rfl dX9_fires_107 (fun h107 => absurd h107 (by decide)) (fun h107 => ?_)
      refine p_aload_n 0 111 rfl rfl dX9_fires_110 rfl ?_
      refine p_iload 7 113 rfl dX9_fires_111 rfl ?_
      refine p_cV1i 116 rfl dX9_fires_113 (c_mArchive hM hw (V := tV A) hv (by omega)) ml_X9_405 vl_X9_archive rfl (by decide) rfl (Nat.le_of_ble_eq_true rfl) (Nat.le_of_ble_eq_true rfl) rfl ?_
      refine p_goto 120 rfl dX9_fires_116 ?_
      refine p_ior 121 rfl dX9_fires_120 ?_
      refine p_ist_6 123 rfl dX9_fires_121 (Nat.le_of_ble_eq_true rfl) rfl ?_
      refine p_inc_7 126 rfl dX9_fires_123 (1) rfl (Nat.le_of_ble_eq_true rfl) rfl ?_
      refine p_goto 61 rfl dX9_fires_126 ?_
      have hb : m.testBit i = true := by simpa only [b2i_eq0, b2i_1, Decidable.not_not, Bool.not_eq_true, Bool.not_eq_false] using h75
      rw [nI_mu, nx_or, nI_1]
      have e1 : fpr t m (i + 1) = fpr t m i * t := by simp [fpr, hb]
      have e2 : fso (tO A) (tV A) m (i + 1) = fso (tO A) (tV A) m i ||| setN (aS (tO A)) (fun s => vP (tV A) s == i + 1) := by simp [fso, hb, shAt]
      rw [← e1, ← e2]
      exact ih (i + 1) _ (by omega)
set_option maxRecDepth 4000 in
theorem l_mFires {τ : PH} (hR0 : RM τ A) (h0 : hI τ M0 0 = 0) (hc1 : ChM σ τ) {w t : Nat} (hwa : w < aW (tO A)) (ht : t ≤ 10) : ∀ (n m : Nat) (x5 x6 x7 x8 : Option Value), m + n = 16 → Ok Γ 11 0 0 mX9_fires 45 [some (.ref M0), some (.int (nI w)), some (.int (nI t)), some (.int (nI (fal (tO A) (tV A) w t m))), some (.int (nI m)), x5, x6, x7, x8] [] τ (rM (0, nI (fal (tO A) (tV A) w t 16)) (fun σ' => RM σ' A ∧ ChM σ σ')) := by
  have hK := hR0.2.1
  have hO := hK.2.2.1
  have hc6 := hO.2.1
  have hw12 := hO.2.2.1
  have hs9 := hO.1
  have hv := hK.2.2.2.2.1.1
  have hd9 := hK.2.2.2.2.1.2
  have hM := hR0.1
  have hw := hR0.2.2.1
  intro n
  induction n with
  | zero =>
    intro m x5 x6 x7 x8 hm
    refine p_iload 4 47 rfl dX9_fires_45 rfl ?_
    refine p_bipush (16) 49 rfl dX9_fires_47 rfl ?_
    refine p_icmp_ge 158 52 rfl rfl dX9_fires_49 (fun h49 => ?_) (fun h49 => absurd (nI_le (a := 16) (b := m) (by omega) (by omega)) h49)
    refine p_iload_n 3 159 rfl rfl dX9_fires_158 rfl ?_
    exact p_iret dX9_fires_159 rfl ⟨_, rfl, h0, fun _ => by rw [show m = 16 by omega], hR0, hc1⟩
  | succ n ih =>
    intro m x5 x6 x7 x8 hm
    refine p_iload 4 47 rfl dX9_fires_45 rfl ?_
    refine p_bipush (16) 49 rfl dX9_fires_47 rfl ?_
    refine p_icmp_ge 158 52 rfl rfl dX9_fires_49 (fun h49 => absurd h49 (nI_ge (a := m) (b := 16) (by omega) (by omega))) (fun h49 => ?_)
    refine p_iconst (1) 53 rfl dX9_fires_52 rfl ?_
    refine p_ist_5 55 rfl dX9_fires_53 (Nat.le_of_ble_eq_true rfl) rfl ?_
    refine p_iconst (0) 56 rfl dX9_fires_55 rfl ?_
    refine p_ist_6 58 rfl dX9_fires_56 (Nat.le_of_ble_eq_true rfl) rfl ?_
    refine p_iconst (0) 59 rfl dX9_fires_58 rfl ?_
    refine p_ist_7 61 rfl dX9_fires_59 (Nat.le_of_ble_eq_true rfl) rfl ?_
    refine l_frT hR0 ht (by omega) (fun x7 x8 => ?_) 4 0 _ (by omega)
    refine p_iload_n 3 130 rfl rfl dX9_fires_129 rfl ?_
    refine p_aload_n 0 131 rfl rfl dX9_fires_130 rfl ?_
    refine p_iload 6 133 rfl dX9_fires_131 rfl ?_
    refine p_cV1i 136 rfl dX9_fires_133 (c_lostBy hM hw hv (Nat.lt_trans (fso_lt hO _ m 4) (by decide))) ml_X9_408 vl_X9_lostBy rfl (by decide) rfl (Nat.le_of_ble_eq_true rfl) (Nat.le_of_ble_eq_true rfl) rfl ?_
    refine p_iload_n 1 137 rfl rfl dX9_fires_136 rfl ?_
    refine p_ishr 138 rfl dX9_fires_137 ?_
    refine p_iconst (1) 139 rfl dX9_fires_138 rfl ?_
    refine p_iand 140 rfl dX9_fires_139 ?_
    refine p_iconst (1) 141 rfl dX9_fires_140 rfl ?_
    rw [show setN (aW (tO A)) (fun k => !dead (tO A) (tV A) k && ((fso (tO A) (tV A) m 4).testBit (aL (tO A) k) || (fso (tO A) (tV A) m 4).testBit (aB (tO A) k))) = (wLost (tO A) (tV A) (fso (tO A) (tV A) m 4)) from rfl, sb1 (m := (wLost (tO A) (tV A) (fso (tO A) (tV A) m 4))) (i := w) (Nat.lt_trans (Nat.lt_of_lt_of_le (setN_lt _ _) (Nat.pow_le_pow_right (by decide) hw12)) (by decide)) (by omega)]
    refine p_icmp_ne 149 144 rfl rfl dX9_fires_141 (fun h141 => ?_) (fun h141 => ?_)
    · refine p_iconst (0) 150 rfl dX9_fires_149 rfl ?_
      refine p_iadd 151 rfl dX9_fires_150 ?_
      refine p_ist_n3 152 rfl rfl dX9_fires_151 (Nat.le_of_ble_eq_true rfl) rfl ?_
      refine p_inc_4 155 rfl dX9_fires_152 (1) rfl (Nat.le_of_ble_eq_true rfl) rfl ?_
      refine p_goto 45 rfl dX9_fires_155 ?_
      have hb : (wLost (tO A) (tV A) (fso (tO A) (tV A) m 4)).testBit w = false := by simpa only [b2i_eq0, b2i_1, Bool.not_eq_true, Decidable.not_not] using h141
      rw [show nI (fal (tO A) (tV A) w t m) + 0 = nI (fal (tO A) (tV A) w t m) from nI_add _ 0, nI_1]
      have e1 : fal (tO A) (tV A) w t (m + 1) = fal (tO A) (tV A) w t m := by simp [fal, hb]
      rw [← e1]
      exact ih (m + 1) _ _ _ _ (by omega)
    · refine p_iload 5 146 rfl dX9_fires_144 rfl ?_
      refine p_goto 150 rfl dX9_fires_146 ?_
      refine p_iadd 151 rfl dX9_fires_150 ?_
      refine p_ist_n3 152 rfl rfl dX9_fires_151 (Nat.le_of_ble_eq_true rfl) rfl ?_
      refine p_inc_4 155 rfl dX9_fires_152 (1) rfl (Nat.le_of_ble_eq_true rfl) rfl ?_
      refine p_goto 45 rfl dX9_fires_155 ?_
      have hb : (wLost (tO A) (tV A) (fso (tO A) (tV A) m 4)).testBit w = true := by simpa only [b2i_eq0, b2i_1, Decidable.not_not, Bool.not_eq_true, Bool.not_eq_false] using h141
      rw [nI_add, nI_1]
      have e1 : fal (tO A) (tV A) w t (m + 1) = fal (tO A) (tV A) w t m + fpr t m 4 := by simp [fal, hb]
      rw [← e1]
      exact ih (m + 1) _ _ _ _ (by omega)
set_option maxRecDepth 8000 in
theorem q_fires (hRM : RM σ A) (x y : Int32) : CallOk Γ 12 0 0 mX9_fires [.ref M0, .int x, .int y] σ (rM (fFires A x y) (fun σ' => RM σ' A ∧ ChM σ σ')) := by
  have hK := hRM.2.1
  have hO := hK.2.2.1
  have hs9 := hO.1
  have hc6 := hO.2.1
  have hw12 := hO.2.2.1
  have hk8 := hO.2.2.2.1
  have hv := hK.2.2.2.2.1.1
  have hd9 := hK.2.2.2.2.1.2
  refine p_enter rfl rfl (Nat.le_of_ble_eq_true rfl) rfl ?_
  refine p_aload_n 0 1 rfl rfl dX9_fires_0 rfl ?_
  refine p_iconst (0) 2 rfl dX9_fires_1 rfl ?_
  refine p_putI 9 0 5 rfl dX9_fires_2 fl_X9_102 rfl rfl (Or.inl rfl) ?_
  have hQ : FQ σ (sI σ M0 0 0) := FQ.th
  have hR0 := hRM.q hQ
  have h0 : hI (sI σ M0 0 0) M0 0 = 0 := hI_sI _ _ _ _
  generalize sI σ M0 0 0 = τ at hQ hR0 h0 ⊢
  have hM := hR0.1
  have hw := hR0.2.2.1
  refine p_aload_n 0 6 rfl rfl dX9_fires_5 rfl ?_
  refine p_iload_n 1 7 rfl rfl dX9_fires_6 rfl ?_
  refine p_cV1x 0 0 10 rfl dX9_fires_7 (c_isWord hM h0 _) ml_X9_390 vl_X9_isWord rfl (by decide) rfl (Nat.le_of_ble_eq_true rfl) (Nat.le_of_ble_eq_true rfl) (Nat.le_of_ble_eq_true rfl) (Nat.le_of_ble_eq_true rfl) rfl ?_
  intro v0 τ0 hp0
  obtain ⟨hv0, ht0, hf0⟩ := hp0
  subst hv0
  refine p_if_eq 28 13 rfl rfl dX9_fires_10 (fun h10 => ?_) (fun h10 => ?_)
  · have hb0 : inR x (aW (tO A)) = false := by simpa only [b2i_eq0, Bool.not_eq_true, Decidable.not_not] using h10
    have ee0 := hf0 hb0
    subst ee0
    refine p_iconst (0) 29 rfl dX9_fires_28 rfl ?_
    exact p_iret dX9_fires_29 rfl ⟨_, rfl, by rw [fFires, gd_f hb0]; exact hI_sI _ _ _ _, fun q => absurd q (by rw [fFires, gd_f hb0]; decide), (hRM.q hQ).q FQ.th, (hQ.tr FQ.th).ch⟩
  · have hb0 : inR x (aW (tO A)) = true := by simpa only [b2i_eq0, Decidable.not_not, Bool.not_eq_true, Bool.not_eq_false] using h10
    have ee0 := ht0 hb0
    subst ee0
    obtain ⟨w, rfl, hw_⟩ := asN hb0 (by omega)
    have hwL : w < 2147483648 := by omega
    have hw0 := hw_
    refine p_aload_n 0 14 rfl rfl dX9_fires_13 rfl ?_
    refine p_iload_n 2 15 rfl rfl dX9_fires_14 rfl ?_
    refine p_iconst (0) 16 rfl dX9_fires_15 rfl ?_
    refine p_bipush (10) 18 rfl dX9_fires_16 rfl ?_
    refine p_cS3i 21 rfl dX9_fires_18 (c_within _ _ _) ml_X9_363 sl_X9_within (Nat.le_of_ble_eq_true rfl) (Nat.le_of_ble_eq_true rfl) rfl ?_
    refine p_iconst (2) 22 rfl dX9_fires_21 rfl ?_
    refine p_cV2x 0 0 25 rfl dX9_fires_22 (c_right h0 (btw y 0 10) (by decide)) ml_X9_273 vl_X9_right rfl (by decide) rfl (Nat.le_of_ble_eq_true rfl) (Nat.le_of_ble_eq_true rfl) (Nat.le_of_ble_eq_true rfl) (Nat.le_of_ble_eq_true rfl) rfl ?_
    intro v1 τ1 hp1
    obtain ⟨hv1, ht1, hf1⟩ := hp1
    subst hv1
    refine p_if_ne 30 28 rfl rfl dX9_fires_25 (fun h25 => ?_) (fun h25 => ?_)
    · have hb1 : btw y 0 10 = true := by simpa only [b2i_eq0, Decidable.not_not, Bool.not_eq_true, Bool.not_eq_false] using h25
      have ee1 := ht1 hb1
      subst ee1
      obtain ⟨t, rfl, hta, ht⟩ := asB hb1 (by decide) (by decide)
      have htL : t < 2147483648 := by omega
      refine p_aload_n 0 31 rfl rfl dX9_fires_30 rfl ?_
      refine p_iload_n 1 32 rfl rfl dX9_fires_31 rfl ?_
      refine p_cV1i 35 rfl dX9_fires_32 (c_isWhole hM hw hv hw0) ml_X9_399 vl_X9_isWhole rfl (by decide) rfl (Nat.le_of_ble_eq_true rfl) (Nat.le_of_ble_eq_true rfl) rfl ?_
      refine p_if_ne 40 38 rfl rfl dX9_fires_35 (fun h35 => ?_) (fun h35 => ?_)
      · have hdd : dead (tO A) (tV A) w = false := by
          cases hx : dead (tO A) (tV A) w with
          | false => rfl
          | true => exact absurd (show b2i (!dead (tO A) (tV A) w) = 0 by rw [hx]; rfl) h35
        refine p_iconst (0) 41 rfl dX9_fires_40 rfl ?_
        refine p_ist_n3 42 rfl rfl dX9_fires_41 (Nat.le_of_ble_eq_true rfl) rfl ?_
        refine p_iconst (0) 43 rfl dX9_fires_42 rfl ?_
        refine p_ist_4 45 rfl dX9_fires_43 (Nat.le_of_ble_eq_true rfl) rfl ?_
        have hl := hO.2.2.2.2.2 w hw0
        have hd2 : ¬ vP (tV A) (aL (tO A) w) = 0 ∧ ¬ vP (tV A) (aB (tO A) w) = 0 := by unfold dead at hdd; simpa using hdd
        have e : fFires A (nI w) (nI t) = (0, nI (fal (tO A) (tV A) w t 16)) := by
          rw [fFires, gd_t hb0, gd_t hb1, iN_nI hwL, iN_nI htL, if_neg (by rw [hdd]; decide), fal_C hO hw0 hdd]
          have b1 := (hv.2.1 (aL (tO A) w) (by omega)).2.2
          have b2 := (hv.2.1 (aB (tO A) w) (by omega)).2.2
          have := falC_eq (vP (tV A) (aL (tO A) w) - 1) (by omega) (vP (tV A) (aB (tO A) w) - 1) (by omega) t (by omega)
          rw [show vP (tV A) (aL (tO A) w) - 1 + 1 = vP (tV A) (aL (tO A) w) by omega, show vP (tV A) (aB (tO A) w) - 1 + 1 = vP (tV A) (aB (tO A) w) by omega] at this
          rw [this]
        rw [e]
        exact Ok.sub (l_mFires hR0 h0 hQ.ch hw0 ht 16 0 _ _ _ _ (by omega)) (by decide) (by decide) (by decide)
      · have hdd : dead (tO A) (tV A) w = true := by
          have := b2i_eq0.mp h35
          simpa using this
        refine p_iconst (-1) 39 rfl dX9_fires_38 rfl ?_
        exact p_iret dX9_fires_39 rfl ⟨_, rfl, by rw [fFires, gd_t hb0, gd_t hb1]; exact h0, fun _ => by rw [fFires, gd_t hb0, gd_t hb1, iN_nI hwL, if_pos hdd], hR0, hQ.ch⟩
    · have hb1 : btw y 0 10 = false := by simpa only [b2i_eq0, Bool.not_eq_true, Decidable.not_not] using h25
      have ee1 := hf1 hb1
      subst ee1
      refine p_iconst (0) 29 rfl dX9_fires_28 rfl ?_
      exact p_iret dX9_fires_29 rfl ⟨_, rfl, by rw [fFires, gd_t hb0, gd_f hb1]; exact hI_sI _ _ _ _, fun q => absurd q (by rw [fFires, gd_t hb0, gd_f hb1]; decide), (hRM.q hQ).q FQ.th, (hQ.tr FQ.th).ch⟩
theorem nws_cnt (hO : OkO (tO A)) (c m : Nat) : cntN (aW (tO A)) (fun k => m.testBit (aL (tO A) k) && m.testBit (aB (tO A) k) && fitt (tO A) (tV A) (aL (tO A) k) (aB (tO A) k) && !(vK (tV A) c).testBit k) = nws A c m := by
  unfold nws
  rw [← pop_set hO.2.2.1]
  congr 1
  apply Nat.eq_of_testBit_eq
  intro i
  rw [setN_bit, Nat.testBit_xor, Nat.testBit_and]
  unfold wOf
  rw [setN_bit]
  cases decide (i < aW (tO A)) <;> cases (m.testBit (aL (tO A) i) && m.testBit (aB (tO A) i) && fitt (tO A) (tV A) (aL (tO A) i) (aB (tO A) i)) <;> cases (vK (tV A) c).testBit i <;> rfl
set_option maxRecDepth 4000 in
theorem l_newTo {τ : PH} (hR0 : RM τ A) {c m : Nat} (hc : c < aC (tO A)) (hm : m < 512) : ∀ (n i : Nat), i + n = aW (tO A) → Ok Γ 4 0 0 mX9_newTo 5 [some (.ref M0), some (.int (nI c)), some (.int (nI m)), some (.int (nI (cntN i (fun k => m.testBit (aL (tO A) k) && m.testBit (aB (tO A) k) && fitt (tO A) (tV A) (aL (tO A) k) (aB (tO A) k) && !(vK (tV A) c).testBit k)))), some (.int (nI i))] [] τ (rI τ (nI (nws A c m))) := by
  have hK := hR0.2.1
  have hO := hK.2.2.1
  have hc6 := hO.2.1
  have hw12 := hO.2.2.1
  have hs9 := hO.1
  have hv := hK.2.2.2.2.1.1
  have hd9 := hK.2.2.2.2.1.2
  have hM := hR0.1
  have hw := hR0.2.2.1
  intro n
  induction n with
  | zero =>
    intro i hi
    refine p_iload 4 7 rfl dX9_newTo_5 rfl ?_
    refine p_aload_n 0 8 rfl rfl dX9_newTo_7 rfl ?_
    refine p_getIE 9 3 11 rfl dX9_newTo_8 fl_X9_286 rfl rfl hM.2.2.1.2.2.1 ?_
    refine p_icmp_ge 92 14 rfl rfl dX9_newTo_11 (fun h11 => ?_) (fun h11 => absurd (nI_le (a := aW (tO A)) (b := i) (by omega) (by omega)) h11)
    refine p_iload_n 3 93 rfl rfl dX9_newTo_92 rfl ?_
    exact p_iret dX9_newTo_93 rfl ⟨by rw [← nws_cnt hO, show i = aW (tO A) by omega], rfl⟩
  | succ n ih =>
    intro i hi
    have hlt : i < aW (tO A) := by omega
    have hl := hO.2.2.2.2.2 i hlt
    refine p_iload 4 7 rfl dX9_newTo_5 rfl ?_
    refine p_aload_n 0 8 rfl rfl dX9_newTo_7 rfl ?_
    refine p_getIE 9 3 11 rfl dX9_newTo_8 fl_X9_286 rfl rfl hM.2.2.1.2.2.1 ?_
    refine p_icmp_ge 92 14 rfl rfl dX9_newTo_11 (fun h11 => absurd h11 (nI_ge (a := i) (b := aW (tO A)) (by omega) (by omega))) (fun h11 => ?_)
    refine p_iload_n 3 15 rfl rfl dX9_newTo_14 rfl ?_
    refine p_iload_n 2 16 rfl rfl dX9_newTo_15 rfl ?_
    refine p_aload_n 0 17 rfl rfl dX9_newTo_16 rfl ?_
    refine p_getR 9 9 20 rfl dX9_newTo_17 fl_X9_23 rfl rfl (show hR _ M0 9 = mWl from hM.1 9) (by decide) ?_
    refine p_iload 4 22 rfl dX9_newTo_20 rfl ?_
    refine p_ialdE 23 rfl dX9_newTo_22 (i := i) rfl (by show i < 12; omega) (hM.2.2.2.2.1 i hlt).1 ?_
    refine p_ishr 24 rfl dX9_newTo_23 ?_
    refine p_iload_n 2 25 rfl rfl dX9_newTo_24 rfl ?_
    refine p_aload_n 0 26 rfl rfl dX9_newTo_25 rfl ?_
    refine p_getR 9 10 29 rfl dX9_newTo_26 fl_X9_26 rfl rfl (show hR _ M0 10 = mWr from hM.1 10) (by decide) ?_
    refine p_iload 4 31 rfl dX9_newTo_29 rfl ?_
    refine p_ialdE 32 rfl dX9_newTo_31 (i := i) rfl (by show i < 12; omega) (hM.2.2.2.2.1 i hlt).2 ?_
    refine p_ishr 33 rfl dX9_newTo_32 ?_
    refine p_iand 34 rfl dX9_newTo_33 ?_
    refine p_iconst (1) 35 rfl dX9_newTo_34 rfl ?_
    refine p_iand 36 rfl dX9_newTo_35 ?_
    rw [sb2 (by omega) (by omega) (by omega)]
    refine p_iconst (1) 37 rfl dX9_newTo_36 rfl ?_
    refine p_icmp_ne 83 40 rfl rfl dX9_newTo_37 (fun h37 => ?_) (fun h37 => ?_)
    · refine p_iconst (0) 84 rfl dX9_newTo_83 rfl ?_
      refine p_iadd 85 rfl dX9_newTo_84 ?_
      refine p_ist_n3 86 rfl rfl dX9_newTo_85 (Nat.le_of_ble_eq_true rfl) rfl ?_
      refine p_inc_4 89 rfl dX9_newTo_86 (1) rfl (Nat.le_of_ble_eq_true rfl) rfl ?_
      refine p_goto 5 rfl dX9_newTo_89 ?_
      have g1 : (m.testBit (aL (tO A) i) && m.testBit (aB (tO A) i)) = false := by simpa only [b2i_eq0, b2i_1, Bool.not_eq_true, Decidable.not_not] using h37
      have hb : (fun k => m.testBit (aL (tO A) k) && m.testBit (aB (tO A) k) && fitt (tO A) (tV A) (aL (tO A) k) (aB (tO A) k) && !(vK (tV A) c).testBit k) i = false := by show ((m.testBit (aL (tO A) i) && m.testBit (aB (tO A) i)) && fitt (tO A) (tV A) (aL (tO A) i) (aB (tO A) i) && !(vK (tV A) c).testBit i) = false; rw [g1]; rfl
      have e : cntN (i + 1) (fun k => m.testBit (aL (tO A) k) && m.testBit (aB (tO A) k) && fitt (tO A) (tV A) (aL (tO A) k) (aB (tO A) k) && !(vK (tV A) c).testBit k) = cntN i (fun k => m.testBit (aL (tO A) k) && m.testBit (aB (tO A) k) && fitt (tO A) (tV A) (aL (tO A) k) (aB (tO A) k) && !(vK (tV A) c).testBit k) := cntN_f hb
      rw [show nI (cntN i (fun k => m.testBit (aL (tO A) k) && m.testBit (aB (tO A) k) && fitt (tO A) (tV A) (aL (tO A) k) (aB (tO A) k) && !(vK (tV A) c).testBit k)) + 0 = nI (cntN i (fun k => m.testBit (aL (tO A) k) && m.testBit (aB (tO A) k) && fitt (tO A) (tV A) (aL (tO A) k) (aB (tO A) k) && !(vK (tV A) c).testBit k)) from nI_add _ 0, nI_1, ← e]
      exact ih (i + 1) (by omega)
    · refine p_aload_n 0 41 rfl rfl dX9_newTo_40 rfl ?_
      refine p_iconst (0) 42 rfl dX9_newTo_41 rfl ?_
      refine p_aload_n 0 43 rfl rfl dX9_newTo_42 rfl ?_
      refine p_getR 9 9 46 rfl dX9_newTo_43 fl_X9_23 rfl rfl (show hR _ M0 9 = mWl from hM.1 9) (by decide) ?_
      refine p_iload 4 48 rfl dX9_newTo_46 rfl ?_
      refine p_ialdE 49 rfl dX9_newTo_48 (i := i) rfl (by show i < 12; omega) (hM.2.2.2.2.1 i hlt).1 ?_
      refine p_aload_n 0 50 rfl rfl dX9_newTo_49 rfl ?_
      refine p_getR 9 10 53 rfl dX9_newTo_50 fl_X9_26 rfl rfl (show hR _ M0 10 = mWr from hM.1 10) (by decide) ?_
      refine p_iload 4 55 rfl dX9_newTo_53 rfl ?_
      refine p_ialdE 56 rfl dX9_newTo_55 (i := i) rfl (by show i < 12; omega) (hM.2.2.2.2.1 i hlt).2 ?_
      refine p_cV3i 59 rfl dX9_newTo_56 (c_doesFit hM hw hv (by decide) hl.1 hl.2) ml_X9_331 vl_X9_doesFit rfl (by decide) rfl (Nat.le_of_ble_eq_true rfl) (Nat.le_of_ble_eq_true rfl) rfl ?_
      refine p_if_eq 83 62 rfl rfl dX9_newTo_59 (fun h59 => ?_) (fun h59 => ?_)
      · refine p_iconst (0) 84 rfl dX9_newTo_83 rfl ?_
        refine p_iadd 85 rfl dX9_newTo_84 ?_
        refine p_ist_n3 86 rfl rfl dX9_newTo_85 (Nat.le_of_ble_eq_true rfl) rfl ?_
        refine p_inc_4 89 rfl dX9_newTo_86 (1) rfl (Nat.le_of_ble_eq_true rfl) rfl ?_
        refine p_goto 5 rfl dX9_newTo_89 ?_
        have g1 : (m.testBit (aL (tO A) i) && m.testBit (aB (tO A) i)) = true := by simpa only [b2i_eq0, b2i_1, Decidable.not_not, Bool.not_eq_true, Bool.not_eq_false] using h37
        have g2 : fitt (tO A) (tV A) (aL (tO A) i) (aB (tO A) i) = false := by simpa only [b2i_eq0, b2i_1, Bool.not_eq_true, Decidable.not_not] using h59
        have hb : (fun k => m.testBit (aL (tO A) k) && m.testBit (aB (tO A) k) && fitt (tO A) (tV A) (aL (tO A) k) (aB (tO A) k) && !(vK (tV A) c).testBit k) i = false := by show ((m.testBit (aL (tO A) i) && m.testBit (aB (tO A) i)) && fitt (tO A) (tV A) (aL (tO A) i) (aB (tO A) i) && !(vK (tV A) c).testBit i) = false; rw [g2, Bool.and_false]; rfl
        have e : cntN (i + 1) (fun k => m.testBit (aL (tO A) k) && m.testBit (aB (tO A) k) && fitt (tO A) (tV A) (aL (tO A) k) (aB (tO A) k) && !(vK (tV A) c).testBit k) = cntN i (fun k => m.testBit (aL (tO A) k) && m.testBit (aB (tO A) k) && fitt (tO A) (tV A) (aL (tO A) k) (aB (tO A) k) && !(vK (tV A) c).testBit k) := cntN_f hb
        rw [show nI (cntN i (fun k => m.testBit (aL (tO A) k) && m.testBit (aB (tO A) k) && fitt (tO A) (tV A) (aL (tO A) k) (aB (tO A) k) && !(vK (tV A) c).testBit k)) + 0 = nI (cntN i (fun k => m.testBit (aL (tO A) k) && m.testBit (aB (tO A) k) && fitt (tO A) (tV A) (aL (tO A) k) (aB (tO A) k) && !(vK (tV A) c).testBit k)) from nI_add _ 0, nI_1, ← e]
        exact ih (i + 1) (by omega)
      · refine p_aload_n 0 63 rfl rfl dX9_newTo_62 rfl ?_
        refine p_getR 9 44 66 rfl dX9_newTo_63 fl_X9_66 rfl rfl (show hR _ M0 44 = mRo from hM.1 44) (by decide) ?_
        refine p_bipush (28) 68 rfl dX9_newTo_66 rfl ?_
        refine p_iload_n 1 69 rfl rfl dX9_newTo_68 rfl ?_
        refine p_iadd 70 rfl dX9_newTo_69 ?_
        rw [ix0 28 c 28 rfl]
        refine p_ialdE 71 rfl dX9_newTo_70 (i := 28 + c) rfl (by show _ < 68; omega) (kn0 hw hc) ?_
        refine p_iload 4 73 rfl dX9_newTo_71 rfl ?_
        refine p_ishr 74 rfl dX9_newTo_73 ?_
        refine p_iconst (1) 75 rfl dX9_newTo_74 rfl ?_
        refine p_iand 76 rfl dX9_newTo_75 ?_
        rw [sb1 (by have := hv.2.2.2 c (by omega); omega) (by omega)]
        refine p_if_ne 83 79 rfl rfl dX9_newTo_76 (fun h76 => ?_) (fun h76 => ?_)
        · refine p_iconst (0) 84 rfl dX9_newTo_83 rfl ?_
          refine p_iadd 85 rfl dX9_newTo_84 ?_
          refine p_ist_n3 86 rfl rfl dX9_newTo_85 (Nat.le_of_ble_eq_true rfl) rfl ?_
          refine p_inc_4 89 rfl dX9_newTo_86 (1) rfl (Nat.le_of_ble_eq_true rfl) rfl ?_
          refine p_goto 5 rfl dX9_newTo_89 ?_
          have g1 : (m.testBit (aL (tO A) i) && m.testBit (aB (tO A) i)) = true := by simpa only [b2i_eq0, b2i_1, Decidable.not_not, Bool.not_eq_true, Bool.not_eq_false] using h37
          have g2 : fitt (tO A) (tV A) (aL (tO A) i) (aB (tO A) i) = true := by simpa only [b2i_eq0, b2i_1, Decidable.not_not, Bool.not_eq_true, Bool.not_eq_false] using h59
          have g3 : (vK (tV A) c).testBit i = true := by simpa only [b2i_eq0, b2i_1, Decidable.not_not, Bool.not_eq_true, Bool.not_eq_false] using h76
          have hb : (fun k => m.testBit (aL (tO A) k) && m.testBit (aB (tO A) k) && fitt (tO A) (tV A) (aL (tO A) k) (aB (tO A) k) && !(vK (tV A) c).testBit k) i = false := by show ((m.testBit (aL (tO A) i) && m.testBit (aB (tO A) i)) && fitt (tO A) (tV A) (aL (tO A) i) (aB (tO A) i) && !(vK (tV A) c).testBit i) = false; rw [g3, Bool.not_true, Bool.and_false]
          have e : cntN (i + 1) (fun k => m.testBit (aL (tO A) k) && m.testBit (aB (tO A) k) && fitt (tO A) (tV A) (aL (tO A) k) (aB (tO A) k) && !(vK (tV A) c).testBit k) = cntN i (fun k => m.testBit (aL (tO A) k) && m.testBit (aB (tO A) k) && fitt (tO A) (tV A) (aL (tO A) k) (aB (tO A) k) && !(vK (tV A) c).testBit k) := cntN_f hb
          rw [show nI (cntN i (fun k => m.testBit (aL (tO A) k) && m.testBit (aB (tO A) k) && fitt (tO A) (tV A) (aL (tO A) k) (aB (tO A) k) && !(vK (tV A) c).testBit k)) + 0 = nI (cntN i (fun k => m.testBit (aL (tO A) k) && m.testBit (aB (tO A) k) && fitt (tO A) (tV A) (aL (tO A) k) (aB (tO A) k) && !(vK (tV A) c).testBit k)) from nI_add _ 0, nI_1, ← e]
          exact ih (i + 1) (by omega)
        · refine p_iconst (1) 80 rfl dX9_newTo_79 rfl ?_
          refine p_goto 84 rfl dX9_newTo_80 ?_
          refine p_iadd 85 rfl dX9_newTo_84 ?_
          refine p_ist_n3 86 rfl rfl dX9_newTo_85 (Nat.le_of_ble_eq_true rfl) rfl ?_
          refine p_inc_4 89 rfl dX9_newTo_86 (1) rfl (Nat.le_of_ble_eq_true rfl) rfl ?_
          refine p_goto 5 rfl dX9_newTo_89 ?_
          have g1 : (m.testBit (aL (tO A) i) && m.testBit (aB (tO A) i)) = true := by simpa only [b2i_eq0, b2i_1, Decidable.not_not, Bool.not_eq_true, Bool.not_eq_false] using h37
          have g2 : fitt (tO A) (tV A) (aL (tO A) i) (aB (tO A) i) = true := by simpa only [b2i_eq0, b2i_1, Decidable.not_not, Bool.not_eq_true, Bool.not_eq_false] using h59
          have g3 : (vK (tV A) c).testBit i = false := by simpa only [b2i_eq0, b2i_1, Bool.not_eq_true, Decidable.not_not] using h76
          have hb : (fun k => m.testBit (aL (tO A) k) && m.testBit (aB (tO A) k) && fitt (tO A) (tV A) (aL (tO A) k) (aB (tO A) k) && !(vK (tV A) c).testBit k) i = true := by show ((m.testBit (aL (tO A) i) && m.testBit (aB (tO A) i)) && fitt (tO A) (tV A) (aL (tO A) i) (aB (tO A) i) && !(vK (tV A) c).testBit i) = true; rw [g1, g2, g3]; rfl
          have e : cntN (i + 1) (fun k => m.testBit (aL (tO A) k) && m.testBit (aB (tO A) k) && fitt (tO A) (tV A) (aL (tO A) k) (aB (tO A) k) && !(vK (tV A) c).testBit k) = cntN i (fun k => m.testBit (aL (tO A) k) && m.testBit (aB (tO A) k) && fitt (tO A) (tV A) (aL (tO A) k) (aB (tO A) k) && !(vK (tV A) c).testBit k) + 1 := cntN_t hb
          rw [nI_1, nI_1, ← e]
          exact ih (i + 1) (by omega)
set_option maxRecDepth 4000 in
theorem c_newTo {τ : PH} (hR0 : RM τ A) {c m : Nat} (hc : c < aC (tO A)) (hm : m < 512) : CallOk Γ 4 0 0 mX9_newTo [.ref M0, .int (nI c), .int (nI m)] τ (rI τ (nI (nws A c m))) := by
  refine p_enter rfl rfl (Nat.le_of_ble_eq_true rfl) rfl ?_
  refine p_iconst (0) 1 rfl dX9_newTo_0 rfl ?_
  refine p_ist_n3 2 rfl rfl dX9_newTo_1 (Nat.le_of_ble_eq_true rfl) rfl ?_
  refine p_iconst (0) 3 rfl dX9_newTo_2 rfl ?_
  refine p_ist_4 5 rfl dX9_newTo_3 (Nat.le_of_ble_eq_true rfl) rfl ?_
  exact l_newTo hR0 hc hm (aW (tO A)) 0 (by omega)
set_option maxRecDepth 4000 in
theorem c_gains {τ : PH} (hR0 : RM τ A) {c q s t : Nat} (hc : c < aC (tO A)) (hq : q < aC (tO A)) (hs : s < 2) (ht : t < 2) : CallOk Γ 5 0 0 mX9_gains [.ref M0, .int (nI c), .int (nI q), .int (nI s), .int (nI t)] τ (rI τ (gn A c q s t)) := by
  have hK := hR0.2.1
  have hO := hK.2.2.1
  have hc6 := hO.2.1
  have hw12 := hO.2.2.1
  have hs9 := hO.1
  have hv := hK.2.2.2.2.1.1
  have hd9 := hK.2.2.2.2.1.2
  have hM := hR0.1
  have hw := hR0.2.2.1
  have hsc : (setN (aS (tO A)) (fun s => vP (tV A) s == c + 5)) < 512 := Nat.lt_of_lt_of_le (setN_lt _ _) (Nat.pow_le_pow_right (by decide) hs9)
  have hsq : (setN (aS (tO A)) (fun s => vP (tV A) s == q + 5)) < 512 := Nat.lt_of_lt_of_le (setN_lt _ _) (Nat.pow_le_pow_right (by decide) hs9)
  refine p_enter rfl rfl (Nat.le_of_ble_eq_true rfl) rfl ?_
  refine p_aload_n 0 1 rfl rfl dX9_gains_0 rfl ?_
  refine p_iload_n 1 2 rfl rfl dX9_gains_1 rfl ?_
  refine p_cV1i 5 rfl dX9_gains_2 (c_bears hM hw hv (c := c) (by omega)) ml_X9_444 vl_X9_bears rfl (by decide) rfl (Nat.le_of_ble_eq_true rfl) (Nat.le_of_ble_eq_true rfl) rfl ?_
  refine p_iload 4 7 rfl dX9_gains_5 rfl ?_
  refine p_iconst (1) 8 rfl dX9_gains_7 rfl ?_
  refine p_icmp_ne 19 11 rfl rfl dX9_gains_8 (fun h8 => ?_) (fun h8 => ?_)
  · refine p_iconst (0) 20 rfl dX9_gains_19 rfl ?_
    refine p_ior 21 rfl dX9_gains_20 ?_
    have et : ¬ t = 1 := fun e => h8 (by rw [e]; rfl)
    rw [or0]
    have hmA : (setN (aS (tO A)) (fun s => vP (tV A) s == c + 5)) < 512 := hsc
    refine p_ist_5 23 rfl dX9_gains_21 (Nat.le_of_ble_eq_true rfl) rfl ?_
    refine p_aload_n 0 24 rfl rfl dX9_gains_23 rfl ?_
    refine p_iload_n 2 25 rfl rfl dX9_gains_24 rfl ?_
    refine p_cV1i 28 rfl dX9_gains_25 (c_bears hM hw hv (c := q) (by omega)) ml_X9_444 vl_X9_bears rfl (by decide) rfl (Nat.le_of_ble_eq_true rfl) (Nat.le_of_ble_eq_true rfl) rfl ?_
    refine p_iload_n 3 29 rfl rfl dX9_gains_28 rfl ?_
    refine p_iconst (1) 30 rfl dX9_gains_29 rfl ?_
    refine p_icmp_ne 41 33 rfl rfl dX9_gains_30 (fun h30 => ?_) (fun h30 => ?_)
    · refine p_iconst (0) 42 rfl dX9_gains_41 rfl ?_
      refine p_ior 43 rfl dX9_gains_42 ?_
      have es : ¬ s = 1 := fun e => h30 (by rw [e]; rfl)
      rw [or0]
      have hmB : (setN (aS (tO A)) (fun s => vP (tV A) s == q + 5)) < 512 := hsq
      refine p_ist_6 45 rfl dX9_gains_43 (Nat.le_of_ble_eq_true rfl) rfl ?_
      refine p_iconst (3) 46 rfl dX9_gains_45 rfl ?_
      refine p_aload_n 0 47 rfl rfl dX9_gains_46 rfl ?_
      refine p_iload_n 1 48 rfl rfl dX9_gains_47 rfl ?_
      refine p_iload 5 50 rfl dX9_gains_48 rfl ?_
      refine p_cV2i 53 rfl dX9_gains_50 (c_newTo hR0 hc hmA) ml_X9_447 vl_X9_newTo rfl (by decide) rfl (Nat.le_of_ble_eq_true rfl) (Nat.le_of_ble_eq_true rfl) rfl ?_
      refine p_imul 54 rfl dX9_gains_53 ?_
      refine p_iconst (2) 55 rfl dX9_gains_54 rfl ?_
      refine p_aload_n 0 56 rfl rfl dX9_gains_55 rfl ?_
      refine p_iload_n 2 57 rfl rfl dX9_gains_56 rfl ?_
      refine p_iload 6 59 rfl dX9_gains_57 rfl ?_
      refine p_cV2i 62 rfl dX9_gains_59 (c_newTo hR0 hq hmB) ml_X9_447 vl_X9_newTo rfl (by decide) rfl (Nat.le_of_ble_eq_true rfl) (Nat.le_of_ble_eq_true rfl) rfl ?_
      refine p_imul 63 rfl dX9_gains_62 ?_
      refine p_isub 64 rfl dX9_gains_63 ?_
      exact p_iret dX9_gains_64 rfl ⟨by unfold gn; rw [if_neg et, if_neg es]; rfl, rfl⟩
    · refine p_aload_n 0 34 rfl rfl dX9_gains_33 rfl ?_
      refine p_iload_n 1 35 rfl rfl dX9_gains_34 rfl ?_
      refine p_cV1i 38 rfl dX9_gains_35 (c_bears hM hw hv (c := c) (by omega)) ml_X9_444 vl_X9_bears rfl (by decide) rfl (Nat.le_of_ble_eq_true rfl) (Nat.le_of_ble_eq_true rfl) rfl ?_
      refine p_goto 42 rfl dX9_gains_38 ?_
      refine p_ior 43 rfl dX9_gains_42 ?_
      have es : s = 1 := nI_eqI (show nI s = nI 1 from h30) (by omega) (by decide)
      rw [nx_or]
      have hmB : (setN (aS (tO A)) (fun s => vP (tV A) s == q + 5)) ||| (setN (aS (tO A)) (fun s => vP (tV A) s == c + 5)) < 512 := Nat.or_lt_two_pow (n := 9) hsq hsc
      refine p_ist_6 45 rfl dX9_gains_43 (Nat.le_of_ble_eq_true rfl) rfl ?_
      refine p_iconst (3) 46 rfl dX9_gains_45 rfl ?_
      refine p_aload_n 0 47 rfl rfl dX9_gains_46 rfl ?_
      refine p_iload_n 1 48 rfl rfl dX9_gains_47 rfl ?_
      refine p_iload 5 50 rfl dX9_gains_48 rfl ?_
      refine p_cV2i 53 rfl dX9_gains_50 (c_newTo hR0 hc hmA) ml_X9_447 vl_X9_newTo rfl (by decide) rfl (Nat.le_of_ble_eq_true rfl) (Nat.le_of_ble_eq_true rfl) rfl ?_
      refine p_imul 54 rfl dX9_gains_53 ?_
      refine p_iconst (2) 55 rfl dX9_gains_54 rfl ?_
      refine p_aload_n 0 56 rfl rfl dX9_gains_55 rfl ?_
      refine p_iload_n 2 57 rfl rfl dX9_gains_56 rfl ?_
      refine p_iload 6 59 rfl dX9_gains_57 rfl ?_
      refine p_cV2i 62 rfl dX9_gains_59 (c_newTo hR0 hq hmB) ml_X9_447 vl_X9_newTo rfl (by decide) rfl (Nat.le_of_ble_eq_true rfl) (Nat.le_of_ble_eq_true rfl) rfl ?_
      refine p_imul 63 rfl dX9_gains_62 ?_
      refine p_isub 64 rfl dX9_gains_63 ?_
      exact p_iret dX9_gains_64 rfl ⟨by unfold gn; rw [if_neg et, if_pos es]; rw [Nat.or_comm (setN (aS (tO A)) (fun s => vP (tV A) s == q + 5)) (setN (aS (tO A)) (fun s => vP (tV A) s == c + 5))]; rfl, rfl⟩
  · refine p_aload_n 0 12 rfl rfl dX9_gains_11 rfl ?_
    refine p_iload_n 2 13 rfl rfl dX9_gains_12 rfl ?_
    refine p_cV1i 16 rfl dX9_gains_13 (c_bears hM hw hv (c := q) (by omega)) ml_X9_444 vl_X9_bears rfl (by decide) rfl (Nat.le_of_ble_eq_true rfl) (Nat.le_of_ble_eq_true rfl) rfl ?_
    refine p_goto 20 rfl dX9_gains_16 ?_
    refine p_ior 21 rfl dX9_gains_20 ?_
    have et : t = 1 := nI_eqI (show nI t = nI 1 from h8) (by omega) (by decide)
    rw [nx_or]
    have hmA : (setN (aS (tO A)) (fun s => vP (tV A) s == c + 5)) ||| (setN (aS (tO A)) (fun s => vP (tV A) s == q + 5)) < 512 := Nat.or_lt_two_pow (n := 9) hsc hsq
    refine p_ist_5 23 rfl dX9_gains_21 (Nat.le_of_ble_eq_true rfl) rfl ?_
    refine p_aload_n 0 24 rfl rfl dX9_gains_23 rfl ?_
    refine p_iload_n 2 25 rfl rfl dX9_gains_24 rfl ?_
    refine p_cV1i 28 rfl dX9_gains_25 (c_bears hM hw hv (c := q) (by omega)) ml_X9_444 vl_X9_bears rfl (by decide) rfl (Nat.le_of_ble_eq_true rfl) (Nat.le_of_ble_eq_true rfl) rfl ?_
    refine p_iload_n 3 29 rfl rfl dX9_gains_28 rfl ?_
    refine p_iconst (1) 30 rfl dX9_gains_29 rfl ?_
    refine p_icmp_ne 41 33 rfl rfl dX9_gains_30 (fun h30 => ?_) (fun h30 => ?_)
    · refine p_iconst (0) 42 rfl dX9_gains_41 rfl ?_
      refine p_ior 43 rfl dX9_gains_42 ?_
      have es : ¬ s = 1 := fun e => h30 (by rw [e]; rfl)
      rw [or0]
      have hmB : (setN (aS (tO A)) (fun s => vP (tV A) s == q + 5)) < 512 := hsq
      refine p_ist_6 45 rfl dX9_gains_43 (Nat.le_of_ble_eq_true rfl) rfl ?_
      refine p_iconst (3) 46 rfl dX9_gains_45 rfl ?_
      refine p_aload_n 0 47 rfl rfl dX9_gains_46 rfl ?_
      refine p_iload_n 1 48 rfl rfl dX9_gains_47 rfl ?_
      refine p_iload 5 50 rfl dX9_gains_48 rfl ?_
      refine p_cV2i 53 rfl dX9_gains_50 (c_newTo hR0 hc hmA) ml_X9_447 vl_X9_newTo rfl (by decide) rfl (Nat.le_of_ble_eq_true rfl) (Nat.le_of_ble_eq_true rfl) rfl ?_
      refine p_imul 54 rfl dX9_gains_53 ?_
      refine p_iconst (2) 55 rfl dX9_gains_54 rfl ?_
      refine p_aload_n 0 56 rfl rfl dX9_gains_55 rfl ?_
      refine p_iload_n 2 57 rfl rfl dX9_gains_56 rfl ?_
      refine p_iload 6 59 rfl dX9_gains_57 rfl ?_
      refine p_cV2i 62 rfl dX9_gains_59 (c_newTo hR0 hq hmB) ml_X9_447 vl_X9_newTo rfl (by decide) rfl (Nat.le_of_ble_eq_true rfl) (Nat.le_of_ble_eq_true rfl) rfl ?_
      refine p_imul 63 rfl dX9_gains_62 ?_
      refine p_isub 64 rfl dX9_gains_63 ?_
      exact p_iret dX9_gains_64 rfl ⟨by unfold gn; rw [if_pos et, if_neg es]; rfl, rfl⟩
    · refine p_aload_n 0 34 rfl rfl dX9_gains_33 rfl ?_
      refine p_iload_n 1 35 rfl rfl dX9_gains_34 rfl ?_
      refine p_cV1i 38 rfl dX9_gains_35 (c_bears hM hw hv (c := c) (by omega)) ml_X9_444 vl_X9_bears rfl (by decide) rfl (Nat.le_of_ble_eq_true rfl) (Nat.le_of_ble_eq_true rfl) rfl ?_
      refine p_goto 42 rfl dX9_gains_38 ?_
      refine p_ior 43 rfl dX9_gains_42 ?_
      have es : s = 1 := nI_eqI (show nI s = nI 1 from h30) (by omega) (by decide)
      rw [nx_or]
      have hmB : (setN (aS (tO A)) (fun s => vP (tV A) s == q + 5)) ||| (setN (aS (tO A)) (fun s => vP (tV A) s == c + 5)) < 512 := Nat.or_lt_two_pow (n := 9) hsq hsc
      refine p_ist_6 45 rfl dX9_gains_43 (Nat.le_of_ble_eq_true rfl) rfl ?_
      refine p_iconst (3) 46 rfl dX9_gains_45 rfl ?_
      refine p_aload_n 0 47 rfl rfl dX9_gains_46 rfl ?_
      refine p_iload_n 1 48 rfl rfl dX9_gains_47 rfl ?_
      refine p_iload 5 50 rfl dX9_gains_48 rfl ?_
      refine p_cV2i 53 rfl dX9_gains_50 (c_newTo hR0 hc hmA) ml_X9_447 vl_X9_newTo rfl (by decide) rfl (Nat.le_of_ble_eq_true rfl) (Nat.le_of_ble_eq_true rfl) rfl ?_
      refine p_imul 54 rfl dX9_gains_53 ?_
      refine p_iconst (2) 55 rfl dX9_gains_54 rfl ?_
      refine p_aload_n 0 56 rfl rfl dX9_gains_55 rfl ?_
      refine p_iload_n 2 57 rfl rfl dX9_gains_56 rfl ?_
      refine p_iload 6 59 rfl dX9_gains_57 rfl ?_
      refine p_cV2i 62 rfl dX9_gains_59 (c_newTo hR0 hq hmB) ml_X9_447 vl_X9_newTo rfl (by decide) rfl (Nat.le_of_ble_eq_true rfl) (Nat.le_of_ble_eq_true rfl) rfl ?_
      refine p_imul 63 rfl dX9_gains_62 ?_
      refine p_isub 64 rfl dX9_gains_63 ?_
      exact p_iret dX9_gains_64 rfl ⟨by unfold gn; rw [if_pos et, if_pos es]; rw [Nat.or_comm (setN (aS (tO A)) (fun s => vP (tV A) s == q + 5)) (setN (aS (tO A)) (fun s => vP (tV A) s == c + 5))]; rfl, rfl⟩
set_option maxRecDepth 4000 in
theorem l_mGame {τ : PH} (hR0 : RM τ A) (h0 : hI τ M0 0 = 0) (hc1 : ChM σ τ) {c q w : Nat} (hc : c < aC (tO A)) (hq : q < aC (tO A)) (hw2 : w < 2) : ∀ (n i : Nat) (x7 x8 : Option Value), i + n = 4 → Ok Γ 11 0 0 mX9_game 59 [some (.ref M0), some (.int (nI c)), some (.int (nI q)), some (.int (nI w)), some (.int (nI (prL (cpl A c q) i).length)), some (.int (fstG (prL (cpl A c q) i))), some (.int (nI i)), x7, x8] [] τ (rM (0, if w = 0 then nI (prL (cpl A c q) 4).length else fstG (prL (cpl A c q) 4)) (fun σ' => RM σ' A ∧ ChM σ σ')) := by
  have hK := hR0.2.1
  have hO := hK.2.2.1
  have hc6 := hO.2.1
  have hw12 := hO.2.2.1
  have hs9 := hO.1
  have hv := hK.2.2.2.2.1.1
  have hd9 := hK.2.2.2.2.1.2
  have hM := hR0.1
  have hw := hR0.2.2.1
  intro n
  induction n with
  | zero =>
    intro i x7 x8 hi
    refine p_iload 6 61 rfl dX9_game_59 rfl ?_
    refine p_iconst (4) 62 rfl dX9_game_61 rfl ?_
    refine p_icmp_ge 155 65 rfl rfl dX9_game_62 (fun h62 => ?_) (fun h62 => absurd (nI_le (a := 4) (b := i) (by omega) (by omega)) h62)
    refine p_iload_n 3 156 rfl rfl dX9_game_155 rfl ?_
    refine p_if_ne 164 159 rfl rfl dX9_game_156 (fun h156 => ?_) (fun h156 => ?_)
    · refine p_iload 5 166 rfl dX9_game_164 rfl ?_
      exact p_iret dX9_game_166 rfl ⟨_, rfl, h0, fun _ => by rw [if_neg (fun e : w = 0 => h156 (by rw [e]; rfl)), show i = 4 by omega], hR0, hc1⟩
    · refine p_iload 4 161 rfl dX9_game_159 rfl ?_
      refine p_goto 166 rfl dX9_game_161 ?_
      exact p_iret dX9_game_166 rfl ⟨_, rfl, h0, fun _ => by rw [if_pos (nI_eqI (show nI w = nI 0 from h156) (by omega) (by decide)), show i = 4 by omega], hR0, hc1⟩
  | succ n ih =>
    intro i x7 x8 hi
    refine p_iload 6 61 rfl dX9_game_59 rfl ?_
    refine p_iconst (4) 62 rfl dX9_game_61 rfl ?_
    refine p_icmp_ge 155 65 rfl rfl dX9_game_62 (fun h62 => absurd h62 (nI_ge (a := i) (b := 4) (by omega) (by omega))) (fun h62 => ?_)
    refine p_iload 6 67 rfl dX9_game_65 rfl ?_
    refine p_iconst (2) 68 rfl dX9_game_67 rfl ?_
    refine p_idiv 69 rfl dX9_game_68 (by decide) ?_
    rw [show nI i / 2 = nI (i / 2) from pk_div (d := 2) (by omega) (by decide) (by decide)]
    refine p_ist_7 71 rfl dX9_game_69 (Nat.le_of_ble_eq_true rfl) rfl ?_
    refine p_iload 6 73 rfl dX9_game_71 rfl ?_
    refine p_iconst (2) 74 rfl dX9_game_73 rfl ?_
    refine p_irem 75 rfl dX9_game_74 (by decide) ?_
    rw [show nI i - nI i / 2 * 2 = nI (i % 2) from pk_rem (d := 2) (by omega) (by decide) (by decide)]
    refine p_ist_8 77 rfl dX9_game_75 (Nat.le_of_ble_eq_true rfl) rfl ?_
    refine p_aload_n 0 78 rfl rfl dX9_game_77 rfl ?_
    refine p_iload_n 1 79 rfl rfl dX9_game_78 rfl ?_
    refine p_iload_n 2 80 rfl rfl dX9_game_79 rfl ?_
    refine p_iconst (1) 81 rfl dX9_game_80 rfl ?_
    refine p_iload 7 83 rfl dX9_game_81 rfl ?_
    refine p_isub 84 rfl dX9_game_83 ?_
    rw [show (1 : Int32) - nI (i / 2) = nI (1 - i / 2) from nI_sb (a := 1) (by omega)]
    refine p_iload 8 86 rfl dX9_game_84 rfl ?_
    refine p_cV4i 89 rfl dX9_game_86 (c_gains hR0 hc hq (s := 1 - i / 2) (t := i % 2) (by omega) (by omega)) ml_X9_450 vl_X9_gains rfl (by decide) rfl (Nat.le_of_ble_eq_true rfl) (Nat.le_of_ble_eq_true rfl) rfl ?_
    refine p_aload_n 0 90 rfl rfl dX9_game_89 rfl ?_
    refine p_iload_n 1 91 rfl rfl dX9_game_90 rfl ?_
    refine p_iload_n 2 92 rfl rfl dX9_game_91 rfl ?_
    refine p_iload 7 94 rfl dX9_game_92 rfl ?_
    refine p_iload 8 96 rfl dX9_game_94 rfl ?_
    refine p_cV4i 99 rfl dX9_game_96 (c_gains hR0 hc hq (s := i / 2) (t := i % 2) (by omega) (by omega)) ml_X9_450 vl_X9_gains rfl (by decide) rfl (Nat.le_of_ble_eq_true rfl) (Nat.le_of_ble_eq_true rfl) rfl ?_
    refine p_icmp_gt 149 102 rfl rfl dX9_game_99 (fun h99 => ?_) (fun h99 => ?_)
    · refine p_inc_6 152 rfl dX9_game_149 (1) rfl (Nat.le_of_ble_eq_true rfl) rfl ?_
      refine p_goto 59 rfl dX9_game_152 ?_
      have hb : ¬ cpl A c q i = true := fun z => by
        unfold cpl at z; rw [Bool.and_eq_true] at z
        exact absurd h99 (Int32.not_lt.mpr (of_decide_eq_true z.1))
      have e : prL (cpl A c q) (i + 1) = prL (cpl A c q) i := by simp [prL, hb]
      rw [nI_1, ← e]
      exact ih (i + 1) _ _ (by omega)
    · refine p_aload_n 0 103 rfl rfl dX9_game_102 rfl ?_
      refine p_iload_n 2 104 rfl rfl dX9_game_103 rfl ?_
      refine p_iload_n 1 105 rfl rfl dX9_game_104 rfl ?_
      refine p_iconst (1) 106 rfl dX9_game_105 rfl ?_
      refine p_iload 8 108 rfl dX9_game_106 rfl ?_
      refine p_isub 109 rfl dX9_game_108 ?_
      rw [show (1 : Int32) - nI (i % 2) = nI (1 - i % 2) from nI_sb (a := 1) (by omega)]
      refine p_iload 7 111 rfl dX9_game_109 rfl ?_
      refine p_cV4i 114 rfl dX9_game_111 (c_gains hR0 hq hc (s := 1 - i % 2) (t := i / 2) (by omega) (by omega)) ml_X9_450 vl_X9_gains rfl (by decide) rfl (Nat.le_of_ble_eq_true rfl) (Nat.le_of_ble_eq_true rfl) rfl ?_
      refine p_aload_n 0 115 rfl rfl dX9_game_114 rfl ?_
      refine p_iload_n 2 116 rfl rfl dX9_game_115 rfl ?_
      refine p_iload_n 1 117 rfl rfl dX9_game_116 rfl ?_
      refine p_iload 8 119 rfl dX9_game_117 rfl ?_
      refine p_iload 7 121 rfl dX9_game_119 rfl ?_
      refine p_cV4i 124 rfl dX9_game_121 (c_gains hR0 hq hc (s := i % 2) (t := i / 2) (by omega) (by omega)) ml_X9_450 vl_X9_gains rfl (by decide) rfl (Nat.le_of_ble_eq_true rfl) (Nat.le_of_ble_eq_true rfl) rfl ?_
      refine p_icmp_le 130 127 rfl rfl dX9_game_124 (fun h124 => ?_) (fun h124 => ?_)
      · refine p_inc_4 133 rfl dX9_game_130 (1) rfl (Nat.le_of_ble_eq_true rfl) rfl ?_
        refine p_iload 5 135 rfl dX9_game_133 rfl ?_
        refine p_iconst (-1) 136 rfl dX9_game_135 rfl ?_
        refine p_icmp_ne 149 139 rfl rfl dX9_game_136 (fun h136 => ?_) (fun h136 => ?_)
        · refine p_inc_6 152 rfl dX9_game_149 (1) rfl (Nat.le_of_ble_eq_true rfl) rfl ?_
          refine p_goto 59 rfl dX9_game_152 ?_
          have hb : cpl A c q i = true := by
            unfold cpl; rw [Bool.and_eq_true]; exact ⟨decide_eq_true (Int32.not_lt.mp h99), decide_eq_true h124⟩
          have e : prL (cpl A c q) (i + 1) = prL (cpl A c q) i ++ [i] := by simp [prL, hb]
          have this := ih (i + 1) (some (.int (nI (i / 2)))) (some (.int (nI (i % 2)))) (by omega)
          rw [e] at this
          rw [show (prL (cpl A c q) i ++ [i]).length = (prL (cpl A c q) i).length + 1 by simp] at this
          have hne : prL (cpl A c q) i ≠ [] := fun z => h136 (by rw [z]; rfl)
          have e2 : fstG (prL (cpl A c q) i ++ [i]) = fstG (prL (cpl A c q) i) := by
            cases hl : prL (cpl A c q) i with
            | nil => exact absurd hl hne
            | cons a l => rfl
          rw [e2] at this
          rw [nI_1, nI_1]
          exact this
        · refine p_bipush (10) 141 rfl dX9_game_139 rfl ?_
          refine p_iload 7 143 rfl dX9_game_141 rfl ?_
          refine p_imul 144 rfl dX9_game_143 ?_
          refine p_iload 8 146 rfl dX9_game_144 rfl ?_
          refine p_iadd 147 rfl dX9_game_146 ?_
          rw [show (10 : Int32) * nI (i / 2) = nI (10 * (i / 2)) from nI_mu 10 _, nI_add]
          refine p_ist_5 149 rfl dX9_game_147 (Nat.le_of_ble_eq_true rfl) rfl ?_
          refine p_inc_6 152 rfl dX9_game_149 (1) rfl (Nat.le_of_ble_eq_true rfl) rfl ?_
          refine p_goto 59 rfl dX9_game_152 ?_
          have hb : cpl A c q i = true := by
            unfold cpl; rw [Bool.and_eq_true]; exact ⟨decide_eq_true (Int32.not_lt.mp h99), decide_eq_true h124⟩
          have e : prL (cpl A c q) (i + 1) = prL (cpl A c q) i ++ [i] := by simp [prL, hb]
          have this := ih (i + 1) (some (.int (nI (i / 2)))) (some (.int (nI (i % 2)))) (by omega)
          rw [e] at this
          rw [show (prL (cpl A c q) i ++ [i]).length = (prL (cpl A c q) i).length + 1 by simp] at this
          have hne : prL (cpl A c q) i = [] := by
            cases hl : prL (cpl A c q) i with
            | nil => rfl
            | cons a l =>
              have h1 := prL_mem (cpl A c q) i a (by rw [hl]; simp)
              rw [hl] at h136
              exact absurd h136 (nI_m1 (by omega))
          have e2 : fstG (prL (cpl A c q) i ++ [i]) = nI (10 * (i / 2) + i % 2) := by rw [hne]; show nI (i / 2 * 10 + i % 2) = _; rw [Nat.mul_comm]
          rw [e2] at this
          rw [nI_1, nI_1]
          exact this
      · refine p_goto 149 rfl dX9_game_127 ?_
        refine p_inc_6 152 rfl dX9_game_149 (1) rfl (Nat.le_of_ble_eq_true rfl) rfl ?_
        refine p_goto 59 rfl dX9_game_152 ?_
        have hb : ¬ cpl A c q i = true := fun z => by
          unfold cpl at z; rw [Bool.and_eq_true] at z
          exact absurd (of_decide_eq_true z.2) h124
        have e : prL (cpl A c q) (i + 1) = prL (cpl A c q) i := by simp [prL, hb]
        rw [nI_1, ← e]
        exact ih (i + 1) _ _ (by omega)
set_option maxRecDepth 8000 in
theorem q_game (hRM : RM σ A) (x y z : Int32) : CallOk Γ 12 0 0 mX9_game [.ref M0, .int x, .int y, .int z] σ (rM (fGame A x y z) (fun σ' => RM σ' A ∧ ChM σ σ')) := by
  have hK := hRM.2.1
  have hO := hK.2.2.1
  have hs9 := hO.1
  have hc6 := hO.2.1
  have hw12 := hO.2.2.1
  have hk8 := hO.2.2.2.1
  have hv := hK.2.2.2.2.1.1
  have hd9 := hK.2.2.2.2.1.2
  refine p_enter rfl rfl (Nat.le_of_ble_eq_true rfl) rfl ?_
  refine p_aload_n 0 1 rfl rfl dX9_game_0 rfl ?_
  refine p_iconst (0) 2 rfl dX9_game_1 rfl ?_
  refine p_putI 9 0 5 rfl dX9_game_2 fl_X9_102 rfl rfl (Or.inl rfl) ?_
  have hQ : FQ σ (sI σ M0 0 0) := FQ.th
  have hR0 := hRM.q hQ
  have h0 : hI (sI σ M0 0 0) M0 0 = 0 := hI_sI _ _ _ _
  generalize sI σ M0 0 0 = τ at hQ hR0 h0 ⊢
  have hM := hR0.1
  have hw := hR0.2.2.1
  refine p_aload_n 0 6 rfl rfl dX9_game_5 rfl ?_
  refine p_iload_n 1 7 rfl rfl dX9_game_6 rfl ?_
  refine p_cV1x 0 0 10 rfl dX9_game_7 (c_isClerk hM h0 _) ml_X9_387 vl_X9_isClerk rfl (by decide) rfl (Nat.le_of_ble_eq_true rfl) (Nat.le_of_ble_eq_true rfl) (Nat.le_of_ble_eq_true rfl) (Nat.le_of_ble_eq_true rfl) rfl ?_
  intro v0 τ0 hp0
  obtain ⟨hv0, ht0, hf0⟩ := hp0
  subst hv0
  refine p_if_eq 48 13 rfl rfl dX9_game_10 (fun h10 => ?_) (fun h10 => ?_)
  · have hb0 : inR x (aC (tO A)) = false := by simpa only [b2i_eq0, Bool.not_eq_true, Decidable.not_not] using h10
    have ee0 := hf0 hb0
    subst ee0
    refine p_iconst (0) 49 rfl dX9_game_48 rfl ?_
    exact p_iret dX9_game_49 rfl ⟨_, rfl, by rw [fGame, gd_f hb0]; exact hI_sI _ _ _ _, fun q => absurd q (by rw [fGame, gd_f hb0]; decide), (hRM.q hQ).q FQ.th, (hQ.tr FQ.th).ch⟩
  · have hb0 : inR x (aC (tO A)) = true := by simpa only [b2i_eq0, Decidable.not_not, Bool.not_eq_true, Bool.not_eq_false] using h10
    have ee0 := ht0 hb0
    subst ee0
    obtain ⟨c, rfl, hc⟩ := asN hb0 (by omega)
    have hcL : c < 2147483648 := by omega
    refine p_aload_n 0 14 rfl rfl dX9_game_13 rfl ?_
    refine p_iload_n 2 15 rfl rfl dX9_game_14 rfl ?_
    refine p_cV1x 0 0 18 rfl dX9_game_15 (c_isClerk hM h0 _) ml_X9_387 vl_X9_isClerk rfl (by decide) rfl (Nat.le_of_ble_eq_true rfl) (Nat.le_of_ble_eq_true rfl) (Nat.le_of_ble_eq_true rfl) (Nat.le_of_ble_eq_true rfl) rfl ?_
    intro v1 τ1 hp1
    obtain ⟨hv1, ht1, hf1⟩ := hp1
    subst hv1
    refine p_if_eq 48 21 rfl rfl dX9_game_18 (fun h18 => ?_) (fun h18 => ?_)
    · have hb1 : inR y (aC (tO A)) = false := by simpa only [b2i_eq0, Bool.not_eq_true, Decidable.not_not] using h18
      have ee1 := hf1 hb1
      subst ee1
      refine p_iconst (0) 49 rfl dX9_game_48 rfl ?_
      exact p_iret dX9_game_49 rfl ⟨_, rfl, by rw [fGame, gd_t hb0, gd_f hb1]; exact hI_sI _ _ _ _, fun q => absurd q (by rw [fGame, gd_t hb0, gd_f hb1]; decide), (hRM.q hQ).q FQ.th, (hQ.tr FQ.th).ch⟩
    · have hb1 : inR y (aC (tO A)) = true := by simpa only [b2i_eq0, Decidable.not_not, Bool.not_eq_true, Bool.not_eq_false] using h18
      have ee1 := ht1 hb1
      subst ee1
      obtain ⟨q, rfl, hq⟩ := asN hb1 (by omega)
      have hqL : q < 2147483648 := by omega
      refine p_aload_n 0 22 rfl rfl dX9_game_21 rfl ?_
      refine p_iload_n 3 23 rfl rfl dX9_game_22 rfl ?_
      refine p_iconst (1) 24 rfl dX9_game_23 rfl ?_
      refine p_cV2x 0 0 27 rfl dX9_game_24 (c_isWhat (n := 1) h0 _ (by decide)) ml_X9_381 vl_X9_isWhat rfl (by decide) rfl (Nat.le_of_ble_eq_true rfl) (Nat.le_of_ble_eq_true rfl) (Nat.le_of_ble_eq_true rfl) (Nat.le_of_ble_eq_true rfl) rfl ?_
      intro v2 τ2 hp2
      obtain ⟨hv2, ht2, hf2⟩ := hp2
      subst hv2
      refine p_if_eq 48 30 rfl rfl dX9_game_27 (fun h27 => ?_) (fun h27 => ?_)
      · have hb2 : inR z 2 = false := by simpa only [b2i_eq0, Bool.not_eq_true, Decidable.not_not] using h27
        have ee2 := hf2 hb2
        subst ee2
        refine p_iconst (0) 49 rfl dX9_game_48 rfl ?_
        exact p_iret dX9_game_49 rfl ⟨_, rfl, by rw [fGame, gd_t hb0, gd_t hb1, gd_f hb2]; exact hI_sI _ _ _ _, fun q => absurd q (by rw [fGame, gd_t hb0, gd_t hb1, gd_f hb2]; decide), (hRM.q hQ).q FQ.th, (hQ.tr FQ.th).ch⟩
      · have hb2 : inR z 2 = true := by simpa only [b2i_eq0, Decidable.not_not, Bool.not_eq_true, Bool.not_eq_false] using h27
        have ee2 := ht2 hb2
        subst ee2
        obtain ⟨w, rfl, hw_⟩ := asN hb2 (by omega)
        have hwL : w < 2147483648 := by omega
        refine p_aload_n 0 31 rfl rfl dX9_game_30 rfl ?_
        refine p_iload_n 1 32 rfl rfl dX9_game_31 rfl ?_
        refine p_iload_n 2 33 rfl rfl dX9_game_32 rfl ?_
        refine p_icmp_eq 40 36 rfl rfl dX9_game_33 (fun h33 => ?_) (fun h33 => ?_)
        · refine p_iconst (0) 41 rfl dX9_game_40 rfl ?_
          refine p_iconst (2) 42 rfl dX9_game_41 rfl ?_
          refine p_cV2x 0 0 45 rfl dX9_game_42 (c_right h0 false (by decide)) ml_X9_273 vl_X9_right rfl (by decide) rfl (Nat.le_of_ble_eq_true rfl) (Nat.le_of_ble_eq_true rfl) (Nat.le_of_ble_eq_true rfl) (Nat.le_of_ble_eq_true rfl) rfl ?_
          intro v3 τ3 hp3
          obtain ⟨hv3, ht3, hf3⟩ := hp3
          subst hv3
          refine p_if_ne 50 48 rfl rfl dX9_game_45 (fun h45 => absurd rfl h45) (fun h45 => ?_)
          have ee3 := hf3 rfl
          subst ee3
          have hne : decide (iN (nI c) ≠ iN (nI q)) = false := by rw [iN_nI hcL, iN_nI hqL]; exact decide_eq_false (fun z => z (nI_eqI h33 (by omega) (by omega)))
          refine p_iconst (0) 49 rfl dX9_game_48 rfl ?_
          exact p_iret dX9_game_49 rfl ⟨_, rfl, by rw [fGame, gd_t hb0, gd_t hb1, gd_t hb2, gd_f hne]; exact hI_sI _ _ _ _, fun q => absurd q (by rw [fGame, gd_t hb0, gd_t hb1, gd_t hb2, gd_f hne]; decide), (hRM.q hQ).q FQ.th, (hQ.tr FQ.th).ch⟩
        · refine p_iconst (1) 37 rfl dX9_game_36 rfl ?_
          refine p_goto 41 rfl dX9_game_37 ?_
          refine p_iconst (2) 42 rfl dX9_game_41 rfl ?_
          refine p_cV2x 0 0 45 rfl dX9_game_42 (c_right h0 true (by decide)) ml_X9_273 vl_X9_right rfl (by decide) rfl (Nat.le_of_ble_eq_true rfl) (Nat.le_of_ble_eq_true rfl) (Nat.le_of_ble_eq_true rfl) (Nat.le_of_ble_eq_true rfl) rfl ?_
          intro v3 τ3 hp3
          obtain ⟨hv3, ht3, hf3⟩ := hp3
          subst hv3
          refine p_if_ne 50 48 rfl rfl dX9_game_45 (fun h45 => ?_) (fun h45 => absurd h45 (by decide))
          have ee3 := ht3 rfl
          subst ee3
          have hne : decide (iN (nI c) ≠ iN (nI q)) = true := by rw [iN_nI hcL, iN_nI hqL]; exact decide_eq_true (fun z => h33 (by rw [z]))
          refine p_iconst (0) 51 rfl dX9_game_50 rfl ?_
          refine p_ist_4 53 rfl dX9_game_51 (Nat.le_of_ble_eq_true rfl) rfl ?_
          refine p_iconst (-1) 54 rfl dX9_game_53 rfl ?_
          refine p_ist_5 56 rfl dX9_game_54 (Nat.le_of_ble_eq_true rfl) rfl ?_
          refine p_iconst (0) 57 rfl dX9_game_56 rfl ?_
          refine p_ist_6 59 rfl dX9_game_57 (Nat.le_of_ble_eq_true rfl) rfl ?_
          have e : fGame A (nI c) (nI q) (nI w) = (0, if w = 0 then nI (prL (cpl A c q) 4).length else fstG (prL (cpl A c q) 4)) := by rw [fGame, gd_t hb0, gd_t hb1, gd_t hb2, gd_t hne, iN_nI hcL, iN_nI hqL, iN_nI hwL]
          rw [e]
          exact Ok.sub (l_mGame hR0 h0 hQ.ch hc hq hw_ 4 0 _ _ (by omega)) (by decide) (by decide) (by decide)
end C97
