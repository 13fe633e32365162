/-! ===== the reference: the next token ===== -/
theorem kOf_1 {b : Nat} : kOf b = 1 ↔ 97 ≤ b ∧ b ≤ 122 := by
  unfold kOf
  constructor
  · intro h
    by_cases w : 97 ≤ b ∧ b ≤ 122
    · exact w
    · rw [if_neg w] at h
      split at h
      · cases h
      · split at h <;> cases h
  · intro h; rw [if_pos h]
theorem kOf_d {b : Nat} : kOf b = 2 ↔ 48 ≤ b ∧ b ≤ 57 := by
  constructor
  · exact kOf_2
  · intro h; unfold kOf; rw [if_neg (by omega), if_pos h]
theorem kOf_s {b : Nat} (h1 : ¬ (97 ≤ b ∧ b ≤ 122)) (h2 : ¬ (48 ≤ b ∧ b ≤ 57)) : kOf b = if sgn b = true then 3 else 4 := by unfold kOf; rw [if_neg h1, if_neg h2]
theorem wvF_lt {tx : Nat → Nat} {s : Nat} : ∀ j, (∀ i, i < j → tx (s + i) ≤ 122) → wvF tx s j < 32 ^ j := by
  intro j
  induction j with
  | zero => intro _; show (0 : Nat) < 32 ^ 0; decide
  | succ j ih =>
    intro h
    have := ih (fun i hi => h i (by omega))
    have := h j (by omega)
    simp only [wvF]
    rw [Nat.pow_succ]; omega
theorem run_1 {tx : Nat → Nat} {k z e : Nat} (he : e < z) (hk : kOf (tx e) = k) : run tx k (z - e) e = run tx k (z - (e + 1)) (e + 1) := by
  rw [show z - e = (z - (e + 1)) + 1 by omega]
  simp only [run]; rw [if_pos hk]
theorem run_0 {tx : Nat → Nat} {k z e : Nat} (he : z ≤ e ∨ ¬ kOf (tx e) = k) : run tx k (z - e) e = e := by
  rcases Nat.lt_or_ge e z with w | w
  · rw [show z - e = (z - (e + 1)) + 1 by omega]
    simp only [run]; rw [if_neg (by rcases he with q | q; omega; exact q)]
  · rw [show z - e = 0 by omega]; rfl
theorem hI_j (σ : PH) (r k : Nat) (v : Int64) (r' k' : Nat) : hI (sJ σ r k v) r' k' = hI σ r' k' := rfl
section Ca1
variable {Γ : Gm} {σ : PH} {tx : Nat → Nat} {z : Nat}
theorem bAt_lt {tx : Nat → Nat} {z k : Nat} (h : ∀ i, tx i < 256) : bAt tx z k < 256 := by unfold bAt; split; exact h k; decide
set_option maxRecDepth 4000 in
theorem l_gLet (hT : TpM σ tx z) {s n : Nat} {x1 : Int32} (hsz : s < z) : ∀ (m q : Nat) (σ1 : PH), s + q + m = z → run tx 1 (z - s) s = run tx 1 (z - (s + q)) (s + q) → hI σ1 M0 17 = nI z → hI σ1 M0 18 = nI (s + q) → hI σ1 M0 20 = nI s → hI σ1 M0 23 = nI (tx s) → (q ≤ 6 → hJ σ1 M0 24 = Int64.ofNat (wvF tx s q)) → (∀ j, s ≤ j → j < s + q → kOf (tx j) = 1) → Fj [18, 19, 20, 21, 22, 23] [] σ σ1 → Ok Γ 4 0 0 mX9_goes 108 [some (.ref M0), some (.int x1)] [] σ1 (rV (fun σ' => TkM σ' tx z 1 s (run tx 1 (z - s) s) n ∧ Fj [18, 19, 20, 21, 22, 23] [] σ σ')) := by
  have hz7 := hT.2.1
  have htx := hT.2.2.1
  intro m
  induction m with
  | zero =>
    intro q σ1 hq hr h17 h18 h20 h23 h24 hall hF
    have hT1 := hT.fr hF rfl
    refine p_aload_n 0 109 rfl rfl dX9_goes_108 rfl ?_
    refine p_aload_n 0 110 rfl rfl dX9_goes_109 rfl ?_
    refine p_getIE 9 18 113 rfl dX9_goes_110 fl_X9_115 rfl rfl h18 ?_
    refine p_cV1i 116 rfl dX9_goes_113 (c_byteAt hT1 h17 (by omega)) ml_X9_118 vl_X9_byteAt rfl (by decide) rfl (Nat.le_of_ble_eq_true rfl) (Nat.le_of_ble_eq_true rfl) rfl ?_
    refine p_cS1i 119 rfl dX9_goes_116 (c_isLetter (bAt_lt htx)) ml_X9_138 sl_X9_isLetter (Nat.le_of_ble_eq_true rfl) (Nat.le_of_ble_eq_true rfl) rfl ?_
    refine p_if_eq 172 122 rfl rfl dX9_goes_119 (fun h119 => ?_) (fun h119 => absurd (b2i_t h119) (by rw [bAt, if_neg (by omega)]; decide))
    have hrun : run tx 1 (z - s) s = s + q := hr.trans (run_0 (by
      rcases Nat.lt_or_ge (s + q) z with w | w
      · refine Or.inr (fun e => ?_)
        have hb := b2i_f h119
        rw [bAt, if_pos w] at hb
        exact absurd (kOf_1.mp e) (of_decide_eq_false hb)
      · exact Or.inl w))
    have hqz : s + q ≤ z := by omega
    refine p_aload_n 0 173 rfl rfl dX9_goes_172 rfl ?_
    refine p_iconst (1) 174 rfl dX9_goes_173 rfl ?_
    refine p_putI 9 19 177 rfl dX9_goes_174 fl_X9_135 rfl rfl (Or.inl rfl) ?_
    refine p_goto 331 rfl dX9_goes_177 ?_
    refine p_aload_n 0 332 rfl rfl dX9_goes_331 rfl ?_
    refine p_aload_n 0 333 rfl rfl dX9_goes_332 rfl ?_
    refine p_getIE 9 18 336 rfl dX9_goes_333 fl_X9_115 rfl rfl ((hI_sIo (by decide)).trans h18) ?_
    refine p_aload_n 0 337 rfl rfl dX9_goes_336 rfl ?_
    refine p_getIE 9 20 340 rfl dX9_goes_337 fl_X9_122 rfl rfl ((hI_sIo (by decide)).trans h20) ?_
    refine p_isub 341 rfl dX9_goes_340 ?_
    rw [show nI (s + q) - nI s = nI q from (nI_sb (by omega)).trans (by rw [Nat.add_sub_cancel_left])]
    refine p_putI 9 21 344 rfl dX9_goes_341 fl_X9_145 rfl rfl (Or.inl rfl) ?_
    exact p_vret dX9_goes_344 rfl ⟨rfl, by
     have er : run tx 1 (z - s) s = s + q := hrun
     rw [er]
     refine ⟨⟨(hI_sIo (by decide)).trans ((hI_sIo (by decide)).trans h17), (hI_sIo (by decide)).trans ((hI_sIo (by decide)).trans h18), (hI_sIo (by decide)).trans (hI_sI _ _ _ _), (hI_sIo (by decide)).trans ((hI_sIo (by decide)).trans h20), (hI_sI _ _ _ _).trans (by rw [Nat.add_sub_cancel_left])⟩, (fun w => absurd w (by decide)), fun _ => (hI_sIo (by decide)).trans ((hI_sIo (by decide)).trans h23), fun _ w => ?_, ⟨by omega, by omega⟩, fun _ => hall⟩
     rw [Nat.add_sub_cancel_left] at w ⊢
     exact h24 w, (hF.tr (Fj.sI (by simp))).tr (Fj.sI (by simp))⟩
  | succ m ih =>
    intro q σ1 hq hr h17 h18 h20 h23 h24 hall hF
    have hT1 := hT.fr hF rfl
    refine p_aload_n 0 109 rfl rfl dX9_goes_108 rfl ?_
    refine p_aload_n 0 110 rfl rfl dX9_goes_109 rfl ?_
    refine p_getIE 9 18 113 rfl dX9_goes_110 fl_X9_115 rfl rfl h18 ?_
    refine p_cV1i 116 rfl dX9_goes_113 (c_byteAt hT1 h17 (by omega)) ml_X9_118 vl_X9_byteAt rfl (by decide) rfl (Nat.le_of_ble_eq_true rfl) (Nat.le_of_ble_eq_true rfl) rfl ?_
    refine p_cS1i 119 rfl dX9_goes_116 (c_isLetter (bAt_lt htx)) ml_X9_138 sl_X9_isLetter (Nat.le_of_ble_eq_true rfl) (Nat.le_of_ble_eq_true rfl) rfl ?_
    refine p_if_eq 172 122 rfl rfl dX9_goes_119 (fun h119 => ?_) (fun h119 => ?_)
    · have hrun : run tx 1 (z - s) s = s + q := hr.trans (run_0 (by
        rcases Nat.lt_or_ge (s + q) z with w | w
        · refine Or.inr (fun e => ?_)
          have hb := b2i_f h119
          rw [bAt, if_pos w] at hb
          exact absurd (kOf_1.mp e) (of_decide_eq_false hb)
        · exact Or.inl w))
      have hqz : s + q ≤ z := by omega
      refine p_aload_n 0 173 rfl rfl dX9_goes_172 rfl ?_
      refine p_iconst (1) 174 rfl dX9_goes_173 rfl ?_
      refine p_putI 9 19 177 rfl dX9_goes_174 fl_X9_135 rfl rfl (Or.inl rfl) ?_
      refine p_goto 331 rfl dX9_goes_177 ?_
      refine p_aload_n 0 332 rfl rfl dX9_goes_331 rfl ?_
      refine p_aload_n 0 333 rfl rfl dX9_goes_332 rfl ?_
      refine p_getIE 9 18 336 rfl dX9_goes_333 fl_X9_115 rfl rfl ((hI_sIo (by decide)).trans h18) ?_
      refine p_aload_n 0 337 rfl rfl dX9_goes_336 rfl ?_
      refine p_getIE 9 20 340 rfl dX9_goes_337 fl_X9_122 rfl rfl ((hI_sIo (by decide)).trans h20) ?_
      refine p_isub 341 rfl dX9_goes_340 ?_
      rw [show nI (s + q) - nI s = nI q from (nI_sb (by omega)).trans (by rw [Nat.add_sub_cancel_left])]
      refine p_putI 9 21 344 rfl dX9_goes_341 fl_X9_145 rfl rfl (Or.inl rfl) ?_
      exact p_vret dX9_goes_344 rfl ⟨rfl, by
     have er : run tx 1 (z - s) s = s + q := hrun
     rw [er]
     refine ⟨⟨(hI_sIo (by decide)).trans ((hI_sIo (by decide)).trans h17), (hI_sIo (by decide)).trans ((hI_sIo (by decide)).trans h18), (hI_sIo (by decide)).trans (hI_sI _ _ _ _), (hI_sIo (by decide)).trans ((hI_sIo (by decide)).trans h20), (hI_sI _ _ _ _).trans (by rw [Nat.add_sub_cancel_left])⟩, (fun w => absurd w (by decide)), fun _ => (hI_sIo (by decide)).trans ((hI_sIo (by decide)).trans h23), fun _ w => ?_, ⟨by omega, by omega⟩, fun _ => hall⟩
     rw [Nat.add_sub_cancel_left] at w ⊢
     exact h24 w, (hF.tr (Fj.sI (by simp))).tr (Fj.sI (by simp))⟩
    · have hb := b2i_t h119
      have hlz : s + q < z := (Nat.lt_or_ge (s + q) z).elim id (fun w => by rw [bAt, if_neg (by omega)] at hb; exact absurd (of_decide_eq_true hb) (by decide))
      rw [bAt, if_pos hlz] at hb
      have hlet := of_decide_eq_true hb
      have hk1 : kOf (tx (s + q)) = 1 := kOf_1.mpr hlet
      refine p_aload_n 0 123 rfl rfl dX9_goes_122 rfl ?_
      refine p_getIE 9 18 126 rfl dX9_goes_123 fl_X9_115 rfl rfl h18 ?_
      refine p_aload_n 0 127 rfl rfl dX9_goes_126 rfl ?_
      refine p_getIE 9 20 130 rfl dX9_goes_127 fl_X9_122 rfl rfl h20 ?_
      refine p_isub 131 rfl dX9_goes_130 ?_
      rw [show nI (s + q) - nI s = nI q from (nI_sb (by omega)).trans (by rw [Nat.add_sub_cancel_left])]
      refine p_bipush (6) 133 rfl dX9_goes_131 rfl ?_
      refine p_icmp_ge 159 136 rfl rfl dX9_goes_133 (fun h133 => ?_) (fun h133 => ?_)
      · refine p_aload_n 0 160 rfl rfl dX9_goes_159 rfl ?_
        refine p_dup 161 rfl dX9_goes_160 rfl ?_
        refine p_getIE 9 18 164 rfl dX9_goes_161 fl_X9_115 rfl rfl h18 ?_
        refine p_iconst (1) 165 rfl dX9_goes_164 rfl ?_
        refine p_iadd 166 rfl dX9_goes_165 ?_
        refine p_putI 9 18 169 rfl dX9_goes_166 fl_X9_115 rfl rfl (Or.inl rfl) ?_
        refine p_goto 108 rfl dX9_goes_169 ?_
        rw [show nI (s + q) + 1 = nI (s + (q + 1)) from (nI_add _ 1).trans rfl]
        refine ih (q + 1) _ (by omega) (hr.trans (run_1 hlz hk1)) ((hI_sIo (by decide)).trans h17) (hI_sI _ _ _ _) ((hI_sIo (by decide)).trans h20) ((hI_sIo (by decide)).trans h23) (fun w => ?_) (fun j h1 h2 => (Nat.lt_or_ge j (s + q)).elim (fun w => hall j h1 w) (fun w => by rw [show j = s + q by omega]; exact hk1)) (hF.tr (Fj.sI (by simp)))
        exact absurd (nI_ge (a := q) (b := 6) (by omega) (by decide)) (fun z => z h133)
      · have hq6 : q < 6 := (Nat.lt_or_ge q 6).elim id (fun w => absurd (nI_le w (by omega)) h133)
        have h24v := h24 (by omega)
        refine p_aload_n 0 137 rfl rfl dX9_goes_136 rfl ?_
        refine p_aload_n 0 138 rfl rfl dX9_goes_137 rfl ?_
        refine p_getJ 9 24 141 rfl dX9_goes_138 fl_X9_125 rfl rfl ?_
        rw [h24v]
        refine p_iconst (5) 142 rfl dX9_goes_141 rfl ?_
        refine p_lshl 143 rfl dX9_goes_142 ?_
        refine p_aload_n 0 144 rfl rfl dX9_goes_143 rfl ?_
        refine p_aload_n 0 145 rfl rfl dX9_goes_144 rfl ?_
        refine p_getIE 9 18 148 rfl dX9_goes_145 fl_X9_115 rfl rfl h18 ?_
        refine p_cV1i 151 rfl dX9_goes_148 (c_byteAt hT1 h17 (by omega)) ml_X9_118 vl_X9_byteAt rfl (by decide) rfl (Nat.le_of_ble_eq_true rfl) (Nat.le_of_ble_eq_true rfl) rfl ?_
        refine p_bipush (96) 153 rfl dX9_goes_151 rfl ?_
        refine p_isub 154 rfl dX9_goes_153 ?_
        refine p_i2l 155 rfl dX9_goes_154 ?_
        refine p_lor 156 rfl dX9_goes_155 ?_
        rw [show bAt tx z (s + q) = tx (s + q) from if_pos hlz]
        rw [show (Int64.ofNat (wvF tx s q)) <<< ((5 : Int32).toInt64 &&& 63) ||| (nI (tx (s + q)) - 96).toInt64 = Int64.ofNat (wvF tx s q * 32 + (tx (s + q) - 96)) from sh5_n (by omega) (by omega)]
        refine p_putJ 9 24 159 rfl dX9_goes_156 fl_X9_125 rfl rfl (Or.inl rfl) ?_
        refine p_aload_n 0 160 rfl rfl dX9_goes_159 rfl ?_
        refine p_dup 161 rfl dX9_goes_160 rfl ?_
        refine p_getIE 9 18 164 rfl dX9_goes_161 fl_X9_115 rfl rfl h18 ?_
        refine p_iconst (1) 165 rfl dX9_goes_164 rfl ?_
        refine p_iadd 166 rfl dX9_goes_165 ?_
        refine p_putI 9 18 169 rfl dX9_goes_166 fl_X9_115 rfl rfl (Or.inl rfl) ?_
        refine p_goto 108 rfl dX9_goes_169 ?_
        rw [show nI (s + q) + 1 = nI (s + (q + 1)) from (nI_add _ 1).trans rfl]
        refine ih (q + 1) _ (by omega) (hr.trans (run_1 hlz hk1)) ((hI_sIo (by decide)).trans h17) (hI_sI _ _ _ _) ((hI_sIo (by decide)).trans h20) ((hI_sIo (by decide)).trans h23) (fun w => ?_) (fun j h1 h2 => (Nat.lt_or_ge j (s + q)).elim (fun w => hall j h1 w) (fun w => by rw [show j = s + q by omega]; exact hk1)) ((hF.tr Fj.sJ).tr (Fj.sI (by simp)))
        rw [hJ_sI, hJ_sJ]
        simp only [wvF]
set_option maxRecDepth 4000 in
theorem l_gDig (hT : TpM σ tx z) {s n : Nat} {x1 : Int32} (hsz : s < z) : ∀ (m q : Nat) (σ1 : PH), s + q + m = z → run tx 2 (z - s) s = run tx 2 (z - (s + q)) (s + q) → hI σ1 M0 17 = nI z → hI σ1 M0 18 = nI (s + q) → hI σ1 M0 20 = nI s → hI σ1 M0 23 = nI (tx s) → (q ≤ 4 → hI σ1 M0 22 = nI (numF tx s q)) → (∀ j, s ≤ j → j < s + q → kOf (tx j) = 2) → Fj [18, 19, 20, 21, 22, 23] [] σ σ1 → Ok Γ 4 0 0 mX9_goes 187 [some (.ref M0), some (.int x1)] [] σ1 (rV (fun σ' => TkM σ' tx z 2 s (run tx 2 (z - s) s) (num tx s (run tx 2 (z - s) s)) ∧ Fj [18, 19, 20, 21, 22, 23] [] σ σ')) := by
  have hz7 := hT.2.1
  have htx := hT.2.2.1
  intro m
  induction m with
  | zero =>
    intro q σ1 hq hr h17 h18 h20 h23 h24 hall hF
    have hT1 := hT.fr hF rfl
    refine p_aload_n 0 188 rfl rfl dX9_goes_187 rfl ?_
    refine p_aload_n 0 189 rfl rfl dX9_goes_188 rfl ?_
    refine p_getIE 9 18 192 rfl dX9_goes_189 fl_X9_115 rfl rfl h18 ?_
    refine p_cV1i 195 rfl dX9_goes_192 (c_byteAt hT1 h17 (by omega)) ml_X9_118 vl_X9_byteAt rfl (by decide) rfl (Nat.le_of_ble_eq_true rfl) (Nat.le_of_ble_eq_true rfl) rfl ?_
    refine p_cS1i 198 rfl dX9_goes_195 (c_isDigit (bAt_lt htx)) ml_X9_142 sl_X9_isDigit (Nat.le_of_ble_eq_true rfl) (Nat.le_of_ble_eq_true rfl) rfl ?_
    refine p_if_eq 250 201 rfl rfl dX9_goes_198 (fun h198 => ?_) (fun h198 => absurd (b2i_t h198) (by rw [bAt, if_neg (by omega)]; decide))
    have hrun : run tx 2 (z - s) s = s + q := hr.trans (run_0 (by
      rcases Nat.lt_or_ge (s + q) z with w | w
      · refine Or.inr (fun e => ?_)
        have hb := b2i_f h198
        rw [bAt, if_pos w] at hb
        exact absurd (kOf_d.mp e) (of_decide_eq_false hb)
      · exact Or.inl w))
    have hqz : s + q ≤ z := by omega
    refine p_aload_n 0 251 rfl rfl dX9_goes_250 rfl ?_
    refine p_iconst (2) 252 rfl dX9_goes_251 rfl ?_
    refine p_putI 9 19 255 rfl dX9_goes_252 fl_X9_135 rfl rfl (Or.inl rfl) ?_
    refine p_goto 331 rfl dX9_goes_255 ?_
    refine p_aload_n 0 332 rfl rfl dX9_goes_331 rfl ?_
    refine p_aload_n 0 333 rfl rfl dX9_goes_332 rfl ?_
    refine p_getIE 9 18 336 rfl dX9_goes_333 fl_X9_115 rfl rfl ((hI_sIo (by decide)).trans h18) ?_
    refine p_aload_n 0 337 rfl rfl dX9_goes_336 rfl ?_
    refine p_getIE 9 20 340 rfl dX9_goes_337 fl_X9_122 rfl rfl ((hI_sIo (by decide)).trans h20) ?_
    refine p_isub 341 rfl dX9_goes_340 ?_
    rw [show nI (s + q) - nI s = nI q from (nI_sb (by omega)).trans (by rw [Nat.add_sub_cancel_left])]
    refine p_putI 9 21 344 rfl dX9_goes_341 fl_X9_145 rfl rfl (Or.inl rfl) ?_
    exact p_vret dX9_goes_344 rfl ⟨rfl, by
     have er : run tx 2 (z - s) s = s + q := hrun
     rw [er]
     refine ⟨⟨(hI_sIo (by decide)).trans ((hI_sIo (by decide)).trans h17), (hI_sIo (by decide)).trans ((hI_sIo (by decide)).trans h18), (hI_sIo (by decide)).trans (hI_sI _ _ _ _), (hI_sIo (by decide)).trans ((hI_sIo (by decide)).trans h20), (hI_sI _ _ _ _).trans (by rw [Nat.add_sub_cancel_left])⟩, fun _ => ⟨fun w => ?_, rfl⟩, fun _ => (hI_sIo (by decide)).trans ((hI_sIo (by decide)).trans h23), (fun w => absurd w (by decide)), ⟨by omega, by omega⟩, fun _ => hall⟩
     rw [Nat.add_sub_cancel_left] at w
     rw [num, Nat.add_sub_cancel_left, if_neg (by omega)]
     exact (hI_sIo (by decide)).trans ((hI_sIo (by decide)).trans (h24 w)), (hF.tr (Fj.sI (by simp))).tr (Fj.sI (by simp))⟩
  | succ m ih =>
    intro q σ1 hq hr h17 h18 h20 h23 h24 hall hF
    have hT1 := hT.fr hF rfl
    refine p_aload_n 0 188 rfl rfl dX9_goes_187 rfl ?_
    refine p_aload_n 0 189 rfl rfl dX9_goes_188 rfl ?_
    refine p_getIE 9 18 192 rfl dX9_goes_189 fl_X9_115 rfl rfl h18 ?_
    refine p_cV1i 195 rfl dX9_goes_192 (c_byteAt hT1 h17 (by omega)) ml_X9_118 vl_X9_byteAt rfl (by decide) rfl (Nat.le_of_ble_eq_true rfl) (Nat.le_of_ble_eq_true rfl) rfl ?_
    refine p_cS1i 198 rfl dX9_goes_195 (c_isDigit (bAt_lt htx)) ml_X9_142 sl_X9_isDigit (Nat.le_of_ble_eq_true rfl) (Nat.le_of_ble_eq_true rfl) rfl ?_
    refine p_if_eq 250 201 rfl rfl dX9_goes_198 (fun h198 => ?_) (fun h198 => ?_)
    · have hrun : run tx 2 (z - s) s = s + q := hr.trans (run_0 (by
        rcases Nat.lt_or_ge (s + q) z with w | w
        · refine Or.inr (fun e => ?_)
          have hb := b2i_f h198
          rw [bAt, if_pos w] at hb
          exact absurd (kOf_d.mp e) (of_decide_eq_false hb)
        · exact Or.inl w))
      have hqz : s + q ≤ z := by omega
      refine p_aload_n 0 251 rfl rfl dX9_goes_250 rfl ?_
      refine p_iconst (2) 252 rfl dX9_goes_251 rfl ?_
      refine p_putI 9 19 255 rfl dX9_goes_252 fl_X9_135 rfl rfl (Or.inl rfl) ?_
      refine p_goto 331 rfl dX9_goes_255 ?_
      refine p_aload_n 0 332 rfl rfl dX9_goes_331 rfl ?_
      refine p_aload_n 0 333 rfl rfl dX9_goes_332 rfl ?_
      refine p_getIE 9 18 336 rfl dX9_goes_333 fl_X9_115 rfl rfl ((hI_sIo (by decide)).trans h18) ?_
      refine p_aload_n 0 337 rfl rfl dX9_goes_336 rfl ?_
      refine p_getIE 9 20 340 rfl dX9_goes_337 fl_X9_122 rfl rfl ((hI_sIo (by decide)).trans h20) ?_
      refine p_isub 341 rfl dX9_goes_340 ?_
      rw [show nI (s + q) - nI s = nI q from (nI_sb (by omega)).trans (by rw [Nat.add_sub_cancel_left])]
      refine p_putI 9 21 344 rfl dX9_goes_341 fl_X9_145 rfl rfl (Or.inl rfl) ?_
      exact p_vret dX9_goes_344 rfl ⟨rfl, by
     have er : run tx 2 (z - s) s = s + q := hrun
     rw [er]
     refine ⟨⟨(hI_sIo (by decide)).trans ((hI_sIo (by decide)).trans h17), (hI_sIo (by decide)).trans ((hI_sIo (by decide)).trans h18), (hI_sIo (by decide)).trans (hI_sI _ _ _ _), (hI_sIo (by decide)).trans ((hI_sIo (by decide)).trans h20), (hI_sI _ _ _ _).trans (by rw [Nat.add_sub_cancel_left])⟩, fun _ => ⟨fun w => ?_, rfl⟩, fun _ => (hI_sIo (by decide)).trans ((hI_sIo (by decide)).trans h23), (fun w => absurd w (by decide)), ⟨by omega, by omega⟩, fun _ => hall⟩
     rw [Nat.add_sub_cancel_left] at w
     rw [num, Nat.add_sub_cancel_left, if_neg (by omega)]
     exact (hI_sIo (by decide)).trans ((hI_sIo (by decide)).trans (h24 w)), (hF.tr (Fj.sI (by simp))).tr (Fj.sI (by simp))⟩
    · have hb := b2i_t h198
      have hlz : s + q < z := (Nat.lt_or_ge (s + q) z).elim id (fun w => by rw [bAt, if_neg (by omega)] at hb; exact absurd (of_decide_eq_true hb) (by decide))
      rw [bAt, if_pos hlz] at hb
      have hlet := of_decide_eq_true hb
      have hk1 : kOf (tx (s + q)) = 2 := kOf_d.mpr hlet
      refine p_aload_n 0 202 rfl rfl dX9_goes_201 rfl ?_
      refine p_getIE 9 18 205 rfl dX9_goes_202 fl_X9_115 rfl rfl h18 ?_
      refine p_aload_n 0 206 rfl rfl dX9_goes_205 rfl ?_
      refine p_getIE 9 20 209 rfl dX9_goes_206 fl_X9_122 rfl rfl h20 ?_
      refine p_isub 210 rfl dX9_goes_209 ?_
      rw [show nI (s + q) - nI s = nI q from (nI_sb (by omega)).trans (by rw [Nat.add_sub_cancel_left])]
      refine p_iconst (4) 211 rfl dX9_goes_210 rfl ?_
      refine p_icmp_ge 237 214 rfl rfl dX9_goes_211 (fun h211 => ?_) (fun h211 => ?_)
      · refine p_aload_n 0 238 rfl rfl dX9_goes_237 rfl ?_
        refine p_dup 239 rfl dX9_goes_238 rfl ?_
        refine p_getIE 9 18 242 rfl dX9_goes_239 fl_X9_115 rfl rfl (by first | exact h18 | exact (hI_sIo (by decide)).trans h18) ?_
        refine p_iconst (1) 243 rfl dX9_goes_242 rfl ?_
        refine p_iadd 244 rfl dX9_goes_243 ?_
        refine p_putI 9 18 247 rfl dX9_goes_244 fl_X9_115 rfl rfl (Or.inl rfl) ?_
        refine p_goto 187 rfl dX9_goes_247 ?_
        rw [show nI (s + q) + 1 = nI (s + (q + 1)) from (nI_add _ 1).trans rfl]
        refine ih (q + 1) _ (by omega) (hr.trans (run_1 hlz hk1)) ((hI_sIo (by decide)).trans h17) (hI_sI _ _ _ _) ((hI_sIo (by decide)).trans h20) ((hI_sIo (by decide)).trans h23) (fun w => ?_) (fun j h1 h2 => (Nat.lt_or_ge j (s + q)).elim (fun w => hall j h1 w) (fun w => by rw [show j = s + q by omega]; exact hk1)) (hF.tr (Fj.sI (by simp)))
        exact absurd (nI_ge (a := q) (b := 4) (by omega) (by decide)) (fun z => z h211)
      · have hq6 : q < 4 := (Nat.lt_or_ge q 4).elim id (fun w => absurd (nI_le w (by omega)) h211)
        have h24v := h24 (by omega)
        refine p_aload_n 0 215 rfl rfl dX9_goes_214 rfl ?_
        refine p_bipush (10) 217 rfl dX9_goes_215 rfl ?_
        refine p_aload_n 0 218 rfl rfl dX9_goes_217 rfl ?_
        refine p_getIE 9 22 221 rfl dX9_goes_218 fl_X9_129 rfl rfl h24v ?_
        refine p_imul 222 rfl dX9_goes_221 ?_
        refine p_aload_n 0 223 rfl rfl dX9_goes_222 rfl ?_
        refine p_aload_n 0 224 rfl rfl dX9_goes_223 rfl ?_
        refine p_getIE 9 18 227 rfl dX9_goes_224 fl_X9_115 rfl rfl h18 ?_
        refine p_cV1i 230 rfl dX9_goes_227 (c_byteAt hT1 h17 (by omega)) ml_X9_118 vl_X9_byteAt rfl (by decide) rfl (Nat.le_of_ble_eq_true rfl) (Nat.le_of_ble_eq_true rfl) rfl ?_
        refine p_iadd 231 rfl dX9_goes_230 ?_
        refine p_bipush (48) 233 rfl dX9_goes_231 rfl ?_
        refine p_isub 234 rfl dX9_goes_233 ?_
        rw [show bAt tx z (s + q) = tx (s + q) from if_pos hlz]
        rw [show (10 : Int32) * nI (numF tx s q) + nI (tx (s + q)) - 48 = nI (numF tx s (q + 1)) from by
          rw [show (10 : Int32) * nI (numF tx s q) = nI (10 * numF tx s q) from nI_mu 10 _, nI_add]
          rw [show nI (10 * numF tx s q + tx (s + q)) - 48 = nI (10 * numF tx s q + tx (s + q) - 48) from nI_sb (b := 48) (by omega)]
          simp only [numF]; rw [Nat.mul_comm]]
        refine p_putI 9 22 237 rfl dX9_goes_234 fl_X9_129 rfl rfl (Or.inl rfl) ?_
        refine p_aload_n 0 238 rfl rfl dX9_goes_237 rfl ?_
        refine p_dup 239 rfl dX9_goes_238 rfl ?_
        refine p_getIE 9 18 242 rfl dX9_goes_239 fl_X9_115 rfl rfl (by first | exact h18 | exact (hI_sIo (by decide)).trans h18) ?_
        refine p_iconst (1) 243 rfl dX9_goes_242 rfl ?_
        refine p_iadd 244 rfl dX9_goes_243 ?_
        refine p_putI 9 18 247 rfl dX9_goes_244 fl_X9_115 rfl rfl (Or.inl rfl) ?_
        refine p_goto 187 rfl dX9_goes_247 ?_
        rw [show nI (s + q) + 1 = nI (s + (q + 1)) from (nI_add _ 1).trans rfl]
        refine ih (q + 1) _ (by omega) (hr.trans (run_1 hlz hk1)) ((hI_sIo (by decide)).trans ((hI_sIo (by decide)).trans h17)) (hI_sI _ _ _ _) ((hI_sIo (by decide)).trans ((hI_sIo (by decide)).trans h20)) ((hI_sIo (by decide)).trans ((hI_sIo (by decide)).trans h23)) (fun w => ?_) (fun j h1 h2 => (Nat.lt_or_ge j (s + q)).elim (fun w => hall j h1 w) (fun w => by rw [show j = s + q by omega]; exact hk1)) ((hF.tr (Fj.sI (by simp))).tr (Fj.sI (by simp)))
        exact (hI_sIo (by decide)).trans (hI_sI _ _ _ _)
set_option maxRecDepth 12000 in
theorem l_g50 (hT : TpM σ tx z) {S : RS} {s : Nat} (hsz0 : s ≤ z) (hsk : skp tx (z - S.2.2.2.2.1) S.2.2.2.2.1 = s) {σ1 : PH} {x1 : Option Value} (h17 : hI σ1 M0 17 = nI z) (h18 : hI σ1 M0 18 = nI s) (hF : Fj [18, 19, 20, 21, 22, 23] [] σ σ1) : Ok Γ 4 0 0 mX9_goes 50 [some (.ref M0), x1] [] σ1 (rV (fun σ' => TkS σ' tx z (adv tx z S) ∧ Fj [18, 19, 20, 21, 22, 23] [] σ σ')) := by
  have hz7 := hT.2.1
  have htx := hT.2.2.1
  have hT1 := hT.fr hF rfl
  refine p_aload_n 0 51 rfl rfl dX9_goes_50 rfl ?_
  refine p_aload_n 0 52 rfl rfl dX9_goes_51 rfl ?_
  refine p_getIE 9 18 55 rfl dX9_goes_52 fl_X9_115 rfl rfl h18 ?_
  refine p_putI 9 20 58 rfl dX9_goes_55 fl_X9_122 rfl rfl (Or.inl rfl) ?_
  refine p_aload_n 0 59 rfl rfl dX9_goes_58 rfl ?_
  refine p_lconst 0 60 rfl dX9_goes_59 rfl ?_
  refine p_putJ 9 24 63 rfl dX9_goes_60 fl_X9_125 rfl rfl (Or.inl rfl) ?_
  refine p_aload_n 0 64 rfl rfl dX9_goes_63 rfl ?_
  refine p_iconst (0) 65 rfl dX9_goes_64 rfl ?_
  refine p_putI 9 22 68 rfl dX9_goes_65 fl_X9_129 rfl rfl (Or.inl rfl) ?_
  refine p_aload_n 0 69 rfl rfl dX9_goes_68 rfl ?_
  refine p_aload_n 0 70 rfl rfl dX9_goes_69 rfl ?_
  refine p_getIE 9 18 73 rfl dX9_goes_70 fl_X9_115 rfl rfl ((hI_sIo (by decide)).trans ((hI_j _ _ _ _ _ _).trans ((hI_sIo (by decide)).trans h18))) ?_
  refine p_cV1i 76 rfl dX9_goes_73 (c_byteAt (hT1.fr (((Fj.sI (XI := [20, 22]) (X := []) (by simp)).tr Fj.sJ).tr (Fj.sI (by simp))) rfl) ((hI_sIo (by decide)).trans ((hI_j _ _ _ _ _ _).trans ((hI_sIo (by decide)).trans h17))) (by omega)) ml_X9_118 vl_X9_byteAt rfl (by decide) rfl (Nat.le_of_ble_eq_true rfl) (Nat.le_of_ble_eq_true rfl) rfl ?_
  refine p_ist_n1 77 rfl rfl dX9_goes_76 (Nat.le_of_ble_eq_true rfl) rfl ?_
  refine p_aload_n 0 78 rfl rfl dX9_goes_77 rfl ?_
  refine p_iload_n 1 79 rfl rfl dX9_goes_78 rfl ?_
  refine p_putI 9 23 82 rfl dX9_goes_79 fl_X9_132 rfl rfl (Or.inl rfl) ?_
  have hF5 : Fj [18, 19, 20, 21, 22, 23] [] σ (sI (sI (sJ (sI σ1 M0 20 (nI s)) M0 24 0) M0 22 0) M0 23 (nI (bAt tx z s))) := (((hF.tr (Fj.sI (by simp))).tr Fj.sJ).tr (Fj.sI (by simp))).tr (Fj.sI (by simp))
  have i17 : hI (sI (sI (sJ (sI σ1 M0 20 (nI s)) M0 24 0) M0 22 0) M0 23 (nI (bAt tx z s))) M0 17 = nI z := (hI_sIo (by decide)).trans ((hI_sIo (by decide)).trans ((hI_j _ _ _ _ _ _).trans ((hI_sIo (by decide)).trans h17)))
  have i18 : hI (sI (sI (sJ (sI σ1 M0 20 (nI s)) M0 24 0) M0 22 0) M0 23 (nI (bAt tx z s))) M0 18 = nI s := (hI_sIo (by decide)).trans ((hI_sIo (by decide)).trans ((hI_j _ _ _ _ _ _).trans ((hI_sIo (by decide)).trans h18)))
  have i20 : hI (sI (sI (sJ (sI σ1 M0 20 (nI s)) M0 24 0) M0 22 0) M0 23 (nI (bAt tx z s))) M0 20 = nI s := (hI_sIo (by decide)).trans ((hI_sIo (by decide)).trans ((hI_j _ _ _ _ _ _).trans (hI_sI _ _ _ _)))
  have i22 : hI (sI (sI (sJ (sI σ1 M0 20 (nI s)) M0 24 0) M0 22 0) M0 23 (nI (bAt tx z s))) M0 22 = 0 := (hI_sIo (by decide)).trans (hI_sI _ _ _ _)
  have i23 : hI (sI (sI (sJ (sI σ1 M0 20 (nI s)) M0 24 0) M0 22 0) M0 23 (nI (bAt tx z s))) M0 23 = nI (bAt tx z s) := hI_sI _ _ _ _
  have i24 : hJ (sI (sI (sJ (sI σ1 M0 20 (nI s)) M0 24 0) M0 22 0) M0 23 (nI (bAt tx z s))) M0 24 = Int64.ofNat 0 := by rw [hJ_sI, hJ_sI, hJ_sJ]; rfl
  generalize (sI (sI (sJ (sI σ1 M0 20 (nI s)) M0 24 0) M0 22 0) M0 23 (nI (bAt tx z s))) = τ at hF5 i17 i18 i20 i22 i23 i24 ⊢
  have hT5 := hT.fr hF5 rfl
  refine p_aload_n 0 83 rfl rfl dX9_goes_82 rfl ?_
  refine p_getIE 9 18 86 rfl dX9_goes_83 fl_X9_115 rfl rfl i18 ?_
  refine p_aload_n 0 87 rfl rfl dX9_goes_86 rfl ?_
  refine p_getIE 9 17 90 rfl dX9_goes_87 fl_X9_112 rfl rfl i17 ?_
  refine p_icmp_lt 101 93 rfl rfl dX9_goes_90 (fun h90 => ?_) (fun h90 => ?_)
  · have hsz : s < z := (Nat.lt_or_ge s z).elim id (fun w => absurd h90 (nI_nlt w (by omega)))
    refine p_iload_n 1 102 rfl rfl dX9_goes_101 rfl ?_
    refine p_cS1i 105 rfl dX9_goes_102 (c_isLetter (bAt_lt htx)) ml_X9_138 sl_X9_isLetter (Nat.le_of_ble_eq_true rfl) (Nat.le_of_ble_eq_true rfl) rfl ?_
    refine p_if_eq 180 108 rfl rfl dX9_goes_105 (fun h105 => ?_) (fun h105 => ?_)
    · refine p_iload_n 1 181 rfl rfl dX9_goes_180 rfl ?_
      refine p_cS1i 184 rfl dX9_goes_181 (c_isDigit (bAt_lt htx)) ml_X9_142 sl_X9_isDigit (Nat.le_of_ble_eq_true rfl) (Nat.le_of_ble_eq_true rfl) rfl ?_
      refine p_if_eq 258 187 rfl rfl dX9_goes_184 (fun h184 => ?_) (fun h184 => ?_)
      · have hb1 := of_decide_eq_false (b2i_f h105)
        have hb2 := of_decide_eq_false (b2i_f h184)
        rw [show bAt tx z s = tx s from if_pos hsz] at hb1 hb2
        have hks := kOf_s hb1 hb2
        refine p_aload_n 0 259 rfl rfl dX9_goes_258 rfl ?_
        refine p_dup 260 rfl dX9_goes_259 rfl ?_
        refine p_getIE 9 18 263 rfl dX9_goes_260 fl_X9_115 rfl rfl i18 ?_
        refine p_iconst (1) 264 rfl dX9_goes_263 rfl ?_
        refine p_iadd 265 rfl dX9_goes_264 ?_
        rw [nI_1]
        refine p_putI 9 18 268 rfl dX9_goes_265 fl_X9_115 rfl rfl (Or.inl rfl) ?_
        refine p_aload_n 0 269 rfl rfl dX9_goes_268 rfl ?_
        refine p_iload_n 1 270 rfl rfl dX9_goes_269 rfl ?_
        refine p_bipush (59) 272 rfl dX9_goes_270 rfl ?_
        refine p_icmp_eq 323 275 rfl rfl dX9_goes_272 (fun h272 => ?_) (fun h272 => ?_)
        · have hbe : tx s = 59 := by
            have := nI_eqI (show nI (bAt tx z s) = nI 59 from h272) (by have := bAt_lt (z := z) (k := s) htx; omega) (by decide)
            rwa [bAt, if_pos hsz] at this
          have hk3 : kOf (tx s) = 3 := by rw [hbe]; decide
          refine p_iconst (3) 324 rfl dX9_goes_323 rfl ?_
          refine p_goto 328 rfl dX9_goes_324 ?_
          refine p_putI 9 19 331 rfl dX9_goes_328 fl_X9_135 rfl rfl (Or.inl rfl) ?_
          refine p_aload_n 0 332 rfl rfl dX9_goes_331 rfl ?_
          refine p_aload_n 0 333 rfl rfl dX9_goes_332 rfl ?_
          refine p_getIE 9 18 336 rfl dX9_goes_333 fl_X9_115 rfl rfl (by first | exact (hI_sIo (by decide)).trans i18 | exact (hI_sIo (by decide)).trans (hI_sI _ _ _ _)) ?_
          refine p_aload_n 0 337 rfl rfl dX9_goes_336 rfl ?_
          refine p_getIE 9 20 340 rfl dX9_goes_337 fl_X9_122 rfl rfl (by first | exact (hI_sIo (by decide)).trans i20 | exact (hI_sIo (by decide)).trans ((hI_sIo (by decide)).trans i20)) ?_
          refine p_isub 341 rfl dX9_goes_340 ?_
          rw [show nI (s + 1) - nI s = nI 1 from (nI_sb (by omega)).trans (by rw [Nat.add_sub_cancel_left])]
          refine p_putI 9 21 344 rfl dX9_goes_341 fl_X9_145 rfl rfl (Or.inl rfl) ?_
          exact p_vret dX9_goes_344 rfl ⟨rfl, by
       rw [adv_tok hsk hsz, if_neg (show ¬ (kOf (tx s) = 1 ∨ kOf (tx s) = 2) by rw [hk3]; decide), if_neg (show ¬ kOf (tx s) = 2 by rw [hk3]; decide)]
       show TkM _ tx z (kOf (tx s)) s (s + 1) _
       rw [hk3]
       exact ⟨⟨(hI_sIo (by decide)).trans ((hI_sIo (by decide)).trans ((hI_sIo (by decide)).trans i17)), (hI_sIo (by decide)).trans ((hI_sIo (by decide)).trans (hI_sI _ _ _ _)), (hI_sIo (by decide)).trans (hI_sI _ _ _ _), (hI_sIo (by decide)).trans ((hI_sIo (by decide)).trans ((hI_sIo (by decide)).trans i20)), (hI_sI _ _ _ _).trans (by rw [Nat.add_sub_cancel_left])⟩, (fun w => absurd w (by decide)), (fun _ => ((hI_sIo (by decide)).trans ((hI_sIo (by decide)).trans ((hI_sIo (by decide)).trans i23))).trans (by rw [bAt, if_pos hsz])), (fun w => absurd w (by decide)), ⟨by omega, by omega⟩, fun w => absurd w (by decide)⟩, ((hF5.tr (Fj.sI (by simp))).tr (Fj.sI (by simp))).tr (Fj.sI (by simp))⟩
        · refine p_iload_n 1 276 rfl rfl dX9_goes_275 rfl ?_
          refine p_bipush (40) 278 rfl dX9_goes_276 rfl ?_
          refine p_icmp_eq 323 281 rfl rfl dX9_goes_278 (fun h278 => ?_) (fun h278 => ?_)
          · have hbe : tx s = 40 := by
              have := nI_eqI (show nI (bAt tx z s) = nI 40 from h278) (by have := bAt_lt (z := z) (k := s) htx; omega) (by decide)
              rwa [bAt, if_pos hsz] at this
            have hk3 : kOf (tx s) = 3 := by rw [hbe]; decide
            refine p_iconst (3) 324 rfl dX9_goes_323 rfl ?_
            refine p_goto 328 rfl dX9_goes_324 ?_
            refine p_putI 9 19 331 rfl dX9_goes_328 fl_X9_135 rfl rfl (Or.inl rfl) ?_
            refine p_aload_n 0 332 rfl rfl dX9_goes_331 rfl ?_
            refine p_aload_n 0 333 rfl rfl dX9_goes_332 rfl ?_
            refine p_getIE 9 18 336 rfl dX9_goes_333 fl_X9_115 rfl rfl (by first | exact (hI_sIo (by decide)).trans i18 | exact (hI_sIo (by decide)).trans (hI_sI _ _ _ _)) ?_
            refine p_aload_n 0 337 rfl rfl dX9_goes_336 rfl ?_
            refine p_getIE 9 20 340 rfl dX9_goes_337 fl_X9_122 rfl rfl (by first | exact (hI_sIo (by decide)).trans i20 | exact (hI_sIo (by decide)).trans ((hI_sIo (by decide)).trans i20)) ?_
            refine p_isub 341 rfl dX9_goes_340 ?_
            rw [show nI (s + 1) - nI s = nI 1 from (nI_sb (by omega)).trans (by rw [Nat.add_sub_cancel_left])]
            refine p_putI 9 21 344 rfl dX9_goes_341 fl_X9_145 rfl rfl (Or.inl rfl) ?_
            exact p_vret dX9_goes_344 rfl ⟨rfl, by
       rw [adv_tok hsk hsz, if_neg (show ¬ (kOf (tx s) = 1 ∨ kOf (tx s) = 2) by rw [hk3]; decide), if_neg (show ¬ kOf (tx s) = 2 by rw [hk3]; decide)]
       show TkM _ tx z (kOf (tx s)) s (s + 1) _
       rw [hk3]
       exact ⟨⟨(hI_sIo (by decide)).trans ((hI_sIo (by decide)).trans ((hI_sIo (by decide)).trans i17)), (hI_sIo (by decide)).trans ((hI_sIo (by decide)).trans (hI_sI _ _ _ _)), (hI_sIo (by decide)).trans (hI_sI _ _ _ _), (hI_sIo (by decide)).trans ((hI_sIo (by decide)).trans ((hI_sIo (by decide)).trans i20)), (hI_sI _ _ _ _).trans (by rw [Nat.add_sub_cancel_left])⟩, (fun w => absurd w (by decide)), (fun _ => ((hI_sIo (by decide)).trans ((hI_sIo (by decide)).trans ((hI_sIo (by decide)).trans i23))).trans (by rw [bAt, if_pos hsz])), (fun w => absurd w (by decide)), ⟨by omega, by omega⟩, fun w => absurd w (by decide)⟩, ((hF5.tr (Fj.sI (by simp))).tr (Fj.sI (by simp))).tr (Fj.sI (by simp))⟩
          · refine p_iload_n 1 282 rfl rfl dX9_goes_281 rfl ?_
            refine p_bipush (41) 284 rfl dX9_goes_282 rfl ?_
            refine p_icmp_eq 323 287 rfl rfl dX9_goes_284 (fun h284 => ?_) (fun h284 => ?_)
            · have hbe : tx s = 41 := by
                have := nI_eqI (show nI (bAt tx z s) = nI 41 from h284) (by have := bAt_lt (z := z) (k := s) htx; omega) (by decide)
                rwa [bAt, if_pos hsz] at this
              have hk3 : kOf (tx s) = 3 := by rw [hbe]; decide
              refine p_iconst (3) 324 rfl dX9_goes_323 rfl ?_
              refine p_goto 328 rfl dX9_goes_324 ?_
              refine p_putI 9 19 331 rfl dX9_goes_328 fl_X9_135 rfl rfl (Or.inl rfl) ?_
              refine p_aload_n 0 332 rfl rfl dX9_goes_331 rfl ?_
              refine p_aload_n 0 333 rfl rfl dX9_goes_332 rfl ?_
              refine p_getIE 9 18 336 rfl dX9_goes_333 fl_X9_115 rfl rfl (by first | exact (hI_sIo (by decide)).trans i18 | exact (hI_sIo (by decide)).trans (hI_sI _ _ _ _)) ?_
              refine p_aload_n 0 337 rfl rfl dX9_goes_336 rfl ?_
              refine p_getIE 9 20 340 rfl dX9_goes_337 fl_X9_122 rfl rfl (by first | exact (hI_sIo (by decide)).trans i20 | exact (hI_sIo (by decide)).trans ((hI_sIo (by decide)).trans i20)) ?_
              refine p_isub 341 rfl dX9_goes_340 ?_
              rw [show nI (s + 1) - nI s = nI 1 from (nI_sb (by omega)).trans (by rw [Nat.add_sub_cancel_left])]
              refine p_putI 9 21 344 rfl dX9_goes_341 fl_X9_145 rfl rfl (Or.inl rfl) ?_
              exact p_vret dX9_goes_344 rfl ⟨rfl, by
       rw [adv_tok hsk hsz, if_neg (show ¬ (kOf (tx s) = 1 ∨ kOf (tx s) = 2) by rw [hk3]; decide), if_neg (show ¬ kOf (tx s) = 2 by rw [hk3]; decide)]
       show TkM _ tx z (kOf (tx s)) s (s + 1) _
       rw [hk3]
       exact ⟨⟨(hI_sIo (by decide)).trans ((hI_sIo (by decide)).trans ((hI_sIo (by decide)).trans i17)), (hI_sIo (by decide)).trans ((hI_sIo (by decide)).trans (hI_sI _ _ _ _)), (hI_sIo (by decide)).trans (hI_sI _ _ _ _), (hI_sIo (by decide)).trans ((hI_sIo (by decide)).trans ((hI_sIo (by decide)).trans i20)), (hI_sI _ _ _ _).trans (by rw [Nat.add_sub_cancel_left])⟩, (fun w => absurd w (by decide)), (fun _ => ((hI_sIo (by decide)).trans ((hI_sIo (by decide)).trans ((hI_sIo (by decide)).trans i23))).trans (by rw [bAt, if_pos hsz])), (fun w => absurd w (by decide)), ⟨by omega, by omega⟩, fun w => absurd w (by decide)⟩, ((hF5.tr (Fj.sI (by simp))).tr (Fj.sI (by simp))).tr (Fj.sI (by simp))⟩
            · refine p_iload_n 1 288 rfl rfl dX9_goes_287 rfl ?_
              refine p_bipush (43) 290 rfl dX9_goes_288 rfl ?_
              refine p_icmp_eq 323 293 rfl rfl dX9_goes_290 (fun h290 => ?_) (fun h290 => ?_)
              · have hbe : tx s = 43 := by
                  have := nI_eqI (show nI (bAt tx z s) = nI 43 from h290) (by have := bAt_lt (z := z) (k := s) htx; omega) (by decide)
                  rwa [bAt, if_pos hsz] at this
                have hk3 : kOf (tx s) = 3 := by rw [hbe]; decide
                refine p_iconst (3) 324 rfl dX9_goes_323 rfl ?_
                refine p_goto 328 rfl dX9_goes_324 ?_
                refine p_putI 9 19 331 rfl dX9_goes_328 fl_X9_135 rfl rfl (Or.inl rfl) ?_
                refine p_aload_n 0 332 rfl rfl dX9_goes_331 rfl ?_
                refine p_aload_n 0 333 rfl rfl dX9_goes_332 rfl ?_
                refine p_getIE 9 18 336 rfl dX9_goes_333 fl_X9_115 rfl rfl (by first | exact (hI_sIo (by decide)).trans i18 | exact (hI_sIo (by decide)).trans (hI_sI _ _ _ _)) ?_
                refine p_aload_n 0 337 rfl rfl dX9_goes_336 rfl ?_
                refine p_getIE 9 20 340 rfl dX9_goes_337 fl_X9_122 rfl rfl (by first | exact (hI_sIo (by decide)).trans i20 | exact (hI_sIo (by decide)).trans ((hI_sIo (by decide)).trans i20)) ?_
                refine p_isub 341 rfl dX9_goes_340 ?_
                rw [show nI (s + 1) - nI s = nI 1 from (nI_sb (by omega)).trans (by rw [Nat.add_sub_cancel_left])]
                refine p_putI 9 21 344 rfl dX9_goes_341 fl_X9_145 rfl rfl (Or.inl rfl) ?_
                exact p_vret dX9_goes_344 rfl ⟨rfl, by
       rw [adv_tok hsk hsz, if_neg (show ¬ (kOf (tx s) = 1 ∨ kOf (tx s) = 2) by rw [hk3]; decide), if_neg (show ¬ kOf (tx s) = 2 by rw [hk3]; decide)]
       show TkM _ tx z (kOf (tx s)) s (s + 1) _
       rw [hk3]
       exact ⟨⟨(hI_sIo (by decide)).trans ((hI_sIo (by decide)).trans ((hI_sIo (by decide)).trans i17)), (hI_sIo (by decide)).trans ((hI_sIo (by decide)).trans (hI_sI _ _ _ _)), (hI_sIo (by decide)).trans (hI_sI _ _ _ _), (hI_sIo (by decide)).trans ((hI_sIo (by decide)).trans ((hI_sIo (by decide)).trans i20)), (hI_sI _ _ _ _).trans (by rw [Nat.add_sub_cancel_left])⟩, (fun w => absurd w (by decide)), (fun _ => ((hI_sIo (by decide)).trans ((hI_sIo (by decide)).trans ((hI_sIo (by decide)).trans i23))).trans (by rw [bAt, if_pos hsz])), (fun w => absurd w (by decide)), ⟨by omega, by omega⟩, fun w => absurd w (by decide)⟩, ((hF5.tr (Fj.sI (by simp))).tr (Fj.sI (by simp))).tr (Fj.sI (by simp))⟩
              · refine p_iload_n 1 294 rfl rfl dX9_goes_293 rfl ?_
                refine p_bipush (45) 296 rfl dX9_goes_294 rfl ?_
                refine p_icmp_eq 323 299 rfl rfl dX9_goes_296 (fun h296 => ?_) (fun h296 => ?_)
                · have hbe : tx s = 45 := by
                    have := nI_eqI (show nI (bAt tx z s) = nI 45 from h296) (by have := bAt_lt (z := z) (k := s) htx; omega) (by decide)
                    rwa [bAt, if_pos hsz] at this
                  have hk3 : kOf (tx s) = 3 := by rw [hbe]; decide
                  refine p_iconst (3) 324 rfl dX9_goes_323 rfl ?_
                  refine p_goto 328 rfl dX9_goes_324 ?_
                  refine p_putI 9 19 331 rfl dX9_goes_328 fl_X9_135 rfl rfl (Or.inl rfl) ?_
                  refine p_aload_n 0 332 rfl rfl dX9_goes_331 rfl ?_
                  refine p_aload_n 0 333 rfl rfl dX9_goes_332 rfl ?_
                  refine p_getIE 9 18 336 rfl dX9_goes_333 fl_X9_115 rfl rfl (by first | exact (hI_sIo (by decide)).trans i18 | exact (hI_sIo (by decide)).trans (hI_sI _ _ _ _)) ?_
                  refine p_aload_n 0 337 rfl rfl dX9_goes_336 rfl ?_
                  refine p_getIE 9 20 340 rfl dX9_goes_337 fl_X9_122 rfl rfl (by first | exact (hI_sIo (by decide)).trans i20 | exact (hI_sIo (by decide)).trans ((hI_sIo (by decide)).trans i20)) ?_
                  refine p_isub 341 rfl dX9_goes_340 ?_
                  rw [show nI (s + 1) - nI s = nI 1 from (nI_sb (by omega)).trans (by rw [Nat.add_sub_cancel_left])]
                  refine p_putI 9 21 344 rfl dX9_goes_341 fl_X9_145 rfl rfl (Or.inl rfl) ?_
                  exact p_vret dX9_goes_344 rfl ⟨rfl, by
       rw [adv_tok hsk hsz, if_neg (show ¬ (kOf (tx s) = 1 ∨ kOf (tx s) = 2) by rw [hk3]; decide), if_neg (show ¬ kOf (tx s) = 2 by rw [hk3]; decide)]
       show TkM _ tx z (kOf (tx s)) s (s + 1) _
       rw [hk3]
       exact ⟨⟨(hI_sIo (by decide)).trans ((hI_sIo (by decide)).trans ((hI_sIo (by decide)).trans i17)), (hI_sIo (by decide)).trans ((hI_sIo (by decide)).trans (hI_sI _ _ _ _)), (hI_sIo (by decide)).trans (hI_sI _ _ _ _), (hI_sIo (by decide)).trans ((hI_sIo (by decide)).trans ((hI_sIo (by decide)).trans i20)), (hI_sI _ _ _ _).trans (by rw [Nat.add_sub_cancel_left])⟩, (fun w => absurd w (by decide)), (fun _ => ((hI_sIo (by decide)).trans ((hI_sIo (by decide)).trans ((hI_sIo (by decide)).trans i23))).trans (by rw [bAt, if_pos hsz])), (fun w => absurd w (by decide)), ⟨by omega, by omega⟩, fun w => absurd w (by decide)⟩, ((hF5.tr (Fj.sI (by simp))).tr (Fj.sI (by simp))).tr (Fj.sI (by simp))⟩
                · refine p_iload_n 1 300 rfl rfl dX9_goes_299 rfl ?_
                  refine p_bipush (42) 302 rfl dX9_goes_300 rfl ?_
                  refine p_icmp_eq 323 305 rfl rfl dX9_goes_302 (fun h302 => ?_) (fun h302 => ?_)
                  · have hbe : tx s = 42 := by
                      have := nI_eqI (show nI (bAt tx z s) = nI 42 from h302) (by have := bAt_lt (z := z) (k := s) htx; omega) (by decide)
                      rwa [bAt, if_pos hsz] at this
                    have hk3 : kOf (tx s) = 3 := by rw [hbe]; decide
                    refine p_iconst (3) 324 rfl dX9_goes_323 rfl ?_
                    refine p_goto 328 rfl dX9_goes_324 ?_
                    refine p_putI 9 19 331 rfl dX9_goes_328 fl_X9_135 rfl rfl (Or.inl rfl) ?_
                    refine p_aload_n 0 332 rfl rfl dX9_goes_331 rfl ?_
                    refine p_aload_n 0 333 rfl rfl dX9_goes_332 rfl ?_
                    refine p_getIE 9 18 336 rfl dX9_goes_333 fl_X9_115 rfl rfl (by first | exact (hI_sIo (by decide)).trans i18 | exact (hI_sIo (by decide)).trans (hI_sI _ _ _ _)) ?_
                    refine p_aload_n 0 337 rfl rfl dX9_goes_336 rfl ?_
                    refine p_getIE 9 20 340 rfl dX9_goes_337 fl_X9_122 rfl rfl (by first | exact (hI_sIo (by decide)).trans i20 | exact (hI_sIo (by decide)).trans ((hI_sIo (by decide)).trans i20)) ?_
                    refine p_isub 341 rfl dX9_goes_340 ?_
                    rw [show nI (s + 1) - nI s = nI 1 from (nI_sb (by omega)).trans (by rw [Nat.add_sub_cancel_left])]
                    refine p_putI 9 21 344 rfl dX9_goes_341 fl_X9_145 rfl rfl (Or.inl rfl) ?_
                    exact p_vret dX9_goes_344 rfl ⟨rfl, by
       rw [adv_tok hsk hsz, if_neg (show ¬ (kOf (tx s) = 1 ∨ kOf (tx s) = 2) by rw [hk3]; decide), if_neg (show ¬ kOf (tx s) = 2 by rw [hk3]; decide)]
       show TkM _ tx z (kOf (tx s)) s (s + 1) _
       rw [hk3]
       exact ⟨⟨(hI_sIo (by decide)).trans ((hI_sIo (by decide)).trans ((hI_sIo (by decide)).trans i17)), (hI_sIo (by decide)).trans ((hI_sIo (by decide)).trans (hI_sI _ _ _ _)), (hI_sIo (by decide)).trans (hI_sI _ _ _ _), (hI_sIo (by decide)).trans ((hI_sIo (by decide)).trans ((hI_sIo (by decide)).trans i20)), (hI_sI _ _ _ _).trans (by rw [Nat.add_sub_cancel_left])⟩, (fun w => absurd w (by decide)), (fun _ => ((hI_sIo (by decide)).trans ((hI_sIo (by decide)).trans ((hI_sIo (by decide)).trans i23))).trans (by rw [bAt, if_pos hsz])), (fun w => absurd w (by decide)), ⟨by omega, by omega⟩, fun w => absurd w (by decide)⟩, ((hF5.tr (Fj.sI (by simp))).tr (Fj.sI (by simp))).tr (Fj.sI (by simp))⟩
                  · refine p_iload_n 1 306 rfl rfl dX9_goes_305 rfl ?_
                    refine p_bipush (47) 308 rfl dX9_goes_306 rfl ?_
                    refine p_icmp_eq 323 311 rfl rfl dX9_goes_308 (fun h308 => ?_) (fun h308 => ?_)
                    · have hbe : tx s = 47 := by
                        have := nI_eqI (show nI (bAt tx z s) = nI 47 from h308) (by have := bAt_lt (z := z) (k := s) htx; omega) (by decide)
                        rwa [bAt, if_pos hsz] at this
                      have hk3 : kOf (tx s) = 3 := by rw [hbe]; decide
                      refine p_iconst (3) 324 rfl dX9_goes_323 rfl ?_
                      refine p_goto 328 rfl dX9_goes_324 ?_
                      refine p_putI 9 19 331 rfl dX9_goes_328 fl_X9_135 rfl rfl (Or.inl rfl) ?_
                      refine p_aload_n 0 332 rfl rfl dX9_goes_331 rfl ?_
                      refine p_aload_n 0 333 rfl rfl dX9_goes_332 rfl ?_
                      refine p_getIE 9 18 336 rfl dX9_goes_333 fl_X9_115 rfl rfl (by first | exact (hI_sIo (by decide)).trans i18 | exact (hI_sIo (by decide)).trans (hI_sI _ _ _ _)) ?_
                      refine p_aload_n 0 337 rfl rfl dX9_goes_336 rfl ?_
                      refine p_getIE 9 20 340 rfl dX9_goes_337 fl_X9_122 rfl rfl (by first | exact (hI_sIo (by decide)).trans i20 | exact (hI_sIo (by decide)).trans ((hI_sIo (by decide)).trans i20)) ?_
                      refine p_isub 341 rfl dX9_goes_340 ?_
                      rw [show nI (s + 1) - nI s = nI 1 from (nI_sb (by omega)).trans (by rw [Nat.add_sub_cancel_left])]
                      refine p_putI 9 21 344 rfl dX9_goes_341 fl_X9_145 rfl rfl (Or.inl rfl) ?_
                      exact p_vret dX9_goes_344 rfl ⟨rfl, by
       rw [adv_tok hsk hsz, if_neg (show ¬ (kOf (tx s) = 1 ∨ kOf (tx s) = 2) by rw [hk3]; decide), if_neg (show ¬ kOf (tx s) = 2 by rw [hk3]; decide)]
       show TkM _ tx z (kOf (tx s)) s (s + 1) _
       rw [hk3]
       exact ⟨⟨(hI_sIo (by decide)).trans ((hI_sIo (by decide)).trans ((hI_sIo (by decide)).trans i17)), (hI_sIo (by decide)).trans ((hI_sIo (by decide)).trans (hI_sI _ _ _ _)), (hI_sIo (by decide)).trans (hI_sI _ _ _ _), (hI_sIo (by decide)).trans ((hI_sIo (by decide)).trans ((hI_sIo (by decide)).trans i20)), (hI_sI _ _ _ _).trans (by rw [Nat.add_sub_cancel_left])⟩, (fun w => absurd w (by decide)), (fun _ => ((hI_sIo (by decide)).trans ((hI_sIo (by decide)).trans ((hI_sIo (by decide)).trans i23))).trans (by rw [bAt, if_pos hsz])), (fun w => absurd w (by decide)), ⟨by omega, by omega⟩, fun w => absurd w (by decide)⟩, ((hF5.tr (Fj.sI (by simp))).tr (Fj.sI (by simp))).tr (Fj.sI (by simp))⟩
                    · refine p_iload_n 1 312 rfl rfl dX9_goes_311 rfl ?_
                      refine p_bipush (60) 314 rfl dX9_goes_312 rfl ?_
                      refine p_icmp_eq 323 317 rfl rfl dX9_goes_314 (fun h314 => ?_) (fun h314 => ?_)
                      · have hbe : tx s = 60 := by
                          have := nI_eqI (show nI (bAt tx z s) = nI 60 from h314) (by have := bAt_lt (z := z) (k := s) htx; omega) (by decide)
                          rwa [bAt, if_pos hsz] at this
                        have hk3 : kOf (tx s) = 3 := by rw [hbe]; decide
                        refine p_iconst (3) 324 rfl dX9_goes_323 rfl ?_
                        refine p_goto 328 rfl dX9_goes_324 ?_
                        refine p_putI 9 19 331 rfl dX9_goes_328 fl_X9_135 rfl rfl (Or.inl rfl) ?_
                        refine p_aload_n 0 332 rfl rfl dX9_goes_331 rfl ?_
                        refine p_aload_n 0 333 rfl rfl dX9_goes_332 rfl ?_
                        refine p_getIE 9 18 336 rfl dX9_goes_333 fl_X9_115 rfl rfl (by first | exact (hI_sIo (by decide)).trans i18 | exact (hI_sIo (by decide)).trans (hI_sI _ _ _ _)) ?_
                        refine p_aload_n 0 337 rfl rfl dX9_goes_336 rfl ?_
                        refine p_getIE 9 20 340 rfl dX9_goes_337 fl_X9_122 rfl rfl (by first | exact (hI_sIo (by decide)).trans i20 | exact (hI_sIo (by decide)).trans ((hI_sIo (by decide)).trans i20)) ?_
                        refine p_isub 341 rfl dX9_goes_340 ?_
                        rw [show nI (s + 1) - nI s = nI 1 from (nI_sb (by omega)).trans (by rw [Nat.add_sub_cancel_left])]
                        refine p_putI 9 21 344 rfl dX9_goes_341 fl_X9_145 rfl rfl (Or.inl rfl) ?_
                        exact p_vret dX9_goes_344 rfl ⟨rfl, by
       rw [adv_tok hsk hsz, if_neg (show ¬ (kOf (tx s) = 1 ∨ kOf (tx s) = 2) by rw [hk3]; decide), if_neg (show ¬ kOf (tx s) = 2 by rw [hk3]; decide)]
       show TkM _ tx z (kOf (tx s)) s (s + 1) _
       rw [hk3]
       exact ⟨⟨(hI_sIo (by decide)).trans ((hI_sIo (by decide)).trans ((hI_sIo (by decide)).trans i17)), (hI_sIo (by decide)).trans ((hI_sIo (by decide)).trans (hI_sI _ _ _ _)), (hI_sIo (by decide)).trans (hI_sI _ _ _ _), (hI_sIo (by decide)).trans ((hI_sIo (by decide)).trans ((hI_sIo (by decide)).trans i20)), (hI_sI _ _ _ _).trans (by rw [Nat.add_sub_cancel_left])⟩, (fun w => absurd w (by decide)), (fun _ => ((hI_sIo (by decide)).trans ((hI_sIo (by decide)).trans ((hI_sIo (by decide)).trans i23))).trans (by rw [bAt, if_pos hsz])), (fun w => absurd w (by decide)), ⟨by omega, by omega⟩, fun w => absurd w (by decide)⟩, ((hF5.tr (Fj.sI (by simp))).tr (Fj.sI (by simp))).tr (Fj.sI (by simp))⟩
                      · refine p_iload_n 1 318 rfl rfl dX9_goes_317 rfl ?_
                        refine p_bipush (61) 320 rfl dX9_goes_318 rfl ?_
                        refine p_icmp_ne 327 323 rfl rfl dX9_goes_320 (fun h320 => ?_) (fun h320 => ?_)
                        · have n59 : ¬ tx s = 59 := fun e => h272 (by rw [bAt, if_pos hsz, e]; rfl)
                          have n40 : ¬ tx s = 40 := fun e => h278 (by rw [bAt, if_pos hsz, e]; rfl)
                          have n41 : ¬ tx s = 41 := fun e => h284 (by rw [bAt, if_pos hsz, e]; rfl)
                          have n43 : ¬ tx s = 43 := fun e => h290 (by rw [bAt, if_pos hsz, e]; rfl)
                          have n45 : ¬ tx s = 45 := fun e => h296 (by rw [bAt, if_pos hsz, e]; rfl)
                          have n42 : ¬ tx s = 42 := fun e => h302 (by rw [bAt, if_pos hsz, e]; rfl)
                          have n47 : ¬ tx s = 47 := fun e => h308 (by rw [bAt, if_pos hsz, e]; rfl)
                          have n60 : ¬ tx s = 60 := fun e => h314 (by rw [bAt, if_pos hsz, e]; rfl)
                          have n61 : ¬ tx s = 61 := fun e => h320 (by rw [bAt, if_pos hsz, e]; rfl)
                          have hk3 : kOf (tx s) = 4 := by
                            rw [hks, if_neg (by unfold sgn; simp [n59, n40, n41, n43, n45, n42, n47, n60, n61])]
                          refine p_iconst (4) 328 rfl dX9_goes_327 rfl ?_
                          refine p_putI 9 19 331 rfl dX9_goes_328 fl_X9_135 rfl rfl (Or.inl rfl) ?_
                          refine p_aload_n 0 332 rfl rfl dX9_goes_331 rfl ?_
                          refine p_aload_n 0 333 rfl rfl dX9_goes_332 rfl ?_
                          refine p_getIE 9 18 336 rfl dX9_goes_333 fl_X9_115 rfl rfl (by first | exact (hI_sIo (by decide)).trans i18 | exact (hI_sIo (by decide)).trans (hI_sI _ _ _ _)) ?_
                          refine p_aload_n 0 337 rfl rfl dX9_goes_336 rfl ?_
                          refine p_getIE 9 20 340 rfl dX9_goes_337 fl_X9_122 rfl rfl (by first | exact (hI_sIo (by decide)).trans i20 | exact (hI_sIo (by decide)).trans ((hI_sIo (by decide)).trans i20)) ?_
                          refine p_isub 341 rfl dX9_goes_340 ?_
                          rw [show nI (s + 1) - nI s = nI 1 from (nI_sb (by omega)).trans (by rw [Nat.add_sub_cancel_left])]
                          refine p_putI 9 21 344 rfl dX9_goes_341 fl_X9_145 rfl rfl (Or.inl rfl) ?_
                          exact p_vret dX9_goes_344 rfl ⟨rfl, by
       rw [adv_tok hsk hsz, if_neg (show ¬ (kOf (tx s) = 1 ∨ kOf (tx s) = 2) by rw [hk3]; decide), if_neg (show ¬ kOf (tx s) = 2 by rw [hk3]; decide)]
       show TkM _ tx z (kOf (tx s)) s (s + 1) _
       rw [hk3]
       exact ⟨⟨(hI_sIo (by decide)).trans ((hI_sIo (by decide)).trans ((hI_sIo (by decide)).trans i17)), (hI_sIo (by decide)).trans ((hI_sIo (by decide)).trans (hI_sI _ _ _ _)), (hI_sIo (by decide)).trans (hI_sI _ _ _ _), (hI_sIo (by decide)).trans ((hI_sIo (by decide)).trans ((hI_sIo (by decide)).trans i20)), (hI_sI _ _ _ _).trans (by rw [Nat.add_sub_cancel_left])⟩, (fun w => absurd w (by decide)), (fun _ => ((hI_sIo (by decide)).trans ((hI_sIo (by decide)).trans ((hI_sIo (by decide)).trans i23))).trans (by rw [bAt, if_pos hsz])), (fun w => absurd w (by decide)), ⟨by omega, by omega⟩, fun w => absurd w (by decide)⟩, ((hF5.tr (Fj.sI (by simp))).tr (Fj.sI (by simp))).tr (Fj.sI (by simp))⟩
                        · have hbe : tx s = 61 := by
                            have := nI_eqI (show nI (bAt tx z s) = nI 61 from h320) (by have := bAt_lt (z := z) (k := s) htx; omega) (by decide)
                            rwa [bAt, if_pos hsz] at this
                          have hk3 : kOf (tx s) = 3 := by rw [hbe]; decide
                          refine p_iconst (3) 324 rfl dX9_goes_323 rfl ?_
                          refine p_goto 328 rfl dX9_goes_324 ?_
                          refine p_putI 9 19 331 rfl dX9_goes_328 fl_X9_135 rfl rfl (Or.inl rfl) ?_
                          refine p_aload_n 0 332 rfl rfl dX9_goes_331 rfl ?_
                          refine p_aload_n 0 333 rfl rfl dX9_goes_332 rfl ?_
                          refine p_getIE 9 18 336 rfl dX9_goes_333 fl_X9_115 rfl rfl (by first | exact (hI_sIo (by decide)).trans i18 | exact (hI_sIo (by decide)).trans (hI_sI _ _ _ _)) ?_
                          refine p_aload_n 0 337 rfl rfl dX9_goes_336 rfl ?_
                          refine p_getIE 9 20 340 rfl dX9_goes_337 fl_X9_122 rfl rfl (by first | exact (hI_sIo (by decide)).trans i20 | exact (hI_sIo (by decide)).trans ((hI_sIo (by decide)).trans i20)) ?_
                          refine p_isub 341 rfl dX9_goes_340 ?_
                          rw [show nI (s + 1) - nI s = nI 1 from (nI_sb (by omega)).trans (by rw [Nat.add_sub_cancel_left])]
                          refine p_putI 9 21 344 rfl dX9_goes_341 fl_X9_145 rfl rfl (Or.inl rfl) ?_
                          exact p_vret dX9_goes_344 rfl ⟨rfl, by
       rw [adv_tok hsk hsz, if_neg (show ¬ (kOf (tx s) = 1 ∨ kOf (tx s) = 2) by rw [hk3]; decide), if_neg (show ¬ kOf (tx s) = 2 by rw [hk3]; decide)]
       show TkM _ tx z (kOf (tx s)) s (s + 1) _
       rw [hk3]
       exact ⟨⟨(hI_sIo (by decide)).trans ((hI_sIo (by decide)).trans ((hI_sIo (by decide)).trans i17)), (hI_sIo (by decide)).trans ((hI_sIo (by decide)).trans (hI_sI _ _ _ _)), (hI_sIo (by decide)).trans (hI_sI _ _ _ _), (hI_sIo (by decide)).trans ((hI_sIo (by decide)).trans ((hI_sIo (by decide)).trans i20)), (hI_sI _ _ _ _).trans (by rw [Nat.add_sub_cancel_left])⟩, (fun w => absurd w (by decide)), (fun _ => ((hI_sIo (by decide)).trans ((hI_sIo (by decide)).trans ((hI_sIo (by decide)).trans i23))).trans (by rw [bAt, if_pos hsz])), (fun w => absurd w (by decide)), ⟨by omega, by omega⟩, fun w => absurd w (by decide)⟩, ((hF5.tr (Fj.sI (by simp))).tr (Fj.sI (by simp))).tr (Fj.sI (by simp))⟩
      · have hb1 := of_decide_eq_true (b2i_t h184)
        rw [show bAt tx z s = tx s from if_pos hsz] at hb1
        have hk1 : kOf (tx s) = 2 := kOf_d.mpr hb1
        refine Ok.mono (l_gDig (σ := τ) (n := 0) hT5 hsz (z - s) 0 τ (by omega) rfl i17 i18 i20 (i23.trans (by rw [bAt, if_pos hsz])) (fun _ => i22) (fun j h1 h2 => absurd h2 (by omega)) Fj.rf) ?_
        rintro o1 σ' ⟨e0, e1, e2⟩
        refine ⟨e0, ?_, hF5.tr e2⟩
        rw [adv_tok hsk hsz, if_pos (Or.inr hk1), if_pos hk1]
        show TkM _ tx z (kOf (tx s)) s (run tx (kOf (tx s)) (z - (s + 1)) (s + 1)) (num tx s (run tx (kOf (tx s)) (z - (s + 1)) (s + 1)))
        rw [hk1, ← run_1 hsz hk1]; exact e1
    · have hb1 := of_decide_eq_true (b2i_t h105)
      rw [show bAt tx z s = tx s from if_pos hsz] at hb1
      have hk1 : kOf (tx s) = 1 := kOf_1.mpr hb1
      refine Ok.mono (l_gLet (σ := τ) (n := S.2.2.2.2.2) hT5 hsz (z - s) 0 τ (by omega) rfl i17 i18 i20 (i23.trans (by rw [bAt, if_pos hsz])) (fun _ => i24) (fun j h1 h2 => absurd h2 (by omega)) Fj.rf) ?_
      rintro o1 σ' ⟨e0, e1, e2⟩
      refine ⟨e0, ?_, hF5.tr e2⟩
      rw [adv_tok hsk hsz, if_pos (Or.inl hk1), if_neg (show ¬ kOf (tx s) = 2 by rw [hk1]; decide)]
      show TkM _ tx z (kOf (tx s)) s (run tx (kOf (tx s)) (z - (s + 1)) (s + 1)) _
      rw [hk1, ← run_1 hsz hk1]; exact e1
  · refine p_aload_n 0 94 rfl rfl dX9_goes_93 rfl ?_
    refine p_iconst (0) 95 rfl dX9_goes_94 rfl ?_
    refine p_putI 9 19 98 rfl dX9_goes_95 fl_X9_135 rfl rfl (Or.inl rfl) ?_
    refine p_goto 331 rfl dX9_goes_98 ?_
    refine p_aload_n 0 332 rfl rfl dX9_goes_331 rfl ?_
    refine p_aload_n 0 333 rfl rfl dX9_goes_332 rfl ?_
    refine p_getIE 9 18 336 rfl dX9_goes_333 fl_X9_115 rfl rfl (by first | exact (hI_sIo (by decide)).trans i18 | exact (hI_sIo (by decide)).trans (hI_sI _ _ _ _)) ?_
    refine p_aload_n 0 337 rfl rfl dX9_goes_336 rfl ?_
    refine p_getIE 9 20 340 rfl dX9_goes_337 fl_X9_122 rfl rfl (by first | exact (hI_sIo (by decide)).trans i20 | exact (hI_sIo (by decide)).trans ((hI_sIo (by decide)).trans i20)) ?_
    refine p_isub 341 rfl dX9_goes_340 ?_
    rw [show nI s - nI s = nI 0 from (nI_sb (Nat.le_refl _)).trans (by rw [Nat.sub_self])]
    refine p_putI 9 21 344 rfl dX9_goes_341 fl_X9_145 rfl rfl (Or.inl rfl) ?_
    exact p_vret dX9_goes_344 rfl ⟨rfl, by
       have hzs : z ≤ s := (Nat.lt_or_ge s z).elim (fun w => absurd (nI_lt w (by omega)) h90) id
       rw [adv_end hsk hzs]
       show TkM _ tx z 0 s s _
       exact ⟨⟨(hI_sIo (by decide)).trans ((hI_sIo (by decide)).trans i17), (hI_sIo (by decide)).trans ((hI_sIo (by decide)).trans i18), (hI_sIo (by decide)).trans (hI_sI _ _ _ _), (hI_sIo (by decide)).trans ((hI_sIo (by decide)).trans i20), (hI_sI _ _ _ _).trans (by rw [Nat.sub_self])⟩, (fun w => absurd w (by decide)), (fun w => absurd rfl w), (fun w => absurd w (by decide)), ⟨Nat.le_refl _, hsz0⟩, fun w => absurd w (by decide)⟩, (hF5.tr (Fj.sI (by simp))).tr (Fj.sI (by simp))⟩
set_option maxRecDepth 4000 in
theorem l_goes (hT : TpM σ tx z) {S : RS} {x1 : Option Value} : ∀ (m e : Nat) (σ1 : PH), e + m = z → skp tx (z - e) e = skp tx (z - S.2.2.2.2.1) S.2.2.2.2.1 → hI σ1 M0 17 = nI z → hI σ1 M0 18 = nI e → Fj [18, 19, 20, 21, 22, 23] [] σ σ1 → Ok Γ 4 0 0 mX9_goes 0 [some (.ref M0), x1] [] σ1 (rV (fun σ' => TkS σ' tx z (adv tx z S) ∧ Fj [18, 19, 20, 21, 22, 23] [] σ σ')) := by
  have hz7 := hT.2.1
  have htx := hT.2.2.1
  intro m
  induction m with
  | zero =>
    intro e σ1 he hsk h17 h18 hF
    have hT1 := hT.fr hF rfl
    refine p_aload_n 0 1 rfl rfl dX9_goes_0 rfl ?_
    refine p_getIE 9 18 4 rfl dX9_goes_1 fl_X9_115 rfl rfl h18 ?_
    refine p_aload_n 0 5 rfl rfl dX9_goes_4 rfl ?_
    refine p_getIE 9 17 8 rfl dX9_goes_5 fl_X9_112 rfl rfl h17 ?_
    refine p_icmp_ge 50 11 rfl rfl dX9_goes_8 (fun h8 => ?_) (fun h8 => absurd (nI_le (a := z) (b := e) (by omega) (by omega)) h8)
    refine l_g50 hT (by omega) ?_ h17 h18 hF
    rw [← hsk, show z - e = 0 by omega]; rfl
  | succ m ih =>
    intro e σ1 he hsk h17 h18 hF
    have hT1 := hT.fr hF rfl
    have hez : e < z := by omega
    refine p_aload_n 0 1 rfl rfl dX9_goes_0 rfl ?_
    refine p_getIE 9 18 4 rfl dX9_goes_1 fl_X9_115 rfl rfl h18 ?_
    refine p_aload_n 0 5 rfl rfl dX9_goes_4 rfl ?_
    refine p_getIE 9 17 8 rfl dX9_goes_5 fl_X9_112 rfl rfl h17 ?_
    refine p_icmp_ge 50 11 rfl rfl dX9_goes_8 (fun h8 => absurd h8 (nI_ge (a := e) (b := z) (by omega) (by omega))) (fun h8 => ?_)
    refine p_aload_n 0 12 rfl rfl dX9_goes_11 rfl ?_
    refine p_aload_n 0 13 rfl rfl dX9_goes_12 rfl ?_
    refine p_getIE 9 18 16 rfl dX9_goes_13 fl_X9_115 rfl rfl h18 ?_
    refine p_cV1i 19 rfl dX9_goes_16 (c_byteAt hT1 h17 (by omega)) ml_X9_118 vl_X9_byteAt rfl (by decide) rfl (Nat.le_of_ble_eq_true rfl) (Nat.le_of_ble_eq_true rfl) rfl ?_
    refine p_bipush (32) 21 rfl dX9_goes_19 rfl ?_
    refine p_icmp_eq 37 24 rfl rfl dX9_goes_21 (fun h21 => ?_) (fun h21 => ?_)
    · refine p_aload_n 0 38 rfl rfl dX9_goes_37 rfl ?_
      refine p_dup 39 rfl dX9_goes_38 rfl ?_
      refine p_getIE 9 18 42 rfl dX9_goes_39 fl_X9_115 rfl rfl h18 ?_
      refine p_iconst (1) 43 rfl dX9_goes_42 rfl ?_
      refine p_iadd 44 rfl dX9_goes_43 ?_
      rw [nI_1]
      refine p_putI 9 18 47 rfl dX9_goes_44 fl_X9_115 rfl rfl (Or.inl rfl) ?_
      refine p_goto 0 rfl dX9_goes_47 ?_
      have hbe : tx e = 32 := by
        have := nI_eqI (show nI (bAt tx z e) = nI 32 from h21) (by have := bAt_lt (z := z) (k := e) htx; omega) (by decide)
        rwa [bAt, if_pos hez] at this
      rw [show z - e = (z - (e + 1)) + 1 by omega] at hsk
      simp only [skp] at hsk
      rw [if_pos (Or.inl hbe)] at hsk
      exact ih (e + 1) _ (by omega) hsk ((hI_sIo (by decide)).trans h17) (hI_sI _ _ _ _) (hF.tr (Fj.sI (by simp)))
    · refine p_aload_n 0 25 rfl rfl dX9_goes_24 rfl ?_
      refine p_aload_n 0 26 rfl rfl dX9_goes_25 rfl ?_
      refine p_getIE 9 18 29 rfl dX9_goes_26 fl_X9_115 rfl rfl h18 ?_
      refine p_cV1i 32 rfl dX9_goes_29 (c_byteAt hT1 h17 (by omega)) ml_X9_118 vl_X9_byteAt rfl (by decide) rfl (Nat.le_of_ble_eq_true rfl) (Nat.le_of_ble_eq_true rfl) rfl ?_
      refine p_bipush (10) 34 rfl dX9_goes_32 rfl ?_
      refine p_icmp_ne 50 37 rfl rfl dX9_goes_34 (fun h34 => ?_) (fun h34 => ?_)
      · have n1 : ¬ tx e = 32 := fun q => h21 (by rw [bAt, if_pos hez, q]; rfl)
        have n2 : ¬ tx e = 10 := fun q => h34 (by rw [bAt, if_pos hez, q]; rfl)
        rw [show z - e = (z - (e + 1)) + 1 by omega] at hsk
        simp only [skp] at hsk
        rw [if_neg (fun q => q.elim n1 n2)] at hsk
        exact l_g50 hT (by omega) hsk.symm h17 h18 hF
      · refine p_aload_n 0 38 rfl rfl dX9_goes_37 rfl ?_
        refine p_dup 39 rfl dX9_goes_38 rfl ?_
        refine p_getIE 9 18 42 rfl dX9_goes_39 fl_X9_115 rfl rfl h18 ?_
        refine p_iconst (1) 43 rfl dX9_goes_42 rfl ?_
        refine p_iadd 44 rfl dX9_goes_43 ?_
        rw [nI_1]
        refine p_putI 9 18 47 rfl dX9_goes_44 fl_X9_115 rfl rfl (Or.inl rfl) ?_
        refine p_goto 0 rfl dX9_goes_47 ?_
        have hbe : tx e = 10 := by
          have := nI_eqI (show nI (bAt tx z e) = nI 10 from h34) (by have := bAt_lt (z := z) (k := e) htx; omega) (by decide)
          rwa [bAt, if_pos hez] at this
        rw [show z - e = (z - (e + 1)) + 1 by omega] at hsk
        simp only [skp] at hsk
        rw [if_pos (Or.inr hbe)] at hsk
        exact ih (e + 1) _ (by omega) hsk ((hI_sIo (by decide)).trans h17) (hI_sI _ _ _ _) (hF.tr (Fj.sI (by simp)))
set_option maxRecDepth 4000 in
theorem c_goes (hT : TpM σ tx z) {S : RS} (h17 : hI σ M0 17 = nI z) (h18 : hI σ M0 18 = nI S.2.2.2.2.1) (he : S.2.2.2.2.1 ≤ z) : CallOk Γ 4 0 0 mX9_goes [.ref M0] σ (rV (fun σ' => TkS σ' tx z (adv tx z S) ∧ Fj [18, 19, 20, 21, 22, 23] [] σ σ')) := by
  refine p_enter rfl rfl (Nat.le_of_ble_eq_true rfl) rfl ?_
  exact l_goes hT (z - S.2.2.2.2.1) S.2.2.2.2.1 σ (by omega) rfl h17 h18 Fj.rf
end Ca1
