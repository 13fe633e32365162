/-! ===== the reader: faults, signs, letters, numbers; the office that is built ===== -/
def swd (i : Nat) : List Nat := (stab.getD i ("", 0, "")).2.2.toList.map Char.toNat
theorem sch_swd : ∀ i, i < 31 → ∀ k, k < (swd i).length → sch i k = nI ((swd i).getD k 0) := by decide +kernel
theorem slen_swd : ∀ i, i < 31 → slen.getD i 0 = (swd i).length := by decide +kernel
theorem swd_lt : ∀ i, i < 31 → (∀ k, k < (swd i).length → (swd i).getD k 0 < 128) ∧ (swd i).length < 100 := by decide +kernel
def spF (tx : Nat → Nat) (s : Nat) (w : List Nat) : Nat → Bool
  | 0 => true
  | j + 1 => spF tx s w j && tx (s + j) == w.getD j 0
def spl (tx : Nat → Nat) (S : RS) (w : List Nat) : Bool := S.2.2.1 == 1 && S.2.2.2.2.1 - S.2.2.2.1 == w.length && spF tx S.2.2.2.1 w w.length
theorem spF_f {tx : Nat → Nat} {s : Nat} {w : List Nat} {i : Nat} (h : ¬ tx (s + i) = w.getD i 0) : ∀ n, i < n → spF tx s w n = false := by
  intro n
  induction n with
  | zero => intro q; omega
  | succ n ih =>
    intro q
    simp only [spF]
    rcases Nat.lt_or_ge i n with z | z
    · rw [ih z]; rfl
    · rw [show n = i by omega]
      have : (tx (s + i) == w.getD i 0) = false := by simpa using h
      rw [this, Bool.and_false]
def sta (tx : Nat → Nat) (S : RS) (c : Nat) : Bool := S.2.2.1 == 3 && tx S.2.2.2.1 == c
def fai (z w : Nat) (S : RS) : RS := if S.1 = 0 then (w, nI S.2.2.2.1, 0, z, z, S.2.2.2.2.2) else S
def rdN (tx : Nat → Nat) (z m : Nat) (S : RS) : Nat × RS := if S.2.2.1 = 2 then (if S.2.2.2.2.2 ≤ m then (S.2.2.2.2.2, adv tx z S) else (0, fai z 2 S)) else (0, fai z 1 S)
def rdS (tx : Nat → Nat) (z c : Nat) (S : RS) : RS := if sta tx S c = true then adv tx z S else fai z 1 S
theorem fai_ok {z w : Nat} {S : RS} (h : OkR z S) (hw : w ≤ 5) : OkR z (fai z w S) := by
  unfold fai
  split
  · exact ⟨hw, Nat.zero_le _, Nat.le_refl _, Nat.le_refl _, (fun q => by cases q), fun q => absurd rfl q⟩
  · exact h
theorem rdN_ok {tx : Nat → Nat} {z m : Nat} {S : RS} (h : OkR z S) : OkR z (rdN tx z m S).2 ∧ (rdN tx z m S).1 ≤ m := by
  unfold rdN
  split
  · split
    · exact ⟨adv_ok h, by assumption⟩
    · exact ⟨fai_ok h (by decide), Nat.zero_le _⟩
  · exact ⟨fai_ok h (by decide), Nat.zero_le _⟩
theorem rdS_ok {tx : Nat → Nat} {z c : Nat} {S : RS} (h : OkR z S) : OkR z (rdS tx z c S) := by
  unfold rdS
  split
  · exact adv_ok h
  · exact fai_ok h (by decide)
section C63
variable {Γ : Gm} {σ : PH}
set_option maxRecDepth 4000 in
theorem c_stands {tx : Nat → Nat} {z : Nat} {S : RS} (hX : TX σ tx z) (hr : RpS σ z S) (ho : OkR z S) {c : Nat} (hc : c < 128) : CallOk Γ 1 0 0 mX5_stands [.ref R0, .int (nI c)] σ (rI σ (b2i (sta tx S c))) := by
  have hz := hX.2.1
  obtain ⟨ho1, ho2, ho3, ho4, ho5, ho6⟩ := id ho
  refine p_enter rfl rfl (Nat.le_of_ble_eq_true rfl) rfl ?_
  refine p_aload_n 0 1 rfl rfl dX5_stands_0 rfl ?_
  refine p_getIE 5 7 4 rfl dX5_stands_1 fl_X5_25 rfl rfl (show hI σ R0 7 = nI S.2.2.1 from hr.2.2.2.1) ?_
  refine p_iconst (3) 5 rfl dX5_stands_4 rfl ?_
  refine p_icmp_ne 25 8 rfl rfl dX5_stands_5 (fun h5 => ?_) (fun h5 => ?_)
  · refine p_iconst (0) 26 rfl dX5_stands_25 rfl ?_
    exact p_zret dX5_stands_26 rfl (by decide) ⟨by have hk : ¬ S.2.2.1 = 3 := fun q => h5 (by rw [q]; rfl); simp [sta, hk, b2i], rfl⟩
  · have hk : S.2.2.1 = 3 := nI_eqI h5 (by omega) (by decide)
    refine p_aload_n 0 9 rfl rfl dX5_stands_8 rfl ?_
    refine p_getR 5 2 12 rfl dX5_stands_9 fl_X5_37 rfl rfl hX.1 (by decide) ?_
    refine p_aload_n 0 13 rfl rfl dX5_stands_12 rfl ?_
    refine p_getIE 5 8 16 rfl dX5_stands_13 fl_X5_28 rfl rfl (show hI σ R0 8 = nI S.2.2.2.1 from hr.2.2.2.2.1) ?_
    refine p_baldE 17 rfl dX5_stands_16 (i := S.2.2.2.1) rfl (by show _ < 700; have := ho6 (by rw [hk]; decide); omega) (hX.2.2.2 _ (by have := ho6 (by rw [hk]; decide); omega)) ?_
    refine p_iload_n 1 18 rfl rfl dX5_stands_17 rfl ?_
    refine p_icmp_ne 25 21 rfl rfl dX5_stands_18 (fun h18 => ?_) (fun h18 => ?_)
    · refine p_iconst (0) 26 rfl dX5_stands_25 rfl ?_
      exact p_zret dX5_stands_26 rfl (by decide) ⟨by have hq : ¬ tx S.2.2.2.1 = c := fun q => h18 ((tb_eq _ (hX.2.2.1 _) c hc).mpr q); simp [sta, hq, b2i], rfl⟩
    · refine p_iconst (1) 22 rfl dX5_stands_21 rfl ?_
      refine p_goto 26 rfl dX5_stands_22 ?_
      exact p_zret dX5_stands_26 rfl (by decide) ⟨by have hq := (tb_eq _ (hX.2.2.1 _) c hc).mp h18; simp [sta, hk, hq, b2i], rfl⟩
set_option maxRecDepth 4000 in
theorem l_spells {tx : Nat → Nat} {z : Nat} {S : RS} (hX : TX σ tx z) (hr : RpS σ z S) (ho : OkR z S){i : Nat} (hi : i < 31)(hk : S.2.2.1 = 1) (hl : S.2.2.2.2.1 - S.2.2.2.1 = (swd i).length) : ∀ (m j : Nat), j + m = (swd i).length → spF tx S.2.2.2.1 (swd i) j = true → Ok Γ 5 0 0 mX5_spells 28 [some (.ref R0), some (.ref (i * 32 + 26)), some (.int (nI j))] [] σ (rI σ (b2i (spl tx S (swd i)))) := by
  have hz := hX.2.1
  obtain ⟨ho1, ho2, ho3, ho4, ho5, ho6⟩ := id ho
  have hw := swd_lt i hi
  have hse := ho6 (by rw [hk]; decide)
  intro m
  induction m with
  | zero =>
    intro j hj hp
    refine p_iload_n 2 29 rfl rfl dX5_spells_28 rfl ?_
    refine p_aload_n 1 30 rfl rfl dX5_spells_29 rfl ?_
    refine p_cT0i 33 rfl dX5_spells_30 (c_strlen hi) ml_X5_77 vl_J0_length_8abf5 hi rfl (Nat.le_of_ble_eq_true rfl) (Nat.le_of_ble_eq_true rfl) rfl ?_
    rw [slen_swd i hi]
    refine p_icmp_ge 63 36 rfl rfl dX5_spells_33 (fun h33 => ?_) (fun h33 => absurd (nI_le (a := (swd i).length) (b := j) (by omega) (by omega)) h33)
    refine p_iconst (1) 64 rfl dX5_spells_63 rfl ?_
    exact p_zret dX5_spells_64 rfl (by decide) ⟨by rw [show j = (swd i).length by omega] at hp; simp [spl, hk, hl, hp, b2i], rfl⟩
  | succ m ih =>
    intro j hj hp
    refine p_iload_n 2 29 rfl rfl dX5_spells_28 rfl ?_
    refine p_aload_n 1 30 rfl rfl dX5_spells_29 rfl ?_
    refine p_cT0i 33 rfl dX5_spells_30 (c_strlen hi) ml_X5_77 vl_J0_length_8abf5 hi rfl (Nat.le_of_ble_eq_true rfl) (Nat.le_of_ble_eq_true rfl) rfl ?_
    rw [slen_swd i hi]
    refine p_icmp_ge 63 36 rfl rfl dX5_spells_33 (fun h33 => absurd h33 (nI_ge (a := j) (b := (swd i).length) (by omega) (by omega))) (fun h33 => ?_)
    refine p_aload_n 0 37 rfl rfl dX5_spells_36 rfl ?_
    refine p_getR 5 2 40 rfl dX5_spells_37 fl_X5_37 rfl rfl hX.1 (by decide) ?_
    refine p_aload_n 0 41 rfl rfl dX5_spells_40 rfl ?_
    refine p_getIE 5 8 44 rfl dX5_spells_41 fl_X5_28 rfl rfl (show hI σ R0 8 = nI S.2.2.2.1 from hr.2.2.2.2.1) ?_
    refine p_iload_n 2 45 rfl rfl dX5_spells_44 rfl ?_
    refine p_iadd 46 rfl dX5_spells_45 ?_
    rw [nI_add]
    refine p_baldE 47 rfl dX5_spells_46 (i := S.2.2.2.1 + j) rfl (by show _ < 700; omega) (hX.2.2.2 _ (by omega)) ?_
    refine p_aload_n 1 48 rfl rfl dX5_spells_47 rfl ?_
    refine p_iload_n 2 49 rfl rfl dX5_spells_48 rfl ?_
    refine p_cT1i 52 rfl dX5_spells_49 (c_charAt (k := j) hi (by rw [slen_swd i hi]; omega)) ml_X5_81 vl_J0_charAt_5068e hi rfl (Nat.le_of_ble_eq_true rfl) (Nat.le_of_ble_eq_true rfl) rfl ?_
    rw [sch_swd i hi j (by omega)]
    refine p_icmp_eq 57 55 rfl rfl dX5_spells_52 (fun h52 => ?_) (fun h52 => ?_)
    · refine p_inc_2 60 rfl dX5_spells_57 (1) rfl (Nat.le_of_ble_eq_true rfl) rfl ?_
      refine p_goto 28 rfl dX5_spells_60 ?_
      rw [nI_1]
      refine ih (j + 1) (by omega) ?_
      have hq := (tb_eq _ (hX.2.2.1 _) _ (hw.1 j (by omega))).mp h52
      simp only [spF, hp, hq, beq_self_eq_true, Bool.and_self]
    · refine p_iconst (0) 56 rfl dX5_spells_55 rfl ?_
      exact p_zret dX5_spells_56 rfl (by decide) ⟨by have hq : ¬ tx (S.2.2.2.1 + j) = (swd i).getD j 0 := fun q => h52 ((tb_eq _ (hX.2.2.1 _) _ (hw.1 j (by omega))).mpr q); have := spF_f hq (swd i).length (by omega); simp [spl, hk, hl, this, b2i], rfl⟩
set_option maxRecDepth 4000 in
theorem c_spells {tx : Nat → Nat} {z : Nat} {S : RS} (hX : TX σ tx z) (hr : RpS σ z S) (ho : OkR z S){i : Nat} (hi : i < 31) : CallOk Γ 5 0 0 mX5_spells [.ref R0, .ref (i * 32 + 26)] σ (rI σ (b2i (spl tx S (swd i)))) := by
  have hz := hX.2.1
  obtain ⟨ho1, ho2, ho3, ho4, ho5, ho6⟩ := id ho
  refine p_enter rfl rfl (Nat.le_of_ble_eq_true rfl) rfl ?_
  refine p_aload_n 0 1 rfl rfl dX5_spells_0 rfl ?_
  refine p_getIE 5 7 4 rfl dX5_spells_1 fl_X5_25 rfl rfl (show hI σ R0 7 = nI S.2.2.1 from hr.2.2.2.1) ?_
  refine p_iconst (1) 5 rfl dX5_spells_4 rfl ?_
  refine p_icmp_ne 24 8 rfl rfl dX5_spells_5 (fun h5 => ?_) (fun h5 => ?_)
  · refine p_iconst (0) 25 rfl dX5_spells_24 rfl ?_
    exact p_zret dX5_spells_25 rfl (by decide) ⟨by have hk : ¬ S.2.2.1 = 1 := fun q => h5 (by rw [q]; rfl); simp [spl, hk, b2i], rfl⟩
  · have hk : S.2.2.1 = 1 := nI_eqI h5 (by omega) (by decide)
    have hse := ho6 (by rw [hk]; decide)
    refine p_aload_n 0 9 rfl rfl dX5_spells_8 rfl ?_
    refine p_getIE 5 9 12 rfl dX5_spells_9 fl_X5_31 rfl rfl (show hI σ R0 9 = nI S.2.2.2.2.1 from hr.2.2.2.2.2.1) ?_
    refine p_aload_n 0 13 rfl rfl dX5_spells_12 rfl ?_
    refine p_getIE 5 8 16 rfl dX5_spells_13 fl_X5_28 rfl rfl (show hI σ R0 8 = nI S.2.2.2.1 from hr.2.2.2.2.1) ?_
    refine p_isub 17 rfl dX5_spells_16 ?_
    rw [nI_sb (by omega)]
    refine p_aload_n 1 18 rfl rfl dX5_spells_17 rfl ?_
    refine p_cT0i 21 rfl dX5_spells_18 (c_strlen hi) ml_X5_77 vl_J0_length_8abf5 hi rfl (Nat.le_of_ble_eq_true rfl) (Nat.le_of_ble_eq_true rfl) rfl ?_
    refine p_icmp_eq 26 24 rfl rfl dX5_spells_21 (fun h21 => ?_) (fun h21 => ?_)
    · refine p_iconst (0) 27 rfl dX5_spells_26 rfl ?_
      refine p_ist_n2 28 rfl rfl dX5_spells_27 (Nat.le_of_ble_eq_true rfl) rfl ?_
      have hl : S.2.2.2.2.1 - S.2.2.2.1 = (swd i).length := by
        rw [slen_swd i hi] at h21
        exact nI_eqI h21 (by omega) (by have := (swd_lt i hi).2; omega)
      exact l_spells hX hr ho hi hk hl (swd i).length 0 (by omega) rfl
    · refine p_iconst (0) 25 rfl dX5_spells_24 rfl ?_
      exact p_zret dX5_spells_25 rfl (by decide) ⟨by have hl : ¬ S.2.2.2.2.1 - S.2.2.2.1 = (swd i).length := fun q => h21 (by rw [q, slen_swd i hi]); simp [spl, hl, b2i], rfl⟩
set_option maxRecDepth 4000 in
theorem c_fail {z : Nat} {S : RS} (hr : RpS σ z S) (ho : OkR z S) (w : Nat) : CallOk Γ 1 0 0 mX5_fail [.ref R0, .int (nI w)] σ (rV (fun σ' => RpS σ' z (fai z w S) ∧ Cr σ σ')) := by
  have ho1 := ho.1
  refine p_enter rfl rfl (Nat.le_of_ble_eq_true rfl) rfl ?_
  refine p_aload_n 0 1 rfl rfl dX5_fail_0 rfl ?_
  refine p_getIE 5 0 4 rfl dX5_fail_1 fl_X5_9 rfl rfl (show hI σ R0 0 = nI S.1 from hr.1) ?_
  refine p_if_ne 41 7 rfl rfl dX5_fail_4 (fun h4 => ?_) (fun h4 => ?_)
  · exact p_vret dX5_fail_41 rfl ⟨rfl, by have : ¬ S.1 = 0 := fun q => h4 (by rw [q]; rfl); rw [fai, if_neg this]; exact hr, Cr.rf⟩
  · refine p_aload_n 0 8 rfl rfl dX5_fail_7 rfl ?_
    refine p_iload_n 1 9 rfl rfl dX5_fail_8 rfl ?_
    refine p_putI 5 0 12 rfl dX5_fail_9 fl_X5_9 rfl rfl (Or.inl rfl) ?_
    refine p_aload_n 0 13 rfl rfl dX5_fail_12 rfl ?_
    refine p_aload_n 0 14 rfl rfl dX5_fail_13 rfl ?_
    refine p_getIE 5 8 17 rfl dX5_fail_14 fl_X5_28 rfl rfl (show hI _ R0 8 = nI S.2.2.2.1 from (RpR.f hr w).2.2.2.2.1) ?_
    refine p_putI 5 1 20 rfl dX5_fail_17 fl_X5_15 rfl rfl (Or.inl rfl) ?_
    refine p_aload_n 0 21 rfl rfl dX5_fail_20 rfl ?_
    refine p_iconst (0) 22 rfl dX5_fail_21 rfl ?_
    refine p_putI 5 7 25 rfl dX5_fail_22 fl_X5_25 rfl rfl (Or.inl rfl) ?_
    refine p_aload_n 0 26 rfl rfl dX5_fail_25 rfl ?_
    refine p_aload_n 0 27 rfl rfl dX5_fail_26 rfl ?_
    refine p_getIE 5 3 30 rfl dX5_fail_27 fl_X5_18 rfl rfl (show hI _ R0 3 = nI z from (((RpR.f hr w).p (nI S.2.2.2.1)).k 0).2.2.1) ?_
    refine p_putI 5 8 33 rfl dX5_fail_30 fl_X5_28 rfl rfl (Or.inl rfl) ?_
    refine p_aload_n 0 34 rfl rfl dX5_fail_33 rfl ?_
    refine p_aload_n 0 35 rfl rfl dX5_fail_34 rfl ?_
    refine p_getIE 5 3 38 rfl dX5_fail_35 fl_X5_18 rfl rfl (show hI _ R0 3 = nI z from ((((RpR.f hr w).p (nI S.2.2.2.1)).k 0).s z).2.2.1) ?_
    refine p_putI 5 9 41 rfl dX5_fail_38 fl_X5_31 rfl rfl (Or.inl rfl) ?_
    exact p_vret dX5_fail_41 rfl ⟨rfl, by have : S.1 = 0 :=  (Nat.eq_zero_or_pos S.1).elim id (fun q => absurd h4 (fun h => nI_ne0 q (by omega) h)); rw [fai, if_pos this]; exact ((((RpR.f hr w).p (nI S.2.2.2.1)).k 0).s z).e z, ((((chR _ _ _).tr (chR _ _ _)).tr (chR _ _ _)).tr (chR _ _ _)).tr (chR _ _ _)⟩
set_option maxRecDepth 4000 in
theorem c_readNumber {tx : Nat → Nat} {z : Nat} {S : RS} (hX : TX σ tx z) (hr : RpS σ z S) (ho : OkR z S) {m : Nat} (hm9 : m ≤ 9999) : CallOk Γ 4 0 0 mX5_readNumber [.ref R0, .int (nI m)] σ (rX (fun v σ' => v = nI (rdN tx z m S).1 ∧ RpS σ' z (rdN tx z m S).2 ∧ Cr σ σ')) := by
  have hz := hX.2.1
  obtain ⟨ho1, ho2, ho3, ho4, ho5, ho6⟩ := id ho
  refine p_enter rfl rfl (Nat.le_of_ble_eq_true rfl) rfl ?_
  refine p_aload_n 0 1 rfl rfl dX5_readNumber_0 rfl ?_
  refine p_getIE 5 7 4 rfl dX5_readNumber_1 fl_X5_25 rfl rfl (show hI σ R0 7 = nI S.2.2.1 from hr.2.2.2.1) ?_
  refine p_iconst (2) 5 rfl dX5_readNumber_4 rfl ?_
  refine p_icmp_eq 15 8 rfl rfl dX5_readNumber_5 (fun h5 => ?_) (fun h5 => ?_)
  · have ho5 := ho5 (nI_eqI h5 (by omega) (by decide))
    refine p_aload_n 0 16 rfl rfl dX5_readNumber_15 rfl ?_
    refine p_getIE 5 10 19 rfl dX5_readNumber_16 fl_X5_34 rfl rfl (show hI σ R0 10 = nI S.2.2.2.2.2 from hr.2.2.2.2.2.2) ?_
    refine p_iload_n 1 20 rfl rfl dX5_readNumber_19 rfl ?_
    refine p_icmp_le 30 23 rfl rfl dX5_readNumber_20 (fun h20 => ?_) (fun h20 => ?_)
    · refine p_aload_n 0 31 rfl rfl dX5_readNumber_30 rfl ?_
      refine p_getIE 5 10 34 rfl dX5_readNumber_31 fl_X5_34 rfl rfl (show hI σ R0 10 = nI S.2.2.2.2.2 from hr.2.2.2.2.2.2) ?_
      refine p_ist_n2 35 rfl rfl dX5_readNumber_34 (Nat.le_of_ble_eq_true rfl) rfl ?_
      refine p_aload_n 0 36 rfl rfl dX5_readNumber_35 rfl ?_
      refine p_cV0v 0 0 39 rfl dX5_readNumber_36 (c_advance hX hr ho) ml_X5_66 vl_X5_advance rfl (by decide) rfl (Nat.le_of_ble_eq_true rfl) (Nat.le_of_ble_eq_true rfl) (Nat.le_of_ble_eq_true rfl) (Nat.le_of_ble_eq_true rfl) rfl ?_
      intro σ1 hp1
      refine p_iload_n 2 40 rfl rfl dX5_readNumber_39 rfl ?_
      exact p_iret dX5_readNumber_40 rfl ⟨_, rfl, by have hk : S.2.2.1 = 2 := nI_eqI h5 (by omega) (by decide); have hm : S.2.2.2.2.2 ≤ m := (Nat.lt_or_ge m S.2.2.2.2.2).elim (fun q => absurd h20 (nI_ge q (by omega))) id; rw [rdN, if_pos hk, if_pos hm], by have hk : S.2.2.1 = 2 := nI_eqI h5 (by omega) (by decide); have hm : S.2.2.2.2.2 ≤ m := (Nat.lt_or_ge m S.2.2.2.2.2).elim (fun q => absurd h20 (nI_ge q (by omega))) id; rw [rdN, if_pos hk, if_pos hm]; exact hp1.1, hp1.2⟩
    · refine p_aload_n 0 24 rfl rfl dX5_readNumber_23 rfl ?_
      refine p_iconst (2) 25 rfl dX5_readNumber_24 rfl ?_
      refine p_cV1v 0 0 28 rfl dX5_readNumber_25 (c_fail hr ho 2) ml_X5_118 vl_X5_fail rfl (by decide) rfl (Nat.le_of_ble_eq_true rfl) (Nat.le_of_ble_eq_true rfl) (Nat.le_of_ble_eq_true rfl) (Nat.le_of_ble_eq_true rfl) rfl ?_
      intro σ1 hp1
      refine p_iconst (0) 29 rfl dX5_readNumber_28 rfl ?_
      exact p_iret dX5_readNumber_29 rfl ⟨_, rfl, by have hk : S.2.2.1 = 2 := nI_eqI h5 (by omega) (by decide); have hm : ¬ S.2.2.2.2.2 ≤ m := fun q => h20 (nI_le q (by omega)); rw [rdN, if_pos hk, if_neg hm]; rfl, by have hk : S.2.2.1 = 2 := nI_eqI h5 (by omega) (by decide); have hm : ¬ S.2.2.2.2.2 ≤ m := fun q => h20 (nI_le q (by omega)); rw [rdN, if_pos hk, if_neg hm]; exact hp1.1, hp1.2⟩
  · refine p_aload_n 0 9 rfl rfl dX5_readNumber_8 rfl ?_
    refine p_iconst (1) 10 rfl dX5_readNumber_9 rfl ?_
    refine p_cV1v 0 0 13 rfl dX5_readNumber_10 (c_fail hr ho 1) ml_X5_118 vl_X5_fail rfl (by decide) rfl (Nat.le_of_ble_eq_true rfl) (Nat.le_of_ble_eq_true rfl) (Nat.le_of_ble_eq_true rfl) (Nat.le_of_ble_eq_true rfl) rfl ?_
    intro σ1 hp1
    refine p_iconst (0) 14 rfl dX5_readNumber_13 rfl ?_
    exact p_iret dX5_readNumber_14 rfl ⟨_, rfl, by have hk : ¬ S.2.2.1 = 2 := fun q => h5 (by rw [q]; rfl); rw [rdN, if_neg hk]; rfl, by have hk : ¬ S.2.2.1 = 2 := fun q => h5 (by rw [q]; rfl); rw [rdN, if_neg hk]; exact hp1.1, hp1.2⟩
set_option maxRecDepth 4000 in
theorem c_readSign {tx : Nat → Nat} {z : Nat} {S : RS} (hX : TX σ tx z) (hr : RpS σ z S) (ho : OkR z S) {c : Nat} (hc : c < 128) : CallOk Γ 4 0 0 mX5_readSign [.ref R0, .int (nI c)] σ (rV (fun σ' => RpS σ' z (rdS tx z c S) ∧ Cr σ σ')) := by
  have hz := hX.2.1
  obtain ⟨ho1, ho2, ho3, ho4, ho5, ho6⟩ := id ho
  refine p_enter rfl rfl (Nat.le_of_ble_eq_true rfl) rfl ?_
  refine p_aload_n 0 1 rfl rfl dX5_readSign_0 rfl ?_
  refine p_iload_n 1 2 rfl rfl dX5_readSign_1 rfl ?_
  refine p_cV1i 5 rfl dX5_readSign_2 (c_stands hX hr ho hc) ml_X5_178 vl_X5_stands rfl (by decide) rfl (Nat.le_of_ble_eq_true rfl) (Nat.le_of_ble_eq_true rfl) rfl ?_
  refine p_if_eq 15 8 rfl rfl dX5_readSign_5 (fun h5 => ?_) (fun h5 => ?_)
  · refine p_aload_n 0 16 rfl rfl dX5_readSign_15 rfl ?_
    refine p_iconst (1) 17 rfl dX5_readSign_16 rfl ?_
    refine p_cV1v 0 0 20 rfl dX5_readSign_17 (c_fail hr ho 1) ml_X5_118 vl_X5_fail rfl (by decide) rfl (Nat.le_of_ble_eq_true rfl) (Nat.le_of_ble_eq_true rfl) (Nat.le_of_ble_eq_true rfl) (Nat.le_of_ble_eq_true rfl) rfl ?_
    intro σ1 hp1
    exact p_vret dX5_readSign_20 rfl ⟨rfl, by have hq : ¬ sta tx S c = true := b2i_eq0.mp h5; rw [rdS, if_neg hq]; exact hp1.1, hp1.2⟩
  · refine p_aload_n 0 9 rfl rfl dX5_readSign_8 rfl ?_
    refine p_cV0v 0 0 12 rfl dX5_readSign_9 (c_advance hX hr ho) ml_X5_66 vl_X5_advance rfl (by decide) rfl (Nat.le_of_ble_eq_true rfl) (Nat.le_of_ble_eq_true rfl) (Nat.le_of_ble_eq_true rfl) (Nat.le_of_ble_eq_true rfl) rfl ?_
    intro σ1 hp1
    refine p_goto 20 rfl dX5_readSign_12 ?_
    exact p_vret dX5_readSign_20 rfl ⟨rfl, by have hq : sta tx S c = true := (by simpa only [b2i_eq0, Decidable.not_not] using h5); rw [rdS, if_pos hq]; exact hp1.1, hp1.2⟩
def bgL (tx : Nat → Nat) (z w : Nat) (b : Bool) (S : RS) : RS := if b = true then adv tx z S else fai z w S
theorem nz_b2i (b : Bool) : narrow .boolean (.int (b2i b)) = .int (b2i b) := by cases b <;> rfl
set_option maxRecDepth 4000 in
theorem c_beginLine {tx : Nat → Nat} {z : Nat} {S : RS} (hX : TX σ tx z) (hr : RpS σ z S) (ho : OkR z S) (b : Bool) (w : Nat) : CallOk Γ 4 0 0 mX5_beginLine [.ref R0, .int (b2i b), .int (nI w)] σ (rX (fun v σ' => v = b2i b ∧ RpS σ' z (bgL tx z w b S) ∧ Cr σ σ')) := by
  have hz := hX.2.1
  obtain ⟨ho1, ho2, ho3, ho4, ho5, ho6⟩ := id ho
  refine p_enter rfl rfl (Nat.le_of_ble_eq_true rfl) rfl ?_
  refine p_iload_n 1 1 rfl rfl dX5_beginLine_0 rfl ?_
  refine p_if_eq 11 4 rfl rfl dX5_beginLine_1 (fun h1 => ?_) (fun h1 => ?_)
  · refine p_aload_n 0 12 rfl rfl dX5_beginLine_11 rfl ?_
    refine p_iload_n 2 13 rfl rfl dX5_beginLine_12 rfl ?_
    refine p_cV1v 0 0 16 rfl dX5_beginLine_13 (c_fail hr ho w) ml_X5_118 vl_X5_fail rfl (by decide) rfl (Nat.le_of_ble_eq_true rfl) (Nat.le_of_ble_eq_true rfl) (Nat.le_of_ble_eq_true rfl) (Nat.le_of_ble_eq_true rfl) rfl ?_
    intro σ1 hp1
    refine p_iload_n 1 17 rfl rfl dX5_beginLine_16 rfl ?_
    exact p_zret dX5_beginLine_17 rfl (nz_b2i b) ⟨_, rfl, rfl, by have hq : ¬ b = true := b2i_eq0.mp h1; rw [bgL, if_neg hq]; exact hp1.1, hp1.2⟩
  · refine p_aload_n 0 5 rfl rfl dX5_beginLine_4 rfl ?_
    refine p_cV0v 0 0 8 rfl dX5_beginLine_5 (c_advance hX hr ho) ml_X5_66 vl_X5_advance rfl (by decide) rfl (Nat.le_of_ble_eq_true rfl) (Nat.le_of_ble_eq_true rfl) (Nat.le_of_ble_eq_true rfl) (Nat.le_of_ble_eq_true rfl) rfl ?_
    intro σ1 hp1
    refine p_goto 16 rfl dX5_beginLine_8 ?_
    refine p_iload_n 1 17 rfl rfl dX5_beginLine_16 rfl ?_
    exact p_zret dX5_beginLine_17 rfl (nz_b2i b) ⟨_, rfl, rfl, by have hq : b = true := (by simpa only [b2i_eq0, Decidable.not_not] using h1); rw [bgL, if_pos hq]; exact hp1.1, hp1.2⟩
set_option maxRecDepth 4000 in
theorem c_hasMore {z : Nat} {S : RS} (hr : RpS σ z S) (ho : OkR z S) : CallOk Γ 1 0 0 mX5_hasMore [.ref R0] σ (rI σ (b2i (S.2.2.1 != 0))) := by
  have ho2 := ho.2.1
  refine p_enter rfl rfl (Nat.le_of_ble_eq_true rfl) rfl ?_
  refine p_aload_n 0 1 rfl rfl dX5_hasMore_0 rfl ?_
  refine p_getIE 5 7 4 rfl dX5_hasMore_1 fl_X5_25 rfl rfl (show hI σ R0 7 = nI S.2.2.1 from hr.2.2.2.1) ?_
  refine p_if_eq 11 7 rfl rfl dX5_hasMore_4 (fun h4 => ?_) (fun h4 => ?_)
  · refine p_iconst (0) 12 rfl dX5_hasMore_11 rfl ?_
    exact p_zret dX5_hasMore_12 rfl (by decide) ⟨by have hq : S.2.2.1 = 0 := (Nat.eq_zero_or_pos S.2.2.1).elim id (fun q => absurd h4 (nI_ne0 q (by omega))); rw [hq]; rfl, rfl⟩
  · refine p_iconst (1) 8 rfl dX5_hasMore_7 rfl ?_
    refine p_goto 12 rfl dX5_hasMore_8 ?_
    exact p_zret dX5_hasMore_12 rfl (by decide) ⟨by have hq : (S.2.2.1 != 0) = true := (by simp only [bne_iff_ne]; exact fun q => h4 (by rw [q]; rfl)); rw [hq]; rfl, rfl⟩
end C63
