/-! ===== world: sets of sheets, clerks, words ===== -/
theorem b2i_eq0 {b : Bool} : b2i b = 0 ↔ ¬ b = true := by cases b <;> decide
section C33
variable {Γ : Gm} {σ : PH} {o w : Nat} {O : AO} {V : AW}
theorem c_hasBitN {m i : Nat} (hm : m < 2 ^ 31) (hi : i < 32) : CallOk Γ 1 0 0 mX8_hasBit [.int (nI m), .int (nI i)] σ (rI σ (b2i (m.testBit i))) := by
  rw [← bit_nI hm hi]; exact c_hasBit _ _
theorem c_bitCountN {m : Nat} (hm : m < 4096) : CallOk Γ 1 0 0 mJ6_bitCount_0f7a4 [.int (nI m)] σ (rI σ (nI (pop m))) := by
  rw [← bc_pop m hm]; exact c_bitCount _
set_option maxRecDepth 4000 in
theorem l_sheetsIn (ho : RpO σ o O) (hw : RpW σ w V) (hv : OkV O V) (hwo : hR σ w 0 = o) {t k : Nat} (ht : t < 20) (hk : k ≤ 100) : ∀ (n i : Nat), i + n = aS O → Ok Γ 3 0 0 mX7_sheetsIn 5 [some (.ref w), some (.int (nI t)), some (.int (nI k)), some (.int (nI (setN i (fun s => tOf O V s k == t + 1)))), some (.int (nI i))] [] σ (rI σ (nI (setN (aS O) (fun s => tOf O V s k == t + 1)))) := by
  have hO := ho.2.1
  have hs9 := hO.1
  have hc6 := hO.2.1
  have hw12 := hO.2.2.1
  intro n
  induction n with
  | zero =>
    intro i hi
    have hiN : i = aS O := by omega
    subst hiN
    refine p_iload 4 7 rfl dX7_sheetsIn_5 rfl ?_
    refine p_aload_n 0 8 rfl rfl dX7_sheetsIn_7 rfl ?_
    refine p_getR 7 0 11 rfl dX7_sheetsIn_8 fl_X7_31 hw.1.1.kd rfl hwo ho.1.1.ne0 ?_
    refine p_getIE 4 0 14 rfl dX7_sheetsIn_11 fl_X7_58 ho.1.1.kd rfl ho.2.2.1 ?_
    refine p_icmp_ge 41 17 rfl rfl dX7_sheetsIn_14 (fun h14 => ?_) (fun h14 => absurd (nI_le (Nat.le_refl _) (by omega)) h14)
    refine p_iload_n 3 42 rfl rfl dX7_sheetsIn_41 rfl ?_
    exact p_iret dX7_sheetsIn_42 rfl ⟨rfl, rfl⟩
  | succ n ih =>
    intro i  hi
    have hlt : i < aS O := by omega
    refine p_iload 4 7 rfl dX7_sheetsIn_5 rfl ?_
    refine p_aload_n 0 8 rfl rfl dX7_sheetsIn_7 rfl ?_
    refine p_getR 7 0 11 rfl dX7_sheetsIn_8 fl_X7_31 hw.1.1.kd rfl hwo ho.1.1.ne0 ?_
    refine p_getIE 4 0 14 rfl dX7_sheetsIn_11 fl_X7_58 ho.1.1.kd rfl ho.2.2.1 ?_
    refine p_icmp_ge 41 17 rfl rfl dX7_sheetsIn_14 (fun h14 => absurd h14 (nI_ge hlt (by omega))) (fun h14 => ?_)
    refine p_aload_n 0 18 rfl rfl dX7_sheetsIn_17 rfl ?_
    refine p_iload 4 20 rfl dX7_sheetsIn_18 rfl ?_
    refine p_iload_n 2 21 rfl rfl dX7_sheetsIn_20 rfl ?_
    refine p_cV2i 24 rfl dX7_sheetsIn_21 (c_townOf ho hw hv hwo hlt hk) ml_X7_61 vl_X7_townOf hw.1.1.kd (by decide) rfl (Nat.le_of_ble_eq_true rfl) (Nat.le_of_ble_eq_true rfl) rfl ?_
    refine p_iload_n 1 25 rfl rfl dX7_sheetsIn_24 rfl ?_
    refine p_icmp_ne 35 28 rfl rfl dX7_sheetsIn_25 (fun h25 => ?_) (fun h25 => ?_)
    · refine p_inc_4 38 rfl dX7_sheetsIn_35 (1) rfl (Nat.le_of_ble_eq_true rfl) rfl ?_
      refine p_goto 5 rfl dX7_sheetsIn_38 ?_
      rw [nI_1, ← set_f (p := fun s => tOf O V s k == t + 1) (by
          have hb := tOf_lt hO hv (k := k) hlt
          rw [pI_nI (by omega) (by omega)] at h25
          simp [h25])]
      exact ih (i + 1) (by omega)
    · refine p_iload_n 3 29 rfl rfl dX7_sheetsIn_28 rfl ?_
      refine p_iconst (1) 30 rfl dX7_sheetsIn_29 rfl ?_
      refine p_iload 4 32 rfl dX7_sheetsIn_30 rfl ?_
      refine p_ishl 33 rfl dX7_sheetsIn_32 ?_
      refine p_ior 34 rfl dX7_sheetsIn_33 ?_
      refine p_ist_n3 35 rfl rfl dX7_sheetsIn_34 (Nat.le_of_ble_eq_true rfl) rfl ?_
      refine p_inc_4 38 rfl dX7_sheetsIn_35 (1) rfl (Nat.le_of_ble_eq_true rfl) rfl ?_
      refine p_goto 5 rfl dX7_sheetsIn_38 ?_
      rw [set_t (p := fun s => tOf O V s k == t + 1) (by
          have hb := tOf_lt hO hv (k := k) hlt
          rw [pI_nI (by omega) (by omega)] at h25
          simp [h25]) (by omega), nI_1]
      exact ih (i + 1) (by omega)
set_option maxRecDepth 4000 in
theorem c_sheetsIn (ho : RpO σ o O) (hw : RpW σ w V) (hv : OkV O V) (hwo : hR σ w 0 = o) {t k : Nat} (ht : t < 20) (hk : k ≤ 100) : CallOk Γ 3 0 0 mX7_sheetsIn [.ref w, .int (nI t), .int (nI k)] σ (rI σ (nI (shIn O V t k))) := by
  refine p_enter rfl rfl (Nat.le_of_ble_eq_true rfl) rfl ?_
  refine p_iconst (0) 1 rfl dX7_sheetsIn_0 rfl ?_
  refine p_ist_n3 2 rfl rfl dX7_sheetsIn_1 (Nat.le_of_ble_eq_true rfl) rfl ?_
  refine p_iconst (0) 3 rfl dX7_sheetsIn_2 rfl ?_
  refine p_ist_4 5 rfl dX7_sheetsIn_3 (Nat.le_of_ble_eq_true rfl) rfl ?_
  exact l_sheetsIn ho hw hv hwo ht hk (aS O) 0 (by omega)
set_option maxRecDepth 4000 in
theorem l_clerksIn (ho : RpO σ o O) (hw : RpW σ w V) (hv : OkV O V) (hwo : hR σ w 0 = o) {t : Nat} (ht : t < 20) : ∀ (n i : Nat), i + n = aC O → Ok Γ 2 0 0 mX7_clerksIn 4 [some (.ref w), some (.int (nI t)), some (.int (nI (setN i (fun c => tOn O c (vD V) == t)))), some (.int (nI i))] [] σ (rI σ (nI (setN (aC O) (fun c => tOn O c (vD V) == t)))) := by
  have hO := ho.2.1
  have hs9 := hO.1
  have hc6 := hO.2.1
  have hw12 := hO.2.2.1
  have hd1 : vD V ≤ 200000 := by have := hv.1; omega
  intro n
  induction n with
  | zero =>
    intro i hi
    have hiN : i = aC O := by omega
    subst hiN
    refine p_iload_n 3 5 rfl rfl dX7_clerksIn_4 rfl ?_
    refine p_aload_n 0 6 rfl rfl dX7_clerksIn_5 rfl ?_
    refine p_getR 7 0 9 rfl dX7_clerksIn_6 fl_X7_31 hw.1.1.kd rfl hwo ho.1.1.ne0 ?_
    refine p_getIE 4 4 12 rfl dX7_clerksIn_9 fl_X7_64 ho.1.1.kd rfl ho.2.2.2.1 ?_
    refine p_icmp_ge 43 15 rfl rfl dX7_clerksIn_12 (fun h12 => ?_) (fun h12 => absurd (nI_le (Nat.le_refl _) (by omega)) h12)
    refine p_iload_n 2 44 rfl rfl dX7_clerksIn_43 rfl ?_
    exact p_iret dX7_clerksIn_44 rfl ⟨rfl, rfl⟩
  | succ n ih =>
    intro i  hi
    have hlt : i < aC O := by omega
    refine p_iload_n 3 5 rfl rfl dX7_clerksIn_4 rfl ?_
    refine p_aload_n 0 6 rfl rfl dX7_clerksIn_5 rfl ?_
    refine p_getR 7 0 9 rfl dX7_clerksIn_6 fl_X7_31 hw.1.1.kd rfl hwo ho.1.1.ne0 ?_
    refine p_getIE 4 4 12 rfl dX7_clerksIn_9 fl_X7_64 ho.1.1.kd rfl ho.2.2.2.1 ?_
    refine p_icmp_ge 43 15 rfl rfl dX7_clerksIn_12 (fun h12 => absurd h12 (nI_ge hlt (by omega))) (fun h12 => ?_)
    refine p_aload_n 0 16 rfl rfl dX7_clerksIn_15 rfl ?_
    refine p_getR 7 0 19 rfl dX7_clerksIn_16 fl_X7_31 hw.1.1.kd rfl hwo ho.1.1.ne0 ?_
    refine p_iload_n 3 20 rfl rfl dX7_clerksIn_19 rfl ?_
    refine p_aload_n 0 21 rfl rfl dX7_clerksIn_20 rfl ?_
    refine p_getIE 7 1 24 rfl dX7_clerksIn_21 fl_X7_9 hw.1.1.kd rfl hw.2.1 ?_
    refine p_cV2i 27 rfl dX7_clerksIn_24 (c_townOn ho hlt hd1) ml_X7_54 vl_X4_townOn ho.1.1.kd (by decide) rfl (Nat.le_of_ble_eq_true rfl) (Nat.le_of_ble_eq_true rfl) rfl ?_
    refine p_iload_n 1 28 rfl rfl dX7_clerksIn_27 rfl ?_
    refine p_icmp_ne 37 31 rfl rfl dX7_clerksIn_28 (fun h28 => ?_) (fun h28 => ?_)
    · refine p_inc_3 40 rfl dX7_clerksIn_37 (1) rfl (Nat.le_of_ble_eq_true rfl) rfl ?_
      refine p_goto 4 rfl dX7_clerksIn_40 ?_
      rw [nI_1, ← set_f (p := fun c => tOn O c (vD V) == t) (by
          have hb := tOn_lt hO (d := vD V) hlt
          rw [nI_eq (by omega) (by omega)] at h28
          simp [h28])]
      exact ih (i + 1) (by omega)
    · refine p_iload_n 2 32 rfl rfl dX7_clerksIn_31 rfl ?_
      refine p_iconst (1) 33 rfl dX7_clerksIn_32 rfl ?_
      refine p_iload_n 3 34 rfl rfl dX7_clerksIn_33 rfl ?_
      refine p_ishl 35 rfl dX7_clerksIn_34 ?_
      refine p_ior 36 rfl dX7_clerksIn_35 ?_
      refine p_ist_n2 37 rfl rfl dX7_clerksIn_36 (Nat.le_of_ble_eq_true rfl) rfl ?_
      refine p_inc_3 40 rfl dX7_clerksIn_37 (1) rfl (Nat.le_of_ble_eq_true rfl) rfl ?_
      refine p_goto 4 rfl dX7_clerksIn_40 ?_
      rw [set_t (p := fun c => tOn O c (vD V) == t) (by
          have hb := tOn_lt hO (d := vD V) hlt
          rw [nI_eq (by omega) (by omega)] at h28
          simp [h28]) (by omega), nI_1]
      exact ih (i + 1) (by omega)
set_option maxRecDepth 4000 in
theorem c_clerksIn (ho : RpO σ o O) (hw : RpW σ w V) (hv : OkV O V) (hwo : hR σ w 0 = o) {t : Nat} (ht : t < 20) : CallOk Γ 2 0 0 mX7_clerksIn [.ref w, .int (nI t)] σ (rI σ (nI (clIn O V t))) := by
  refine p_enter rfl rfl (Nat.le_of_ble_eq_true rfl) rfl ?_
  refine p_iconst (0) 1 rfl dX7_clerksIn_0 rfl ?_
  refine p_ist_n2 2 rfl rfl dX7_clerksIn_1 (Nat.le_of_ble_eq_true rfl) rfl ?_
  refine p_iconst (0) 3 rfl dX7_clerksIn_2 rfl ?_
  refine p_ist_n3 4 rfl rfl dX7_clerksIn_3 (Nat.le_of_ble_eq_true rfl) rfl ?_
  exact l_clerksIn ho hw hv hwo ht (aC O) 0 (by omega)
set_option maxRecDepth 4000 in
theorem l_sheetsAt (ho : RpO σ o O) (hw : RpW σ w V) (hv : OkV O V) (hwo : hR σ w 0 = o) {q : Nat} (hq : q < 100) : ∀ (n i : Nat), i + n = aS O → Ok Γ 1 0 0 mX7_sheetsAt 4 [some (.ref w), some (.int (pI q)), some (.int (nI (setN i (fun s => vP V s == q)))), some (.int (nI i))] [] σ (rI σ (nI (setN (aS O) (fun s => vP V s == q)))) := by
  have hO := ho.2.1
  have hs9 := hO.1
  have hc6 := hO.2.1
  have hw12 := hO.2.2.1
  intro n
  induction n with
  | zero =>
    intro i hi
    have hiN : i = aS O := by omega
    subst hiN
    refine p_iload_n 3 5 rfl rfl dX7_sheetsAt_4 rfl ?_
    refine p_aload_n 0 6 rfl rfl dX7_sheetsAt_5 rfl ?_
    refine p_getR 7 0 9 rfl dX7_sheetsAt_6 fl_X7_31 hw.1.1.kd rfl hwo ho.1.1.ne0 ?_
    refine p_getIE 4 0 12 rfl dX7_sheetsAt_9 fl_X7_58 ho.1.1.kd rfl ho.2.2.1 ?_
    refine p_icmp_ge 37 15 rfl rfl dX7_sheetsAt_12 (fun h12 => ?_) (fun h12 => absurd (nI_le (Nat.le_refl _) (by omega)) h12)
    refine p_iload_n 2 38 rfl rfl dX7_sheetsAt_37 rfl ?_
    exact p_iret dX7_sheetsAt_38 rfl ⟨rfl, rfl⟩
  | succ n ih =>
    intro i  hi
    have hlt : i < aS O := by omega
    refine p_iload_n 3 5 rfl rfl dX7_sheetsAt_4 rfl ?_
    refine p_aload_n 0 6 rfl rfl dX7_sheetsAt_5 rfl ?_
    refine p_getR 7 0 9 rfl dX7_sheetsAt_6 fl_X7_31 hw.1.1.kd rfl hwo ho.1.1.ne0 ?_
    refine p_getIE 4 0 12 rfl dX7_sheetsAt_9 fl_X7_58 ho.1.1.kd rfl ho.2.2.1 ?_
    refine p_icmp_ge 37 15 rfl rfl dX7_sheetsAt_12 (fun h12 => absurd h12 (nI_ge hlt (by omega))) (fun h12 => ?_)
    refine p_aload_n 0 16 rfl rfl dX7_sheetsAt_15 rfl ?_
    refine p_getR 7 4 19 rfl dX7_sheetsAt_16 fl_X7_22 hw.1.1.kd rfl hw.1.2.2.2.1 (mk0 (Nat.succ_ne_zero _)) ?_
    refine p_iload_n 3 20 rfl rfl dX7_sheetsAt_19 rfl ?_
    refine p_ialdE 21 rfl dX7_sheetsAt_20 (kd16 _ _) (lt9 (by omega)) (hw.2.2.1 i (by omega)).2.2 ?_
    refine p_iload_n 1 22 rfl rfl dX7_sheetsAt_21 rfl ?_
    refine p_icmp_ne 31 25 rfl rfl dX7_sheetsAt_22 (fun h22 => ?_) (fun h22 => ?_)
    · refine p_inc_3 34 rfl dX7_sheetsAt_31 (1) rfl (Nat.le_of_ble_eq_true rfl) rfl ?_
      refine p_goto 4 rfl dX7_sheetsAt_34 ?_
      rw [nI_1, ← set_f (p := fun s => vP V s == q) (by
          have hb := hv.2.2.1 i hlt
          rw [pI_inj (by omega) hq] at h22
          simp [h22])]
      exact ih (i + 1) (by omega)
    · refine p_iload_n 2 26 rfl rfl dX7_sheetsAt_25 rfl ?_
      refine p_iconst (1) 27 rfl dX7_sheetsAt_26 rfl ?_
      refine p_iload_n 3 28 rfl rfl dX7_sheetsAt_27 rfl ?_
      refine p_ishl 29 rfl dX7_sheetsAt_28 ?_
      refine p_ior 30 rfl dX7_sheetsAt_29 ?_
      refine p_ist_n2 31 rfl rfl dX7_sheetsAt_30 (Nat.le_of_ble_eq_true rfl) rfl ?_
      refine p_inc_3 34 rfl dX7_sheetsAt_31 (1) rfl (Nat.le_of_ble_eq_true rfl) rfl ?_
      refine p_goto 4 rfl dX7_sheetsAt_34 ?_
      rw [set_t (p := fun s => vP V s == q) (by
          have hb := hv.2.2.1 i hlt
          rw [pI_inj (by omega) hq] at h22
          simp [h22]) (by omega), nI_1]
      exact ih (i + 1) (by omega)
set_option maxRecDepth 4000 in
theorem c_sheetsAt (ho : RpO σ o O) (hw : RpW σ w V) (hv : OkV O V) (hwo : hR σ w 0 = o) {q : Nat} (hq : q < 100) : CallOk Γ 1 0 0 mX7_sheetsAt [.ref w, .int (pI q)] σ (rI σ (nI (shAt O V q))) := by
  refine p_enter rfl rfl (Nat.le_of_ble_eq_true rfl) rfl ?_
  refine p_iconst (0) 1 rfl dX7_sheetsAt_0 rfl ?_
  refine p_ist_n2 2 rfl rfl dX7_sheetsAt_1 (Nat.le_of_ble_eq_true rfl) rfl ?_
  refine p_iconst (0) 3 rfl dX7_sheetsAt_2 rfl ?_
  refine p_ist_n3 4 rfl rfl dX7_sheetsAt_3 (Nat.le_of_ble_eq_true rfl) rfl ?_
  exact l_sheetsAt ho hw hv hwo hq (aS O) 0 (by omega)
set_option maxRecDepth 4000 in
theorem l_sheetsInHands (ho : RpO σ o O) (hw : RpW σ w V) (hv : OkV O V) (hwo : hR σ w 0 = o) : ∀ (n i : Nat), i + n = aS O → Ok Γ 1 0 0 mX7_sheetsInHands 4 [some (.ref w), some (.int (nI (setN i (fun s => decide (5 ≤ vP V s))))), some (.int (nI i))] [] σ (rI σ (nI (setN (aS O) (fun s => decide (5 ≤ vP V s))))) := by
  have hO := ho.2.1
  have hs9 := hO.1
  have hc6 := hO.2.1
  have hw12 := hO.2.2.1
  intro n
  induction n with
  | zero =>
    intro i hi
    have hiN : i = aS O := by omega
    subst hiN
    refine p_iload_n 2 5 rfl rfl dX7_sheetsInHands_4 rfl ?_
    refine p_aload_n 0 6 rfl rfl dX7_sheetsInHands_5 rfl ?_
    refine p_getR 7 0 9 rfl dX7_sheetsInHands_6 fl_X7_31 hw.1.1.kd rfl hwo ho.1.1.ne0 ?_
    refine p_getIE 4 0 12 rfl dX7_sheetsInHands_9 fl_X7_58 ho.1.1.kd rfl ho.2.2.1 ?_
    refine p_icmp_ge 37 15 rfl rfl dX7_sheetsInHands_12 (fun h12 => ?_) (fun h12 => absurd (nI_le (Nat.le_refl _) (by omega)) h12)
    refine p_iload_n 1 38 rfl rfl dX7_sheetsInHands_37 rfl ?_
    exact p_iret dX7_sheetsInHands_38 rfl ⟨rfl, rfl⟩
  | succ n ih =>
    intro i  hi
    have hlt : i < aS O := by omega
    refine p_iload_n 2 5 rfl rfl dX7_sheetsInHands_4 rfl ?_
    refine p_aload_n 0 6 rfl rfl dX7_sheetsInHands_5 rfl ?_
    refine p_getR 7 0 9 rfl dX7_sheetsInHands_6 fl_X7_31 hw.1.1.kd rfl hwo ho.1.1.ne0 ?_
    refine p_getIE 4 0 12 rfl dX7_sheetsInHands_9 fl_X7_58 ho.1.1.kd rfl ho.2.2.1 ?_
    refine p_icmp_ge 37 15 rfl rfl dX7_sheetsInHands_12 (fun h12 => absurd h12 (nI_ge hlt (by omega))) (fun h12 => ?_)
    refine p_aload_n 0 16 rfl rfl dX7_sheetsInHands_15 rfl ?_
    refine p_getR 7 4 19 rfl dX7_sheetsInHands_16 fl_X7_22 hw.1.1.kd rfl hw.1.2.2.2.1 (mk0 (Nat.succ_ne_zero _)) ?_
    refine p_iload_n 2 20 rfl rfl dX7_sheetsInHands_19 rfl ?_
    refine p_ialdE 21 rfl dX7_sheetsInHands_20 (kd16 _ _) (lt9 (by omega)) (hw.2.2.1 i (by omega)).2.2 ?_
    refine p_iconst (4) 22 rfl dX7_sheetsInHands_21 rfl ?_
    refine p_icmp_lt 31 25 rfl rfl dX7_sheetsInHands_22 (fun h22 => ?_) (fun h22 => ?_)
    · refine p_inc_2 34 rfl dX7_sheetsInHands_31 (1) rfl (Nat.le_of_ble_eq_true rfl) rfl ?_
      refine p_goto 4 rfl dX7_sheetsInHands_34 ?_
      rw [nI_1, ← set_f (p := fun s => decide (5 ≤ vP V s)) (by
          have hb := hv.2.2.1 i hlt
          have : ¬ 5 ≤ vP V i := fun z => absurd h22 (Int32.not_lt.mpr ((pI_ge4 (by omega)).mpr z))
          simp [this])]
      exact ih (i + 1) (by omega)
    · refine p_iload_n 1 26 rfl rfl dX7_sheetsInHands_25 rfl ?_
      refine p_iconst (1) 27 rfl dX7_sheetsInHands_26 rfl ?_
      refine p_iload_n 2 28 rfl rfl dX7_sheetsInHands_27 rfl ?_
      refine p_ishl 29 rfl dX7_sheetsInHands_28 ?_
      refine p_ior 30 rfl dX7_sheetsInHands_29 ?_
      refine p_ist_n1 31 rfl rfl dX7_sheetsInHands_30 (Nat.le_of_ble_eq_true rfl) rfl ?_
      refine p_inc_2 34 rfl dX7_sheetsInHands_31 (1) rfl (Nat.le_of_ble_eq_true rfl) rfl ?_
      refine p_goto 4 rfl dX7_sheetsInHands_34 ?_
      rw [set_t (p := fun s => decide (5 ≤ vP V s)) (by
          have hb := hv.2.2.1 i hlt
          have := (pI_ge4 (by omega)).mp (Int32.not_lt.mp h22)
          simp [this]) (by omega), nI_1]
      exact ih (i + 1) (by omega)
set_option maxRecDepth 4000 in
theorem c_sheetsInHands (ho : RpO σ o O) (hw : RpW σ w V) (hv : OkV O V) (hwo : hR σ w 0 = o) : CallOk Γ 1 0 0 mX7_sheetsInHands [.ref w] σ (rI σ (nI (inHd O V))) := by
  refine p_enter rfl rfl (Nat.le_of_ble_eq_true rfl) rfl ?_
  refine p_iconst (0) 1 rfl dX7_sheetsInHands_0 rfl ?_
  refine p_ist_n1 2 rfl rfl dX7_sheetsInHands_1 (Nat.le_of_ble_eq_true rfl) rfl ?_
  refine p_iconst (0) 3 rfl dX7_sheetsInHands_2 rfl ?_
  refine p_ist_n2 4 rfl rfl dX7_sheetsInHands_3 (Nat.le_of_ble_eq_true rfl) rfl ?_
  exact l_sheetsInHands ho hw hv hwo (aS O) 0 (by omega)
set_option maxRecDepth 4000 in
theorem c_difference (ho : RpO σ o O) (hw : RpW σ w V) (hv : OkV O V) (hwo : hR σ w 0 = o) {a b : Nat} (ha : a < 9) (hb : b < 9) : CallOk Γ 2 0 0 mX7_difference [.ref w, .int (nI a), .int (nI b)] σ (rI σ (nI (dif V a b))) := by
  have hx : vR V a ^^^ vL V b < 4096 := Nat.lt_of_lt_of_le (Nat.xor_lt_two_pow (n := 8) ((hv.2.1 a ha).2.1) ((hv.2.1 b hb).1)) (by decide)
  refine p_enter rfl rfl (Nat.le_of_ble_eq_true rfl) rfl ?_
  refine p_aload_n 0 1 rfl rfl dX7_difference_0 rfl ?_
  refine p_getR 7 3 4 rfl dX7_difference_1 fl_X7_19 hw.1.1.kd rfl hw.1.2.2.1 (mk0 (Nat.succ_ne_zero _)) ?_
  refine p_iload_n 1 5 rfl rfl dX7_difference_4 rfl ?_
  refine p_ialdE 6 rfl dX7_difference_5 (kd16 _ _) (lt9 (by omega)) (hw.2.2.1 a (by omega)).2.1 ?_
  refine p_aload_n 0 7 rfl rfl dX7_difference_6 rfl ?_
  refine p_getR 7 2 10 rfl dX7_difference_7 fl_X7_15 hw.1.1.kd rfl hw.1.2.1 (mk0 (Nat.succ_ne_zero _)) ?_
  refine p_iload_n 2 11 rfl rfl dX7_difference_10 rfl ?_
  refine p_ialdE 12 rfl dX7_difference_11 (kd16 _ _) (lt9 (by omega)) (hw.2.2.1 b (by omega)).1 ?_
  refine p_ixor 13 rfl dX7_difference_12 ?_
  rw [nx_xor]
  refine p_cS1i 16 rfl dX7_difference_13 (c_bitCountN hx) ml_X7_71 sl_J6_bitCount_0f7a4 (Nat.le_of_ble_eq_true rfl) (Nat.le_of_ble_eq_true rfl) rfl ?_
  exact p_iret dX7_difference_16 rfl ⟨rfl, rfl⟩
set_option maxRecDepth 4000 in
theorem c_fits (ho : RpO σ o O) (hw : RpW σ w V) (hv : OkV O V) (hwo : hR σ w 0 = o) {a b : Nat} (ha : a < 9) (hb : b < 9) : CallOk Γ 2 0 0 mX7_fits [.ref w, .int (nI a), .int (nI b)] σ (rI σ (b2i (fitt O V a b))) := by
  have hx : vR V a ^^^ vL V b < 4096 := Nat.lt_of_lt_of_le (Nat.xor_lt_two_pow (n := 8) ((hv.2.1 a ha).2.1) ((hv.2.1 b hb).1)) (by decide)
  have hpa := (hv.2.1 a ha).2.2
  have hpb := (hv.2.1 b hb).2.2
  have hk8 := ho.2.1.2.2.2.1
  have hp12 : dif V a b ≤ 12 := pop_le _
  refine p_enter rfl rfl (Nat.le_of_ble_eq_true rfl) rfl ?_
  refine p_iload_n 1 1 rfl rfl dX7_fits_0 rfl ?_
  refine p_iload_n 2 2 rfl rfl dX7_fits_1 rfl ?_
  refine p_icmp_eq 55 5 rfl rfl dX7_fits_2 (fun h2 => ?_) (fun h2 => ?_)
  · refine p_iconst (0) 56 rfl dX7_fits_55 rfl ?_
    exact p_zret dX7_fits_56 rfl rfl ⟨by simp [fitt, b2i, (nI_eq (by omega) (by omega)).mp h2], rfl⟩
  · refine p_aload_n 0 6 rfl rfl dX7_fits_5 rfl ?_
    refine p_getR 7 4 9 rfl dX7_fits_6 fl_X7_22 hw.1.1.kd rfl hw.1.2.2.2.1 (mk0 (Nat.succ_ne_zero _)) ?_
    refine p_iload_n 1 10 rfl rfl dX7_fits_9 rfl ?_
    refine p_ialdE 11 rfl dX7_fits_10 (kd16 _ _) (lt9 (by omega)) (hw.2.2.1 a (by omega)).2.2 ?_
    refine p_iconst (-1) 12 rfl dX7_fits_11 rfl ?_
    refine p_icmp_eq 55 15 rfl rfl dX7_fits_12 (fun h12 => ?_) (fun h12 => ?_)
    · refine p_iconst (0) 56 rfl dX7_fits_55 rfl ?_
      exact p_zret dX7_fits_56 rfl rfl ⟨by simp [fitt, b2i, (pI_m1 (by omega)).mp h12], rfl⟩
    · refine p_aload_n 0 16 rfl rfl dX7_fits_15 rfl ?_
      refine p_getR 7 4 19 rfl dX7_fits_16 fl_X7_22 hw.1.1.kd rfl hw.1.2.2.2.1 (mk0 (Nat.succ_ne_zero _)) ?_
      refine p_iload_n 2 20 rfl rfl dX7_fits_19 rfl ?_
      refine p_ialdE 21 rfl dX7_fits_20 (kd16 _ _) (lt9 (by omega)) (hw.2.2.1 b (by omega)).2.2 ?_
      refine p_iconst (-1) 22 rfl dX7_fits_21 rfl ?_
      refine p_icmp_eq 55 25 rfl rfl dX7_fits_22 (fun h22 => ?_) (fun h22 => ?_)
      · refine p_iconst (0) 56 rfl dX7_fits_55 rfl ?_
        exact p_zret dX7_fits_56 rfl rfl ⟨by simp [fitt, b2i, (pI_m1 (by omega)).mp h22], rfl⟩
      · refine p_aload_n 0 26 rfl rfl dX7_fits_25 rfl ?_
        refine p_getR 7 3 29 rfl dX7_fits_26 fl_X7_19 hw.1.1.kd rfl hw.1.2.2.1 (mk0 (Nat.succ_ne_zero _)) ?_
        refine p_iload_n 1 30 rfl rfl dX7_fits_29 rfl ?_
        refine p_ialdE 31 rfl dX7_fits_30 (kd16 _ _) (lt9 (by omega)) (hw.2.2.1 a (by omega)).2.1 ?_
        refine p_aload_n 0 32 rfl rfl dX7_fits_31 rfl ?_
        refine p_getR 7 2 35 rfl dX7_fits_32 fl_X7_15 hw.1.1.kd rfl hw.1.2.1 (mk0 (Nat.succ_ne_zero _)) ?_
        refine p_iload_n 2 36 rfl rfl dX7_fits_35 rfl ?_
        refine p_ialdE 37 rfl dX7_fits_36 (kd16 _ _) (lt9 (by omega)) (hw.2.2.1 b (by omega)).1 ?_
        refine p_ixor 38 rfl dX7_fits_37 ?_
        rw [nx_xor]
        refine p_cS1i 41 rfl dX7_fits_38 (c_bitCountN hx) ml_X7_71 sl_J6_bitCount_0f7a4 (Nat.le_of_ble_eq_true rfl) (Nat.le_of_ble_eq_true rfl) rfl ?_
        refine p_aload_n 0 42 rfl rfl dX7_fits_41 rfl ?_
        refine p_getR 7 0 45 rfl dX7_fits_42 fl_X7_31 hw.1.1.kd rfl hwo ho.1.1.ne0 ?_
        refine p_getIE 4 10 48 rfl dX7_fits_45 fl_X7_76 ho.1.1.kd rfl ho.2.2.2.2.2.1 ?_
        show Ok _ _ _ _ _ _ _ [.int (nI (aK O)), .int (nI (dif V a b))] _ _
        refine p_icmp_gt 55 51 rfl rfl dX7_fits_48 (fun h48 => ?_) (fun h48 => ?_)
        · refine p_iconst (0) 56 rfl dX7_fits_55 rfl ?_
          exact p_zret dX7_fits_56 rfl rfl ⟨by
          have h5 : ¬ dif V a b ≤ aK O := fun z => absurd h48 (nI_nlt z (by omega))
          simp [fitt, b2i, h5], rfl⟩
        · refine p_iconst (1) 52 rfl dX7_fits_51 rfl ?_
          refine p_goto 56 rfl dX7_fits_52 ?_
          exact p_zret dX7_fits_56 rfl rfl ⟨by
          have h1 : ¬ a = b := fun z => h2 (by rw [z])
          have h3 : ¬ vP V a = 0 := fun z => h12 ((pI_m1 (by omega)).mpr z)
          have h4 : ¬ vP V b = 0 := fun z => h22 ((pI_m1 (by omega)).mpr z)
          have h5 : dif V a b ≤ aK O := by
            rcases Nat.lt_or_ge (aK O) (dif V a b) with z | z
            · exact absurd (nI_lt z (by omega)) h48
            · exact z
          simp [fitt, b2i, h1, h3, h4, h5], rfl⟩
set_option maxRecDepth 4000 in
theorem l_fitting (ho : RpO σ o O) (hw : RpW σ w V) (hv : OkV O V) (hwo : hR σ w 0 = o) {s : Nat} (hs : s < 9) : ∀ (n i : Nat), i + n = aS O → Ok Γ 3 0 0 mX7_fitting 4 [some (.ref w), some (.int (nI s)), some (.int (nI (setN i (fun o => fitt O V s o)))), some (.int (nI i))] [] σ (rI σ (nI (setN (aS O) (fun o => fitt O V s o)))) := by
  have hO := ho.2.1
  have hs9 := hO.1
  have hc6 := hO.2.1
  have hw12 := hO.2.2.1
  intro n
  induction n with
  | zero =>
    intro i hi
    have hiN : i = aS O := by omega
    subst hiN
    refine p_iload_n 3 5 rfl rfl dX7_fitting_4 rfl ?_
    refine p_aload_n 0 6 rfl rfl dX7_fitting_5 rfl ?_
    refine p_getR 7 0 9 rfl dX7_fitting_6 fl_X7_31 hw.1.1.kd rfl hwo ho.1.1.ne0 ?_
    refine p_getIE 4 0 12 rfl dX7_fitting_9 fl_X7_58 ho.1.1.kd rfl ho.2.2.1 ?_
    refine p_icmp_ge 36 15 rfl rfl dX7_fitting_12 (fun h12 => ?_) (fun h12 => absurd (nI_le (Nat.le_refl _) (by omega)) h12)
    refine p_iload_n 2 37 rfl rfl dX7_fitting_36 rfl ?_
    exact p_iret dX7_fitting_37 rfl ⟨rfl, rfl⟩
  | succ n ih =>
    intro i  hi
    have hlt : i < aS O := by omega
    refine p_iload_n 3 5 rfl rfl dX7_fitting_4 rfl ?_
    refine p_aload_n 0 6 rfl rfl dX7_fitting_5 rfl ?_
    refine p_getR 7 0 9 rfl dX7_fitting_6 fl_X7_31 hw.1.1.kd rfl hwo ho.1.1.ne0 ?_
    refine p_getIE 4 0 12 rfl dX7_fitting_9 fl_X7_58 ho.1.1.kd rfl ho.2.2.1 ?_
    refine p_icmp_ge 36 15 rfl rfl dX7_fitting_12 (fun h12 => absurd h12 (nI_ge hlt (by omega))) (fun h12 => ?_)
    refine p_aload_n 0 16 rfl rfl dX7_fitting_15 rfl ?_
    refine p_iload_n 1 17 rfl rfl dX7_fitting_16 rfl ?_
    refine p_iload_n 3 18 rfl rfl dX7_fitting_17 rfl ?_
    refine p_cV2i 21 rfl dX7_fitting_18 (c_fits ho hw hv hwo hs (by omega)) ml_X7_79 vl_X7_fits hw.1.1.kd (by decide) rfl (Nat.le_of_ble_eq_true rfl) (Nat.le_of_ble_eq_true rfl) rfl ?_
    refine p_if_eq 30 24 rfl rfl dX7_fitting_21 (fun h21 => ?_) (fun h21 => ?_)
    · refine p_inc_3 33 rfl dX7_fitting_30 (1) rfl (Nat.le_of_ble_eq_true rfl) rfl ?_
      refine p_goto 4 rfl dX7_fitting_33 ?_
      rw [nI_1, ← set_f (p := fun o => fitt O V s o) (by
          simp only [b2i_eq0, Decidable.not_not, Bool.not_eq_true] at h21
          simp [h21])]
      exact ih (i + 1) (by omega)
    · refine p_iload_n 2 25 rfl rfl dX7_fitting_24 rfl ?_
      refine p_iconst (1) 26 rfl dX7_fitting_25 rfl ?_
      refine p_iload_n 3 27 rfl rfl dX7_fitting_26 rfl ?_
      refine p_ishl 28 rfl dX7_fitting_27 ?_
      refine p_ior 29 rfl dX7_fitting_28 ?_
      refine p_ist_n2 30 rfl rfl dX7_fitting_29 (Nat.le_of_ble_eq_true rfl) rfl ?_
      refine p_inc_3 33 rfl dX7_fitting_30 (1) rfl (Nat.le_of_ble_eq_true rfl) rfl ?_
      refine p_goto 4 rfl dX7_fitting_33 ?_
      rw [set_t (p := fun o => fitt O V s o) (by
          simp only [b2i_eq0, Decidable.not_not, Bool.not_eq_true] at h21
          simp [h21]) (by omega), nI_1]
      exact ih (i + 1) (by omega)
set_option maxRecDepth 4000 in
theorem c_fitting (ho : RpO σ o O) (hw : RpW σ w V) (hv : OkV O V) (hwo : hR σ w 0 = o) {s : Nat} (hs : s < 9) : CallOk Γ 3 0 0 mX7_fitting [.ref w, .int (nI s)] σ (rI σ (nI (ftg O V s))) := by
  refine p_enter rfl rfl (Nat.le_of_ble_eq_true rfl) rfl ?_
  refine p_iconst (0) 1 rfl dX7_fitting_0 rfl ?_
  refine p_ist_n2 2 rfl rfl dX7_fitting_1 (Nat.le_of_ble_eq_true rfl) rfl ?_
  refine p_iconst (0) 3 rfl dX7_fitting_2 rfl ?_
  refine p_ist_n3 4 rfl rfl dX7_fitting_3 (Nat.le_of_ble_eq_true rfl) rfl ?_
  exact l_fitting ho hw hv hwo hs (aS O) 0 (by omega)
end C33
