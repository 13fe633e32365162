/-! ===== world: words, what is known ===== -/
def anyF : Nat → Nat → (Nat → Bool) → Bool
  | 0, _, _ => false
  | n + 1, i, p => p i || anyF n (i + 1) p
def hasW (O : AO) (a b : Int32) : Bool := anyF (aW O) 0 (fun k => decide (nI (aL O k) = a) && decide (nI (aB O k) = b))
theorem one_shl_m1 : ∀ c, c < 7 → (1 : Int32) <<< (nI c &&& 31) - 1 = nI (2 ^ c - 1) := by decide +kernel
theorem setN_all : ∀ n, n < 7 → setN n (fun _ => true) = 2 ^ n - 1 := by decide +kernel
theorem orK_lt {V : AW} {p : Nat → Bool} : ∀ n, (∀ c, c < n → vK V c < 4096) → orK n p V < 4096 := by
  intro n
  induction n with
  | zero => intro _; simp [orK]
  | succ n ih =>
    intro h
    unfold orK
    refine Nat.or_lt_two_pow (n := 12) (ih (fun c hc => h c (by omega))) ?_
    split
    · exact h n (by omega)
    · decide
theorem orK_congr {V : AW} {p q : Nat → Bool} : ∀ n, (∀ c, c < n → p c = q c) → orK n p V = orK n q V := by
  intro n
  induction n with
  | zero => intro _; rfl
  | succ n ih =>
    intro h
    unfold orK
    rw [ih (fun c hc => h c (by omega)), h n (by omega)]
theorem kBy_all {O : AO} (h : aC O ≤ 6) (V : AW) : kBy O V (2 ^ aC O - 1) = kAll O V := by
  unfold kBy kAll
  refine orK_congr _ (fun c hc => ?_)
  rw [← setN_all (aC O) (by omega), setN_bit]
  simp [hc]
theorem or_t {V : AW} {p : Nat → Bool} {i : Nat} (hp : p i = true) : nI (orK i p V) ||| nI (vK V i) = nI (orK (i + 1) p V) := by
  rw [nx_or]; simp [orK, hp]
theorem or_f {V : AW} {p : Nat → Bool} {i : Nat} (hp : ¬ p i = true) : orK (i + 1) p V = orK i p V := by simp [orK, hp]
section C34
variable {Γ : Gm} {σ : PH} {o w : Nat} {O : AO} {V : AW}
set_option maxRecDepth 4000 in
theorem c_archive (ho : RpO σ o O) (hw : RpW σ w V) (hv : OkV O V) (hwo : hR σ w 0 = o) {t : Nat} (ht : t < 50) : CallOk Γ 2 0 0 mX7_archive [.ref w, .int (nI t)] σ (rI σ (nI (shAt O V (t + 1)))) := by
  have hq1 : t + 1 < 100 := by omega
  refine p_enter rfl rfl (Nat.le_of_ble_eq_true rfl) rfl ?_
  refine p_aload_n 0 1 rfl rfl dX7_archive_0 rfl ?_
  refine p_iload_n 1 2 rfl rfl dX7_archive_1 rfl ?_
  rw [← pI_town t]
  refine p_cV1i 5 rfl dX7_archive_2 (c_sheetsAt ho hw hv hwo hq1) ml_X7_67 vl_X7_sheetsAt hw.1.1.kd (by decide) rfl (Nat.le_of_ble_eq_true rfl) (Nat.le_of_ble_eq_true rfl) rfl ?_
  exact p_iret dX7_archive_5 rfl ⟨rfl, rfl⟩
set_option maxRecDepth 4000 in
theorem c_sheetsOf (ho : RpO σ o O) (hw : RpW σ w V) (hv : OkV O V) (hwo : hR σ w 0 = o) {c : Nat} (hc : c < 50) : CallOk Γ 2 0 0 mX7_sheetsOf [.ref w, .int (nI c)] σ (rI σ (nI (shAt O V (c + 5)))) := by
  have hq1 : c + 5 < 100 := by omega
  refine p_enter rfl rfl (Nat.le_of_ble_eq_true rfl) rfl ?_
  refine p_aload_n 0 1 rfl rfl dX7_sheetsOf_0 rfl ?_
  refine p_iconst (4) 2 rfl dX7_sheetsOf_1 rfl ?_
  refine p_iload_n 1 3 rfl rfl dX7_sheetsOf_2 rfl ?_
  refine p_iadd 4 rfl dX7_sheetsOf_3 ?_
  rw [show (4 : Int32) = nI 4 from rfl, nI_add, show 4 + c = c + 4 by omega, ← pI_town (c + 4)]
  refine p_cV1i 7 rfl dX7_sheetsOf_4 (c_sheetsAt ho hw hv hwo hq1) ml_X7_67 vl_X7_sheetsAt hw.1.1.kd (by decide) rfl (Nat.le_of_ble_eq_true rfl) (Nat.le_of_ble_eq_true rfl) rfl ?_
  exact p_iret dX7_sheetsOf_7 rfl ⟨rfl, rfl⟩
set_option maxRecDepth 4000 in
theorem c_burntSheets (ho : RpO σ o O) (hw : RpW σ w V) (hv : OkV O V) (hwo : hR σ w 0 = o) : CallOk Γ 2 0 0 mX7_burntSheets [.ref w] σ (rI σ (nI (shAt O V 0))) := by
  have hq1 : 0 < 100 := by omega
  refine p_enter rfl rfl (Nat.le_of_ble_eq_true rfl) rfl ?_
  refine p_aload_n 0 1 rfl rfl dX7_burntSheets_0 rfl ?_
  refine p_iconst (-1) 2 rfl dX7_burntSheets_1 rfl ?_
  show Ok _ _ _ _ _ _ _ [.int (pI 0), .ref w] _ _
  refine p_cV1i 5 rfl dX7_burntSheets_2 (c_sheetsAt ho hw hv hwo hq1) ml_X7_67 vl_X7_sheetsAt hw.1.1.kd (by decide) rfl (Nat.le_of_ble_eq_true rfl) (Nat.le_of_ble_eq_true rfl) rfl ?_
  exact p_iret dX7_burntSheets_5 rfl ⟨rfl, rfl⟩
set_option maxRecDepth 4000 in
theorem l_wordsOf (ho : RpO σ o O) (hw : RpW σ w V) (hv : OkV O V) (hwo : hR σ w 0 = o) {m : Nat} (hm : m < 2 ^ 31) : ∀ (n i : Nat) (x4 : Option Value) (x5 : Option Value), i + n = aW O → Ok Γ 3 0 0 mX7_wordsOf 4 [some (.ref w), some (.int (nI m)), some (.int (nI (setN i (fun k => m.testBit (aL O k) && m.testBit (aB O k) && fitt O V (aL O k) (aB O k))))), some (.int (nI i)), x4, x5] [] σ (rI σ (nI (setN (aW O) (fun k => m.testBit (aL O k) && m.testBit (aB O k) && fitt O V (aL O k) (aB O k))))) := by
  have hO := ho.2.1
  have hs9 := hO.1
  have hc6 := hO.2.1
  have hw12 := hO.2.2.1
  have hWd := hO.2.2.2.2.2
  intro n
  induction n with
  | zero =>
    intro i _ _ hi
    have hiN : i = aW O := by omega
    subst hiN
    refine p_iload_n 3 5 rfl rfl dX7_wordsOf_4 rfl ?_
    refine p_aload_n 0 6 rfl rfl dX7_wordsOf_5 rfl ?_
    refine p_getR 7 0 9 rfl dX7_wordsOf_6 fl_X7_31 hw.1.1.kd rfl hwo ho.1.1.ne0 ?_
    refine p_getIE 4 7 12 rfl dX7_wordsOf_9 fl_X7_83 ho.1.1.kd rfl ho.2.2.2.2.1 ?_
    refine p_icmp_ge 78 15 rfl rfl dX7_wordsOf_12 (fun h12 => ?_) (fun h12 => absurd (nI_le (Nat.le_refl _) (by omega)) h12)
    refine p_iload_n 2 79 rfl rfl dX7_wordsOf_78 rfl ?_
    exact p_iret dX7_wordsOf_79 rfl ⟨rfl, rfl⟩
  | succ n ih =>
    intro i x4 x5 hi
    have hlt : i < aW O := by omega
    refine p_iload_n 3 5 rfl rfl dX7_wordsOf_4 rfl ?_
    refine p_aload_n 0 6 rfl rfl dX7_wordsOf_5 rfl ?_
    refine p_getR 7 0 9 rfl dX7_wordsOf_6 fl_X7_31 hw.1.1.kd rfl hwo ho.1.1.ne0 ?_
    refine p_getIE 4 7 12 rfl dX7_wordsOf_9 fl_X7_83 ho.1.1.kd rfl ho.2.2.2.2.1 ?_
    refine p_icmp_ge 78 15 rfl rfl dX7_wordsOf_12 (fun h12 => absurd h12 (nI_ge hlt (by omega))) (fun h12 => ?_)
    have h1 := (hWd i hlt).1
    have h2 := (hWd i hlt).2
    refine p_aload_n 0 16 rfl rfl dX7_wordsOf_15 rfl ?_
    refine p_getR 7 0 19 rfl dX7_wordsOf_16 fl_X7_31 hw.1.1.kd rfl hwo ho.1.1.ne0 ?_
    refine p_getR 4 8 22 rfl dX7_wordsOf_19 fl_X7_86 ho.1.1.kd rfl ho.1.2.2.2.2.2.2.1 (mk0 (Nat.succ_ne_zero _)) ?_
    refine p_iload_n 3 23 rfl rfl dX7_wordsOf_22 rfl ?_
    refine p_ialdE 24 rfl dX7_wordsOf_23 (kd16 _ _) (lt12 (by omega)) (ho.2.2.2.2.2.2.2 i hlt).1 ?_
    refine p_ist_4 26 rfl dX7_wordsOf_24 (Nat.le_of_ble_eq_true rfl) rfl ?_
    refine p_aload_n 0 27 rfl rfl dX7_wordsOf_26 rfl ?_
    refine p_getR 7 0 30 rfl dX7_wordsOf_27 fl_X7_31 hw.1.1.kd rfl hwo ho.1.1.ne0 ?_
    refine p_getR 4 9 33 rfl dX7_wordsOf_30 fl_X7_89 ho.1.1.kd rfl ho.1.2.2.2.2.2.2.2.1 (mk0 (Nat.succ_ne_zero _)) ?_
    refine p_iload_n 3 34 rfl rfl dX7_wordsOf_33 rfl ?_
    refine p_ialdE 35 rfl dX7_wordsOf_34 (kd16 _ _) (lt12 (by omega)) (ho.2.2.2.2.2.2.2 i hlt).2 ?_
    refine p_ist_5 37 rfl dX7_wordsOf_35 (Nat.le_of_ble_eq_true rfl) rfl ?_
    refine p_iload_n 1 38 rfl rfl dX7_wordsOf_37 rfl ?_
    refine p_iload 4 40 rfl dX7_wordsOf_38 rfl ?_
    refine p_cN2i 43 rfl dX7_wordsOf_40 (c_hasBitN hm (by omega)) mn_X7_92 sl_X8_hasBit (Nat.le_of_ble_eq_true rfl) (Nat.le_of_ble_eq_true rfl) ?_
    refine p_if_eq 72 46 rfl rfl dX7_wordsOf_43 (fun h43 => ?_) (fun h43 => ?_)
    · refine p_inc_3 75 rfl dX7_wordsOf_72 (1) rfl (Nat.le_of_ble_eq_true rfl) rfl ?_
      refine p_goto 4 rfl dX7_wordsOf_75 ?_
      rw [nI_1, ← set_f (p := fun k => m.testBit (aL O k) && m.testBit (aB O k) && fitt O V (aL O k) (aB O k)) (by
          simp only [b2i_eq0, Decidable.not_not, Bool.not_eq_true] at h43
          simp [h43])]
      exact ih (i + 1) _ _ (by omega)
    · refine p_iload_n 1 47 rfl rfl dX7_wordsOf_46 rfl ?_
      refine p_iload 5 49 rfl dX7_wordsOf_47 rfl ?_
      refine p_cN2i 52 rfl dX7_wordsOf_49 (c_hasBitN hm (by omega)) mn_X7_92 sl_X8_hasBit (Nat.le_of_ble_eq_true rfl) (Nat.le_of_ble_eq_true rfl) ?_
      refine p_if_eq 72 55 rfl rfl dX7_wordsOf_52 (fun h52 => ?_) (fun h52 => ?_)
      · refine p_inc_3 75 rfl dX7_wordsOf_72 (1) rfl (Nat.le_of_ble_eq_true rfl) rfl ?_
        refine p_goto 4 rfl dX7_wordsOf_75 ?_
        rw [nI_1, ← set_f (p := fun k => m.testBit (aL O k) && m.testBit (aB O k) && fitt O V (aL O k) (aB O k)) (by
            simp only [b2i_eq0, Decidable.not_not, Bool.not_eq_true] at h52
            simp [h52])]
        exact ih (i + 1) _ _ (by omega)
      · refine p_aload_n 0 56 rfl rfl dX7_wordsOf_55 rfl ?_
        refine p_iload 4 58 rfl dX7_wordsOf_56 rfl ?_
        refine p_iload 5 60 rfl dX7_wordsOf_58 rfl ?_
        refine p_cV2i 63 rfl dX7_wordsOf_60 (c_fits ho hw hv hwo (by omega) (by omega)) ml_X7_79 vl_X7_fits hw.1.1.kd (by decide) rfl (Nat.le_of_ble_eq_true rfl) (Nat.le_of_ble_eq_true rfl) rfl ?_
        refine p_if_eq 72 66 rfl rfl dX7_wordsOf_63 (fun h63 => ?_) (fun h63 => ?_)
        · refine p_inc_3 75 rfl dX7_wordsOf_72 (1) rfl (Nat.le_of_ble_eq_true rfl) rfl ?_
          refine p_goto 4 rfl dX7_wordsOf_75 ?_
          rw [nI_1, ← set_f (p := fun k => m.testBit (aL O k) && m.testBit (aB O k) && fitt O V (aL O k) (aB O k)) (by
              simp only [b2i_eq0, Decidable.not_not, Bool.not_eq_true] at h63
              simp [h63])]
          exact ih (i + 1) _ _ (by omega)
        · refine p_iload_n 2 67 rfl rfl dX7_wordsOf_66 rfl ?_
          refine p_iconst (1) 68 rfl dX7_wordsOf_67 rfl ?_
          refine p_iload_n 3 69 rfl rfl dX7_wordsOf_68 rfl ?_
          refine p_ishl 70 rfl dX7_wordsOf_69 ?_
          refine p_ior 71 rfl dX7_wordsOf_70 ?_
          refine p_ist_n2 72 rfl rfl dX7_wordsOf_71 (Nat.le_of_ble_eq_true rfl) rfl ?_
          refine p_inc_3 75 rfl dX7_wordsOf_72 (1) rfl (Nat.le_of_ble_eq_true rfl) rfl ?_
          refine p_goto 4 rfl dX7_wordsOf_75 ?_
          rw [set_t (p := fun k => m.testBit (aL O k) && m.testBit (aB O k) && fitt O V (aL O k) (aB O k)) (by
              simp only [b2i_eq0, Decidable.not_not, Bool.not_eq_true] at h43 h52 h63
              simp [h43, h52, h63]) (by omega), nI_1]
          exact ih (i + 1) _ _ (by omega)
set_option maxRecDepth 4000 in
theorem c_wordsOf (ho : RpO σ o O) (hw : RpW σ w V) (hv : OkV O V) (hwo : hR σ w 0 = o) {m : Nat} (hm : m < 2 ^ 31) : CallOk Γ 3 0 0 mX7_wordsOf [.ref w, .int (nI m)] σ (rI σ (nI (wOf O V m))) := by
  refine p_enter rfl rfl (Nat.le_of_ble_eq_true rfl) rfl ?_
  refine p_iconst (0) 1 rfl dX7_wordsOf_0 rfl ?_
  refine p_ist_n2 2 rfl rfl dX7_wordsOf_1 (Nat.le_of_ble_eq_true rfl) rfl ?_
  refine p_iconst (0) 3 rfl dX7_wordsOf_2 rfl ?_
  refine p_ist_n3 4 rfl rfl dX7_wordsOf_3 (Nat.le_of_ble_eq_true rfl) rfl ?_
  exact l_wordsOf ho hw hv hwo hm (aW O) 0 _ _ (by omega)
set_option maxRecDepth 4000 in
theorem c_isDead (ho : RpO σ o O) (hw : RpW σ w V) (hv : OkV O V) (hwo : hR σ w 0 = o) {k : Nat} (hk : k < aW O) : CallOk Γ 1 0 0 mX7_isDead [.ref w, .int (nI k)] σ (rI σ (b2i (dead O V k))) := by
  have hO := ho.2.1
  have hs9 := hO.1
  have hw12 := hO.2.2.1
  have h1 := (hO.2.2.2.2.2 k hk).1
  have h2 := (hO.2.2.2.2.2 k hk).2
  have hpa := (hv.2.1 (aL O k) (by omega)).2.2
  have hpb := (hv.2.1 (aB O k) (by omega)).2.2
  refine p_enter rfl rfl (Nat.le_of_ble_eq_true rfl) rfl ?_
  refine p_aload_n 0 1 rfl rfl dX7_isDead_0 rfl ?_
  refine p_getR 7 4 4 rfl dX7_isDead_1 fl_X7_22 hw.1.1.kd rfl hw.1.2.2.2.1 (mk0 (Nat.succ_ne_zero _)) ?_
  refine p_aload_n 0 5 rfl rfl dX7_isDead_4 rfl ?_
  refine p_getR 7 0 8 rfl dX7_isDead_5 fl_X7_31 hw.1.1.kd rfl hwo ho.1.1.ne0 ?_
  refine p_getR 4 8 11 rfl dX7_isDead_8 fl_X7_86 ho.1.1.kd rfl ho.1.2.2.2.2.2.2.1 (mk0 (Nat.succ_ne_zero _)) ?_
  refine p_iload_n 1 12 rfl rfl dX7_isDead_11 rfl ?_
  refine p_ialdE 13 rfl dX7_isDead_12 (kd16 _ _) (lt12 (by omega)) (ho.2.2.2.2.2.2.2 k hk).1 ?_
  refine p_ialdE 14 rfl dX7_isDead_13 (kd16 _ _) (lt9 (by omega)) (hw.2.2.1 _ (by omega)).2.2 ?_
  refine p_iconst (-1) 15 rfl dX7_isDead_14 rfl ?_
  refine p_icmp_eq 36 18 rfl rfl dX7_isDead_15 (fun h15 => ?_) (fun h15 => ?_)
  · refine p_iconst (1) 37 rfl dX7_isDead_36 rfl ?_
    refine p_goto 41 rfl dX7_isDead_37 ?_
    exact p_zret dX7_isDead_41 rfl rfl ⟨by simp [dead, b2i, (pI_m1 (by omega)).mp h15], rfl⟩
  · refine p_aload_n 0 19 rfl rfl dX7_isDead_18 rfl ?_
    refine p_getR 7 4 22 rfl dX7_isDead_19 fl_X7_22 hw.1.1.kd rfl hw.1.2.2.2.1 (mk0 (Nat.succ_ne_zero _)) ?_
    refine p_aload_n 0 23 rfl rfl dX7_isDead_22 rfl ?_
    refine p_getR 7 0 26 rfl dX7_isDead_23 fl_X7_31 hw.1.1.kd rfl hwo ho.1.1.ne0 ?_
    refine p_getR 4 9 29 rfl dX7_isDead_26 fl_X7_89 ho.1.1.kd rfl ho.1.2.2.2.2.2.2.2.1 (mk0 (Nat.succ_ne_zero _)) ?_
    refine p_iload_n 1 30 rfl rfl dX7_isDead_29 rfl ?_
    refine p_ialdE 31 rfl dX7_isDead_30 (kd16 _ _) (lt12 (by omega)) (ho.2.2.2.2.2.2.2 k hk).2 ?_
    refine p_ialdE 32 rfl dX7_isDead_31 (kd16 _ _) (lt9 (by omega)) (hw.2.2.1 _ (by omega)).2.2 ?_
    refine p_iconst (-1) 33 rfl dX7_isDead_32 rfl ?_
    refine p_icmp_ne 40 36 rfl rfl dX7_isDead_33 (fun h33 => ?_) (fun h33 => ?_)
    · refine p_iconst (0) 41 rfl dX7_isDead_40 rfl ?_
      exact p_zret dX7_isDead_41 rfl rfl ⟨by
        have h3 : ¬ vP V (aL O k) = 0 := fun z => h15 ((pI_m1 (by omega)).mpr z)
        have h4 : ¬ vP V (aB O k) = 0 := fun z => h33 ((pI_m1 (by omega)).mpr z)
        simp [dead, b2i, h3, h4], rfl⟩
    · refine p_iconst (1) 37 rfl dX7_isDead_36 rfl ?_
      refine p_goto 41 rfl dX7_isDead_37 ?_
      exact p_zret dX7_isDead_41 rfl rfl ⟨by simp [dead, b2i, (pI_m1 (by omega)).mp h33], rfl⟩
set_option maxRecDepth 4000 in
theorem l_wordsLost (ho : RpO σ o O) (hw : RpW σ w V) (hv : OkV O V) (hwo : hR σ w 0 = o) {m : Nat} (hm : m < 2 ^ 31) : ∀ (n i : Nat) (x4 : Option Value) (x5 : Option Value), i + n = aW O → Ok Γ 2 0 0 mX7_wordsLost 4 [some (.ref w), some (.int (nI m)), some (.int (nI (setN i (fun k => !dead O V k && (m.testBit (aL O k) || m.testBit (aB O k)))))), some (.int (nI i)), x4, x5] [] σ (rI σ (nI (setN (aW O) (fun k => !dead O V k && (m.testBit (aL O k) || m.testBit (aB O k)))))) := by
  have hO := ho.2.1
  have hs9 := hO.1
  have hc6 := hO.2.1
  have hw12 := hO.2.2.1
  have hWd := hO.2.2.2.2.2
  intro n
  induction n with
  | zero =>
    intro i _ _ hi
    have hiN : i = aW O := by omega
    subst hiN
    refine p_iload_n 3 5 rfl rfl dX7_wordsLost_4 rfl ?_
    refine p_aload_n 0 6 rfl rfl dX7_wordsLost_5 rfl ?_
    refine p_getR 7 0 9 rfl dX7_wordsLost_6 fl_X7_31 hw.1.1.kd rfl hwo ho.1.1.ne0 ?_
    refine p_getIE 4 7 12 rfl dX7_wordsLost_9 fl_X7_83 ho.1.1.kd rfl ho.2.2.2.2.1 ?_
    refine p_icmp_ge 75 15 rfl rfl dX7_wordsLost_12 (fun h12 => ?_) (fun h12 => absurd (nI_le (Nat.le_refl _) (by omega)) h12)
    refine p_iload_n 2 76 rfl rfl dX7_wordsLost_75 rfl ?_
    exact p_iret dX7_wordsLost_76 rfl ⟨rfl, rfl⟩
  | succ n ih =>
    intro i x4 x5 hi
    have hlt : i < aW O := by omega
    refine p_iload_n 3 5 rfl rfl dX7_wordsLost_4 rfl ?_
    refine p_aload_n 0 6 rfl rfl dX7_wordsLost_5 rfl ?_
    refine p_getR 7 0 9 rfl dX7_wordsLost_6 fl_X7_31 hw.1.1.kd rfl hwo ho.1.1.ne0 ?_
    refine p_getIE 4 7 12 rfl dX7_wordsLost_9 fl_X7_83 ho.1.1.kd rfl ho.2.2.2.2.1 ?_
    refine p_icmp_ge 75 15 rfl rfl dX7_wordsLost_12 (fun h12 => absurd h12 (nI_ge hlt (by omega))) (fun h12 => ?_)
    have h1 := (hWd i hlt).1
    have h2 := (hWd i hlt).2
    refine p_aload_n 0 16 rfl rfl dX7_wordsLost_15 rfl ?_
    refine p_getR 7 0 19 rfl dX7_wordsLost_16 fl_X7_31 hw.1.1.kd rfl hwo ho.1.1.ne0 ?_
    refine p_getR 4 8 22 rfl dX7_wordsLost_19 fl_X7_86 ho.1.1.kd rfl ho.1.2.2.2.2.2.2.1 (mk0 (Nat.succ_ne_zero _)) ?_
    refine p_iload_n 3 23 rfl rfl dX7_wordsLost_22 rfl ?_
    refine p_ialdE 24 rfl dX7_wordsLost_23 (kd16 _ _) (lt12 (by omega)) (ho.2.2.2.2.2.2.2 i hlt).1 ?_
    refine p_ist_4 26 rfl dX7_wordsLost_24 (Nat.le_of_ble_eq_true rfl) rfl ?_
    refine p_aload_n 0 27 rfl rfl dX7_wordsLost_26 rfl ?_
    refine p_getR 7 0 30 rfl dX7_wordsLost_27 fl_X7_31 hw.1.1.kd rfl hwo ho.1.1.ne0 ?_
    refine p_getR 4 9 33 rfl dX7_wordsLost_30 fl_X7_89 ho.1.1.kd rfl ho.1.2.2.2.2.2.2.2.1 (mk0 (Nat.succ_ne_zero _)) ?_
    refine p_iload_n 3 34 rfl rfl dX7_wordsLost_33 rfl ?_
    refine p_ialdE 35 rfl dX7_wordsLost_34 (kd16 _ _) (lt12 (by omega)) (ho.2.2.2.2.2.2.2 i hlt).2 ?_
    refine p_ist_5 37 rfl dX7_wordsLost_35 (Nat.le_of_ble_eq_true rfl) rfl ?_
    refine p_aload_n 0 38 rfl rfl dX7_wordsLost_37 rfl ?_
    refine p_iload_n 3 39 rfl rfl dX7_wordsLost_38 rfl ?_
    refine p_cV1i 42 rfl dX7_wordsLost_39 (c_isDead ho hw hv hwo hlt) ml_X7_95 vl_X7_isDead hw.1.1.kd (by decide) rfl (Nat.le_of_ble_eq_true rfl) (Nat.le_of_ble_eq_true rfl) rfl ?_
    refine p_if_ne 69 45 rfl rfl dX7_wordsLost_42 (fun h42 => ?_) (fun h42 => ?_)
    · refine p_inc_3 72 rfl dX7_wordsLost_69 (1) rfl (Nat.le_of_ble_eq_true rfl) rfl ?_
      refine p_goto 4 rfl dX7_wordsLost_72 ?_
      rw [nI_1, ← set_f (p := fun k => !dead O V k && (m.testBit (aL O k) || m.testBit (aB O k))) (by
          simp only [b2i_eq0, Decidable.not_not, Bool.not_eq_true] at h42
          simp [h42])]
      exact ih (i + 1) _ _ (by omega)
    · refine p_iload_n 1 46 rfl rfl dX7_wordsLost_45 rfl ?_
      refine p_iload 4 48 rfl dX7_wordsLost_46 rfl ?_
      refine p_cN2i 51 rfl dX7_wordsLost_48 (c_hasBitN hm (by omega)) mn_X7_92 sl_X8_hasBit (Nat.le_of_ble_eq_true rfl) (Nat.le_of_ble_eq_true rfl) ?_
      refine p_if_ne 63 54 rfl rfl dX7_wordsLost_51 (fun h51 => ?_) (fun h51 => ?_)
      · refine p_iload_n 2 64 rfl rfl dX7_wordsLost_63 rfl ?_
        refine p_iconst (1) 65 rfl dX7_wordsLost_64 rfl ?_
        refine p_iload_n 3 66 rfl rfl dX7_wordsLost_65 rfl ?_
        refine p_ishl 67 rfl dX7_wordsLost_66 ?_
        refine p_ior 68 rfl dX7_wordsLost_67 ?_
        refine p_ist_n2 69 rfl rfl dX7_wordsLost_68 (Nat.le_of_ble_eq_true rfl) rfl ?_
        refine p_inc_3 72 rfl dX7_wordsLost_69 (1) rfl (Nat.le_of_ble_eq_true rfl) rfl ?_
        refine p_goto 4 rfl dX7_wordsLost_72 ?_
        rw [set_t (p := fun k => !dead O V k && (m.testBit (aL O k) || m.testBit (aB O k))) (by
            simp only [b2i_eq0, Decidable.not_not, Bool.not_eq_true] at h42 h51
            simp [h42, h51]) (by omega), nI_1]
        exact ih (i + 1) _ _ (by omega)
      · refine p_iload_n 1 55 rfl rfl dX7_wordsLost_54 rfl ?_
        refine p_iload 5 57 rfl dX7_wordsLost_55 rfl ?_
        refine p_cN2i 60 rfl dX7_wordsLost_57 (c_hasBitN hm (by omega)) mn_X7_92 sl_X8_hasBit (Nat.le_of_ble_eq_true rfl) (Nat.le_of_ble_eq_true rfl) ?_
        refine p_if_eq 69 63 rfl rfl dX7_wordsLost_60 (fun h60 => ?_) (fun h60 => ?_)
        · refine p_inc_3 72 rfl dX7_wordsLost_69 (1) rfl (Nat.le_of_ble_eq_true rfl) rfl ?_
          refine p_goto 4 rfl dX7_wordsLost_72 ?_
          rw [nI_1, ← set_f (p := fun k => !dead O V k && (m.testBit (aL O k) || m.testBit (aB O k))) (by
              simp only [b2i_eq0, Decidable.not_not, Bool.not_eq_true] at h51 h60
              simp [h51, h60])]
          exact ih (i + 1) _ _ (by omega)
        · refine p_iload_n 2 64 rfl rfl dX7_wordsLost_63 rfl ?_
          refine p_iconst (1) 65 rfl dX7_wordsLost_64 rfl ?_
          refine p_iload_n 3 66 rfl rfl dX7_wordsLost_65 rfl ?_
          refine p_ishl 67 rfl dX7_wordsLost_66 ?_
          refine p_ior 68 rfl dX7_wordsLost_67 ?_
          refine p_ist_n2 69 rfl rfl dX7_wordsLost_68 (Nat.le_of_ble_eq_true rfl) rfl ?_
          refine p_inc_3 72 rfl dX7_wordsLost_69 (1) rfl (Nat.le_of_ble_eq_true rfl) rfl ?_
          refine p_goto 4 rfl dX7_wordsLost_72 ?_
          rw [set_t (p := fun k => !dead O V k && (m.testBit (aL O k) || m.testBit (aB O k))) (by
              simp only [b2i_eq0, Decidable.not_not, Bool.not_eq_true] at h42 h60
              simp [h42, h60]) (by omega), nI_1]
          exact ih (i + 1) _ _ (by omega)
set_option maxRecDepth 4000 in
theorem c_wordsLost (ho : RpO σ o O) (hw : RpW σ w V) (hv : OkV O V) (hwo : hR σ w 0 = o) {m : Nat} (hm : m < 2 ^ 31) : CallOk Γ 2 0 0 mX7_wordsLost [.ref w, .int (nI m)] σ (rI σ (nI (wLost O V m))) := by
  refine p_enter rfl rfl (Nat.le_of_ble_eq_true rfl) rfl ?_
  refine p_iconst (0) 1 rfl dX7_wordsLost_0 rfl ?_
  refine p_ist_n2 2 rfl rfl dX7_wordsLost_1 (Nat.le_of_ble_eq_true rfl) rfl ?_
  refine p_iconst (0) 3 rfl dX7_wordsLost_2 rfl ?_
  refine p_ist_n3 4 rfl rfl dX7_wordsLost_3 (Nat.le_of_ble_eq_true rfl) rfl ?_
  exact l_wordsLost ho hw hv hwo hm (aW O) 0 _ _ (by omega)
set_option maxRecDepth 4000 in
theorem l_wordsDead (ho : RpO σ o O) (hw : RpW σ w V) (hv : OkV O V) (hwo : hR σ w 0 = o) : ∀ (n i : Nat), i + n = aW O → Ok Γ 2 0 0 mX7_wordsDead 4 [some (.ref w), some (.int (nI (setN i (fun k => dead O V k)))), some (.int (nI i))] [] σ (rI σ (nI (setN (aW O) (fun k => dead O V k)))) := by
  have hO := ho.2.1
  have hs9 := hO.1
  have hc6 := hO.2.1
  have hw12 := hO.2.2.1
  have hWd := hO.2.2.2.2.2
  intro n
  induction n with
  | zero =>
    intro i hi
    have hiN : i = aW O := by omega
    subst hiN
    refine p_iload_n 2 5 rfl rfl dX7_wordsDead_4 rfl ?_
    refine p_aload_n 0 6 rfl rfl dX7_wordsDead_5 rfl ?_
    refine p_getR 7 0 9 rfl dX7_wordsDead_6 fl_X7_31 hw.1.1.kd rfl hwo ho.1.1.ne0 ?_
    refine p_getIE 4 7 12 rfl dX7_wordsDead_9 fl_X7_83 ho.1.1.kd rfl ho.2.2.2.2.1 ?_
    refine p_icmp_ge 35 15 rfl rfl dX7_wordsDead_12 (fun h12 => ?_) (fun h12 => absurd (nI_le (Nat.le_refl _) (by omega)) h12)
    refine p_iload_n 1 36 rfl rfl dX7_wordsDead_35 rfl ?_
    exact p_iret dX7_wordsDead_36 rfl ⟨rfl, rfl⟩
  | succ n ih =>
    intro i  hi
    have hlt : i < aW O := by omega
    refine p_iload_n 2 5 rfl rfl dX7_wordsDead_4 rfl ?_
    refine p_aload_n 0 6 rfl rfl dX7_wordsDead_5 rfl ?_
    refine p_getR 7 0 9 rfl dX7_wordsDead_6 fl_X7_31 hw.1.1.kd rfl hwo ho.1.1.ne0 ?_
    refine p_getIE 4 7 12 rfl dX7_wordsDead_9 fl_X7_83 ho.1.1.kd rfl ho.2.2.2.2.1 ?_
    refine p_icmp_ge 35 15 rfl rfl dX7_wordsDead_12 (fun h12 => absurd h12 (nI_ge hlt (by omega))) (fun h12 => ?_)
    refine p_aload_n 0 16 rfl rfl dX7_wordsDead_15 rfl ?_
    refine p_iload_n 2 17 rfl rfl dX7_wordsDead_16 rfl ?_
    refine p_cV1i 20 rfl dX7_wordsDead_17 (c_isDead ho hw hv hwo hlt) ml_X7_95 vl_X7_isDead hw.1.1.kd (by decide) rfl (Nat.le_of_ble_eq_true rfl) (Nat.le_of_ble_eq_true rfl) rfl ?_
    refine p_if_eq 29 23 rfl rfl dX7_wordsDead_20 (fun h20 => ?_) (fun h20 => ?_)
    · refine p_inc_2 32 rfl dX7_wordsDead_29 (1) rfl (Nat.le_of_ble_eq_true rfl) rfl ?_
      refine p_goto 4 rfl dX7_wordsDead_32 ?_
      rw [nI_1, ← set_f (p := fun k => dead O V k) (by
          simp only [b2i_eq0, Decidable.not_not, Bool.not_eq_true] at h20
          simp [h20])]
      exact ih (i + 1) (by omega)
    · refine p_iload_n 1 24 rfl rfl dX7_wordsDead_23 rfl ?_
      refine p_iconst (1) 25 rfl dX7_wordsDead_24 rfl ?_
      refine p_iload_n 2 26 rfl rfl dX7_wordsDead_25 rfl ?_
      refine p_ishl 27 rfl dX7_wordsDead_26 ?_
      refine p_ior 28 rfl dX7_wordsDead_27 ?_
      refine p_ist_n1 29 rfl rfl dX7_wordsDead_28 (Nat.le_of_ble_eq_true rfl) rfl ?_
      refine p_inc_2 32 rfl dX7_wordsDead_29 (1) rfl (Nat.le_of_ble_eq_true rfl) rfl ?_
      refine p_goto 4 rfl dX7_wordsDead_32 ?_
      rw [set_t (p := fun k => dead O V k) (by
          simp only [b2i_eq0, Decidable.not_not, Bool.not_eq_true] at h20
          simp [h20]) (by omega), nI_1]
      exact ih (i + 1) (by omega)
set_option maxRecDepth 4000 in
theorem c_wordsDead (ho : RpO σ o O) (hw : RpW σ w V) (hv : OkV O V) (hwo : hR σ w 0 = o) : CallOk Γ 2 0 0 mX7_wordsDead [.ref w] σ (rI σ (nI (wDead O V))) := by
  refine p_enter rfl rfl (Nat.le_of_ble_eq_true rfl) rfl ?_
  refine p_iconst (0) 1 rfl dX7_wordsDead_0 rfl ?_
  refine p_ist_n1 2 rfl rfl dX7_wordsDead_1 (Nat.le_of_ble_eq_true rfl) rfl ?_
  refine p_iconst (0) 3 rfl dX7_wordsDead_2 rfl ?_
  refine p_ist_n2 4 rfl rfl dX7_wordsDead_3 (Nat.le_of_ble_eq_true rfl) rfl ?_
  exact l_wordsDead ho hw hv hwo (aW O) 0 (by omega)
set_option maxRecDepth 4000 in
theorem l_wordsBlank (ho : RpO σ o O) (hw : RpW σ w V) (hv : OkV O V) (hwo : hR σ w 0 = o) : ∀ (n i : Nat), i + n = aW O → Ok Γ 3 0 0 mX7_wordsBlank 4 [some (.ref w), some (.int (nI (setN i (fun k => !dead O V k && !fitt O V (aL O k) (aB O k))))), some (.int (nI i))] [] σ (rI σ (nI (setN (aW O) (fun k => !dead O V k && !fitt O V (aL O k) (aB O k))))) := by
  have hO := ho.2.1
  have hs9 := hO.1
  have hc6 := hO.2.1
  have hw12 := hO.2.2.1
  have hWd := hO.2.2.2.2.2
  intro n
  induction n with
  | zero =>
    intro i hi
    have hiN : i = aW O := by omega
    subst hiN
    refine p_iload_n 2 5 rfl rfl dX7_wordsBlank_4 rfl ?_
    refine p_aload_n 0 6 rfl rfl dX7_wordsBlank_5 rfl ?_
    refine p_getR 7 0 9 rfl dX7_wordsBlank_6 fl_X7_31 hw.1.1.kd rfl hwo ho.1.1.ne0 ?_
    refine p_getIE 4 7 12 rfl dX7_wordsBlank_9 fl_X7_83 ho.1.1.kd rfl ho.2.2.2.2.1 ?_
    refine p_icmp_ge 60 15 rfl rfl dX7_wordsBlank_12 (fun h12 => ?_) (fun h12 => absurd (nI_le (Nat.le_refl _) (by omega)) h12)
    refine p_iload_n 1 61 rfl rfl dX7_wordsBlank_60 rfl ?_
    exact p_iret dX7_wordsBlank_61 rfl ⟨rfl, rfl⟩
  | succ n ih =>
    intro i  hi
    have hlt : i < aW O := by omega
    refine p_iload_n 2 5 rfl rfl dX7_wordsBlank_4 rfl ?_
    refine p_aload_n 0 6 rfl rfl dX7_wordsBlank_5 rfl ?_
    refine p_getR 7 0 9 rfl dX7_wordsBlank_6 fl_X7_31 hw.1.1.kd rfl hwo ho.1.1.ne0 ?_
    refine p_getIE 4 7 12 rfl dX7_wordsBlank_9 fl_X7_83 ho.1.1.kd rfl ho.2.2.2.2.1 ?_
    refine p_icmp_ge 60 15 rfl rfl dX7_wordsBlank_12 (fun h12 => absurd h12 (nI_ge hlt (by omega))) (fun h12 => ?_)
    have h1 := (hWd i hlt).1
    have h2 := (hWd i hlt).2
    refine p_aload_n 0 16 rfl rfl dX7_wordsBlank_15 rfl ?_
    refine p_iload_n 2 17 rfl rfl dX7_wordsBlank_16 rfl ?_
    refine p_cV1i 20 rfl dX7_wordsBlank_17 (c_isDead ho hw hv hwo hlt) ml_X7_95 vl_X7_isDead hw.1.1.kd (by decide) rfl (Nat.le_of_ble_eq_true rfl) (Nat.le_of_ble_eq_true rfl) rfl ?_
    refine p_if_ne 54 23 rfl rfl dX7_wordsBlank_20 (fun h20 => ?_) (fun h20 => ?_)
    · refine p_inc_2 57 rfl dX7_wordsBlank_54 (1) rfl (Nat.le_of_ble_eq_true rfl) rfl ?_
      refine p_goto 4 rfl dX7_wordsBlank_57 ?_
      rw [nI_1, ← set_f (p := fun k => !dead O V k && !fitt O V (aL O k) (aB O k)) (by
          simp only [b2i_eq0, Decidable.not_not, Bool.not_eq_true] at h20
          simp [h20])]
      exact ih (i + 1) (by omega)
    · refine p_aload_n 0 24 rfl rfl dX7_wordsBlank_23 rfl ?_
      refine p_aload_n 0 25 rfl rfl dX7_wordsBlank_24 rfl ?_
      refine p_getR 7 0 28 rfl dX7_wordsBlank_25 fl_X7_31 hw.1.1.kd rfl hwo ho.1.1.ne0 ?_
      refine p_getR 4 8 31 rfl dX7_wordsBlank_28 fl_X7_86 ho.1.1.kd rfl ho.1.2.2.2.2.2.2.1 (mk0 (Nat.succ_ne_zero _)) ?_
      refine p_iload_n 2 32 rfl rfl dX7_wordsBlank_31 rfl ?_
      refine p_ialdE 33 rfl dX7_wordsBlank_32 (kd16 _ _) (lt12 (by omega)) (ho.2.2.2.2.2.2.2 i hlt).1 ?_
      refine p_aload_n 0 34 rfl rfl dX7_wordsBlank_33 rfl ?_
      refine p_getR 7 0 37 rfl dX7_wordsBlank_34 fl_X7_31 hw.1.1.kd rfl hwo ho.1.1.ne0 ?_
      refine p_getR 4 9 40 rfl dX7_wordsBlank_37 fl_X7_89 ho.1.1.kd rfl ho.1.2.2.2.2.2.2.2.1 (mk0 (Nat.succ_ne_zero _)) ?_
      refine p_iload_n 2 41 rfl rfl dX7_wordsBlank_40 rfl ?_
      refine p_ialdE 42 rfl dX7_wordsBlank_41 (kd16 _ _) (lt12 (by omega)) (ho.2.2.2.2.2.2.2 i hlt).2 ?_
      refine p_cV2i 45 rfl dX7_wordsBlank_42 (c_fits ho hw hv hwo (by omega) (by omega)) ml_X7_79 vl_X7_fits hw.1.1.kd (by decide) rfl (Nat.le_of_ble_eq_true rfl) (Nat.le_of_ble_eq_true rfl) rfl ?_
      refine p_if_ne 54 48 rfl rfl dX7_wordsBlank_45 (fun h45 => ?_) (fun h45 => ?_)
      · refine p_inc_2 57 rfl dX7_wordsBlank_54 (1) rfl (Nat.le_of_ble_eq_true rfl) rfl ?_
        refine p_goto 4 rfl dX7_wordsBlank_57 ?_
        rw [nI_1, ← set_f (p := fun k => !dead O V k && !fitt O V (aL O k) (aB O k)) (by
            simp only [b2i_eq0, Decidable.not_not, Bool.not_eq_true] at h45
            simp [h45])]
        exact ih (i + 1) (by omega)
      · refine p_iload_n 1 49 rfl rfl dX7_wordsBlank_48 rfl ?_
        refine p_iconst (1) 50 rfl dX7_wordsBlank_49 rfl ?_
        refine p_iload_n 2 51 rfl rfl dX7_wordsBlank_50 rfl ?_
        refine p_ishl 52 rfl dX7_wordsBlank_51 ?_
        refine p_ior 53 rfl dX7_wordsBlank_52 ?_
        refine p_ist_n1 54 rfl rfl dX7_wordsBlank_53 (Nat.le_of_ble_eq_true rfl) rfl ?_
        refine p_inc_2 57 rfl dX7_wordsBlank_54 (1) rfl (Nat.le_of_ble_eq_true rfl) rfl ?_
        refine p_goto 4 rfl dX7_wordsBlank_57 ?_
        rw [set_t (p := fun k => !dead O V k && !fitt O V (aL O k) (aB O k)) (by
            simp only [b2i_eq0, Decidable.not_not, Bool.not_eq_true] at h20 h45
            simp [h20, h45]) (by omega), nI_1]
        exact ih (i + 1) (by omega)
set_option maxRecDepth 4000 in
theorem c_wordsBlank (ho : RpO σ o O) (hw : RpW σ w V) (hv : OkV O V) (hwo : hR σ w 0 = o) : CallOk Γ 3 0 0 mX7_wordsBlank [.ref w] σ (rI σ (nI (wBlank O V))) := by
  refine p_enter rfl rfl (Nat.le_of_ble_eq_true rfl) rfl ?_
  refine p_iconst (0) 1 rfl dX7_wordsBlank_0 rfl ?_
  refine p_ist_n1 2 rfl rfl dX7_wordsBlank_1 (Nat.le_of_ble_eq_true rfl) rfl ?_
  refine p_iconst (0) 3 rfl dX7_wordsBlank_2 rfl ?_
  refine p_ist_n2 4 rfl rfl dX7_wordsBlank_3 (Nat.le_of_ble_eq_true rfl) rfl ?_
  exact l_wordsBlank ho hw hv hwo (aW O) 0 (by omega)
set_option maxRecDepth 4000 in
theorem l_knowers (ho : RpO σ o O) (hw : RpW σ w V) (hv : OkV O V) (hwo : hR σ w 0 = o) {k : Nat} (hk : k < 32) : ∀ (n i : Nat), i + n = aC O → Ok Γ 2 0 0 mX7_knowers 4 [some (.ref w), some (.int (nI k)), some (.int (nI (setN i (fun c => (vK V c).testBit k)))), some (.int (nI i))] [] σ (rI σ (nI (setN (aC O) (fun c => (vK V c).testBit k)))) := by
  have hO := ho.2.1
  have hs9 := hO.1
  have hc6 := hO.2.1
  have hw12 := hO.2.2.1
  intro n
  induction n with
  | zero =>
    intro i hi
    have hiN : i = aC O := by omega
    subst hiN
    refine p_iload_n 3 5 rfl rfl dX7_knowers_4 rfl ?_
    refine p_aload_n 0 6 rfl rfl dX7_knowers_5 rfl ?_
    refine p_getR 7 0 9 rfl dX7_knowers_6 fl_X7_31 hw.1.1.kd rfl hwo ho.1.1.ne0 ?_
    refine p_getIE 4 4 12 rfl dX7_knowers_9 fl_X7_64 ho.1.1.kd rfl ho.2.2.2.1 ?_
    refine p_icmp_ge 40 15 rfl rfl dX7_knowers_12 (fun h12 => ?_) (fun h12 => absurd (nI_le (Nat.le_refl _) (by omega)) h12)
    refine p_iload_n 2 41 rfl rfl dX7_knowers_40 rfl ?_
    exact p_iret dX7_knowers_41 rfl ⟨rfl, rfl⟩
  | succ n ih =>
    intro i  hi
    have hlt : i < aC O := by omega
    refine p_iload_n 3 5 rfl rfl dX7_knowers_4 rfl ?_
    refine p_aload_n 0 6 rfl rfl dX7_knowers_5 rfl ?_
    refine p_getR 7 0 9 rfl dX7_knowers_6 fl_X7_31 hw.1.1.kd rfl hwo ho.1.1.ne0 ?_
    refine p_getIE 4 4 12 rfl dX7_knowers_9 fl_X7_64 ho.1.1.kd rfl ho.2.2.2.1 ?_
    refine p_icmp_ge 40 15 rfl rfl dX7_knowers_12 (fun h12 => absurd h12 (nI_ge hlt (by omega))) (fun h12 => ?_)
    refine p_aload_n 0 16 rfl rfl dX7_knowers_15 rfl ?_
    refine p_getR 7 5 19 rfl dX7_knowers_16 fl_X7_25 hw.1.1.kd rfl hw.1.2.2.2.2.1 (mk0 (Nat.succ_ne_zero _)) ?_
    refine p_iload_n 3 20 rfl rfl dX7_knowers_19 rfl ?_
    refine p_ialdE 21 rfl dX7_knowers_20 (kd16 _ _) (lt6 (by omega)) (hw.2.2.2 i (by omega)) ?_
    refine p_iload_n 1 22 rfl rfl dX7_knowers_21 rfl ?_
    refine p_cN2i 25 rfl dX7_knowers_22 (c_hasBitN (by have := hv.2.2.2 i (by omega); omega) hk) mn_X7_92 sl_X8_hasBit (Nat.le_of_ble_eq_true rfl) (Nat.le_of_ble_eq_true rfl) ?_
    refine p_if_eq 34 28 rfl rfl dX7_knowers_25 (fun h25 => ?_) (fun h25 => ?_)
    · refine p_inc_3 37 rfl dX7_knowers_34 (1) rfl (Nat.le_of_ble_eq_true rfl) rfl ?_
      refine p_goto 4 rfl dX7_knowers_37 ?_
      rw [nI_1, ← set_f (p := fun c => (vK V c).testBit k) (by
          simp only [b2i_eq0, Decidable.not_not, Bool.not_eq_true] at h25
          simp [h25])]
      exact ih (i + 1) (by omega)
    · refine p_iload_n 2 29 rfl rfl dX7_knowers_28 rfl ?_
      refine p_iconst (1) 30 rfl dX7_knowers_29 rfl ?_
      refine p_iload_n 3 31 rfl rfl dX7_knowers_30 rfl ?_
      refine p_ishl 32 rfl dX7_knowers_31 ?_
      refine p_ior 33 rfl dX7_knowers_32 ?_
      refine p_ist_n2 34 rfl rfl dX7_knowers_33 (Nat.le_of_ble_eq_true rfl) rfl ?_
      refine p_inc_3 37 rfl dX7_knowers_34 (1) rfl (Nat.le_of_ble_eq_true rfl) rfl ?_
      refine p_goto 4 rfl dX7_knowers_37 ?_
      rw [set_t (p := fun c => (vK V c).testBit k) (by
          simp only [b2i_eq0, Decidable.not_not, Bool.not_eq_true] at h25
          simp [h25]) (by omega), nI_1]
      exact ih (i + 1) (by omega)
set_option maxRecDepth 4000 in
theorem c_knowers (ho : RpO σ o O) (hw : RpW σ w V) (hv : OkV O V) (hwo : hR σ w 0 = o) {k : Nat} (hk : k < 32) : CallOk Γ 2 0 0 mX7_knowers [.ref w, .int (nI k)] σ (rI σ (nI (whoK O V k))) := by
  refine p_enter rfl rfl (Nat.le_of_ble_eq_true rfl) rfl ?_
  refine p_iconst (0) 1 rfl dX7_knowers_0 rfl ?_
  refine p_ist_n2 2 rfl rfl dX7_knowers_1 (Nat.le_of_ble_eq_true rfl) rfl ?_
  refine p_iconst (0) 3 rfl dX7_knowers_2 rfl ?_
  refine p_ist_n3 4 rfl rfl dX7_knowers_3 (Nat.le_of_ble_eq_true rfl) rfl ?_
  exact l_knowers ho hw hv hwo hk (aC O) 0 (by omega)
set_option maxRecDepth 4000 in
theorem l_wordsKnownBy (ho : RpO σ o O) (hw : RpW σ w V) (hv : OkV O V) (hwo : hR σ w 0 = o) {m : Nat} (hm : m < 2 ^ 31) : ∀ (n i : Nat), i + n = aC O → Ok Γ 2 0 0 mX7_wordsKnownBy 4 [some (.ref w), some (.int (nI m)), some (.int (nI (orK i (fun c => m.testBit c) V))), some (.int (nI i))] [] σ (rI σ (nI (orK (aC O) (fun c => m.testBit c) V))) := by
  have hO := ho.2.1
  have hs9 := hO.1
  have hc6 := hO.2.1
  have hw12 := hO.2.2.1
  intro n
  induction n with
  | zero =>
    intro i hi
    have hiN : i = aC O := by omega
    subst hiN
    refine p_iload_n 3 5 rfl rfl dX7_wordsKnownBy_4 rfl ?_
    refine p_aload_n 0 6 rfl rfl dX7_wordsKnownBy_5 rfl ?_
    refine p_getR 7 0 9 rfl dX7_wordsKnownBy_6 fl_X7_31 hw.1.1.kd rfl hwo ho.1.1.ne0 ?_
    refine p_getIE 4 4 12 rfl dX7_wordsKnownBy_9 fl_X7_64 ho.1.1.kd rfl ho.2.2.2.1 ?_
    refine p_icmp_ge 38 15 rfl rfl dX7_wordsKnownBy_12 (fun h12 => ?_) (fun h12 => absurd (nI_le (Nat.le_refl _) (by omega)) h12)
    refine p_iload_n 2 39 rfl rfl dX7_wordsKnownBy_38 rfl ?_
    exact p_iret dX7_wordsKnownBy_39 rfl ⟨rfl, rfl⟩
  | succ n ih =>
    intro i hi
    have hlt : i < aC O := by omega
    refine p_iload_n 3 5 rfl rfl dX7_wordsKnownBy_4 rfl ?_
    refine p_aload_n 0 6 rfl rfl dX7_wordsKnownBy_5 rfl ?_
    refine p_getR 7 0 9 rfl dX7_wordsKnownBy_6 fl_X7_31 hw.1.1.kd rfl hwo ho.1.1.ne0 ?_
    refine p_getIE 4 4 12 rfl dX7_wordsKnownBy_9 fl_X7_64 ho.1.1.kd rfl ho.2.2.2.1 ?_
    refine p_icmp_ge 38 15 rfl rfl dX7_wordsKnownBy_12 (fun h12 => absurd h12 (nI_ge hlt (by omega))) (fun h12 => ?_)
    refine p_iload_n 1 16 rfl rfl dX7_wordsKnownBy_15 rfl ?_
    refine p_iload_n 3 17 rfl rfl dX7_wordsKnownBy_16 rfl ?_
    refine p_cN2i 20 rfl dX7_wordsKnownBy_17 (c_hasBitN hm (by omega)) mn_X7_92 sl_X8_hasBit (Nat.le_of_ble_eq_true rfl) (Nat.le_of_ble_eq_true rfl) ?_
    refine p_if_eq 32 23 rfl rfl dX7_wordsKnownBy_20 (fun h20 => ?_) (fun h20 => ?_)
    · refine p_inc_3 35 rfl dX7_wordsKnownBy_32 (1) rfl (Nat.le_of_ble_eq_true rfl) rfl ?_
      refine p_goto 4 rfl dX7_wordsKnownBy_35 ?_
      have hx := ih (i + 1) (by omega)
      rw [or_f (p := fun c => m.testBit c) (by
          simp only [b2i_eq0, Decidable.not_not, Bool.not_eq_true] at h20
          simp [h20])] at hx
      rw [nI_1]
      exact hx
    · refine p_iload_n 2 24 rfl rfl dX7_wordsKnownBy_23 rfl ?_
      refine p_aload_n 0 25 rfl rfl dX7_wordsKnownBy_24 rfl ?_
      refine p_getR 7 5 28 rfl dX7_wordsKnownBy_25 fl_X7_25 hw.1.1.kd rfl hw.1.2.2.2.2.1 (mk0 (Nat.succ_ne_zero _)) ?_
      refine p_iload_n 3 29 rfl rfl dX7_wordsKnownBy_28 rfl ?_
      refine p_ialdE 30 rfl dX7_wordsKnownBy_29 (kd16 _ _) (lt6 (by omega)) (hw.2.2.2 i (by omega)) ?_
      refine p_ior 31 rfl dX7_wordsKnownBy_30 ?_
      refine p_ist_n2 32 rfl rfl dX7_wordsKnownBy_31 (Nat.le_of_ble_eq_true rfl) rfl ?_
      refine p_inc_3 35 rfl dX7_wordsKnownBy_32 (1) rfl (Nat.le_of_ble_eq_true rfl) rfl ?_
      refine p_goto 4 rfl dX7_wordsKnownBy_35 ?_
      rw [or_t (p := fun c => m.testBit c) (by
          simp only [b2i_eq0, Decidable.not_not, Bool.not_eq_true] at h20
          simp [h20]), nI_1]
      exact ih (i + 1) (by omega)
set_option maxRecDepth 4000 in
theorem c_wordsKnownBy (ho : RpO σ o O) (hw : RpW σ w V) (hv : OkV O V) (hwo : hR σ w 0 = o) {m : Nat} (hm : m < 2 ^ 31) : CallOk Γ 2 0 0 mX7_wordsKnownBy [.ref w, .int (nI m)] σ (rI σ (nI (kBy O V m))) := by
  refine p_enter rfl rfl (Nat.le_of_ble_eq_true rfl) rfl ?_
  refine p_iconst (0) 1 rfl dX7_wordsKnownBy_0 rfl ?_
  refine p_ist_n2 2 rfl rfl dX7_wordsKnownBy_1 (Nat.le_of_ble_eq_true rfl) rfl ?_
  refine p_iconst (0) 3 rfl dX7_wordsKnownBy_2 rfl ?_
  refine p_ist_n3 4 rfl rfl dX7_wordsKnownBy_3 (Nat.le_of_ble_eq_true rfl) rfl ?_
  exact l_wordsKnownBy ho hw hv hwo hm (aC O) 0 (by omega)
set_option maxRecDepth 4000 in
theorem c_wordsKnown (ho : RpO σ o O) (hw : RpW σ w V) (hv : OkV O V) (hwo : hR σ w 0 = o) : CallOk Γ 3 0 0 mX7_wordsKnown [.ref w] σ (rI σ (nI (kAll O V))) := by
  have hc6 := ho.2.1.2.1
  rw [← kBy_all hc6 V]
  have hm : 2 ^ aC O - 1 < 2 ^ 31 := by
    have : 2 ^ aC O ≤ 2 ^ 6 := Nat.pow_le_pow_right (by decide) hc6
    omega
  refine p_enter rfl rfl (Nat.le_of_ble_eq_true rfl) rfl ?_
  refine p_aload_n 0 1 rfl rfl dX7_wordsKnown_0 rfl ?_
  refine p_iconst (1) 2 rfl dX7_wordsKnown_1 rfl ?_
  refine p_aload_n 0 3 rfl rfl dX7_wordsKnown_2 rfl ?_
  refine p_getR 7 0 6 rfl dX7_wordsKnown_3 fl_X7_31 hw.1.1.kd rfl hwo ho.1.1.ne0 ?_
  refine p_getIE 4 4 9 rfl dX7_wordsKnown_6 fl_X7_64 ho.1.1.kd rfl ho.2.2.2.1 ?_
  refine p_ishl 10 rfl dX7_wordsKnown_9 ?_
  refine p_iconst (1) 11 rfl dX7_wordsKnown_10 rfl ?_
  refine p_isub 12 rfl dX7_wordsKnown_11 ?_
  rw [one_shl_m1 (aC O) (by omega)]
  refine p_cV1i 15 rfl dX7_wordsKnown_12 (c_wordsKnownBy ho hw hv hwo hm) ml_X7_99 vl_X7_wordsKnownBy hw.1.1.kd (by decide) rfl (Nat.le_of_ble_eq_true rfl) (Nat.le_of_ble_eq_true rfl) rfl ?_
  exact p_iret dX7_wordsKnown_15 rfl ⟨rfl, rfl⟩
def tShow (O : AO) (V : AW) (k : Nat) : Nat := if fitt O V (aL O k) (aB O k) = true ∧ tOf O V (aL O k) 0 = tOf O V (aB O k) 0 then tOf O V (aL O k) 0 else 0
set_option maxRecDepth 4000 in
theorem c_townShowing (ho : RpO σ o O) (hw : RpW σ w V) (hv : OkV O V) (hwo : hR σ w 0 = o) {k : Nat} (hk : k < aW O) : CallOk Γ 3 0 0 mX7_townShowing [.ref w, .int (nI k)] σ (rI σ (pI (tShow O V k))) := by
  have hO := ho.2.1
  have hs9 := hO.1
  have hw12 := hO.2.2.1
  have h1 := (hO.2.2.2.2.2 k hk).1
  have h2 := (hO.2.2.2.2.2 k hk).2
  have g1 := tOf_lt hO hv (k := 0) h1
  have g2 := tOf_lt hO hv (k := 0) h2
  refine p_enter rfl rfl (Nat.le_of_ble_eq_true rfl) rfl ?_
  refine p_aload_n 0 1 rfl rfl dX7_townShowing_0 rfl ?_
  refine p_getR 7 0 4 rfl dX7_townShowing_1 fl_X7_31 hw.1.1.kd rfl hwo ho.1.1.ne0 ?_
  refine p_getR 4 8 7 rfl dX7_townShowing_4 fl_X7_86 ho.1.1.kd rfl ho.1.2.2.2.2.2.2.1 (mk0 (Nat.succ_ne_zero _)) ?_
  refine p_iload_n 1 8 rfl rfl dX7_townShowing_7 rfl ?_
  refine p_ialdE 9 rfl dX7_townShowing_8 (kd16 _ _) (lt12 (by omega)) (ho.2.2.2.2.2.2.2 k hk).1 ?_
  refine p_ist_n2 10 rfl rfl dX7_townShowing_9 (Nat.le_of_ble_eq_true rfl) rfl ?_
  refine p_aload_n 0 11 rfl rfl dX7_townShowing_10 rfl ?_
  refine p_getR 7 0 14 rfl dX7_townShowing_11 fl_X7_31 hw.1.1.kd rfl hwo ho.1.1.ne0 ?_
  refine p_getR 4 9 17 rfl dX7_townShowing_14 fl_X7_89 ho.1.1.kd rfl ho.1.2.2.2.2.2.2.2.1 (mk0 (Nat.succ_ne_zero _)) ?_
  refine p_iload_n 1 18 rfl rfl dX7_townShowing_17 rfl ?_
  refine p_ialdE 19 rfl dX7_townShowing_18 (kd16 _ _) (lt12 (by omega)) (ho.2.2.2.2.2.2.2 k hk).2 ?_
  refine p_ist_n3 20 rfl rfl dX7_townShowing_19 (Nat.le_of_ble_eq_true rfl) rfl ?_
  refine p_aload_n 0 21 rfl rfl dX7_townShowing_20 rfl ?_
  refine p_iload_n 2 22 rfl rfl dX7_townShowing_21 rfl ?_
  refine p_iload_n 3 23 rfl rfl dX7_townShowing_22 rfl ?_
  refine p_cV2i 26 rfl dX7_townShowing_23 (c_fits ho hw hv hwo (by omega) (by omega)) ml_X7_79 vl_X7_fits hw.1.1.kd (by decide) rfl (Nat.le_of_ble_eq_true rfl) (Nat.le_of_ble_eq_true rfl) rfl ?_
  refine p_if_eq 53 29 rfl rfl dX7_townShowing_26 (fun h26 => ?_) (fun h26 => ?_)
  · refine p_iconst (-1) 54 rfl dX7_townShowing_53 rfl ?_
    exact p_iret dX7_townShowing_54 rfl ⟨by
        simp only [b2i_eq0, Bool.not_eq_true] at h26
        simp [tShow, h26]; rfl, rfl⟩
  · refine p_aload_n 0 30 rfl rfl dX7_townShowing_29 rfl ?_
    refine p_iload_n 2 31 rfl rfl dX7_townShowing_30 rfl ?_
    refine p_iconst (0) 32 rfl dX7_townShowing_31 rfl ?_
    refine p_cV2i 35 rfl dX7_townShowing_32 (c_townOf (k := 0) ho hw hv hwo h1 (by omega)) ml_X7_61 vl_X7_townOf hw.1.1.kd (by decide) rfl (Nat.le_of_ble_eq_true rfl) (Nat.le_of_ble_eq_true rfl) rfl ?_
    refine p_aload_n 0 36 rfl rfl dX7_townShowing_35 rfl ?_
    refine p_iload_n 3 37 rfl rfl dX7_townShowing_36 rfl ?_
    refine p_iconst (0) 38 rfl dX7_townShowing_37 rfl ?_
    refine p_cV2i 41 rfl dX7_townShowing_38 (c_townOf (k := 0) ho hw hv hwo h2 (by omega)) ml_X7_61 vl_X7_townOf hw.1.1.kd (by decide) rfl (Nat.le_of_ble_eq_true rfl) (Nat.le_of_ble_eq_true rfl) rfl ?_
    refine p_icmp_ne 53 44 rfl rfl dX7_townShowing_41 (fun h41 => ?_) (fun h41 => ?_)
    · refine p_iconst (-1) 54 rfl dX7_townShowing_53 rfl ?_
      exact p_iret dX7_townShowing_54 rfl ⟨by
          rw [pI_inj (by omega) (by omega)] at h41
          simp [tShow, h41]; rfl, rfl⟩
    · refine p_aload_n 0 45 rfl rfl dX7_townShowing_44 rfl ?_
      refine p_iload_n 2 46 rfl rfl dX7_townShowing_45 rfl ?_
      refine p_iconst (0) 47 rfl dX7_townShowing_46 rfl ?_
      refine p_cV2i 50 rfl dX7_townShowing_47 (c_townOf (k := 0) ho hw hv hwo h1 (by omega)) ml_X7_61 vl_X7_townOf hw.1.1.kd (by decide) rfl (Nat.le_of_ble_eq_true rfl) (Nat.le_of_ble_eq_true rfl) rfl ?_
      refine p_goto 54 rfl dX7_townShowing_50 ?_
      exact p_iret dX7_townShowing_54 rfl ⟨by
          rw [pI_inj (by omega) (by omega)] at h41
          simp only [b2i_eq0, Decidable.not_not] at h26
          simp [tShow, h41, h26], rfl⟩
set_option maxRecDepth 4000 in
theorem l_hasWord (ho : RpO σ o O) (a b : Int32) : ∀ (n i : Nat), i + n = aW O → Ok Γ 1 0 0 mX4_hasWord 2 [some (.ref o), some (.int a), some (.int b), some (.int (nI i))] [] σ (rI σ (b2i (anyF n i (fun k => decide (nI (aL O k) = a) && decide (nI (aB O k) = b))))) := by
  have hO := ho.2.1
  have hs9 := hO.1
  have hc6 := hO.2.1
  have hw12 := hO.2.2.1
  intro n
  induction n with
  | zero =>
    intro i hi
    have hiN : i = aW O := by omega
    subst hiN
    refine p_iload_n 3 3 rfl rfl dX4_hasWord_2 rfl ?_
    refine p_aload_n 0 4 rfl rfl dX4_hasWord_3 rfl ?_
    refine p_getIE 4 7 7 rfl dX4_hasWord_4 fl_X4_34 ho.1.1.kd rfl ho.2.2.2.2.1 ?_
    refine p_icmp_ge 38 10 rfl rfl dX4_hasWord_7 (fun h7 => ?_) (fun h7 => absurd (nI_le (Nat.le_refl _) (by omega)) h7)
    refine p_iconst (0) 39 rfl dX4_hasWord_38 rfl ?_
    exact p_zret dX4_hasWord_39 rfl rfl ⟨rfl, rfl⟩
  | succ n ih =>
    intro i hi
    have hlt : i < aW O := by omega
    refine p_iload_n 3 3 rfl rfl dX4_hasWord_2 rfl ?_
    refine p_aload_n 0 4 rfl rfl dX4_hasWord_3 rfl ?_
    refine p_getIE 4 7 7 rfl dX4_hasWord_4 fl_X4_34 ho.1.1.kd rfl ho.2.2.2.2.1 ?_
    refine p_icmp_ge 38 10 rfl rfl dX4_hasWord_7 (fun h7 => absurd h7 (nI_ge hlt (by omega))) (fun h7 => ?_)
    refine p_aload_n 0 11 rfl rfl dX4_hasWord_10 rfl ?_
    refine p_getR 4 8 14 rfl dX4_hasWord_11 fl_X4_37 ho.1.1.kd rfl ho.1.2.2.2.2.2.2.1 (mk0 (Nat.succ_ne_zero _)) ?_
    refine p_iload_n 3 15 rfl rfl dX4_hasWord_14 rfl ?_
    refine p_ialdE 16 rfl dX4_hasWord_15 (kd16 _ _) (lt12 (by omega)) (ho.2.2.2.2.2.2.2 i hlt).1 ?_
    refine p_iload_n 1 17 rfl rfl dX4_hasWord_16 rfl ?_
    refine p_icmp_ne 32 20 rfl rfl dX4_hasWord_17 (fun h17 => ?_) (fun h17 => ?_)
    · refine p_inc_3 35 rfl dX4_hasWord_32 (1) rfl (Nat.le_of_ble_eq_true rfl) rfl ?_
      refine p_goto 2 rfl dX4_hasWord_35 ?_
      rw [nI_1]
      have hx := ih (i + 1) (by omega)
      have hn : (fun k => decide (nI (aL O k) = a) && decide (nI (aB O k) = b)) i = false := by simp [h17]
      simp only [anyF, hn, Bool.false_or]
      exact hx
    · refine p_aload_n 0 21 rfl rfl dX4_hasWord_20 rfl ?_
      refine p_getR 4 9 24 rfl dX4_hasWord_21 fl_X4_40 ho.1.1.kd rfl ho.1.2.2.2.2.2.2.2.1 (mk0 (Nat.succ_ne_zero _)) ?_
      refine p_iload_n 3 25 rfl rfl dX4_hasWord_24 rfl ?_
      refine p_ialdE 26 rfl dX4_hasWord_25 (kd16 _ _) (lt12 (by omega)) (ho.2.2.2.2.2.2.2 i hlt).2 ?_
      refine p_iload_n 2 27 rfl rfl dX4_hasWord_26 rfl ?_
      refine p_icmp_ne 32 30 rfl rfl dX4_hasWord_27 (fun h27 => ?_) (fun h27 => ?_)
      · refine p_inc_3 35 rfl dX4_hasWord_32 (1) rfl (Nat.le_of_ble_eq_true rfl) rfl ?_
        refine p_goto 2 rfl dX4_hasWord_35 ?_
        rw [nI_1]
        have hx := ih (i + 1) (by omega)
        have hn : (fun k => decide (nI (aL O k) = a) && decide (nI (aB O k) = b)) i = false := by simp [h27]
        simp only [anyF, hn, Bool.false_or]
        exact hx
      · refine p_iconst (1) 31 rfl dX4_hasWord_30 rfl ?_
        exact p_zret dX4_hasWord_31 rfl rfl ⟨by simp [anyF, h17, h27, b2i], rfl⟩
set_option maxRecDepth 4000 in
theorem c_hasWord (ho : RpO σ o O) (a b : Int32) : CallOk Γ 1 0 0 mX4_hasWord [.ref o, .int a, .int b] σ (rI σ (b2i (hasW O a b))) := by
  refine p_enter rfl rfl (Nat.le_of_ble_eq_true rfl) rfl ?_
  refine p_iconst (0) 1 rfl dX4_hasWord_0 rfl ?_
  refine p_ist_n3 2 rfl rfl dX4_hasWord_1 (Nat.le_of_ble_eq_true rfl) rfl ?_
  exact l_hasWord ho a b (aW O) 0 (by omega)
end C34
