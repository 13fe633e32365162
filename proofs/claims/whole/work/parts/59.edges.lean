/-! ===== how the sheets lie beside each other ===== -/
abbrev E0 : Nat := 16777218
abbrev eW : Nat := 17039664
abbrev eR : Nat := 17301808
abbrev eB : Nat := 17563952
abbrev eS : Nat := 17842192
def sEd : List Nat := [64, 65, 66, 67, 68]
def unb (O : AO) (V : AW) : Nat := (2 ^ aS O - 1) ^^^ ((2 ^ aS O - 1) &&& shAt O V 0)
def bsN (O : AO) (V : AW) (s j : Nat) : Nat := ftg O V s ||| setN j (fun q => fitt O V q s)
def bsd (O : AO) (V : AW) (s : Nat) : Nat := bsN O V s (aS O)
def RpE (σ : PH) (n u : Nat) (r b : Nat → Nat) (i : Nat) : Prop := hI σ E0 1 = nI n ∧ hI σ E0 2 = nI u ∧ ∀ s, s < i → hA σ eR s = nI (r s) ∧ hA σ eB s = nI (b s)
def EDG (σ : PH) (A : AT) : Prop := RpE σ (aS (tO A)) (unb (tO A) (tV A)) (ftg (tO A) (tV A)) (bsd (tO A) (tV A)) (aS (tO A))
theorem IT.ed {σ σ' : PH} {o o' : Nat} {A : AT} (h : IT σ o o' A) (hc : Ch (inS sEd) σ σ') : IT σ' o o' A := h.auxW (hc.more (by decide))
theorem one_shl_m1' : ∀ c, c < 10 → (1 : Int32) <<< (nI c &&& 31) - 1 = nI (2 ^ c - 1) := by decide +kernel
theorem ftg_lt {O : AO} (h : OkO O) (V : AW) (s : Nat) : ftg O V s < 512 := Nat.lt_of_lt_of_le (setN_lt _ _) (Nat.pow_le_pow_right (by decide) h.1)
theorem p9 {n : Nat} (h : n ≤ 9) : 2 ^ n - 1 < 512 ∧ 2 ^ n ≤ 512 ∧ 0 < 2 ^ n := by
  have := Nat.pow_le_pow_right (show 0 < 2 by decide) h
  have := Nat.two_pow_pos n
  omega
theorem unb_lt {O : AO} (h : OkO O) (V : AW) : unb O V < 512 := Nat.xor_lt_two_pow (n := 9) (p9 h.1).1 (Nat.lt_of_le_of_lt Nat.and_le_left (p9 h.1).1)
theorem bsN_lt {O : AO} (h : OkO O) (V : AW) (s : Nat) {j : Nat} (hj : j ≤ 9) : bsN O V s j < 512 := Nat.or_lt_two_pow (n := 9) (ftg_lt h V s) (Nat.lt_of_lt_of_le (setN_lt _ _) (Nat.pow_le_pow_right (by decide) hj))
theorem bsN_t {O : AO} {V : AW} {s j : Nat} (h : fitt O V j s = true) : bsN O V s j ||| 2 ^ j = bsN O V s (j + 1) := by
  simp only [bsN, setN, h, if_true, Nat.or_assoc]
theorem bsN_f {O : AO} {V : AW} {s j : Nat} (h : fitt O V j s = false) : bsN O V s (j + 1) = bsN O V s j := by
  unfold bsN; rw [set_f (by simp [h])]
section C59
variable {Γ : Gm} {σ : PH} {o o' : Nat} {A : AT}
set_option maxRecDepth 4000 in
theorem m_lookAt (hT : IT σ o o' A) {i : Nat} (hi : i < aS (tO A)) {Q : PO → PH → Prop} (kk : ∀ (σ1 : PH) (x3 : Option Value), IT σ1 o o' A → RpE σ1 (aS (tO A)) (unb (tO A) (tV A)) (ftg (tO A) (tV A)) (bsd (tO A) (tV A)) (i + 1) → Ch (inS sEd) σ σ1 → Ok Γ 5 0 0 mX2_lookAt 32 [some (.ref E0), some (.ref wN), some (.int (nI (i + 1))), x3] [] σ1 Q) : ∀ (n j : Nat) (σ1 : PH), j + n = aS (tO A) → IT σ1 o o' A → RpE σ1 (aS (tO A)) (unb (tO A) (tV A)) (ftg (tO A) (tV A)) (bsd (tO A) (tV A)) i → hA σ1 eR i = nI (ftg (tO A) (tV A) i) → hA σ1 eB i = nI (bsN (tO A) (tV A) i j) → Ch (inS sEd) σ σ1 → Ok Γ 5 0 0 mX2_lookAt 65 [some (.ref E0), some (.ref wN), some (.int (nI i)), some (.int (nI j))] [] σ1 Q := by
  have hS := hT.1
  have hK := hT.2.1
  have hto : hR σ T0 3 = o := hT.2.2.1.2.2.1
  have hQ := hT.2.2.2.1
  have ho := hQ.1
  have hw := hT.2.2.2.2.1.1
  have hwo := hT.2.2.2.2.1.2
  have hv := hK.2.2.2.2.1.1
  have hd9 := hK.2.2.2.2.1.2
  have hY := hK.2.2.2.1
  have hO := hK.2.2.1
  have hs9 := hO.1
  have hc6 := hO.2.1
  have hw12 := hO.2.2.1
  have hk8 := hO.2.2.2.1
  intro n
  induction n with
  | zero =>
    intro j σ1 hj hT1 hE hr hb hc1
    have hS1 := hT1.1
    have hQ1 := hT1.2.2.2.1
    have ho1 := hQ1.1
    have hw1 := hT1.2.2.2.2.1.1
    have hwo1 := hT1.2.2.2.2.1.2
    refine p_iload_n 3 66 rfl rfl dX2_lookAt_65 rfl ?_
    refine p_aload_n 0 67 rfl rfl dX2_lookAt_66 rfl ?_
    refine p_getIE 2 1 70 rfl dX2_lookAt_67 fl_X2_15 rfl rfl hE.1 ?_
    refine p_icmp_ge 100 73 rfl rfl dX2_lookAt_70 (fun h70 => ?_) (fun h70 => absurd (nI_le (a := aS (tO A)) (b := j) (by omega) (by omega)) h70)
    refine p_inc_2 103 rfl dX2_lookAt_100 (1) rfl (Nat.le_of_ble_eq_true rfl) rfl ?_
    refine p_goto 32 rfl dX2_lookAt_103 ?_
    rw [nI_1]
    refine kk σ1 _ hT1 ⟨hE.1, hE.2.1, fun s hs => ?_⟩ hc1
    rcases Nat.lt_or_ge s i with z | z
    · exact hE.2.2 s z
    · rw [show s = i by omega]
      refine ⟨hr, ?_⟩
      rw [hb, show j = aS (tO A) by omega]; rfl
  | succ n ih =>
    intro j σ1 hj hT1 hE hr hb hc1
    have hS1 := hT1.1
    have hQ1 := hT1.2.2.2.1
    have ho1 := hQ1.1
    have hw1 := hT1.2.2.2.2.1.1
    have hwo1 := hT1.2.2.2.2.1.2
    refine p_iload_n 3 66 rfl rfl dX2_lookAt_65 rfl ?_
    refine p_aload_n 0 67 rfl rfl dX2_lookAt_66 rfl ?_
    refine p_getIE 2 1 70 rfl dX2_lookAt_67 fl_X2_15 rfl rfl hE.1 ?_
    refine p_icmp_ge 100 73 rfl rfl dX2_lookAt_70 (fun h70 => absurd h70 (nI_ge (a := j) (b := aS (tO A)) (by omega) (by omega))) (fun h70 => ?_)
    refine p_aload_n 1 74 rfl rfl dX2_lookAt_73 rfl ?_
    refine p_iload_n 3 75 rfl rfl dX2_lookAt_74 rfl ?_
    refine p_iload_n 2 76 rfl rfl dX2_lookAt_75 rfl ?_
    refine p_cV2i 79 rfl dX2_lookAt_76 (c_fits ho1 hw1 hv hwo1 (by omega) (by omega)) ml_X2_48 vl_X7_fits rfl (by decide) rfl (Nat.le_of_ble_eq_true rfl) (Nat.le_of_ble_eq_true rfl) rfl ?_
    refine p_if_eq 94 82 rfl rfl dX2_lookAt_79 (fun h79 => ?_) (fun h79 => ?_)
    · refine p_inc_3 97 rfl dX2_lookAt_94 (1) rfl (Nat.le_of_ble_eq_true rfl) rfl ?_
      refine p_goto 65 rfl dX2_lookAt_97 ?_
      have hf : fitt (tO A) (tV A) j i = false := by simpa only [b2i_eq0, Bool.not_eq_true] using h79
      rw [nI_1]
      exact ih (j + 1) σ1 (by omega) hT1 hE hr (by rw [bsN_f hf]; exact hb) hc1
    · refine p_aload_n 0 83 rfl rfl dX2_lookAt_82 rfl ?_
      refine p_getR 2 4 86 rfl dX2_lookAt_83 fl_X2_25 rfl rfl hS1.2.2.2.2.2.2.2.2.2.2.2.2.2.2.2.2.1 (by decide) ?_
      refine p_iload_n 2 87 rfl rfl dX2_lookAt_86 rfl ?_
      refine p_dup2 88 rfl dX2_lookAt_87 rfl rfl ?_
      refine p_ialdE 89 rfl dX2_lookAt_88 (i := i) rfl (by show i < 9; omega) hb ?_
      refine p_iconst (1) 90 rfl dX2_lookAt_89 rfl ?_
      refine p_iload_n 3 91 rfl rfl dX2_lookAt_90 rfl ?_
      refine p_ishl 92 rfl dX2_lookAt_91 ?_
      refine p_ior 93 rfl dX2_lookAt_92 ?_
      rw [one_shl _ (by omega), nx_or]
      refine p_iastE 94 rfl dX2_lookAt_93 (i := i) rfl (by show i < 9; omega) ?_
      refine p_inc_3 97 rfl dX2_lookAt_94 (1) rfl (Nat.le_of_ble_eq_true rfl) rfl ?_
      refine p_goto 65 rfl dX2_lookAt_97 ?_
      have hf : fitt (tO A) (tV A) j i = true := by simpa only [b2i_eq0, Decidable.not_not, Bool.not_eq_true, Bool.not_eq_false] using h79
      rw [nI_1, bsN_t hf]
      have hc2 : Ch (inS sEd) σ1 (sA σ1 eB i (nI (bsN (tO A) (tV A) i (j + 1)))) := Fr.ch (XI := []) (X := [eB]) (Fr.sA (by simp)) rfl (by decide)
      refine ih (j + 1) _ (by omega) (hT1.ed hc2) ⟨hE.1, hE.2.1, fun s hs => ?_⟩ ?_ ?_ (hc1.tr hc2)
      · rw [sA_o (show eR ≠ eB by decide), sA_s, pk_un (by omega)]; exact hE.2.2 s hs
      · rw [sA_o (show eR ≠ eB by decide)]; exact hr
      · rw [sA_s, pk_us]
set_option maxRecDepth 4000 in
theorem l_lookAt (hT : IT σ o o' A) : ∀ (n i : Nat) (σ1 : PH) (x3 : Option Value), i + n = aS (tO A) → IT σ1 o o' A → RpE σ1 (aS (tO A)) (unb (tO A) (tV A)) (ftg (tO A) (tV A)) (bsd (tO A) (tV A)) i → Ch (inS sEd) σ σ1 → Ok Γ 5 0 0 mX2_lookAt 32 [some (.ref E0), some (.ref wN), some (.int (nI i)), x3] [] σ1 (rV (fun σ' => IT σ' o o' A ∧ EDG σ' A ∧ Ch (inS sEd) σ σ')) := by
  have hS := hT.1
  have hK := hT.2.1
  have hto : hR σ T0 3 = o := hT.2.2.1.2.2.1
  have hQ := hT.2.2.2.1
  have ho := hQ.1
  have hw := hT.2.2.2.2.1.1
  have hwo := hT.2.2.2.2.1.2
  have hv := hK.2.2.2.2.1.1
  have hd9 := hK.2.2.2.2.1.2
  have hY := hK.2.2.2.1
  have hO := hK.2.2.1
  have hs9 := hO.1
  have hc6 := hO.2.1
  have hw12 := hO.2.2.1
  have hk8 := hO.2.2.2.1
  intro n
  induction n with
  | zero =>
    intro i σ1 x3 hi hT1 hE hc1
    have hS1 := hT1.1
    have hQ1 := hT1.2.2.2.1
    have ho1 := hQ1.1
    have hw1 := hT1.2.2.2.2.1.1
    have hwo1 := hT1.2.2.2.2.1.2
    refine p_iload_n 2 33 rfl rfl dX2_lookAt_32 rfl ?_
    refine p_aload_n 0 34 rfl rfl dX2_lookAt_33 rfl ?_
    refine p_getIE 2 1 37 rfl dX2_lookAt_34 fl_X2_15 rfl rfl hE.1 ?_
    refine p_icmp_ge 106 40 rfl rfl dX2_lookAt_37 (fun h37 => ?_) (fun h37 => absurd (nI_le (a := aS (tO A)) (b := i) (by omega) (by omega)) h37)
    exact p_vret dX2_lookAt_106 rfl ⟨rfl, hT1, by rw [show i = aS (tO A) by omega] at hE; exact hE, hc1⟩
  | succ n ih =>
    intro i σ1 x3 hi hT1 hE hc1
    have hS1 := hT1.1
    have hQ1 := hT1.2.2.2.1
    have ho1 := hQ1.1
    have hw1 := hT1.2.2.2.2.1.1
    have hwo1 := hT1.2.2.2.2.1.2
    refine p_iload_n 2 33 rfl rfl dX2_lookAt_32 rfl ?_
    refine p_aload_n 0 34 rfl rfl dX2_lookAt_33 rfl ?_
    refine p_getIE 2 1 37 rfl dX2_lookAt_34 fl_X2_15 rfl rfl hE.1 ?_
    refine p_icmp_ge 106 40 rfl rfl dX2_lookAt_37 (fun h37 => absurd h37 (nI_ge (a := i) (b := aS (tO A)) (by omega) (by omega))) (fun h37 => ?_)
    refine p_aload_n 0 41 rfl rfl dX2_lookAt_40 rfl ?_
    refine p_getR 2 3 44 rfl dX2_lookAt_41 fl_X2_22 rfl rfl hS1.2.2.2.2.2.2.2.2.2.2.2.2.2.2.2.1 (by decide) ?_
    refine p_iload_n 2 45 rfl rfl dX2_lookAt_44 rfl ?_
    refine p_aload_n 1 46 rfl rfl dX2_lookAt_45 rfl ?_
    refine p_iload_n 2 47 rfl rfl dX2_lookAt_46 rfl ?_
    refine p_cV1i 50 rfl dX2_lookAt_47 (c_fitting ho1 hw1 hv hwo1 (by omega)) ml_X2_44 vl_X7_fitting rfl (by decide) rfl (Nat.le_of_ble_eq_true rfl) (Nat.le_of_ble_eq_true rfl) rfl ?_
    refine p_iastE 51 rfl dX2_lookAt_50 (i := i) rfl (by show i < 9; omega) ?_
    refine p_aload_n 0 52 rfl rfl dX2_lookAt_51 rfl ?_
    refine p_getR 2 4 55 rfl dX2_lookAt_52 fl_X2_25 rfl rfl hS1.2.2.2.2.2.2.2.2.2.2.2.2.2.2.2.2.1 (by decide) ?_
    refine p_iload_n 2 56 rfl rfl dX2_lookAt_55 rfl ?_
    refine p_aload_n 0 57 rfl rfl dX2_lookAt_56 rfl ?_
    refine p_getR 2 3 60 rfl dX2_lookAt_57 fl_X2_22 rfl rfl hS1.2.2.2.2.2.2.2.2.2.2.2.2.2.2.2.1 (by decide) ?_
    refine p_iload_n 2 61 rfl rfl dX2_lookAt_60 rfl ?_
    refine p_ialdE 62 rfl dX2_lookAt_61 (i := i) rfl (by show i < 9; omega) ((congrFun (sA_s _ _ _ _) i).trans pk_us) ?_
    refine p_iastE 63 rfl dX2_lookAt_62 (i := i) rfl (by show i < 9; omega) ?_
    refine p_iconst (0) 64 rfl dX2_lookAt_63 rfl ?_
    refine p_ist_n3 65 rfl rfl dX2_lookAt_64 (Nat.le_of_ble_eq_true rfl) rfl ?_
    have hc2 : Ch (inS sEd) σ1 (sA (sA σ1 eR i (nI (ftg (tO A) (tV A) i))) eB i (nI (ftg (tO A) (tV A) i))) := Fr.ch (XI := []) (X := [eR, eB]) ((Fr.sA (by simp)).tr (Fr.sA (by simp))) rfl (by decide)
    have eA1 : hA (sA (sA σ1 eR i (nI (ftg (tO A) (tV A) i))) eB i (nI (ftg (tO A) (tV A) i))) eR = upd (hA σ1 eR) i (nI (ftg (tO A) (tV A) i)) := by rw [sA_o (show eR ≠ eB by decide), sA_s]
    have eA2 : hA (sA (sA σ1 eR i (nI (ftg (tO A) (tV A) i))) eB i (nI (ftg (tO A) (tV A) i))) eB = upd (hA σ1 eB) i (nI (ftg (tO A) (tV A) i)) := by rw [sA_s, sA_o (show eB ≠ eR by decide)]
    refine m_lookAt hT (i := i) (by omega) (fun σ2 x3 hT2 hE2 hc3 => ih (i + 1) σ2 x3 (by omega) hT2 hE2 hc3) (aS (tO A)) 0 _ (by omega) (hT1.ed hc2) ⟨hE.1, hE.2.1, fun s hs => ?_⟩ ?_ ?_ (hc1.tr hc2)
    · rw [eA1, eA2, pk_un (by omega), pk_un (by omega)]; exact hE.2.2 s hs
    · rw [eA1, pk_us]
    · rw [eA2, pk_us]; simp [bsN, setN]
set_option maxRecDepth 4000 in
theorem c_lookAt (hT : IT σ o o' A) : CallOk Γ 5 0 0 mX2_lookAt [.ref E0, .ref wN] σ (rV (fun σ' => IT σ' o o' A ∧ EDG σ' A ∧ Ch (inS sEd) σ σ')) := by
  have hS := hT.1
  have hK := hT.2.1
  have hto : hR σ T0 3 = o := hT.2.2.1.2.2.1
  have hQ := hT.2.2.2.1
  have ho := hQ.1
  have hw := hT.2.2.2.2.1.1
  have hwo := hT.2.2.2.2.1.2
  have hv := hK.2.2.2.2.1.1
  have hd9 := hK.2.2.2.2.1.2
  have hY := hK.2.2.2.1
  have hO := hK.2.2.1
  have hs9 := hO.1
  have hc6 := hO.2.1
  have hw12 := hO.2.2.1
  have hk8 := hO.2.2.2.1
  refine p_enter rfl rfl (Nat.le_of_ble_eq_true rfl) rfl ?_
  refine p_aload_n 0 1 rfl rfl dX2_lookAt_0 rfl ?_
  refine p_aload_n 1 2 rfl rfl dX2_lookAt_1 rfl ?_
  refine p_getR 7 0 5 rfl dX2_lookAt_2 fl_X2_31 rfl rfl hwo ho.1.1.ne0 ?_
  refine p_getIE 4 0 8 rfl dX2_lookAt_5 fl_X2_37 ho.1.1.kd rfl ho.2.2.1 ?_
  refine p_putI 2 1 11 rfl dX2_lookAt_8 fl_X2_15 rfl rfl (Or.inl rfl) ?_
  refine p_aload_n 0 12 rfl rfl dX2_lookAt_11 rfl ?_
  refine p_iconst (1) 13 rfl dX2_lookAt_12 rfl ?_
  refine p_aload_n 0 14 rfl rfl dX2_lookAt_13 rfl ?_
  refine p_getIE 2 1 17 rfl dX2_lookAt_14 fl_X2_15 rfl rfl (hI_sI _ _ _ _) ?_
  refine p_ishl 18 rfl dX2_lookAt_17 ?_
  refine p_iconst (1) 19 rfl dX2_lookAt_18 rfl ?_
  refine p_isub 20 rfl dX2_lookAt_19 ?_
  refine p_aload_n 1 21 rfl rfl dX2_lookAt_20 rfl ?_
  have hcx : Ch (inS sEd) σ (sI σ E0 1 (nI (aS (tO A)))) := Fr.ch (XI := [(E0, 1)]) (X := []) (Fr.sI (by simp)) (by decide) rfl
  have hTx := hT.ed hcx
  rw [one_shl_m1' _ (by omega)]
  refine p_cV0i 24 rfl dX2_lookAt_21 (c_burntSheets hTx.2.2.2.1.1 hTx.2.2.2.2.1.1 hv hTx.2.2.2.2.1.2) ml_X2_40 vl_X7_burntSheets rfl (by decide) rfl (Nat.le_of_ble_eq_true rfl) (Nat.le_of_ble_eq_true rfl) rfl ?_
  refine p_iconst (-1) 25 rfl dX2_lookAt_24 rfl ?_
  refine p_ixor 26 rfl dX2_lookAt_25 ?_
  refine p_iand 27 rfl dX2_lookAt_26 ?_
  rw [and_not_nI]
  refine p_putI 2 2 30 rfl dX2_lookAt_27 fl_X2_19 rfl rfl (Or.inl rfl) ?_
  refine p_iconst (0) 31 rfl dX2_lookAt_30 rfl ?_
  refine p_ist_n2 32 rfl rfl dX2_lookAt_31 (Nat.le_of_ble_eq_true rfl) rfl ?_
  have hc2 : Ch (inS sEd) σ (sI (sI σ E0 1 (nI (aS (tO A)))) E0 2 (nI (unb (tO A) (tV A)))) := hcx.tr (Fr.ch (XI := [(E0, 2)]) (X := []) (Fr.sI (by simp)) (by decide) rfl)
  exact l_lookAt hT (aS (tO A)) 0 _ _ (by omega) (hT.ed hc2) ⟨(hI_sIo (by intro e; cases e)).trans (hI_sI _ _ _ _), hI_sI _ _ _ _, fun s hs => absurd hs (Nat.not_lt_zero _)⟩ hc2
def orph (O : AO) (V : AW) : Nat := setN (aS O) (fun s => (unb O V).testBit s && bsd O V s == 0)
set_option maxRecDepth 4000 in
theorem l_orphans (hT : IT σ o o' A) (hE : EDG σ A) : ∀ (n i : Nat), i + n = aS (tO A) → Ok Γ 2 0 0 mX2_orphans 4 [some (.ref E0), some (.int (nI (setN i (fun s => (unb (tO A) (tV A)).testBit s && bsd (tO A) (tV A) s == 0)))), some (.int (nI i))] [] σ (rI σ (nI (orph (tO A) (tV A)))) := by
  have hS := hT.1
  have hK := hT.2.1
  have hO := hK.2.2.1
  have hs9 := hO.1
  have ho := hT.2.2.2.1.1
  intro n
  induction n with
  | zero =>
    intro i hi
    refine p_iload_n 2 5 rfl rfl dX2_orphans_4 rfl ?_
    refine p_aload_n 0 6 rfl rfl dX2_orphans_5 rfl ?_
    refine p_getIE 2 1 9 rfl dX2_orphans_6 fl_X2_15 rfl rfl hE.1 ?_
    refine p_icmp_ge 44 12 rfl rfl dX2_orphans_9 (fun h9 => ?_) (fun h9 => absurd (nI_le (a := aS (tO A)) (b := i) (by omega) (by omega)) h9)
    refine p_iload_n 1 45 rfl rfl dX2_orphans_44 rfl ?_
    exact p_iret dX2_orphans_45 rfl ⟨by rw [show i = aS (tO A) by omega]; rfl, rfl⟩
  | succ n ih =>
    intro i hi
    have hlt : i < aS (tO A) := by omega
    refine p_iload_n 2 5 rfl rfl dX2_orphans_4 rfl ?_
    refine p_aload_n 0 6 rfl rfl dX2_orphans_5 rfl ?_
    refine p_getIE 2 1 9 rfl dX2_orphans_6 fl_X2_15 rfl rfl hE.1 ?_
    refine p_icmp_ge 44 12 rfl rfl dX2_orphans_9 (fun h9 => absurd h9 (nI_ge hlt (by omega))) (fun h9 => ?_)
    refine p_aload_n 0 13 rfl rfl dX2_orphans_12 rfl ?_
    refine p_getIE 2 2 16 rfl dX2_orphans_13 fl_X2_19 rfl rfl hE.2.1 ?_
    refine p_iload_n 2 17 rfl rfl dX2_orphans_16 rfl ?_
    refine p_cN2i 20 rfl dX2_orphans_17 (c_hasBitN (Nat.lt_trans (unb_lt hO _) (by decide)) (by omega)) mn_X2_62 sl_X8_hasBit (Nat.le_of_ble_eq_true rfl) (Nat.le_of_ble_eq_true rfl) ?_
    refine p_if_eq 38 23 rfl rfl dX2_orphans_20 (fun h20 => ?_) (fun h20 => ?_)
    · refine p_inc_2 41 rfl dX2_orphans_38 (1) rfl (Nat.le_of_ble_eq_true rfl) rfl ?_
      refine p_goto 4 rfl dX2_orphans_41 ?_
      have hb : (unb (tO A) (tV A)).testBit i = false := by simpa only [b2i_eq0, Bool.not_eq_true] using h20
      rw [nI_1, ← set_f (p := (fun s => (unb (tO A) (tV A)).testBit s && bsd (tO A) (tV A) s == 0)) (by simp [hb])]
      exact ih (i + 1) (by omega)
    · refine p_aload_n 0 24 rfl rfl dX2_orphans_23 rfl ?_
      refine p_getR 2 4 27 rfl dX2_orphans_24 fl_X2_25 rfl rfl hS.2.2.2.2.2.2.2.2.2.2.2.2.2.2.2.2.1 (by decide) ?_
      refine p_iload_n 2 28 rfl rfl dX2_orphans_27 rfl ?_
      refine p_ialdE 29 rfl dX2_orphans_28 (i := i) rfl (by show i < 9; omega) (hE.2.2 i hlt).2 ?_
      refine p_if_ne 38 32 rfl rfl dX2_orphans_29 (fun h29 => ?_) (fun h29 => ?_)
      · refine p_inc_2 41 rfl dX2_orphans_38 (1) rfl (Nat.le_of_ble_eq_true rfl) rfl ?_
        refine p_goto 4 rfl dX2_orphans_41 ?_
        have hz : ¬ bsd (tO A) (tV A) i = 0 := fun z => h29 (by rw [z]; rfl)
        rw [nI_1, ← set_f (p := (fun s => (unb (tO A) (tV A)).testBit s && bsd (tO A) (tV A) s == 0)) (by simp [hz])]
        exact ih (i + 1) (by omega)
      · refine p_iload_n 1 33 rfl rfl dX2_orphans_32 rfl ?_
        refine p_iconst (1) 34 rfl dX2_orphans_33 rfl ?_
        refine p_iload_n 2 35 rfl rfl dX2_orphans_34 rfl ?_
        refine p_ishl 36 rfl dX2_orphans_35 ?_
        refine p_ior 37 rfl dX2_orphans_36 ?_
        refine p_ist_n1 38 rfl rfl dX2_orphans_37 (Nat.le_of_ble_eq_true rfl) rfl ?_
        refine p_inc_2 41 rfl dX2_orphans_38 (1) rfl (Nat.le_of_ble_eq_true rfl) rfl ?_
        refine p_goto 4 rfl dX2_orphans_41 ?_
        have hb : (unb (tO A) (tV A)).testBit i = true := by simpa only [b2i_eq0, Decidable.not_not, Bool.not_eq_true, Bool.not_eq_false] using h20
        have hz : bsd (tO A) (tV A) i = 0 := by
          rcases Nat.eq_zero_or_pos (bsd (tO A) (tV A) i) with z | z
          · exact z
          · exact absurd h29 (nI_ne0 z (by have := bsN_lt hO (tV A) i hs9; unfold bsd; omega))
        rw [set_t (p := (fun s => (unb (tO A) (tV A)).testBit s && bsd (tO A) (tV A) s == 0)) (by simp [hb, hz]) (by omega), nI_1]
        exact ih (i + 1) (by omega)
set_option maxRecDepth 4000 in
theorem c_orphans (hT : IT σ o o' A) (hE : EDG σ A) : CallOk Γ 2 0 0 mX2_orphans [.ref E0] σ (rI σ (nI (orph (tO A) (tV A)))) := by
  refine p_enter rfl rfl (Nat.le_of_ble_eq_true rfl) rfl ?_
  refine p_iconst (0) 1 rfl dX2_orphans_0 rfl ?_
  refine p_ist_n1 2 rfl rfl dX2_orphans_1 (Nat.le_of_ble_eq_true rfl) rfl ?_
  refine p_iconst (0) 3 rfl dX2_orphans_2 rfl ?_
  refine p_ist_n2 4 rfl rfl dX2_orphans_3 (Nat.le_of_ble_eq_true rfl) rfl ?_
  exact l_orphans hT hE (aS (tO A)) 0 (by omega)
def stgP (O : AO) (V : AW) (s q : Nat) : Bool := (bsd O V s).testBit q && !hasW O (nI s) (nI q) && !hasW O (nI q) (nI s)
/-- pairs s < q, s below i; of the sheet i those q below i + 1 + j -/
def stgI (O : AO) (V : AW) (s : Nat) (a : Nat) : Nat → Nat
  | 0 => a
  | j + 1 => stgI O V s a j + (if stgP O V s (s + 1 + j) = true then 1 else 0)
def stg (O : AO) (V : AW) : Nat → Nat
  | 0 => 0
  | i + 1 => stgI O V i (stg O V i) (aS O - (i + 1))
set_option maxRecDepth 4000 in
theorem m_strangers (hT : IT σ o o' A) (hE : EDG σ A) {i a : Nat} (hi : i < aS (tO A)) {Q : PO → PH → Prop} (kk : ∀ x4, Ok Γ 2 0 0 mX2_strangers 4 [some (.ref E0), some (.ref o), some (.int (nI (stgI (tO A) (tV A) i a (aS (tO A) - (i + 1))))), some (.int (nI (i + 1))), x4] [] σ Q) : ∀ (n j : Nat), i + 1 + j + n = aS (tO A) → Ok Γ 2 0 0 mX2_strangers 17 [some (.ref E0), some (.ref o), some (.int (nI (stgI (tO A) (tV A) i a j))), some (.int (nI (i))), some (.int (nI (i + 1 + j)))] [] σ Q := by
  have hS := hT.1
  have hK := hT.2.1
  have hO := hK.2.2.1
  have hs9 := hO.1
  have ho := hT.2.2.2.1.1
  intro n
  induction n with
  | zero =>
    intro j hj
    refine p_iload 4 19 rfl dX2_strangers_17 rfl ?_
    refine p_aload_n 0 20 rfl rfl dX2_strangers_19 rfl ?_
    refine p_getIE 2 1 23 rfl dX2_strangers_20 fl_X2_15 rfl rfl hE.1 ?_
    refine p_icmp_ge 69 26 rfl rfl dX2_strangers_23 (fun h23 => ?_) (fun h23 => absurd (nI_le (a := aS (tO A)) (b := i + 1 + j) (by omega) (by omega)) h23)
    refine p_inc_3 72 rfl dX2_strangers_69 (1) rfl (Nat.le_of_ble_eq_true rfl) rfl ?_
    refine p_goto 4 rfl dX2_strangers_72 ?_
    rw [nI_1, show j = aS (tO A) - (i + 1) by omega]
    exact kk _
  | succ n ih =>
    intro j hj
    refine p_iload 4 19 rfl dX2_strangers_17 rfl ?_
    refine p_aload_n 0 20 rfl rfl dX2_strangers_19 rfl ?_
    refine p_getIE 2 1 23 rfl dX2_strangers_20 fl_X2_15 rfl rfl hE.1 ?_
    refine p_icmp_ge 69 26 rfl rfl dX2_strangers_23 (fun h23 => absurd h23 (nI_ge (a := i + 1 + j) (b := aS (tO A)) (by omega) (by omega))) (fun h23 => ?_)
    refine p_aload_n 0 27 rfl rfl dX2_strangers_26 rfl ?_
    refine p_getR 2 4 30 rfl dX2_strangers_27 fl_X2_25 rfl rfl hS.2.2.2.2.2.2.2.2.2.2.2.2.2.2.2.2.1 (by decide) ?_
    refine p_iload_n 3 31 rfl rfl dX2_strangers_30 rfl ?_
    refine p_ialdE 32 rfl dX2_strangers_31 (i := i) rfl (by show i < 9; omega) (hE.2.2 i (by omega)).2 ?_
    refine p_iload 4 34 rfl dX2_strangers_32 rfl ?_
    refine p_cN2i 37 rfl dX2_strangers_34 (c_hasBitN (Nat.lt_trans (bsN_lt hO (tV A) i hs9) (by decide)) (by omega)) mn_X2_62 sl_X8_hasBit (Nat.le_of_ble_eq_true rfl) (Nat.le_of_ble_eq_true rfl) ?_
    refine p_if_eq 63 40 rfl rfl dX2_strangers_37 (fun h37 => ?_) (fun h37 => ?_)
    · refine p_inc_4 66 rfl dX2_strangers_63 (1) rfl (Nat.le_of_ble_eq_true rfl) rfl ?_
      refine p_goto 17 rfl dX2_strangers_66 ?_
      have hb : (bsd (tO A) (tV A) i).testBit (i + 1 + j) = false := by simpa only [b2i_eq0, Bool.not_eq_true] using h37
      have e : stgI (tO A) (tV A) i a (j + 1) = stgI (tO A) (tV A) i a j := by simp [stgI, stgP, hb]
      rw [nI_1, ← e]
      exact ih (j + 1) (by omega)
    · refine p_aload_n 1 41 rfl rfl dX2_strangers_40 rfl ?_
      refine p_iload_n 3 42 rfl rfl dX2_strangers_41 rfl ?_
      refine p_iload 4 44 rfl dX2_strangers_42 rfl ?_
      refine p_cV2i 47 rfl dX2_strangers_44 (c_hasWord ho _ _) ml_X2_75 vl_X4_hasWord ho.1.1.kd (by decide) rfl (Nat.le_of_ble_eq_true rfl) (Nat.le_of_ble_eq_true rfl) rfl ?_
      refine p_if_ne 63 50 rfl rfl dX2_strangers_47 (fun h47 => ?_) (fun h47 => ?_)
      · refine p_inc_4 66 rfl dX2_strangers_63 (1) rfl (Nat.le_of_ble_eq_true rfl) rfl ?_
        refine p_goto 17 rfl dX2_strangers_66 ?_
        have hb : hasW (tO A) (nI i) (nI (i + 1 + j)) = true := by simpa only [b2i_eq0, Decidable.not_not, Bool.not_eq_true, Bool.not_eq_false] using h47
        have e : stgI (tO A) (tV A) i a (j + 1) = stgI (tO A) (tV A) i a j := by simp [stgI, stgP, hb]
        rw [nI_1, ← e]
        exact ih (j + 1) (by omega)
      · refine p_aload_n 1 51 rfl rfl dX2_strangers_50 rfl ?_
        refine p_iload 4 53 rfl dX2_strangers_51 rfl ?_
        refine p_iload_n 3 54 rfl rfl dX2_strangers_53 rfl ?_
        refine p_cV2i 57 rfl dX2_strangers_54 (c_hasWord ho _ _) ml_X2_75 vl_X4_hasWord ho.1.1.kd (by decide) rfl (Nat.le_of_ble_eq_true rfl) (Nat.le_of_ble_eq_true rfl) rfl ?_
        refine p_if_ne 63 60 rfl rfl dX2_strangers_57 (fun h57 => ?_) (fun h57 => ?_)
        · refine p_inc_4 66 rfl dX2_strangers_63 (1) rfl (Nat.le_of_ble_eq_true rfl) rfl ?_
          refine p_goto 17 rfl dX2_strangers_66 ?_
          have hb : hasW (tO A) (nI (i + 1 + j)) (nI i) = true := by simpa only [b2i_eq0, Decidable.not_not, Bool.not_eq_true, Bool.not_eq_false] using h57
          have e : stgI (tO A) (tV A) i a (j + 1) = stgI (tO A) (tV A) i a j := by simp [stgI, stgP, hb]
          rw [nI_1, ← e]
          exact ih (j + 1) (by omega)
        · refine p_inc_2 63 rfl dX2_strangers_60 (1) rfl (Nat.le_of_ble_eq_true rfl) rfl ?_
          refine p_inc_4 66 rfl dX2_strangers_63 (1) rfl (Nat.le_of_ble_eq_true rfl) rfl ?_
          refine p_goto 17 rfl dX2_strangers_66 ?_
          have hb : (bsd (tO A) (tV A) i).testBit (i + 1 + j) = true := by simpa only [b2i_eq0, Decidable.not_not, Bool.not_eq_true, Bool.not_eq_false] using h37
          have hb1 : hasW (tO A) (nI i) (nI (i + 1 + j)) = false := by simpa only [b2i_eq0, Bool.not_eq_true] using h47
          have hb2 : hasW (tO A) (nI (i + 1 + j)) (nI i) = false := by simpa only [b2i_eq0, Bool.not_eq_true] using h57
          have e : stgI (tO A) (tV A) i a (j + 1) = stgI (tO A) (tV A) i a j + 1 := by simp [stgI, stgP, hb, hb1, hb2]
          rw [nI_1, nI_1, ← e]
          exact ih (j + 1) (by omega)
set_option maxRecDepth 4000 in
theorem l_strangers (hT : IT σ o o' A) (hE : EDG σ A) : ∀ (n i : Nat) (x4 : Option Value), i + n = aS (tO A) → Ok Γ 2 0 0 mX2_strangers 4 [some (.ref E0), some (.ref o), some (.int (nI (stg (tO A) (tV A) i))), some (.int (nI (i))), x4] [] σ (rI σ (nI (stg (tO A) (tV A) (aS (tO A))))) := by
  have hS := hT.1
  have hK := hT.2.1
  have hO := hK.2.2.1
  have hs9 := hO.1
  have ho := hT.2.2.2.1.1
  intro n
  induction n with
  | zero =>
    intro i x4 hi
    refine p_iload_n 3 5 rfl rfl dX2_strangers_4 rfl ?_
    refine p_aload_n 0 6 rfl rfl dX2_strangers_5 rfl ?_
    refine p_getIE 2 1 9 rfl dX2_strangers_6 fl_X2_15 rfl rfl hE.1 ?_
    refine p_icmp_ge 75 12 rfl rfl dX2_strangers_9 (fun h9 => ?_) (fun h9 => absurd (nI_le (a := aS (tO A)) (b := i) (by omega) (by omega)) h9)
    refine p_iload_n 2 76 rfl rfl dX2_strangers_75 rfl ?_
    exact p_iret dX2_strangers_76 rfl ⟨by rw [show i = aS (tO A) by omega], rfl⟩
  | succ n ih =>
    intro i x4 hi
    refine p_iload_n 3 5 rfl rfl dX2_strangers_4 rfl ?_
    refine p_aload_n 0 6 rfl rfl dX2_strangers_5 rfl ?_
    refine p_getIE 2 1 9 rfl dX2_strangers_6 fl_X2_15 rfl rfl hE.1 ?_
    refine p_icmp_ge 75 12 rfl rfl dX2_strangers_9 (fun h9 => absurd h9 (nI_ge (a := i) (b := aS (tO A)) (by omega) (by omega))) (fun h9 => ?_)
    refine p_iload_n 3 13 rfl rfl dX2_strangers_12 rfl ?_
    refine p_iconst (1) 14 rfl dX2_strangers_13 rfl ?_
    refine p_iadd 15 rfl dX2_strangers_14 ?_
    refine p_ist_4 17 rfl dX2_strangers_15 (Nat.le_of_ble_eq_true rfl) rfl ?_
    rw [nI_1]
    exact m_strangers hT hE (by omega) (fun x4 => ih (i + 1) x4 (by omega)) (aS (tO A) - (i + 1)) 0 (by omega)
set_option maxRecDepth 4000 in
theorem c_strangers (hT : IT σ o o' A) (hE : EDG σ A) : CallOk Γ 2 0 0 mX2_strangers [.ref E0, .ref o] σ (rI σ (nI (stg (tO A) (tV A) (aS (tO A))))) := by
  refine p_enter rfl rfl (Nat.le_of_ble_eq_true rfl) rfl ?_
  refine p_iconst (0) 1 rfl dX2_strangers_0 rfl ?_
  refine p_ist_n2 2 rfl rfl dX2_strangers_1 (Nat.le_of_ble_eq_true rfl) rfl ?_
  refine p_iconst (0) 3 rfl dX2_strangers_2 rfl ?_
  refine p_ist_n3 4 rfl rfl dX2_strangers_3 (Nat.le_of_ble_eq_true rfl) rfl ?_
  exact l_strangers hT hE (aS (tO A)) 0 _ (by omega)
end C59
