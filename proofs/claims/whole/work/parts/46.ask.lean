/-! ===== what is there now ===== -/
theorem swt3 (x : Int32) : x = 0 ∨ x = 1 ∨ x = 2 ∨ x = 3 ∨ (x.toInt < 0 ∨ 3 < x.toInt) := by
  by_cases h0 : x.toInt = 0
  · exact Or.inl (Int32.toInt_inj.mp (h0.trans (by decide)))
  by_cases h1 : x.toInt = 1
  · exact Or.inr (Or.inl (Int32.toInt_inj.mp (h1.trans (by decide))))
  by_cases h2 : x.toInt = 2
  · exact Or.inr (Or.inr (Or.inl (Int32.toInt_inj.mp (h2.trans (by decide)))))
  by_cases h3 : x.toInt = 3
  · exact Or.inr (Or.inr (Or.inr (Or.inl (Int32.toInt_inj.mp (h3.trans (by decide))))))
  exact Or.inr (Or.inr (Or.inr (Or.inr (by omega))))
theorem swt4 (x : Int32) : x = 0 ∨ x = 1 ∨ x = 2 ∨ x = 3 ∨ x = 4 ∨ (x.toInt < 0 ∨ 4 < x.toInt) := by
  by_cases h0 : x.toInt = 0
  · exact Or.inl (Int32.toInt_inj.mp (h0.trans (by decide)))
  by_cases h1 : x.toInt = 1
  · exact Or.inr (Or.inl (Int32.toInt_inj.mp (h1.trans (by decide))))
  by_cases h2 : x.toInt = 2
  · exact Or.inr (Or.inr (Or.inl (Int32.toInt_inj.mp (h2.trans (by decide)))))
  by_cases h3 : x.toInt = 3
  · exact Or.inr (Or.inr (Or.inr (Or.inl (Int32.toInt_inj.mp (h3.trans (by decide))))))
  by_cases h4 : x.toInt = 4
  · exact Or.inr (Or.inr (Or.inr (Or.inr (Or.inl (Int32.toInt_inj.mp (h4.trans (by decide)))))))
  exact Or.inr (Or.inr (Or.inr (Or.inr (Or.inr (by omega)))))
theorem swt14 (x : Int32) : x = 0 ∨ x = 1 ∨ x = 2 ∨ x = 3 ∨ x = 4 ∨ x = 5 ∨ x = 6 ∨ x = 7 ∨ x = 8 ∨ x = 9 ∨ x = 10 ∨ x = 11 ∨ x = 12 ∨ x = 13 ∨ x = 14 ∨ (x.toInt < 0 ∨ 14 < x.toInt) := by
  by_cases h0 : x.toInt = 0
  · exact Or.inl (Int32.toInt_inj.mp (h0.trans (by decide)))
  by_cases h1 : x.toInt = 1
  · exact Or.inr (Or.inl (Int32.toInt_inj.mp (h1.trans (by decide))))
  by_cases h2 : x.toInt = 2
  · exact Or.inr (Or.inr (Or.inl (Int32.toInt_inj.mp (h2.trans (by decide)))))
  by_cases h3 : x.toInt = 3
  · exact Or.inr (Or.inr (Or.inr (Or.inl (Int32.toInt_inj.mp (h3.trans (by decide))))))
  by_cases h4 : x.toInt = 4
  · exact Or.inr (Or.inr (Or.inr (Or.inr (Or.inl (Int32.toInt_inj.mp (h4.trans (by decide)))))))
  by_cases h5 : x.toInt = 5
  · exact Or.inr (Or.inr (Or.inr (Or.inr (Or.inr (Or.inl (Int32.toInt_inj.mp (h5.trans (by decide))))))))
  by_cases h6 : x.toInt = 6
  · exact Or.inr (Or.inr (Or.inr (Or.inr (Or.inr (Or.inr (Or.inl (Int32.toInt_inj.mp (h6.trans (by decide)))))))))
  by_cases h7 : x.toInt = 7
  · exact Or.inr (Or.inr (Or.inr (Or.inr (Or.inr (Or.inr (Or.inr (Or.inl (Int32.toInt_inj.mp (h7.trans (by decide))))))))))
  by_cases h8 : x.toInt = 8
  · exact Or.inr (Or.inr (Or.inr (Or.inr (Or.inr (Or.inr (Or.inr (Or.inr (Or.inl (Int32.toInt_inj.mp (h8.trans (by decide)))))))))))
  by_cases h9 : x.toInt = 9
  · exact Or.inr (Or.inr (Or.inr (Or.inr (Or.inr (Or.inr (Or.inr (Or.inr (Or.inr (Or.inl (Int32.toInt_inj.mp (h9.trans (by decide))))))))))))
  by_cases h10 : x.toInt = 10
  · exact Or.inr (Or.inr (Or.inr (Or.inr (Or.inr (Or.inr (Or.inr (Or.inr (Or.inr (Or.inr (Or.inl (Int32.toInt_inj.mp (h10.trans (by decide)))))))))))))
  by_cases h11 : x.toInt = 11
  · exact Or.inr (Or.inr (Or.inr (Or.inr (Or.inr (Or.inr (Or.inr (Or.inr (Or.inr (Or.inr (Or.inr (Or.inl (Int32.toInt_inj.mp (h11.trans (by decide))))))))))))))
  by_cases h12 : x.toInt = 12
  · exact Or.inr (Or.inr (Or.inr (Or.inr (Or.inr (Or.inr (Or.inr (Or.inr (Or.inr (Or.inr (Or.inr (Or.inr (Or.inl (Int32.toInt_inj.mp (h12.trans (by decide)))))))))))))))
  by_cases h13 : x.toInt = 13
  · exact Or.inr (Or.inr (Or.inr (Or.inr (Or.inr (Or.inr (Or.inr (Or.inr (Or.inr (Or.inr (Or.inr (Or.inr (Or.inr (Or.inl (Int32.toInt_inj.mp (h13.trans (by decide))))))))))))))))
  by_cases h14 : x.toInt = 14
  · exact Or.inr (Or.inr (Or.inr (Or.inr (Or.inr (Or.inr (Or.inr (Or.inr (Or.inr (Or.inr (Or.inr (Or.inr (Or.inr (Or.inr (Or.inl (Int32.toInt_inj.mp (h14.trans (by decide)))))))))))))))))
  exact Or.inr (Or.inr (Or.inr (Or.inr (Or.inr (Or.inr (Or.inr (Or.inr (Or.inr (Or.inr (Or.inr (Or.inr (Or.inr (Or.inr (Or.inr (by omega)))))))))))))))
theorem inR_out {y : Int32} {n : Nat} (hn : n < 2147483648) (h : y.toInt < 0 ∨ (n : Int) ≤ y.toInt) : ¬ inR y n = true := by
  intro g
  obtain ⟨k, rfl, hk⟩ := asN g hn
  rw [show (nI k).toInt = (k : Int) from Int32.toInt_ofNat_of_lt (by omega)] at h
  omega
def sel (y : Int32) (l : List Int32) : Int32 := l.getD (iN y) 0
def fSheet (A : AT) (x y : Int32) : Nat × Int32 := gd (inR x (aS (tO A))) 1 (gd (inR y 5) 1 (0, sel y [nI (vL (tV A) (iN x)), nI (vR (tV A) (iN x)), pI (tOf (tO A) (tV A) (iN x) 0), if 5 ≤ vP (tV A) (iN x) then nI (vP (tV A) (iN x) - 5) else -1, nI (ftg (tO A) (tV A) (iN x))]))
def fClerk (A : AT) (x y : Int32) : Nat × Int32 := gd (inR x (aC (tO A))) 1 (gd (inR y 4) 1 (0, sel y [nI (tOn (tO A) (iN x) (vD (tV A))), nI (vK (tV A) (iN x)), nI (shAt (tO A) (tV A) (iN x + 5)), nI (aT (tO A) (iN x))]))
def fWord (A : AT) (x y : Int32) : Nat × Int32 := gd (inR x (aW (tO A))) 1 (gd (inR y 4) 1 (0, sel y [nI (aL (tO A) (iN x)), nI (aB (tO A) (iN x)), pI (tShow (tO A) (tV A) (iN x)), nI (whoK (tO A) (tV A) (iN x))]))
def fTown (A : AT) (x y : Int32) : Nat × Int32 := gd (inR x 4) 1 (gd (inR y 5) 1 (0, sel y [nI (shAt (tO A) (tV A) (iN x + 1)), nI (shIn (tO A) (tV A) (iN x) 0), nI (clIn (tO A) (tV A) (iN x)), nI (wOf (tO A) (tV A) (shIn (tO A) (tV A) (iN x) 0)), nI (wLost (tO A) (tV A) (shAt (tO A) (tV A) (iN x + 1)))]))
def fWhere (A : AT) (x y : Int32) : Nat × Int32 := gd (inR x (aS (tO A))) 1 (gd (btw y 0 40) 2 (0, pI (tOf (tO A) (tV A) (iN x) (iN y))))
def fFar (A : AT) (x y : Int32) : Nat × Int32 := gd (inR x (aS (tO A))) 1 (gd (inR y (aS (tO A))) 1 (0, nI (dif (tV A) (iN x) (iN y))))
def fToForge (A : AT) (x y : Int32) : Nat × Int32 := gd (inR x (aS (tO A))) 1 (gd (inR y (aS (tO A))) 1 (0, if iN x = iN y ∨ vP (tV A) (iN x) = 0 ∨ vP (tV A) (iN y) = 0 then -1 else nI (dif (tV A) (iN x) (iN y) - aK (tO A))))
theorem mx_sub {a b : Nat} (ha : a < 1000) (hb : b < 1000) : mx 0 (nI a - nI b) = nI (a - b) := by
  unfold mx
  have e : (nI a - nI b).toInt = (a : Int) - b := pk_sub_toInt (by omega) (by omega)
  split
  · rename_i h
    have h1 := Int32.lt_iff_toInt_lt.mp h
    rw [e] at h1
    have h0 : (0 : Int32).toInt = 0 := rfl
    rw [h0] at h1
    apply Int32.toInt_inj.mp
    rw [e, show (nI (a - b)).toInt = ((a - b : Nat) : Int) from Int32.toInt_ofNat_of_lt (by omega)]
    omega
  · rename_i h
    have h1 := Int32.le_iff_toInt_le.mp (Int32.not_lt.mp h)
    rw [e] at h1
    have h0 : (0 : Int32).toInt = 0 := rfl
    rw [h0] at h1
    rw [show a - b = 0 by omega]; rfl
section C46
variable {Γ : Gm} {σ : PH} {o o' : Nat} {A : AT}
theorem gA (V : AW) (x : Nat) : x < 9 → x < 9 := id
set_option maxRecDepth 6000 in
theorem t_sheet (hT : IT σ o o' A) (x y : Int32) : CallOk Γ 14 8 48 mX8_sheet [.ref T0, .int x, .int y] σ (rS (fSheet A x y) false (fun σ' => IT σ' o o' A ∧ Ch cls σ σ')) := by
  have hS := hT.1
  have hK := hT.2.1
  have hto : hR σ T0 3 = o := hT.2.2.1.2.2.1
  have hQ := hT.2.2.2.1
  have ho := hQ.1
  have hw := hT.2.2.2.2.1.1
  have hwo := hT.2.2.2.2.1.2
  have hv := hK.2.2.2.2.1.1
  have hd9 := hK.2.2.2.2.1.2
  have hY := hK.2.2.2.1
  have hO := hK.2.2.1
  have hs9 := hO.1
  have hc6 := hO.2.1
  have hw12 := hO.2.2.1
  have hk8 := hO.2.2.2.1
  refine p_enter rfl rfl (Nat.le_of_ble_eq_true rfl) rfl ?_
  refine p_aload_n 0 1 rfl rfl dX8_sheet_0 rfl ?_
  refine p_iload_n 1 2 rfl rfl dX8_sheet_1 rfl ?_
  refine p_cV1n 5 rfl dX8_sheet_2 (c_needSheet hto hQ _) ml_X8_172 vl_X8_needSheet rfl (by decide) rfl (Nat.le_of_ble_eq_true rfl) (Nat.le_of_ble_eq_true rfl) (Nat.le_of_ble_eq_true rfl) (Nat.le_of_ble_eq_true rfl) rfl (fun h2 => ?_) (fun h2 => ⟨by simp [fSheet, gd, h2], hT, Ch.rf⟩)
  obtain ⟨s, rfl, hs⟩ := asN h2 (by omega)
  have hsL : s < 2147483648 := by omega
  refine p_iload_n 2 6 rfl rfl dX8_sheet_5 rfl ?_
  rcases swt4 y with hs6 | hs6 | hs6 | hs6 | hs6 | hs6
  · subst hs6
    refine p_tswIn (off := 34) 40 rfl dX8_sheet_6 (by decide) (by decide) rfl ?_
    refine p_aload_n 0 41 rfl rfl dX8_sheet_40 rfl ?_
    refine p_getR 8 6 44 rfl dX8_sheet_41 fl_X8_44 rfl rfl hS.2.2.1 (by decide) ?_
    refine p_getR 7 2 47 rfl dX8_sheet_44 fl_X8_175 rfl rfl hw.1.2.1 (mk0 (Nat.succ_ne_zero _)) ?_
    refine p_iload_n 1 48 rfl rfl dX8_sheet_47 rfl ?_
    refine p_ialdE 49 rfl dX8_sheet_48 (kd16 _ _) (lt9 (by omega)) (hw.2.2.1 s (by omega)).1 ?_
    exact p_iret dX8_sheet_49 rfl ⟨by simp [fSheet, gd, h2, show inR 0 5 = true from by decide, sel, show iN 0 = 0 from rfl, iN_nI hsL], hT, Ch.rf⟩
  · subst hs6
    refine p_tswIn (off := 44) 50 rfl dX8_sheet_6 (by decide) (by decide) rfl ?_
    refine p_aload_n 0 51 rfl rfl dX8_sheet_50 rfl ?_
    refine p_getR 8 6 54 rfl dX8_sheet_51 fl_X8_44 rfl rfl hS.2.2.1 (by decide) ?_
    refine p_getR 7 3 57 rfl dX8_sheet_54 fl_X8_178 rfl rfl hw.1.2.2.1 (mk0 (Nat.succ_ne_zero _)) ?_
    refine p_iload_n 1 58 rfl rfl dX8_sheet_57 rfl ?_
    refine p_ialdE 59 rfl dX8_sheet_58 (kd16 _ _) (lt9 (by omega)) (hw.2.2.1 s (by omega)).2.1 ?_
    exact p_iret dX8_sheet_59 rfl ⟨by simp [fSheet, gd, h2, show inR 1 5 = true from by decide, sel, show iN 1 = 1 from rfl, iN_nI hsL], hT, Ch.rf⟩
  · subst hs6
    refine p_tswIn (off := 54) 60 rfl dX8_sheet_6 (by decide) (by decide) rfl ?_
    refine p_aload_n 0 61 rfl rfl dX8_sheet_60 rfl ?_
    refine p_getR 8 6 64 rfl dX8_sheet_61 fl_X8_44 rfl rfl hS.2.2.1 (by decide) ?_
    refine p_iload_n 1 65 rfl rfl dX8_sheet_64 rfl ?_
    refine p_iconst (0) 66 rfl dX8_sheet_65 rfl ?_
    refine p_cV2i 69 rfl dX8_sheet_66 (c_townOf (k := 0) ho hw hv hwo hs (by omega)) ml_X8_181 vl_X7_townOf rfl (by decide) rfl (Nat.le_of_ble_eq_true rfl) (Nat.le_of_ble_eq_true rfl) rfl ?_
    exact p_iret dX8_sheet_69 rfl ⟨by simp [fSheet, gd, h2, show inR 2 5 = true from by decide, sel, show iN 2 = 2 from rfl, iN_nI hsL], hT, Ch.rf⟩
  · subst hs6
    refine p_tswIn (off := 64) 70 rfl dX8_sheet_6 (by decide) (by decide) rfl ?_
    refine p_aload_n 0 71 rfl rfl dX8_sheet_70 rfl ?_
    refine p_getR 8 6 74 rfl dX8_sheet_71 fl_X8_44 rfl rfl hS.2.2.1 (by decide) ?_
    refine p_iload_n 1 75 rfl rfl dX8_sheet_74 rfl ?_
    refine p_cV1i 78 rfl dX8_sheet_75 (c_bearerOf ho hw hv hwo hs) ml_X8_185 vl_X7_bearerOf rfl (by decide) rfl (Nat.le_of_ble_eq_true rfl) (Nat.le_of_ble_eq_true rfl) rfl ?_
    exact p_iret dX8_sheet_78 rfl ⟨by simp [fSheet, gd, h2, show inR 3 5 = true from by decide, sel, show iN 3 = 3 from rfl, iN_nI hsL], hT, Ch.rf⟩
  · subst hs6
    refine p_tswIn (off := 73) 79 rfl dX8_sheet_6 (by decide) (by decide) rfl ?_
    refine p_aload_n 0 80 rfl rfl dX8_sheet_79 rfl ?_
    refine p_getR 8 6 83 rfl dX8_sheet_80 fl_X8_44 rfl rfl hS.2.2.1 (by decide) ?_
    refine p_iload_n 1 84 rfl rfl dX8_sheet_83 rfl ?_
    refine p_cV1i 87 rfl dX8_sheet_84 (c_fitting ho hw hv hwo (by omega)) ml_X8_189 vl_X7_fitting rfl (by decide) rfl (Nat.le_of_ble_eq_true rfl) (Nat.le_of_ble_eq_true rfl) rfl ?_
    exact p_iret dX8_sheet_87 rfl ⟨by simp [fSheet, gd, h2, show inR 4 5 = true from by decide, sel, show iN 4 = 4 from rfl, iN_nI hsL], hT, Ch.rf⟩
  · refine p_tswOut 88 rfl dX8_sheet_6 hs6 ?_
    have hs6out : y.toInt < 0 ∨ ((5 : Nat) : Int) ≤ y.toInt := by omega
    exact p_throw dX8_sheet_88 dX8_sheet_91 dX8_sheet_92 dX8_sheet_94 dX8_sheet_97 (x := 1) (i := 2) tl_X8_sheet_88 (Nat.le_of_ble_eq_true rfl) (Nat.le_of_ble_eq_true rfl) (Nat.le_of_ble_eq_true rfl) (Nat.le_of_ble_eq_true rfl) (⟨by simp [fSheet, gd, h2, inR_out (n := 5) (by decide) hs6out], hT, Ch.rf⟩)
set_option maxRecDepth 6000 in
theorem t_clerk (hT : IT σ o o' A) (x y : Int32) : CallOk Γ 14 8 48 mX8_clerk [.ref T0, .int x, .int y] σ (rS (fClerk A x y) false (fun σ' => IT σ' o o' A ∧ Ch cls σ σ')) := by
  have hS := hT.1
  have hK := hT.2.1
  have hto : hR σ T0 3 = o := hT.2.2.1.2.2.1
  have hQ := hT.2.2.2.1
  have ho := hQ.1
  have hw := hT.2.2.2.2.1.1
  have hwo := hT.2.2.2.2.1.2
  have hv := hK.2.2.2.2.1.1
  have hd9 := hK.2.2.2.2.1.2
  have hY := hK.2.2.2.1
  have hO := hK.2.2.1
  have hs9 := hO.1
  have hc6 := hO.2.1
  have hw12 := hO.2.2.1
  have hk8 := hO.2.2.2.1
  refine p_enter rfl rfl (Nat.le_of_ble_eq_true rfl) rfl ?_
  refine p_aload_n 0 1 rfl rfl dX8_clerk_0 rfl ?_
  refine p_iload_n 1 2 rfl rfl dX8_clerk_1 rfl ?_
  refine p_cV1n 5 rfl dX8_clerk_2 (c_needClerk hto hQ _) ml_X8_194 vl_X8_needClerk rfl (by decide) rfl (Nat.le_of_ble_eq_true rfl) (Nat.le_of_ble_eq_true rfl) (Nat.le_of_ble_eq_true rfl) (Nat.le_of_ble_eq_true rfl) rfl (fun h2 => ?_) (fun h2 => ⟨by simp [fClerk, gd, h2], hT, Ch.rf⟩)
  obtain ⟨s, rfl, hs⟩ := asN h2 (by omega)
  have hsL : s < 2147483648 := by omega
  refine p_iload_n 2 6 rfl rfl dX8_clerk_5 rfl ?_
  rcases swt3 y with hs6 | hs6 | hs6 | hs6 | hs6
  · subst hs6
    refine p_tswIn (off := 30) 36 rfl dX8_clerk_6 (by decide) (by decide) rfl ?_
    refine p_aload_n 0 37 rfl rfl dX8_clerk_36 rfl ?_
    refine p_getR 8 3 40 rfl dX8_clerk_37 fl_X8_23 rfl rfl hto ho.1.1.ne0 ?_
    refine p_iload_n 1 41 rfl rfl dX8_clerk_40 rfl ?_
    refine p_aload_n 0 42 rfl rfl dX8_clerk_41 rfl ?_
    refine p_getR 8 6 45 rfl dX8_clerk_42 fl_X8_44 rfl rfl hS.2.2.1 (by decide) ?_
    refine p_getIE 7 1 48 rfl dX8_clerk_45 fl_X8_143 rfl rfl hw.2.1 ?_
    refine p_cV2i 51 rfl dX8_clerk_48 (c_townOn ho hs (by omega)) ml_X8_197 vl_X4_townOn ho.1.1.kd (by decide) rfl (Nat.le_of_ble_eq_true rfl) (Nat.le_of_ble_eq_true rfl) rfl ?_
    exact p_iret dX8_clerk_51 rfl ⟨by simp [fClerk, gd, h2, show inR 0 4 = true from by decide, sel, show iN 0 = 0 from rfl, iN_nI hsL], hT, Ch.rf⟩
  · subst hs6
    refine p_tswIn (off := 46) 52 rfl dX8_clerk_6 (by decide) (by decide) rfl ?_
    refine p_aload_n 0 53 rfl rfl dX8_clerk_52 rfl ?_
    refine p_getR 8 6 56 rfl dX8_clerk_53 fl_X8_44 rfl rfl hS.2.2.1 (by decide) ?_
    refine p_getR 7 5 59 rfl dX8_clerk_56 fl_X8_200 rfl rfl hw.1.2.2.2.2.1 (mk0 (Nat.succ_ne_zero _)) ?_
    refine p_iload_n 1 60 rfl rfl dX8_clerk_59 rfl ?_
    refine p_ialdE 61 rfl dX8_clerk_60 (kd16 _ _) (lt6 (by omega)) (hw.2.2.2 s (by omega)) ?_
    exact p_iret dX8_clerk_61 rfl ⟨by simp [fClerk, gd, h2, show inR 1 4 = true from by decide, sel, show iN 1 = 1 from rfl, iN_nI hsL], hT, Ch.rf⟩
  · subst hs6
    refine p_tswIn (off := 56) 62 rfl dX8_clerk_6 (by decide) (by decide) rfl ?_
    refine p_aload_n 0 63 rfl rfl dX8_clerk_62 rfl ?_
    refine p_getR 8 6 66 rfl dX8_clerk_63 fl_X8_44 rfl rfl hS.2.2.1 (by decide) ?_
    refine p_iload_n 1 67 rfl rfl dX8_clerk_66 rfl ?_
    refine p_cV1i 70 rfl dX8_clerk_67 (c_sheetsOf ho hw hv hwo (by omega)) ml_X8_203 vl_X7_sheetsOf rfl (by decide) rfl (Nat.le_of_ble_eq_true rfl) (Nat.le_of_ble_eq_true rfl) rfl ?_
    exact p_iret dX8_clerk_70 rfl ⟨by simp [fClerk, gd, h2, show inR 2 4 = true from by decide, sel, show iN 2 = 2 from rfl, iN_nI hsL], hT, Ch.rf⟩
  · subst hs6
    refine p_tswIn (off := 65) 71 rfl dX8_clerk_6 (by decide) (by decide) rfl ?_
    refine p_aload_n 0 72 rfl rfl dX8_clerk_71 rfl ?_
    refine p_getR 8 3 75 rfl dX8_clerk_72 fl_X8_23 rfl rfl hto ho.1.1.ne0 ?_
    refine p_getR 4 5 78 rfl dX8_clerk_75 fl_X8_206 ho.1.1.kd rfl ho.1.2.2.2.2.1 (mk0 (Nat.succ_ne_zero _)) ?_
    refine p_iload_n 1 79 rfl rfl dX8_clerk_78 rfl ?_
    refine p_ialdE 80 rfl dX8_clerk_79 (kd16 _ _) (lt6 (by omega)) (ho.2.2.2.2.2.2.1 s hs).1 ?_
    exact p_iret dX8_clerk_80 rfl ⟨by simp [fClerk, gd, h2, show inR 3 4 = true from by decide, sel, show iN 3 = 3 from rfl, iN_nI hsL], hT, Ch.rf⟩
  · refine p_tswOut 81 rfl dX8_clerk_6 hs6 ?_
    have hs6out : y.toInt < 0 ∨ ((4 : Nat) : Int) ≤ y.toInt := by omega
    exact p_throw dX8_clerk_81 dX8_clerk_84 dX8_clerk_85 dX8_clerk_87 dX8_clerk_90 (x := 1) (i := 3) tl_X8_clerk_81 (Nat.le_of_ble_eq_true rfl) (Nat.le_of_ble_eq_true rfl) (Nat.le_of_ble_eq_true rfl) (Nat.le_of_ble_eq_true rfl) (⟨by simp [fClerk, gd, h2, inR_out (n := 4) (by decide) hs6out], hT, Ch.rf⟩)
set_option maxRecDepth 6000 in
theorem t_word (hT : IT σ o o' A) (x y : Int32) : CallOk Γ 14 8 48 mX8_word [.ref T0, .int x, .int y] σ (rS (fWord A x y) false (fun σ' => IT σ' o o' A ∧ Ch cls σ σ')) := by
  have hS := hT.1
  have hK := hT.2.1
  have hto : hR σ T0 3 = o := hT.2.2.1.2.2.1
  have hQ := hT.2.2.2.1
  have ho := hQ.1
  have hw := hT.2.2.2.2.1.1
  have hwo := hT.2.2.2.2.1.2
  have hv := hK.2.2.2.2.1.1
  have hd9 := hK.2.2.2.2.1.2
  have hY := hK.2.2.2.1
  have hO := hK.2.2.1
  have hs9 := hO.1
  have hc6 := hO.2.1
  have hw12 := hO.2.2.1
  have hk8 := hO.2.2.2.1
  refine p_enter rfl rfl (Nat.le_of_ble_eq_true rfl) rfl ?_
  refine p_aload_n 0 1 rfl rfl dX8_word_0 rfl ?_
  refine p_iload_n 1 2 rfl rfl dX8_word_1 rfl ?_
  refine p_cV1n 5 rfl dX8_word_2 (c_needWord hto hQ _) ml_X8_211 vl_X8_needWord rfl (by decide) rfl (Nat.le_of_ble_eq_true rfl) (Nat.le_of_ble_eq_true rfl) (Nat.le_of_ble_eq_true rfl) (Nat.le_of_ble_eq_true rfl) rfl (fun h2 => ?_) (fun h2 => ⟨by simp [fWord, gd, h2], hT, Ch.rf⟩)
  obtain ⟨s, rfl, hs⟩ := asN h2 (by omega)
  have hsL : s < 2147483648 := by omega
  refine p_iload_n 2 6 rfl rfl dX8_word_5 rfl ?_
  rcases swt3 y with hs6 | hs6 | hs6 | hs6 | hs6
  · subst hs6
    refine p_tswIn (off := 30) 36 rfl dX8_word_6 (by decide) (by decide) rfl ?_
    refine p_aload_n 0 37 rfl rfl dX8_word_36 rfl ?_
    refine p_getR 8 3 40 rfl dX8_word_37 fl_X8_23 rfl rfl hto ho.1.1.ne0 ?_
    refine p_getR 4 8 43 rfl dX8_word_40 fl_X8_214 ho.1.1.kd rfl ho.1.2.2.2.2.2.2.1 (mk0 (Nat.succ_ne_zero _)) ?_
    refine p_iload_n 1 44 rfl rfl dX8_word_43 rfl ?_
    refine p_ialdE 45 rfl dX8_word_44 (kd16 _ _) (lt12 (by omega)) (ho.2.2.2.2.2.2.2 s hs).1 ?_
    exact p_iret dX8_word_45 rfl ⟨by simp [fWord, gd, h2, show inR 0 4 = true from by decide, sel, show iN 0 = 0 from rfl, iN_nI hsL], hT, Ch.rf⟩
  · subst hs6
    refine p_tswIn (off := 40) 46 rfl dX8_word_6 (by decide) (by decide) rfl ?_
    refine p_aload_n 0 47 rfl rfl dX8_word_46 rfl ?_
    refine p_getR 8 3 50 rfl dX8_word_47 fl_X8_23 rfl rfl hto ho.1.1.ne0 ?_
    refine p_getR 4 9 53 rfl dX8_word_50 fl_X8_217 ho.1.1.kd rfl ho.1.2.2.2.2.2.2.2.1 (mk0 (Nat.succ_ne_zero _)) ?_
    refine p_iload_n 1 54 rfl rfl dX8_word_53 rfl ?_
    refine p_ialdE 55 rfl dX8_word_54 (kd16 _ _) (lt12 (by omega)) (ho.2.2.2.2.2.2.2 s hs).2 ?_
    exact p_iret dX8_word_55 rfl ⟨by simp [fWord, gd, h2, show inR 1 4 = true from by decide, sel, show iN 1 = 1 from rfl, iN_nI hsL], hT, Ch.rf⟩
  · subst hs6
    refine p_tswIn (off := 50) 56 rfl dX8_word_6 (by decide) (by decide) rfl ?_
    refine p_aload_n 0 57 rfl rfl dX8_word_56 rfl ?_
    refine p_getR 8 6 60 rfl dX8_word_57 fl_X8_44 rfl rfl hS.2.2.1 (by decide) ?_
    refine p_iload_n 1 61 rfl rfl dX8_word_60 rfl ?_
    refine p_cV1i 64 rfl dX8_word_61 (c_townShowing ho hw hv hwo hs) ml_X8_220 vl_X7_townShowing rfl (by decide) rfl (Nat.le_of_ble_eq_true rfl) (Nat.le_of_ble_eq_true rfl) rfl ?_
    exact p_iret dX8_word_64 rfl ⟨by simp [fWord, gd, h2, show inR 2 4 = true from by decide, sel, show iN 2 = 2 from rfl, iN_nI hsL], hT, Ch.rf⟩
  · subst hs6
    refine p_tswIn (off := 59) 65 rfl dX8_word_6 (by decide) (by decide) rfl ?_
    refine p_aload_n 0 66 rfl rfl dX8_word_65 rfl ?_
    refine p_getR 8 6 69 rfl dX8_word_66 fl_X8_44 rfl rfl hS.2.2.1 (by decide) ?_
    refine p_iload_n 1 70 rfl rfl dX8_word_69 rfl ?_
    refine p_cV1i 73 rfl dX8_word_70 (c_knowers ho hw hv hwo (by omega)) ml_X8_223 vl_X7_knowers rfl (by decide) rfl (Nat.le_of_ble_eq_true rfl) (Nat.le_of_ble_eq_true rfl) rfl ?_
    exact p_iret dX8_word_73 rfl ⟨by simp [fWord, gd, h2, show inR 3 4 = true from by decide, sel, show iN 3 = 3 from rfl, iN_nI hsL], hT, Ch.rf⟩
  · refine p_tswOut 74 rfl dX8_word_6 hs6 ?_
    have hs6out : y.toInt < 0 ∨ ((4 : Nat) : Int) ≤ y.toInt := by omega
    exact p_throw dX8_word_74 dX8_word_77 dX8_word_78 dX8_word_80 dX8_word_83 (x := 1) (i := 4) tl_X8_word_74 (Nat.le_of_ble_eq_true rfl) (Nat.le_of_ble_eq_true rfl) (Nat.le_of_ble_eq_true rfl) (Nat.le_of_ble_eq_true rfl) (⟨by simp [fWord, gd, h2, inR_out (n := 4) (by decide) hs6out], hT, Ch.rf⟩)
set_option maxRecDepth 6000 in
theorem t_town (hT : IT σ o o' A) (x y : Int32) : CallOk Γ 14 8 48 mX8_town [.ref T0, .int x, .int y] σ (rS (fTown A x y) false (fun σ' => IT σ' o o' A ∧ Ch cls σ σ')) := by
  have hS := hT.1
  have hK := hT.2.1
  have hto : hR σ T0 3 = o := hT.2.2.1.2.2.1
  have hQ := hT.2.2.2.1
  have ho := hQ.1
  have hw := hT.2.2.2.2.1.1
  have hwo := hT.2.2.2.2.1.2
  have hv := hK.2.2.2.2.1.1
  have hd9 := hK.2.2.2.2.1.2
  have hY := hK.2.2.2.1
  have hO := hK.2.2.1
  have hs9 := hO.1
  have hc6 := hO.2.1
  have hw12 := hO.2.2.1
  have hk8 := hO.2.2.2.1
  refine p_enter rfl rfl (Nat.le_of_ble_eq_true rfl) rfl ?_
  refine p_iload_n 1 1 rfl rfl dX8_town_0 rfl ?_
  refine p_cS1n 4 rfl dX8_town_1 (c_needTown _) ml_X8_228 sl_X8_needTown (Nat.le_of_ble_eq_true rfl) (Nat.le_of_ble_eq_true rfl) (Nat.le_of_ble_eq_true rfl) (Nat.le_of_ble_eq_true rfl) rfl (fun h1 => ?_) (fun h1 => ⟨by simp [fTown, gd, h1], hT, Ch.rf⟩)
  obtain ⟨s, rfl, hs⟩ := asN h1 (by omega)
  have hsL : s < 2147483648 := by omega
  have hsh := shIn_lt hO (tV A) s 0
  have hsa := shAt_lt hO (tV A) (s + 1)
  refine p_iload_n 2 5 rfl rfl dX8_town_4 rfl ?_
  rcases swt4 y with hs5 | hs5 | hs5 | hs5 | hs5 | hs5
  · subst hs5
    refine p_tswIn (off := 35) 40 rfl dX8_town_5 (by decide) (by decide) rfl ?_
    refine p_aload_n 0 41 rfl rfl dX8_town_40 rfl ?_
    refine p_getR 8 6 44 rfl dX8_town_41 fl_X8_44 rfl rfl hS.2.2.1 (by decide) ?_
    refine p_iload_n 1 45 rfl rfl dX8_town_44 rfl ?_
    refine p_cV1i 48 rfl dX8_town_45 (c_archive ho hw hv hwo (by omega)) ml_X8_231 vl_X7_archive rfl (by decide) rfl (Nat.le_of_ble_eq_true rfl) (Nat.le_of_ble_eq_true rfl) rfl ?_
    exact p_iret dX8_town_48 rfl ⟨by simp [fTown, gd, h1, show inR 0 5 = true from by decide, sel, show iN 0 = 0 from rfl, iN_nI hsL], hT, Ch.rf⟩
  · subst hs5
    refine p_tswIn (off := 44) 49 rfl dX8_town_5 (by decide) (by decide) rfl ?_
    refine p_aload_n 0 50 rfl rfl dX8_town_49 rfl ?_
    refine p_getR 8 6 53 rfl dX8_town_50 fl_X8_44 rfl rfl hS.2.2.1 (by decide) ?_
    refine p_iload_n 1 54 rfl rfl dX8_town_53 rfl ?_
    refine p_iconst (0) 55 rfl dX8_town_54 rfl ?_
    refine p_cV2i 58 rfl dX8_town_55 (c_sheetsIn (k := 0) ho hw hv hwo (by omega) (by omega)) ml_X8_234 vl_X7_sheetsIn rfl (by decide) rfl (Nat.le_of_ble_eq_true rfl) (Nat.le_of_ble_eq_true rfl) rfl ?_
    exact p_iret dX8_town_58 rfl ⟨by simp [fTown, gd, h1, show inR 1 5 = true from by decide, sel, show iN 1 = 1 from rfl, iN_nI hsL], hT, Ch.rf⟩
  · subst hs5
    refine p_tswIn (off := 54) 59 rfl dX8_town_5 (by decide) (by decide) rfl ?_
    refine p_aload_n 0 60 rfl rfl dX8_town_59 rfl ?_
    refine p_getR 8 6 63 rfl dX8_town_60 fl_X8_44 rfl rfl hS.2.2.1 (by decide) ?_
    refine p_iload_n 1 64 rfl rfl dX8_town_63 rfl ?_
    refine p_cV1i 67 rfl dX8_town_64 (c_clerksIn ho hw hv hwo (by omega)) ml_X8_237 vl_X7_clerksIn rfl (by decide) rfl (Nat.le_of_ble_eq_true rfl) (Nat.le_of_ble_eq_true rfl) rfl ?_
    exact p_iret dX8_town_67 rfl ⟨by simp [fTown, gd, h1, show inR 2 5 = true from by decide, sel, show iN 2 = 2 from rfl, iN_nI hsL], hT, Ch.rf⟩
  · subst hs5
    refine p_tswIn (off := 63) 68 rfl dX8_town_5 (by decide) (by decide) rfl ?_
    refine p_aload_n 0 69 rfl rfl dX8_town_68 rfl ?_
    refine p_getR 8 6 72 rfl dX8_town_69 fl_X8_44 rfl rfl hS.2.2.1 (by decide) ?_
    refine p_aload_n 0 73 rfl rfl dX8_town_72 rfl ?_
    refine p_getR 8 6 76 rfl dX8_town_73 fl_X8_44 rfl rfl hS.2.2.1 (by decide) ?_
    refine p_iload_n 1 77 rfl rfl dX8_town_76 rfl ?_
    refine p_iconst (0) 78 rfl dX8_town_77 rfl ?_
    refine p_cV2i 81 rfl dX8_town_78 (c_sheetsIn (k := 0) ho hw hv hwo (by omega) (by omega)) ml_X8_234 vl_X7_sheetsIn rfl (by decide) rfl (Nat.le_of_ble_eq_true rfl) (Nat.le_of_ble_eq_true rfl) rfl ?_
    refine p_cV1i 84 rfl dX8_town_81 (c_wordsOf ho hw hv hwo (by omega)) ml_X8_240 vl_X7_wordsOf rfl (by decide) rfl (Nat.le_of_ble_eq_true rfl) (Nat.le_of_ble_eq_true rfl) rfl ?_
    exact p_iret dX8_town_84 rfl ⟨by simp [fTown, gd, h1, show inR 3 5 = true from by decide, sel, show iN 3 = 3 from rfl, iN_nI hsL], hT, Ch.rf⟩
  · subst hs5
    refine p_tswIn (off := 80) 85 rfl dX8_town_5 (by decide) (by decide) rfl ?_
    refine p_aload_n 0 86 rfl rfl dX8_town_85 rfl ?_
    refine p_getR 8 6 89 rfl dX8_town_86 fl_X8_44 rfl rfl hS.2.2.1 (by decide) ?_
    refine p_aload_n 0 90 rfl rfl dX8_town_89 rfl ?_
    refine p_getR 8 6 93 rfl dX8_town_90 fl_X8_44 rfl rfl hS.2.2.1 (by decide) ?_
    refine p_iload_n 1 94 rfl rfl dX8_town_93 rfl ?_
    refine p_cV1i 97 rfl dX8_town_94 (c_archive ho hw hv hwo (by omega)) ml_X8_231 vl_X7_archive rfl (by decide) rfl (Nat.le_of_ble_eq_true rfl) (Nat.le_of_ble_eq_true rfl) rfl ?_
    refine p_cV1i 100 rfl dX8_town_97 (c_wordsLost ho hw hv hwo (by omega)) ml_X8_243 vl_X7_wordsLost rfl (by decide) rfl (Nat.le_of_ble_eq_true rfl) (Nat.le_of_ble_eq_true rfl) rfl ?_
    exact p_iret dX8_town_100 rfl ⟨by simp [fTown, gd, h1, show inR 4 5 = true from by decide, sel, show iN 4 = 4 from rfl, iN_nI hsL], hT, Ch.rf⟩
  · refine p_tswOut 101 rfl dX8_town_5 hs5 ?_
    have hs5out : y.toInt < 0 ∨ ((5 : Nat) : Int) ≤ y.toInt := by omega
    exact p_throw dX8_town_101 dX8_town_104 dX8_town_105 dX8_town_107 dX8_town_110 (x := 1) (i := 5) tl_X8_town_101 (Nat.le_of_ble_eq_true rfl) (Nat.le_of_ble_eq_true rfl) (Nat.le_of_ble_eq_true rfl) (Nat.le_of_ble_eq_true rfl) (⟨by simp [fTown, gd, h1, inR_out (n := 5) (by decide) hs5out], hT, Ch.rf⟩)
set_option maxRecDepth 6000 in
theorem t_where (hT : IT σ o o' A) (x y : Int32) : CallOk Γ 14 8 48 mX8_where [.ref T0, .int x, .int y] σ (rS (fWhere A x y) false (fun σ' => IT σ' o o' A ∧ Ch cls σ σ')) := by
  have hS := hT.1
  have hK := hT.2.1
  have hto : hR σ T0 3 = o := hT.2.2.1.2.2.1
  have hQ := hT.2.2.2.1
  have ho := hQ.1
  have hw := hT.2.2.2.2.1.1
  have hwo := hT.2.2.2.2.1.2
  have hv := hK.2.2.2.2.1.1
  have hd9 := hK.2.2.2.2.1.2
  have hY := hK.2.2.2.1
  have hO := hK.2.2.1
  have hs9 := hO.1
  have hc6 := hO.2.1
  have hw12 := hO.2.2.1
  have hk8 := hO.2.2.2.1
  refine p_enter rfl rfl (Nat.le_of_ble_eq_true rfl) rfl ?_
  refine p_aload_n 0 1 rfl rfl dX8_where_0 rfl ?_
  refine p_iload_n 1 2 rfl rfl dX8_where_1 rfl ?_
  refine p_cV1n 5 rfl dX8_where_2 (c_needSheet hto hQ _) ml_X8_172 vl_X8_needSheet rfl (by decide) rfl (Nat.le_of_ble_eq_true rfl) (Nat.le_of_ble_eq_true rfl) (Nat.le_of_ble_eq_true rfl) (Nat.le_of_ble_eq_true rfl) rfl (fun h2 => ?_) (fun h2 => ⟨by simp [fWhere, gd, h2], hT, Ch.rf⟩)
  obtain ⟨s, rfl, hs⟩ := asN h2 (by omega)
  have hsL : s < 2147483648 := by omega
  refine p_iload_n 2 6 rfl rfl dX8_where_5 rfl ?_
  refine p_iconst (0) 7 rfl dX8_where_6 rfl ?_
  refine p_bipush (40) 9 rfl dX8_where_7 rfl ?_
  refine p_cS3n 12 rfl dX8_where_9 (c_needBetween _ 0 40) ml_X8_267 sl_X8_needBetween (Nat.le_of_ble_eq_true rfl) (Nat.le_of_ble_eq_true rfl) (Nat.le_of_ble_eq_true rfl) (Nat.le_of_ble_eq_true rfl) rfl (fun h9 => ?_) (fun h9 => ⟨by simp [fWhere, gd, h2, h9], hT, Ch.rf⟩)
  obtain ⟨k, rfl, hka, hk⟩ := asB h9 (by decide) (by decide)
  have hkL : k < 2147483648 := by omega
  refine p_aload_n 0 13 rfl rfl dX8_where_12 rfl ?_
  refine p_getR 8 6 16 rfl dX8_where_13 fl_X8_44 rfl rfl hS.2.2.1 (by decide) ?_
  refine p_iload_n 1 17 rfl rfl dX8_where_16 rfl ?_
  refine p_iload_n 2 18 rfl rfl dX8_where_17 rfl ?_
  refine p_cV2i 21 rfl dX8_where_18 (c_townOf ho hw hv hwo hs (by omega)) ml_X8_181 vl_X7_townOf rfl (by decide) rfl (Nat.le_of_ble_eq_true rfl) (Nat.le_of_ble_eq_true rfl) rfl ?_
  exact p_iret dX8_where_21 rfl ⟨by simp [fWhere, gd, h2, h9, iN_nI hsL, iN_nI hkL], hT, Ch.rf⟩
set_option maxRecDepth 6000 in
theorem t_far (hT : IT σ o o' A) (x y : Int32) : CallOk Γ 14 8 48 mX8_far [.ref T0, .int x, .int y] σ (rS (fFar A x y) false (fun σ' => IT σ' o o' A ∧ Ch cls σ σ')) := by
  have hS := hT.1
  have hK := hT.2.1
  have hto : hR σ T0 3 = o := hT.2.2.1.2.2.1
  have hQ := hT.2.2.2.1
  have ho := hQ.1
  have hw := hT.2.2.2.2.1.1
  have hwo := hT.2.2.2.2.1.2
  have hv := hK.2.2.2.2.1.1
  have hd9 := hK.2.2.2.2.1.2
  have hY := hK.2.2.2.1
  have hO := hK.2.2.1
  have hs9 := hO.1
  have hc6 := hO.2.1
  have hw12 := hO.2.2.1
  have hk8 := hO.2.2.2.1
  refine p_enter rfl rfl (Nat.le_of_ble_eq_true rfl) rfl ?_
  refine p_aload_n 0 1 rfl rfl dX8_far_0 rfl ?_
  refine p_iload_n 1 2 rfl rfl dX8_far_1 rfl ?_
  refine p_cV1n 5 rfl dX8_far_2 (c_needSheet hto hQ _) ml_X8_172 vl_X8_needSheet rfl (by decide) rfl (Nat.le_of_ble_eq_true rfl) (Nat.le_of_ble_eq_true rfl) (Nat.le_of_ble_eq_true rfl) (Nat.le_of_ble_eq_true rfl) rfl (fun h2 => ?_) (fun h2 => ⟨by simp [fFar, gd, h2], hT, Ch.rf⟩)
  obtain ⟨s, rfl, hs⟩ := asN h2 (by omega)
  have hsL : s < 2147483648 := by omega
  refine p_aload_n 0 6 rfl rfl dX8_far_5 rfl ?_
  refine p_iload_n 2 7 rfl rfl dX8_far_6 rfl ?_
  refine p_cV1n 10 rfl dX8_far_7 (c_needSheet hto hQ _) ml_X8_172 vl_X8_needSheet rfl (by decide) rfl (Nat.le_of_ble_eq_true rfl) (Nat.le_of_ble_eq_true rfl) (Nat.le_of_ble_eq_true rfl) (Nat.le_of_ble_eq_true rfl) rfl (fun h7 => ?_) (fun h7 => ⟨by simp [fFar, gd, h2, h7], hT, Ch.rf⟩)
  obtain ⟨k, rfl, hk⟩ := asN h7 (by omega)
  have hkL : k < 2147483648 := by omega
  refine p_aload_n 0 11 rfl rfl dX8_far_10 rfl ?_
  refine p_getR 8 6 14 rfl dX8_far_11 fl_X8_44 rfl rfl hS.2.2.1 (by decide) ?_
  refine p_iload_n 1 15 rfl rfl dX8_far_14 rfl ?_
  refine p_iload_n 2 16 rfl rfl dX8_far_15 rfl ?_
  refine p_cV2i 19 rfl dX8_far_16 (c_difference ho hw hv hwo (by omega) (by omega)) ml_X8_298 vl_X7_difference rfl (by decide) rfl (Nat.le_of_ble_eq_true rfl) (Nat.le_of_ble_eq_true rfl) rfl ?_
  exact p_iret dX8_far_19 rfl ⟨by simp [fFar, gd, h2, h7, iN_nI hsL, iN_nI hkL], hT, Ch.rf⟩
set_option maxRecDepth 6000 in
theorem t_toForge (hT : IT σ o o' A) (x y : Int32) : CallOk Γ 14 8 48 mX8_toForge [.ref T0, .int x, .int y] σ (rS (fToForge A x y) false (fun σ' => IT σ' o o' A ∧ Ch cls σ σ')) := by
  have hS := hT.1
  have hK := hT.2.1
  have hto : hR σ T0 3 = o := hT.2.2.1.2.2.1
  have hQ := hT.2.2.2.1
  have ho := hQ.1
  have hw := hT.2.2.2.2.1.1
  have hwo := hT.2.2.2.2.1.2
  have hv := hK.2.2.2.2.1.1
  have hd9 := hK.2.2.2.2.1.2
  have hY := hK.2.2.2.1
  have hO := hK.2.2.1
  have hs9 := hO.1
  have hc6 := hO.2.1
  have hw12 := hO.2.2.1
  have hk8 := hO.2.2.2.1
  refine p_enter rfl rfl (Nat.le_of_ble_eq_true rfl) rfl ?_
  refine p_aload_n 0 1 rfl rfl dX8_toForge_0 rfl ?_
  refine p_iload_n 1 2 rfl rfl dX8_toForge_1 rfl ?_
  refine p_cV1n 5 rfl dX8_toForge_2 (c_needSheet hto hQ _) ml_X8_172 vl_X8_needSheet rfl (by decide) rfl (Nat.le_of_ble_eq_true rfl) (Nat.le_of_ble_eq_true rfl) (Nat.le_of_ble_eq_true rfl) (Nat.le_of_ble_eq_true rfl) rfl (fun h2 => ?_) (fun h2 => ⟨by simp [fToForge, gd, h2], hT, Ch.rf⟩)
  obtain ⟨s, rfl, hs⟩ := asN h2 (by omega)
  have hsL : s < 2147483648 := by omega
  refine p_aload_n 0 6 rfl rfl dX8_toForge_5 rfl ?_
  refine p_iload_n 2 7 rfl rfl dX8_toForge_6 rfl ?_
  refine p_cV1n 10 rfl dX8_toForge_7 (c_needSheet hto hQ _) ml_X8_172 vl_X8_needSheet rfl (by decide) rfl (Nat.le_of_ble_eq_true rfl) (Nat.le_of_ble_eq_true rfl) (Nat.le_of_ble_eq_true rfl) (Nat.le_of_ble_eq_true rfl) rfl (fun h7 => ?_) (fun h7 => ⟨by simp [fToForge, gd, h2, h7], hT, Ch.rf⟩)
  obtain ⟨k, rfl, hk⟩ := asN h7 (by omega)
  have hkL : k < 2147483648 := by omega
  refine p_iload_n 1 11 rfl rfl dX8_toForge_10 rfl ?_
  refine p_iload_n 2 12 rfl rfl dX8_toForge_11 rfl ?_
  refine p_icmp_eq 41 15 rfl rfl dX8_toForge_12 (fun h12 => ?_) (fun h12 => ?_)
  · refine p_iconst (-1) 42 rfl dX8_toForge_41 rfl ?_
    exact p_iret dX8_toForge_42 rfl ⟨by have e := (nI_eq hsL hkL).mp h12; simp [fToForge, gd, h2, h7, iN_nI hsL, iN_nI hkL, e], hT, Ch.rf⟩
  · refine p_aload_n 0 16 rfl rfl dX8_toForge_15 rfl ?_
    refine p_getR 8 6 19 rfl dX8_toForge_16 fl_X8_44 rfl rfl hS.2.2.1 (by decide) ?_
    refine p_getR 7 4 22 rfl dX8_toForge_19 fl_X8_254 rfl rfl hw.1.2.2.2.1 (mk0 (Nat.succ_ne_zero _)) ?_
    refine p_iload_n 1 23 rfl rfl dX8_toForge_22 rfl ?_
    refine p_ialdE 24 rfl dX8_toForge_23 (kd16 _ _) (lt9 (by omega)) (hw.2.2.1 s (by omega)).2.2 ?_
    refine p_iconst (-1) 25 rfl dX8_toForge_24 rfl ?_
    refine p_icmp_eq 41 28 rfl rfl dX8_toForge_25 (fun h25 => ?_) (fun h25 => ?_)
    · refine p_iconst (-1) 42 rfl dX8_toForge_41 rfl ?_
      exact p_iret dX8_toForge_42 rfl ⟨by have e := (pI_m1 (by have := (hv.2.1 s (by omega)).2.2; omega)).mp h25; simp [fToForge, gd, h2, h7, iN_nI hsL, iN_nI hkL, e], hT, Ch.rf⟩
    · refine p_aload_n 0 29 rfl rfl dX8_toForge_28 rfl ?_
      refine p_getR 8 6 32 rfl dX8_toForge_29 fl_X8_44 rfl rfl hS.2.2.1 (by decide) ?_
      refine p_getR 7 4 35 rfl dX8_toForge_32 fl_X8_254 rfl rfl hw.1.2.2.2.1 (mk0 (Nat.succ_ne_zero _)) ?_
      refine p_iload_n 2 36 rfl rfl dX8_toForge_35 rfl ?_
      refine p_ialdE 37 rfl dX8_toForge_36 (kd16 _ _) (lt9 (by omega)) (hw.2.2.1 k (by omega)).2.2 ?_
      refine p_iconst (-1) 38 rfl dX8_toForge_37 rfl ?_
      refine p_icmp_ne 43 41 rfl rfl dX8_toForge_38 (fun h38 => ?_) (fun h38 => ?_)
      · refine p_iconst (0) 44 rfl dX8_toForge_43 rfl ?_
        refine p_aload_n 0 45 rfl rfl dX8_toForge_44 rfl ?_
        refine p_getR 8 6 48 rfl dX8_toForge_45 fl_X8_44 rfl rfl hS.2.2.1 (by decide) ?_
        refine p_iload_n 1 49 rfl rfl dX8_toForge_48 rfl ?_
        refine p_iload_n 2 50 rfl rfl dX8_toForge_49 rfl ?_
        refine p_cV2i 53 rfl dX8_toForge_50 (c_difference ho hw hv hwo (by omega) (by omega)) ml_X8_298 vl_X7_difference rfl (by decide) rfl (Nat.le_of_ble_eq_true rfl) (Nat.le_of_ble_eq_true rfl) rfl ?_
        refine p_aload_n 0 54 rfl rfl dX8_toForge_53 rfl ?_
        refine p_getR 8 3 57 rfl dX8_toForge_54 fl_X8_23 rfl rfl hto ho.1.1.ne0 ?_
        refine p_getIE 4 10 60 rfl dX8_toForge_57 fl_X8_140 ho.1.1.kd rfl ho.2.2.2.2.2.1 ?_
        refine p_isub 61 rfl dX8_toForge_60 ?_
        refine p_max 64 rfl dX8_toForge_61 ml_X8_301 (Nat.le_of_ble_eq_true rfl) (Nat.le_of_ble_eq_true rfl) ?_
        exact p_iret dX8_toForge_64 rfl ⟨by
      have e1 : ¬ s = k := fun z => h12 (by rw [z])
      have e2 : ¬ vP (tV A) s = 0 := fun z => h25 (by rw [z]; rfl)
      have e3 : ¬ vP (tV A) k = 0 := fun z => h38 (by rw [z]; rfl)
      rw [mx_sub (by have := pop_le (vR (tV A) s ^^^ vL (tV A) k); unfold dif; omega) (by omega)]
      simp [fToForge, gd, h2, h7, iN_nI hsL, iN_nI hkL, e1, e2, e3], hT, Ch.rf⟩
      · refine p_iconst (-1) 42 rfl dX8_toForge_41 rfl ?_
        exact p_iret dX8_toForge_42 rfl ⟨by have e := (pI_m1 (by have := (hv.2.1 k (by omega)).2.2; omega)).mp h38; simp [fToForge, gd, h2, h7, iN_nI hsL, iN_nI hkL, e], hT, Ch.rf⟩
set_option maxRecDepth 6000 in
theorem t_fault (hT : IT σ o o' A)  : CallOk Γ 14 8 48 mX8_fault [.ref T0] σ (rS (((0, tF A) : Nat × Int32)) false (fun σ' => IT σ' o o' A ∧ Ch cls σ σ')) := by
  have hS := hT.1
  have hK := hT.2.1
  have hto : hR σ T0 3 = o := hT.2.2.1.2.2.1
  have hQ := hT.2.2.2.1
  have ho := hQ.1
  have hw := hT.2.2.2.2.1.1
  have hwo := hT.2.2.2.2.1.2
  have hv := hK.2.2.2.2.1.1
  have hd9 := hK.2.2.2.2.1.2
  have hY := hK.2.2.2.1
  have hO := hK.2.2.1
  have hs9 := hO.1
  have hc6 := hO.2.1
  have hw12 := hO.2.2.1
  have hk8 := hO.2.2.2.1
  refine p_enter rfl rfl (Nat.le_of_ble_eq_true rfl) rfl ?_
  refine p_aload_n 0 1 rfl rfl dX8_fault_0 rfl ?_
  refine p_getIE 8 2 4 rfl dX8_fault_1 fl_X8_17 rfl rfl hT.2.2.2.2.2.2.2.2.2.2.1.2.1 ?_
  exact p_iret dX8_fault_4 rfl ⟨rfl, hT, Ch.rf⟩
end C46
