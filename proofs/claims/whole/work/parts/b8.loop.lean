/-! ===== the law: all ops ===== -/
theorem nI_bv (x : Int32) : nI x.toBitVec.toNat = x := by
  refine Eq.symm ?_
  apply Int32.toBitVec_inj.1
  show x.toBitVec = BitVec.ofNat 32 x.toBitVec.toNat
  simp
theorem and63 (w : Int32) : ∃ k, k < 64 ∧ w &&& 63 = nI k := by
  refine ⟨(w &&& 63).toBitVec.toNat, ?_, ?_⟩
  · rw [Int32.toBitVec_and, BitVec.toNat_and]
    have : ((63 : Int32).toBitVec).toNat = 63 := by decide
    rw [this]
    exact Nat.lt_of_le_of_lt Nat.and_le_right (by decide)
  · exact (nI_bv _).symm
theorem le6 {i L : Nat} (hi : i ≤ 400) (hL : L ≤ 384) (h : ¬ nI L - 6 < nI i) : i + 6 ≤ L := by
  have h1 : (nI i).toInt ≤ (nI L - 6).toInt := Int32.le_iff_toInt_le.mp (Int32.not_lt.mp h)
  rw [show (nI i).toInt = (i : Int) from Int32.toInt_ofNat_of_lt (by omega)] at h1
  have h2 : (nI L - 6).toInt = (L : Int) - 6 := by
    rw [Int32.toInt_sub, show (nI L).toInt = (L : Int) from Int32.toInt_ofNat_of_lt (by omega), show (6 : Int32).toInt = 6 by decide]
    exact Int.bmod_eq_of_le (by omega) (by omega)
  omega
section Cb8
variable {Γ : Gm}
set_option maxRecDepth 12000 in
theorem law_loop (hL3 : gL Γ ≤ 384) : ∀ (n i : Nat) (σ : PH) (A : AT) (x5 x6 : Option Value), gL Γ ≤ i + 6 * n → i ≤ 390 → BO σ A → Ok Γ 60 (8 * n) (48 * n) mL_law 23 [some (.ref 27), some (.ref T0), some (.ref M0), some (.ref oL0), some (.int (nI i)), x5, x6] [] σ rLw := by
  intro n
  induction n with
  | zero =>
    intro i σ A x5 x6 hn hi hB
    refine p_iload 4 25 rfl dL_law_23 rfl ?_
    refine p_aload_n 0 26 rfl rfl dL_law_25 rfl ?_
    refine p_slen 27 rfl dL_law_26 ?_
    refine p_bipush (6) 29 rfl dL_law_27 rfl ?_
    refine p_isub 30 rfl dL_law_29 ?_
    refine p_icmp_gt 2713 33 rfl rfl dL_law_30 (fun _ => ?_) (fun h => absurd (le6 (i := i) (L := gL Γ) (by omega) hL3 h) (by omega))
    refine p_iconst (1) 2714 rfl dL_law_2713 rfl ?_
    exact p_zret dL_law_2714 rfl rfl rfl
  | succ n ih =>
    intro i σ A x5 x6 hn hi hB
    refine p_iload 4 25 rfl dL_law_23 rfl ?_
    refine p_aload_n 0 26 rfl rfl dL_law_25 rfl ?_
    refine p_slen 27 rfl dL_law_26 ?_
    refine p_bipush (6) 29 rfl dL_law_27 rfl ?_
    refine p_isub 30 rfl dL_law_29 ?_
    refine p_icmp_gt 2713 33 rfl rfl dL_law_30 (fun _ => ?_) (fun h => ?_)
    · refine p_iconst (1) 2714 rfl dL_law_2713 rfl ?_
      exact p_zret dL_law_2714 rfl rfl rfl
    · have h6 : i + 6 ≤ gL Γ := le6 (by omega) hL3 h
      have kk : ∀ (σ' : PH) (A' : AT) (x5 x6 : Option Value), BO σ' A' → Ok Γ 60 (8 * n) (48 * n) mL_law 2707 [some (.ref 27), some (.ref T0), some (.ref M0), some (.ref oL0), some (.int (nI i)), x5, x6] [] σ' rLw := fun σ' A' y5 y6 hB' => by
        refine p_inc_4 2710 rfl dL_law_2707 (6) rfl (Nat.le_of_ble_eq_true rfl) rfl ?_
        rw [show nI i + 6 = nI (i + 6) from nI_add _ 6]
        refine p_goto 23 rfl dL_law_2710 ?_
        exact ih (i + 6) σ' A' y5 y6 (by omega) (by omega) hB'
      refine p_aload_n 0 34 rfl rfl dL_law_33 rfl ?_
      refine p_iload 4 36 rfl dL_law_34 rfl ?_
      refine p_sld 37 rfl dL_law_36 (vp_in_nI (by omega) (by omega)) ?_
      refine p_bipush (63) 39 rfl dL_law_37 rfl ?_
      refine p_iand 40 rfl dL_law_39 ?_
      obtain ⟨k, hk, e⟩ := and63 (gx Γ (nI i).toNatClampNeg)
      rw [e]
      rcases (show k = 0 ∨ k = 1 ∨ k = 2 ∨ k = 3 ∨ k = 4 ∨ k = 5 ∨ k = 6 ∨ k = 7 ∨ k = 8 ∨ k = 9 ∨ k = 10 ∨ k = 11 ∨ k = 12 ∨ k = 13 ∨ k = 14 ∨ k = 15 ∨ k = 16 ∨ k = 17 ∨ k = 18 ∨ k = 19 ∨ k = 20 ∨ k = 21 ∨ k = 22 ∨ k = 23 ∨ k = 24 ∨ k = 25 ∨ k = 26 ∨ k = 27 ∨ k = 28 ∨ k = 29 ∨ k = 30 ∨ k = 31 ∨ k = 32 ∨ k = 33 ∨ k = 34 ∨ k = 35 ∨ k = 36 ∨ k = 37 ∨ k = 38 ∨ k = 39 ∨ k = 40 ∨ k = 41 ∨ k = 42 ∨ 42 < k by omega) with rfl | rfl | rfl | rfl | rfl | rfl | rfl | rfl | rfl | rfl | rfl | rfl | rfl | rfl | rfl | rfl | rfl | rfl | rfl | rfl | rfl | rfl | rfl | rfl | rfl | rfl | rfl | rfl | rfl | rfl | rfl | rfl | rfl | rfl | rfl | rfl | rfl | rfl | rfl | rfl | rfl | rfl | rfl | hk2
      · refine p_tswIn (off := 188) 228 rfl dL_law_40 (by decide) (by decide) rfl ?_
        exact g_0 h6 hL3 hB kk
      · refine p_tswIn (off := 261) 301 rfl dL_law_40 (by decide) (by decide) rfl ?_
        exact g_1 h6 hL3 hB kk
      · refine p_tswIn (off := 317) 357 rfl dL_law_40 (by decide) (by decide) rfl ?_
        exact g_2 h6 hL3 hB kk
      · refine p_tswIn (off := 330) 370 rfl dL_law_40 (by decide) (by decide) rfl ?_
        exact g_3 h6 hL3 hB kk
      · refine p_tswIn (off := 386) 426 rfl dL_law_40 (by decide) (by decide) rfl ?_
        exact g_4 h6 hL3 hB kk
      · refine p_tswIn (off := 454) 494 rfl dL_law_40 (by decide) (by decide) rfl ?_
        exact g_5 h6 hL3 hB kk
      · refine p_tswIn (off := 522) 562 rfl dL_law_40 (by decide) (by decide) rfl ?_
        exact g_6 h6 hL3 hB kk
      · refine p_tswIn (off := 590) 630 rfl dL_law_40 (by decide) (by decide) rfl ?_
        exact g_7 h6 hL3 hB kk
      · refine p_tswIn (off := 658) 698 rfl dL_law_40 (by decide) (by decide) rfl ?_
        exact g_8 h6 hL3 hB kk
      · refine p_tswIn (off := 683) 723 rfl dL_law_40 (by decide) (by decide) rfl ?_
        exact g_9 h6 hL3 hB kk
      · refine p_tswIn (off := 758) 798 rfl dL_law_40 (by decide) (by decide) rfl ?_
        exact g_10 h6 hL3 hB kk
      · refine p_tswIn (off := 826) 866 rfl dL_law_40 (by decide) (by decide) rfl ?_
        exact g_11 h6 hL3 hB kk
      · refine p_tswIn (off := 906) 946 rfl dL_law_40 (by decide) (by decide) rfl ?_
        exact g_12 h6 hL3 hB kk
      · refine p_tswIn (off := 962) 1002 rfl dL_law_40 (by decide) (by decide) rfl ?_
        exact g_13 h6 hL3 hB kk
      · refine p_tswIn (off := 975) 1015 rfl dL_law_40 (by decide) (by decide) rfl ?_
        exact g_14 h6 hL3 hB kk
      · refine p_tswIn (off := 1055) 1095 rfl dL_law_40 (by decide) (by decide) rfl ?_
        exact g_15 h6 hL3 hB kk
      · refine p_tswIn (off := 1123) 1163 rfl dL_law_40 (by decide) (by decide) rfl ?_
        exact g_16 h6 hL3 hB kk
      · refine p_tswIn (off := 1191) 1231 rfl dL_law_40 (by decide) (by decide) rfl ?_
        exact g_17 h6 hL3 hB kk
      · refine p_tswIn (off := 1259) 1299 rfl dL_law_40 (by decide) (by decide) rfl ?_
        exact g_18 h6 hL3 hB kk
      · refine p_tswIn (off := 1315) 1355 rfl dL_law_40 (by decide) (by decide) rfl ?_
        exact g_19 h6 hL3 hB kk
      · refine p_tswIn (off := 1383) 1423 rfl dL_law_40 (by decide) (by decide) rfl ?_
        exact g_20 h6 hL3 hB kk
      · refine p_tswIn (off := 1439) 1479 rfl dL_law_40 (by decide) (by decide) rfl ?_
        exact g_21 h6 hL3 hB kk
      · refine p_tswIn (off := 1495) 1535 rfl dL_law_40 (by decide) (by decide) rfl ?_
        exact g_22 h6 hL3 hB kk
      · refine p_tswIn (off := 1563) 1603 rfl dL_law_40 (by decide) (by decide) rfl ?_
        exact g_23 h6 hL3 hB kk
      · refine p_tswIn (off := 1619) 1659 rfl dL_law_40 (by decide) (by decide) rfl ?_
        exact g_24 h6 hL3 hB kk
      · refine p_tswIn (off := 1632) 1672 rfl dL_law_40 (by decide) (by decide) rfl ?_
        exact g_25 h6 hL3 hB kk
      · refine p_tswIn (off := 1700) 1740 rfl dL_law_40 (by decide) (by decide) rfl ?_
        exact g_26 h6 hL3 hB kk
      · refine p_tswIn (off := 1808) 1848 rfl dL_law_40 (by decide) (by decide) rfl ?_
        exact g_27 h6 hL3 hB kk
      · refine p_tswIn (off := 1819) 1859 rfl dL_law_40 (by decide) (by decide) rfl ?_
        exact g_28 h6 hL3 hB kk
      · refine p_tswIn (off := 1875) 1915 rfl dL_law_40 (by decide) (by decide) rfl ?_
        exact g_29 h6 hL3 hB kk
      · refine p_tswIn (off := 1931) 1971 rfl dL_law_40 (by decide) (by decide) rfl ?_
        exact g_30 h6 hL3 hB kk
      · refine p_tswIn (off := 1999) 2039 rfl dL_law_40 (by decide) (by decide) rfl ?_
        exact g_31 h6 hL3 hB kk
      · refine p_tswIn (off := 2079) 2119 rfl dL_law_40 (by decide) (by decide) rfl ?_
        exact g_32 h6 hL3 hB kk
      · refine p_tswIn (off := 2159) 2199 rfl dL_law_40 (by decide) (by decide) rfl ?_
        exact g_33 h6 hL3 hB kk
      · refine p_tswIn (off := 2215) 2255 rfl dL_law_40 (by decide) (by decide) rfl ?_
        exact g_34 h6 hL3 hB kk
      · refine p_tswIn (off := 2295) 2335 rfl dL_law_40 (by decide) (by decide) rfl ?_
        exact g_35 h6 hL3 hB kk
      · refine p_tswIn (off := 2351) 2391 rfl dL_law_40 (by decide) (by decide) rfl ?_
        exact g_36 h6 hL3 hB kk
      · refine p_tswIn (off := 2407) 2447 rfl dL_law_40 (by decide) (by decide) rfl ?_
        exact g_37 h6 hL3 hB kk
      · refine p_tswIn (off := 2475) 2515 rfl dL_law_40 (by decide) (by decide) rfl ?_
        exact g_38 h6 hL3 hB kk
      · refine p_tswIn (off := 2531) 2571 rfl dL_law_40 (by decide) (by decide) rfl ?_
        exact g_39 h6 hL3 hB kk
      · refine p_tswIn (off := 2587) 2627 rfl dL_law_40 (by decide) (by decide) rfl ?_
        exact g_40 h6 hL3 hB kk
      · refine p_tswIn (off := 2643) 2683 rfl dL_law_40 (by decide) (by decide) rfl ?_
        exact g_41 h6 hL3 hB kk
      · refine p_tswIn (off := 2654) 2694 rfl dL_law_40 (by decide) (by decide) rfl ?_
        exact g_42 h6 hL3 hB kk
      · refine p_tswOut 2707 rfl dL_law_40 (Or.inr (by rw [show (nI k).toInt = (k : Int) from Int32.toInt_ofNat_of_lt (by omega)]; omega)) ?_
        exact Ok.sub (kk σ A x5 x6 hB) (Nat.le_refl _) (by omega) (by omega)
end Cb8
