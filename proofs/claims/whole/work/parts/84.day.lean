/-! ===== the reference: mould, a day, days ===== -/
theorem RowM.rt {e : Bool} {f : Nat → Int32} {b : Nat} {O : AO} {V : AW} {i x : Nat} (h : RowM e f b O V) (hi : i < 9) (hs : aS O ≤ 9) : RowM e (upd f (b + 10 + i) (nI x)) b O (wRt V (va_up (vR V) i x)) := by
  refine ⟨by rw [pk_un (by omega)]; exact h.1, fun s q => ?_, fun c q => by rw [pk_un (by omega)]; exact h.2.2 c q⟩
  have := h.2.1 s q
  refine ⟨fun w => by rw [pk_un (by omega)]; exact this.1 w, ?_, by rw [pk_un (by omega)]; exact this.2.2⟩
  show _ = nI (va_up (vR V) i x s)
  by_cases hc : s = i
  · rw [hc, pk_us, va_ups]
  · rw [pk_un (by omega), va_upo hc]; exact this.2.1
theorem RowM.dy {e : Bool} {f : Nat → Int32} {b : Nat} {O : AO} {V : AW} {x : Nat} (h : RowM e f b O V) : RowM e (upd f b (nI x)) b O (wDy V x) := by
  refine ⟨pk_us, fun s q => ?_, fun c q => by rw [pk_un (by omega)]; exact h.2.2 c q⟩
  have := h.2.1 s q
  exact ⟨fun w => by rw [pk_un (by omega)]; exact this.1 w, by rw [pk_un (by omega)]; exact this.2.1, by rw [pk_un (by omega)]; exact this.2.2⟩
section C84
variable {Γ : Gm} {σ : PH} {O : AO} {V : AW} {e : Bool} {b : Nat}
theorem mldP_n {s : Nat} {ps : List Int32} (hp0 : ¬ vP V s = 0) (h : ¬ 0 < evP ps (vlM O V s)) : mldP O V ps s = V := by rw [mldP, if_neg hp0, if_neg h]
theorem mldP_y {s : Nat} {ps : List Int32} (hp0 : ¬ vP V s = 0) (h : 0 < evP ps (vlM O V s)) : mldP O V ps s = wRt V (va_up (vR V) s (vR V s ^^^ stpB (evP ps (vlM O V s)))) := by rw [mldP, if_neg hp0, if_pos h]
set_option maxRecDepth 4000 in
theorem l_mld93 (hM6 : OM σ O) (hw6 : RowM e (hA σ mRo) b O V) (hb : b ≤ 34) {s : Nat} (hs : s < aS O) (hp0 : ¬ vP V s = 0) {ps : List Int32} {p : Nat} (hl6 : hI σ M0 6 = nI p) (hg : hgt 0 ps = some 1) (hok : ∀ t ∈ ps, okSt false t) (hpl : p + (encL false ps).length < 1400) (hcd : ∀ i, i < (encL false ps ++ [0]).length → hA σ mCd (p + i) = (encL false ps ++ [0]).getD i 0) (hTo : ∀ q, q < 6 → (false = true → q < 5) → hA σ mTo (slt false q) = vlM O V s q) : Ok Γ 4 0 0 mX9_mouldsOn 93 [some (.ref M0), some (.int (nI b)), some (.int (nI s)), none] [] σ (rV (fun σ' => RowM e (hA σ' mRo) b O (mldP O V ps s) ∧ FrB b σ σ')) := by
  have hs9 := hM6.2.1.1
  refine p_aload_n 0 94 rfl rfl dX9_mouldsOn_93 rfl ?_
  refine p_aload_n 0 95 rfl rfl dX9_mouldsOn_94 rfl ?_
  refine p_getIE 9 6 98 rfl dX9_mouldsOn_95 fl_X9_13 rfl rfl hl6 ?_
  refine p_cV1x 0 0 101 rfl dX9_mouldsOn_98 (c_reckons (w := false) (vals := vlM O V s) hM6.1 hTo hg hok hpl hcd) ml_X9_341 vl_X9_reckons rfl (by decide) rfl (Nat.le_of_ble_eq_true rfl) (Nat.le_of_ble_eq_true rfl) (Nat.le_of_ble_eq_true rfl) (Nat.le_of_ble_eq_true rfl) rfl ?_
  intro v σ1 hp1
  obtain ⟨hv1, f1, hf1⟩ := hp1
  subst hv1
  subst hf1
  refine p_ist_n3 102 rfl rfl dX9_mouldsOn_101 (Nat.le_of_ble_eq_true rfl) rfl ?_
  refine p_iload_n 3 103 rfl rfl dX9_mouldsOn_102 rfl ?_
  refine p_if_le 128 106 rfl rfl dX9_mouldsOn_103 (fun h103 => ?_) (fun h103 => ?_)
  · exact p_vret dX9_mouldsOn_128 rfl ⟨rfl, by rw [mldP_n hp0 (fun q => Int32.not_lt.mpr h103 q), sF_o (show mRo ≠ mPi by decide)]; exact hw6, FrB.told (Fr.sF (by simp))⟩
  · have hev : 0 < evP ps (vlM O V s) := Int32.not_le.mp h103
    refine p_aload_n 0 107 rfl rfl dX9_mouldsOn_106 rfl ?_
    refine p_getR 9 44 110 rfl dX9_mouldsOn_107 fl_X9_66 rfl rfl (show hR (sF σ mPi f1) M0 44 = mRo from hM6.1 44) (by decide) ?_
    refine p_iload_n 1 111 rfl rfl dX9_mouldsOn_110 rfl ?_
    refine p_bipush (10) 113 rfl dX9_mouldsOn_111 rfl ?_
    refine p_iadd 114 rfl dX9_mouldsOn_113 ?_
    refine p_iload_n 2 115 rfl rfl dX9_mouldsOn_114 rfl ?_
    refine p_iadd 116 rfl dX9_mouldsOn_115 ?_
    rw [ix b 10 (s) 10 rfl]
    refine p_dup2 117 rfl dX9_mouldsOn_116 rfl rfl ?_
    refine p_ialdE 118 rfl dX9_mouldsOn_117 (i := b + 10 + s) rfl (by show b + 10 + s < 68; omega) ((congrFun (sF_o (show mRo ≠ mPi by decide)) _).trans (hw6.2.1 s hs).2.1) ?_
    refine p_iconst (1) 119 rfl dX9_mouldsOn_118 rfl ?_
    refine p_iload_n 3 120 rfl rfl dX9_mouldsOn_119 rfl ?_
    refine p_iconst (1) 121 rfl dX9_mouldsOn_120 rfl ?_
    refine p_isub 122 rfl dX9_mouldsOn_121 ?_
    refine p_bipush (8) 124 rfl dX9_mouldsOn_122 rfl ?_
    refine p_irem 125 rfl dX9_mouldsOn_124 (by decide) ?_
    refine p_ishl 126 rfl dX9_mouldsOn_125 ?_
    rw [stp_eq hev]
    refine p_ixor 127 rfl dX9_mouldsOn_126 ?_
    rw [nx_xor]
    refine p_iastE 128 rfl dX9_mouldsOn_127 (i := b + 10 + s) rfl (by show b + 10 + s < 68; omega)  ?_
    exact p_vret dX9_mouldsOn_128 rfl ⟨rfl, by rw [mldP_y hp0 hev, sA_s, sF_o (show mRo ≠ mPi by decide)]; exact hw6.rt (by omega) hs9, (FrB.told (Fr.sF (by simp))).tr (FrB.row (by omega))⟩
set_option maxRecDepth 8000 in
theorem l_mld0 (hM : OM σ O) (hw : RowM e (hA σ mRo) b O V) (hv : OkV O V) (hb : b ≤ 34) {s : Nat} (hs : s < aS O) (hp0 : ¬ vP V s = 0) {ps : List Int32} {p : Nat} (hl : hI σ M0 6 = nI p) (hcd : ∀ i, i < (encL false ps ++ [0]).length → hA σ mCd (p + i) = (encL false ps ++ [0]).getD i 0) {Q : PO → PH → Prop} (kk : ∀ τ6 : PH, OM τ6 O → RowM e (hA τ6 mRo) b O V → hI τ6 M0 6 = nI p → (∀ q, q < 6 → (false = true → q < 5) → hA τ6 mTo (slt false q) = vlM O V s q) → Fr [] [mTo, mPi] σ τ6 → (∀ i, i < (encL false ps ++ [0]).length → hA τ6 mCd (p + i) = (encL false ps ++ [0]).getD i 0) → Ok Γ 4 0 0 mX9_mouldsOn 93 [some (.ref M0), some (.int (nI b)), some (.int (nI s)), none] [] τ6 Q) : Ok Γ 4 0 0 mX9_mouldsOn 0 [some (.ref M0), some (.int (nI b)), some (.int (nI s)), none] [] σ Q := by
  have hO := hM.2.1
  have hs9 := hO.1
  have hc6 := hO.2.1
  have hw12 := hO.2.2.1
  have hk8 := hO.2.2.2.1
  have hp : vP V s < 100 := hvP hv (by omega)
  refine p_aload_n 0 1 rfl rfl dX9_mouldsOn_0 rfl ?_
  refine p_getR 9 47 4 rfl dX9_mouldsOn_1 fl_X9_72 rfl rfl (show hR _ M0 47 = mTo from hM.1 47) (by decide) ?_
  refine p_iconst (0) 5 rfl dX9_mouldsOn_4 rfl ?_
  refine p_aload_n 0 6 rfl rfl dX9_mouldsOn_5 rfl ?_
  refine p_getR 9 44 9 rfl dX9_mouldsOn_6 fl_X9_66 rfl rfl (show hR _ M0 44 = mRo from hM.1 44) (by decide) ?_
  refine p_iload_n 1 10 rfl rfl dX9_mouldsOn_9 rfl ?_
  refine p_iconst (1) 11 rfl dX9_mouldsOn_10 rfl ?_
  refine p_iadd 12 rfl dX9_mouldsOn_11 ?_
  refine p_iload_n 2 13 rfl rfl dX9_mouldsOn_12 rfl ?_
  refine p_iadd 14 rfl dX9_mouldsOn_13 ?_
  rw [ix b 1 (s) 1 rfl]
  refine p_ialdE 15 rfl dX9_mouldsOn_14 (i := b + 1 + s) rfl (by show b + 1 + s < 68; omega) ((hw.2.1 s hs).1 (Or.inr hp0)) ?_
  refine p_iastE 16 rfl dX9_mouldsOn_15 (i := 0) rfl (by decide) ?_
  have hF1 : Fr [] [mTo, mPi] σ (sA σ mTo 0 (nI (vL V s))) := Fr.sA (by simp)
  have hM1 : OM (sA σ mTo 0 (nI (vL V s))) O := hM.fr hF1 (by decide)
  have hw1 : RowM e (hA (sA σ mTo 0 (nI (vL V s))) mRo) b O V := by rw [hF1.2.2.2.2.2 mRo (by decide)]; exact hw
  have t1_0 : hA (sA σ mTo 0 (nI (vL V s))) mTo 0 = (nI (vL V s)) := by rw [sA_s, pk_us]
  generalize (sA σ mTo 0 (nI (vL V s))) = τ1 at hF1 hM1 hw1 t1_0 ⊢
  refine p_aload_n 0 17 rfl rfl dX9_mouldsOn_16 rfl ?_
  refine p_getR 9 47 20 rfl dX9_mouldsOn_17 fl_X9_72 rfl rfl (show hR τ1 M0 47 = mTo from hM1.1 47) (by decide) ?_
  refine p_iconst (1) 21 rfl dX9_mouldsOn_20 rfl ?_
  refine p_aload_n 0 22 rfl rfl dX9_mouldsOn_21 rfl ?_
  refine p_getR 9 44 25 rfl dX9_mouldsOn_22 fl_X9_66 rfl rfl (show hR τ1 M0 44 = mRo from hM1.1 44) (by decide) ?_
  refine p_iload_n 1 26 rfl rfl dX9_mouldsOn_25 rfl ?_
  refine p_bipush (10) 28 rfl dX9_mouldsOn_26 rfl ?_
  refine p_iadd 29 rfl dX9_mouldsOn_28 ?_
  refine p_iload_n 2 30 rfl rfl dX9_mouldsOn_29 rfl ?_
  refine p_iadd 31 rfl dX9_mouldsOn_30 ?_
  rw [ix b 10 (s) 10 rfl]
  refine p_ialdE 32 rfl dX9_mouldsOn_31 (i := b + 10 + s) rfl (by show b + 10 + s < 68; omega) (hw1.2.1 s hs).2.1 ?_
  refine p_iastE 33 rfl dX9_mouldsOn_32 (i := 1) rfl (by decide) ?_
  have hF2 : Fr [] [mTo, mPi] σ (sA τ1 mTo 1 (nI (vR V s))) := hF1.tr (Fr.sA (by simp))
  have hM2 : OM (sA τ1 mTo 1 (nI (vR V s))) O := hM.fr hF2 (by decide)
  have hw2 : RowM e (hA (sA τ1 mTo 1 (nI (vR V s))) mRo) b O V := by rw [hF2.2.2.2.2.2 mRo (by decide)]; exact hw
  have t2_0 : hA (sA τ1 mTo 1 (nI (vR V s))) mTo 0 = (nI (vL V s)) := by rw [sA_s, pk_un (by decide)]; exact t1_0
  have t2_1 : hA (sA τ1 mTo 1 (nI (vR V s))) mTo 1 = (nI (vR V s)) := by rw [sA_s, pk_us]
  generalize (sA τ1 mTo 1 (nI (vR V s))) = τ2 at hF2 hM2 hw2 t2_0 t2_1 ⊢
  refine p_aload_n 0 34 rfl rfl dX9_mouldsOn_33 rfl ?_
  refine p_getR 9 47 37 rfl dX9_mouldsOn_34 fl_X9_72 rfl rfl (show hR τ2 M0 47 = mTo from hM2.1 47) (by decide) ?_
  refine p_iconst (2) 38 rfl dX9_mouldsOn_37 rfl ?_
  refine p_iload_n 2 39 rfl rfl dX9_mouldsOn_38 rfl ?_
  refine p_iastE 40 rfl dX9_mouldsOn_39 (i := 2) rfl (by decide) ?_
  have hF3 : Fr [] [mTo, mPi] σ (sA τ2 mTo 2 (nI s)) := hF2.tr (Fr.sA (by simp))
  have hM3 : OM (sA τ2 mTo 2 (nI s)) O := hM.fr hF3 (by decide)
  have hw3 : RowM e (hA (sA τ2 mTo 2 (nI s)) mRo) b O V := by rw [hF3.2.2.2.2.2 mRo (by decide)]; exact hw
  have t3_0 : hA (sA τ2 mTo 2 (nI s)) mTo 0 = (nI (vL V s)) := by rw [sA_s, pk_un (by decide)]; exact t2_0
  have t3_1 : hA (sA τ2 mTo 2 (nI s)) mTo 1 = (nI (vR V s)) := by rw [sA_s, pk_un (by decide)]; exact t2_1
  have t3_2 : hA (sA τ2 mTo 2 (nI s)) mTo 2 = (nI s) := by rw [sA_s, pk_us]
  generalize (sA τ2 mTo 2 (nI s)) = τ3 at hF3 hM3 hw3 t3_0 t3_1 t3_2 ⊢
  refine p_aload_n 0 41 rfl rfl dX9_mouldsOn_40 rfl ?_
  refine p_getR 9 47 44 rfl dX9_mouldsOn_41 fl_X9_72 rfl rfl (show hR τ3 M0 47 = mTo from hM3.1 47) (by decide) ?_
  refine p_iconst (4) 45 rfl dX9_mouldsOn_44 rfl ?_
  refine p_aload_n 0 46 rfl rfl dX9_mouldsOn_45 rfl ?_
  refine p_iload_n 1 47 rfl rfl dX9_mouldsOn_46 rfl ?_
  refine p_iload_n 2 48 rfl rfl dX9_mouldsOn_47 rfl ?_
  refine p_cV2i 51 rfl dX9_mouldsOn_48 (c_sheetIn hM3 hw3 hv hb hs) ml_X9_325 vl_X9_sheetIn rfl (by decide) rfl (Nat.le_of_ble_eq_true rfl) (Nat.le_of_ble_eq_true rfl) rfl ?_
  refine p_iastE 52 rfl dX9_mouldsOn_51 (i := 4) rfl (by decide) ?_
  have hF4 : Fr [] [mTo, mPi] σ (sA τ3 mTo 4 (pI (tOf O V s 0))) := hF3.tr (Fr.sA (by simp))
  have hM4 : OM (sA τ3 mTo 4 (pI (tOf O V s 0))) O := hM.fr hF4 (by decide)
  have hw4 : RowM e (hA (sA τ3 mTo 4 (pI (tOf O V s 0))) mRo) b O V := by rw [hF4.2.2.2.2.2 mRo (by decide)]; exact hw
  have t4_0 : hA (sA τ3 mTo 4 (pI (tOf O V s 0))) mTo 0 = (nI (vL V s)) := by rw [sA_s, pk_un (by decide)]; exact t3_0
  have t4_1 : hA (sA τ3 mTo 4 (pI (tOf O V s 0))) mTo 1 = (nI (vR V s)) := by rw [sA_s, pk_un (by decide)]; exact t3_1
  have t4_2 : hA (sA τ3 mTo 4 (pI (tOf O V s 0))) mTo 2 = (nI s) := by rw [sA_s, pk_un (by decide)]; exact t3_2
  have t4_4 : hA (sA τ3 mTo 4 (pI (tOf O V s 0))) mTo 4 = (pI (tOf O V s 0)) := by rw [sA_s, pk_us]
  generalize (sA τ3 mTo 4 (pI (tOf O V s 0))) = τ4 at hF4 hM4 hw4 t4_0 t4_1 t4_2 t4_4 ⊢
  refine p_aload_n 0 53 rfl rfl dX9_mouldsOn_52 rfl ?_
  refine p_getR 9 47 56 rfl dX9_mouldsOn_53 fl_X9_72 rfl rfl (show hR τ4 M0 47 = mTo from hM4.1 47) (by decide) ?_
  refine p_iconst (3) 57 rfl dX9_mouldsOn_56 rfl ?_
  refine p_aload_n 0 58 rfl rfl dX9_mouldsOn_57 rfl ?_
  refine p_getR 9 44 61 rfl dX9_mouldsOn_58 fl_X9_66 rfl rfl (show hR τ4 M0 44 = mRo from hM4.1 44) (by decide) ?_
  refine p_iload_n 1 62 rfl rfl dX9_mouldsOn_61 rfl ?_
  refine p_bipush (19) 64 rfl dX9_mouldsOn_62 rfl ?_
  refine p_iadd 65 rfl dX9_mouldsOn_64 ?_
  refine p_iload_n 2 66 rfl rfl dX9_mouldsOn_65 rfl ?_
  refine p_iadd 67 rfl dX9_mouldsOn_66 ?_
  rw [ix b 19 (s) 19 rfl]
  refine p_ialdE 68 rfl dX9_mouldsOn_67 (i := b + 19 + s) rfl (by show b + 19 + s < 68; omega) (hw4.2.1 s hs).2.2 ?_
  refine p_bipush (10) 70 rfl dX9_mouldsOn_68 rfl ?_
  refine p_icmp_lt 77 73 rfl rfl dX9_mouldsOn_70 (fun h70 => ?_) (fun h70 => ?_)
  · refine p_iconst (0) 78 rfl dX9_mouldsOn_77 rfl ?_
    rw [show (0 : Int32) = (if 5 ≤ vP V s then (1 : Int32) else 0) from (if_neg (fun q => by have := (atI_lt hp).mp h70; omega)).symm]
    refine p_iastE 79 rfl dX9_mouldsOn_78 (i := 3) rfl (by decide) ?_
    have hF5 : Fr [] [mTo, mPi] σ (sA τ4 mTo 3 (if 5 ≤ vP V s then (1 : Int32) else 0)) := hF4.tr (Fr.sA (by simp))
    have hM5 : OM (sA τ4 mTo 3 (if 5 ≤ vP V s then (1 : Int32) else 0)) O := hM.fr hF5 (by decide)
    have hw5 : RowM e (hA (sA τ4 mTo 3 (if 5 ≤ vP V s then (1 : Int32) else 0)) mRo) b O V := by rw [hF5.2.2.2.2.2 mRo (by decide)]; exact hw
    have t5_0 : hA (sA τ4 mTo 3 (if 5 ≤ vP V s then (1 : Int32) else 0)) mTo 0 = (nI (vL V s)) := by rw [sA_s, pk_un (by decide)]; exact t4_0
    have t5_1 : hA (sA τ4 mTo 3 (if 5 ≤ vP V s then (1 : Int32) else 0)) mTo 1 = (nI (vR V s)) := by rw [sA_s, pk_un (by decide)]; exact t4_1
    have t5_2 : hA (sA τ4 mTo 3 (if 5 ≤ vP V s then (1 : Int32) else 0)) mTo 2 = (nI s) := by rw [sA_s, pk_un (by decide)]; exact t4_2
    have t5_4 : hA (sA τ4 mTo 3 (if 5 ≤ vP V s then (1 : Int32) else 0)) mTo 4 = (pI (tOf O V s 0)) := by rw [sA_s, pk_un (by decide)]; exact t4_4
    have t5_3 : hA (sA τ4 mTo 3 (if 5 ≤ vP V s then (1 : Int32) else 0)) mTo 3 = (if 5 ≤ vP V s then (1 : Int32) else 0) := by rw [sA_s, pk_us]
    generalize (sA τ4 mTo 3 (if 5 ≤ vP V s then (1 : Int32) else 0)) = τ5 at hF5 hM5 hw5 t5_0 t5_1 t5_2 t5_4 t5_3 ⊢
    refine p_aload_n 0 80 rfl rfl dX9_mouldsOn_79 rfl ?_
    refine p_getR 9 47 83 rfl dX9_mouldsOn_80 fl_X9_72 rfl rfl (show hR τ5 M0 47 = mTo from hM5.1 47) (by decide) ?_
    refine p_iconst (5) 84 rfl dX9_mouldsOn_83 rfl ?_
    refine p_aload_n 0 85 rfl rfl dX9_mouldsOn_84 rfl ?_
    refine p_getR 9 44 88 rfl dX9_mouldsOn_85 fl_X9_66 rfl rfl (show hR τ5 M0 44 = mRo from hM5.1 44) (by decide) ?_
    refine p_iload_n 1 89 rfl rfl dX9_mouldsOn_88 rfl ?_
    refine p_iconst (0) 90 rfl dX9_mouldsOn_89 rfl ?_
    refine p_iadd 91 rfl dX9_mouldsOn_90 ?_
    rw [show nI b + 0 = nI b from nI_add b 0]
    refine p_ialdE 92 rfl dX9_mouldsOn_91 (i := b) rfl (by show b < 68; omega) hw5.1 ?_
    refine p_iastE 93 rfl dX9_mouldsOn_92 (i := 5) rfl (by decide) ?_
    have hF6 : Fr [] [mTo, mPi] σ (sA τ5 mTo 5 (nI (vD V))) := hF5.tr (Fr.sA (by simp))
    have hM6 : OM (sA τ5 mTo 5 (nI (vD V))) O := hM.fr hF6 (by decide)
    have hw6 : RowM e (hA (sA τ5 mTo 5 (nI (vD V))) mRo) b O V := by rw [hF6.2.2.2.2.2 mRo (by decide)]; exact hw
    have t6_0 : hA (sA τ5 mTo 5 (nI (vD V))) mTo 0 = (nI (vL V s)) := by rw [sA_s, pk_un (by decide)]; exact t5_0
    have t6_1 : hA (sA τ5 mTo 5 (nI (vD V))) mTo 1 = (nI (vR V s)) := by rw [sA_s, pk_un (by decide)]; exact t5_1
    have t6_2 : hA (sA τ5 mTo 5 (nI (vD V))) mTo 2 = (nI s) := by rw [sA_s, pk_un (by decide)]; exact t5_2
    have t6_4 : hA (sA τ5 mTo 5 (nI (vD V))) mTo 4 = (pI (tOf O V s 0)) := by rw [sA_s, pk_un (by decide)]; exact t5_4
    have t6_3 : hA (sA τ5 mTo 5 (nI (vD V))) mTo 3 = (if 5 ≤ vP V s then (1 : Int32) else 0) := by rw [sA_s, pk_un (by decide)]; exact t5_3
    have t6_5 : hA (sA τ5 mTo 5 (nI (vD V))) mTo 5 = (nI (vD V)) := by rw [sA_s, pk_us]
    generalize (sA τ5 mTo 5 (nI (vD V))) = τ6 at hF6 hM6 hw6 t6_0 t6_1 t6_2 t6_4 t6_3 t6_5 ⊢
    have hTo : ∀ q, q < 6 → (false = true → q < 5) → hA τ6 mTo (slt false q) = vlM O V s q := by
      intro q h6 _
      have : q = 0 ∨ q = 1 ∨ q = 2 ∨ q = 3 ∨ q = 4 ∨ q = 5 := by omega
      rcases this with rfl | rfl | rfl | rfl | rfl | rfl
      · exact t6_4
      · exact t6_5
      · exact t6_0
      · exact t6_1
      · exact t6_2
      · exact t6_3
    have hl6 : hI τ6 M0 6 = nI p := (hF6.2.1 M0 6 (by simp)).trans hl
    have hcd6 : ∀ i, i < (encL false ps ++ [0]).length → hA τ6 mCd (p + i) = (encL false ps ++ [0]).getD i 0 := fun i hi => by rw [hF6.2.2.2.2.2 mCd (by decide)]; exact hcd i hi
    exact kk τ6 hM6 hw6 hl6 hTo hF6 hcd6
  · refine p_iconst (1) 74 rfl dX9_mouldsOn_73 rfl ?_
    refine p_goto 78 rfl dX9_mouldsOn_74 ?_
    rw [show (1 : Int32) = (if 5 ≤ vP V s then (1 : Int32) else 0) from (if_pos ((Nat.lt_or_ge (vP V s) 5).elim (fun q => absurd ((atI_lt hp).mpr q) h70) id)).symm]
    refine p_iastE 79 rfl dX9_mouldsOn_78 (i := 3) rfl (by decide) ?_
    have hF5 : Fr [] [mTo, mPi] σ (sA τ4 mTo 3 (if 5 ≤ vP V s then (1 : Int32) else 0)) := hF4.tr (Fr.sA (by simp))
    have hM5 : OM (sA τ4 mTo 3 (if 5 ≤ vP V s then (1 : Int32) else 0)) O := hM.fr hF5 (by decide)
    have hw5 : RowM e (hA (sA τ4 mTo 3 (if 5 ≤ vP V s then (1 : Int32) else 0)) mRo) b O V := by rw [hF5.2.2.2.2.2 mRo (by decide)]; exact hw
    have t5_0 : hA (sA τ4 mTo 3 (if 5 ≤ vP V s then (1 : Int32) else 0)) mTo 0 = (nI (vL V s)) := by rw [sA_s, pk_un (by decide)]; exact t4_0
    have t5_1 : hA (sA τ4 mTo 3 (if 5 ≤ vP V s then (1 : Int32) else 0)) mTo 1 = (nI (vR V s)) := by rw [sA_s, pk_un (by decide)]; exact t4_1
    have t5_2 : hA (sA τ4 mTo 3 (if 5 ≤ vP V s then (1 : Int32) else 0)) mTo 2 = (nI s) := by rw [sA_s, pk_un (by decide)]; exact t4_2
    have t5_4 : hA (sA τ4 mTo 3 (if 5 ≤ vP V s then (1 : Int32) else 0)) mTo 4 = (pI (tOf O V s 0)) := by rw [sA_s, pk_un (by decide)]; exact t4_4
    have t5_3 : hA (sA τ4 mTo 3 (if 5 ≤ vP V s then (1 : Int32) else 0)) mTo 3 = (if 5 ≤ vP V s then (1 : Int32) else 0) := by rw [sA_s, pk_us]
    generalize (sA τ4 mTo 3 (if 5 ≤ vP V s then (1 : Int32) else 0)) = τ5 at hF5 hM5 hw5 t5_0 t5_1 t5_2 t5_4 t5_3 ⊢
    refine p_aload_n 0 80 rfl rfl dX9_mouldsOn_79 rfl ?_
    refine p_getR 9 47 83 rfl dX9_mouldsOn_80 fl_X9_72 rfl rfl (show hR τ5 M0 47 = mTo from hM5.1 47) (by decide) ?_
    refine p_iconst (5) 84 rfl dX9_mouldsOn_83 rfl ?_
    refine p_aload_n 0 85 rfl rfl dX9_mouldsOn_84 rfl ?_
    refine p_getR 9 44 88 rfl dX9_mouldsOn_85 fl_X9_66 rfl rfl (show hR τ5 M0 44 = mRo from hM5.1 44) (by decide) ?_
    refine p_iload_n 1 89 rfl rfl dX9_mouldsOn_88 rfl ?_
    refine p_iconst (0) 90 rfl dX9_mouldsOn_89 rfl ?_
    refine p_iadd 91 rfl dX9_mouldsOn_90 ?_
    rw [show nI b + 0 = nI b from nI_add b 0]
    refine p_ialdE 92 rfl dX9_mouldsOn_91 (i := b) rfl (by show b < 68; omega) hw5.1 ?_
    refine p_iastE 93 rfl dX9_mouldsOn_92 (i := 5) rfl (by decide) ?_
    have hF6 : Fr [] [mTo, mPi] σ (sA τ5 mTo 5 (nI (vD V))) := hF5.tr (Fr.sA (by simp))
    have hM6 : OM (sA τ5 mTo 5 (nI (vD V))) O := hM.fr hF6 (by decide)
    have hw6 : RowM e (hA (sA τ5 mTo 5 (nI (vD V))) mRo) b O V := by rw [hF6.2.2.2.2.2 mRo (by decide)]; exact hw
    have t6_0 : hA (sA τ5 mTo 5 (nI (vD V))) mTo 0 = (nI (vL V s)) := by rw [sA_s, pk_un (by decide)]; exact t5_0
    have t6_1 : hA (sA τ5 mTo 5 (nI (vD V))) mTo 1 = (nI (vR V s)) := by rw [sA_s, pk_un (by decide)]; exact t5_1
    have t6_2 : hA (sA τ5 mTo 5 (nI (vD V))) mTo 2 = (nI s) := by rw [sA_s, pk_un (by decide)]; exact t5_2
    have t6_4 : hA (sA τ5 mTo 5 (nI (vD V))) mTo 4 = (pI (tOf O V s 0)) := by rw [sA_s, pk_un (by decide)]; exact t5_4
    have t6_3 : hA (sA τ5 mTo 5 (nI (vD V))) mTo 3 = (if 5 ≤ vP V s then (1 : Int32) else 0) := by rw [sA_s, pk_un (by decide)]; exact t5_3
    have t6_5 : hA (sA τ5 mTo 5 (nI (vD V))) mTo 5 = (nI (vD V)) := by rw [sA_s, pk_us]
    generalize (sA τ5 mTo 5 (nI (vD V))) = τ6 at hF6 hM6 hw6 t6_0 t6_1 t6_2 t6_4 t6_3 t6_5 ⊢
    have hTo : ∀ q, q < 6 → (false = true → q < 5) → hA τ6 mTo (slt false q) = vlM O V s q := by
      intro q h6 _
      have : q = 0 ∨ q = 1 ∨ q = 2 ∨ q = 3 ∨ q = 4 ∨ q = 5 := by omega
      rcases this with rfl | rfl | rfl | rfl | rfl | rfl
      · exact t6_4
      · exact t6_5
      · exact t6_0
      · exact t6_1
      · exact t6_2
      · exact t6_3
    have hl6 : hI τ6 M0 6 = nI p := (hF6.2.1 M0 6 (by simp)).trans hl
    have hcd6 : ∀ i, i < (encL false ps ++ [0]).length → hA τ6 mCd (p + i) = (encL false ps ++ [0]).getD i 0 := fun i hi => by rw [hF6.2.2.2.2.2 mCd (by decide)]; exact hcd i hi
    exact kk τ6 hM6 hw6 hl6 hTo hF6 hcd6
theorem c_mouldsOn (hM : OM σ O) (hw : RowM e (hA σ mRo) b O V) (hv : OkV O V) (hb : b ≤ 34) {s : Nat} (hs : s < aS O) (hp0 : ¬ vP V s = 0) {ps : List Int32} (hy : aM O = some ps) : CallOk Γ 4 0 0 mX9_mouldsOn [.ref M0, .int (nI b), .int (nI s)] σ (rV (fun σ' => RowM e (hA σ' mRo) b O (mldP O V ps s) ∧ FrB b σ σ')) := by
  have hr := hM.2.2.2.2.2.2
  rw [hy] at hr
  obtain ⟨hg, hok, p, hl, hpl, hcd⟩ := hr
  refine p_enter rfl rfl (Nat.le_of_ble_eq_true rfl) rfl ?_
  refine l_mld0 hM hw hv hb hs hp0 hl hcd (fun τ6 hM6 hw6 hl6 hTo hF6 hcd6 => ?_)
  have h := l_mld93 (Γ := Γ) hM6 hw6 hb hs hp0 hl6 hg hok hpl hcd6 hTo
  exact Ok.mono h (fun o σ' q => ⟨q.1, q.2.1, (FrB.told hF6).tr q.2.2⟩)
set_option maxRecDepth 8000 in
theorem l_dayT (hM : OM σ O) (hv : OkV O V) (hb : b ≤ 34) {Q : PO → PH → Prop} (kk : ∀ (σ2 : PH) (x2 : Int32), RowM e (hA σ2 mRo) b O (layF O 4 V) → FrB b σ σ2 → Ok Γ 6 0 0 mX9_dayGoes 48 [some (.ref M0), some (.int (nI b)), some (.int x2)] [] σ2 Q) : ∀ (n i : Nat) (σ1 : PH), i + n = 4 → RowM e (hA σ1 mRo) b O (layF O i V) → FrB b σ σ1 → Ok Γ 6 0 0 mX9_dayGoes 2 [some (.ref M0), some (.int (nI b)), some (.int (nI i))] [] σ1 Q := by
  have hO := hM.2.1
  have hs9 := hO.1
  have hc6 := hO.2.1
  have hw12 := hO.2.2.1
  have hk8 := hO.2.2.2.1
  intro n
  induction n with
  | zero =>
    intro i σ1 hi hw1 hF
    have hM1 := hM.frB hF
    have hv1 := layF_ok hO hv i
    refine p_iload_n 2 3 rfl rfl dX9_dayGoes_2 rfl ?_
    refine p_iconst (4) 4 rfl dX9_dayGoes_3 rfl ?_
    refine p_icmp_ge 48 7 rfl rfl dX9_dayGoes_4 (fun h4 => ?_) (fun h4 => absurd (nI_le (a := 4) (b := i) (by omega) (by omega)) h4)
    rw [show i = 4 by omega] at hw1
    exact kk σ1 _ hw1 hF
  | succ n ih =>
    intro i σ1 hi hw1 hF
    have hM1 := hM.frB hF
    have hv1 := layF_ok hO hv i
    refine p_iload_n 2 3 rfl rfl dX9_dayGoes_2 rfl ?_
    refine p_iconst (4) 4 rfl dX9_dayGoes_3 rfl ?_
    refine p_icmp_ge 48 7 rfl rfl dX9_dayGoes_4 (fun h4 => absurd h4 (nI_ge (a := i) (b := 4) (by omega) (by omega))) (fun h4 => ?_)
    refine p_aload_n 0 8 rfl rfl dX9_dayGoes_7 rfl ?_
    refine p_iload_n 1 9 rfl rfl dX9_dayGoes_8 rfl ?_
    refine p_iload_n 2 10 rfl rfl dX9_dayGoes_9 rfl ?_
    refine p_cV2i 13 rfl dX9_dayGoes_10 (c_clerksAt hM1 hw1 hv1 hb (by omega)) ml_X9_335 vl_X9_clerksAt rfl (by decide) rfl (Nat.le_of_ble_eq_true rfl) (Nat.le_of_ble_eq_true rfl) rfl ?_
    refine p_if_eq 42 16 rfl rfl dX9_dayGoes_13 (fun h13 => ?_) (fun h13 => ?_)
    · refine p_inc_2 45 rfl dX9_dayGoes_42 (1) rfl (Nat.le_of_ble_eq_true rfl) rfl ?_
      refine p_goto 2 rfl dX9_dayGoes_45 ?_
      have hz : ¬ (clIn O (layF O i V) i ≠ 0 ∧ lays O (layF O i V) i = true) := fun q => (nI_ne0 (Nat.pos_of_ne_zero q.1) (Nat.lt_trans (clIn_l hO _ _) (by decide))) h13
      have el : layF O (i + 1) V = layF O i V := if_neg hz
      rw [nI_1]
      exact ih (i + 1) σ1 (by omega) (by rw [el]; exact hw1) hF
    · refine p_aload_n 0 17 rfl rfl dX9_dayGoes_16 rfl ?_
      refine p_iload_n 1 18 rfl rfl dX9_dayGoes_17 rfl ?_
      refine p_iload_n 2 19 rfl rfl dX9_dayGoes_18 rfl ?_
      refine p_cV2x 0 0 22 rfl dX9_dayGoes_19 (c_doesLay hM1 hw1 hv1 hb (by omega)) ml_X9_344 vl_X9_doesLay rfl (by decide) rfl (Nat.le_of_ble_eq_true rfl) (Nat.le_of_ble_eq_true rfl) (Nat.le_of_ble_eq_true rfl) (Nat.le_of_ble_eq_true rfl) rfl ?_
      intro v σ2 hp2
      obtain ⟨hv2, hF2⟩ := hp2
      subst hv2
      have hB2 : FrB b σ1 σ2 := FrB.told hF2
      have hM2 := hM1.frB hB2
      have hw2 : RowM e (hA σ2 mRo) b O (layF O i V) := by rw [hF2.2.2.2.2.2 mRo (by decide)]; exact hw1
      refine p_if_eq 42 25 rfl rfl dX9_dayGoes_22 (fun h22 => ?_) (fun h22 => ?_)
      · refine p_inc_2 45 rfl dX9_dayGoes_42 (1) rfl (Nat.le_of_ble_eq_true rfl) rfl ?_
        refine p_goto 2 rfl dX9_dayGoes_45 ?_
        have hnz : clIn O (layF O i V) i ≠ 0 := fun q => h13 (congrArg nI q)
        have hb1 : lays O (layF O i V) i = false := by simpa only [b2i_eq0, b2i_1, Bool.not_eq_true, Decidable.not_not] using h22
        have el : layF O (i + 1) V = layF O i V := if_neg (fun q => by rw [hb1] at q; exact absurd q.2 (by decide))
        rw [nI_1]
        exact ih (i + 1) σ2 (by omega) (by rw [el]; exact hw2) (hF.tr hB2)
      · refine p_aload_n 0 26 rfl rfl dX9_dayGoes_25 rfl ?_
        refine p_iload_n 1 27 rfl rfl dX9_dayGoes_26 rfl ?_
        refine p_aload_n 0 28 rfl rfl dX9_dayGoes_27 rfl ?_
        refine p_iload_n 1 29 rfl rfl dX9_dayGoes_28 rfl ?_
        refine p_iload_n 2 30 rfl rfl dX9_dayGoes_29 rfl ?_
        refine p_cV2i 33 rfl dX9_dayGoes_30 (c_clerksAt hM2 hw2 hv1 hb (by omega)) ml_X9_335 vl_X9_clerksAt rfl (by decide) rfl (Nat.le_of_ble_eq_true rfl) (Nat.le_of_ble_eq_true rfl) rfl ?_
        refine p_aload_n 0 34 rfl rfl dX9_dayGoes_33 rfl ?_
        refine p_iload_n 1 35 rfl rfl dX9_dayGoes_34 rfl ?_
        refine p_iload_n 2 36 rfl rfl dX9_dayGoes_35 rfl ?_
        refine p_cV2i 39 rfl dX9_dayGoes_36 (c_showsIn hM2 hw2 hv1 hb (by omega)) ml_X9_347 vl_X9_showsIn rfl (by decide) rfl (Nat.le_of_ble_eq_true rfl) (Nat.le_of_ble_eq_true rfl) rfl ?_
        refine p_cV3v 0 0 42 rfl dX9_dayGoes_39 (c_learns hM2 hw2 hb (Nat.lt_trans (clIn_l hO _ _) (by decide))) ml_X9_350 vl_X9_learns rfl (by decide) rfl (Nat.le_of_ble_eq_true rfl) (Nat.le_of_ble_eq_true rfl) (Nat.le_of_ble_eq_true rfl) (Nat.le_of_ble_eq_true rfl) rfl ?_
        intro σ3 hp3
        refine p_inc_2 45 rfl dX9_dayGoes_42 (1) rfl (Nat.le_of_ble_eq_true rfl) rfl ?_
        refine p_goto 2 rfl dX9_dayGoes_45 ?_
        have hnz : clIn O (layF O i V) i ≠ 0 := fun q => h13 (congrArg nI q)
        have hb1 : lays O (layF O i V) i = true := by simpa only [b2i_eq0, b2i_1, Decidable.not_not, Bool.not_eq_true, Bool.not_eq_false] using h22
        have el : layF O (i + 1) V = tch O (layF O i V) (clIn O (layF O i V) i) (wOf O (layF O i V) (shIn O (layF O i V) i 0)) := if_pos ⟨hnz, hb1⟩
        rw [nI_1]
        exact ih (i + 1) σ3 (by omega) (by rw [el]; exact hp3.1) ((hF.tr hB2).tr hp3.2)
set_option maxRecDepth 4000 in
theorem l_dayE (hM : OM σ O) (hb : b ≤ 34) {σ1 : PH} {U W : AW} {x2 : Option Value} (hw1 : RowM e (hA σ1 mRo) b O U) (hF : FrB b σ σ1) (hU : wDy (mldA O W) (vD W + 1) = wDy U (vD U + 1)) : Ok Γ 6 0 0 mX9_dayGoes 87 [some (.ref M0), some (.int (nI b)), x2] [] σ1 (rV (fun σ' => RowM e (hA σ' mRo) b O (wDy (mldA O W) (vD W + 1)) ∧ FrB b σ σ')) := by
  have hM1 := hM.frB hF
  refine p_aload_n 0 88 rfl rfl dX9_dayGoes_87 rfl ?_
  refine p_getR 9 44 91 rfl dX9_dayGoes_88 fl_X9_66 rfl rfl (show hR _ M0 44 = mRo from hM1.1 44) (by decide) ?_
  refine p_iload_n 1 92 rfl rfl dX9_dayGoes_91 rfl ?_
  refine p_iconst (0) 93 rfl dX9_dayGoes_92 rfl ?_
  refine p_iadd 94 rfl dX9_dayGoes_93 ?_
  rw [show nI b + 0 = nI b from nI_add b 0]
  refine p_dup2 95 rfl dX9_dayGoes_94 rfl rfl ?_
  refine p_ialdE 96 rfl dX9_dayGoes_95 (i := b) rfl (by show b < 68; omega) hw1.1 ?_
  refine p_iconst (1) 97 rfl dX9_dayGoes_96 rfl ?_
  refine p_iadd 98 rfl dX9_dayGoes_97 ?_
  rw [nI_1]
  refine p_iastE 99 rfl dX9_dayGoes_98 (i := b) rfl (by show b < 68; omega)  ?_
  exact p_vret dX9_dayGoes_99 rfl ⟨rfl, by rw [sA_s]; have := hw1.dy (x := vD U + 1); rw [hU]; exact this, hF.tr (FrB.row (by omega))⟩
theorem vD_mld {O : AO} {ps : List Int32} {V : AW} : ∀ n, vD (mldF O ps n V) = vD V := by
  intro n
  induction n with
  | zero => rfl
  | succ n ih =>
    show vD (mldP O (mldF O ps n V) ps n) = _
    rw [← ih]
    unfold mldP
    split
    · rfl
    · split <;> rfl
set_option maxRecDepth 8000 in
theorem l_dayM {W : AW} (hM : OM σ O) (hv : OkV O W) (hb : b ≤ 34) {ps : List Int32} (hy : aM O = some ps) {p : Nat} (hl : hI σ M0 6 = nI p) (hpl : p < 1400) : ∀ (n i : Nat) (σ1 : PH), i + n = aS O → RowM e (hA σ1 mRo) b O (mldF O ps i W) → FrB b σ σ1 → Ok Γ 6 0 0 mX9_dayGoes 50 [some (.ref M0), some (.int (nI b)), some (.int (nI i))] [] σ1 (rV (fun σ' => RowM e (hA σ' mRo) b O (wDy (mldA O W) (vD W + 1)) ∧ FrB b σ σ')) := by
  have hO := hM.2.1
  have hs9 := hO.1
  have hc6 := hO.2.1
  have hw12 := hO.2.2.1
  have hk8 := hO.2.2.2.1
  intro n
  induction n with
  | zero =>
    intro i σ1 hi hw1 hF
    have hM1 := hM.frB hF
    have hv1 := mldF_ok (ps := ps) hv i
    have hl1 : hI σ1 M0 6 = nI p := (hF.1.2.1 M0 6 (by simp)).trans hl
    refine p_iload_n 2 51 rfl rfl dX9_dayGoes_50 rfl ?_
    refine p_aload_n 0 52 rfl rfl dX9_dayGoes_51 rfl ?_
    refine p_getIE 9 1 55 rfl dX9_dayGoes_52 fl_X9_280 rfl rfl hM1.2.2.1.1 ?_
    refine p_icmp_ge 87 58 rfl rfl dX9_dayGoes_55 (fun h55 => ?_) (fun h55 => absurd (nI_le (a := aS O) (b := i) (by omega) (by omega)) h55)
    rw [show i = aS O by omega] at hw1
    exact l_dayE hM hb hw1 hF (by rw [show mldA O W = mldF O ps (aS O) W by unfold mldA; rw [hy], vD_mld])
  | succ n ih =>
    intro i σ1 hi hw1 hF
    have hM1 := hM.frB hF
    have hv1 := mldF_ok (ps := ps) hv i
    have hl1 : hI σ1 M0 6 = nI p := (hF.1.2.1 M0 6 (by simp)).trans hl
    refine p_iload_n 2 51 rfl rfl dX9_dayGoes_50 rfl ?_
    refine p_aload_n 0 52 rfl rfl dX9_dayGoes_51 rfl ?_
    refine p_getIE 9 1 55 rfl dX9_dayGoes_52 fl_X9_280 rfl rfl hM1.2.2.1.1 ?_
    refine p_icmp_ge 87 58 rfl rfl dX9_dayGoes_55 (fun h55 => absurd h55 (nI_ge (a := i) (b := aS O) (by omega) (by omega))) (fun h55 => ?_)
    refine p_aload_n 0 59 rfl rfl dX9_dayGoes_58 rfl ?_
    refine p_getIE 9 6 62 rfl dX9_dayGoes_59 fl_X9_13 rfl rfl hl1 ?_
    refine p_iconst (-1) 63 rfl dX9_dayGoes_62 rfl ?_
    refine p_icmp_eq 87 66 rfl rfl dX9_dayGoes_63 (fun h63 => absurd h63 (nI_m1b (by omega))) (fun h63 => ?_)
    refine p_aload_n 0 67 rfl rfl dX9_dayGoes_66 rfl ?_
    refine p_iload_n 1 68 rfl rfl dX9_dayGoes_67 rfl ?_
    refine p_iload_n 2 69 rfl rfl dX9_dayGoes_68 rfl ?_
    refine p_cV2i 72 rfl dX9_dayGoes_69 (c_isBurnt hM1 hw1 hv1 hb (by omega)) ml_X9_319 vl_X9_isBurnt rfl (by decide) rfl (Nat.le_of_ble_eq_true rfl) (Nat.le_of_ble_eq_true rfl) rfl ?_
    refine p_if_ne 81 75 rfl rfl dX9_dayGoes_72 (fun h72 => ?_) (fun h72 => ?_)
    · refine p_inc_2 84 rfl dX9_dayGoes_81 (1) rfl (Nat.le_of_ble_eq_true rfl) rfl ?_
      refine p_goto 50 rfl dX9_dayGoes_84 ?_
      have g72 : (vP (mldF O ps i W) i == 0) = true := by simpa only [b2i_eq0, b2i_1, Decidable.not_not, Bool.not_eq_true, Bool.not_eq_false] using h72
      have el : mldF O ps (i + 1) W = mldF O ps i W := if_pos (by simpa using g72)
      rw [nI_1]
      exact ih (i + 1) σ1 (by omega) (by rw [el]; exact hw1) hF
    · have g72 : (vP (mldF O ps i W) i == 0) = false := by simpa only [b2i_eq0, b2i_1, Bool.not_eq_true, Decidable.not_not] using h72
      refine p_aload_n 0 76 rfl rfl dX9_dayGoes_75 rfl ?_
      refine p_iload_n 1 77 rfl rfl dX9_dayGoes_76 rfl ?_
      refine p_iload_n 2 78 rfl rfl dX9_dayGoes_77 rfl ?_
      refine p_cV2v 0 0 81 rfl dX9_dayGoes_78 (c_mouldsOn hM1 hw1 hv1 hb (by omega) (by simpa using g72) hy) ml_X9_354 vl_X9_mouldsOn rfl (by decide) rfl (Nat.le_of_ble_eq_true rfl) (Nat.le_of_ble_eq_true rfl) (Nat.le_of_ble_eq_true rfl) (Nat.le_of_ble_eq_true rfl) rfl ?_
      intro σ2 hp2
      refine p_inc_2 84 rfl dX9_dayGoes_81 (1) rfl (Nat.le_of_ble_eq_true rfl) rfl ?_
      refine p_goto 50 rfl dX9_dayGoes_84 ?_
      rw [nI_1]
      exact ih (i + 1) σ2 (by omega) hp2.1 (hF.tr hp2.2)
set_option maxRecDepth 4000 in
theorem l_dayN {W : AW} (hM : OM σ O) (hb : b ≤ 34) (hy : aM O = none) (hl : hI σ M0 6 = -1) {σ1 : PH} (hw1 : RowM e (hA σ1 mRo) b O W) (hF : FrB b σ σ1) : Ok Γ 6 0 0 mX9_dayGoes 50 [some (.ref M0), some (.int (nI b)), some (.int 0)] [] σ1 (rV (fun σ' => RowM e (hA σ' mRo) b O (wDy (mldA O W) (vD W + 1)) ∧ FrB b σ σ')) := by
  have hO := hM.2.1
  have hs9 := hO.1
  have hc6 := hO.2.1
  have hw12 := hO.2.2.1
  have hk8 := hO.2.2.2.1
  have hM1 := hM.frB hF
  have hl1 : hI σ1 M0 6 = -1 := (hF.1.2.1 M0 6 (by simp)).trans hl
  refine p_iload_n 2 51 rfl rfl dX9_dayGoes_50 rfl ?_
  refine p_aload_n 0 52 rfl rfl dX9_dayGoes_51 rfl ?_
  refine p_getIE 9 1 55 rfl dX9_dayGoes_52 fl_X9_280 rfl rfl hM1.2.2.1.1 ?_
  refine p_icmp_ge 87 58 rfl rfl dX9_dayGoes_55 (fun h55 => ?_) (fun h55 => ?_)
  · exact l_dayE hM hb hw1 hF (by rw [show mldA O W = W by unfold mldA; rw [hy]])
  · refine p_aload_n 0 59 rfl rfl dX9_dayGoes_58 rfl ?_
    refine p_getIE 9 6 62 rfl dX9_dayGoes_59 fl_X9_13 rfl rfl hl1 ?_
    refine p_iconst (-1) 63 rfl dX9_dayGoes_62 rfl ?_
    refine p_icmp_eq 87 66 rfl rfl dX9_dayGoes_63 (fun h63 => ?_) (fun h63 => absurd rfl h63)
    exact l_dayE hM hb hw1 hF (by rw [show mldA O W = W by unfold mldA; rw [hy]])
theorem vD_lay {O : AO} {V : AW} : ∀ n, vD (layF O n V) = vD V := by
  intro n
  induction n with
  | zero => rfl
  | succ n ih =>
    show vD (layT O (layF O n V) n) = _
    rw [← ih]
    unfold layT
    split <;> rfl
set_option maxRecDepth 4000 in
theorem c_dayGoes (hM : OM σ O) (hw : RowM e (hA σ mRo) b O V) (hv : OkV O V) (hb : b ≤ 34) : CallOk Γ 6 0 0 mX9_dayGoes [.ref M0, .int (nI b)] σ (rV (fun σ' => RowM e (hA σ' mRo) b O (dayF O V) ∧ FrB b σ σ')) := by
  have hO := hM.2.1
  have hs9 := hO.1
  have hc6 := hO.2.1
  have hw12 := hO.2.2.1
  have hk8 := hO.2.2.2.1
  have ed : dayF O V = wDy (mldA O (layF O 4 V)) (vD (layF O 4 V) + 1) := by rw [vD_lay]; rfl
  refine p_enter rfl rfl (Nat.le_of_ble_eq_true rfl) rfl ?_
  refine p_iconst (0) 1 rfl dX9_dayGoes_0 rfl ?_
  refine p_ist_n2 2 rfl rfl dX9_dayGoes_1 (Nat.le_of_ble_eq_true rfl) rfl ?_
  refine l_dayT hM hv hb (fun σ2 x2 hw2 hF2 => ?_) 4 0 σ (by omega) hw FrB.rf
  refine p_iconst (0) 49 rfl dX9_dayGoes_48 rfl ?_
  refine p_ist_n2 50 rfl rfl dX9_dayGoes_49 (Nat.le_of_ble_eq_true rfl) rfl ?_
  rcases hy : aM O with _ | ps
  · have hl : hI σ M0 6 = -1 := by have := hM.2.2.2.2.2.2; rw [hy] at this; exact this
    rw [ed]
    exact l_dayN hM hb hy hl hw2 hF2
  · have hr := hM.2.2.2.2.2.2
    rw [hy] at hr
    obtain ⟨p, hl, hpl, -⟩ := hr.2.2
    rw [ed]
    exact l_dayM hM (layF_ok hO hv 4) hb hy hl (by omega) (aS O) 0 σ2 (by omega) hw2 hF2
end C84
