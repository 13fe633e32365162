/-! ===== the reference: days ===== -/
/-- what stays of the reference when only rows, told and the pile are written -/
def sMf : List Nat := [mRo, mTo, mPi]
theorem OM.fr {σ σ' : PH} {O : AO} {X : List Nat} (h : OM σ O) (hf : Fr [] X σ σ') (hx : [mRl, mRd, mWl, mWr, mCd].all (fun r => !X.contains r) = true) : OM σ' O := by
  have e : ∀ r, r ∈ [mRl, mRd, mWl, mWr, mCd] → hA σ' r = hA σ r := fun r hr => hf.2.2.2.2.2 r (by have := List.all_eq_true.mp hx r hr; simpa using this)
  have eI : ∀ k, hI σ' M0 k = hI σ M0 k := fun k => hf.2.1 M0 k (by simp)
  obtain ⟨h1, h2, h3, h4, h5, h6, h7⟩ := h
  refine ⟨fun k => by rw [hf.2.2.2.1]; exact h1 k, h2, by rw [eI, eI, eI, eI]; exact h3, fun c hc => by rw [e mRl (by simp), e mRd (by simp)]; exact h4 c hc, fun k hk => by rw [e mWl (by simp), e mWr (by simp)]; exact h5 k hk, ?_, ?_⟩
  · unfold RuM at h6 ⊢; rw [eI, e mCd (by simp)]; exact h6
  · unfold RuM at h7 ⊢; rw [eI, e mCd (by simp)]; exact h7
theorem Fr.more {X Y : List Nat} {σ σ' : PH} (h : Fr [] X σ σ') (hx : X.all (fun r => Y.contains r) = true) : Fr [] Y σ σ' :=
  ⟨h.1, h.2.1, h.2.2.1, h.2.2.2.1, h.2.2.2.2.1, fun r hr => h.2.2.2.2.2 r (fun q => hr (by have := List.all_eq_true.mp hx r q; simpa using this))⟩
/-- written: the row at b, told, the pile -/
def FrB (b : Nat) (σ σ' : PH) : Prop := Fr [] [mRo, mTo, mPi] σ σ' ∧ ∀ k, k < b ∨ b + 34 ≤ k → hA σ' mRo k = hA σ mRo k
theorem FrB.rf {b : Nat} {σ : PH} : FrB b σ σ := ⟨Fr.rf, fun _ _ => rfl⟩
theorem FrB.tr {b : Nat} {σ σ1 σ2 : PH} (h : FrB b σ σ1) (g : FrB b σ1 σ2) : FrB b σ σ2 := ⟨h.1.tr g.1, fun k hk => (g.2 k hk).trans (h.2 k hk)⟩
theorem FrB.row {b k : Nat} {σ : PH} {x : Int32} (h : b ≤ k ∧ k < b + 34) : FrB b σ (sA σ mRo k x) := ⟨Fr.sA (by simp), fun j hj => by rw [sA_s, pk_un (by omega)]⟩
theorem FrB.told {b : Nat} {σ σ' : PH} (h : Fr [] [mTo, mPi] σ σ') : FrB b σ σ' := ⟨h.more (by decide), fun k _ => by rw [h.2.2.2.2.2 mRo (by decide)]⟩
theorem OM.frB {σ σ' : PH} {O : AO} {b : Nat} (h : OM σ O) (hf : FrB b σ σ') : OM σ' O := h.fr hf.1 (by decide)
section C83
variable {Γ : Gm} {σ : PH} {O : AO} {V : AW} {e : Bool} {b : Nat}
theorem clIn_l (h : OkO O) (V : AW) (t : Nat) : clIn O V t < 64 := Nat.lt_of_lt_of_le (setN_lt _ _) (Nat.pow_le_pow_right (by decide) h.2.1)
theorem shIn_l (h : OkO O) (V : AW) (t k : Nat) : shIn O V t k < 512 := Nat.lt_of_lt_of_le (setN_lt _ _) (Nat.pow_le_pow_right (by decide) h.1)
theorem wOf_l (h : OkO O) (V : AW) (m : Nat) : wOf O V m < 4096 := Nat.lt_of_lt_of_le (setN_lt _ _) (Nat.pow_le_pow_right (by decide) h.2.2.1)
theorem kBy_l (h : OkO O) (hv : OkV O V) (m : Nat) : kBy O V m < 4096 := orK_lt _ (fun c hc => hv.2.2.2 c (by have := h.2.1; omega))
theorem nI_m1b {s : Nat} (h : s < 100000) : nI s ≠ -1 := by
  intro e
  have := congrArg Int32.toInt e
  rw [nI_toInt (by omega)] at this
  exact absurd this (by show ¬ ((s : Int) = -1); omega)
set_option maxRecDepth 8000 in
theorem c_doesLay (hM : OM σ O) (hw : RowM e (hA σ mRo) b O V) (hv : OkV O V) (hb : b ≤ 34) {t : Nat} (ht : t < 20) : CallOk Γ 5 0 0 mX9_doesLay [.ref M0, .int (nI b), .int (nI t)] σ (rX (fun v σ' => v = b2i (lays O V t) ∧ Fr [] [mTo, mPi] σ σ')) := by
  have hO := hM.2.1
  have hs9 := hO.1
  have hc6 := hO.2.1
  have hw12 := hO.2.2.1
  have hk8 := hO.2.2.2.1
  rcases hy : aY O with _ | ps
  · have hl : hI σ M0 5 = -1 := by have := hM.2.2.2.2.2.1; rw [hy] at this; exact this
    refine p_enter rfl rfl (Nat.le_of_ble_eq_true rfl) rfl ?_
    refine p_aload_n 0 1 rfl rfl dX9_doesLay_0 rfl ?_
    refine p_getIE 9 5 4 rfl dX9_doesLay_1 fl_X9_9 rfl rfl hl ?_
    refine p_iconst (-1) 5 rfl dX9_doesLay_4 rfl ?_
    refine p_icmp_ne 10 8 rfl rfl dX9_doesLay_5 (fun h5 => absurd rfl h5) (fun h5 => ?_)
    refine p_iconst (1) 9 rfl dX9_doesLay_8 rfl ?_
    exact p_zret dX9_doesLay_9 rfl (by decide) ⟨_, rfl, by rw [show lays O V t = true by unfold lays; rw [hy]]; rfl, Fr.rf⟩
  · have hr := hM.2.2.2.2.2.1
    rw [hy] at hr
    obtain ⟨p, hl, hpl, hcd⟩ := hr.2.2
    refine p_enter rfl rfl (Nat.le_of_ble_eq_true rfl) rfl ?_
    refine p_aload_n 0 1 rfl rfl dX9_doesLay_0 rfl ?_
    refine p_getIE 9 5 4 rfl dX9_doesLay_1 fl_X9_9 rfl rfl hl ?_
    refine p_iconst (-1) 5 rfl dX9_doesLay_4 rfl ?_
    refine p_icmp_ne 10 8 rfl rfl dX9_doesLay_5 (fun h5 => ?_) (fun h5 => absurd h5 (nI_m1b (by omega)))
    refine p_aload_n 0 11 rfl rfl dX9_doesLay_10 rfl ?_
    refine p_getR 9 47 14 rfl dX9_doesLay_11 fl_X9_72 rfl rfl (show hR _ M0 47 = mTo from hM.1 47) (by decide) ?_
    refine p_iconst (4) 15 rfl dX9_doesLay_14 rfl ?_
    refine p_iload_n 2 16 rfl rfl dX9_doesLay_15 rfl ?_
    refine p_iastE 17 rfl dX9_doesLay_16 (i := 4) rfl (by decide) ?_
    refine p_aload_n 0 18 rfl rfl dX9_doesLay_17 rfl ?_
    refine p_getR 9 47 21 rfl dX9_doesLay_18 fl_X9_72 rfl rfl (show hR _ M0 47 = mTo from hM.1 47) (by decide) ?_
    have hF1 : Fr [] [mTo] σ (sA σ mTo 4 (nI t)) := Fr.sA (by simp)
    have hM1 : OM (sA σ mTo 4 (nI t)) O := hM.fr hF1 (by decide)
    have hw1 : RowM e (hA (sA σ mTo 4 (nI t)) mRo) b O V := by rw [hF1.2.2.2.2.2 mRo (by decide)]; exact hw
    refine p_bipush (6) 23 rfl dX9_doesLay_21 rfl ?_
    refine p_aload_n 0 24 rfl rfl dX9_doesLay_23 rfl ?_
    refine p_iload_n 1 25 rfl rfl dX9_doesLay_24 rfl ?_
    refine p_iload_n 2 26 rfl rfl dX9_doesLay_25 rfl ?_
    refine p_cV2i 29 rfl dX9_doesLay_26 (c_mSheetsAt hM1 hw1 hv hb ht) ml_X9_328 vl_X9_sheetsAt rfl (by decide) rfl (Nat.le_of_ble_eq_true rfl) (Nat.le_of_ble_eq_true rfl) rfl ?_
    refine p_cS1i 32 rfl dX9_doesLay_29 (c_bits (Nat.lt_trans (shIn_l hO V t 0) (by decide))) ml_X9_316 sl_X9_bits (Nat.le_of_ble_eq_true rfl) (Nat.le_of_ble_eq_true rfl) rfl ?_
    refine p_iastE 33 rfl dX9_doesLay_32 (i := 6) rfl (by decide) ?_
    refine p_aload_n 0 34 rfl rfl dX9_doesLay_33 rfl ?_
    refine p_getR 9 47 37 rfl dX9_doesLay_34 fl_X9_72 rfl rfl (show hR _ M0 47 = mTo from hM.1 47) (by decide) ?_
    have hF2 : Fr [] [mTo] σ (sA (sA σ mTo 4 (nI t)) mTo 6 (nI (pop (shIn O V t 0)))) := hF1.tr (Fr.sA (by simp))
    have hM2 : OM (sA (sA σ mTo 4 (nI t)) mTo 6 (nI (pop (shIn O V t 0)))) O := hM.fr hF2 (by decide)
    have hw2 : RowM e (hA (sA (sA σ mTo 4 (nI t)) mTo 6 (nI (pop (shIn O V t 0)))) mRo) b O V := by rw [hF2.2.2.2.2.2 mRo (by decide)]; exact hw
    refine p_bipush (7) 39 rfl dX9_doesLay_37 rfl ?_
    refine p_aload_n 0 40 rfl rfl dX9_doesLay_39 rfl ?_
    refine p_iload_n 1 41 rfl rfl dX9_doesLay_40 rfl ?_
    refine p_iload_n 2 42 rfl rfl dX9_doesLay_41 rfl ?_
    refine p_cV2i 45 rfl dX9_doesLay_42 (c_clerksAt hM2 hw2 hv hb ht) ml_X9_335 vl_X9_clerksAt rfl (by decide) rfl (Nat.le_of_ble_eq_true rfl) (Nat.le_of_ble_eq_true rfl) rfl ?_
    refine p_cS1i 48 rfl dX9_doesLay_45 (c_bits (Nat.lt_trans (clIn_l hO V t) (by decide))) ml_X9_316 sl_X9_bits (Nat.le_of_ble_eq_true rfl) (Nat.le_of_ble_eq_true rfl) rfl ?_
    refine p_iastE 49 rfl dX9_doesLay_48 (i := 7) rfl (by decide) ?_
    refine p_aload_n 0 50 rfl rfl dX9_doesLay_49 rfl ?_
    refine p_getR 9 47 53 rfl dX9_doesLay_50 fl_X9_72 rfl rfl (show hR _ M0 47 = mTo from hM.1 47) (by decide) ?_
    have hF3 : Fr [] [mTo] σ (sA (sA (sA σ mTo 4 (nI t)) mTo 6 (nI (pop (shIn O V t 0)))) mTo 7 (nI (pop (clIn O V t)))) := hF2.tr (Fr.sA (by simp))
    have hM3 : OM (sA (sA (sA σ mTo 4 (nI t)) mTo 6 (nI (pop (shIn O V t 0)))) mTo 7 (nI (pop (clIn O V t)))) O := hM.fr hF3 (by decide)
    have hw3 : RowM e (hA (sA (sA (sA σ mTo 4 (nI t)) mTo 6 (nI (pop (shIn O V t 0)))) mTo 7 (nI (pop (clIn O V t)))) mRo) b O V := by rw [hF3.2.2.2.2.2 mRo (by decide)]; exact hw
    refine p_bipush (8) 55 rfl dX9_doesLay_53 rfl ?_
    refine p_aload_n 0 56 rfl rfl dX9_doesLay_55 rfl ?_
    refine p_iload_n 1 57 rfl rfl dX9_doesLay_56 rfl ?_
    refine p_aload_n 0 58 rfl rfl dX9_doesLay_57 rfl ?_
    refine p_iload_n 1 59 rfl rfl dX9_doesLay_58 rfl ?_
    refine p_iload_n 2 60 rfl rfl dX9_doesLay_59 rfl ?_
    refine p_cV2i 63 rfl dX9_doesLay_60 (c_clerksAt hM3 hw3 hv hb ht) ml_X9_335 vl_X9_clerksAt rfl (by decide) rfl (Nat.le_of_ble_eq_true rfl) (Nat.le_of_ble_eq_true rfl) rfl ?_
    refine p_cV2i 66 rfl dX9_doesLay_63 (c_knownBy hM3 hw3 hv hb (Nat.lt_trans (clIn_l hO V t) (by decide))) ml_X9_338 vl_X9_knownBy rfl (by decide) rfl (Nat.le_of_ble_eq_true rfl) (Nat.le_of_ble_eq_true rfl) rfl ?_
    refine p_cS1i 69 rfl dX9_doesLay_66 (c_bits (Nat.lt_trans (kBy_l hO hv _) (by decide))) ml_X9_316 sl_X9_bits (Nat.le_of_ble_eq_true rfl) (Nat.le_of_ble_eq_true rfl) rfl ?_
    refine p_iastE 70 rfl dX9_doesLay_69 (i := 8) rfl (by decide) ?_
    refine p_aload_n 0 71 rfl rfl dX9_doesLay_70 rfl ?_
    refine p_getR 9 47 74 rfl dX9_doesLay_71 fl_X9_72 rfl rfl (show hR _ M0 47 = mTo from hM.1 47) (by decide) ?_
    have hF4 : Fr [] [mTo] σ (sA (sA (sA (sA σ mTo 4 (nI t)) mTo 6 (nI (pop (shIn O V t 0)))) mTo 7 (nI (pop (clIn O V t)))) mTo 8 (nI (pop (kBy O V (clIn O V t))))) := hF3.tr (Fr.sA (by simp))
    have hM4 : OM (sA (sA (sA (sA σ mTo 4 (nI t)) mTo 6 (nI (pop (shIn O V t 0)))) mTo 7 (nI (pop (clIn O V t)))) mTo 8 (nI (pop (kBy O V (clIn O V t))))) O := hM.fr hF4 (by decide)
    have hw4 : RowM e (hA (sA (sA (sA (sA σ mTo 4 (nI t)) mTo 6 (nI (pop (shIn O V t 0)))) mTo 7 (nI (pop (clIn O V t)))) mTo 8 (nI (pop (kBy O V (clIn O V t))))) mRo) b O V := by rw [hF4.2.2.2.2.2 mRo (by decide)]; exact hw
    refine p_iconst (5) 75 rfl dX9_doesLay_74 rfl ?_
    refine p_aload_n 0 76 rfl rfl dX9_doesLay_75 rfl ?_
    refine p_getR 9 44 79 rfl dX9_doesLay_76 fl_X9_66 rfl rfl (show hR _ M0 44 = mRo from hM.1 44) (by decide) ?_
    refine p_iload_n 1 80 rfl rfl dX9_doesLay_79 rfl ?_
    refine p_iconst (0) 81 rfl dX9_doesLay_80 rfl ?_
    refine p_iadd 82 rfl dX9_doesLay_81 ?_
    rw [show nI b + 0 = nI b from nI_add b 0]
    refine p_ialdE 83 rfl dX9_doesLay_82 (i := b) rfl (by show b < 68; omega) hw4.1 ?_
    refine p_iastE 84 rfl dX9_doesLay_83 (i := 5) rfl (by decide) ?_
    have hF5 : Fr [] [mTo] σ (sA (sA (sA (sA (sA σ mTo 4 (nI t)) mTo 6 (nI (pop (shIn O V t 0)))) mTo 7 (nI (pop (clIn O V t)))) mTo 8 (nI (pop (kBy O V (clIn O V t))))) mTo 5 (nI (vD V))) := hF4.tr (Fr.sA (by simp))
    have hM5 : OM (sA (sA (sA (sA (sA σ mTo 4 (nI t)) mTo 6 (nI (pop (shIn O V t 0)))) mTo 7 (nI (pop (clIn O V t)))) mTo 8 (nI (pop (kBy O V (clIn O V t))))) mTo 5 (nI (vD V))) O := hM.fr hF5 (by decide)
    have hw5 : RowM e (hA (sA (sA (sA (sA (sA σ mTo 4 (nI t)) mTo 6 (nI (pop (shIn O V t 0)))) mTo 7 (nI (pop (clIn O V t)))) mTo 8 (nI (pop (kBy O V (clIn O V t))))) mTo 5 (nI (vD V))) mRo) b O V := by rw [hF5.2.2.2.2.2 mRo (by decide)]; exact hw
    have hTo : ∀ s, s < 6 → (true = true → s < 5) → hA (sA (sA (sA (sA (sA σ mTo 4 (nI t)) mTo 6 (nI (pop (shIn O V t 0)))) mTo 7 (nI (pop (clIn O V t)))) mTo 8 (nI (pop (kBy O V (clIn O V t))))) mTo 5 (nI (vD V))) mTo (slt true s) = vlL O V t s := by
      intro s h6 h5
      have h5 := h5 rfl
      rw [sA_s, sA_s, sA_s, sA_s, sA_s]
      have : s = 0 ∨ s = 1 ∨ s = 2 ∨ s = 3 ∨ s = 4 := by omega
      rcases this with rfl | rfl | rfl | rfl | rfl
      · rw [show slt true 0 = 4 from rfl, pk_un (by decide), pk_un (by decide), pk_un (by decide), pk_un (by decide), pk_us]; rfl
      · rw [show slt true 1 = 5 from rfl, pk_us]; rfl
      · rw [show slt true 2 = 6 from rfl, pk_un (by decide), pk_un (by decide), pk_un (by decide), pk_us]; rfl
      · rw [show slt true 3 = 7 from rfl, pk_un (by decide), pk_un (by decide), pk_us]; rfl
      · rw [show slt true 4 = 8 from rfl, pk_un (by decide), pk_us]; rfl
    refine p_aload_n 0 85 rfl rfl dX9_doesLay_84 rfl ?_
    refine p_aload_n 0 86 rfl rfl dX9_doesLay_85 rfl ?_
    refine p_getIE 9 5 89 rfl dX9_doesLay_86 fl_X9_9 rfl rfl (show hI (sA (sA (sA (sA (sA σ mTo 4 (nI t)) mTo 6 (nI (pop (shIn O V t 0)))) mTo 7 (nI (pop (clIn O V t)))) mTo 8 (nI (pop (kBy O V (clIn O V t))))) mTo 5 (nI (vD V))) M0 5 = nI p from hl) ?_
    refine p_cV1x 0 0 92 rfl dX9_doesLay_89 (c_reckons (w := true) (vals := vlL O V t) hM5.1 hTo hr.1 hr.2.1 hpl (fun i hi => by rw [hF5.2.2.2.2.2 mCd (by decide)]; exact hcd i hi)) ml_X9_341 vl_X9_reckons rfl (by decide) rfl (Nat.le_of_ble_eq_true rfl) (Nat.le_of_ble_eq_true rfl) (Nat.le_of_ble_eq_true rfl) (Nat.le_of_ble_eq_true rfl) rfl ?_
    intro v σ1 hp1
    obtain ⟨hv1, f1, hf1⟩ := hp1
    subst hv1
    refine p_if_le 99 95 rfl rfl dX9_doesLay_92 (fun h92 => ?_) (fun h92 => ?_)
    · refine p_iconst (0) 100 rfl dX9_doesLay_99 rfl ?_
      exact p_zret dX9_doesLay_100 rfl (by decide) ⟨_, rfl, by rw [show lays O V t = decide (0 < evP ps (vlL O V t)) by unfold lays; rw [hy]]; rw [decide_eq_false (fun q => Int32.not_lt.mpr h92 q)]; rfl, by rw [hf1]; exact (hF5.more (by decide)).tr (Fr.sF (by simp))⟩
    · refine p_iconst (1) 96 rfl dX9_doesLay_95 rfl ?_
      refine p_goto 100 rfl dX9_doesLay_96 ?_
      exact p_zret dX9_doesLay_100 rfl (by decide) ⟨_, rfl, by rw [show lays O V t = decide (0 < evP ps (vlL O V t)) by unfold lays; rw [hy]]; rw [decide_eq_true (Int32.not_le.mp h92)]; rfl, by rw [hf1]; exact (hF5.more (by decide)).tr (Fr.sF (by simp))⟩
theorem RowM.kn {e : Bool} {f : Nat → Int32} {b : Nat} {O : AO} {V : AW} {i x : Nat} (h : RowM e f b O V) (hi : i < 6) (hs : aS O ≤ 9) : RowM e (upd f (b + 28 + i) (nI x)) b O (wKn V (va_up (vK V) i x)) := by
  refine ⟨by rw [pk_un (by omega)]; exact h.1, fun s q => ?_, fun c q => ?_⟩
  · have := h.2.1 s q
    rw [pk_un (by omega), pk_un (by omega), pk_un (by omega)]; exact this
  · show _ = nI (va_up (vK V) i x c)
    by_cases hc : c = i
    · rw [hc, pk_us, va_ups]
    · rw [pk_un (by omega), va_upo hc]; exact h.2.2 c q
theorem RowM.out {e : Bool} {f : Nat → Int32} {b k : Nat} {O : AO} {V : AW} {x : Int32} (h : RowM e f b O V) (hs : aS O ≤ 9) (hc : aC O ≤ 6) (hk : k < b ∨ b + 34 ≤ k) : RowM e (upd f k x) b O V := by
  refine ⟨by rw [pk_un (by omega)]; exact h.1, fun s q => ?_, fun c q => ?_⟩
  · have := h.2.1 s q
    rw [pk_un (by omega), pk_un (by omega), pk_un (by omega)]; exact this
  · rw [pk_un (by omega)]; exact h.2.2 c q
theorem RowM.knC {e : Bool} {f : Nat → Int32} {b : Nat} {O : AO} {V V' : AW} (h : RowM e f b O V) (h1 : vD V' = vD V) (h2 : vL V' = vL V) (h3 : vR V' = vR V) (h4 : vP V' = vP V) (h5 : ∀ c, c < aC O → vK V' c = vK V c) : RowM e f b O V' := by
  refine ⟨by rw [h1]; exact h.1, fun s q => by rw [h2, h3, h4]; exact h.2.1 s q, fun c q => by rw [h5 c q]; exact h.2.2 c q⟩
set_option maxRecDepth 4000 in
theorem l_learns (hM : OM σ O) (hb : b ≤ 34) {m x : Nat} (hm : m < 2 ^ 31) : ∀ (n i : Nat) (σ1 : PH), i + n = aC O → RowM e (hA σ1 mRo) b O (wKn V (tK V m x (i))) → FrB b σ σ1 → Ok Γ 1 0 0 mX9_learns 3 [some (.ref M0), some (.int (nI b)), some (.int (nI m)), some (.int (nI x)), some (.int (nI i))] [] σ1 (rV (fun σ' => RowM e (hA σ' mRo) b O (tch O V m x) ∧ FrB b σ σ')) := by
  have hO := hM.2.1
  have hs9 := hO.1
  have hc6 := hO.2.1
  have hw12 := hO.2.2.1
  have hk8 := hO.2.2.2.1
  intro n
  induction n with
  | zero =>
    intro i σ1 hi hw1 hF
    have hM1 := hM.frB hF
    refine p_iload 4 5 rfl dX9_learns_3 rfl ?_
    refine p_aload_n 0 6 rfl rfl dX9_learns_5 rfl ?_
    refine p_getIE 9 2 9 rfl dX9_learns_6 fl_X9_283 rfl rfl hM1.2.2.1.2.1 ?_
    refine p_icmp_ge 48 12 rfl rfl dX9_learns_9 (fun h9 => ?_) (fun h9 => absurd (nI_le (a := aC O) (b := i) (by omega) (by omega)) h9)
    exact p_vret dX9_learns_48 rfl ⟨rfl, by rw [show i = aC O by omega] at hw1; exact hw1, hF⟩
  | succ n ih =>
    intro i σ1 hi hw1 hF
    have hM1 := hM.frB hF
    have hlt : i < aC O := by omega
    refine p_iload 4 5 rfl dX9_learns_3 rfl ?_
    refine p_aload_n 0 6 rfl rfl dX9_learns_5 rfl ?_
    refine p_getIE 9 2 9 rfl dX9_learns_6 fl_X9_283 rfl rfl hM1.2.2.1.2.1 ?_
    refine p_icmp_ge 48 12 rfl rfl dX9_learns_9 (fun h9 => absurd h9 (nI_ge (a := i) (b := aC O) (by omega) (by omega))) (fun h9 => ?_)
    refine p_aload_n 0 13 rfl rfl dX9_learns_12 rfl ?_
    refine p_getR 9 44 16 rfl dX9_learns_13 fl_X9_66 rfl rfl (show hR _ M0 44 = mRo from hM1.1 44) (by decide) ?_
    refine p_iload_n 1 17 rfl rfl dX9_learns_16 rfl ?_
    refine p_bipush (28) 19 rfl dX9_learns_17 rfl ?_
    refine p_iadd 20 rfl dX9_learns_19 ?_
    refine p_iload 4 22 rfl dX9_learns_20 rfl ?_
    refine p_iadd 23 rfl dX9_learns_22 ?_
    rw [ix b 28 (i) 28 rfl]
    refine p_dup2 24 rfl dX9_learns_23 rfl rfl ?_
    refine p_ialdE 25 rfl dX9_learns_24 (i := b + 28 + i) rfl (by show b + 28 + i < 68; omega) ((hw1.2.2 i hlt).trans (show nI (tK V m x i i) = nI (vK V i) by simp [tK])) ?_
    refine p_iload_n 2 26 rfl rfl dX9_learns_25 rfl ?_
    refine p_iload 4 28 rfl dX9_learns_26 rfl ?_
    refine p_ishr 29 rfl dX9_learns_28 ?_
    refine p_iconst (1) 30 rfl dX9_learns_29 rfl ?_
    refine p_iand 31 rfl dX9_learns_30 ?_
    rw [sb1 hm (by omega)]
    refine p_iconst (1) 32 rfl dX9_learns_31 rfl ?_
    refine p_icmp_ne 39 35 rfl rfl dX9_learns_32 (fun h32 => ?_) (fun h32 => ?_)
    · refine p_iconst (0) 40 rfl dX9_learns_39 rfl ?_
      refine p_ior 41 rfl dX9_learns_40 ?_
      refine p_iastE 42 rfl dX9_learns_41 (i := b + 28 + i) rfl (by show b + 28 + i < 68; omega) ?_
      refine p_inc_4 45 rfl dX9_learns_42 (1) rfl (Nat.le_of_ble_eq_true rfl) rfl ?_
      refine p_goto 3 rfl dX9_learns_45 ?_
      have hb : m.testBit i = false := by simpa only [b2i_eq0, b2i_1, Bool.not_eq_true, Decidable.not_not] using h32
      have e1 : vK (wKn V (tK V m x (i))) i = vK V i := by show tK V m x i i = _; simp [tK]
      rw [or0, nI_1]
      refine ih (i + 1) _ (by omega) ?_ (hF.tr (FrB.row (by omega)))
      rw [sA_s]
      refine (hw1.kn (by omega) hs9 (x := vK V i)).knC rfl rfl rfl rfl (fun c hc => ?_)
      show tK V m x (i + 1) c = va_up (tK V m x i) i (vK V i) c
      by_cases hci : c = i
      · rw [hci, va_ups]; simp [tK, hb]
      · rw [va_upo hci]; unfold tK; simp only [show (c < i + 1) = (c < i) by apply propext; omega]
    · refine p_iload_n 3 36 rfl rfl dX9_learns_35 rfl ?_
      refine p_goto 40 rfl dX9_learns_36 ?_
      refine p_ior 41 rfl dX9_learns_40 ?_
      refine p_iastE 42 rfl dX9_learns_41 (i := b + 28 + i) rfl (by show b + 28 + i < 68; omega) ?_
      refine p_inc_4 45 rfl dX9_learns_42 (1) rfl (Nat.le_of_ble_eq_true rfl) rfl ?_
      refine p_goto 3 rfl dX9_learns_45 ?_
      have hb : m.testBit i = true := by simpa only [b2i_eq0, b2i_1, Decidable.not_not, Bool.not_eq_true, Bool.not_eq_false] using h32
      rw [nx_or, nI_1]
      refine ih (i + 1) _ (by omega) ?_ (hF.tr (FrB.row (by omega)))
      rw [sA_s]
      refine (hw1.kn (by omega) hs9 (x := vK V i ||| x)).knC rfl rfl rfl rfl (fun c hc => ?_)
      show tK V m x (i + 1) c = va_up (tK V m x i) i (vK V i ||| x) c
      by_cases hci : c = i
      · rw [hci, va_ups]; simp [tK, hb]
      · rw [va_upo hci]; unfold tK; simp only [show (c < i + 1) = (c < i) by apply propext; omega]
set_option maxRecDepth 4000 in
theorem c_learns (hM : OM σ O) (hw : RowM e (hA σ mRo) b O V) (hb : b ≤ 34) {m x : Nat} (hm : m < 2 ^ 31) : CallOk Γ 1 0 0 mX9_learns [.ref M0, .int (nI b), .int (nI m), .int (nI x)] σ (rV (fun σ' => RowM e (hA σ' mRo) b O (tch O V m x) ∧ FrB b σ σ')) := by
  refine p_enter rfl rfl (Nat.le_of_ble_eq_true rfl) rfl ?_
  refine p_iconst (0) 1 rfl dX9_learns_0 rfl ?_
  refine p_ist_4 3 rfl dX9_learns_1 (Nat.le_of_ble_eq_true rfl) rfl ?_
  exact l_learns hM hb hm (aC O) 0 σ (by omega) (hw.knC rfl rfl rfl rfl (fun c hc => by show tK V m x 0 c = _; simp [tK])) FrB.rf
end C83
