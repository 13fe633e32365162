/-! ===== the reference: all that it keeps; what a call may be asked ===== -/
def RpJ (σ : PH) (O : AO) : Option (AW × List AW × List Hr) → Prop
  | none => hI σ M0 56 = 0
  | some q => hI σ M0 56 = 1 ∧ RowM true (hA σ iRo) 0 O q.1 ∧ (hI σ M0 57 = nI q.2.1.length ∧ ∀ i V, q.2.1[i]? = some V → RowM true (hA σ iAh) (34 * i) O V) ∧ hI σ M0 58 = nI q.2.2.length ∧ ∀ i (h : Hr), q.2.2[i]? = some h → hA σ iHe (4 * i) = nI h.1 ∧ hA σ iHe (4 * i + 1) = nI h.2.1 ∧ hA σ iHe (4 * i + 2) = nI h.2.2.1 ∧ hA σ iHe (4 * i + 3) = b2i h.2.2.2
def knB (O : AO) (V : AW) : Prop := ∀ c, c < aC O → vK V c < 2 ^ aW O
def knJ (O : AO) : Option (AW × List AW × List Hr) → Prop
  | none => True
  | some q => knB O q.1 ∧ ∀ V ∈ q.2.1, knB O V
/-- nobody knows a word that there isn't -/
def OkKn (A : AT) : Prop := knB (tO A) (tV A) ∧ (∀ V ∈ tA A, knB (tO A) V) ∧ knJ (tO A) (tI A)
/-- the reference keeps the state A -/
def RM (σ : PH) (A : AT) : Prop := OM σ (tO A) ∧ OkT A ∧ RowM true (hA σ mRo) 0 (tO A) (tV A) ∧ (hI σ M0 46 = nI (tA A).length ∧ ∀ i V, (tA A)[i]? = some V → RowM true (hA σ mAh) (34 * i) (tO A) V) ∧
  (hI σ M0 51 = nI (tH A).length ∧ ∀ i (h : Hr), (tH A)[i]? = some h → hA σ mHe (4 * i) = nI h.1 ∧ hA σ mHe (4 * i + 1) = nI h.2.1 ∧ hA σ mHe (4 * i + 2) = nI h.2.2.1 ∧ hA σ mHe (4 * i + 3) = b2i h.2.2.2) ∧ RpJ σ (tO A) (tI A) ∧
  (hI σ M0 13 = nI (tN A) ∧ hI σ M0 15 = tF A ∧ ∀ i, i < tN A → hA σ mTp i = nI (tB A i)) ∧ (hA σ mRf 0 = tX A ∧ hA σ mRf 1 = tY A ∧ hA σ mRf 2 = tZ A) ∧ hA σ mCo 0 = 0 ∧ OkKn A
/-- a question changes nothing that is kept -/
def FQ (σ σ' : PH) : Prop := hn σ' = hn σ ∧ hL σ' = hL σ ∧ hR σ' = hR σ ∧ (∀ r k, (r, k) ∉ [(M0, 0), (M0, 55)] → hI σ' r k = hI σ r k) ∧ (∀ r, r ∉ [mRo, mTo, mPi, mCo, mMo, mSo, mSa] → hA σ' r = hA σ r) ∧ (∀ k, k < 34 → hA σ' mRo k = hA σ mRo k) ∧ hA σ' mCo 0 = hA σ mCo 0
def mdl (s : Nat) : Bool := decide (72 ≤ s) && decide (s < 100)
def ChM (σ σ' : PH) : Prop := hn σ' = hn σ ∧ hL σ' = hL σ ∧ hR σ' = hR σ ∧ ∀ r, mdl (sn r) = false → hI σ' r = hI σ r ∧ hA σ' r = hA σ r
theorem FQ.rf {σ : PH} : FQ σ σ := ⟨rfl, rfl, rfl, fun _ _ _ => rfl, fun _ _ => rfl, fun _ _ => rfl, rfl⟩
theorem FQ.tr {σ σ1 σ2 : PH} (h : FQ σ σ1) (g : FQ σ1 σ2) : FQ σ σ2 := ⟨g.1.trans h.1, g.2.1.trans h.2.1, g.2.2.1.trans h.2.2.1, fun r k q => (g.2.2.2.1 r k q).trans (h.2.2.2.1 r k q), fun r q => (g.2.2.2.2.1 r q).trans (h.2.2.2.2.1 r q), fun k q => (g.2.2.2.2.2.1 k q).trans (h.2.2.2.2.2.1 k q), g.2.2.2.2.2.2.trans h.2.2.2.2.2.2⟩
theorem FQ.th {σ : PH} {v : Int32} : FQ σ (sI σ M0 0 v) := ⟨rfl, rfl, rfl, fun r k q => hI_sIo (fun e => q (by rw [e]; simp)), fun _ _ => rfl, fun _ _ => rfl, rfl⟩
theorem FQ.b {σ σ' : PH} (h : FrB 34 σ σ') : FQ σ σ' := ⟨h.1.1, h.1.2.2.2.2.1, h.1.2.2.2.1, fun r k _ => h.1.2.1 r k (by simp), fun r q => h.1.2.2.2.2.2 r (fun z => q (by simp only [List.mem_cons, List.not_mem_nil, or_false] at z ⊢; rcases z with z | z | z <;> simp [z])), fun k q => h.2 k (Or.inl q), by rw [h.1.2.2.2.2.2 mCo (by decide)]⟩
theorem FQ.ch {σ σ' : PH} (h : FQ σ σ') : ChM σ σ' := by
  refine ⟨h.1, h.2.1, h.2.2.1, fun r hr => ⟨?_, ?_⟩⟩
  · funext k
    refine h.2.2.2.1 r k (fun z => ?_)
    simp only [List.mem_cons, List.not_mem_nil, or_false, Prod.mk.injEq] at z
    rcases z with z | z <;> (rw [z.1] at hr; exact absurd hr (by decide))
  · refine h.2.2.2.2.1 r (fun z => ?_)
    simp only [List.mem_cons, List.not_mem_nil, or_false] at z
    rcases z with z | z | z | z | z | z | z <;> (rw [z] at hr; exact absurd hr (by decide))
theorem ChM.rf {σ : PH} : ChM σ σ := ⟨rfl, rfl, rfl, fun _ _ => ⟨rfl, rfl⟩⟩
theorem ChM.tr {σ σ1 σ2 : PH} (h : ChM σ σ1) (g : ChM σ1 σ2) : ChM σ σ2 := ⟨g.1.trans h.1, g.2.1.trans h.2.1, g.2.2.1.trans h.2.2.1, fun r hr => ⟨((g.2.2.2 r hr).1).trans (h.2.2.2 r hr).1, ((g.2.2.2 r hr).2).trans (h.2.2.2 r hr).2⟩⟩
theorem RowM.eq {e : Bool} {f g : Nat → Int32} {b : Nat} {O : AO} {V : AW} (h : RowM e f b O V) (hs : aS O ≤ 9) (hc : aC O ≤ 6) (hg : ∀ k, b ≤ k → k < b + 34 → g k = f k) : RowM e g b O V := by
  refine ⟨by rw [hg b (by omega) (by omega)]; exact h.1, fun s q => ?_, fun c q => by rw [hg _ (by omega) (by omega)]; exact h.2.2 c q⟩
  rw [hg (b + 1 + s) (by omega) (by omega), hg (b + 10 + s) (by omega) (by omega), hg (b + 19 + s) (by omega) (by omega)]; exact h.2.1 s q
theorem OM.q {σ σ' : PH} {O : AO} (h : OM σ O) (hf : FQ σ σ') : OM σ' O := by
  have e : ∀ r, r ∈ [mRl, mRd, mWl, mWr, mCd] → hA σ' r = hA σ r := fun r hr => hf.2.2.2.2.1 r ((show ∀ r ∈ [mRl, mRd, mWl, mWr, mCd], r ∉ [mRo, mTo, mPi, mCo, mMo, mSo, mSa] by decide) r hr)
  have eI : ∀ k, k ≠ 0 → k ≠ 55 → hI σ' M0 k = hI σ M0 k := fun k h1 h2 => hf.2.2.2.1 M0 k (by simp [h1, h2])
  obtain ⟨h1, h2, h3, h4, h5, h6, h7⟩ := h
  refine ⟨fun k => by rw [hf.2.2.1]; exact h1 k, h2, by rw [eI 1 (by decide) (by decide), eI 2 (by decide) (by decide), eI 3 (by decide) (by decide), eI 4 (by decide) (by decide)]; exact h3, fun c hc => by rw [e mRl (by simp), e mRd (by simp)]; exact h4 c hc, fun k hk => by rw [e mWl (by simp), e mWr (by simp)]; exact h5 k hk, ?_, ?_⟩
  · unfold RuM at h6 ⊢; rw [eI 5 (by decide) (by decide), e mCd (by simp)]; exact h6
  · unfold RuM at h7 ⊢; rw [eI 6 (by decide) (by decide), e mCd (by simp)]; exact h7
theorem RM.q {σ σ' : PH} {A : AT} (h : RM σ A) (hf : FQ σ σ') : RM σ' A := by
  have e : ∀ r, r ∈ [mAh, mHe, iRo, iAh, iHe, mTp, mRf] → hA σ' r = hA σ r := fun r hr => hf.2.2.2.2.1 r ((show ∀ r ∈ [mAh, mHe, iRo, iAh, iHe, mTp, mRf], r ∉ [mRo, mTo, mPi, mCo, mMo, mSo, mSa] by decide) r hr)
  have eI : ∀ k, k ≠ 0 → k ≠ 55 → hI σ' M0 k = hI σ M0 k := fun k h1 h2 => hf.2.2.2.1 M0 k (by simp [h1, h2])
  obtain ⟨h1, h2, h3, h4, h5, h6, h7, h8, h9⟩ := h
  have hO := h1.2.1
  refine ⟨h1.q hf, h2, h3.eq hO.1 hO.2.1 (fun k _ hk => hf.2.2.2.2.2.1 k (by omega)), by rw [eI 46 (by decide) (by decide), e mAh (by simp)]; exact h4, by rw [eI 51 (by decide) (by decide), e mHe (by simp)]; exact h5, ?_, by rw [eI 13 (by decide) (by decide), eI 15 (by decide) (by decide), e mTp (by simp)]; exact h7, by rw [e mRf (by simp)]; exact h8, hf.2.2.2.2.2.2.trans h9.1, h9.2⟩
  unfold RpJ at h6 ⊢
  cases hi : tI A with
  | none => rw [hi] at h6; show hI σ' M0 56 = 0; rw [eI 56 (by decide) (by decide)]; exact h6
  | some q =>
    rw [hi] at h6
    simp only [eI 56 (by decide) (by decide), eI 57 (by decide) (by decide), eI 58 (by decide) (by decide), e iRo (by simp), e iAh (by simp), e iHe (by simp)]
    exact h6
/-- an answer of the reference -/
def rM (sp : Nat × Int32) (P : PH → Prop) : PO → PH → Prop := fun o σ' => ∃ v, o = .inl (some (.int v)) ∧ hI σ' M0 0 = nI sp.1 ∧ (sp.1 = 0 → v = sp.2) ∧ P σ'
/-- a guard -/
def rG (σ : PH) (b : Bool) (w : Int32) : PO → PH → Prop := rX (fun v σ' => v = b2i b ∧ (b = true → σ' = σ) ∧ (b = false → σ' = sI σ M0 0 w))
section C85
variable {Γ : Gm} {σ : PH} {O : AO} {A : AT}
set_option maxRecDepth 4000 in
theorem c_right (h0 : hI σ M0 0 = 0) (b : Bool) {w : Int32} (hw : ¬ w = 0) : CallOk Γ 1 0 0 mX9_right [.ref M0, .int (b2i b), .int w] σ (rG σ b w) := by
  cases b
  · refine p_enter rfl rfl (Nat.le_of_ble_eq_true rfl) rfl ?_
    refine p_aload_n 0 1 rfl rfl dX9_right_0 rfl ?_
    refine p_getIE 9 0 4 rfl dX9_right_1 fl_X9_102 rfl rfl h0 ?_
    refine p_if_ne 16 7 rfl rfl dX9_right_4 (fun h4 => absurd rfl h4) (fun h4 => ?_)
    refine p_iload_n 1 8 rfl rfl dX9_right_7 rfl ?_
    refine p_if_ne 16 11 rfl rfl dX9_right_8 (fun h8 => absurd rfl h8) (fun h8 => ?_)
    refine p_aload_n 0 12 rfl rfl dX9_right_11 rfl ?_
    refine p_iload_n 2 13 rfl rfl dX9_right_12 rfl ?_
    refine p_putI 9 0 16 rfl dX9_right_13 fl_X9_102 rfl rfl (Or.inl rfl) ?_
    refine p_aload_n 0 17 rfl rfl dX9_right_16 rfl ?_
    refine p_getIE 9 0 20 rfl dX9_right_17 fl_X9_102 rfl rfl (hI_sI _ _ _ _) ?_
    refine p_if_ne 27 23 rfl rfl dX9_right_20 (fun h20 => ?_) (fun h20 => absurd h20 hw)
    refine p_iconst (0) 28 rfl dX9_right_27 rfl ?_
    exact p_zret dX9_right_28 rfl (by decide) ⟨_, rfl, rfl, (fun q => by cases q), fun _ => rfl⟩
  · refine p_enter rfl rfl (Nat.le_of_ble_eq_true rfl) rfl ?_
    refine p_aload_n 0 1 rfl rfl dX9_right_0 rfl ?_
    refine p_getIE 9 0 4 rfl dX9_right_1 fl_X9_102 rfl rfl h0 ?_
    refine p_if_ne 16 7 rfl rfl dX9_right_4 (fun h4 => absurd rfl h4) (fun h4 => ?_)
    refine p_iload_n 1 8 rfl rfl dX9_right_7 rfl ?_
    refine p_if_ne 16 11 rfl rfl dX9_right_8 (fun h8 => ?_) (fun h8 => absurd h8 (by decide))
    refine p_aload_n 0 17 rfl rfl dX9_right_16 rfl ?_
    refine p_getIE 9 0 20 rfl dX9_right_17 fl_X9_102 rfl rfl h0 ?_
    refine p_if_ne 27 23 rfl rfl dX9_right_20 (fun h20 => absurd rfl h20) (fun h20 => ?_)
    refine p_iconst (1) 24 rfl dX9_right_23 rfl ?_
    refine p_goto 28 rfl dX9_right_24 ?_
    exact p_zret dX9_right_28 rfl (by decide) ⟨_, rfl, rfl, fun _ => rfl, fun q => by cases q⟩
theorem le_lt {x : Int32} {n : Nat} (h : n < 1000) : decide (x ≤ nI n) = decide (x < nI (n + 1)) := by
  have e : x ≤ nI n ↔ x < nI (n + 1) := by
    rw [Int32.le_iff_toInt_le, Int32.lt_iff_toInt_lt, nI_toInt (by omega), nI_toInt (by omega)]
    omega
  by_cases q : x ≤ nI n
  · rw [decide_eq_true q, decide_eq_true (e.mp q)]
  · rw [decide_eq_false q, decide_eq_false (fun w => q (e.mpr w))]
theorem in_wi {x : Int32} {n : Nat} (h : n < 1000) : (decide (0 ≤ x) && decide (x ≤ nI n)) = inR x (n + 1) := by
  unfold inR; rw [le_lt h]
theorem nz_v {v : Int32} {b : Bool} (h : v = b2i b) : narrow .boolean (.int v) = .int v := by rw [h]; exact nz_b2i b
set_option maxRecDepth 4000 in
theorem c_isSheet (hM : OM σ O) (h0 : hI σ M0 0 = 0) (x : Int32) : CallOk Γ 2 0 0 mX9_isSheet [.ref M0, .int x] σ (rG σ (inR x (aS O)) 1) := by
  refine p_enter rfl rfl (Nat.le_of_ble_eq_true rfl) rfl ?_
  refine p_aload_n 0 1 rfl rfl dX9_isSheet_0 rfl ?_
  refine p_iload_n 1 2 rfl rfl dX9_isSheet_1 rfl ?_
  refine p_if_lt 17 5 rfl rfl dX9_isSheet_2 (fun h2 => ?_) (fun h2 => ?_)
  · refine p_iconst (0) 18 rfl dX9_isSheet_17 rfl ?_
    refine p_iconst (1) 19 rfl dX9_isSheet_18 rfl ?_
    refine p_cV2x 0 0 22 rfl dX9_isSheet_19 (c_right h0 false (by decide)) ml_X9_273 vl_X9_right rfl (by decide) rfl (Nat.le_of_ble_eq_true rfl) (Nat.le_of_ble_eq_true rfl) (Nat.le_of_ble_eq_true rfl) (Nat.le_of_ble_eq_true rfl) rfl ?_
    intro v σ1 hp1
    exact p_zret dX9_isSheet_22 rfl (nz_v hp1.1) (by have g : inR x (aS O) = false := (by unfold inR; rw [decide_eq_false (fun q => Int32.not_le.mpr h2 q)]; rfl); rw [g]; exact ⟨_, rfl, hp1⟩)
  · refine p_iload_n 1 6 rfl rfl dX9_isSheet_5 rfl ?_
    refine p_aload_n 0 7 rfl rfl dX9_isSheet_6 rfl ?_
    refine p_getIE 9 1 10 rfl dX9_isSheet_7 fl_X9_280 rfl rfl hM.2.2.1.1 ?_
    refine p_icmp_ge 17 13 rfl rfl dX9_isSheet_10 (fun h10 => ?_) (fun h10 => ?_)
    · refine p_iconst (0) 18 rfl dX9_isSheet_17 rfl ?_
      refine p_iconst (1) 19 rfl dX9_isSheet_18 rfl ?_
      refine p_cV2x 0 0 22 rfl dX9_isSheet_19 (c_right h0 false (by decide)) ml_X9_273 vl_X9_right rfl (by decide) rfl (Nat.le_of_ble_eq_true rfl) (Nat.le_of_ble_eq_true rfl) (Nat.le_of_ble_eq_true rfl) (Nat.le_of_ble_eq_true rfl) rfl ?_
      intro v σ1 hp1
      exact p_zret dX9_isSheet_22 rfl (nz_v hp1.1) (by have g : inR x (aS O) = false := (by unfold inR; rw [decide_eq_false (fun q => Int32.not_lt.mpr h10 q), Bool.and_false]); rw [g]; exact ⟨_, rfl, hp1⟩)
    · refine p_iconst (1) 14 rfl dX9_isSheet_13 rfl ?_
      refine p_goto 18 rfl dX9_isSheet_14 ?_
      refine p_iconst (1) 19 rfl dX9_isSheet_18 rfl ?_
      refine p_cV2x 0 0 22 rfl dX9_isSheet_19 (c_right h0 true (by decide)) ml_X9_273 vl_X9_right rfl (by decide) rfl (Nat.le_of_ble_eq_true rfl) (Nat.le_of_ble_eq_true rfl) (Nat.le_of_ble_eq_true rfl) (Nat.le_of_ble_eq_true rfl) rfl ?_
      intro v σ1 hp1
      exact p_zret dX9_isSheet_22 rfl (nz_v hp1.1) (by have g : inR x (aS O) = true := (by unfold inR; rw [decide_eq_true (Int32.not_lt.mp h2), decide_eq_true (Int32.not_le.mp h10)]; rfl); rw [g]; exact ⟨_, rfl, hp1⟩)
set_option maxRecDepth 4000 in
theorem c_isClerk (hM : OM σ O) (h0 : hI σ M0 0 = 0) (x : Int32) : CallOk Γ 2 0 0 mX9_isClerk [.ref M0, .int x] σ (rG σ (inR x (aC O)) 1) := by
  refine p_enter rfl rfl (Nat.le_of_ble_eq_true rfl) rfl ?_
  refine p_aload_n 0 1 rfl rfl dX9_isClerk_0 rfl ?_
  refine p_iload_n 1 2 rfl rfl dX9_isClerk_1 rfl ?_
  refine p_if_lt 17 5 rfl rfl dX9_isClerk_2 (fun h2 => ?_) (fun h2 => ?_)
  · refine p_iconst (0) 18 rfl dX9_isClerk_17 rfl ?_
    refine p_iconst (1) 19 rfl dX9_isClerk_18 rfl ?_
    refine p_cV2x 0 0 22 rfl dX9_isClerk_19 (c_right h0 false (by decide)) ml_X9_273 vl_X9_right rfl (by decide) rfl (Nat.le_of_ble_eq_true rfl) (Nat.le_of_ble_eq_true rfl) (Nat.le_of_ble_eq_true rfl) (Nat.le_of_ble_eq_true rfl) rfl ?_
    intro v σ1 hp1
    exact p_zret dX9_isClerk_22 rfl (nz_v hp1.1) (by have g : inR x (aC O) = false := (by unfold inR; rw [decide_eq_false (fun q => Int32.not_le.mpr h2 q)]; rfl); rw [g]; exact ⟨_, rfl, hp1⟩)
  · refine p_iload_n 1 6 rfl rfl dX9_isClerk_5 rfl ?_
    refine p_aload_n 0 7 rfl rfl dX9_isClerk_6 rfl ?_
    refine p_getIE 9 2 10 rfl dX9_isClerk_7 fl_X9_283 rfl rfl hM.2.2.1.2.1 ?_
    refine p_icmp_ge 17 13 rfl rfl dX9_isClerk_10 (fun h10 => ?_) (fun h10 => ?_)
    · refine p_iconst (0) 18 rfl dX9_isClerk_17 rfl ?_
      refine p_iconst (1) 19 rfl dX9_isClerk_18 rfl ?_
      refine p_cV2x 0 0 22 rfl dX9_isClerk_19 (c_right h0 false (by decide)) ml_X9_273 vl_X9_right rfl (by decide) rfl (Nat.le_of_ble_eq_true rfl) (Nat.le_of_ble_eq_true rfl) (Nat.le_of_ble_eq_true rfl) (Nat.le_of_ble_eq_true rfl) rfl ?_
      intro v σ1 hp1
      exact p_zret dX9_isClerk_22 rfl (nz_v hp1.1) (by have g : inR x (aC O) = false := (by unfold inR; rw [decide_eq_false (fun q => Int32.not_lt.mpr h10 q), Bool.and_false]); rw [g]; exact ⟨_, rfl, hp1⟩)
    · refine p_iconst (1) 14 rfl dX9_isClerk_13 rfl ?_
      refine p_goto 18 rfl dX9_isClerk_14 ?_
      refine p_iconst (1) 19 rfl dX9_isClerk_18 rfl ?_
      refine p_cV2x 0 0 22 rfl dX9_isClerk_19 (c_right h0 true (by decide)) ml_X9_273 vl_X9_right rfl (by decide) rfl (Nat.le_of_ble_eq_true rfl) (Nat.le_of_ble_eq_true rfl) (Nat.le_of_ble_eq_true rfl) (Nat.le_of_ble_eq_true rfl) rfl ?_
      intro v σ1 hp1
      exact p_zret dX9_isClerk_22 rfl (nz_v hp1.1) (by have g : inR x (aC O) = true := (by unfold inR; rw [decide_eq_true (Int32.not_lt.mp h2), decide_eq_true (Int32.not_le.mp h10)]; rfl); rw [g]; exact ⟨_, rfl, hp1⟩)
set_option maxRecDepth 4000 in
theorem c_isWord (hM : OM σ O) (h0 : hI σ M0 0 = 0) (x : Int32) : CallOk Γ 2 0 0 mX9_isWord [.ref M0, .int x] σ (rG σ (inR x (aW O)) 1) := by
  refine p_enter rfl rfl (Nat.le_of_ble_eq_true rfl) rfl ?_
  refine p_aload_n 0 1 rfl rfl dX9_isWord_0 rfl ?_
  refine p_iload_n 1 2 rfl rfl dX9_isWord_1 rfl ?_
  refine p_if_lt 17 5 rfl rfl dX9_isWord_2 (fun h2 => ?_) (fun h2 => ?_)
  · refine p_iconst (0) 18 rfl dX9_isWord_17 rfl ?_
    refine p_iconst (1) 19 rfl dX9_isWord_18 rfl ?_
    refine p_cV2x 0 0 22 rfl dX9_isWord_19 (c_right h0 false (by decide)) ml_X9_273 vl_X9_right rfl (by decide) rfl (Nat.le_of_ble_eq_true rfl) (Nat.le_of_ble_eq_true rfl) (Nat.le_of_ble_eq_true rfl) (Nat.le_of_ble_eq_true rfl) rfl ?_
    intro v σ1 hp1
    exact p_zret dX9_isWord_22 rfl (nz_v hp1.1) (by have g : inR x (aW O) = false := (by unfold inR; rw [decide_eq_false (fun q => Int32.not_le.mpr h2 q)]; rfl); rw [g]; exact ⟨_, rfl, hp1⟩)
  · refine p_iload_n 1 6 rfl rfl dX9_isWord_5 rfl ?_
    refine p_aload_n 0 7 rfl rfl dX9_isWord_6 rfl ?_
    refine p_getIE 9 3 10 rfl dX9_isWord_7 fl_X9_286 rfl rfl hM.2.2.1.2.2.1 ?_
    refine p_icmp_ge 17 13 rfl rfl dX9_isWord_10 (fun h10 => ?_) (fun h10 => ?_)
    · refine p_iconst (0) 18 rfl dX9_isWord_17 rfl ?_
      refine p_iconst (1) 19 rfl dX9_isWord_18 rfl ?_
      refine p_cV2x 0 0 22 rfl dX9_isWord_19 (c_right h0 false (by decide)) ml_X9_273 vl_X9_right rfl (by decide) rfl (Nat.le_of_ble_eq_true rfl) (Nat.le_of_ble_eq_true rfl) (Nat.le_of_ble_eq_true rfl) (Nat.le_of_ble_eq_true rfl) rfl ?_
      intro v σ1 hp1
      exact p_zret dX9_isWord_22 rfl (nz_v hp1.1) (by have g : inR x (aW O) = false := (by unfold inR; rw [decide_eq_false (fun q => Int32.not_lt.mpr h10 q), Bool.and_false]); rw [g]; exact ⟨_, rfl, hp1⟩)
    · refine p_iconst (1) 14 rfl dX9_isWord_13 rfl ?_
      refine p_goto 18 rfl dX9_isWord_14 ?_
      refine p_iconst (1) 19 rfl dX9_isWord_18 rfl ?_
      refine p_cV2x 0 0 22 rfl dX9_isWord_19 (c_right h0 true (by decide)) ml_X9_273 vl_X9_right rfl (by decide) rfl (Nat.le_of_ble_eq_true rfl) (Nat.le_of_ble_eq_true rfl) (Nat.le_of_ble_eq_true rfl) (Nat.le_of_ble_eq_true rfl) rfl ?_
      intro v σ1 hp1
      exact p_zret dX9_isWord_22 rfl (nz_v hp1.1) (by have g : inR x (aW O) = true := (by unfold inR; rw [decide_eq_true (Int32.not_lt.mp h2), decide_eq_true (Int32.not_le.mp h10)]; rfl); rw [g]; exact ⟨_, rfl, hp1⟩)
set_option maxRecDepth 4000 in
theorem c_isTown (h0 : hI σ M0 0 = 0) (x : Int32) : CallOk Γ 2 0 0 mX9_isTown [.ref M0, .int x] σ (rG σ (inR x 4) 1) := by
  refine p_enter rfl rfl (Nat.le_of_ble_eq_true rfl) rfl ?_
  refine p_aload_n 0 1 rfl rfl dX9_isTown_0 rfl ?_
  refine p_iload_n 1 2 rfl rfl dX9_isTown_1 rfl ?_
  refine p_iconst (0) 3 rfl dX9_isTown_2 rfl ?_
  refine p_iconst (3) 4 rfl dX9_isTown_3 rfl ?_
  refine p_cS3i 7 rfl dX9_isTown_4 (c_within _ _ _) ml_X9_363 sl_X9_within (Nat.le_of_ble_eq_true rfl) (Nat.le_of_ble_eq_true rfl) rfl ?_
  refine p_iconst (1) 8 rfl dX9_isTown_7 rfl ?_
  refine p_cV2x 0 0 11 rfl dX9_isTown_8 (c_right h0 _ (by decide)) ml_X9_273 vl_X9_right rfl (by decide) rfl (Nat.le_of_ble_eq_true rfl) (Nat.le_of_ble_eq_true rfl) (Nat.le_of_ble_eq_true rfl) (Nat.le_of_ble_eq_true rfl) rfl ?_
  intro v σ1 hp1
  exact p_zret dX9_isTown_11 rfl (nz_v hp1.1) (by rw [show inR x 4 = _ from (in_wi (n := 3) (by decide)).symm]; exact ⟨_, rfl, hp1⟩)
set_option maxRecDepth 4000 in
theorem c_isWhat (h0 : hI σ M0 0 = 0) (x : Int32) {n : Nat} (hn : n < 1000) : CallOk Γ 2 0 0 mX9_isWhat [.ref M0, .int x, .int (nI n)] σ (rG σ (inR x (n + 1)) 1) := by
  refine p_enter rfl rfl (Nat.le_of_ble_eq_true rfl) rfl ?_
  refine p_aload_n 0 1 rfl rfl dX9_isWhat_0 rfl ?_
  refine p_iload_n 1 2 rfl rfl dX9_isWhat_1 rfl ?_
  refine p_iconst (0) 3 rfl dX9_isWhat_2 rfl ?_
  refine p_iload_n 2 4 rfl rfl dX9_isWhat_3 rfl ?_
  refine p_cS3i 7 rfl dX9_isWhat_4 (c_within _ _ _) ml_X9_363 sl_X9_within (Nat.le_of_ble_eq_true rfl) (Nat.le_of_ble_eq_true rfl) rfl ?_
  refine p_iconst (1) 8 rfl dX9_isWhat_7 rfl ?_
  refine p_cV2x 0 0 11 rfl dX9_isWhat_8 (c_right h0 _ (by decide)) ml_X9_273 vl_X9_right rfl (by decide) rfl (Nat.le_of_ble_eq_true rfl) (Nat.le_of_ble_eq_true rfl) (Nat.le_of_ble_eq_true rfl) (Nat.le_of_ble_eq_true rfl) rfl ?_
  intro v σ1 hp1
  exact p_zret dX9_isWhat_11 rfl (nz_v hp1.1) (by rw [← in_wi hn]; exact ⟨_, rfl, hp1⟩)
set_option maxRecDepth 4000 in
theorem c_isDays (h0 : hI σ M0 0 = 0) (x : Int32) (lo : Nat) {w : Int32} (hw : ¬ w = 0) : CallOk Γ 2 0 0 mX9_isDays [.ref M0, .int x, .int (nI lo), .int w] σ (rG σ (btw x lo 40) w) := by
  refine p_enter rfl rfl (Nat.le_of_ble_eq_true rfl) rfl ?_
  refine p_aload_n 0 1 rfl rfl dX9_isDays_0 rfl ?_
  refine p_iload_n 1 2 rfl rfl dX9_isDays_1 rfl ?_
  refine p_iload_n 2 3 rfl rfl dX9_isDays_2 rfl ?_
  refine p_bipush (40) 5 rfl dX9_isDays_3 rfl ?_
  refine p_cS3i 8 rfl dX9_isDays_5 (c_within _ _ _) ml_X9_363 sl_X9_within (Nat.le_of_ble_eq_true rfl) (Nat.le_of_ble_eq_true rfl) rfl ?_
  refine p_iload_n 3 9 rfl rfl dX9_isDays_8 rfl ?_
  refine p_cV2x 0 0 12 rfl dX9_isDays_9 (c_right h0 _ hw) ml_X9_273 vl_X9_right rfl (by decide) rfl (Nat.le_of_ble_eq_true rfl) (Nat.le_of_ble_eq_true rfl) (Nat.le_of_ble_eq_true rfl) (Nat.le_of_ble_eq_true rfl) rfl ?_
  intro v σ1 hp1
  exact p_zret dX9_isDays_12 rfl (nz_v hp1.1) ⟨_, rfl, hp1⟩
theorem row_sh {e : Bool} {f : Nat → Int32} {O : AO} {V : AW} (h : RowM e f 0 O V) : RowM e (fun k => f (k - 34)) 34 O V := by
  refine ⟨h.1, fun s q => ?_, fun c q => ?_⟩
  · have := h.2.1 s q
    show (_ → f (34 + 1 + s - 34) = _) ∧ f (34 + 10 + s - 34) = _ ∧ f (34 + 19 + s - 34) = _
    rw [show 34 + 1 + s - 34 = 0 + 1 + s by omega, show 34 + 10 + s - 34 = 0 + 10 + s by omega, show 34 + 19 + s - 34 = 0 + 19 + s by omega]; exact this
  · show f (34 + 28 + c - 34) = _
    rw [show 34 + 28 + c - 34 = 0 + 28 + c by omega]; exact h.2.2 c q
set_option maxRecDepth 4000 in
theorem l_tries {e : Bool} {V : AW} (hM : OM σ O) (hw : RowM e (hA σ mRo) 0 O V) : ∀ (n i : Nat) (σ1 : PH), i + n = 34 → (∀ j, j < i → hA σ1 mRo (34 + j) = hA σ mRo j) → FrB 34 σ σ1 → Ok Γ 1 0 0 mX9_tries 2 [some (.ref M0), some (.int (nI i))] [] σ1 (rV (fun σ' => RowM e (hA σ' mRo) 34 O V ∧ FrB 34 σ σ')) := by
  have hO := hM.2.1
  intro n
  induction n with
  | zero =>
    intro i σ1 hi hcp hF
    have hM1 := hM.frB hF
    refine p_iload_n 1 3 rfl rfl dX9_tries_2 rfl ?_
    refine p_bipush (34) 5 rfl dX9_tries_3 rfl ?_
    refine p_icmp_ge 29 8 rfl rfl dX9_tries_5 (fun h5 => ?_) (fun h5 => absurd (nI_le (a := 34) (b := i) (by omega) (by omega)) h5)
    exact p_vret dX9_tries_29 rfl ⟨rfl, by
   refine (row_sh hw).eq hO.1 hO.2.1 (fun k h1 h2 => ?_)
   have q := hcp (k - 34) (by omega); rwa [show 34 + (k - 34) = k by omega] at q, hF⟩
  | succ n ih =>
    intro i σ1 hi hcp hF
    have hM1 := hM.frB hF
    refine p_iload_n 1 3 rfl rfl dX9_tries_2 rfl ?_
    refine p_bipush (34) 5 rfl dX9_tries_3 rfl ?_
    refine p_icmp_ge 29 8 rfl rfl dX9_tries_5 (fun h5 => absurd h5 (nI_ge (a := i) (b := 34) (by omega) (by omega))) (fun h5 => ?_)
    refine p_aload_n 0 9 rfl rfl dX9_tries_8 rfl ?_
    refine p_getR 9 44 12 rfl dX9_tries_9 fl_X9_66 rfl rfl (show hR _ M0 44 = mRo from hM1.1 44) (by decide) ?_
    refine p_bipush (34) 14 rfl dX9_tries_12 rfl ?_
    refine p_iload_n 1 15 rfl rfl dX9_tries_14 rfl ?_
    refine p_iadd 16 rfl dX9_tries_15 ?_
    refine p_aload_n 0 17 rfl rfl dX9_tries_16 rfl ?_
    refine p_getR 9 44 20 rfl dX9_tries_17 fl_X9_66 rfl rfl (show hR _ M0 44 = mRo from hM1.1 44) (by decide) ?_
    refine p_iload_n 1 21 rfl rfl dX9_tries_20 rfl ?_
    have ei : hA σ1 mRo i = hA σ mRo i := hF.2 i (by omega)
    refine p_ialdE 22 rfl dX9_tries_21 (i := i) rfl (by show i < 68; omega) ei ?_
    rw [ix0 34 i 34 rfl]
    refine p_iastE 23 rfl dX9_tries_22 (i := 34 + i) rfl (by show _ < 68; omega) ?_
    refine p_inc_1 26 rfl dX9_tries_23 (1) rfl (Nat.le_of_ble_eq_true rfl) rfl ?_
    refine p_goto 2 rfl dX9_tries_26 ?_
    rw [nI_1]
    refine ih (i + 1) _ (by omega) (fun j hj => ?_) (hF.tr (FrB.row (by omega)))
    rw [sA_s]
    rcases Nat.lt_or_ge j i with w | w
    · rw [pk_un (by omega)]; exact hcp j w
    · rw [show j = i by omega, pk_us]
set_option maxRecDepth 4000 in
theorem c_tries {e : Bool} {V : AW} (hM : OM σ O) (hw : RowM e (hA σ mRo) 0 O V) : CallOk Γ 1 0 0 mX9_tries [.ref M0] σ (rV (fun σ' => RowM e (hA σ' mRo) 34 O V ∧ FrB 34 σ σ')) := by
  refine p_enter rfl rfl (Nat.le_of_ble_eq_true rfl) rfl ?_
  refine p_iconst (0) 1 rfl dX9_tries_0 rfl ?_
  refine p_ist_n1 2 rfl rfl dX9_tries_1 (Nat.le_of_ble_eq_true rfl) rfl ?_
  exact l_tries hM hw 34 0 σ (by omega) (fun j hj => absurd hj (Nat.not_lt_zero _)) FrB.rf
set_option maxRecDepth 4000 in
theorem l_daysGo {e : Bool} {V : AW} {k : Nat} (hM : OM σ O) (hv : OkV O V) (hk : vD V + k ≤ 100000) : ∀ (n i : Nat) (σ1 : PH), i + n = k → RowM e (hA σ1 mRo) 34 O (daysF O i V) → FrB 34 σ σ1 → Ok Γ 7 0 0 mX9_daysGo 2 [some (.ref M0), some (.int (nI k)), some (.int (nI i))] [] σ1 (rV (fun σ' => RowM e (hA σ' mRo) 34 O (daysF O k V) ∧ FrB 34 σ σ')) := by
  have hO := hM.2.1
  intro n
  induction n with
  | zero =>
    intro i σ1 hi hw1 hF
    have hM1 := hM.frB hF
    refine p_iload_n 2 3 rfl rfl dX9_daysGo_2 rfl ?_
    refine p_iload_n 1 4 rfl rfl dX9_daysGo_3 rfl ?_
    refine p_icmp_ge 19 7 rfl rfl dX9_daysGo_4 (fun h4 => ?_) (fun h4 => absurd (nI_le (a := k) (b := i) (by omega) (by omega)) h4)
    exact p_vret dX9_daysGo_19 rfl ⟨rfl, by rw [show k = i by omega]; exact hw1, hF⟩
  | succ n ih =>
    intro i σ1 hi hw1 hF
    have hM1 := hM.frB hF
    refine p_iload_n 2 3 rfl rfl dX9_daysGo_2 rfl ?_
    refine p_iload_n 1 4 rfl rfl dX9_daysGo_3 rfl ?_
    refine p_icmp_ge 19 7 rfl rfl dX9_daysGo_4 (fun h4 => absurd h4 (nI_ge (a := i) (b := k) (by omega) (by omega))) (fun h4 => ?_)
    refine p_aload_n 0 8 rfl rfl dX9_daysGo_7 rfl ?_
    refine p_bipush (34) 10 rfl dX9_daysGo_8 rfl ?_
    refine p_cV1v 0 0 13 rfl dX9_daysGo_10 (c_dayGoes hM1 hw1 (daysF_ok hO hv i (by omega)) (by decide)) ml_X9_357 vl_X9_dayGoes rfl (by decide) rfl (Nat.le_of_ble_eq_true rfl) (Nat.le_of_ble_eq_true rfl) (Nat.le_of_ble_eq_true rfl) (Nat.le_of_ble_eq_true rfl) rfl ?_
    intro σ2 hp2
    refine p_inc_2 16 rfl dX9_daysGo_13 (1) rfl (Nat.le_of_ble_eq_true rfl) rfl ?_
    refine p_goto 2 rfl dX9_daysGo_16 ?_
    rw [nI_1]
    exact ih (i + 1) σ2 (by omega) hp2.1 (hF.tr hp2.2)
set_option maxRecDepth 4000 in
theorem c_daysGo {e : Bool} {V : AW} {k : Nat} (hM : OM σ O) (hw : RowM e (hA σ mRo) 34 O V) (hv : OkV O V) (hk : vD V + k ≤ 100000) : CallOk Γ 7 0 0 mX9_daysGo [.ref M0, .int (nI k)] σ (rV (fun σ' => RowM e (hA σ' mRo) 34 O (daysF O k V) ∧ FrB 34 σ σ')) := by
  refine p_enter rfl rfl (Nat.le_of_ble_eq_true rfl) rfl ?_
  refine p_iconst (0) 1 rfl dX9_daysGo_0 rfl ?_
  refine p_ist_n2 2 rfl rfl dX9_daysGo_1 (Nat.le_of_ble_eq_true rfl) rfl ?_
  exact l_daysGo hM hv hk k 0 σ (by omega) hw FrB.rf
set_option maxRecDepth 4000 in
theorem c_goesTo {e : Bool} {V : AW} {k : Nat} (hM : OM σ O) (hw : RowM e (hA σ mRo) 0 O V) (hv : OkV O V) (hk : vD V + k ≤ 100000) : CallOk Γ 8 0 0 mX9_goesTo [.ref M0, .int (nI k)] σ (rV (fun σ' => RowM e (hA σ' mRo) 34 O (daysF O k V) ∧ FrB 34 σ σ')) := by
  refine p_enter rfl rfl (Nat.le_of_ble_eq_true rfl) rfl ?_
  refine p_aload_n 0 1 rfl rfl dX9_goesTo_0 rfl ?_
  refine p_cV0v 0 0 4 rfl dX9_goesTo_1 (c_tries hM hw) ml_X9_420 vl_X9_tries rfl (by decide) rfl (Nat.le_of_ble_eq_true rfl) (Nat.le_of_ble_eq_true rfl) (Nat.le_of_ble_eq_true rfl) (Nat.le_of_ble_eq_true rfl) rfl ?_
  intro σ1 hp1
  have hM1 := hM.frB hp1.2
  refine p_aload_n 0 5 rfl rfl dX9_goesTo_4 rfl ?_
  refine p_iload_n 1 6 rfl rfl dX9_goesTo_5 rfl ?_
  refine p_cV1v 0 0 9 rfl dX9_goesTo_6 (c_daysGo hM1 hp1.1 hv hk) ml_X9_423 vl_X9_daysGo rfl (by decide) rfl (Nat.le_of_ble_eq_true rfl) (Nat.le_of_ble_eq_true rfl) (Nat.le_of_ble_eq_true rfl) (Nat.le_of_ble_eq_true rfl) rfl ?_
  intro σ2 hp2
  exact p_vret dX9_goesTo_9 rfl ⟨rfl, hp2.1, hp1.2.tr hp2.2⟩
end C85
