/-! ===== the reference: acts are kept ===== -/
theorem RowM.cp {e : Bool} {f g : Nat → Int32} {b b' : Nat} {O : AO} {V : AW} (h : RowM e f b O V) (hs : aS O ≤ 9) (hc : aC O ≤ 6) (hg : ∀ j, j < 34 → g (b' + j) = f (b + j)) : RowM e g b' O V := by
  refine ⟨by have := hg 0 (by decide); simp only [Nat.add_zero] at this; rw [this]; exact h.1, fun s q => ?_, fun c q => ?_⟩
  · have := h.2.1 s q
    rw [Nat.add_assoc b' 1 s, Nat.add_assoc b' 10 s, Nat.add_assoc b' 19 s, hg (1 + s) (by omega), hg (10 + s) (by omega), hg (19 + s) (by omega), ← Nat.add_assoc, ← Nat.add_assoc, ← Nat.add_assoc]; exact this
  · rw [Nat.add_assoc, hg (28 + c) (by omega), ← Nat.add_assoc]; exact h.2.2 c q
def AcM (σ : PH) (O : AO) (Ls : List AW) : Prop := hI σ M0 46 = nI Ls.length ∧ ∀ i V, Ls[i]? = some V → RowM true (hA σ mAh) (34 * i) O V
theorem RM.act {σ σ' : PH} {A A' : AT} (h : RM σ A) (hf : Fr [(M0, 0), (M0, 46)] [mRo, mAh, mRf, mTo, mPi] σ σ') (hk : OkT A') (hkn : OkKn A') (eO : tO A' = tO A) (eH : tH A' = tH A) (eI : tI A' = tI A) (eN : tN A' = tN A) (eF : tF A' = tF A) (eB : tB A' = tB A)
    (hrow : RowM true (hA σ' mRo) 0 (tO A') (tV A')) (hac : AcM σ' (tO A') (tA A')) (hrf : hA σ' mRf 0 = tX A' ∧ hA σ' mRf 1 = tY A' ∧ hA σ' mRf 2 = tZ A') : RM σ' A' := by
  have e : ∀ r, r ∈ [mRl, mRd, mWl, mWr, mCd, mHe, iRo, iAh, iHe, mTp, mCo] → hA σ' r = hA σ r := fun r hr => hf.2.2.2.2.2 r ((show ∀ r ∈ [mRl, mRd, mWl, mWr, mCd, mHe, iRo, iAh, iHe, mTp, mCo], r ∉ [mRo, mAh, mRf, mTo, mPi] by decide) r hr)
  have eJ : ∀ k, k ≠ 0 → k ≠ 46 → hI σ' M0 k = hI σ M0 k := fun k h1 h2 => hf.2.1 M0 k (by simp [h1, h2])
  obtain ⟨h1, h2, h3, h4, h5, h6, h7, h8, h9⟩ := h
  refine ⟨?_, hk, hrow, hac, ?_, ?_, ?_, hrf, by rw [e mCo (by simp)]; exact h9.1, hkn⟩
  · rw [eO]
    obtain ⟨g1, g2, g3, g4, g5, g6, g7⟩ := h1
    refine ⟨fun k => by rw [hf.2.2.2.1]; exact g1 k, g2, by rw [eJ 1 (by decide) (by decide), eJ 2 (by decide) (by decide), eJ 3 (by decide) (by decide), eJ 4 (by decide) (by decide)]; exact g3, fun c hc => by rw [e mRl (by simp), e mRd (by simp)]; exact g4 c hc, fun k hk => by rw [e mWl (by simp), e mWr (by simp)]; exact g5 k hk, ?_, ?_⟩
    · unfold RuM at g6 ⊢; rw [eJ 5 (by decide) (by decide), e mCd (by simp)]; exact g6
    · unfold RuM at g7 ⊢; rw [eJ 6 (by decide) (by decide), e mCd (by simp)]; exact g7
  · rw [eH, eJ 51 (by decide) (by decide), e mHe (by simp)]; exact h5
  · rw [eI, eO]
    unfold RpJ at h6 ⊢
    cases hi : tI A with
    | none => rw [hi] at h6; show hI σ' M0 56 = 0; rw [eJ 56 (by decide) (by decide)]; exact h6
    | some q =>
      rw [hi] at h6
      simp only [eJ 56 (by decide) (by decide), eJ 57 (by decide) (by decide), eJ 58 (by decide) (by decide), e iRo (by simp), e iAh (by simp), e iHe (by simp)]
      exact h6
  · rw [eN, eF, eB, eJ 13 (by decide) (by decide), eJ 15 (by decide) (by decide), e mTp (by simp)]; exact h7
theorem FrA.ch {σ σ' : PH} (h : Fr [(M0, 0), (M0, 46)] [mRo, mAh, mRf, mTo, mPi] σ σ') : ChM σ σ' := by
  refine ⟨h.1, h.2.2.2.2.1, h.2.2.2.1, fun r hr => ⟨?_, ?_⟩⟩
  · funext k
    refine h.2.1 r k (fun z => ?_)
    simp only [List.mem_cons, List.not_mem_nil, or_false, Prod.mk.injEq] at z
    rcases z with z | z <;> (rw [z.1] at hr; exact absurd hr (by decide))
  · refine h.2.2.2.2.2 r (fun z => ?_)
    simp only [List.mem_cons, List.not_mem_nil, or_false] at z
    rcases z with z | z | z | z | z <;> (rw [z] at hr; exact absurd hr (by decide))
theorem Fr.up {XI YI : List (Nat × Nat)} {X Y : List Nat} {σ σ' : PH} (h : Fr XI X σ σ') (h1 : XI.all (fun r => YI.contains r) = true) (h2 : X.all (fun r => Y.contains r) = true) : Fr YI Y σ σ' :=
  ⟨h.1, fun r k hq => h.2.1 r k (fun z => hq (by have := List.all_eq_true.mp h1 _ z; simpa using this)), h.2.2.1, h.2.2.2.1, h.2.2.2.2.1, fun r hr => h.2.2.2.2.2 r (fun z => hr (by have := List.all_eq_true.mp h2 _ z; simpa using this))⟩
section C94
variable {Γ : Gm} {σ : PH} {A : AT}
set_option maxRecDepth 4000 in
theorem c_refuses (hr : ∀ k, hR σ M0 k = mRef k) {w : Nat} (hw : w < 3) : CallOk Γ 1 0 0 mX9_refuses [.ref M0, .int (nI w)] σ (rX (fun v σ' => v = -1 ∧ σ' = sA σ mRf w (hA σ mRf w + 1))) := by
  refine p_enter rfl rfl (Nat.le_of_ble_eq_true rfl) rfl ?_
  refine p_aload_n 0 1 rfl rfl dX9_refuses_0 rfl ?_
  refine p_getR 9 16 4 rfl dX9_refuses_1 fl_X9_38 rfl rfl (show hR _ M0 16 = mRf from hr 16) (by decide) ?_
  refine p_iload_n 1 5 rfl rfl dX9_refuses_4 rfl ?_
  refine p_dup2 6 rfl dX9_refuses_5 rfl rfl ?_
  refine p_ialdE 7 rfl dX9_refuses_6 (i := w) rfl (by show w < 3; omega) rfl ?_
  refine p_iconst (1) 8 rfl dX9_refuses_7 rfl ?_
  refine p_iadd 9 rfl dX9_refuses_8 ?_
  refine p_iastE 10 rfl dX9_refuses_9 (i := w) rfl (by show w < 3; omega) ?_
  refine p_iconst (-1) 11 rfl dX9_refuses_10 rfl ?_
  exact p_iret dX9_refuses_11 rfl ⟨_, rfl, rfl, rfl⟩
theorem RM.ref {w : Nat} (h : RM σ A) (hw : w < 3) : RM (sA σ mRf w (hA σ mRf w + 1)) (uR A w) := by
  obtain ⟨h1, h2, h3, h4, h5, h6, h7, h8, h9⟩ := id h
  refine h.act (Fr.sA (by simp)) h2 h9.2 rfl rfl rfl rfl rfl rfl (by rw [sA_o (show mRo ≠ mRf by decide)]; exact h3) ⟨h4.1, fun i V hi => by rw [sA_o (show mAh ≠ mRf by decide)]; exact h4.2 i V hi⟩ ?_
  rw [sA_s]
  have : w = 0 ∨ w = 1 ∨ w = 2 := by omega
  rcases this with rfl | rfl | rfl
  · rw [pk_us, pk_un (by decide), pk_un (by decide)]; exact ⟨by rw [h8.1]; rfl, h8.2.1, h8.2.2⟩
  · rw [pk_us, pk_un (by decide), pk_un (by decide)]; exact ⟨h8.1, by rw [h8.2.1]; rfl, h8.2.2⟩
  · rw [pk_us, pk_un (by decide), pk_un (by decide)]; exact ⟨h8.1, h8.2.1, by rw [h8.2.2]; rfl⟩
set_option maxRecDepth 4000 in
theorem l_kShift (hr : ∀ k, hR σ M0 k = mRef k) {f : Nat → Int32} {Q : PO → PH → Prop} (kk : ∀ (σ2 : PH) (x1 : Option Value), (∀ j, j < 1326 → hA σ2 mAh j = f (j + 34)) → Fr [] [mAh] σ σ2 → Ok Γ 1 0 0 mX9_keeps 40 [some (.ref M0), x1] [] σ2 Q) : ∀ (n i : Nat) (σ1 : PH), i + n = 1326 → (∀ j, j < i → hA σ1 mAh j = f (j + 34)) → (∀ j, i ≤ j → hA σ1 mAh j = f j) → Fr [] [mAh] σ σ1 → Ok Γ 1 0 0 mX9_keeps 12 [some (.ref M0), some (.int (nI (34 + i)))] [] σ1 Q := by
  intro n
  induction n with
  | zero =>
    intro i σ1 hi h1 h2 hF
    have hr1 : ∀ k, hR σ1 M0 k = mRef k := fun k => by rw [hF.2.2.2.1]; exact hr k
    refine p_iload_n 1 13 rfl rfl dX9_keeps_12 rfl ?_
    refine p_sipush (1360) 16 rfl dX9_keeps_13 rfl ?_
    refine p_icmp_ge 40 19 rfl rfl dX9_keeps_16 (fun h16 => ?_) (fun h16 => absurd (nI_le (a := 1360) (b := 34 + i) (by omega) (by omega)) h16)
    exact kk σ1 _ (fun j hj => h1 j (by omega)) hF
  | succ n ih =>
    intro i σ1 hi h1 h2 hF
    have hr1 : ∀ k, hR σ1 M0 k = mRef k := fun k => by rw [hF.2.2.2.1]; exact hr k
    refine p_iload_n 1 13 rfl rfl dX9_keeps_12 rfl ?_
    refine p_sipush (1360) 16 rfl dX9_keeps_13 rfl ?_
    refine p_icmp_ge 40 19 rfl rfl dX9_keeps_16 (fun h16 => absurd h16 (nI_ge (a := 34 + i) (b := 1360) (by omega) (by omega))) (fun h16 => ?_)
    refine p_aload_n 0 20 rfl rfl dX9_keeps_19 rfl ?_
    refine p_getR 9 45 23 rfl dX9_keeps_20 fl_X9_69 rfl rfl (show hR _ M0 45 = mAh from hr1 45) (by decide) ?_
    refine p_iload_n 1 24 rfl rfl dX9_keeps_23 rfl ?_
    refine p_bipush (34) 26 rfl dX9_keeps_24 rfl ?_
    refine p_isub 27 rfl dX9_keeps_26 ?_
    rw [show nI (34 + i) - 34 = nI i from (nI_sb (a := 34 + i) (b := 34) (by omega)).trans (by rw [Nat.add_sub_cancel_left])]
    refine p_aload_n 0 28 rfl rfl dX9_keeps_27 rfl ?_
    refine p_getR 9 45 31 rfl dX9_keeps_28 fl_X9_69 rfl rfl (show hR _ M0 45 = mAh from hr1 45) (by decide) ?_
    refine p_iload_n 1 32 rfl rfl dX9_keeps_31 rfl ?_
    have ej : hA σ1 mAh (34 + i) = f (34 + i) := h2 _ (by omega)
    refine p_ialdE 33 rfl dX9_keeps_32 (i := 34 + i) rfl (by show _ < 1360; omega) ej ?_
    refine p_iastE 34 rfl dX9_keeps_33 (i := i) rfl (by show _ < 1360; omega) ?_
    refine p_inc_1 37 rfl dX9_keeps_34 (1) rfl (Nat.le_of_ble_eq_true rfl) rfl ?_
    refine p_goto 12 rfl dX9_keeps_37 ?_
    rw [nI_1]
    refine ih (i + 1) _ (by omega) (fun j hj => ?_) (fun j hj => ?_) (hF.tr (Fr.sA (by simp)))
    · rw [sA_s]
      rcases Nat.lt_or_ge j i with w | w
      · rw [pk_un (by omega)]; exact h1 j w
      · rw [show j = i by omega, pk_us, Nat.add_comm]
    · rw [sA_s, pk_un (by omega)]; exact h2 j (by omega)
set_option maxRecDepth 4000 in
theorem l_kCopy (hr : ∀ k, hR σ M0 k = mRef k) {a : Nat} (ha4 : a < 40) (ha : hI σ M0 46 = nI a) : ∀ (n i : Nat) (σ1 : PH), i + n = 34 → (∀ j, j < i → hA σ1 mAh (34 * a + j) = hA σ mRo j) → (∀ j, j < 34 * a → hA σ1 mAh j = hA σ mAh j) → Fr [] [mAh] σ σ1 → Ok Γ 1 0 0 mX9_keeps 52 [some (.ref M0), some (.int (nI i))] [] σ1 (rV (fun σ' => hI σ' M0 46 = nI (a + 1) ∧ (∀ j, j < 34 * a → hA σ' mAh j = hA σ mAh j) ∧ (∀ j, j < 34 → hA σ' mAh (34 * a + j) = hA σ mRo j) ∧ Fr [(M0, 46)] [mAh] σ σ')) := by
  intro n
  induction n with
  | zero =>
    intro i σ1 hi h1 h2 hF
    have hr1 : ∀ k, hR σ1 M0 k = mRef k := fun k => by rw [hF.2.2.2.1]; exact hr k
    have ha1 : hI σ1 M0 46 = nI a := (hF.2.1 M0 46 (by simp)).trans ha
    refine p_iload_n 1 53 rfl rfl dX9_keeps_52 rfl ?_
    refine p_bipush (34) 55 rfl dX9_keeps_53 rfl ?_
    refine p_icmp_ge 84 58 rfl rfl dX9_keeps_55 (fun h55 => ?_) (fun h55 => absurd (nI_le (a := 34) (b := i) (by omega) (by omega)) h55)
    refine p_aload_n 0 85 rfl rfl dX9_keeps_84 rfl ?_
    refine p_dup 86 rfl dX9_keeps_85 rfl ?_
    refine p_getIE 9 46 89 rfl dX9_keeps_86 fl_X9_296 rfl rfl ha1 ?_
    refine p_iconst (1) 90 rfl dX9_keeps_89 rfl ?_
    refine p_iadd 91 rfl dX9_keeps_90 ?_
    rw [nI_1]
    refine p_putI 9 46 94 rfl dX9_keeps_91 fl_X9_296 rfl rfl (Or.inl rfl) ?_
    exact p_vret dX9_keeps_94 rfl ⟨rfl, hI_sI _ _ _ _, h2, fun j hj => h1 j (by omega), (hF.up (by decide) (by decide)).tr (Fr.sI (by simp))⟩
  | succ n ih =>
    intro i σ1 hi h1 h2 hF
    have hr1 : ∀ k, hR σ1 M0 k = mRef k := fun k => by rw [hF.2.2.2.1]; exact hr k
    have ha1 : hI σ1 M0 46 = nI a := (hF.2.1 M0 46 (by simp)).trans ha
    refine p_iload_n 1 53 rfl rfl dX9_keeps_52 rfl ?_
    refine p_bipush (34) 55 rfl dX9_keeps_53 rfl ?_
    refine p_icmp_ge 84 58 rfl rfl dX9_keeps_55 (fun h55 => absurd h55 (nI_ge (a := i) (b := 34) (by omega) (by omega))) (fun h55 => ?_)
    refine p_aload_n 0 59 rfl rfl dX9_keeps_58 rfl ?_
    refine p_getR 9 45 62 rfl dX9_keeps_59 fl_X9_69 rfl rfl (show hR _ M0 45 = mAh from hr1 45) (by decide) ?_
    refine p_bipush (34) 64 rfl dX9_keeps_62 rfl ?_
    refine p_aload_n 0 65 rfl rfl dX9_keeps_64 rfl ?_
    refine p_getIE 9 46 68 rfl dX9_keeps_65 fl_X9_296 rfl rfl ha1 ?_
    refine p_imul 69 rfl dX9_keeps_68 ?_
    refine p_iload_n 1 70 rfl rfl dX9_keeps_69 rfl ?_
    refine p_iadd 71 rfl dX9_keeps_70 ?_
    rw [show (34 : Int32) = nI 34 from rfl, nI_mu, nI_add]
    refine p_aload_n 0 72 rfl rfl dX9_keeps_71 rfl ?_
    refine p_getR 9 44 75 rfl dX9_keeps_72 fl_X9_66 rfl rfl (show hR _ M0 44 = mRo from hr1 44) (by decide) ?_
    refine p_iload_n 1 76 rfl rfl dX9_keeps_75 rfl ?_
    have ei : hA σ1 mRo i = hA σ mRo i := by rw [hF.2.2.2.2.2 mRo (by decide)]
    refine p_ialdE 77 rfl dX9_keeps_76 (i := i) rfl (by show _ < 68; omega) ei ?_
    refine p_iastE 78 rfl dX9_keeps_77 (i := 34 * a + i) rfl (by show _ < 1360; omega) ?_
    refine p_inc_1 81 rfl dX9_keeps_78 (1) rfl (Nat.le_of_ble_eq_true rfl) rfl ?_
    refine p_goto 52 rfl dX9_keeps_81 ?_
    rw [nI_1]
    refine ih (i + 1) _ (by omega) (fun j hj => ?_) (fun j hj => ?_) (hF.tr (Fr.sA (by simp)))
    · rw [sA_s]
      rcases Nat.lt_or_ge j i with w | w
      · rw [pk_un (by omega)]; exact h1 j w
      · rw [show j = i by omega, pk_us]
    · rw [sA_s, pk_un (by omega)]; exact h2 j hj
theorem RM.kept {σ' : PH} (h : RM σ A) (hac : AcM σ' (tO A) (kp (tA A) (tV A))) (hf : Fr [(M0, 46)] [mAh] σ σ') : RM σ' (uV A (tV A) (kp (tA A) (tV A))) := by
  obtain ⟨h1, h2, h3, h4, h5, h6, h7, h8, h9⟩ := id h
  refine h.act (hf.up (by decide) (by decide)) ⟨h2.1, h2.2.1, h2.2.2.1, h2.2.2.2.1, h2.2.2.2.2.1, kp_len h2.2.2.2.2.2.1, fun W hW => ?_, h2.2.2.2.2.2.2.2⟩ ⟨h9.2.1, fun W hW => ?_, h9.2.2.2⟩ rfl rfl rfl rfl rfl rfl (by rw [hf.2.2.2.2.2 mRo (by decide)]; exact h3) hac (by rw [hf.2.2.2.2.2 mRf (by decide)]; exact h8)
  · rcases kp_mem hW with g | g
    · exact h2.2.2.2.2.2.2.1 W g
    · subst g; exact h2.2.2.2.2.1
  · rcases kp_mem hW with g | g
    · exact h9.2.2.1 W g
    · subst g; exact h9.2.1
set_option maxRecDepth 8000 in
theorem c_keeps (hRM : RM σ A) : CallOk Γ 1 0 0 mX9_keeps [.ref M0] σ (rV (fun σ' => RM σ' (uV A (tV A) (kp (tA A) (tV A))) ∧ Fr [(M0, 46)] [mAh] σ σ')) := by
  obtain ⟨h1, h2, h3, h4, h5, h6_, h7, h8, h9⟩ := id hRM
  have hr := h1.1
  have hO := h1.2.1
  have hle := h2.2.2.2.2.2.1
  refine p_enter rfl rfl (Nat.le_of_ble_eq_true rfl) rfl ?_
  refine p_aload_n 0 1 rfl rfl dX9_keeps_0 rfl ?_
  refine p_getIE 9 46 4 rfl dX9_keeps_1 fl_X9_296 rfl rfl h4.1 ?_
  refine p_bipush (40) 6 rfl dX9_keeps_4 rfl ?_
  refine p_icmp_ne 50 9 rfl rfl dX9_keeps_6 (fun h6 => ?_) (fun h6 => ?_)
  · have hne : ¬ (tA A).length = 40 := fun q => h6 (by rw [q]; rfl)
    have hlt : (tA A).length < 40 := by omega
    refine p_iconst (0) 51 rfl dX9_keeps_50 rfl ?_
    refine p_ist_n1 52 rfl rfl dX9_keeps_51 (Nat.le_of_ble_eq_true rfl) rfl ?_
    refine Ok.mono (l_kCopy (a := (tA A).length) hr hlt h4.1 34 0 σ (by omega) (fun j hj => absurd hj (Nat.not_lt_zero _)) (fun j hj => rfl) Fr.rf) ?_
    rintro o1 σ' ⟨e0, e1, e2, e3, e4⟩
    refine ⟨e0, hRM.kept ?_ e4, e4⟩
    have ek : (kp (tA A) (tV A)) = tA A ++ [tV A] := if_pos hlt
    rw [ek]
    refine ⟨by rw [e1]; simp, fun i V hi => ?_⟩
    rcases Nat.lt_or_ge i (tA A).length with w | w
    · rw [List.getElem?_append_left w] at hi
      exact (h4.2 i V hi).cp hO.1 hO.2.1 (fun j hj => e2 _ (by omega))
    · rw [List.getElem?_append_right w] at hi
      have hi0 : i - (tA A).length = 0 := by
        rcases Nat.eq_zero_or_pos (i - (tA A).length) with q | q
        · exact q
        · rw [List.getElem?_eq_none (by simp; omega)] at hi; cases hi
      rw [hi0] at hi
      cases hi
      rw [show i = (tA A).length by omega]
      exact (h3).cp hO.1 hO.2.1 (fun j hj => by rw [Nat.zero_add]; exact e3 j hj)
  · have h40 : (tA A).length = 40 := nI_eqI h6 (by omega) (by decide)
    refine p_bipush (34) 11 rfl dX9_keeps_9 rfl ?_
    refine p_ist_n1 12 rfl rfl dX9_keeps_11 (Nat.le_of_ble_eq_true rfl) rfl ?_
    refine l_kShift hr (f := hA σ mAh) (fun σ2 x1 hs2 hF2 => ?_) 1326 0 σ (by omega) (fun j hj => absurd hj (Nat.not_lt_zero _)) (fun j hj => rfl) Fr.rf
    have ha2 : hI σ2 M0 46 = nI 40 := (hF2.2.1 M0 46 (by simp)).trans (by rw [h4.1, h40])
    refine p_aload_n 0 41 rfl rfl dX9_keeps_40 rfl ?_
    refine p_dup 42 rfl dX9_keeps_41 rfl ?_
    refine p_getIE 9 46 45 rfl dX9_keeps_42 fl_X9_296 rfl rfl ha2 ?_
    refine p_iconst (1) 46 rfl dX9_keeps_45 rfl ?_
    refine p_isub 47 rfl dX9_keeps_46 ?_
    rw [show nI 40 - 1 = nI 39 from rfl]
    refine p_putI 9 46 50 rfl dX9_keeps_47 fl_X9_296 rfl rfl (Or.inl rfl) ?_
    refine p_iconst (0) 51 rfl dX9_keeps_50 rfl ?_
    refine p_ist_n1 52 rfl rfl dX9_keeps_51 (Nat.le_of_ble_eq_true rfl) rfl ?_
    have hr3 : ∀ k, hR (sI σ2 M0 46 (nI 39)) M0 k = mRef k := fun k => by show hR σ2 M0 k = _; rw [hF2.2.2.2.1]; exact hr k
    refine Ok.mono (l_kCopy (a := 39) hr3 (by decide) (hI_sI _ _ _ _) 34 0 _ (by omega) (fun j hj => absurd hj (Nat.not_lt_zero _)) (fun j hj => rfl) Fr.rf) ?_
    rintro o1 σ' ⟨e0, e1, e2, e3, e4⟩
    have hFF : Fr [(M0, 46)] [mAh] σ σ' := ((hF2.up (by decide) (by decide)).tr (Fr.sI (by simp))).tr e4
    refine ⟨e0, hRM.kept ?_ hFF, hFF⟩
    have ek : (kp (tA A) (tV A)) = (tA A).tail ++ [tV A] := if_neg (by omega)
    have hlt : (tA A).tail.length = 39 := by rw [List.length_tail, h40]
    rw [ek]
    refine ⟨by rw [e1]; simp [h40], fun i V hi => ?_⟩
    rcases Nat.lt_or_ge i 39 with w | w
    · rw [List.getElem?_append_left (by omega), List.getElem?_tail] at hi
      refine (h4.2 (i + 1) V hi).cp hO.1 hO.2.1 (fun j hj => ?_)
      rw [e2 _ (by omega)]
      show hA σ2 mAh (34 * i + j) = _
      rw [hs2 _ (by omega)]
      congr 1; omega
    · rw [List.getElem?_append_right (by omega), hlt] at hi
      have hi0 : i - 39 = 0 := by
        rcases Nat.eq_zero_or_pos (i - 39) with q | q
        · exact q
        · rw [List.getElem?_eq_none (by simp; omega)] at hi; cases hi
      rw [hi0] at hi
      cases hi
      rw [show i = 39 by omega]
      refine (h3).cp hO.1 hO.2.1 (fun j hj => ?_)
      rw [Nat.zero_add, e3 j hj]
      show hA σ2 mRo j = _
      rw [hF2.2.2.2.2.2 mRo (by decide)]
end C94
