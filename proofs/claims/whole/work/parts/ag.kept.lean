/-! ===== the reference: an office from the tape ===== -/
theorem Fj.chm {XI X : List Nat} {σ σ' : PH} (h : Fj XI X σ σ') (hx : X.all (fun r => mdl (sn r)) = true) : ChM σ σ' :=
  ⟨h.1, h.2.1, h.2.2.1, fun r hr => ⟨funext fun k => h.2.2.2.1 r k (fun e => by rw [e] at hr; exact absurd hr (by decide)), h.2.2.2.2 r (fun hm => by have := List.all_eq_true.mp hx r hm; rw [hr] at this; cases this)⟩⟩
theorem Fr.j {X : List Nat} {σ σ' : PH} (h : Fr [] X σ σ') : Fj [] X σ σ' := ⟨h.1, h.2.2.2.2.1, h.2.2.2.1, fun r k _ => h.2.1 r k (by simp), h.2.2.2.2.2⟩
theorem OM.fj {σ σ' : PH} {O : AO} {XI X : List Nat} (h : OM σ O) (hf : Fj XI X σ σ') (h1 : [1, 2, 3, 4, 5, 6].all (fun k => !XI.contains k) = true) (h2 : [mRl, mRd, mWl, mWr, mCd].all (fun k => !X.contains k) = true) : OM σ' O := by
  have e : ∀ r, r ∈ [mRl, mRd, mWl, mWr, mCd] → hA σ' r = hA σ r := fun r hr => hf.2.2.2.2 r (by have := List.all_eq_true.mp h2 r hr; simpa using this)
  have eJ : ∀ k, k ∈ [1, 2, 3, 4, 5, 6] → hI σ' M0 k = hI σ M0 k := fun k hk => hf.i (by have := List.all_eq_true.mp h1 k hk; simpa using this)
  obtain ⟨g1, g2, g3, g4, g5, g6, g7⟩ := h
  refine ⟨fun k => by rw [hf.2.2.1]; exact g1 k, g2, by rw [eJ 1 (by simp), eJ 2 (by simp), eJ 3 (by simp), eJ 4 (by simp)]; exact g3, fun c hc => by rw [e mRl (by simp), e mRd (by simp)]; exact g4 c hc, fun k hk => by rw [e mWl (by simp), e mWr (by simp)]; exact g5 k hk, ?_, ?_⟩
  · unfold RuM at g6 ⊢; rw [eJ 5 (by simp), e mCd (by simp)]; exact g6
  · unfold RuM at g7 ⊢; rw [eJ 6 (by simp), e mCd (by simp)]; exact g7
theorem RM_uF {σ σ' : PH} {A : AT} {p : Int32} (h : RM σ A) (hf : Fj [0, 13, 14, 15, 17, 18, 19, 20, 21, 22, 23, 25, 26, 27, 28, 29, 30, 31, 32, 33, 34, 35] [nRd, nRl, nWl, nWr, nRw, rCd, mWt, mTs, mRf] σ σ') (h13 : hI σ' M0 13 = 0) (h15 : hI σ' M0 15 = p) (h16 : hA σ' mRf = upd (hA σ mRf) 0 (tX A + 1)) (hk : OkT (uF A p)) : RM σ' (uF A p) := by
  obtain ⟨h1, h2, h3, h4, h5, h6, h7, h8, h9, h10⟩ := h
  have e : ∀ r, r ∈ [mRo, mAh, mHe, iRo, iAh, iHe, mCo] → hA σ' r = hA σ r := fun r hr => hf.2.2.2.2 r ((show ∀ r ∈ [mRo, mAh, mHe, iRo, iAh, iHe, mCo], r ∉ [nRd, nRl, nWl, nWr, nRw, rCd, mWt, mTs, mRf] by decide) r hr)
  refine ⟨h1.fj hf (by decide) (by decide), hk, ?_, ⟨(hf.i (by decide)).trans h4.1, fun i V hi => ?_⟩, ⟨(hf.i (by decide)).trans h5.1, fun i q hi => ?_⟩, RpJ.fr h6 (hf.i (by decide)) (hf.i (by decide)) (hf.i (by decide)) (e iRo (by simp)) (e iAh (by simp)) (e iHe (by simp)), ⟨h13, h15, fun i hi => absurd hi (Nat.not_lt_zero _)⟩, ⟨?_, ?_, ?_⟩, by rw [e mCo (by simp)]; exact h9, h10⟩
  · rw [e mRo (by simp)]; exact h3
  · rw [e mAh (by simp)]; exact h4.2 i V hi
  · rw [e mHe (by simp)]; exact h5.2 i q hi
  · rw [h16, pk_us]; rfl
  · rw [h16, pk_un (by decide)]; exact h8.2.1
  · rw [h16, pk_un (by decide)]; exact h8.2.2
theorem RuN.m {σ σ' : PH} {f f' : Nat} {w : Bool} {o : List Int32} {q : Option (List Int32)} (h : RuN σ f w o q) (hc : CO σ o) (hl : o.length ≤ 1400) (e : hI σ' M0 f' = hI σ M0 f) (ec : ∀ j, j < 1400 → hA σ' mCd j = hA σ rCd j) : RuM σ' f' w q := by
  cases q with
  | none => exact e.trans h
  | some ps =>
    obtain ⟨a, b, p, c1, c2, c3⟩ := h
    refine ⟨a, b, p, e.trans c1, by omega, fun i hi => ?_⟩
    have hi2 : i < (encL w ps).length + 1 := by rw [List.length_append] at hi; exact hi
    rw [ec _ (by omega), hc.2 _ (by omega)]; exact c3 i hi
theorem RM_new {σ σ2 σ' : PH} {A : AT} {B : OB} {o : List Int32} (h : RM σ A) (hB : RBm σ2 B o) (hc : CO σ2 o) (hol : o.length ≤ 1400) (hr : ∀ k, hR σ' M0 k = mRef k) (i1 : hI σ' M0 1 = nI (aS B.1)) (i2 : hI σ' M0 2 = nI (aC B.1)) (i3 : hI σ' M0 3 = nI (aW B.1)) (i4 : hI σ' M0 4 = nI (aK B.1)) (i5 : hI σ' M0 5 = hI σ2 M0 29) (i6 : hI σ' M0 6 = hI σ2 M0 30)
    (c7 : ∀ j, j < 36 → hA σ' mRd j = hA σ2 nRd j) (c8 : ∀ j, j < 6 → hA σ' mRl j = hA σ2 nRl j) (c9 : ∀ j, j < 12 → hA σ' mWl j = hA σ2 nWl j) (c10 : ∀ j, j < 12 → hA σ' mWr j = hA σ2 nWr j) (c11 : ∀ j, j < 1400 → hA σ' mCd j = hA σ2 rCd j) (cR : ∀ j, j < 34 → hA σ' mRo j = hA σ2 nRw j)
    (z46 : hI σ' M0 46 = 0) (z51 : hI σ' M0 51 = 0) (z56 : hI σ' M0 56 = 0) (z13 : hI σ' M0 13 = 0) (i15 : hI σ' M0 15 = -1) (eRf : hA σ' mRf = hA σ mRf) (eCo : hA σ' mCo = hA σ mCo) {V : AW} (hV : nwW B V) (hk : OkT (uO A B.1 V)) : RM σ' (uO A B.1 V) := by
  obtain ⟨b1, b2, b3, b4, b5, b6, b7⟩ := hB
  obtain ⟨v1, v2, v3⟩ := hV
  have hs9 := b1.1
  have hc6 := b1.2.1
  have hw12 := b1.2.2.1
  refine ⟨⟨hr, b1, ⟨i1, i2, i3, i4⟩, fun c hc => ?_, fun k hk => ?_, b6.m hc hol i5 c11, b7.m hc hol i6 c11⟩, hk, ⟨?_, fun s hs => ?_, fun c hc => ?_⟩, ⟨z46, fun i V hi => by cases hi⟩, ⟨z51, fun i q hi => by cases hi⟩, z56, ⟨z13, i15, fun i hi => absurd hi (Nat.not_lt_zero _)⟩, by rw [eRf]; exact h.2.2.2.2.2.2.2.1, by rw [eCo]; exact h.2.2.2.2.2.2.2.2.1, ⟨fun c hc => ?_, (fun V hV => by cases hV), True.intro⟩⟩
  · have hc' : c < aC B.1 := hc
    have ht := (b1.2.2.2.2.1 c hc').2.1
    refine ⟨by rw [c8 c (by omega)]; exact (b4 c hc').1, fun j hj => ?_⟩
    have hj' : j < aT B.1 c := hj
    rw [c7 _ (by omega)]; exact (b4 c hc').2 j hj'
  · have hk' : k < aW B.1 := hk
    rw [c9 k (by omega), c10 k (by omega)]; exact b5 k hk'
  · rw [cR 0 (by decide), b3.1]; show _ = nI (vD V); rw [v1]; rfl
  · have hs' : s < aS B.1 := hs
    have q := b3.2.1 s hs'
    have u := v2 s hs'
    refine ⟨fun _ => ?_, ?_, ?_⟩
    · rw [cR _ (by omega), show 0 + 1 + s = 1 + s by omega, q.1]; show _ = nI (vL V s); rw [u.1]
    · rw [cR _ (by omega), show 0 + 10 + s = 10 + s by omega, q.2.1]; show _ = nI (vR V s); rw [u.2.1]
    · rw [cR _ (by omega), show 0 + 19 + s = 19 + s by omega, q.2.2.1]; show _ = atI (vP V s); rw [u.2.2]
      unfold atI; rw [if_neg (by omega), if_pos (by omega)]; rfl
  · have hc' : c < aC B.1 := hc
    rw [cR _ (by omega), show 0 + 28 + c = 28 + c by omega, b3.2.2 c hc']; show _ = nI (vK V c); rw [v3 c]; rfl
  · show vK V c < _; rw [v3 c]; exact Nat.two_pow_pos _
theorem okNil : OkO bNil.1 := ⟨Nat.zero_le _, Nat.zero_le _, Nat.zero_le _, Nat.zero_le _, fun c hc => absurd hc (Nat.not_lt_zero _), fun c hc => absurd hc (Nat.not_lt_zero _)⟩
theorem hI_sAx (σ : PH) (r i : Nat) (x : Int32) : hI (sA σ r i x) = hI σ := rfl
theorem put_st {σ τ : PH} {FZ FA : List Nat} {fs : List (Nat × Int32)} {k : Nat} {v : Int32} (hF : Fj FZ FA σ τ) (g : ∀ q ∈ fs, hI τ M0 q.1 = q.2) (hk : k ∈ FZ) (hn : fs.all (fun q => q.1 != k) = true) : Fj FZ FA σ (sI τ M0 k v) ∧ ∀ q ∈ (k, v) :: fs, hI (sI τ M0 k v) M0 q.1 = q.2 := by
  refine ⟨hF.tr (Fj.sI hk), fun q hq => ?_⟩
  rcases List.mem_cons.mp hq with e | e
  · rw [e]; exact hI_sI _ _ _ _
  · have h1 := List.all_eq_true.mp hn q e
    rw [hI_sIo (fun z => by injection z with _ z; rw [z] at h1; simp at h1)]; exact g q e
section Cag
variable {Γ : Gm} {σ : PH} {A : AT}
theorem lnsF_k {tx : Nat → Nat} {z m : Nat} {X : LX} (h : X.1.2.2.1 = 0) : lnsF tx z m X = X := by
  cases m with
  | zero => rfl
  | succ m => exact if_pos h
theorem lnsF_s {tx : Nat → Nat} {z m : Nat} {X : LX} (h : ¬ X.1.2.2.1 = 0) : lnsF tx z (m + 1) X = lnsF tx z m (lnOne tx z X) := if_neg h
set_option maxRecDepth 4000 in
theorem l_lns {tx : Nat → Nat} {z : Nat} (hz : z ≤ 700) {Z : LX} {x1 x2 : Option Value} {Q : PO → PH → Prop} (kk : ∀ σ2, LMx σ2 tx z Z → (Z.1.1 = 0 → Z.1.2.1 = -1) → Fj [14, 15, 18, 19, 20, 21, 22, 23, 25, 26, 27, 28, 29, 30, 31, 32, 33, 34, 35] [nRd, nRl, nWl, nWr, nRw, rCd, mWt, mTs] σ σ2 → Ok Γ 13 0 0 mX9_office 124 [some (.ref M0), x1, x2] [] σ2 Q) : ∀ (m : Nat) (X : LX) (σ1 : PH), LMx σ1 tx z X → (X.1.1 = 0 → z ≤ m + X.1.2.2.2.1) → (X.1.1 = 0 → X.1.2.1 = -1) → lnsF tx z m X = Z → Fj [14, 15, 18, 19, 20, 21, 22, 23, 25, 26, 27, 28, 29, 30, 31, 32, 33, 34, 35] [nRd, nRl, nWl, nWr, nRw, rCd, mWt, mTs] σ σ1 → Ok Γ 13 0 0 mX9_office 103 [some (.ref M0), x1, x2] [] σ1 Q := by
  intro m
  induction m with
  | zero =>
    intro X σ1 h hm hp hZ hF
    refine p_aload_n 0 104 rfl rfl dX9_office_103 rfl ?_
    refine p_cV0i 107 rfl dX9_office_104 (c_isGood h.2.1) ml_X9_161 vl_X9_isGood rfl (by decide) rfl (Nat.le_of_ble_eq_true rfl) (Nat.le_of_ble_eq_true rfl) rfl ?_
    refine p_if_eq 124 110 rfl rfl dX9_office_107 (fun h107 => ?_) (fun h107 => ?_)
    · have hf : ¬ X.1.1 = 0 := by have := b2i_f h107; simpa using this
      have hk : X.1.2.2.1 = 0 := h.2.1.2.2.2.2 hf
      rw [lnsF_k hk] at hZ
      subst hZ
      exact kk σ1 h hp hF
    · have h0 : X.1.1 = 0 := by have := b2i_t h107; simpa using this
      have ho := (h.2.1.2.2.2.1 h0).2
      refine p_aload_n 0 111 rfl rfl dX9_office_110 rfl ?_
      refine p_getIE 9 19 114 rfl dX9_office_111 fl_X9_135 rfl rfl (h.2.1.2.2.2.1 h0).1.1.2.2.1 ?_
      refine p_if_eq 124 117 rfl rfl dX9_office_114 (fun h114 => ?_) (fun h114 => ?_)
      · have hk : X.1.2.2.1 = 0 := (Nat.eq_zero_or_pos X.1.2.2.1).elim id (fun q => absurd h114 (nI_ne0 q (by have := ho.2.1; omega)))
        rw [lnsF_k hk] at hZ
        subst hZ
        exact kk σ1 h hp hF
      · exact absurd (by rw [(Nat.eq_zero_or_pos X.1.2.2.1).elim id (fun q => by have h5 := ho.2.2.2.2.2 (by omega); have h4 := ho.2.2.2.1; have h6 := hm h0; omega)]; rfl) h114
  | succ m ih =>
    intro X σ1 h hm hp hZ hF
    refine p_aload_n 0 104 rfl rfl dX9_office_103 rfl ?_
    refine p_cV0i 107 rfl dX9_office_104 (c_isGood h.2.1) ml_X9_161 vl_X9_isGood rfl (by decide) rfl (Nat.le_of_ble_eq_true rfl) (Nat.le_of_ble_eq_true rfl) rfl ?_
    refine p_if_eq 124 110 rfl rfl dX9_office_107 (fun h107 => ?_) (fun h107 => ?_)
    · have hf : ¬ X.1.1 = 0 := by have := b2i_f h107; simpa using this
      have hk : X.1.2.2.1 = 0 := h.2.1.2.2.2.2 hf
      rw [lnsF_k hk] at hZ
      subst hZ
      exact kk σ1 h hp hF
    · have h0 : X.1.1 = 0 := by have := b2i_t h107; simpa using this
      have ho := (h.2.1.2.2.2.1 h0).2
      refine p_aload_n 0 111 rfl rfl dX9_office_110 rfl ?_
      refine p_getIE 9 19 114 rfl dX9_office_111 fl_X9_135 rfl rfl (h.2.1.2.2.2.1 h0).1.1.2.2.1 ?_
      refine p_if_eq 124 117 rfl rfl dX9_office_114 (fun h114 => ?_) (fun h114 => ?_)
      · have hk : X.1.2.2.1 = 0 := (Nat.eq_zero_or_pos X.1.2.2.1).elim id (fun q => absurd h114 (nI_ne0 q (by have := ho.2.1; omega)))
        rw [lnsF_k hk] at hZ
        subst hZ
        exact kk σ1 h hp hF
      · refine p_aload_n 0 118 rfl rfl dX9_office_117 rfl ?_
        refine p_cV0v 0 0 121 rfl dX9_office_118 (c_line h h0) ml_X9_277 vl_X9_line rfl (by decide) rfl (Nat.le_of_ble_eq_true rfl) (Nat.le_of_ble_eq_true rfl) (Nat.le_of_ble_eq_true rfl) (Nat.le_of_ble_eq_true rfl) rfl ?_
        intro σ2 hp2
        refine p_goto 103 rfl dX9_office_121 ?_
        have hk : ¬ X.1.2.2.1 = 0 := fun q => h114 (by rw [q]; rfl)
        have hs := fun q => ln_st (tx := tx) hz ho q
        rw [lnsF_s hk] at hZ
        exact ih _ σ2 hp2.1 (fun q => by have := hs q; have := hm h0; omega) (fun q => by rw [(hs q).2]; exact hp h0) hZ (hF.tr hp2.2)
set_option maxRecDepth 4000 in
theorem l_ofRow (hr : ∀ k, hR σ M0 k = mRef k) {y1 : Int32} {Q : PO → PH → Prop} (kk : ∀ (σ2 : PH) (x2 : Option Value), (∀ j, j < 34 → hA σ2 mRo j = hA σ nRw j) → Fr [] [mRo] σ σ2 → Ok Γ 13 0 0 mX9_office 292 [some (.ref M0), some (.int y1), x2] [] σ2 Q) : ∀ (n i : Nat) (σ1 : PH), i + n = 34 → (∀ j, j < i → hA σ1 mRo j = hA σ nRw j) → Fr [] [mRo] σ σ1 → Ok Γ 13 0 0 mX9_office 268 [some (.ref M0), some (.int y1), some (.int (nI i))] [] σ1 Q := by
  intro n
  induction n with
  | zero =>
    intro i σ1 hi h1 hF
    have hr1 : ∀ k, hR σ1 M0 k = mRef k := fun k => by rw [hF.2.2.2.1]; exact hr k
    refine p_iload_n 2 269 rfl rfl dX9_office_268 rfl ?_
    refine p_bipush (34) 271 rfl dX9_office_269 rfl ?_
    refine p_icmp_ge 292 274 rfl rfl dX9_office_271 (fun h271 => ?_) (fun h271 => absurd (nI_le (a := 34) (b := i) (by omega) (by omega)) h271)
    exact kk σ1 _ (fun j hj => h1 j (by omega)) hF
  | succ n ih =>
    intro i σ1 hi h1 hF
    have hr1 : ∀ k, hR σ1 M0 k = mRef k := fun k => by rw [hF.2.2.2.1]; exact hr k
    refine p_iload_n 2 269 rfl rfl dX9_office_268 rfl ?_
    refine p_bipush (34) 271 rfl dX9_office_269 rfl ?_
    refine p_icmp_ge 292 274 rfl rfl dX9_office_271 (fun h271 => absurd h271 (nI_ge (a := i) (b := 34) (by omega) (by omega))) (fun h271 => ?_)
    refine p_aload_n 0 275 rfl rfl dX9_office_274 rfl ?_
    refine p_getR 9 44 278 rfl dX9_office_275 fl_X9_66 rfl rfl (show hR _ M0 44 = mRo from hr1 44) (by decide) ?_
    refine p_iload_n 2 279 rfl rfl dX9_office_278 rfl ?_
    refine p_aload_n 0 280 rfl rfl dX9_office_279 rfl ?_
    refine p_getR 9 40 283 rfl dX9_office_280 fl_X9_53 rfl rfl (show hR _ M0 40 = nRw from hr1 40) (by decide) ?_
    refine p_iload_n 2 284 rfl rfl dX9_office_283 rfl ?_
    have ei : hA σ1 nRw i = hA σ nRw i := by rw [hF.2.2.2.2.2 nRw (by decide)]
    refine p_ialdE 285 rfl dX9_office_284 (i := i) rfl (by show i < 34; omega) ei ?_
    refine p_iastE 286 rfl dX9_office_285 (i := i) rfl (by show i < 68; omega) ?_
    refine p_inc_2 289 rfl dX9_office_286 (1) rfl (Nat.le_of_ble_eq_true rfl) rfl ?_
    refine p_goto 268 rfl dX9_office_289 ?_
    rw [nI_1]
    refine ih (i + 1) _ (by omega) (fun j hj => ?_) (hF.tr (Fr.sA (by simp)))
    rw [sA_s]
    rcases Nat.lt_or_ge j i with w | w
    · rw [pk_un (by omega)]; exact h1 j w
    · rw [show j = i by omega, pk_us]
set_option maxRecDepth 12000 in
theorem l_of206 {τ : PH} (hr0 : ∀ k, hR τ M0 k = mRef k) {y1 : Int32} {x2 : Option Value} {Q : PO → PH → Prop} (kk : ∀ σ', Fj [46, 51, 56] [mRd, mRl, mWl, mWr, mCd, mRo] τ σ' → hI σ' M0 46 = 0 → hI σ' M0 51 = 0 → hI σ' M0 56 = 0 → (∀ j, j < 36 → hA σ' mRd j = hA τ nRd j) → (∀ j, j < 6 → hA σ' mRl j = hA τ nRl j) → (∀ j, j < 12 → hA σ' mWl j = hA τ nWl j) → (∀ j, j < 12 → hA σ' mWr j = hA τ nWr j) → (∀ j, j < 1400 → hA σ' mCd j = hA τ rCd j) → (∀ j, j < 34 → hA σ' mRo j = hA τ nRw j) → Q (.inl (some (.int 0))) σ') : Ok Γ 13 0 0 mX9_office 206 [some (.ref M0), some (.int y1), x2] [] τ Q := by
  refine p_aload_n 0 207 rfl rfl dX9_office_206 rfl ?_
  refine p_aload_n 0 208 rfl rfl dX9_office_207 rfl ?_
  refine p_getR 9 36 211 rfl dX9_office_208 fl_X9_41 rfl rfl (show hR _ M0 36 = nRd from hr0 36) (by decide) ?_
  refine p_aload_n 0 212 rfl rfl dX9_office_211 rfl ?_
  refine p_getR 9 7 215 rfl dX9_office_212 fl_X9_16 rfl rfl (show hR _ M0 7 = mRd from hr0 7) (by decide) ?_
  refine p_cV2v 0 0 218 rfl dX9_office_215 (c_copies (a := nRd) (b := mRd) rfl rfl rfl (by decide)) ml_X9_292 vl_X9_copies rfl (by decide) rfl (Nat.le_of_ble_eq_true rfl) (Nat.le_of_ble_eq_true rfl) (Nat.le_of_ble_eq_true rfl) (Nat.le_of_ble_eq_true rfl) rfl ?_
  intro τ1 hp1
  have hr1 : ∀ k, hR τ1 M0 k = mRef k := fun k => by rw [hp1.2.2.2.2.1]; exact hr0 k
  refine p_aload_n 0 219 rfl rfl dX9_office_218 rfl ?_
  refine p_aload_n 0 220 rfl rfl dX9_office_219 rfl ?_
  refine p_getR 9 37 223 rfl dX9_office_220 fl_X9_44 rfl rfl (show hR _ M0 37 = nRl from hr1 37) (by decide) ?_
  refine p_aload_n 0 224 rfl rfl dX9_office_223 rfl ?_
  refine p_getR 9 8 227 rfl dX9_office_224 fl_X9_20 rfl rfl (show hR _ M0 8 = mRl from hr1 8) (by decide) ?_
  refine p_cV2v 0 0 230 rfl dX9_office_227 (c_copies (a := nRl) (b := mRl) rfl rfl rfl (by decide)) ml_X9_292 vl_X9_copies rfl (by decide) rfl (Nat.le_of_ble_eq_true rfl) (Nat.le_of_ble_eq_true rfl) (Nat.le_of_ble_eq_true rfl) (Nat.le_of_ble_eq_true rfl) rfl ?_
  intro τ2 hp2
  have hr2 : ∀ k, hR τ2 M0 k = mRef k := fun k => by rw [hp2.2.2.2.2.1]; exact hr1 k
  refine p_aload_n 0 231 rfl rfl dX9_office_230 rfl ?_
  refine p_aload_n 0 232 rfl rfl dX9_office_231 rfl ?_
  refine p_getR 9 38 235 rfl dX9_office_232 fl_X9_47 rfl rfl (show hR _ M0 38 = nWl from hr2 38) (by decide) ?_
  refine p_aload_n 0 236 rfl rfl dX9_office_235 rfl ?_
  refine p_getR 9 9 239 rfl dX9_office_236 fl_X9_23 rfl rfl (show hR _ M0 9 = mWl from hr2 9) (by decide) ?_
  refine p_cV2v 0 0 242 rfl dX9_office_239 (c_copies (a := nWl) (b := mWl) rfl rfl rfl (by decide)) ml_X9_292 vl_X9_copies rfl (by decide) rfl (Nat.le_of_ble_eq_true rfl) (Nat.le_of_ble_eq_true rfl) (Nat.le_of_ble_eq_true rfl) (Nat.le_of_ble_eq_true rfl) rfl ?_
  intro τ3 hp3
  have hr3 : ∀ k, hR τ3 M0 k = mRef k := fun k => by rw [hp3.2.2.2.2.1]; exact hr2 k
  refine p_aload_n 0 243 rfl rfl dX9_office_242 rfl ?_
  refine p_aload_n 0 244 rfl rfl dX9_office_243 rfl ?_
  refine p_getR 9 39 247 rfl dX9_office_244 fl_X9_50 rfl rfl (show hR _ M0 39 = nWr from hr3 39) (by decide) ?_
  refine p_aload_n 0 248 rfl rfl dX9_office_247 rfl ?_
  refine p_getR 9 10 251 rfl dX9_office_248 fl_X9_26 rfl rfl (show hR _ M0 10 = mWr from hr3 10) (by decide) ?_
  refine p_cV2v 0 0 254 rfl dX9_office_251 (c_copies (a := nWr) (b := mWr) rfl rfl rfl (by decide)) ml_X9_292 vl_X9_copies rfl (by decide) rfl (Nat.le_of_ble_eq_true rfl) (Nat.le_of_ble_eq_true rfl) (Nat.le_of_ble_eq_true rfl) (Nat.le_of_ble_eq_true rfl) rfl ?_
  intro τ4 hp4
  have hr4 : ∀ k, hR τ4 M0 k = mRef k := fun k => by rw [hp4.2.2.2.2.1]; exact hr3 k
  refine p_aload_n 0 255 rfl rfl dX9_office_254 rfl ?_
  refine p_aload_n 0 256 rfl rfl dX9_office_255 rfl ?_
  refine p_getR 9 41 259 rfl dX9_office_256 fl_X9_56 rfl rfl (show hR _ M0 41 = rCd from hr4 41) (by decide) ?_
  refine p_aload_n 0 260 rfl rfl dX9_office_259 rfl ?_
  refine p_getR 9 11 263 rfl dX9_office_260 fl_X9_29 rfl rfl (show hR _ M0 11 = mCd from hr4 11) (by decide) ?_
  refine p_cV2v 0 0 266 rfl dX9_office_263 (c_copies (a := rCd) (b := mCd) rfl rfl rfl (by decide)) ml_X9_292 vl_X9_copies rfl (by decide) rfl (Nat.le_of_ble_eq_true rfl) (Nat.le_of_ble_eq_true rfl) (Nat.le_of_ble_eq_true rfl) (Nat.le_of_ble_eq_true rfl) rfl ?_
  intro τ5 hp5
  have hr5 : ∀ k, hR τ5 M0 k = mRef k := fun k => by rw [hp5.2.2.2.2.1]; exact hr4 k
  refine p_iconst (0) 267 rfl dX9_office_266 rfl ?_
  refine p_ist_n2 268 rfl rfl dX9_office_267 (Nat.le_of_ble_eq_true rfl) rfl ?_
  refine Ok.sub (l_ofRow (σ := τ5) hr5 (fun τ6 x2 hcp hF6 => ?_) 34 0 τ5 (by omega) (fun j hj => absurd hj (Nat.not_lt_zero _)) Fr.rf) (by decide) (by decide) (by decide)
  refine p_aload_n 0 293 rfl rfl dX9_office_292 rfl ?_
  refine p_iconst (0) 294 rfl dX9_office_293 rfl ?_
  refine p_putI 9 46 297 rfl dX9_office_294 fl_X9_296 rfl rfl (Or.inl rfl) ?_
  refine p_aload_n 0 298 rfl rfl dX9_office_297 rfl ?_
  refine p_iconst (0) 299 rfl dX9_office_298 rfl ?_
  refine p_putI 9 51 302 rfl dX9_office_299 fl_X9_299 rfl rfl (Or.inl rfl) ?_
  refine p_aload_n 0 303 rfl rfl dX9_office_302 rfl ?_
  refine p_iconst (0) 304 rfl dX9_office_303 rfl ?_
  refine p_putZ 9 56 307 rfl dX9_office_304 fl_X9_302 rfl rfl (by first | exact Or.inl rfl | exact Or.inr rfl | assumption) (Or.inl rfl) ?_
  refine p_iconst (0) 308 rfl dX9_office_307 rfl ?_
  have hFj : Fj [46, 51, 56] [mRd, mRl, mWl, mWr, mCd, mRo] τ (sI (sI (sI τ6 M0 46 0) M0 51 0) M0 56 0) := ((((((hp1.2.j.up (by decide) (by decide)).tr (hp2.2.j.up (by decide) (by decide))).tr (hp3.2.j.up (by decide) (by decide))).tr (hp4.2.j.up (by decide) (by decide))).tr (hp5.2.j.up (by decide) (by decide))).tr (hF6.j.up (by decide) (by decide))).tr (((Fj.sI (by simp)).tr (Fj.sI (by simp))).tr (Fj.sI (by simp)))
  have hA6 : ∀ r, hA (sI (sI (sI τ6 M0 46 0) M0 51 0) M0 56 0) r = hA τ6 r := fun r => rfl
  have hend := kk (sI (sI (sI τ6 M0 46 0) M0 51 0) M0 56 0) hFj ((hI_sIo (by decide)).trans ((hI_sIo (by decide)).trans (hI_sI _ _ _ _))) ((hI_sIo (by decide)).trans (hI_sI _ _ _ _)) (hI_sI _ _ _ _)
    (fun j hj => by rw [hA6, hF6.2.2.2.2.2 mRd (by decide), hp5.2.2.2.2.2.2 mRd (by decide), hp4.2.2.2.2.2.2 mRd (by decide), hp3.2.2.2.2.2.2 mRd (by decide), hp2.2.2.2.2.2.2 mRd (by decide)]; exact hp1.1 j hj)
    (fun j hj => by rw [hA6, hF6.2.2.2.2.2 mRl (by decide), hp5.2.2.2.2.2.2 mRl (by decide), hp4.2.2.2.2.2.2 mRl (by decide), hp3.2.2.2.2.2.2 mRl (by decide), hp2.1 j hj, hp1.2.2.2.2.2.2 nRl (by decide)])
    (fun j hj => by rw [hA6, hF6.2.2.2.2.2 mWl (by decide), hp5.2.2.2.2.2.2 mWl (by decide), hp4.2.2.2.2.2.2 mWl (by decide), hp3.1 j hj, hp2.2.2.2.2.2.2 nWl (by decide), hp1.2.2.2.2.2.2 nWl (by decide)])
    (fun j hj => by rw [hA6, hF6.2.2.2.2.2 mWr (by decide), hp5.2.2.2.2.2.2 mWr (by decide), hp4.1 j hj, hp3.2.2.2.2.2.2 nWr (by decide), hp2.2.2.2.2.2.2 nWr (by decide), hp1.2.2.2.2.2.2 nWr (by decide)])
    (fun j hj => by rw [hA6, hF6.2.2.2.2.2 mCd (by decide), hp5.1 j hj, hp4.2.2.2.2.2.2 rCd (by decide), hp3.2.2.2.2.2.2 rCd (by decide), hp2.2.2.2.2.2.2 rCd (by decide), hp1.2.2.2.2.2.2 rCd (by decide)])
    (fun j hj => by rw [hA6, hcp j hj, hp5.2.2.2.2.2.2 nRw (by decide), hp4.2.2.2.2.2.2 nRw (by decide), hp3.2.2.2.2.2.2 nRw (by decide), hp2.2.2.2.2.2.2 nRw (by decide), hp1.2.2.2.2.2.2 nRw (by decide)])
  exact p_iret dX9_office_308 rfl hend
set_option maxRecDepth 12000 in
theorem l_of124 {n nn : Nat} (hRM : RM σ A) (hbt : btw (nI n) 0 (tN A) = true) (hn7 : n ≤ 700) {Z : LX} (hZ : rdAll (tB A) n nn = Z) {x2 : Option Value} {σ2 : PH} (hL : LMx σ2 (tB A) n Z) (hp : Z.1.1 = 0 → Z.1.2.1 = -1) (hF : Fj [0, 13, 14, 15, 17, 18, 19, 20, 21, 22, 23, 25, 26, 27, 28, 29, 30, 31, 32, 33, 34, 35] [nRd, nRl, nWl, nWr, nRw, rCd, mWt, mTs] σ σ2) (h13 : hI σ2 M0 13 = 0) (h00 : hI σ2 M0 0 = 0) : Ok Γ 13 0 0 mX9_office 124 [some (.ref M0), some (.int (nI n)), x2] [] σ2 (rM (fOff A nn (nI n)) (fun σ' => (∀ A', OkT A' → nOff A nn (nI n) A' → RM σ' A') ∧ ChM σ σ')) := by
  have eF : fOff A nn (nI n) = (0, nI Z.1.1) := by unfold fOff gd; rw [hbt, if_pos rfl, iN_nI (by omega), hZ]
  refine p_aload_n 0 125 rfl rfl dX9_office_124 rfl ?_
  refine p_cV0i 128 rfl dX9_office_125 (c_isGood hL.2.1) ml_X9_161 vl_X9_isGood rfl (by decide) rfl (Nat.le_of_ble_eq_true rfl) (Nat.le_of_ble_eq_true rfl) rfl ?_
  refine p_if_ne 146 131 rfl rfl dX9_office_128 (fun h128 => ?_) (fun h128 => ?_)
  · have hg : Z.1.1 = 0 := by have := b2i_t h128; simpa using this
    obtain ⟨o, hc, hB, hl⟩ := hL.2.2 hg
    have ho := (hL.2.1.2.2.2.1 hg).2
    have hos := ho.2.2.1
    generalize eB : Z.2 = B at hB ⊢
    refine p_aload_n 0 147 rfl rfl dX9_office_146 rfl ?_
    refine p_aload_n 0 148 rfl rfl dX9_office_147 rfl ?_
    refine p_getIE 9 25 151 rfl dX9_office_148 fl_X9_224 rfl rfl hB.2.1.1.1 ?_
    refine p_putI 9 1 154 rfl dX9_office_151 fl_X9_280 rfl rfl (Or.inl rfl) ?_
    refine p_aload_n 0 155 rfl rfl dX9_office_154 rfl ?_
    refine p_aload_n 0 156 rfl rfl dX9_office_155 rfl ?_
    refine p_getIE 9 26 159 rfl dX9_office_156 fl_X9_231 rfl rfl ((hI_sIo (by decide)).trans hB.2.1.1.2.1) ?_
    refine p_putI 9 2 162 rfl dX9_office_159 fl_X9_283 rfl rfl (Or.inl rfl) ?_
    refine p_aload_n 0 163 rfl rfl dX9_office_162 rfl ?_
    refine p_aload_n 0 164 rfl rfl dX9_office_163 rfl ?_
    refine p_getIE 9 27 167 rfl dX9_office_164 fl_X9_234 rfl rfl ((hI_sIo (by decide)).trans ((hI_sIo (by decide)).trans hB.2.1.1.2.2)) ?_
    refine p_putI 9 3 170 rfl dX9_office_167 fl_X9_286 rfl rfl (Or.inl rfl) ?_
    refine p_aload_n 0 171 rfl rfl dX9_office_170 rfl ?_
    refine p_aload_n 0 172 rfl rfl dX9_office_171 rfl ?_
    refine p_getIE 9 28 175 rfl dX9_office_172 fl_X9_257 rfl rfl ((hI_sIo (by decide)).trans ((hI_sIo (by decide)).trans ((hI_sIo (by decide)).trans hB.2.1.2.1))) ?_
    refine p_iconst (-1) 176 rfl dX9_office_175 rfl ?_
    refine p_icmp_ne 183 179 rfl rfl dX9_office_176 (fun h176 => ?_) (fun h176 => ?_)
    · refine p_aload_n 0 184 rfl rfl dX9_office_183 rfl ?_
      refine p_getIE 9 28 187 rfl dX9_office_184 fl_X9_257 rfl rfl ((hI_sIo (by decide)).trans ((hI_sIo (by decide)).trans ((hI_sIo (by decide)).trans hB.2.1.2.1))) ?_
      have e28 : (if B.2.2.2.2 = true then nI (aK B.1) else -1) = nI (aK B.1) := by
        cases q : B.2.2.2.2 with
        | true => rfl
        | false => rw [q] at h176; exact absurd rfl h176
      rw [e28]
      refine p_putI 9 4 190 rfl dX9_office_187 fl_X9_289 rfl rfl (Or.inl rfl) ?_
      refine p_aload_n 0 191 rfl rfl dX9_office_190 rfl ?_
      refine p_aload_n 0 192 rfl rfl dX9_office_191 rfl ?_
      refine p_getIE 9 29 195 rfl dX9_office_192 fl_X9_260 rfl rfl ((hI_sIo (by decide)).trans ((hI_sIo (by decide)).trans ((hI_sIo (by decide)).trans (hI_sIo (σ := σ2) (by decide))))) ?_
      refine p_putI 9 5 198 rfl dX9_office_195 fl_X9_9 rfl rfl (Or.inl rfl) ?_
      refine p_aload_n 0 199 rfl rfl dX9_office_198 rfl ?_
      refine p_aload_n 0 200 rfl rfl dX9_office_199 rfl ?_
      refine p_getIE 9 30 203 rfl dX9_office_200 fl_X9_267 rfl rfl ((hI_sIo (by decide)).trans ((hI_sIo (by decide)).trans ((hI_sIo (by decide)).trans ((hI_sIo (by decide)).trans (hI_sIo (σ := σ2) (by decide)))))) ?_
      refine p_putI 9 6 206 rfl dX9_office_203 fl_X9_13 rfl rfl (Or.inl rfl) ?_
      have hF1 : Fj [1, 2, 3, 4, 5, 6] [] σ2 (sI (sI (sI (sI (sI (sI σ2 M0 1 (nI (aS B.1))) M0 2 (nI (aC B.1))) M0 3 (nI (aW B.1))) M0 4 (nI (aK B.1))) M0 5 (hI σ2 M0 29)) M0 6 (hI σ2 M0 30)) := ((((((Fj.sI (by simp)).tr (Fj.sI (by simp))).tr (Fj.sI (by simp))).tr (Fj.sI (by simp))).tr (Fj.sI (by simp))).tr (Fj.sI (by simp)))
      have j1 : hI (sI (sI (sI (sI (sI (sI σ2 M0 1 (nI (aS B.1))) M0 2 (nI (aC B.1))) M0 3 (nI (aW B.1))) M0 4 (nI (aK B.1))) M0 5 (hI σ2 M0 29)) M0 6 (hI σ2 M0 30)) M0 1 = nI (aS B.1) := ((hI_sIo (by decide)).trans ((hI_sIo (by decide)).trans ((hI_sIo (by decide)).trans ((hI_sIo (by decide)).trans ((hI_sIo (by decide)).trans (hI_sI _ _ _ _))))))
      have j2 : hI (sI (sI (sI (sI (sI (sI σ2 M0 1 (nI (aS B.1))) M0 2 (nI (aC B.1))) M0 3 (nI (aW B.1))) M0 4 (nI (aK B.1))) M0 5 (hI σ2 M0 29)) M0 6 (hI σ2 M0 30)) M0 2 = nI (aC B.1) := ((hI_sIo (by decide)).trans ((hI_sIo (by decide)).trans ((hI_sIo (by decide)).trans ((hI_sIo (by decide)).trans (hI_sI _ _ _ _)))))
      have j3 : hI (sI (sI (sI (sI (sI (sI σ2 M0 1 (nI (aS B.1))) M0 2 (nI (aC B.1))) M0 3 (nI (aW B.1))) M0 4 (nI (aK B.1))) M0 5 (hI σ2 M0 29)) M0 6 (hI σ2 M0 30)) M0 3 = nI (aW B.1) := ((hI_sIo (by decide)).trans ((hI_sIo (by decide)).trans ((hI_sIo (by decide)).trans (hI_sI _ _ _ _))))
      have j4 : hI (sI (sI (sI (sI (sI (sI σ2 M0 1 (nI (aS B.1))) M0 2 (nI (aC B.1))) M0 3 (nI (aW B.1))) M0 4 (nI (aK B.1))) M0 5 (hI σ2 M0 29)) M0 6 (hI σ2 M0 30)) M0 4 = nI (aK B.1) := ((hI_sIo (by decide)).trans ((hI_sIo (by decide)).trans (hI_sI _ _ _ _)))
      have j5 : hI (sI (sI (sI (sI (sI (sI σ2 M0 1 (nI (aS B.1))) M0 2 (nI (aC B.1))) M0 3 (nI (aW B.1))) M0 4 (nI (aK B.1))) M0 5 (hI σ2 M0 29)) M0 6 (hI σ2 M0 30)) M0 5 = hI σ2 M0 29 := ((hI_sIo (by decide)).trans (hI_sI _ _ _ _))
      have j6 : hI (sI (sI (sI (sI (sI (sI σ2 M0 1 (nI (aS B.1))) M0 2 (nI (aC B.1))) M0 3 (nI (aW B.1))) M0 4 (nI (aK B.1))) M0 5 (hI σ2 M0 29)) M0 6 (hI σ2 M0 30)) M0 6 = hI σ2 M0 30 := hI_sI _ _ _ _
      generalize (sI (sI (sI (sI (sI (sI σ2 M0 1 (nI (aS B.1))) M0 2 (nI (aC B.1))) M0 3 (nI (aW B.1))) M0 4 (nI (aK B.1))) M0 5 (hI σ2 M0 29)) M0 6 (hI σ2 M0 30)) = τ at hF1 j1 j2 j3 j4 j5 j6 ⊢
      refine l_of206 (fun k => by rw [hF1.2.2.1]; exact hL.1.1 k) (fun σ' hF2 z46 z51 z56 c7 c8 c9 c10 c11 cR => ?_)
      have ea : ∀ r, hA τ r = hA σ2 r := fun r => hF1.2.2.2.2 r (by simp)
      have ei : ∀ k, k ∉ [1, 2, 3, 4, 5, 6, 46, 51, 56] → hI σ' M0 k = hI σ2 M0 k := fun k hk => by
        simp only [List.mem_cons, List.not_mem_nil, or_false, not_or] at hk
        rw [hF2.i (by simp [hk]), hF1.i (by simp [hk])]
      refine ⟨0, rfl, (ei 0 (by decide)).trans (by rw [h00, eF]; rfl), fun _ => by rw [eF, hg]; rfl, fun A' hk hn => ?_, ?_⟩
      · subst eB
        unfold nOff at hn
        rw [hbt, if_pos rfl, iN_nI (by omega), hZ, if_pos hg] at hn
        obtain ⟨V, hV, rfl⟩ := hn
        exact RM_new hRM hB hc (by omega) (fun k => by rw [hF2.2.2.1, hF1.2.2.1]; exact hL.1.1 k) ((hF2.i (by decide)).trans j1) ((hF2.i (by decide)).trans j2) ((hF2.i (by decide)).trans j3) ((hF2.i (by decide)).trans j4) ((hF2.i (by decide)).trans j5) ((hF2.i (by decide)).trans j6) (fun j hj => (c7 j hj).trans (by rw [ea])) (fun j hj => (c8 j hj).trans (by rw [ea])) (fun j hj => (c9 j hj).trans (by rw [ea])) (fun j hj => (c10 j hj).trans (by rw [ea])) (fun j hj => (c11 j hj).trans (by rw [ea])) (fun j hj => (cR j hj).trans (by rw [ea])) z46 z51 z56 ((ei 13 (by decide)).trans h13) ((ei 15 (by decide)).trans (hL.2.1.2.1.trans (hp hg))) (by rw [hF2.2.2.2.2 mRf (by decide), ea, hF.2.2.2.2 mRf (by decide)]) (by rw [hF2.2.2.2.2 mCo (by decide), ea, hF.2.2.2.2 mCo (by decide)]) hV hk
      · exact ((hF.chm (by decide)).tr (hF1.chm (by decide))).tr (hF2.chm (by decide))
    · refine p_iconst (0) 180 rfl dX9_office_179 rfl ?_
      refine p_goto 187 rfl dX9_office_180 ?_
      have e28 : (0 : Int32) = nI (aK B.1) := by
        cases q : B.2.2.2.2 with
        | true => rw [q, if_pos rfl] at h176; exact absurd h176 (nI_m1 (by have := hB.1.2.2.2.1; omega))
        | false => rw [hB.2.1.2.2 q]; rfl
      rw [e28]
      refine p_putI 9 4 190 rfl dX9_office_187 fl_X9_289 rfl rfl (Or.inl rfl) ?_
      refine p_aload_n 0 191 rfl rfl dX9_office_190 rfl ?_
      refine p_aload_n 0 192 rfl rfl dX9_office_191 rfl ?_
      refine p_getIE 9 29 195 rfl dX9_office_192 fl_X9_260 rfl rfl ((hI_sIo (by decide)).trans ((hI_sIo (by decide)).trans ((hI_sIo (by decide)).trans (hI_sIo (σ := σ2) (by decide))))) ?_
      refine p_putI 9 5 198 rfl dX9_office_195 fl_X9_9 rfl rfl (Or.inl rfl) ?_
      refine p_aload_n 0 199 rfl rfl dX9_office_198 rfl ?_
      refine p_aload_n 0 200 rfl rfl dX9_office_199 rfl ?_
      refine p_getIE 9 30 203 rfl dX9_office_200 fl_X9_267 rfl rfl ((hI_sIo (by decide)).trans ((hI_sIo (by decide)).trans ((hI_sIo (by decide)).trans ((hI_sIo (by decide)).trans (hI_sIo (σ := σ2) (by decide)))))) ?_
      refine p_putI 9 6 206 rfl dX9_office_203 fl_X9_13 rfl rfl (Or.inl rfl) ?_
      have hF1 : Fj [1, 2, 3, 4, 5, 6] [] σ2 (sI (sI (sI (sI (sI (sI σ2 M0 1 (nI (aS B.1))) M0 2 (nI (aC B.1))) M0 3 (nI (aW B.1))) M0 4 (nI (aK B.1))) M0 5 (hI σ2 M0 29)) M0 6 (hI σ2 M0 30)) := ((((((Fj.sI (by simp)).tr (Fj.sI (by simp))).tr (Fj.sI (by simp))).tr (Fj.sI (by simp))).tr (Fj.sI (by simp))).tr (Fj.sI (by simp)))
      have j1 : hI (sI (sI (sI (sI (sI (sI σ2 M0 1 (nI (aS B.1))) M0 2 (nI (aC B.1))) M0 3 (nI (aW B.1))) M0 4 (nI (aK B.1))) M0 5 (hI σ2 M0 29)) M0 6 (hI σ2 M0 30)) M0 1 = nI (aS B.1) := ((hI_sIo (by decide)).trans ((hI_sIo (by decide)).trans ((hI_sIo (by decide)).trans ((hI_sIo (by decide)).trans ((hI_sIo (by decide)).trans (hI_sI _ _ _ _))))))
      have j2 : hI (sI (sI (sI (sI (sI (sI σ2 M0 1 (nI (aS B.1))) M0 2 (nI (aC B.1))) M0 3 (nI (aW B.1))) M0 4 (nI (aK B.1))) M0 5 (hI σ2 M0 29)) M0 6 (hI σ2 M0 30)) M0 2 = nI (aC B.1) := ((hI_sIo (by decide)).trans ((hI_sIo (by decide)).trans ((hI_sIo (by decide)).trans ((hI_sIo (by decide)).trans (hI_sI _ _ _ _)))))
      have j3 : hI (sI (sI (sI (sI (sI (sI σ2 M0 1 (nI (aS B.1))) M0 2 (nI (aC B.1))) M0 3 (nI (aW B.1))) M0 4 (nI (aK B.1))) M0 5 (hI σ2 M0 29)) M0 6 (hI σ2 M0 30)) M0 3 = nI (aW B.1) := ((hI_sIo (by decide)).trans ((hI_sIo (by decide)).trans ((hI_sIo (by decide)).trans (hI_sI _ _ _ _))))
      have j4 : hI (sI (sI (sI (sI (sI (sI σ2 M0 1 (nI (aS B.1))) M0 2 (nI (aC B.1))) M0 3 (nI (aW B.1))) M0 4 (nI (aK B.1))) M0 5 (hI σ2 M0 29)) M0 6 (hI σ2 M0 30)) M0 4 = nI (aK B.1) := ((hI_sIo (by decide)).trans ((hI_sIo (by decide)).trans (hI_sI _ _ _ _)))
      have j5 : hI (sI (sI (sI (sI (sI (sI σ2 M0 1 (nI (aS B.1))) M0 2 (nI (aC B.1))) M0 3 (nI (aW B.1))) M0 4 (nI (aK B.1))) M0 5 (hI σ2 M0 29)) M0 6 (hI σ2 M0 30)) M0 5 = hI σ2 M0 29 := ((hI_sIo (by decide)).trans (hI_sI _ _ _ _))
      have j6 : hI (sI (sI (sI (sI (sI (sI σ2 M0 1 (nI (aS B.1))) M0 2 (nI (aC B.1))) M0 3 (nI (aW B.1))) M0 4 (nI (aK B.1))) M0 5 (hI σ2 M0 29)) M0 6 (hI σ2 M0 30)) M0 6 = hI σ2 M0 30 := hI_sI _ _ _ _
      generalize (sI (sI (sI (sI (sI (sI σ2 M0 1 (nI (aS B.1))) M0 2 (nI (aC B.1))) M0 3 (nI (aW B.1))) M0 4 (nI (aK B.1))) M0 5 (hI σ2 M0 29)) M0 6 (hI σ2 M0 30)) = τ at hF1 j1 j2 j3 j4 j5 j6 ⊢
      refine l_of206 (fun k => by rw [hF1.2.2.1]; exact hL.1.1 k) (fun σ' hF2 z46 z51 z56 c7 c8 c9 c10 c11 cR => ?_)
      have ea : ∀ r, hA τ r = hA σ2 r := fun r => hF1.2.2.2.2 r (by simp)
      have ei : ∀ k, k ∉ [1, 2, 3, 4, 5, 6, 46, 51, 56] → hI σ' M0 k = hI σ2 M0 k := fun k hk => by
        simp only [List.mem_cons, List.not_mem_nil, or_false, not_or] at hk
        rw [hF2.i (by simp [hk]), hF1.i (by simp [hk])]
      refine ⟨0, rfl, (ei 0 (by decide)).trans (by rw [h00, eF]; rfl), fun _ => by rw [eF, hg]; rfl, fun A' hk hn => ?_, ?_⟩
      · subst eB
        unfold nOff at hn
        rw [hbt, if_pos rfl, iN_nI (by omega), hZ, if_pos hg] at hn
        obtain ⟨V, hV, rfl⟩ := hn
        exact RM_new hRM hB hc (by omega) (fun k => by rw [hF2.2.2.1, hF1.2.2.1]; exact hL.1.1 k) ((hF2.i (by decide)).trans j1) ((hF2.i (by decide)).trans j2) ((hF2.i (by decide)).trans j3) ((hF2.i (by decide)).trans j4) ((hF2.i (by decide)).trans j5) ((hF2.i (by decide)).trans j6) (fun j hj => (c7 j hj).trans (by rw [ea])) (fun j hj => (c8 j hj).trans (by rw [ea])) (fun j hj => (c9 j hj).trans (by rw [ea])) (fun j hj => (c10 j hj).trans (by rw [ea])) (fun j hj => (c11 j hj).trans (by rw [ea])) (fun j hj => (cR j hj).trans (by rw [ea])) z46 z51 z56 ((ei 13 (by decide)).trans h13) ((ei 15 (by decide)).trans (hL.2.1.2.1.trans (hp hg))) (by rw [hF2.2.2.2.2 mRf (by decide), ea, hF.2.2.2.2 mRf (by decide)]) (by rw [hF2.2.2.2.2 mCo (by decide), ea, hF.2.2.2.2 mCo (by decide)]) hV hk
      · exact ((hF.chm (by decide)).tr (hF1.chm (by decide))).tr (hF2.chm (by decide))
  · have hf : ¬ Z.1.1 = 0 := by have := b2i_f h128; simpa using this
    have eRf : hA σ2 mRf 0 = tX A := by rw [hF.2.2.2.2 mRf (by decide)]; exact hRM.2.2.2.2.2.2.2.1.1
    refine p_aload_n 0 132 rfl rfl dX9_office_131 rfl ?_
    refine p_getR 9 16 135 rfl dX9_office_132 fl_X9_38 rfl rfl (show hR _ M0 16 = mRf from hL.1.1 16) (by decide) ?_
    refine p_iconst (0) 136 rfl dX9_office_135 rfl ?_
    refine p_dup2 137 rfl dX9_office_136 rfl rfl ?_
    refine p_ialdE 138 rfl dX9_office_137 (i := 0) rfl (by decide) eRf ?_
    refine p_iconst (1) 139 rfl dX9_office_138 rfl ?_
    refine p_iadd 140 rfl dX9_office_139 ?_
    refine p_iastE 141 rfl dX9_office_140 (i := 0) rfl (by decide) ?_
    refine p_aload_n 0 142 rfl rfl dX9_office_141 rfl ?_
    refine p_getIE 9 14 145 rfl dX9_office_142 fl_X9_158 rfl rfl hL.2.1.1 ?_
    exact p_iret dX9_office_145 rfl ⟨_, rfl, (by rw [eF]; exact h00), (fun _ => by rw [eF]), fun A' hk hn => by
   unfold nOff at hn
   rw [hbt, if_pos rfl, iN_nI (by omega), hZ, if_neg hf] at hn
   subst hn
   exact RM_uF hRM ((hF.up (by decide) (by decide)).tr (Fj.sA (by simp))) h13 hL.2.1.2.1 (by rw [sA_s, hF.2.2.2.2 mRf (by decide)]) hk, (hF.chm (by decide)).tr (Fj.chm (XI := []) (X := [mRf]) (Fj.sA (by simp)) (by decide))⟩
set_option maxRecDepth 12000 in
theorem l_of99 {n nn : Nat} (hRM : RM σ A) (hbt : btw (nI n) 0 (tN A) = true) (hn : n ≤ tN A) {τ : PH} {x2 : Option Value} (hF0 : Fj [0, 13, 14, 15, 17, 18, 25, 26, 27, 28, 29, 30, 31] [nRw] σ τ) (f0 : hI τ M0 0 = 0) (f13 : hI τ M0 13 = 0) (f14 : hI τ M0 14 = 0) (f15 : hI τ M0 15 = -1) (f17 : hI τ M0 17 = nI n) (f18 : hI τ M0 18 = 0) (f25 : hI τ M0 25 = 0) (f26 : hI τ M0 26 = 0) (f27 : hI τ M0 27 = 0) (f28 : hI τ M0 28 = -1) (f29 : hI τ M0 29 = -1) (f30 : hI τ M0 30 = -1) (f31 : hI τ M0 31 = 0) (fr0 : hA τ nRw 0 = 0) : Ok Γ 13 0 0 mX9_office 99 [some (.ref M0), some (.int (nI n)), x2] [] τ (rM (fOff A nn (nI n)) (fun σ' => (∀ A', OkT A' → nOff A nn (nI n) A' → RM σ' A') ∧ ChM σ σ')) := by
  have hK := hRM.2.1
  have hn7 := hK.1
  have hT : TpM τ (tB A) n := ⟨fun k => by rw [hF0.2.2.1]; exact hRM.1.1 k, by omega, hK.2.1, fun i hi => by rw [hF0.2.2.2.2 mTp (by decide)]; exact hRM.2.2.2.2.2.2.1.2.2 i (by omega)⟩
  refine p_aload_n 0 100 rfl rfl dX9_office_99 rfl ?_
  refine p_cV0v 0 0 103 rfl dX9_office_100 (c_goes hT (S := (0, -1, 0, 0, 0, nn)) f17 f18 (Nat.zero_le _)) ml_X9_165 vl_X9_goes rfl (by decide) rfl (Nat.le_of_ble_eq_true rfl) (Nat.le_of_ble_eq_true rfl) (Nat.le_of_ble_eq_true rfl) (Nat.le_of_ble_eq_true rfl) rfl ?_
  intro σ1 hp1
  have hS1 : (adv (tB A) n (0, -1, 0, 0, 0, nn)).1 = 0 := adv_f _ _ _
  have hS2 : (adv (tB A) n (0, -1, 0, 0, 0, nn)).2.1 = -1 := adv_p _ _ _
  have hO1 : OkR n (adv (tB A) n (0, -1, 0, 0, 0, nn)) := adv_ok2 (Nat.zero_le _) (Nat.zero_le _)
  have hR1 : RdM σ1 (tB A) n (adv (tB A) n (0, -1, 0, 0, 0, nn)) := ⟨by rw [hS1, hp1.2.i (by decide)]; exact f14, by rw [hS2, hp1.2.i (by decide)]; exact f15, by rw [hS1]; decide, fun _ => ⟨hp1.1, hO1⟩, fun q => absurd hS1 q⟩
  have hL1 : LMx σ1 (tB A) n (adv (tB A) n (0, -1, 0, 0, 0, nn), bNil) := ⟨hT.fr hp1.2 rfl, hR1, fun _ => ⟨[], ⟨by rw [hp1.2.i (by decide)]; exact f31, fun i hi => absurd hi (Nat.not_lt_zero _)⟩, ⟨okNil, ⟨⟨by rw [hp1.2.i (by decide)]; exact f25, by rw [hp1.2.i (by decide)]; exact f26, by rw [hp1.2.i (by decide)]; exact f27⟩, by rw [hp1.2.i (by decide)]; exact f28, fun _ => rfl⟩, ⟨by rw [hp1.2.2.2.2.2 nRw (by simp)]; exact fr0, fun s hs => absurd hs (Nat.not_lt_zero _), fun c hc => absurd hc (Nat.not_lt_zero _)⟩, fun c hc => absurd hc (Nat.not_lt_zero _), fun c hc => absurd hc (Nat.not_lt_zero _), show hI σ1 M0 29 = -1 by rw [hp1.2.i (by decide)]; exact f29, show hI σ1 M0 30 = -1 by rw [hp1.2.i (by decide)]; exact f30⟩, Nat.zero_le _⟩⟩
  refine l_lns (σ := τ) (Z := rdAll (tB A) n nn) (by omega) (fun σ2 hL hp hF => ?_) 700 _ σ1 hL1 (fun _ => by omega) (fun _ => hS2) rfl (hp1.2.up (by decide) (by decide))
  exact l_of124 hRM hbt (by omega) rfl hL hp ((hF0.up (by decide) (by decide)).tr (hF.up (by decide) (by decide))) ((hF.i (by decide)).trans f13) ((hF.i (by decide)).trans f0)
set_option maxRecDepth 12000 in
theorem l_of32 {n nn : Nat} (hRM : RM σ A) (hbt : btw (nI n) 0 (tN A) = true) (hn : n ≤ tN A) {x2 : Option Value} : Ok Γ 13 0 0 mX9_office 32 [some (.ref M0), some (.int (nI n)), x2] [] (sI σ M0 0 0) (rM (fOff A nn (nI n)) (fun σ' => (∀ A', OkT A' → nOff A nn (nI n) A' → RM σ' A') ∧ ChM σ σ')) := by
  obtain ⟨hF, g⟩ := put_st (σ := σ) (τ := σ) (FZ := [0, 13, 14, 15, 17, 18, 25, 26, 27, 28, 29, 30, 31]) (FA := [nRw]) (fs := []) (k := 0) (v := 0) Fj.rf (fun q hq => by cases hq) (by decide) rfl
  generalize sI σ M0 0 0 = τ at hF g ⊢
  refine p_aload_n 0 33 rfl rfl dX9_office_32 rfl ?_
  refine p_iconst (0) 34 rfl dX9_office_33 rfl ?_
  refine p_putI 9 13 37 rfl dX9_office_34 fl_X9_105 rfl rfl (Or.inl rfl) ?_
  obtain ⟨hF, g⟩ := put_st (k := 13) (v := 0) hF g (by decide) rfl
  generalize sI τ M0 13 0 = τ at hF g ⊢
  refine p_aload_n 0 38 rfl rfl dX9_office_37 rfl ?_
  refine p_iconst (-1) 39 rfl dX9_office_38 rfl ?_
  refine p_putI 9 15 42 rfl dX9_office_39 fl_X9_35 rfl rfl (Or.inl rfl) ?_
  obtain ⟨hF, g⟩ := put_st (k := 15) (v := (-1)) hF g (by decide) rfl
  generalize sI τ M0 15 (-1) = τ at hF g ⊢
  refine p_aload_n 0 43 rfl rfl dX9_office_42 rfl ?_
  refine p_iconst (0) 44 rfl dX9_office_43 rfl ?_
  refine p_putI 9 14 47 rfl dX9_office_44 fl_X9_158 rfl rfl (Or.inl rfl) ?_
  obtain ⟨hF, g⟩ := put_st (k := 14) (v := 0) hF g (by decide) rfl
  generalize sI τ M0 14 0 = τ at hF g ⊢
  refine p_aload_n 0 48 rfl rfl dX9_office_47 rfl ?_
  refine p_iload_n 1 49 rfl rfl dX9_office_48 rfl ?_
  refine p_putI 9 17 52 rfl dX9_office_49 fl_X9_112 rfl rfl (Or.inl rfl) ?_
  obtain ⟨hF, g⟩ := put_st (k := 17) (v := (nI n)) hF g (by decide) rfl
  generalize sI τ M0 17 (nI n) = τ at hF g ⊢
  refine p_aload_n 0 53 rfl rfl dX9_office_52 rfl ?_
  refine p_iconst (0) 54 rfl dX9_office_53 rfl ?_
  refine p_putI 9 18 57 rfl dX9_office_54 fl_X9_115 rfl rfl (Or.inl rfl) ?_
  obtain ⟨hF, g⟩ := put_st (k := 18) (v := 0) hF g (by decide) rfl
  generalize sI τ M0 18 0 = τ at hF g ⊢
  refine p_aload_n 0 58 rfl rfl dX9_office_57 rfl ?_
  refine p_iconst (0) 59 rfl dX9_office_58 rfl ?_
  refine p_putI 9 25 62 rfl dX9_office_59 fl_X9_224 rfl rfl (Or.inl rfl) ?_
  obtain ⟨hF, g⟩ := put_st (k := 25) (v := 0) hF g (by decide) rfl
  generalize sI τ M0 25 0 = τ at hF g ⊢
  refine p_aload_n 0 63 rfl rfl dX9_office_62 rfl ?_
  refine p_iconst (0) 64 rfl dX9_office_63 rfl ?_
  refine p_putI 9 26 67 rfl dX9_office_64 fl_X9_231 rfl rfl (Or.inl rfl) ?_
  obtain ⟨hF, g⟩ := put_st (k := 26) (v := 0) hF g (by decide) rfl
  generalize sI τ M0 26 0 = τ at hF g ⊢
  refine p_aload_n 0 68 rfl rfl dX9_office_67 rfl ?_
  refine p_iconst (0) 69 rfl dX9_office_68 rfl ?_
  refine p_putI 9 27 72 rfl dX9_office_69 fl_X9_234 rfl rfl (Or.inl rfl) ?_
  obtain ⟨hF, g⟩ := put_st (k := 27) (v := 0) hF g (by decide) rfl
  generalize sI τ M0 27 0 = τ at hF g ⊢
  refine p_aload_n 0 73 rfl rfl dX9_office_72 rfl ?_
  refine p_iconst (-1) 74 rfl dX9_office_73 rfl ?_
  refine p_putI 9 28 77 rfl dX9_office_74 fl_X9_257 rfl rfl (Or.inl rfl) ?_
  obtain ⟨hF, g⟩ := put_st (k := 28) (v := (-1)) hF g (by decide) rfl
  generalize sI τ M0 28 (-1) = τ at hF g ⊢
  refine p_aload_n 0 78 rfl rfl dX9_office_77 rfl ?_
  refine p_iconst (-1) 79 rfl dX9_office_78 rfl ?_
  refine p_putI 9 29 82 rfl dX9_office_79 fl_X9_260 rfl rfl (Or.inl rfl) ?_
  obtain ⟨hF, g⟩ := put_st (k := 29) (v := (-1)) hF g (by decide) rfl
  generalize sI τ M0 29 (-1) = τ at hF g ⊢
  refine p_aload_n 0 83 rfl rfl dX9_office_82 rfl ?_
  refine p_iconst (-1) 84 rfl dX9_office_83 rfl ?_
  refine p_putI 9 30 87 rfl dX9_office_84 fl_X9_267 rfl rfl (Or.inl rfl) ?_
  obtain ⟨hF, g⟩ := put_st (k := 30) (v := (-1)) hF g (by decide) rfl
  generalize sI τ M0 30 (-1) = τ at hF g ⊢
  refine p_aload_n 0 88 rfl rfl dX9_office_87 rfl ?_
  refine p_getR 9 40 91 rfl dX9_office_88 fl_X9_53 rfl rfl (show hR _ M0 40 = nRw by rw [hF.2.2.1]; exact hRM.1.1 40) (by decide) ?_
  refine p_iconst (0) 92 rfl dX9_office_91 rfl ?_
  refine p_iconst (0) 93 rfl dX9_office_92 rfl ?_
  refine p_iastE 94 rfl dX9_office_93 (i := 0) rfl (by decide) ?_
  have hF := hF.tr (Fj.sA (i := 0) (x := 0) (show nRw ∈ [nRw] by simp))
  have g2 := g
  have fr0 : hA (sA τ nRw 0 0) nRw 0 = 0 := by rw [sA_s, pk_us]
  have g := fun (q : Nat × Int32) hq => (show hI (sA τ nRw 0 0) M0 q.1 = q.2 by rw [hI_sAx]; exact g2 q hq)
  generalize sA τ nRw 0 0 = τ at hF g fr0 ⊢
  refine p_aload_n 0 95 rfl rfl dX9_office_94 rfl ?_
  refine p_iconst (0) 96 rfl dX9_office_95 rfl ?_
  refine p_putI 9 31 99 rfl dX9_office_96 fl_X9_171 rfl rfl (Or.inl rfl) ?_
  have fr0 : hA (sI τ M0 31 0) nRw 0 = 0 := by rw [hA_sI]; exact fr0
  obtain ⟨hF0, g⟩ := put_st (k := 31) (v := 0) hF g (by decide) rfl
  generalize sI τ M0 31 0 = τ at hF0 g fr0 ⊢
  have f0 : hI τ M0 0 = 0 := g (0, 0) (.tail _ (.tail _ (.tail _ (.tail _ (.tail _ (.tail _ (.tail _ (.tail _ (.tail _ (.tail _ (.tail _ (.tail _ (.head _)))))))))))))
  have f13 : hI τ M0 13 = 0 := g (13, 0) (.tail _ (.tail _ (.tail _ (.tail _ (.tail _ (.tail _ (.tail _ (.tail _ (.tail _ (.tail _ (.tail _ (.head _))))))))))))
  have f15 : hI τ M0 15 = (-1) := g (15, (-1)) (.tail _ (.tail _ (.tail _ (.tail _ (.tail _ (.tail _ (.tail _ (.tail _ (.tail _ (.tail _ (.head _)))))))))))
  have f14 : hI τ M0 14 = 0 := g (14, 0) (.tail _ (.tail _ (.tail _ (.tail _ (.tail _ (.tail _ (.tail _ (.tail _ (.tail _ (.head _))))))))))
  have f17 : hI τ M0 17 = (nI n) := g (17, (nI n)) (.tail _ (.tail _ (.tail _ (.tail _ (.tail _ (.tail _ (.tail _ (.tail _ (.head _)))))))))
  have f18 : hI τ M0 18 = 0 := g (18, 0) (.tail _ (.tail _ (.tail _ (.tail _ (.tail _ (.tail _ (.tail _ (.head _))))))))
  have f25 : hI τ M0 25 = 0 := g (25, 0) (.tail _ (.tail _ (.tail _ (.tail _ (.tail _ (.tail _ (.head _)))))))
  have f26 : hI τ M0 26 = 0 := g (26, 0) (.tail _ (.tail _ (.tail _ (.tail _ (.tail _ (.head _))))))
  have f27 : hI τ M0 27 = 0 := g (27, 0) (.tail _ (.tail _ (.tail _ (.tail _ (.head _)))))
  have f28 : hI τ M0 28 = (-1) := g (28, (-1)) (.tail _ (.tail _ (.tail _ (.head _))))
  have f29 : hI τ M0 29 = (-1) := g (29, (-1)) (.tail _ (.tail _ (.head _)))
  have f30 : hI τ M0 30 = (-1) := g (30, (-1)) (.tail _ (.head _))
  have f31 : hI τ M0 31 = 0 := g (31, 0) (.head _)
  exact l_of99 hRM hbt hn hF0 f0 f13 f14 f15 f17 f18 f25 f26 f27 f28 f29 f30 f31 fr0
set_option maxRecDepth 12000 in
theorem q_office (hRM : RM σ A) (nn : Nat) (x : Int32) : CallOk Γ 13 0 0 mX9_office [.ref M0, .int x] σ (rM (fOff A nn x) (fun σ' => (∀ A', OkT A' → nOff A nn x A' → RM σ' A') ∧ ChM σ σ')) := by
  have hK := hRM.2.1
  have hn7 := hK.1
  refine p_enter rfl rfl (Nat.le_of_ble_eq_true rfl) rfl ?_
  refine p_aload_n 0 1 rfl rfl dX9_office_0 rfl ?_
  refine p_iconst (0) 2 rfl dX9_office_1 rfl ?_
  refine p_putI 9 0 5 rfl dX9_office_2 fl_X9_102 rfl rfl (Or.inl rfl) ?_
  refine p_aload_n 0 6 rfl rfl dX9_office_5 rfl ?_
  refine p_iload_n 1 7 rfl rfl dX9_office_6 rfl ?_
  refine p_if_lt 22 10 rfl rfl dX9_office_7 (fun h7 => ?_) (fun h7 => ?_)
  · have hbt : btw x 0 (tN A) = false := by
      unfold btw; rw [nI_0]; rw [decide_eq_false (fun q => Int32.not_le.mpr h7 q)]; rfl
    refine p_iconst (0) 23 rfl dX9_office_22 rfl ?_
    refine p_iconst (1) 24 rfl dX9_office_23 rfl ?_
    refine p_cV2x 0 0 27 rfl dX9_office_24 (c_right (hI_sI _ _ _ _) false (w := 1) (by decide)) ml_X9_273 vl_X9_right rfl (by decide) rfl (Nat.le_of_ble_eq_true rfl) (Nat.le_of_ble_eq_true rfl) (Nat.le_of_ble_eq_true rfl) (Nat.le_of_ble_eq_true rfl) rfl ?_
    rintro v0 τ0 ⟨hv0, ht0, hf0⟩
    subst hv0
    refine p_if_ne 32 30 rfl rfl dX9_office_27 (fun h27 => absurd rfl h27) (fun h27 => ?_)
    have e0 := hf0 rfl
    subst e0
    refine p_iconst (0) 31 rfl dX9_office_30 rfl ?_
    exact p_iret dX9_office_31 rfl ⟨_, rfl, by rw [show fOff A nn x = (1, 0) by unfold fOff; exact gd_f hbt]; exact hI_sI _ _ _ _, fun q => absurd q (by rw [show fOff A nn x = (1, 0) by unfold fOff; exact gd_f hbt]; decide), fun A' hk hn => by
   unfold nOff at hn; rw [hbt, if_neg (by decide)] at hn; subst hn; exact hRM.q (FQ.th.tr FQ.th), (FQ.th.tr FQ.th).ch⟩
  · refine p_iload_n 1 11 rfl rfl dX9_office_10 rfl ?_
    refine p_aload_n 0 12 rfl rfl dX9_office_11 rfl ?_
    refine p_getIE 9 13 15 rfl dX9_office_12 fl_X9_105 rfl rfl ((hI_sIo (by decide)).trans hRM.2.2.2.2.2.2.1.1) ?_
    refine p_icmp_gt 22 18 rfl rfl dX9_office_15 (fun h15 => ?_) (fun h15 => ?_)
    · have hbt : btw x 0 (tN A) = false := by
        unfold btw; rw [nI_0]; rw [decide_eq_false (p := x ≤ nI (tN A)) (fun q => Int32.not_le.mpr h15 q), Bool.and_false]
      refine p_iconst (0) 23 rfl dX9_office_22 rfl ?_
      refine p_iconst (1) 24 rfl dX9_office_23 rfl ?_
      refine p_cV2x 0 0 27 rfl dX9_office_24 (c_right (hI_sI _ _ _ _) false (w := 1) (by decide)) ml_X9_273 vl_X9_right rfl (by decide) rfl (Nat.le_of_ble_eq_true rfl) (Nat.le_of_ble_eq_true rfl) (Nat.le_of_ble_eq_true rfl) (Nat.le_of_ble_eq_true rfl) rfl ?_
      rintro v0 τ0 ⟨hv0, ht0, hf0⟩
      subst hv0
      refine p_if_ne 32 30 rfl rfl dX9_office_27 (fun h27 => absurd rfl h27) (fun h27 => ?_)
      have e0 := hf0 rfl
      subst e0
      refine p_iconst (0) 31 rfl dX9_office_30 rfl ?_
      exact p_iret dX9_office_31 rfl ⟨_, rfl, by rw [show fOff A nn x = (1, 0) by unfold fOff; exact gd_f hbt]; exact hI_sI _ _ _ _, fun q => absurd q (by rw [show fOff A nn x = (1, 0) by unfold fOff; exact gd_f hbt]; decide), fun A' hk hn => by
   unfold nOff at hn; rw [hbt, if_neg (by decide)] at hn; subst hn; exact hRM.q (FQ.th.tr FQ.th), (FQ.th.tr FQ.th).ch⟩
    · have hbt : btw x 0 (tN A) = true := by
        unfold btw; rw [nI_0, decide_eq_true (Int32.not_lt.mp h7), decide_eq_true (Int32.not_lt.mp h15)]; rfl
      obtain ⟨n, rfl, hn0, hn⟩ := asB hbt (Nat.zero_le _) (by omega)
      refine p_iconst (1) 19 rfl dX9_office_18 rfl ?_
      refine p_goto 23 rfl dX9_office_19 ?_
      refine p_iconst (1) 24 rfl dX9_office_23 rfl ?_
      refine p_cV2x 0 0 27 rfl dX9_office_24 (c_right (hI_sI _ _ _ _) true (w := 1) (by decide)) ml_X9_273 vl_X9_right rfl (by decide) rfl (Nat.le_of_ble_eq_true rfl) (Nat.le_of_ble_eq_true rfl) (Nat.le_of_ble_eq_true rfl) (Nat.le_of_ble_eq_true rfl) rfl ?_
      rintro v0 τ0 ⟨hv0, ht0, hf0⟩
      subst hv0
      refine p_if_ne 32 30 rfl rfl dX9_office_27 (fun h27 => ?_) (fun h27 => absurd h27 (by decide))
      have e0 := ht0 rfl
      subst e0
      exact l_of32 hRM hbt hn
end Cag
