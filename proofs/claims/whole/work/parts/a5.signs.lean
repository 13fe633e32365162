/-! ===== the reference: faults, signs, words, numbers ===== -/
def RdM (σ : PH) (tx : Nat → Nat) (z : Nat) (S : RS) : Prop := hI σ M0 14 = nI S.1 ∧ hI σ M0 15 = S.2.1 ∧ S.1 ≤ 5 ∧ (S.1 = 0 → TkS σ tx z S ∧ OkR z S) ∧ (¬ S.1 = 0 → S.2.2.1 = 0)
def kwF (tx : Nat → Nat) (S : RS) : Option Nat := fnd 17 0 (fun k => spl tx S (swd (kwl k)))
theorem b2i_d {p : Prop} [Decidable p] : b2i (decide p) = if p then 1 else 0 := by by_cases h : p <;> simp [h, b2i]
/-! words by their packed letters -/
theorem wv_inj : ∀ (n m : Nat) (f g : Nat → Nat), (∀ i, i < n → 97 ≤ f i ∧ f i ≤ 122) → (∀ i, i < m → 97 ≤ g i ∧ g i ≤ 122) → wvF f 0 n = wvF g 0 m → n = m ∧ ∀ i, i < n → f i = g i := by
  intro n
  induction n with
  | zero =>
    intro m f g _ hg h
    cases m with
    | zero => exact ⟨rfl, fun i hi => by omega⟩
    | succ m =>
      have := hg m (by omega)
      simp only [wvF, Nat.zero_add] at h
      omega
  | succ n ih =>
    intro m f g hf hg h
    have hfn := hf n (by omega)
    cases m with
    | zero => simp only [wvF, Nat.zero_add] at h; omega
    | succ m =>
      have hgm := hg m (by omega)
      simp only [wvF, Nat.zero_add] at h
      have h1 : f n = g m := by omega
      have h2 : wvF f 0 n = wvF g 0 m := by omega
      obtain ⟨e, h3⟩ := ih m f g (fun i hi => hf i (by omega)) (fun i hi => hg i (by omega)) h2
      subst e
      refine ⟨rfl, fun i hi => ?_⟩
      rcases Nat.lt_or_ge i n with q | q
      · exact h3 i q
      · rw [show i = n by omega]; exact h1
theorem wvF_sh (tx : Nat → Nat) (s : Nat) : ∀ n, wvF tx s n = wvF (fun i => tx (s + i)) 0 n := by
  intro n
  induction n with
  | zero => rfl
  | succ n ih => simp only [wvF, ih, Nat.zero_add]
theorem kw_all : ∀ k, k < 17 → (swd (kwl k)).length ≤ 6 ∧ (∀ i, i < (swd (kwl k)).length → 97 ≤ (swd (kwl k)).getD i 0 ∧ (swd (kwl k)).getD i 0 ≤ 122) ∧ wvL (swd (kwl k)) = wvF (fun i => (swd (kwl k)).getD i 0) 0 (swd (kwl k)).length ∧ wvL (swd (kwl k)) < 2 ^ 31 := by decide +kernel
theorem i64_inj {a b : Nat} (ha : a < 2 ^ 31) (hb : b < 2 ^ 31) (h : Int64.ofNat a = Int64.ofNat b) : a = b := by
  have h1 := congrArg (fun x => x.toBitVec.toNat) h
  have e : ∀ n, n < 2 ^ 31 → (Int64.ofNat n).toBitVec.toNat = n := fun n hn => by
    show (BitVec.ofNat 64 n).toNat = n
    rw [BitVec.toNat_ofNat]; omega
  simp only [e a ha, e b hb] at h1
  exact h1
theorem spF_i {tx : Nat → Nat} {s : Nat} {w : List Nat} : ∀ n, (∀ j, j < n → tx (s + j) = w.getD j 0) → spF tx s w n = true := by
  intro n
  induction n with
  | zero => intro _; rfl
  | succ n ih => intro h; simp only [spF, Bool.and_eq_true, beq_iff_eq]; exact ⟨ih (fun j hj => h j (by omega)), h n (by omega)⟩
/-- a word that is known: its letters in a number -/
theorem kw_let {σ : PH} {tx : Nat → Nat} {z : Nat} {S : RS} (hT : TkS σ tx z S) (h1 : S.2.2.1 = 1) (h6 : S.2.2.2.2.1 - S.2.2.2.1 ≤ 6) {k : Nat} (hk : k < 17) : (lwJ k = hJ σ M0 24) ↔ spl tx S (swd (kwl k)) = true := by
  obtain ⟨t1, t2, t3, t4, t5, t6⟩ := hT
  obtain ⟨a1, a2, a3, a4⟩ := kw_all k hk
  have hl : ∀ i, i < S.2.2.2.2.1 - S.2.2.2.1 → 97 ≤ tx (S.2.2.2.1 + i) ∧ tx (S.2.2.2.1 + i) ≤ 122 := fun i hi => kOf_1.mp ((t6 (Or.inl h1) (S.2.2.2.1 + i) (by omega) (by omega)).trans h1)
  have hw : wvF tx S.2.2.2.1 (S.2.2.2.2.1 - S.2.2.2.1) < 2 ^ 31 := by
    have := wvF_lt (tx := tx) (s := S.2.2.2.1) (S.2.2.2.2.1 - S.2.2.2.1) (fun i hi => (hl i hi).2)
    have h32 : 32 ^ (S.2.2.2.2.1 - S.2.2.2.1) ≤ 32 ^ 6 := Nat.pow_le_pow_right (by decide) h6
    have : (32 : Nat) ^ 6 = 1073741824 := by decide
    omega
  rw [t4 h1 h6]
  unfold lwJ
  constructor
  · intro h
    have h2 := i64_inj a4 hw h
    rw [a3, wvF_sh tx] at h2
    obtain ⟨e1, e2⟩ := wv_inj _ _ _ _ a2 hl h2
    unfold spl
    rw [h1, ← e1]
    simp only [beq_self_eq_true, Bool.true_and]
    exact spF_i _ (fun j hj => (e2 j hj).symm)
  · intro h
    have h2 := id h
    unfold spl at h2
    simp only [Bool.and_eq_true, beq_iff_eq] at h2
    rw [a3, h2.1.2, wvF_sh tx]
    congr 1
    have : ∀ n, n ≤ (swd (kwl k)).length → wvF (fun i => (swd (kwl k)).getD i 0) 0 n = wvF (fun i => tx (S.2.2.2.1 + i)) 0 n := by
      intro n
      induction n with
      | zero => intro _; rfl
      | succ n ih => intro hn; simp only [wvF, Nat.zero_add]; rw [ih (by omega), spF_w _ h2.2 n (by omega)]
    exact this _ (Nat.le_refl _)
theorem fnd_f2 {p : Nat → Bool} : ∀ n i, (∀ j, i ≤ j → j < i + n → p j = false) → fnd n i p = none := by
  intro n
  induction n with
  | zero => intro i _; rfl
  | succ n ih => intro i h; simp only [fnd]; rw [if_neg (by rw [h i (Nat.le_refl _) (by omega)]; decide)]; exact ih (i + 1) (fun j h1 h2 => h j (by omega) (by omega))
theorem kwF_iff {tx : Nat → Nat} {S : RS} {k : Nat} (hk : k < 17) : kwF tx S = some k ↔ spl tx S (swd (kwl k)) = true := by
  have hd : ∀ j, j < 17 → ∀ k, k < 17 → swd (kwl j) = swd (kwl k) → j = k := by decide +kernel
  unfold kwF
  constructor
  · intro h
    rcases Classical.em (∃ j, 0 ≤ j ∧ j < 0 + 17 ∧ spl tx S (swd (kwl j)) = true) with w | w
    · obtain ⟨s, e1, e2, e3, e4, e5⟩ := fnd_ex (p := fun k => spl tx S (swd (kwl k))) 17 0 w
      rw [e1] at h; cases h; exact e4
    · rw [fnd_f2 17 0 (fun j h1 h2 => by
        cases q : spl tx S (swd (kwl j)) with
        | false => rfl
        | true => exact absurd ⟨j, h1, h2, q⟩ w)] at h
      cases h
  · intro h
    obtain ⟨s, e1, e2, e3, e4, e5⟩ := fnd_ex (p := fun k => spl tx S (swd (kwl k))) 17 0 ⟨k, Nat.zero_le _, by omega, h⟩
    rw [e1, hd s (by omega) k hk (spl_uq e4 h)]
theorem adv_p (tx : Nat → Nat) (z : Nat) (S : RS) : (adv tx z S).2.1 = S.2.1 := by unfold adv; simp only []; split <;> rfl
section Ca5
variable {Γ : Gm} {σ : PH} {tx : Nat → Nat} {z : Nat}
theorem RdM.fr {σ' : PH} {S : RS} {XI X : List Nat} (h : RdM σ tx z S) (hf : Fj XI X σ σ') (hx : [14, 15, 17, 18, 19, 20, 21, 22, 23].all (fun k => !XI.contains k) = true) (hJ' : hJ σ' M0 24 = hJ σ M0 24) : RdM σ' tx z S := by
  have e : ∀ k, k ∈ [14, 15, 17, 18, 19, 20, 21, 22, 23] → hI σ' M0 k = hI σ M0 k := fun k hk => hf.i (by have := List.all_eq_true.mp hx k hk; simpa using this)
  refine ⟨by rw [e 14 (by simp)]; exact h.1, by rw [e 15 (by simp)]; exact h.2.1, h.2.2.1, fun h0 => ⟨?_, (h.2.2.2.1 h0).2⟩, h.2.2.2.2⟩
  obtain ⟨t1, t2, t3, t4, t5, t6⟩ := (h.2.2.2.1 h0).1
  exact ⟨by rw [e 17 (by simp), e 18 (by simp), e 19 (by simp), e 20 (by simp), e 21 (by simp)]; exact t1, by rw [e 22 (by simp)]; exact t2, by rw [e 23 (by simp)]; exact t3, by rw [hJ']; exact t4, t5, t6⟩
theorem RdM_adv {σ' : PH} {S : RS} (h : RdM σ tx z S) (h0 : S.1 = 0) (ht : TkS σ' tx z (adv tx z S)) (hf : Fj [18, 19, 20, 21, 22, 23] [] σ σ') : RdM σ' tx z (adv tx z S) := by
  refine ⟨by rw [hf.i (by decide), adv_f]; exact h.1, ?_, by rw [adv_f]; exact h.2.2.1, fun _ => ⟨ht, adv_ok (h.2.2.2.1 h0).2⟩, fun q => absurd (by rw [adv_f]; exact h0) q⟩
  rw [hf.i (by decide)]
  rw [adv_p]; exact h.2.1
set_option maxRecDepth 4000 in
theorem c_wrong {S : RS} (h : RdM σ tx z S) {w : Nat} (hw1 : 1 ≤ w) (hw5 : w ≤ 5) : CallOk Γ 1 0 0 mX9_wrong [.ref M0, .int (nI w)] σ (rV (fun σ' => RdM σ' tx z (fai z w S) ∧ Fj [14, 15] [] σ σ' ∧ hJ σ' = hJ σ)) := by
  have h5 := h.2.2.1
  refine p_enter rfl rfl (Nat.le_of_ble_eq_true rfl) rfl ?_
  refine p_aload_n 0 1 rfl rfl dX9_wrong_0 rfl ?_
  refine p_getIE 9 14 4 rfl dX9_wrong_1 fl_X9_158 rfl rfl h.1 ?_
  refine p_if_eq 8 7 rfl rfl dX9_wrong_4 (fun h4 => ?_) (fun h4 => ?_)
  · have h0 : S.1 = 0 := nI_eqI (show nI S.1 = nI 0 from h4) (by omega) (by decide)
    have h0t := (h.2.2.2.1 h0).1
    have hk := fai_k (z := z) (w := w) h0
    refine p_aload_n 0 9 rfl rfl dX9_wrong_8 rfl ?_
    refine p_iload_n 1 10 rfl rfl dX9_wrong_9 rfl ?_
    refine p_putI 9 14 13 rfl dX9_wrong_10 fl_X9_158 rfl rfl (Or.inl rfl) ?_
    refine p_aload_n 0 14 rfl rfl dX9_wrong_13 rfl ?_
    refine p_aload_n 0 15 rfl rfl dX9_wrong_14 rfl ?_
    refine p_getIE 9 20 18 rfl dX9_wrong_15 fl_X9_122 rfl rfl ((hI_sIo (by decide)).trans h0t.1.2.2.2.1) ?_
    refine p_putI 9 15 21 rfl dX9_wrong_18 fl_X9_35 rfl rfl (Or.inl rfl) ?_
    exact p_vret dX9_wrong_21 rfl ⟨rfl, ⟨(hI_sIo (by decide)).trans ((hI_sI _ _ _ _).trans (by rw [hk.2.1])), (hI_sI _ _ _ _).trans hk.2.2.symm, by rw [hk.2.1]; exact hw5, fun q => absurd q (by rw [hk.2.1]; omega), fun _ => hk.1⟩, (Fj.sI (by simp)).tr (Fj.sI (by simp)), rfl⟩
  · have hf : ¬ S.1 = 0 := fun q => h4 (by rw [q]; rfl)
    exact p_vret dX9_wrong_7 rfl ⟨rfl, by rw [fai_f hf]; exact h, Fj.rf, rfl⟩
set_option maxRecDepth 4000 in
theorem c_isGood {S : RS} (h : RdM σ tx z S) : CallOk Γ 1 0 0 mX9_isGood [.ref M0] σ (rI σ (b2i (S.1 == 0))) := by
  have h5 := h.2.2.1
  refine p_enter rfl rfl (Nat.le_of_ble_eq_true rfl) rfl ?_
  refine p_aload_n 0 1 rfl rfl dX9_isGood_0 rfl ?_
  refine p_getIE 9 14 4 rfl dX9_isGood_1 fl_X9_158 rfl rfl h.1 ?_
  refine p_if_ne 11 7 rfl rfl dX9_isGood_4 (fun h4 => ?_) (fun h4 => ?_)
  · refine p_iconst (0) 12 rfl dX9_isGood_11 rfl ?_
    exact p_zret dX9_isGood_12 rfl (by decide) ⟨by rw [show (S.1 == 0) = false by rw [beq_eq_false_iff_ne]; exact fun q => h4 (by rw [q]; rfl)]; rfl, rfl⟩
  · refine p_iconst (1) 8 rfl dX9_isGood_7 rfl ?_
    refine p_goto 12 rfl dX9_isGood_8 ?_
    exact p_zret dX9_isGood_12 rfl (by decide) ⟨by rw [show (S.1 == 0) = true by rw [beq_iff_eq]; exact nI_eqI (show nI S.1 = nI 0 from h4) (by omega) (by decide)]; rfl, rfl⟩
set_option maxRecDepth 4000 in
theorem c_isSignA (x : Int32) : CallOk Γ 1 0 0 mX9_isSign [.ref M0, .int x] σ (rI σ (b2i (decide (hI σ M0 19 = 3) && decide (hI σ M0 23 = x)))) := by
  refine p_enter rfl rfl (Nat.le_of_ble_eq_true rfl) rfl ?_
  refine p_aload_n 0 1 rfl rfl dX9_isSign_0 rfl ?_
  refine p_getI 9 19 4 rfl dX9_isSign_1 fl_X9_135 rfl rfl ?_
  refine p_iconst (3) 5 rfl dX9_isSign_4 rfl ?_
  refine p_icmp_ne 20 8 rfl rfl dX9_isSign_5 (fun h5 => ?_) (fun h5 => ?_)
  · refine p_iconst (0) 21 rfl dX9_isSign_20 rfl ?_
    exact p_zret dX9_isSign_21 rfl (by decide) ⟨by rw [decide_eq_false h5]; rfl, rfl⟩
  · refine p_aload_n 0 9 rfl rfl dX9_isSign_8 rfl ?_
    refine p_getI 9 23 12 rfl dX9_isSign_9 fl_X9_132 rfl rfl ?_
    refine p_iload_n 1 13 rfl rfl dX9_isSign_12 rfl ?_
    refine p_icmp_ne 20 16 rfl rfl dX9_isSign_13 (fun h13 => ?_) (fun h13 => ?_)
    · refine p_iconst (0) 21 rfl dX9_isSign_20 rfl ?_
      exact p_zret dX9_isSign_21 rfl (by decide) ⟨by rw [decide_eq_false h13, Bool.and_false]; rfl, rfl⟩
    · refine p_iconst (1) 17 rfl dX9_isSign_16 rfl ?_
      refine p_goto 21 rfl dX9_isSign_17 ?_
      exact p_zret dX9_isSign_21 rfl (by decide) ⟨by rw [decide_eq_true h5, decide_eq_true h13]; rfl, rfl⟩
theorem sgn_eq {S : RS} (h : RdM σ tx z S) (h0 : S.1 = 0) (htx : ∀ i, tx i < 256) {c : Nat} (hc : c < 256) : (decide (hI σ M0 19 = 3) && decide (hI σ M0 23 = nI c)) = sta tx S c := by
  have ht := (h.2.2.2.1 h0).1
  have ho := (h.2.2.2.1 h0).2
  unfold sta
  rw [ht.1.2.2.1]
  by_cases hk : S.2.2.1 = 3
  · rw [hk, ht.2.2.1 (by rw [hk]; decide)]
    have hb := htx S.2.2.2.1
    by_cases e : tx S.2.2.2.1 = c
    · simp [e]; rfl
    · have : ¬ nI (tx S.2.2.2.1) = nI c := fun q => e (nI_eqI q (by omega) (by omega))
      simp [e, this]
  · have hk4 := ho.2.1
    have : ¬ nI S.2.2.1 = 3 := fun q => hk (nI_eqI (show nI S.2.2.1 = nI 3 from q) (by omega) (by decide))
    simp [hk, this]
theorem c_isSign {S : RS} (h : RdM σ tx z S) (h0 : S.1 = 0) (htx : ∀ i, tx i < 256) {c : Nat} (hc : c < 256) : CallOk Γ 1 0 0 mX9_isSign [.ref M0, .int (nI c)] σ (rI σ (b2i (sta tx S c))) := by
  rw [← sgn_eq h h0 htx hc]; exact c_isSignA _
set_option maxRecDepth 4000 in
theorem l_kw {S : RS} {F : Option Nat} (hT : TkS σ tx z S) (h1 : S.2.2.1 = 1) (h6 : S.2.2.2.2.1 - S.2.2.2.1 ≤ 6) : ∀ (n k : Nat), k + n = 17 → fnd n k (fun k => spl tx S (swd (kwl k))) = F → Ok Γ 3 0 0 mX9_knownWord 21 [some (.ref M0), some (.int (nI k))] [] σ (rI σ (oI F)) := by
  intro n
  induction n with
  | zero =>
    intro k hk hF
    refine p_iload_n 1 22 rfl rfl dX9_knownWord_21 rfl ?_
    refine p_bipush (17) 24 rfl dX9_knownWord_22 rfl ?_
    refine p_icmp_ge 47 27 rfl rfl dX9_knownWord_24 (fun h24 => ?_) (fun h24 => absurd (nI_le (a := 17) (b := k) (by omega) (by omega)) h24)
    refine p_iconst (-1) 48 rfl dX9_knownWord_47 rfl ?_
    exact p_iret dX9_knownWord_48 rfl ⟨by rw [← hF]; rfl, rfl⟩
  | succ n ih =>
    intro k hk hF
    refine p_iload_n 1 22 rfl rfl dX9_knownWord_21 rfl ?_
    refine p_bipush (17) 24 rfl dX9_knownWord_22 rfl ?_
    refine p_icmp_ge 47 27 rfl rfl dX9_knownWord_24 (fun h24 => absurd h24 (nI_ge (a := k) (b := 17) (by omega) (by omega))) (fun h24 => ?_)
    refine p_iload_n 1 28 rfl rfl dX9_knownWord_27 rfl ?_
    refine p_cS1j 31 rfl dX9_knownWord_28 (c_letters (by omega)) ml_X9_154 sl_X9_letters (Nat.le_of_ble_eq_true rfl) (Nat.le_of_ble_eq_true rfl) rfl ?_
    refine p_aload_n 0 32 rfl rfl dX9_knownWord_31 rfl ?_
    refine p_getJ 9 24 35 rfl dX9_knownWord_32 fl_X9_125 rfl rfl ?_
    refine p_lcmp 36 rfl dX9_knownWord_35 ?_
    refine p_if_ne 41 39 rfl rfl dX9_knownWord_36 (fun h36 => ?_) (fun h36 => ?_)
    · refine p_inc_1 44 rfl dX9_knownWord_41 (1) rfl (Nat.le_of_ble_eq_true rfl) rfl ?_
      refine p_goto 21 rfl dX9_knownWord_44 ?_
      rw [nI_1]
      refine ih (k + 1) (by omega) ?_
      rw [← hF, fnd, if_neg (fun q => h36 ((lg_cmp_eq _ _).mpr ((kw_let hT h1 h6 (by omega)).mpr q)))]
    · refine p_iload_n 1 40 rfl rfl dX9_knownWord_39 rfl ?_
      exact p_iret dX9_knownWord_40 rfl ⟨by rw [← hF, fnd, if_pos ((kw_let hT h1 h6 (by omega)).mp ((lg_cmp_eq _ _).mp h36))]; rfl, rfl⟩
set_option maxRecDepth 4000 in
theorem c_knownWord {S : RS} (h : RdM σ tx z S) (h0 : S.1 = 0) (hz7 : z ≤ 700) : CallOk Γ 3 0 0 mX9_knownWord [.ref M0] σ (rI σ (oI (kwF tx S))) := by
  have hT := (h.2.2.2.1 h0).1
  have ho := (h.2.2.2.1 h0).2
  refine p_enter rfl rfl (Nat.le_of_ble_eq_true rfl) rfl ?_
  refine p_aload_n 0 1 rfl rfl dX9_knownWord_0 rfl ?_
  refine p_getIE 9 19 4 rfl dX9_knownWord_1 fl_X9_135 rfl rfl hT.1.2.2.1 ?_
  refine p_iconst (1) 5 rfl dX9_knownWord_4 rfl ?_
  refine p_icmp_ne 17 8 rfl rfl dX9_knownWord_5 (fun h5 => ?_) (fun h5 => ?_)
  · refine p_iconst (-1) 18 rfl dX9_knownWord_17 rfl ?_
    exact p_iret dX9_knownWord_18 rfl ⟨by rw [show kwF tx S = none from fnd_f2 17 0 (fun j _ _ => by
     cases q : spl tx S (swd (kwl j)) with
     | false => rfl
     | true => exact absurd (show nI S.2.2.1 = 1 by rw [spl_k q]; rfl) h5)]; rfl, rfl⟩
  · refine p_aload_n 0 9 rfl rfl dX9_knownWord_8 rfl ?_
    refine p_getIE 9 21 12 rfl dX9_knownWord_9 fl_X9_145 rfl rfl hT.1.2.2.2.2 ?_
    refine p_bipush (6) 14 rfl dX9_knownWord_12 rfl ?_
    refine p_icmp_le 19 17 rfl rfl dX9_knownWord_14 (fun h14 => ?_) (fun h14 => ?_)
    · refine p_iconst (0) 20 rfl dX9_knownWord_19 rfl ?_
      refine p_ist_n1 21 rfl rfl dX9_knownWord_20 (Nat.le_of_ble_eq_true rfl) rfl ?_
      have h1 : S.2.2.1 = 1 := nI_eqI (show nI S.2.2.1 = nI 1 from h5) (by have := ho.2.1; omega) (by decide)
      have h6 : S.2.2.2.2.1 - S.2.2.2.1 ≤ 6 := (Nat.lt_or_ge 6 (S.2.2.2.2.1 - S.2.2.2.1)).elim (fun q => absurd h14 (nI_ge q (by have := ho.2.2.2.1; omega))) id
      exact l_kw hT h1 h6 17 0 (by omega) rfl
    · refine p_iconst (-1) 18 rfl dX9_knownWord_17 rfl ?_
      exact p_iret dX9_knownWord_18 rfl ⟨by rw [show kwF tx S = none from fnd_f2 17 0 (fun j _ hj => by
     cases q : spl tx S (swd (kwl j)) with
     | false => rfl
     | true =>
       have q2 := id q
       unfold spl at q2
       simp only [Bool.and_eq_true, beq_iff_eq] at q2
       have := (kw_all j (by omega)).1
       exact absurd (nI_le (a := S.2.2.2.2.1 - S.2.2.2.1) (b := 6) (by omega) (by decide)) h14)]; rfl, rfl⟩
theorem c_goesR {S : RS} (hT : TpM σ tx z) (h : RdM σ tx z S) (h0 : S.1 = 0) : CallOk Γ 4 0 0 mX9_goes [.ref M0] σ (rV (fun σ' => RdM σ' tx z (adv tx z S) ∧ Fj [18, 19, 20, 21, 22, 23] [] σ σ')) := by
  have ht := (h.2.2.2.1 h0).1
  refine (c_goes hT (S := S) ht.1.1 ht.1.2.1 ht.2.2.2.2.1.2).mono ?_
  rintro o1 σ' ⟨e0, e1, e2⟩
  exact ⟨e0, RdM_adv h h0 e1 e2, e2⟩
set_option maxRecDepth 4000 in
theorem c_need {S : RS} (hT : TpM σ tx z) (h : RdM σ tx z S) (b : Bool) : CallOk Γ 5 0 0 mX9_need [.ref M0, .int (b2i b)] σ (rV (fun σ' => RdM σ' tx z (if S.1 = 0 then (if b = true then adv tx z S else fai z 1 S) else S) ∧ Fj [14, 15, 18, 19, 20, 21, 22, 23] [] σ σ')) := by
  refine p_enter rfl rfl (Nat.le_of_ble_eq_true rfl) rfl ?_
  refine p_aload_n 0 1 rfl rfl dX9_need_0 rfl ?_
  refine p_cV0i 4 rfl dX9_need_1 (c_isGood h) ml_X9_161 vl_X9_isGood rfl (by decide) rfl (Nat.le_of_ble_eq_true rfl) (Nat.le_of_ble_eq_true rfl) rfl ?_
  refine p_if_ne 8 7 rfl rfl dX9_need_4 (fun h4 => ?_) (fun h4 => ?_)
  · have h0 : S.1 = 0 := by have := b2i_t h4; simpa using this
    refine p_iload_n 1 9 rfl rfl dX9_need_8 rfl ?_
    refine p_if_eq 19 12 rfl rfl dX9_need_9 (fun h9 => ?_) (fun h9 => ?_)
    · refine p_aload_n 0 20 rfl rfl dX9_need_19 rfl ?_
      refine p_iconst (1) 21 rfl dX9_need_20 rfl ?_
      refine p_cV1v 0 0 24 rfl dX9_need_21 (c_wrong h (w := 1) (by decide) (by decide)) ml_X9_168 vl_X9_wrong rfl (by decide) rfl (Nat.le_of_ble_eq_true rfl) (Nat.le_of_ble_eq_true rfl) (Nat.le_of_ble_eq_true rfl) (Nat.le_of_ble_eq_true rfl) rfl ?_
      intro σ2 hp2
      exact p_vret dX9_need_24 rfl ⟨rfl, by rw [if_pos h0, if_neg (by rw [b2i_f h9]; decide)]; exact hp2.1, hp2.2.1.up (by decide) (by decide)⟩
    · refine p_aload_n 0 13 rfl rfl dX9_need_12 rfl ?_
      refine p_cV0v 0 0 16 rfl dX9_need_13 (c_goesR hT h h0) ml_X9_165 vl_X9_goes rfl (by decide) rfl (Nat.le_of_ble_eq_true rfl) (Nat.le_of_ble_eq_true rfl) (Nat.le_of_ble_eq_true rfl) (Nat.le_of_ble_eq_true rfl) rfl ?_
      intro σ2 hp2
      refine p_goto 24 rfl dX9_need_16 ?_
      exact p_vret dX9_need_24 rfl ⟨rfl, by rw [if_pos h0, if_pos (b2i_t h9)]; exact hp2.1, hp2.2.up (by decide) (by decide)⟩
  · have hf : ¬ S.1 = 0 := by have := b2i_f h4; simpa using this
    exact p_vret dX9_need_7 rfl ⟨rfl, by rw [if_neg hf]; exact h, Fj.rf⟩
set_option maxRecDepth 8000 in
theorem c_number {S : RS} (hT : TpM σ tx z) (h : RdM σ tx z S) {m : Nat} (hm : m ≤ 9999) : CallOk Γ 5 0 0 mX9_number [.ref M0, .int 0, .int (nI m)] σ (rX (fun v σ' => RdM σ' tx z (rdN tx z m S).2 ∧ ((rdN tx z m S).2.1 = 0 → v = nI (rdN tx z m S).1) ∧ Fj [14, 15, 18, 19, 20, 21, 22, 23] [] σ σ')) := by
  have hz7 := hT.2.1
  refine p_enter rfl rfl (Nat.le_of_ble_eq_true rfl) rfl ?_
  refine p_aload_n 0 1 rfl rfl dX9_number_0 rfl ?_
  refine p_cV0i 4 rfl dX9_number_1 (c_isGood h) ml_X9_161 vl_X9_isGood rfl (by decide) rfl (Nat.le_of_ble_eq_true rfl) (Nat.le_of_ble_eq_true rfl) rfl ?_
  refine p_if_ne 9 7 rfl rfl dX9_number_4 (fun h4 => ?_) (fun h4 => ?_)
  · have h0 : S.1 = 0 := by have := b2i_t h4; simpa using this
    have ht := (h.2.2.2.1 h0).1
    have ho := (h.2.2.2.1 h0).2
    refine p_aload_n 0 10 rfl rfl dX9_number_9 rfl ?_
    refine p_getIE 9 19 13 rfl dX9_number_10 fl_X9_135 rfl rfl ht.1.2.2.1 ?_
    refine p_iconst (2) 14 rfl dX9_number_13 rfl ?_
    refine p_icmp_eq 25 17 rfl rfl dX9_number_14 (fun h14 => ?_) (fun h14 => ?_)
    · refine p_aload_n 0 26 rfl rfl dX9_number_25 rfl ?_
      refine p_getIE 9 21 29 rfl dX9_number_26 fl_X9_145 rfl rfl ht.1.2.2.2.2 ?_
      refine p_iconst (4) 30 rfl dX9_number_29 rfl ?_
      refine p_icmp_gt 49 33 rfl rfl dX9_number_30 (fun h30 => ?_) (fun h30 => ?_)
      · refine p_aload_n 0 50 rfl rfl dX9_number_49 rfl ?_
        refine p_iconst (2) 51 rfl dX9_number_50 rfl ?_
        refine p_cV1v 0 0 54 rfl dX9_number_51 (c_wrong h (w := 2) (by decide) (by decide)) ml_X9_168 vl_X9_wrong rfl (by decide) rfl (Nat.le_of_ble_eq_true rfl) (Nat.le_of_ble_eq_true rfl) (Nat.le_of_ble_eq_true rfl) (Nat.le_of_ble_eq_true rfl) rfl ?_
        intro σ2 hp2
        have hk2 : S.2.2.1 = 2 := nI_eqI (show nI S.2.2.1 = nI 2 from h14) (by have := ho.2.1; omega) (by decide)
        have hv2 := ht.2.1 hk2
        have hn : ¬ S.2.2.2.2.2 ≤ m := by
          have hl : 4 < S.2.2.2.2.1 - S.2.2.2.1 := (Nat.lt_or_ge 4 (S.2.2.2.2.1 - S.2.2.2.1)).elim id (fun q => absurd h30 (nI_nlt q (by decide)))
          rw [hv2.2, num, if_pos hl]; omega
        have er : (rdN tx z m S) = (0, fai z 2 S) := by unfold rdN; rw [if_pos hk2, if_neg hn]
        have h2 : RdM σ2 tx z (rdN tx z m S).2 := by rw [er]; exact hp2.1
        have hF2 := hp2.2.1
        have hT2 := hT.fr hF2 rfl
        refine p_aload_n 0 55 rfl rfl dX9_number_54 rfl ?_
        refine p_getI 9 22 58 rfl dX9_number_55 fl_X9_129 rfl rfl ?_
        refine p_ist_n3 59 rfl rfl dX9_number_58 (Nat.le_of_ble_eq_true rfl) rfl ?_
        refine p_aload_n 0 60 rfl rfl dX9_number_59 rfl ?_
        refine p_cV0i 63 rfl dX9_number_60 (c_isGood h2) ml_X9_161 vl_X9_isGood rfl (by decide) rfl (Nat.le_of_ble_eq_true rfl) (Nat.le_of_ble_eq_true rfl) rfl ?_
        refine p_if_eq 70 66 rfl rfl dX9_number_63 (fun h63 => ?_) (fun h63 => absurd (b2i_t h63) (by rw [er]; show ¬ ((fai z 2 S).1 == 0) = true; rw [(fai_k h0).2.1]; decide))
        refine p_iload_n 3 71 rfl rfl dX9_number_70 rfl ?_
        exact p_iret dX9_number_71 rfl ⟨_, rfl, h2, fun q => absurd q (by rw [er]; show ¬ (fai z 2 S).1 = 0; rw [(fai_k h0).2.1]; decide), hF2.up (by decide) (by decide)⟩
      · have hk2 : S.2.2.1 = 2 := nI_eqI (show nI S.2.2.1 = nI 2 from h14) (by have := ho.2.1; omega) (by decide)
        have hl4 : S.2.2.2.2.1 - S.2.2.2.1 ≤ 4 := (Nat.lt_or_ge 4 (S.2.2.2.2.1 - S.2.2.2.1)).elim (fun q => absurd (nI_lt q (by have := ho.2.2.2.1; omega)) h30) id
        have hvv := (ht.2.1 hk2).1 hl4
        have hn1 := ho.2.2.2.2.1 hk2
        refine p_aload_n 0 34 rfl rfl dX9_number_33 rfl ?_
        refine p_getIE 9 22 37 rfl dX9_number_34 fl_X9_129 rfl rfl hvv ?_
        refine p_iload_n 1 38 rfl rfl dX9_number_37 rfl ?_
        refine p_icmp_lt 49 41 rfl rfl dX9_number_38 (fun h38 => absurd h38 (nI_nlt (a := S.2.2.2.2.2) (b := 0) (Nat.zero_le _) (by omega))) (fun h38 => ?_)
        refine p_aload_n 0 42 rfl rfl dX9_number_41 rfl ?_
        refine p_getIE 9 22 45 rfl dX9_number_42 fl_X9_129 rfl rfl hvv ?_
        refine p_iload_n 2 46 rfl rfl dX9_number_45 rfl ?_
        refine p_icmp_le 54 49 rfl rfl dX9_number_46 (fun h46 => ?_) (fun h46 => ?_)
        · have hk2 : S.2.2.1 = 2 := nI_eqI (show nI S.2.2.1 = nI 2 from h14) (by have := ho.2.1; omega) (by decide)
          have hv2 := ht.2.1 hk2
          have hn : S.2.2.2.2.2 ≤ m := (Nat.lt_or_ge m S.2.2.2.2.2).elim (fun q => absurd h46 (nI_ge q (by have := ho.2.2.2.2.1 hk2; omega))) id
          have er : (rdN tx z m S) = (S.2.2.2.2.2, adv tx z S) := by unfold rdN; rw [if_pos hk2, if_pos hn]
          refine p_aload_n 0 55 rfl rfl dX9_number_54 rfl ?_
          refine p_getI 9 22 58 rfl dX9_number_55 fl_X9_129 rfl rfl ?_
          refine p_ist_n3 59 rfl rfl dX9_number_58 (Nat.le_of_ble_eq_true rfl) rfl ?_
          refine p_aload_n 0 60 rfl rfl dX9_number_59 rfl ?_
          refine p_cV0i 63 rfl dX9_number_60 (c_isGood h) ml_X9_161 vl_X9_isGood rfl (by decide) rfl (Nat.le_of_ble_eq_true rfl) (Nat.le_of_ble_eq_true rfl) rfl ?_
          refine p_if_eq 70 66 rfl rfl dX9_number_63 (fun h63 => absurd (b2i_f h63) (by rw [h0]; decide)) (fun h63 => ?_)
          refine p_aload_n 0 67 rfl rfl dX9_number_66 rfl ?_
          refine p_cV0v 0 0 70 rfl dX9_number_67 (c_goesR hT h h0) ml_X9_165 vl_X9_goes rfl (by decide) rfl (Nat.le_of_ble_eq_true rfl) (Nat.le_of_ble_eq_true rfl) (Nat.le_of_ble_eq_true rfl) (Nat.le_of_ble_eq_true rfl) rfl ?_
          intro σ3 hp3
          refine p_iload_n 3 71 rfl rfl dX9_number_70 rfl ?_
          exact p_iret dX9_number_71 rfl ⟨_, rfl, by rw [er]; exact hp3.1, fun _ => by rw [er]; exact hvv, hp3.2.up (by decide) (by decide)⟩
        · refine p_aload_n 0 50 rfl rfl dX9_number_49 rfl ?_
          refine p_iconst (2) 51 rfl dX9_number_50 rfl ?_
          refine p_cV1v 0 0 54 rfl dX9_number_51 (c_wrong h (w := 2) (by decide) (by decide)) ml_X9_168 vl_X9_wrong rfl (by decide) rfl (Nat.le_of_ble_eq_true rfl) (Nat.le_of_ble_eq_true rfl) (Nat.le_of_ble_eq_true rfl) (Nat.le_of_ble_eq_true rfl) rfl ?_
          intro σ2 hp2
          have hk2 : S.2.2.1 = 2 := nI_eqI (show nI S.2.2.1 = nI 2 from h14) (by have := ho.2.1; omega) (by decide)
          have hv2 := ht.2.1 hk2
          have hn : ¬ S.2.2.2.2.2 ≤ m := fun q => h46 (nI_le q (by omega))
          have er : (rdN tx z m S) = (0, fai z 2 S) := by unfold rdN; rw [if_pos hk2, if_neg hn]
          have h2 : RdM σ2 tx z (rdN tx z m S).2 := by rw [er]; exact hp2.1
          have hF2 := hp2.2.1
          have hT2 := hT.fr hF2 rfl
          refine p_aload_n 0 55 rfl rfl dX9_number_54 rfl ?_
          refine p_getI 9 22 58 rfl dX9_number_55 fl_X9_129 rfl rfl ?_
          refine p_ist_n3 59 rfl rfl dX9_number_58 (Nat.le_of_ble_eq_true rfl) rfl ?_
          refine p_aload_n 0 60 rfl rfl dX9_number_59 rfl ?_
          refine p_cV0i 63 rfl dX9_number_60 (c_isGood h2) ml_X9_161 vl_X9_isGood rfl (by decide) rfl (Nat.le_of_ble_eq_true rfl) (Nat.le_of_ble_eq_true rfl) rfl ?_
          refine p_if_eq 70 66 rfl rfl dX9_number_63 (fun h63 => ?_) (fun h63 => absurd (b2i_t h63) (by rw [er]; show ¬ ((fai z 2 S).1 == 0) = true; rw [(fai_k h0).2.1]; decide))
          refine p_iload_n 3 71 rfl rfl dX9_number_70 rfl ?_
          exact p_iret dX9_number_71 rfl ⟨_, rfl, h2, fun q => absurd q (by rw [er]; show ¬ (fai z 2 S).1 = 0; rw [(fai_k h0).2.1]; decide), hF2.up (by decide) (by decide)⟩
    · refine p_aload_n 0 18 rfl rfl dX9_number_17 rfl ?_
      refine p_iconst (1) 19 rfl dX9_number_18 rfl ?_
      refine p_cV1v 0 0 22 rfl dX9_number_19 (c_wrong h (w := 1) (by decide) (by decide)) ml_X9_168 vl_X9_wrong rfl (by decide) rfl (Nat.le_of_ble_eq_true rfl) (Nat.le_of_ble_eq_true rfl) (Nat.le_of_ble_eq_true rfl) (Nat.le_of_ble_eq_true rfl) rfl ?_
      intro σ2 hp2
      refine p_goto 54 rfl dX9_number_22 ?_
      have hk2 : ¬ S.2.2.1 = 2 := fun q => h14 (show nI S.2.2.1 = 2 by rw [q]; rfl)
      have er : (rdN tx z m S) = (0, fai z 1 S) := by unfold rdN; rw [if_neg hk2]
      have h2 : RdM σ2 tx z (rdN tx z m S).2 := by rw [er]; exact hp2.1
      have hF2 := hp2.2.1
      have hT2 := hT.fr hF2 rfl
      refine p_aload_n 0 55 rfl rfl dX9_number_54 rfl ?_
      refine p_getI 9 22 58 rfl dX9_number_55 fl_X9_129 rfl rfl ?_
      refine p_ist_n3 59 rfl rfl dX9_number_58 (Nat.le_of_ble_eq_true rfl) rfl ?_
      refine p_aload_n 0 60 rfl rfl dX9_number_59 rfl ?_
      refine p_cV0i 63 rfl dX9_number_60 (c_isGood h2) ml_X9_161 vl_X9_isGood rfl (by decide) rfl (Nat.le_of_ble_eq_true rfl) (Nat.le_of_ble_eq_true rfl) rfl ?_
      refine p_if_eq 70 66 rfl rfl dX9_number_63 (fun h63 => ?_) (fun h63 => absurd (b2i_t h63) (by rw [er]; show ¬ ((fai z 1 S).1 == 0) = true; rw [(fai_k h0).2.1]; decide))
      refine p_iload_n 3 71 rfl rfl dX9_number_70 rfl ?_
      exact p_iret dX9_number_71 rfl ⟨_, rfl, h2, fun q => absurd q (by rw [er]; show ¬ (fai z 1 S).1 = 0; rw [(fai_k h0).2.1]; decide), hF2.up (by decide) (by decide)⟩
  · have hf : ¬ S.1 = 0 := by have := b2i_f h4; simpa using this
    have hrf : (rdN tx z m S).2 = S := by unfold rdN; rw [if_neg (by rw [h.2.2.2.2 hf]; decide)]; exact fai_f hf
    refine p_iconst (0) 8 rfl dX9_number_7 rfl ?_
    exact p_iret dX9_number_8 rfl ⟨_, rfl, by rw [hrf]; exact h, fun q => absurd (by rw [hrf] at q; exact q) hf, Fj.rf⟩
def amF (z m : Nat) (S : RS) : RS := if S.2.2.1 = 2 then (if S.2.2.2.2.2 ≤ 9999 then (if S.2.2.2.2.2 < m then S else fai z 3 S) else fai z 2 S) else fai z 1 S
set_option maxRecDepth 8000 in
theorem c_among {S : RS} (hT : TpM σ tx z) (h : RdM σ tx z S) {m : Nat} (hm : m ≤ 9) : CallOk Γ 4 0 0 mX9_amongHere [.ref M0, .int (nI m)] σ (rX (fun v σ' => v = b2i ((amF z m S).1 == 0) ∧ RdM σ' tx z (amF z m S) ∧ Fj [14, 15] [] σ σ' ∧ hJ σ' = hJ σ ∧ ((amF z m S).1 = 0 → (amF z m S) = S ∧ hI σ' M0 22 = nI S.2.2.2.2.2 ∧ S.2.2.2.2.2 < m))) := by
  have hz7 := hT.2.1
  refine p_enter rfl rfl (Nat.le_of_ble_eq_true rfl) rfl ?_
  refine p_aload_n 0 1 rfl rfl dX9_amongHere_0 rfl ?_
  refine p_cV0i 4 rfl dX9_amongHere_1 (c_isGood h) ml_X9_161 vl_X9_isGood rfl (by decide) rfl (Nat.le_of_ble_eq_true rfl) (Nat.le_of_ble_eq_true rfl) rfl ?_
  refine p_if_ne 9 7 rfl rfl dX9_amongHere_4 (fun h4 => ?_) (fun h4 => ?_)
  · have h0 : S.1 = 0 := by have := b2i_t h4; simpa using this
    have ht := (h.2.2.2.1 h0).1
    have ho := (h.2.2.2.1 h0).2
    refine p_aload_n 0 10 rfl rfl dX9_amongHere_9 rfl ?_
    refine p_getIE 9 19 13 rfl dX9_amongHere_10 fl_X9_135 rfl rfl ht.1.2.2.1 ?_
    refine p_iconst (2) 14 rfl dX9_amongHere_13 rfl ?_
    refine p_icmp_eq 25 17 rfl rfl dX9_amongHere_14 (fun h14 => ?_) (fun h14 => ?_)
    · refine p_aload_n 0 26 rfl rfl dX9_amongHere_25 rfl ?_
      refine p_getIE 9 21 29 rfl dX9_amongHere_26 fl_X9_145 rfl rfl ht.1.2.2.2.2 ?_
      refine p_iconst (4) 30 rfl dX9_amongHere_29 rfl ?_
      refine p_icmp_le 41 33 rfl rfl dX9_amongHere_30 (fun h30 => ?_) (fun h30 => ?_)
      · have hk2 : S.2.2.1 = 2 := nI_eqI (show nI S.2.2.1 = nI 2 from h14) (by have := ho.2.1; omega) (by decide)
        have hl4 : S.2.2.2.2.1 - S.2.2.2.1 ≤ 4 := (Nat.lt_or_ge 4 (S.2.2.2.2.1 - S.2.2.2.1)).elim (fun q => absurd h30 (nI_ge q (by have := ho.2.2.2.1; omega))) id
        have hvv := (ht.2.1 hk2).1 hl4
        have hn9 : S.2.2.2.2.2 ≤ 9999 := by
          have hd : ∀ i, i < S.2.2.2.2.1 - S.2.2.2.1 → tx (S.2.2.2.1 + i) ≤ 57 := fun i hi => (kOf_2 ((ht.2.2.2.2.2 (Or.inr hk2) _ (by omega) (by omega)).trans hk2)).2
          have := numF_lt (tx := tx) (s := S.2.2.2.1) _ hd
          have h10 : 10 ^ (S.2.2.2.2.1 - S.2.2.2.1) ≤ 10 ^ 4 := Nat.pow_le_pow_right (by decide) hl4
          rw [(ht.2.1 hk2).2, num, if_neg (by omega)]
          have : (10 : Nat) ^ 4 = 10000 := by decide
          omega
        refine p_aload_n 0 42 rfl rfl dX9_amongHere_41 rfl ?_
        refine p_getIE 9 22 45 rfl dX9_amongHere_42 fl_X9_129 rfl rfl hvv ?_
        refine p_iload_n 1 46 rfl rfl dX9_amongHere_45 rfl ?_
        refine p_icmp_lt 54 49 rfl rfl dX9_amongHere_46 (fun h46 => ?_) (fun h46 => ?_)
        · have hnm : S.2.2.2.2.2 < m := (Nat.lt_or_ge S.2.2.2.2.2 m).elim id (fun q => absurd h46 (nI_nlt q (by omega)))
          have er : (amF z m S) = S := by unfold amF; rw [if_pos hk2, if_pos hn9, if_pos hnm]
          have h2 : RdM σ tx z (amF z m S) := by rw [er]; exact h
          refine p_aload_n 0 55 rfl rfl dX9_amongHere_54 rfl ?_
          refine p_cV0i 58 rfl dX9_amongHere_55 (c_isGood h2) ml_X9_161 vl_X9_isGood rfl (by decide) rfl (Nat.le_of_ble_eq_true rfl) (Nat.le_of_ble_eq_true rfl) rfl ?_
          exact p_zret dX9_amongHere_58 rfl (nz_b2i _) ⟨_, rfl, rfl, h2, Fj.rf, rfl, fun _ => ⟨er, hvv, hnm⟩⟩
        · refine p_aload_n 0 50 rfl rfl dX9_amongHere_49 rfl ?_
          refine p_iconst (3) 51 rfl dX9_amongHere_50 rfl ?_
          refine p_cV1v 0 0 54 rfl dX9_amongHere_51 (c_wrong h (w := 3) (by decide) (by decide)) ml_X9_168 vl_X9_wrong rfl (by decide) rfl (Nat.le_of_ble_eq_true rfl) (Nat.le_of_ble_eq_true rfl) (Nat.le_of_ble_eq_true rfl) (Nat.le_of_ble_eq_true rfl) rfl ?_
          intro σ2 hp2
          have hnm : ¬ S.2.2.2.2.2 < m := fun q => h46 (nI_lt q (by omega))
          have er : (amF z m S) = fai z 3 S := by unfold amF; rw [if_pos hk2, if_pos hn9, if_neg hnm]
          have h2 : RdM σ2 tx z (amF z m S) := by rw [er]; exact hp2.1
          have hF2 := hp2.2.1
          have hJ2 := hp2.2.2
          refine p_aload_n 0 55 rfl rfl dX9_amongHere_54 rfl ?_
          refine p_cV0i 58 rfl dX9_amongHere_55 (c_isGood h2) ml_X9_161 vl_X9_isGood rfl (by decide) rfl (Nat.le_of_ble_eq_true rfl) (Nat.le_of_ble_eq_true rfl) rfl ?_
          exact p_zret dX9_amongHere_58 rfl (nz_b2i _) ⟨_, rfl, rfl, h2, hF2, hJ2, fun q => absurd q (by rw [er, (fai_k h0).2.1]; decide)⟩
      · refine p_aload_n 0 34 rfl rfl dX9_amongHere_33 rfl ?_
        refine p_iconst (2) 35 rfl dX9_amongHere_34 rfl ?_
        refine p_cV1v 0 0 38 rfl dX9_amongHere_35 (c_wrong h (w := 2) (by decide) (by decide)) ml_X9_168 vl_X9_wrong rfl (by decide) rfl (Nat.le_of_ble_eq_true rfl) (Nat.le_of_ble_eq_true rfl) (Nat.le_of_ble_eq_true rfl) (Nat.le_of_ble_eq_true rfl) rfl ?_
        intro σ2 hp2
        refine p_goto 54 rfl dX9_amongHere_38 ?_
        have hk2 : S.2.2.1 = 2 := nI_eqI (show nI S.2.2.1 = nI 2 from h14) (by have := ho.2.1; omega) (by decide)
        have hv2 := ht.2.1 hk2
        have hn : ¬ S.2.2.2.2.2 ≤ 9999 := by
          have hl : 4 < S.2.2.2.2.1 - S.2.2.2.1 := (Nat.lt_or_ge 4 (S.2.2.2.2.1 - S.2.2.2.1)).elim id (fun q => absurd (nI_le q (by decide)) h30)
          rw [hv2.2, num, if_pos hl]; omega
        have er : (amF z m S) = fai z 2 S := by unfold amF; rw [if_pos hk2, if_neg hn]
        have h2 : RdM σ2 tx z (amF z m S) := by rw [er]; exact hp2.1
        have hF2 := hp2.2.1
        have hJ2 := hp2.2.2
        refine p_aload_n 0 55 rfl rfl dX9_amongHere_54 rfl ?_
        refine p_cV0i 58 rfl dX9_amongHere_55 (c_isGood h2) ml_X9_161 vl_X9_isGood rfl (by decide) rfl (Nat.le_of_ble_eq_true rfl) (Nat.le_of_ble_eq_true rfl) rfl ?_
        exact p_zret dX9_amongHere_58 rfl (nz_b2i _) ⟨_, rfl, rfl, h2, hF2, hJ2, fun q => absurd q (by rw [er, (fai_k h0).2.1]; decide)⟩
    · refine p_aload_n 0 18 rfl rfl dX9_amongHere_17 rfl ?_
      refine p_iconst (1) 19 rfl dX9_amongHere_18 rfl ?_
      refine p_cV1v 0 0 22 rfl dX9_amongHere_19 (c_wrong h (w := 1) (by decide) (by decide)) ml_X9_168 vl_X9_wrong rfl (by decide) rfl (Nat.le_of_ble_eq_true rfl) (Nat.le_of_ble_eq_true rfl) (Nat.le_of_ble_eq_true rfl) (Nat.le_of_ble_eq_true rfl) rfl ?_
      intro σ2 hp2
      refine p_goto 54 rfl dX9_amongHere_22 ?_
      have hk2 : ¬ S.2.2.1 = 2 := fun q => h14 (show nI S.2.2.1 = 2 by rw [q]; rfl)
      have er : (amF z m S) = fai z 1 S := if_neg hk2
      have h2 : RdM σ2 tx z (amF z m S) := by rw [er]; exact hp2.1
      have hF2 := hp2.2.1
      have hJ2 := hp2.2.2
      refine p_aload_n 0 55 rfl rfl dX9_amongHere_54 rfl ?_
      refine p_cV0i 58 rfl dX9_amongHere_55 (c_isGood h2) ml_X9_161 vl_X9_isGood rfl (by decide) rfl (Nat.le_of_ble_eq_true rfl) (Nat.le_of_ble_eq_true rfl) rfl ?_
      exact p_zret dX9_amongHere_58 rfl (nz_b2i _) ⟨_, rfl, rfl, h2, hF2, hJ2, fun q => absurd q (by rw [er, (fai_k h0).2.1]; decide)⟩
  · have hf : ¬ S.1 = 0 := by have := b2i_f h4; simpa using this
    have hrf : (amF z m S) = S := by unfold amF; rw [if_neg (by rw [h.2.2.2.2 hf]; decide)]; exact fai_f hf
    refine p_iconst (0) 8 rfl dX9_amongHere_7 rfl ?_
    exact p_zret dX9_amongHere_8 rfl (by decide) ⟨_, rfl, by rw [hrf, show (S.1 == 0) = false by simpa using hf]; rfl, by rw [hrf]; exact h, Fj.rf, rfl, fun q => absurd (by rw [hrf] at q; exact q) hf⟩
end Ca5
