/-! ===== the reference: read, laid ===== -/
theorem cntN_t {p : Nat → Bool} {n : Nat} (h : p n = true) : cntN (n + 1) p = cntN n p + 1 := by simp [cntN, h]
theorem cntN_f {p : Nat → Bool} {n : Nat} (h : p n = false) : cntN (n + 1) p = cntN n p := by simp [cntN, h]
theorem popN_cnt (x : Nat) : ∀ k, popN k x = cntN k (fun i => x.testBit i) := by
  intro k
  induction k with
  | zero => rfl
  | succ k ih =>
    have h2 := Nat.mod_two_eq_zero_or_one (x / 2 ^ k)
    cases hb : x.testBit k with
    | true =>
      rw [cntN_t (p := fun i => x.testBit i) hb, ← ih]
      rw [Nat.testBit_eq_decide_div_mod_eq] at hb
      have := of_decide_eq_true hb
      show popN k x + x / 2 ^ k % 2 = _
      omega
    | false =>
      rw [cntN_f (p := fun i => x.testBit i) hb, ← ih]
      rw [Nat.testBit_eq_decide_div_mod_eq] at hb
      have := of_decide_eq_false hb
      show popN k x + x / 2 ^ k % 2 = _
      omega
theorem cntN_cut {p : Nat → Bool} {n : Nat} : ∀ k, n ≤ k → cntN k (fun i => decide (i < n) && p i) = cntN n p := by
  have h1 : ∀ j, j ≤ n → cntN j (fun i => decide (i < n) && p i) = cntN j p := by
    intro j
    induction j with
    | zero => intro _; rfl
    | succ j ih => intro hj; simp only [cntN, ih (by omega), decide_eq_true (show j < n by omega), Bool.true_and]
  intro k
  induction k with
  | zero => intro h; rw [show n = 0 by omega]; rfl
  | succ k ih =>
    intro h
    rcases Nat.lt_or_ge k n with w | w
    · rw [show k + 1 = n by omega]; exact h1 n (Nat.le_refl _)
    · simp only [cntN, ih w, decide_eq_false (show ¬ k < n by omega), Bool.false_and]; rfl
theorem pop_set {p : Nat → Bool} {n : Nat} (h : n ≤ 12) : pop (setN n p) = cntN n p := by
  unfold pop
  rw [popN_cnt]
  have : (fun i => (setN n p).testBit i) = fun i => decide (i < n) && p i := by funext i; exact setN_bit p i n
  rw [this]
  exact cntN_cut 12 h
theorem sec_bit {V : AW} {k : Nat} : ∀ n, (sec n V).1.testBit k = decide (1 ≤ cntN n (fun c => (vK V c).testBit k)) ∧ (sec n V).2.testBit k = decide (2 ≤ cntN n (fun c => (vK V c).testBit k)) := by
  intro n
  induction n with
  | zero => exact ⟨by simp [sec, cntN], by simp [sec, cntN]⟩
  | succ n ih =>
    cases hb : (vK V n).testBit k with
    | false =>
      rw [cntN_f (p := fun c => (vK V c).testBit k) hb]
      simp only [sec, Nat.testBit_or, Nat.testBit_and, ih.1, ih.2, hb, Bool.or_false, Bool.and_false, and_self]
    | true =>
      rw [cntN_t (p := fun c => (vK V c).testBit k) hb]
      simp only [sec, Nat.testBit_or, Nat.testBit_and, ih.1, ih.2, hb, Bool.or_true, Bool.and_true]
      generalize cntN n (fun c => (vK V c).testBit k) = m
      refine ⟨(decide_eq_true (by omega)).symm, ?_⟩
      by_cases h : 1 ≤ m
      · rw [decide_eq_true h, Bool.or_true]; exact (decide_eq_true (by omega)).symm
      · rw [decide_eq_false h, decide_eq_false (by omega)]; exact (decide_eq_false (by omega)).symm
theorem kSec_set {O : AO} {W : AW} (hO : OkO O) (hk : knB O W) : setN (aW O) (fun k => pop (whoK O W k) == 1) = kSec O W := by
  apply Nat.eq_of_testBit_eq
  intro k
  rw [setN_bit]
  unfold kSec
  rw [Nat.testBit_xor, Nat.testBit_and, (sec_bit _).1, (sec_bit _).2]
  by_cases hkw : k < aW O
  · rw [decide_eq_true hkw, Bool.true_and, show pop (whoK O W k) = cntN (aC O) (fun c => (vK W c).testBit k) from pop_set (by have := hO.2.1; omega)]
    generalize cntN (aC O) (fun c => (vK W c).testBit k) = m
    by_cases h1 : m = 1
    · subst h1; rfl
    · by_cases h0 : m = 0
      · subst h0; rfl
      · rw [decide_eq_true (show 1 ≤ m by omega), decide_eq_true (show 2 ≤ m by omega)]
        simpa using h1
  · rw [decide_eq_false hkw, Bool.false_and]
    have : ∀ n, n ≤ aC O → cntN n (fun c => (vK W c).testBit k) = 0 := by
      intro n
      induction n with
      | zero => intro _; rfl
      | succ n ih =>
        intro hn
        have hb : (vK W n).testBit k = false := Nat.testBit_lt_two_pow (Nat.lt_of_lt_of_le (hk n (by omega)) (Nat.pow_le_pow_right (by decide) (by omega)))
        simp only [cntN, ih (by omega), hb]; rfl
    rw [this _ (Nat.le_refl _)]
    rfl
theorem knB_lay {O : AO} {V : AW} (h : knB O V) : ∀ n, knB O (layF O n V) := by
  intro n
  induction n with
  | zero => exact h
  | succ n ih =>
    show knB O (layT O (layF O n V) n)
    unfold layT
    split
    · intro c hc
      show tK (layF O n V) _ _ (aC O) c < _
      unfold tK
      split
      · exact Nat.or_lt_two_pow (ih c hc) (setN_lt _ _)
      · exact ih c hc
    · exact ih
theorem vK_mld {O : AO} {ps : List Int32} {V : AW} : ∀ n, vK (mldF O ps n V) = vK V := by
  intro n
  induction n with
  | zero => rfl
  | succ n ih =>
    show vK (mldP O (mldF O ps n V) ps n) = _
    rw [← ih]; unfold mldP; split
    · rfl
    · split <;> rfl
theorem vK_day {O : AO} {V : AW} : vK (dayF O V) = vK (layF O 4 V) := by
  show vK (mldA O (layF O 4 V)) = _
  unfold mldA
  split
  · rfl
  · exact vK_mld _
theorem knB_days {O : AO} {V : AW} (h : knB O V) : ∀ n, knB O (daysF O n V) := by
  intro n
  induction n with
  | zero => exact h
  | succ n ih =>
    intro c hc
    show vK (dayF O (daysF O n V)) c < _
    rw [vK_day]; exact knB_lay ih 4 c hc
/-- how much is known -/
def knw (V : AW) : Nat → Nat
  | 0 => 0
  | n + 1 => knw V n + pop (vK V n)
theorem pop_or {a x : Nat} : ∀ k, popN k a ≤ popN k (a ||| x) ∧ (popN k (a ||| x) = popN k a → ∀ i, i < k → (a ||| x).testBit i = a.testBit i) := by
  intro k
  rw [popN_cnt, popN_cnt]
  induction k with
  | zero => exact ⟨Nat.le_refl _, fun _ i hi => by omega⟩
  | succ k ih =>
    cases ha : a.testBit k with
    | true =>
      have ho : (a ||| x).testBit k = true := by rw [Nat.testBit_or, ha]; rfl
      rw [cntN_t (p := fun i => a.testBit i) ha, cntN_t (p := fun i => (a ||| x).testBit i) ho]
      refine ⟨by omega, fun q i hi => ?_⟩
      rcases Nat.lt_or_ge i k with w | w
      · exact ih.2 (by omega) i w
      · rw [show i = k by omega, ha, ho]
    | false =>
      cases hx : x.testBit k with
      | true =>
        have ho : (a ||| x).testBit k = true := by rw [Nat.testBit_or, ha, hx]; rfl
        rw [cntN_f (p := fun i => a.testBit i) ha, cntN_t (p := fun i => (a ||| x).testBit i) ho]
        exact ⟨by omega, fun q i hi => by omega⟩
      | false =>
        have ho : (a ||| x).testBit k = false := by rw [Nat.testBit_or, ha, hx]; rfl
        rw [cntN_f (p := fun i => a.testBit i) ha, cntN_f (p := fun i => (a ||| x).testBit i) ho]
        refine ⟨by omega, fun q i hi => ?_⟩
        rcases Nat.lt_or_ge i k with w | w
        · exact ih.2 (by omega) i w
        · rw [show i = k by omega, ha, ho]
theorem pop_or_eq {a x : Nat} (ha : a < 4096) (hx : x < 4096) (h : pop (a ||| x) = pop a) : a ||| x = a := by
  apply Nat.eq_of_testBit_eq
  intro i
  rcases Nat.lt_or_ge i 12 with w | w
  · exact (pop_or 12).2 h i w
  · rw [Nat.testBit_lt_two_pow (Nat.lt_of_lt_of_le (Nat.or_lt_two_pow (n := 12) ha hx) (Nat.pow_le_pow_right (by decide) w)), Nat.testBit_lt_two_pow (Nat.lt_of_lt_of_le ha (show 4096 ≤ 2 ^ i from Nat.pow_le_pow_right (show 0 < 2 by decide) w))]
theorem anyN_iff {p : Nat → Bool} : ∀ n, anyN n p = true ↔ ∃ c, c < n ∧ p c = true := by
  intro n
  induction n with
  | zero => exact ⟨(fun h => by cases h), fun ⟨c, hc, _⟩ => by omega⟩
  | succ n ih =>
    simp only [anyN, Bool.or_eq_true]
    constructor
    · rintro (h | h)
      · obtain ⟨c, hc, hp⟩ := ih.mp h; exact ⟨c, by omega, hp⟩
      · exact ⟨n, by omega, h⟩
    · rintro ⟨c, hc, hp⟩
      rcases Nat.lt_or_ge c n with w | w
      · exact Or.inl (ih.mpr ⟨c, w, hp⟩)
      · rw [show n = c by omega]; exact Or.inr hp
theorem knw_tch {O : AO} {V : AW} {m x : Nat} (hv : OkV O V) (hx : x < 4096) (hc6 : aC O ≤ 6) : ∀ n, n ≤ aC O → knw V n ≤ knw (tch O V m x) n ∧ (knw V n < knw (tch O V m x) n ↔ ∃ c, c < n ∧ (m.testBit c && decide (¬ vK V c ||| x = vK V c)) = true) := by
  intro n
  induction n with
  | zero => intro _; exact ⟨Nat.le_refl _, fun h => absurd h (Nat.lt_irrefl _), fun ⟨c, hc, _⟩ => by omega⟩
  | succ n ih =>
    intro hn
    obtain ⟨i1, i2⟩ := ih (by omega)
    have hvk := hv.2.2.2 n (by omega)
    have e : vK (tch O V m x) n = if m.testBit n = true then vK V n ||| x else vK V n := by
      show tK V m x (aC O) n = _
      unfold tK
      simp only [show n < aC O by omega, true_and]
    simp only [knw, e]
    have hp := (pop_or (a := vK V n) (x := x) 12).1
    by_cases hm : m.testBit n = true
    · rw [if_pos hm]
      by_cases hq : vK V n ||| x = vK V n
      · rw [hq]
        refine ⟨by omega, fun h => ?_, fun ⟨c, hc, hcp⟩ => ?_⟩
        · obtain ⟨c, hc, hcp⟩ := i2.mp (by omega); exact ⟨c, by omega, hcp⟩
        · rcases Nat.lt_or_ge c n with w | w
          · have := i2.mpr ⟨c, w, hcp⟩; omega
          · rw [show c = n by omega] at hcp; simp [hq] at hcp
      · have hne : pop (vK V n ||| x) ≠ pop (vK V n) := fun q => hq (pop_or_eq hvk hx q)
        have hp2 : pop (vK V n) ≤ pop (vK V n ||| x) := hp
        refine ⟨by omega, fun _ => ⟨n, by omega, by simp [hm, hq]⟩, fun _ => by omega⟩
    · rw [if_neg hm]
      refine ⟨by omega, fun h => ?_, fun ⟨c, hc, hcp⟩ => ?_⟩
      · obtain ⟨c, hc, hcp⟩ := i2.mp (by omega); exact ⟨c, by omega, hcp⟩
      · rcases Nat.lt_or_ge c n with w | w
        · have := i2.mpr ⟨c, w, hcp⟩; omega
        · rw [show c = n by omega] at hcp; simp [hm] at hcp
theorem knw_layT {O : AO} {V : AW} {t : Nat} (hO : OkO O) (hv : OkV O V) : knw V (aC O) ≤ knw (layT O V t) (aC O) ∧ (knw V (aC O) < knw (layT O V t) (aC O) ↔ lrnT O V t = true) := by
  unfold layT lrnT
  by_cases h : clIn O V t ≠ 0 ∧ lays O V t = true
  · rw [if_pos h]
    have := knw_tch (m := clIn O V t) (x := wOf O V (shIn O V t 0)) hv (wOf_l hO _ _) hO.2.1 (aC O) (Nat.le_refl _)
    refine ⟨this.1, ?_⟩
    rw [this.2, decide_eq_true h.1, h.2, Bool.true_and, Bool.true_and]
    unfold lrn
    rw [anyN_iff]
  · rw [if_neg h]
    refine ⟨Nat.le_refl _, fun q => absurd q (Nat.lt_irrefl _), fun q => ?_⟩
    simp only [Bool.and_eq_true, decide_eq_true_eq] at q
    exact absurd ⟨q.1.1, q.1.2⟩ h
theorem knw_lay {O : AO} {V : AW} (hO : OkO O) (hv : OkV O V) : ∀ n, knw V (aC O) ≤ knw (layF O n V) (aC O) ∧ (knw V (aC O) < knw (layF O n V) (aC O) ↔ lrnF O V n = true) := by
  intro n
  induction n with
  | zero => exact ⟨Nat.le_refl _, fun q => absurd q (Nat.lt_irrefl _), fun q => by cases q⟩
  | succ n ih =>
    have h2 := knw_layT (t := n) hO (layF_ok hO hv n)
    show _ ≤ knw (layT O (layF O n V) n) (aC O) ∧ (_ < knw (layT O (layF O n V) n) (aC O) ↔ (lrnF O V n || lrnT O (layF O n V) n) = true)
    rw [Bool.or_eq_true, ← ih.2, ← h2.2]
    omega
theorem knw_eq {V W : AW} (h : vK V = vK W) : ∀ n, knw V n = knw W n := by
  intro n
  induction n with
  | zero => rfl
  | succ n ih => simp only [knw, ih, h]
theorem knw_day {O : AO} {V : AW} (hO : OkO O) (hv : OkV O V) : knw V (aC O) < knw (dayF O V) (aC O) ↔ lrnF O V 4 = true := by
  rw [knw_eq vK_day]; exact (knw_lay hO hv 4).2
theorem knw_le {V : AW} : ∀ n, knw V n ≤ 12 * n := by
  intro n
  induction n with
  | zero => exact Nat.le_refl _
  | succ n ih => have : pop (vK V n) ≤ 12 := popN_le _ _; simp only [knw]; omega
section C92
variable {Γ : Gm} {σ : PH} {A : AT}
set_option maxRecDepth 4000 in
theorem l_mRead {σ1 : PH} (hR1 : RM σ1 A) (h01 : hI σ1 M0 0 = 0) (hc1 : ChM σ σ1) {d : Nat} (hd : d ≤ 40) (hw1 : RowM true (hA σ1 mRo) 34 (tO A) (daysF (tO A) d (tV A))) {q : Nat} (hq : q < 2) : ∀ (n i : Nat), i + n = aW (tO A) → Ok Γ 11 0 0 mX9_read 36 [some (.ref M0), some (.int (nI d)), some (.int (nI q)), some (.int (nI (setN i (fun k => pop (whoK (tO A) (daysF (tO A) d (tV A)) k) == 1)))), some (.int (nI i))] [] σ1 (rM (0, if q = 0 then nI (kAll (tO A) (daysF (tO A) d (tV A))) else nI (kSec (tO A) (daysF (tO A) d (tV A)))) (fun σ' => RM σ' A ∧ ChM σ σ')) := by
  have hK := hR1.2.1
  have hO := hK.2.2.1
  have hc6 := hO.2.1
  have hw12 := hO.2.2.1
  have hs9 := hO.1
  have hv := hK.2.2.2.2.1.1
  have hd9 := hK.2.2.2.2.1.2
  have hM1 := hR1.1
  have hv1 := daysF_ok hO hv d (by omega)
  intro n
  induction n with
  | zero =>
    intro i hi
    refine p_iload 4 38 rfl dX9_read_36 rfl ?_
    refine p_aload_n 0 39 rfl rfl dX9_read_38 rfl ?_
    refine p_getIE 9 3 42 rfl dX9_read_39 fl_X9_286 rfl rfl hM1.2.2.1.2.2.1 ?_
    refine p_icmp_ge 77 45 rfl rfl dX9_read_42 (fun h42 => ?_) (fun h42 => absurd (nI_le (a := aW (tO A)) (b := i) (by omega) (by omega)) h42)
    refine p_iload_n 2 78 rfl rfl dX9_read_77 rfl ?_
    refine p_if_ne 94 81 rfl rfl dX9_read_78 (fun h78 => ?_) (fun h78 => ?_)
    · refine p_iload_n 3 95 rfl rfl dX9_read_94 rfl ?_
      exact p_iret dX9_read_95 rfl ⟨_, rfl, h01, fun _ => by rw [if_neg (fun e : q = 0 => h78 (by rw [e]; rfl)), ← kSec_set hO (knB_days hR1.2.2.2.2.2.2.2.2.2.1 d), show i = aW (tO A) by omega], hR1, hc1⟩
    · refine p_aload_n 0 82 rfl rfl dX9_read_81 rfl ?_
      refine p_bipush (34) 84 rfl dX9_read_82 rfl ?_
      refine p_aload_n 0 85 rfl rfl dX9_read_84 rfl ?_
      refine p_cV0i 88 rfl dX9_read_85 (c_everybody hM1) ml_X9_372 vl_X9_everybody rfl (by decide) rfl (Nat.le_of_ble_eq_true rfl) (Nat.le_of_ble_eq_true rfl) rfl ?_
      refine p_cV2i 91 rfl dX9_read_88 (c_knownBy hM1 hw1 hv1 (by decide) (p6 hO)) ml_X9_338 vl_X9_knownBy rfl (by decide) rfl (Nat.le_of_ble_eq_true rfl) (Nat.le_of_ble_eq_true rfl) rfl ?_
      refine p_goto 95 rfl dX9_read_91 ?_
      exact p_iret dX9_read_95 rfl ⟨_, rfl, h01, fun _ => by rw [if_pos (nI_eqI h78 (by omega) (by decide) : q = 0), ← kAll_by hO], hR1, hc1⟩
  | succ n ih =>
    intro i hi
    refine p_iload 4 38 rfl dX9_read_36 rfl ?_
    refine p_aload_n 0 39 rfl rfl dX9_read_38 rfl ?_
    refine p_getIE 9 3 42 rfl dX9_read_39 fl_X9_286 rfl rfl hM1.2.2.1.2.2.1 ?_
    refine p_icmp_ge 77 45 rfl rfl dX9_read_42 (fun h42 => absurd h42 (nI_ge (a := i) (b := aW (tO A)) (by omega) (by omega))) (fun h42 => ?_)
    refine p_iload_n 3 46 rfl rfl dX9_read_45 rfl ?_
    refine p_aload_n 0 47 rfl rfl dX9_read_46 rfl ?_
    refine p_bipush (34) 49 rfl dX9_read_47 rfl ?_
    refine p_iload 4 51 rfl dX9_read_49 rfl ?_
    refine p_cV2i 54 rfl dX9_read_51 (c_mKnowers hM1 hw1 hv1 (by decide) (by omega)) ml_X9_396 vl_X9_knowers rfl (by decide) rfl (Nat.le_of_ble_eq_true rfl) (Nat.le_of_ble_eq_true rfl) rfl ?_
    refine p_cS1i 57 rfl dX9_read_54 (c_bits (Nat.lt_trans (Nat.lt_of_lt_of_le (setN_lt _ _) (Nat.pow_le_pow_right (by decide) hc6)) (by decide))) ml_X9_316 sl_X9_bits (Nat.le_of_ble_eq_true rfl) (Nat.le_of_ble_eq_true rfl) rfl ?_
    refine p_iconst (1) 58 rfl dX9_read_57 rfl ?_
    refine p_icmp_ne 68 61 rfl rfl dX9_read_58 (fun h58 => ?_) (fun h58 => ?_)
    · refine p_iconst (0) 69 rfl dX9_read_68 rfl ?_
      refine p_ior 70 rfl dX9_read_69 ?_
      refine p_ist_n3 71 rfl rfl dX9_read_70 (Nat.le_of_ble_eq_true rfl) rfl ?_
      refine p_inc_4 74 rfl dX9_read_71 (1) rfl (Nat.le_of_ble_eq_true rfl) rfl ?_
      refine p_goto 36 rfl dX9_read_74 ?_
      have pl : pop (whoK (tO A) (daysF (tO A) d (tV A)) i) ≤ 12 := popN_le _ _
      have hb : (pop (whoK (tO A) (daysF (tO A) d (tV A)) i) == 1) = false := by simp only [beq_eq_false_iff_ne]; exact fun q => h58 (by rw [q]; rfl)
      rw [or0, nI_1, ← set_f (p := (fun k => pop (whoK (tO A) (daysF (tO A) d (tV A)) k) == 1)) (by rw [hb]; decide)]
      exact ih (i + 1) (by omega)
    · refine p_iconst (1) 62 rfl dX9_read_61 rfl ?_
      refine p_iload 4 64 rfl dX9_read_62 rfl ?_
      refine p_ishl 65 rfl dX9_read_64 ?_
      refine p_goto 69 rfl dX9_read_65 ?_
      refine p_ior 70 rfl dX9_read_69 ?_
      refine p_ist_n3 71 rfl rfl dX9_read_70 (Nat.le_of_ble_eq_true rfl) rfl ?_
      refine p_inc_4 74 rfl dX9_read_71 (1) rfl (Nat.le_of_ble_eq_true rfl) rfl ?_
      refine p_goto 36 rfl dX9_read_74 ?_
      have pl : pop (whoK (tO A) (daysF (tO A) d (tV A)) i) ≤ 12 := popN_le _ _
      have hb : (pop (whoK (tO A) (daysF (tO A) d (tV A)) i) == 1) = true := by simp only [beq_iff_eq]; exact nI_eqI (show nI (pop (whoK (tO A) (daysF (tO A) d (tV A)) i)) = nI 1 from h58) (by omega) (by omega)
      rw [set_t (p := (fun k => pop (whoK (tO A) (daysF (tO A) d (tV A)) k) == 1)) hb (by omega), nI_1]
      exact ih (i + 1) (by omega)
set_option maxRecDepth 8000 in
theorem q_read (hRM : RM σ A) (y z : Int32) : CallOk Γ 12 0 0 mX9_read [.ref M0, .int y, .int z] σ (rM (fRead A y z) (fun σ' => RM σ' A ∧ ChM σ σ')) := by
  have hK := hRM.2.1
  have hO := hK.2.2.1
  have hs9 := hO.1
  have hc6 := hO.2.1
  have hw12 := hO.2.2.1
  have hk8 := hO.2.2.2.1
  have hv := hK.2.2.2.2.1.1
  have hd9 := hK.2.2.2.2.1.2
  refine p_enter rfl rfl (Nat.le_of_ble_eq_true rfl) rfl ?_
  refine p_aload_n 0 1 rfl rfl dX9_read_0 rfl ?_
  refine p_iconst (0) 2 rfl dX9_read_1 rfl ?_
  refine p_putI 9 0 5 rfl dX9_read_2 fl_X9_102 rfl rfl (Or.inl rfl) ?_
  have hQ : FQ σ (sI σ M0 0 0) := FQ.th
  have hR0 := hRM.q hQ
  have h0 : hI (sI σ M0 0 0) M0 0 = 0 := hI_sI _ _ _ _
  generalize sI σ M0 0 0 = τ at hQ hR0 h0 ⊢
  have hM := hR0.1
  have hw := hR0.2.2.1
  refine p_aload_n 0 6 rfl rfl dX9_read_5 rfl ?_
  refine p_iload_n 2 7 rfl rfl dX9_read_6 rfl ?_
  refine p_iconst (1) 8 rfl dX9_read_7 rfl ?_
  refine p_cV2x 0 0 11 rfl dX9_read_8 (c_isWhat (n := 1) h0 _ (by decide)) ml_X9_381 vl_X9_isWhat rfl (by decide) rfl (Nat.le_of_ble_eq_true rfl) (Nat.le_of_ble_eq_true rfl) (Nat.le_of_ble_eq_true rfl) (Nat.le_of_ble_eq_true rfl) rfl ?_
  intro v0 τ0 hp0
  obtain ⟨hv0, ht0, hf0⟩ := hp0
  subst hv0
  refine p_if_eq 24 14 rfl rfl dX9_read_11 (fun h11 => ?_) (fun h11 => ?_)
  · have hb0 : inR z 2 = false := by simpa only [b2i_eq0, Bool.not_eq_true, Decidable.not_not] using h11
    have ee0 := hf0 hb0
    subst ee0
    refine p_iconst (0) 25 rfl dX9_read_24 rfl ?_
    exact p_iret dX9_read_25 rfl ⟨_, rfl, by rw [fRead, gd_f hb0]; exact hI_sI _ _ _ _, fun q => absurd q (by rw [fRead, gd_f hb0]; decide), (hRM.q hQ).q FQ.th, (hQ.tr FQ.th).ch⟩
  · have hb0 : inR z 2 = true := by simpa only [b2i_eq0, Decidable.not_not, Bool.not_eq_true, Bool.not_eq_false] using h11
    have ee0 := ht0 hb0
    subst ee0
    obtain ⟨q, rfl, hq⟩ := asN hb0 (by omega)
    have hqL : q < 2147483648 := by omega
    refine p_aload_n 0 15 rfl rfl dX9_read_14 rfl ?_
    refine p_iload_n 1 16 rfl rfl dX9_read_15 rfl ?_
    refine p_iconst (0) 17 rfl dX9_read_16 rfl ?_
    refine p_iconst (2) 18 rfl dX9_read_17 rfl ?_
    refine p_cV3x 0 0 21 rfl dX9_read_18 (c_isDays h0 _ 0 (by decide)) ml_X9_426 vl_X9_isDays rfl (by decide) rfl (Nat.le_of_ble_eq_true rfl) (Nat.le_of_ble_eq_true rfl) (Nat.le_of_ble_eq_true rfl) (Nat.le_of_ble_eq_true rfl) rfl ?_
    intro v1 τ1 hp1
    obtain ⟨hv1, ht1, hf1⟩ := hp1
    subst hv1
    refine p_if_ne 26 24 rfl rfl dX9_read_21 (fun h21 => ?_) (fun h21 => ?_)
    · have hb1 : btw y 0 40 = true := by simpa only [b2i_eq0, Decidable.not_not, Bool.not_eq_true, Bool.not_eq_false] using h21
      have ee1 := ht1 hb1
      subst ee1
      obtain ⟨d, rfl, hda, hd⟩ := asB hb1 (by decide) (by decide)
      have hdL : d < 2147483648 := by omega
      refine p_aload_n 0 27 rfl rfl dX9_read_26 rfl ?_
      refine p_iload_n 1 28 rfl rfl dX9_read_27 rfl ?_
      refine p_cV1v 0 0 31 rfl dX9_read_28 (c_goesTo hM hw hv (by omega)) ml_X9_429 vl_X9_goesTo rfl (by decide) rfl (Nat.le_of_ble_eq_true rfl) (Nat.le_of_ble_eq_true rfl) (Nat.le_of_ble_eq_true rfl) (Nat.le_of_ble_eq_true rfl) rfl ?_
      intro σ1 hp1
      have hM1 := hM.frB hp1.2
      have hR1 := hR0.q (FQ.b hp1.2)
      have h01 : hI σ1 M0 0 = 0 := (hp1.2.1.2.1 M0 0 (by simp)).trans h0
      have hv1 := daysF_ok hO hv d (by omega)
      refine p_iconst (0) 32 rfl dX9_read_31 rfl ?_
      refine p_ist_n3 33 rfl rfl dX9_read_32 (Nat.le_of_ble_eq_true rfl) rfl ?_
      refine p_iconst (0) 34 rfl dX9_read_33 rfl ?_
      refine p_ist_4 36 rfl dX9_read_34 (Nat.le_of_ble_eq_true rfl) rfl ?_
      have e : fRead A (nI d) (nI q) = (0, if q = 0 then nI (kAll (tO A) (daysF (tO A) d (tV A))) else nI (kSec (tO A) (daysF (tO A) d (tV A)))) := by rw [fRead, gd_t hb0, gd_t hb1, iN_nI hdL, iN_nI hqL]
      rw [e]
      exact Ok.sub (l_mRead hR1 h01 (hQ.tr (FQ.b hp1.2)).ch hd hp1.1 hq (aW (tO A)) 0 (by omega)) (by decide) (by decide) (by decide)
    · have hb1 : btw y 0 40 = false := by simpa only [b2i_eq0, Bool.not_eq_true, Decidable.not_not] using h21
      have ee1 := hf1 hb1
      subst ee1
      refine p_iconst (0) 25 rfl dX9_read_24 rfl ?_
      exact p_iret dX9_read_25 rfl ⟨_, rfl, by rw [fRead, gd_t hb0, gd_f hb1]; exact hI_sI _ _ _ _, fun q => absurd q (by rw [fRead, gd_t hb0, gd_f hb1]; decide), (hRM.q hQ).q FQ.th, (hQ.tr FQ.th).ch⟩
set_option maxRecDepth 4000 in
theorem l_knowl {O : AO} {V : AW} {e : Bool} (hM : OM σ O) (hw : RowM e (hA σ mRo) 34 O V) (hv : OkV O V) : ∀ (n i : Nat), i + n = aC O → Ok Γ 2 0 0 mX9_knowledge 4 [some (.ref M0), some (.int (nI (knw V i))), some (.int (nI i))] [] σ (rI σ (nI (knw V (aC O)))) := by
  have hO := hM.2.1
  have hs9 := hO.1
  have hc6 := hO.2.1
  have hw12 := hO.2.2.1
  have hk8 := hO.2.2.2.1
  intro n
  induction n with
  | zero =>
    intro i hi
    refine p_iload_n 2 5 rfl rfl dX9_knowledge_4 rfl ?_
    refine p_aload_n 0 6 rfl rfl dX9_knowledge_5 rfl ?_
    refine p_getIE 9 2 9 rfl dX9_knowledge_6 fl_X9_283 rfl rfl hM.2.2.1.2.1 ?_
    refine p_icmp_ge 33 12 rfl rfl dX9_knowledge_9 (fun h9 => ?_) (fun h9 => absurd (nI_le (a := aC O) (b := i) (by omega) (by omega)) h9)
    refine p_iload_n 1 34 rfl rfl dX9_knowledge_33 rfl ?_
    exact p_iret dX9_knowledge_34 rfl ⟨by rw [show i = aC O by omega], rfl⟩
  | succ n ih =>
    intro i hi
    have hlt : i < aC O := by omega
    refine p_iload_n 2 5 rfl rfl dX9_knowledge_4 rfl ?_
    refine p_aload_n 0 6 rfl rfl dX9_knowledge_5 rfl ?_
    refine p_getIE 9 2 9 rfl dX9_knowledge_6 fl_X9_283 rfl rfl hM.2.2.1.2.1 ?_
    refine p_icmp_ge 33 12 rfl rfl dX9_knowledge_9 (fun h9 => absurd h9 (nI_ge (a := i) (b := aC O) (by omega) (by omega))) (fun h9 => ?_)
    refine p_iload_n 1 13 rfl rfl dX9_knowledge_12 rfl ?_
    refine p_aload_n 0 14 rfl rfl dX9_knowledge_13 rfl ?_
    refine p_getR 9 44 17 rfl dX9_knowledge_14 fl_X9_66 rfl rfl (show hR _ M0 44 = mRo from hM.1 44) (by decide) ?_
    refine p_bipush (62) 19 rfl dX9_knowledge_17 rfl ?_
    refine p_iload_n 2 20 rfl rfl dX9_knowledge_19 rfl ?_
    refine p_iadd 21 rfl dX9_knowledge_20 ?_
    rw [ix0 62 i 62 rfl]
    refine p_ialdE 22 rfl dX9_knowledge_21 (i := 62 + i) rfl (by show _ < 68; omega) (hw.2.2 i hlt) ?_
    refine p_cS1i 25 rfl dX9_knowledge_22 (c_bits (by have := hv.2.2.2 i (by omega); omega)) ml_X9_316 sl_X9_bits (Nat.le_of_ble_eq_true rfl) (Nat.le_of_ble_eq_true rfl) rfl ?_
    refine p_iadd 26 rfl dX9_knowledge_25 ?_
    rw [nI_add]
    refine p_ist_n1 27 rfl rfl dX9_knowledge_26 (Nat.le_of_ble_eq_true rfl) rfl ?_
    refine p_inc_2 30 rfl dX9_knowledge_27 (1) rfl (Nat.le_of_ble_eq_true rfl) rfl ?_
    refine p_goto 4 rfl dX9_knowledge_30 ?_
    rw [nI_1]
    exact ih (i + 1) (by omega)
set_option maxRecDepth 4000 in
theorem c_knowl {O : AO} {V : AW} {e : Bool} (hM : OM σ O) (hw : RowM e (hA σ mRo) 34 O V) (hv : OkV O V) : CallOk Γ 2 0 0 mX9_knowledge [.ref M0] σ (rI σ (nI (knw V (aC O)))) := by
  refine p_enter rfl rfl (Nat.le_of_ble_eq_true rfl) rfl ?_
  refine p_iconst (0) 1 rfl dX9_knowledge_0 rfl ?_
  refine p_ist_n1 2 rfl rfl dX9_knowledge_1 (Nat.le_of_ble_eq_true rfl) rfl ?_
  refine p_iconst (0) 3 rfl dX9_knowledge_2 rfl ?_
  refine p_ist_n2 4 rfl rfl dX9_knowledge_3 (Nat.le_of_ble_eq_true rfl) rfl ?_
  exact l_knowl hM hw hv (aC O) 0 (by omega)
set_option maxRecDepth 4000 in
theorem l_mLaid (hK : OkT A) {d : Nat} (hd : d ≤ 40) : ∀ (n i : Nat) (σ1 : PH) (x4 : Option Value), i + n = d → RM σ1 A → RowM true (hA σ1 mRo) 34 (tO A) (daysF (tO A) i (tV A)) → hI σ1 M0 0 = 0 → ChM σ σ1 → Ok Γ 11 0 0 mX9_laid 25 [some (.ref M0), some (.int (nI d)), some (.int (nI (cntN i (fun j => lrnF (tO A) (daysF (tO A) j (tV A)) 4)))), some (.int (nI i)), x4] [] σ1 (rM (0, nI (cntN d (fun j => lrnF (tO A) (daysF (tO A) j (tV A)) 4))) (fun σ' => RM σ' A ∧ ChM σ σ')) := by
  have hO := hK.2.2.1
  have hc6 := hO.2.1
  have hw12 := hO.2.2.1
  have hs9 := hO.1
  have hv := hK.2.2.2.2.1.1
  have hd9 := hK.2.2.2.2.1.2
  intro n
  induction n with
  | zero =>
    intro i σ1 x4 hi hR1 hw1 h01 hc1
    have hM1 := hR1.1
    have hv1 := daysF_ok hO hv i (by omega)
    refine p_iload_n 3 26 rfl rfl dX9_laid_25 rfl ?_
    refine p_iload_n 1 27 rfl rfl dX9_laid_26 rfl ?_
    refine p_icmp_ge 65 30 rfl rfl dX9_laid_27 (fun h27 => ?_) (fun h27 => absurd (nI_le (a := d) (b := i) (by omega) (by omega)) h27)
    refine p_iload_n 2 66 rfl rfl dX9_laid_65 rfl ?_
    exact p_iret dX9_laid_66 rfl ⟨_, rfl, h01, fun _ => by rw [show d = i by omega], hR1, hc1⟩
  | succ n ih =>
    intro i σ1 x4 hi hR1 hw1 h01 hc1
    have hM1 := hR1.1
    have hv1 := daysF_ok hO hv i (by omega)
    refine p_iload_n 3 26 rfl rfl dX9_laid_25 rfl ?_
    refine p_iload_n 1 27 rfl rfl dX9_laid_26 rfl ?_
    refine p_icmp_ge 65 30 rfl rfl dX9_laid_27 (fun h27 => absurd h27 (nI_ge (a := i) (b := d) (by omega) (by omega))) (fun h27 => ?_)
    refine p_aload_n 0 31 rfl rfl dX9_laid_30 rfl ?_
    refine p_cV0i 34 rfl dX9_laid_31 (c_knowl hM1 hw1 hv1) ml_X9_473 vl_X9_knowledge rfl (by decide) rfl (Nat.le_of_ble_eq_true rfl) (Nat.le_of_ble_eq_true rfl) rfl ?_
    refine p_ist_4 36 rfl dX9_laid_34 (Nat.le_of_ble_eq_true rfl) rfl ?_
    refine p_aload_n 0 37 rfl rfl dX9_laid_36 rfl ?_
    refine p_bipush (34) 39 rfl dX9_laid_37 rfl ?_
    refine p_cV1v 0 0 42 rfl dX9_laid_39 (c_dayGoes hM1 hw1 hv1 (by decide)) ml_X9_357 vl_X9_dayGoes rfl (by decide) rfl (Nat.le_of_ble_eq_true rfl) (Nat.le_of_ble_eq_true rfl) (Nat.le_of_ble_eq_true rfl) (Nat.le_of_ble_eq_true rfl) rfl ?_
    intro σ2 hp2
    have hR2 := hR1.q (FQ.b hp2.2)
    have h02 : hI σ2 M0 0 = 0 := (hp2.2.1.2.1 M0 0 (by simp)).trans h01
    have hc2 := hc1.tr (FQ.b hp2.2).ch
    have hv2 := daysF_ok hO hv (i + 1) (by omega)
    refine p_iload_n 2 43 rfl rfl dX9_laid_42 rfl ?_
    refine p_aload_n 0 44 rfl rfl dX9_laid_43 rfl ?_
    refine p_cV0i 47 rfl dX9_laid_44 (c_knowl hR2.1 hp2.1 hv2) ml_X9_473 vl_X9_knowledge rfl (by decide) rfl (Nat.le_of_ble_eq_true rfl) (Nat.le_of_ble_eq_true rfl) rfl ?_
    refine p_iload 4 49 rfl dX9_laid_47 rfl ?_
    refine p_icmp_le 56 52 rfl rfl dX9_laid_49 (fun h49 => ?_) (fun h49 => ?_)
    · refine p_iconst (0) 57 rfl dX9_laid_56 rfl ?_
      refine p_iadd 58 rfl dX9_laid_57 ?_
      refine p_ist_n2 59 rfl rfl dX9_laid_58 (Nat.le_of_ble_eq_true rfl) rfl ?_
      refine p_inc_3 62 rfl dX9_laid_59 (1) rfl (Nat.le_of_ble_eq_true rfl) rfl ?_
      refine p_goto 25 rfl dX9_laid_62 ?_
      have k1 := knw_le (V := daysF (tO A) i (tV A)) (aC (tO A))
      have k2 := knw_le (V := daysF (tO A) (i + 1) (tV A)) (aC (tO A))
      have kd := knw_day hO hv1
      have hb : (fun j => lrnF (tO A) (daysF (tO A) j (tV A)) 4) i = false := by
        cases q : lrnF (tO A) (daysF (tO A) i (tV A)) 4 with
        | false => exact q
        | true => exact absurd h49 (nI_ge (kd.mpr q) (by show knw (daysF (tO A) (i + 1) (tV A)) _ < _; omega))
      have e : cntN (i + 1) (fun j => lrnF (tO A) (daysF (tO A) j (tV A)) 4) = cntN i (fun j => lrnF (tO A) (daysF (tO A) j (tV A)) 4) := by simp only [cntN, hb]; rfl
      rw [show nI (cntN i (fun j => lrnF (tO A) (daysF (tO A) j (tV A)) 4)) + 0 = nI (cntN i (fun j => lrnF (tO A) (daysF (tO A) j (tV A)) 4)) from nI_add _ 0, nI_1, ← e]
      exact ih (i + 1) σ2 _ (by omega) hR2 hp2.1 h02 hc2
    · refine p_iconst (1) 53 rfl dX9_laid_52 rfl ?_
      refine p_goto 57 rfl dX9_laid_53 ?_
      refine p_iadd 58 rfl dX9_laid_57 ?_
      refine p_ist_n2 59 rfl rfl dX9_laid_58 (Nat.le_of_ble_eq_true rfl) rfl ?_
      refine p_inc_3 62 rfl dX9_laid_59 (1) rfl (Nat.le_of_ble_eq_true rfl) rfl ?_
      refine p_goto 25 rfl dX9_laid_62 ?_
      have k1 := knw_le (V := daysF (tO A) i (tV A)) (aC (tO A))
      have k2 := knw_le (V := daysF (tO A) (i + 1) (tV A)) (aC (tO A))
      have kd := knw_day hO hv1
      have hb : (fun j => lrnF (tO A) (daysF (tO A) j (tV A)) 4) i = true := kd.mp ((Nat.lt_or_ge (knw (daysF (tO A) i (tV A)) (aC (tO A))) (knw (dayF (tO A) (daysF (tO A) i (tV A))) (aC (tO A)))).elim id (fun q => absurd (nI_le q (by omega)) h49))
      have e : cntN (i + 1) (fun j => lrnF (tO A) (daysF (tO A) j (tV A)) 4) = cntN i (fun j => lrnF (tO A) (daysF (tO A) j (tV A)) 4) + 1 := by simp only [cntN, hb]; rfl
      rw [nI_1, nI_1, ← e]
      exact ih (i + 1) σ2 _ (by omega) hR2 hp2.1 h02 hc2
set_option maxRecDepth 8000 in
theorem q_laid (hRM : RM σ A) (y : Int32) : CallOk Γ 12 0 0 mX9_laid [.ref M0, .int y] σ (rM (fLaid A y) (fun σ' => RM σ' A ∧ ChM σ σ')) := by
  have hK := hRM.2.1
  have hO := hK.2.2.1
  have hs9 := hO.1
  have hc6 := hO.2.1
  have hw12 := hO.2.2.1
  have hk8 := hO.2.2.2.1
  have hv := hK.2.2.2.2.1.1
  have hd9 := hK.2.2.2.2.1.2
  refine p_enter rfl rfl (Nat.le_of_ble_eq_true rfl) rfl ?_
  refine p_aload_n 0 1 rfl rfl dX9_laid_0 rfl ?_
  refine p_iconst (0) 2 rfl dX9_laid_1 rfl ?_
  refine p_putI 9 0 5 rfl dX9_laid_2 fl_X9_102 rfl rfl (Or.inl rfl) ?_
  have hQ : FQ σ (sI σ M0 0 0) := FQ.th
  have hR0 := hRM.q hQ
  have h0 : hI (sI σ M0 0 0) M0 0 = 0 := hI_sI _ _ _ _
  generalize sI σ M0 0 0 = τ at hQ hR0 h0 ⊢
  have hM := hR0.1
  have hw := hR0.2.2.1
  refine p_aload_n 0 6 rfl rfl dX9_laid_5 rfl ?_
  refine p_iload_n 1 7 rfl rfl dX9_laid_6 rfl ?_
  refine p_iconst (1) 8 rfl dX9_laid_7 rfl ?_
  refine p_iconst (1) 9 rfl dX9_laid_8 rfl ?_
  refine p_cV3x 0 0 12 rfl dX9_laid_9 (c_isDays h0 _ 1 (by decide)) ml_X9_426 vl_X9_isDays rfl (by decide) rfl (Nat.le_of_ble_eq_true rfl) (Nat.le_of_ble_eq_true rfl) (Nat.le_of_ble_eq_true rfl) (Nat.le_of_ble_eq_true rfl) rfl ?_
  intro v0 τ0 hp0
  obtain ⟨hv0, ht0, hf0⟩ := hp0
  subst hv0
  refine p_if_ne 17 15 rfl rfl dX9_laid_12 (fun h12 => ?_) (fun h12 => ?_)
  · have hb0 : btw y 1 40 = true := by simpa only [b2i_eq0, Decidable.not_not, Bool.not_eq_true, Bool.not_eq_false] using h12
    have ee0 := ht0 hb0
    subst ee0
    obtain ⟨d, rfl, hda, hd⟩ := asB hb0 (by decide) (by decide)
    have hdL : d < 2147483648 := by omega
    refine p_iconst (0) 18 rfl dX9_laid_17 rfl ?_
    refine p_ist_n2 19 rfl rfl dX9_laid_18 (Nat.le_of_ble_eq_true rfl) rfl ?_
    refine p_aload_n 0 20 rfl rfl dX9_laid_19 rfl ?_
    refine p_cV0v 0 0 23 rfl dX9_laid_20 (c_tries hM hw) ml_X9_420 vl_X9_tries rfl (by decide) rfl (Nat.le_of_ble_eq_true rfl) (Nat.le_of_ble_eq_true rfl) (Nat.le_of_ble_eq_true rfl) (Nat.le_of_ble_eq_true rfl) rfl ?_
    intro σ1 hp1
    have hR1 := hR0.q (FQ.b hp1.2)
    have h01 : hI σ1 M0 0 = 0 := (hp1.2.1.2.1 M0 0 (by simp)).trans h0
    refine p_iconst (0) 24 rfl dX9_laid_23 rfl ?_
    refine p_ist_n3 25 rfl rfl dX9_laid_24 (Nat.le_of_ble_eq_true rfl) rfl ?_
    have e : fLaid A (nI d) = (0, nI (cntN d (fun j => lrnF (tO A) (daysF (tO A) j (tV A)) 4))) := by rw [fLaid, gd_t hb0, iN_nI hdL]
    rw [e]
    exact Ok.sub (l_mLaid hK hd d 0 σ1 _ (by omega) hR1 hp1.1 h01 (hQ.tr (FQ.b hp1.2)).ch) (by decide) (by decide) (by decide)
  · have hb0 : btw y 1 40 = false := by simpa only [b2i_eq0, Bool.not_eq_true, Decidable.not_not] using h12
    have ee0 := hf0 hb0
    subst ee0
    refine p_iconst (0) 16 rfl dX9_laid_15 rfl ?_
    exact p_iret dX9_laid_16 rfl ⟨_, rfl, by rw [fLaid, gd_f hb0]; exact hI_sI _ _ _ _, fun q => absurd q (by rw [fLaid, gd_f hb0]; decide), (hRM.q hQ).q FQ.th, (hQ.tr FQ.th).ch⟩
end C92
