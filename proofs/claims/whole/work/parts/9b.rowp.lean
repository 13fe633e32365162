/-! ===== the longest row: chains ===== -/
def cnF (O : AO) (V : AW) (u l s : Nat) : Bool := !u.testBit s && !(vP V s == 0) && (l == 9 || fitt O V l s)
def mxN : Nat → (Nat → Nat) → Nat
  | 0, _ => 0
  | n + 1, f => max (mxN n f) (f n)
def lcN (O : AO) (V : AW) : Nat → Nat → Nat → Nat
  | 0, _, _ => 0
  | f + 1, u, l => mxN (aS O) (fun s => if cnF O V u l s = true then 1 + lcN O V f (u ||| 2 ^ s) s else 0)
def lc (O : AO) (V : AW) (u l : Nat) : Nat := lcN O V 512 u l
def chP (O : AO) (V : AW) : Nat → Nat → Nat → Prop
  | 0, u, s => s < aS O ∧ ¬ vP V s = 0 ∧ u.testBit s = false
  | j + 1, u, s => (s < aS O ∧ ¬ vP V s = 0 ∧ u.testBit s = false) ∧ ∃ t, fitt O V s t = true ∧ chP O V j (u ||| 2 ^ s) t
theorem chP_0 {O : AO} {V : AW} {j u s : Nat} (h : chP O V j u s) : s < aS O ∧ ¬ vP V s = 0 ∧ u.testBit s = false := by
  cases j with
  | zero => exact h
  | succ j => exact h.1
theorem chP_dn {O : AO} {V : AW} : ∀ j u s, chP O V (j + 1) u s → chP O V j u s := by
  intro j
  induction j with
  | zero => intro u s h; exact h.1
  | succ j ih =>
    intro u s h
    obtain ⟨h1, t, h2, h3⟩ := h
    exact ⟨h1, t, h2, ih _ _ h3⟩
theorem chP_le {O : AO} {V : AW} {u s j : Nat} : ∀ d, chP O V (j + d) u s → chP O V j u s := by
  intro d
  induction d with
  | zero => intro h; exact h
  | succ d ih => intro h; exact ih (chP_dn _ _ _ h)
theorem mxN_lt {f : Nat → Nat} {j : Nat} : ∀ n, j < mxN n f ↔ ∃ s, s < n ∧ j < f s := by
  intro n
  induction n with
  | zero => simp only [mxN]; constructor
            · intro h; omega
            · rintro ⟨s, h, _⟩; omega
  | succ n ih =>
    simp only [mxN]
    constructor
    · intro h
      by_cases w : j < mxN n f
      · obtain ⟨s, h1, h2⟩ := ih.mp w; exact ⟨s, by omega, h2⟩
      · exact ⟨n, by omega, by omega⟩
    · rintro ⟨s, h1, h2⟩
      by_cases w : s < n
      · have := ih.mpr ⟨s, w, h2⟩; omega
      · rw [show s = n by omega] at h2; omega
theorem or_gt {u s : Nat} (h : u.testBit s = false) : u < u ||| 2 ^ s := by
  have h1 : u ≤ u ||| 2 ^ s := Nat.left_le_or
  have h2 : u ≠ u ||| 2 ^ s := fun e => by
    have := congrArg (fun z => Nat.testBit z s) e
    simp only [Nat.testBit_or, Nat.testBit_two_pow_self, Bool.or_true, h] at this
    cases this
  omega
theorem or_lt9 {u s : Nat} (hu : u < 512) (hs : s < 9) : u ||| 2 ^ s < 512 := Nat.or_lt_two_pow (n := 9) hu (Nat.pow_lt_pow_right (by decide) hs)
theorem cnF_iff {O : AO} {V : AW} {u l s : Nat} : cnF O V u l s = true ↔ (u.testBit s = false ∧ ¬ vP V s = 0) ∧ (l = 9 ∨ fitt O V l s = true) := by
  unfold cnF
  simp
theorem lcN_iff {O : AO} {V : AW} (h9 : aS O ≤ 9) : ∀ f u l j, u < 512 → 512 - u ≤ f → (j < lcN O V f u l ↔ ∃ s, (l = 9 ∨ fitt O V l s = true) ∧ chP O V j u s) := by
  intro f
  induction f with
  | zero => intro u l j hu hf; omega
  | succ f ih =>
    intro u l j hu hf
    simp only [lcN]
    rw [mxN_lt]
    constructor
    · rintro ⟨s, hs, hj⟩
      by_cases hc : cnF O V u l s = true
      · rw [if_pos hc] at hj
        have hc2 := cnF_iff.mp hc
        refine ⟨s, hc2.2, ?_⟩
        cases j with
        | zero => exact ⟨hs, hc2.1.2, hc2.1.1⟩
        | succ j =>
          have hg := or_gt hc2.1.1
          obtain ⟨t, h1, h2⟩ := (ih (u ||| 2 ^ s) s j (or_lt9 hu (by omega)) (by omega)).mp (by omega)
          refine ⟨⟨hs, hc2.1.2, hc2.1.1⟩, t, ?_, h2⟩
          rcases h1 with h1 | h1
          · omega
          · exact h1
      · rw [if_neg hc] at hj; omega
    · rintro ⟨s, hl, hch⟩
      have h0 := chP_0 hch
      have hc : cnF O V u l s = true := cnF_iff.mpr ⟨⟨h0.2.2, h0.2.1⟩, hl⟩
      refine ⟨s, h0.1, ?_⟩
      rw [if_pos hc]
      cases j with
      | zero => omega
      | succ j =>
        obtain ⟨_, t, h1, h2⟩ := hch
        have hg := or_gt h0.2.2
        have := (ih (u ||| 2 ^ s) s j (or_lt9 hu (by omega)) (by omega)).mpr ⟨t, Or.inr h1, h2⟩
        omega
theorem lc_iff {O : AO} {V : AW} (h9 : aS O ≤ 9) {u l j : Nat} (hu : u < 512) : j < lc O V u l ↔ ∃ s, (l = 9 ∨ fitt O V l s = true) ∧ chP O V j u s := lcN_iff h9 512 u l j hu (by omega)
theorem nat_eq {a b : Nat} (h : ∀ j, j < a ↔ j < b) : a = b := by
  rcases Nat.lt_trichotomy a b with w | w | w
  · have := (h a).mpr w; omega
  · exact w
  · have := (h b).mp w; omega
theorem mxN_eq {f g : Nat → Nat} : ∀ n, (∀ i, i < n → f i = g i) → mxN n f = mxN n g := by
  intro n
  induction n with
  | zero => intro _; rfl
  | succ n ih => intro h; simp only [mxN]; rw [ih (fun i hi => h i (by omega)), h n (by omega)]
theorem lc_rec {O : AO} {V : AW} (h9 : aS O ≤ 9) {u l : Nat} (hu : u < 512) : lc O V u l = mxN (aS O) (fun s => if cnF O V u l s = true then 1 + lc O V (u ||| 2 ^ s) s else 0) := by
  show mxN (aS O) (fun s => if cnF O V u l s = true then 1 + lcN O V 511 (u ||| 2 ^ s) s else 0) = _
  refine mxN_eq _ (fun s hs => ?_)
  by_cases hc : cnF O V u l s = true
  · rw [if_pos hc, if_pos hc]
    have hg := or_gt (cnF_iff.mp hc).1.1
    have hl := or_lt9 (s := s) hu (by omega)
    have e : lcN O V 511 (u ||| 2 ^ s) s = lc O V (u ||| 2 ^ s) s := nat_eq (fun j => (lcN_iff h9 511 _ s j hl (by omega)).trans (lc_iff h9 hl).symm)
    rw [e]
  · rw [if_neg hc, if_neg hc]
theorem lc_le {O : AO} {V : AW} (h9 : aS O ≤ 9) {u l : Nat} (hu : u < 512) : lc O V u l ≤ 512 - u := by
  have : ∀ f u l, u < 512 → lcN O V f u l ≤ 512 - u := by
    intro f
    induction f with
    | zero => intro u l _; exact Nat.zero_le _
    | succ f ih =>
      intro u l hu
      simp only [lcN]
      rcases Nat.lt_or_ge (512 - u) (mxN (aS O) (fun s => if cnF O V u l s = true then 1 + lcN O V f (u ||| 2 ^ s) s else 0)) with w | w
      · obtain ⟨s, hs, hj⟩ := (mxN_lt _).mp w
        by_cases hc : cnF O V u l s = true
        · rw [if_pos hc] at hj
          have hg := or_gt (cnF_iff.mp hc).1.1
          have := ih (u ||| 2 ^ s) s (or_lt9 hu (by omega))
          omega
        · rw [if_neg hc] at hj; omega
      · exact w
  exact this 512 u l hu
/-! the tables of sets -/
theorem pop_out : ∀ k, k < 512 → ∀ s, s < 9 → k.testBit s = true → pop (k ^^^ (k &&& 2 ^ s)) + 1 = pop k ∧ k ^^^ (k &&& 2 ^ s) < k := by decide +kernel
theorem pop_z : ∀ k, k < 512 → pop k = 0 → k = 0 := by decide +kernel
theorem out_bit (k s i : Nat) : (k ^^^ (k &&& 2 ^ s)).testBit i = (k.testBit i && !(decide (i = s))) := by
  rw [Nat.testBit_xor, Nat.testBit_and, Nat.testBit_two_pow]
  by_cases h : s = i
  · subst h; cases k.testBit s <;> simp
  · have h2 : ¬ i = s := fun e => h e.symm
    simp [h, h2]
theorem rbT_s (U : Nat) (R : Nat → Nat) (n : Nat) {k : Nat} : ∀ d j, j ≤ k → rbT U R n (k + d) j = rbT U R n k j := by
  intro d
  induction d with
  | zero => intro j _; rfl
  | succ d ih =>
    intro j hj
    show (if j = k + d + 1 then _ else rbT U R n (k + d) j) = _
    rw [if_neg (by omega)]; exact ih j hj
theorem rbT_e (U : Nat) (R : Nat → Nat) (n : Nat) {k z j : Nat} (hk : k ≤ z) (hj : j ≤ k) : rbT U R n z j = rbT U R n k j := by
  have := rbT_s U R n (k := k) (z - k) j hj
  rwa [show k + (z - k) = z by omega] at this
theorem rbT_bit (U : Nat) (R : Nat → Nat) {n : Nat} (hn : n ≤ 9) {k z s : Nat} (h1 : 1 ≤ k) (h2 : k ≤ z) (hz : z < 512) : (rbT U R n z k).testBit s = (decide (s < n) && ((k &&& U).testBit s && ((k ^^^ (k &&& 2 ^ s)) == 0 || (R s &&& rbT U R n z (k ^^^ (k &&& 2 ^ s))) != 0))) := by
  obtain ⟨q, rfl⟩ : ∃ q, k = q + 1 := ⟨k - 1, by omega⟩
  rw [rbT_e U R n h2 (Nat.le_refl _)]
  show (if q + 1 = q + 1 then setN n (rbP U R (rbT U R n q) (q + 1)) else _).testBit s = _
  rw [if_pos rfl, setN_bit]
  by_cases hs : s < n
  · rw [decide_eq_true hs, Bool.true_and, Bool.true_and]
    unfold rbP
    cases hb : ((q + 1) &&& U).testBit s with
    | false => rfl
    | true =>
      have hk : (q + 1).testBit s = true := by rw [Nat.testBit_and] at hb; exact (Bool.and_eq_true _ _ ▸ hb).1
      have hlt := (pop_out (q + 1) (by omega) s (by omega) hk).2
      rw [rbT_e U R n (show q ≤ z by omega) (show (q + 1) ^^^ ((q + 1) &&& 2 ^ s) ≤ q by omega)]
  · rw [decide_eq_false hs, Bool.false_and, Bool.false_and]
theorem tb_ne0 {x : Nat} (h : x ≠ 0) : ∃ i, x.testBit i = true := by
  rcases Classical.em (∃ i, x.testBit i = true) with w | w
  · exact w
  · exact absurd (Nat.eq_of_testBit_eq (fun i => by
      rw [Nat.zero_testBit]
      cases hb : x.testBit i with
      | false => rfl
      | true => exact absurd ⟨i, hb⟩ w)) h
theorem tb_0 {x i : Nat} (h : x.testBit i = true) : x ≠ 0 := fun e => by rw [e, Nat.zero_testBit] at h; cases h
theorem and0 {k u i : Nat} (h : k &&& u = 0) (hk : k.testBit i = true) : u.testBit i = false := by
  have := congrArg (fun z => Nat.testBit z i) h
  simp only [Nat.testBit_and, hk, Bool.true_and, Nat.zero_testBit] at this
  exact this
theorem unb_bit {O : AO} {V : AW} {s : Nat} : (unb O V).testBit s = (decide (s < aS O) && !(vP V s == 0)) := by
  unfold unb shAt
  rw [Nat.testBit_xor, Nat.testBit_and, Nat.testBit_two_pow_sub_one, setN_bit]
  cases decide (s < aS O) <;> cases (vP V s == 0) <;> rfl
theorem ftg_bit {O : AO} {V : AW} {l s : Nat} : (ftg O V l).testBit s = (decide (s < aS O) && fitt O V l s) := by unfold ftg; rw [setN_bit]
def rT (O : AO) (V : AW) : Nat → Nat := rbT (unb O V) (ftg O V) (aS O) (2 ^ aS O - 1)
theorem rT_bit {O : AO} {V : AW} (h9 : aS O ≤ 9) {k s : Nat} (h1 : 1 ≤ k) (h2 : k < 2 ^ aS O) : (rT O V k).testBit s = true ↔ s < aS O ∧ ¬ vP V s = 0 ∧ k.testBit s = true ∧ (k ^^^ (k &&& 2 ^ s) = 0 ∨ ∃ t, fitt O V s t = true ∧ (rT O V (k ^^^ (k &&& 2 ^ s))).testBit t = true) := by
  have hp := p9 h9
  unfold rT
  rw [rbT_bit _ _ h9 h1 (by omega) (by omega), Nat.testBit_and, unb_bit]
  simp only [Bool.and_eq_true, Bool.or_eq_true, decide_eq_true_eq, beq_iff_eq, bne_iff_ne, Bool.not_eq_true', beq_eq_false_iff_ne]
  constructor
  · rintro ⟨ha, ⟨hb, hc, hd⟩, he⟩
    refine ⟨ha, hd, hb, ?_⟩
    rcases he with he | he
    · exact Or.inl he
    · obtain ⟨t, ht⟩ := tb_ne0 he
      rw [Nat.testBit_and, Bool.and_eq_true, ftg_bit, Bool.and_eq_true] at ht
      exact Or.inr ⟨t, ht.1.2, ht.2⟩
  · rintro ⟨ha, hd, hb, he⟩
    refine ⟨ha, ⟨hb, ha, hd⟩, ?_⟩
    rcases he with he | ⟨t, ht1, ht2⟩
    · exact Or.inl he
    · have htn : t < aS O := by
        have := rbT_lt2 (unb O V) (ftg O V) (n := aS O) (2 ^ aS O - 1) (k ^^^ (k &&& 2 ^ s))
        rcases Nat.lt_or_ge t (aS O) with w | w
        · exact w
        · rw [Nat.testBit_lt_two_pow (Nat.lt_of_lt_of_le this (Nat.pow_le_pow_right (by decide) w))] at ht2; cases ht2
      exact Or.inr (tb_0 (i := t) (by rw [Nat.testBit_and, ftg_bit, decide_eq_true htn, ht1, ht2]; rfl))
theorem ch_T {O : AO} {V : AW} (h9 : aS O ≤ 9) : ∀ j u s, chP O V j u s ↔ ∃ k, k < 2 ^ aS O ∧ k &&& u = 0 ∧ pop k = j + 1 ∧ (rT O V k).testBit s = true := by
  have hp := p9 h9
  intro j
  induction j with
  | zero =>
    intro u s
    constructor
    · intro h
      have hb : (2 ^ s).testBit s = true := Nat.testBit_two_pow_self
      have hl : 2 ^ s < 2 ^ aS O := Nat.pow_lt_pow_right (by decide) h.1
      have ho : 2 ^ s ^^^ (2 ^ s &&& 2 ^ s) = 0 := by rw [Nat.and_self, Nat.xor_self]
      have hpo := (pop_out (2 ^ s) (by omega) s (by have := h.1; omega) hb).1
      rw [ho] at hpo
      refine ⟨2 ^ s, hl, ?_, by rw [← hpo]; rfl, ?_⟩
      · apply Nat.eq_of_testBit_eq
        intro i
        rw [Nat.testBit_and, Nat.zero_testBit, Nat.testBit_two_pow]
        by_cases e : s = i
        · subst e; rw [h.2.2, Bool.and_false]
        · rw [decide_eq_false e, Bool.false_and]
      · exact (rT_bit h9 (Nat.two_pow_pos s) hl).mpr ⟨h.1, h.2.1, hb, Or.inl ho⟩
    · rintro ⟨k, h1, h2, h3, h4⟩
      have hk1 : 1 ≤ k := Nat.pos_of_ne_zero (fun e => by rw [e] at h3; exact absurd h3 (by decide))
      have := (rT_bit h9 hk1 h1).mp h4
      exact ⟨this.1, this.2.1, and0 h2 this.2.2.1⟩
  | succ j ih =>
    intro u s
    constructor
    · rintro ⟨h0, t, ht1, ht2⟩
      obtain ⟨k, h1, h2, h3, h4⟩ := (ih (u ||| 2 ^ s) t).mp ht2
      have hks : k.testBit s = false := by
        cases hb : k.testBit s with
        | false => rfl
        | true =>
          have := and0 h2 hb
          rw [Nat.testBit_or, Nat.testBit_two_pow_self, Bool.or_true] at this; cases this
      have hks2 : (k ||| 2 ^ s).testBit s = true := by rw [Nat.testBit_or, Nat.testBit_two_pow_self, Bool.or_true]
      have ho : (k ||| 2 ^ s) ^^^ ((k ||| 2 ^ s) &&& 2 ^ s) = k := by
        apply Nat.eq_of_testBit_eq
        intro i
        rw [out_bit, Nat.testBit_or, Nat.testBit_two_pow]
        by_cases e : i = s
        · subst e; rw [hks]; simp
        · have e2 : ¬ s = i := fun q => e q.symm
          simp [e, e2]
      have hl : k ||| 2 ^ s < 2 ^ aS O := Nat.or_lt_two_pow h1 (Nat.pow_lt_pow_right (by decide) h0.1)
      have hpo := (pop_out (k ||| 2 ^ s) (by omega) s (by have := h0.1; omega) hks2).1
      rw [ho] at hpo
      have hg := or_gt hks
      refine ⟨k ||| 2 ^ s, hl, ?_, by omega, (rT_bit h9 (by omega) hl).mpr ⟨h0.1, h0.2.1, hks2, Or.inr ⟨t, ht1, by rw [ho]; exact h4⟩⟩⟩
      apply Nat.eq_of_testBit_eq
      intro i
      rw [Nat.testBit_and, Nat.testBit_or, Nat.zero_testBit, Nat.testBit_two_pow]
      by_cases e : s = i
      · subst e; rw [h0.2.2, Bool.and_false]
      · rw [decide_eq_false e, Bool.or_false]
        cases hb : k.testBit i with
        | false => rfl
        | true =>
          have := and0 h2 hb
          rw [Nat.testBit_or] at this
          rw [Bool.true_and]; exact (Bool.or_eq_false_iff.mp this).1
    · rintro ⟨k, h1, h2, h3, h4⟩
      have hk1 : 1 ≤ k := Nat.pos_of_ne_zero (fun e => by rw [e] at h3; have : pop 0 = 0 := rfl; omega)
      obtain ⟨a1, a2, a3, a4⟩ := (rT_bit h9 hk1 h1).mp h4
      have hpo := pop_out k (by omega) s (by omega) a3
      refine ⟨⟨a1, a2, and0 h2 a3⟩, ?_⟩
      rcases a4 with a4 | ⟨t, b1, b2⟩
      · rw [a4] at hpo; have : pop 0 = 0 := rfl; omega
      · refine ⟨t, b1, (ih _ t).mpr ⟨k ^^^ (k &&& 2 ^ s), by omega, ?_, by omega, b2⟩⟩
        apply Nat.eq_of_testBit_eq
        intro i
        rw [Nat.testBit_and, out_bit, Nat.testBit_or, Nat.zero_testBit, Nat.testBit_two_pow]
        by_cases e : i = s
        · subst e; simp
        · have e2 : ¬ s = i := fun q => e q.symm
          cases hb : k.testBit i with
          | false => rfl
          | true => simp [e, e2, and0 h2 hb]
theorem rbM_iff (U : Nat) (R : Nat → Nat) (n : Nat) {j z : Nat} : ∀ K, K ≤ z → (j < rbM U R n K ↔ ∃ k, 1 ≤ k ∧ k ≤ K ∧ rbT U R n z k ≠ 0 ∧ j < pop k) := by
  intro K
  induction K with
  | zero => intro _; simp only [rbM]; constructor
            · intro h; omega
            · rintro ⟨k, h1, h2, _⟩; omega
  | succ K ih =>
    intro hK
    have e : rbT U R n z (K + 1) = setN n (rbP U R (rbT U R n K) (K + 1)) := by
      rw [rbT_e U R n hK (Nat.le_refl _)]
      show (if K + 1 = K + 1 then setN n (rbP U R (rbT U R n K) (K + 1)) else _) = _
      rw [if_pos rfl]
    simp only [rbM]
    rw [← e]
    by_cases h0 : rbT U R n z (K + 1) = 0
    · rw [if_pos h0, ih (by omega)]
      constructor
      · rintro ⟨k, h1, h2, h3, h4⟩; exact ⟨k, h1, by omega, h3, h4⟩
      · rintro ⟨k, h1, h2, h3, h4⟩
        rcases Nat.lt_or_ge K k with w | w
        · rw [show k = K + 1 by omega] at h3; exact absurd h0 h3
        · exact ⟨k, h1, w, h3, h4⟩
    · rw [if_neg h0]
      constructor
      · intro h
        by_cases w : j < rbM U R n K
        · obtain ⟨k, h1, h2, h3, h4⟩ := (ih (by omega)).mp w; exact ⟨k, h1, by omega, h3, h4⟩
        · exact ⟨K + 1, by omega, Nat.le_refl _, h0, by omega⟩
      · rintro ⟨k, h1, h2, h3, h4⟩
        rcases Nat.lt_or_ge K k with w | w
        · rw [show k = K + 1 by omega] at h4; omega
        · have := (ih (by omega)).mpr ⟨k, h1, w, h3, h4⟩; omega
theorem bgN_bit {T : Nat → Nat} {m u s : Nat} : ∀ K, (bgN T m u K).testBit s = true ↔ ∃ k, 1 ≤ k ∧ k ≤ K ∧ k &&& u = 0 ∧ pop k = m ∧ (T k).testBit s = true := by
  intro K
  induction K with
  | zero => simp only [bgN, Nat.zero_testBit]; constructor
            · intro h; cases h
            · rintro ⟨k, h1, h2, _⟩; omega
  | succ K ih =>
    simp only [bgN]
    by_cases hc : (K + 1) &&& u = 0 ∧ pop (K + 1) = m
    · rw [if_pos hc, Nat.testBit_or, Bool.or_eq_true, ih]
      constructor
      · rintro (⟨k, h1, h2, h3⟩ | h)
        · exact ⟨k, h1, by omega, h3⟩
        · exact ⟨K + 1, by omega, Nat.le_refl _, hc.1, hc.2, h⟩
      · rintro ⟨k, h1, h2, h3, h4, h5⟩
        rcases Nat.lt_or_ge K k with w | w
        · rw [show k = K + 1 by omega] at h5; exact Or.inr h5
        · exact Or.inl ⟨k, h1, w, h3, h4, h5⟩
    · rw [if_neg hc, ih]
      constructor
      · rintro ⟨k, h1, h2, h3⟩; exact ⟨k, h1, by omega, h3⟩
      · rintro ⟨k, h1, h2, h3, h4, h5⟩
        rcases Nat.lt_or_ge K k with w | w
        · rw [show k = K + 1 by omega] at h3 h4; exact absurd ⟨h3, h4⟩ hc
        · exact ⟨k, h1, w, h3, h4, h5⟩
def rM_ (O : AO) (V : AW) : Nat := rbM (unb O V) (ftg O V) (aS O) (2 ^ aS O - 1)
theorem rM_lc {O : AO} {V : AW} (h9 : aS O ≤ 9) : rM_ O V = lc O V 0 9 := by
  have hp := p9 h9
  refine nat_eq (fun j => ?_)
  rw [lc_iff h9 (by decide)]
  unfold rM_
  rw [rbM_iff _ _ _ (z := 2 ^ aS O - 1) _ (Nat.le_refl _)]
  constructor
  · rintro ⟨k, h1, h2, h3, h4⟩
    obtain ⟨s, hs⟩ := tb_ne0 h3
    have hch : chP O V (pop k - 1) 0 s := (ch_T h9 _ _ _).mpr ⟨k, by omega, Nat.and_zero _, by omega, hs⟩
    refine ⟨s, Or.inl rfl, chP_le (pop k - 1 - j) ?_⟩
    rw [show j + (pop k - 1 - j) = pop k - 1 by omega]; exact hch
  · rintro ⟨s, _, hch⟩
    obtain ⟨k, h1, h2, h3, h4⟩ := (ch_T h9 _ _ _).mp hch
    have hk1 : 1 ≤ k := Nat.pos_of_ne_zero (fun e => by rw [e] at h3; have : pop 0 = 0 := rfl; omega)
    exact ⟨k, hk1, by omega, tb_0 h4, by omega⟩
theorem fnd_ex {p : Nat → Bool} : ∀ n i, (∃ j, i ≤ j ∧ j < i + n ∧ p j = true) → ∃ s, fnd n i p = some s ∧ i ≤ s ∧ s < i + n ∧ p s = true ∧ ∀ j, i ≤ j → j < s → p j = false := by
  intro n
  induction n with
  | zero => rintro i ⟨j, h1, h2, _⟩; omega
  | succ n ih =>
    rintro i ⟨j, h1, h2, h3⟩
    simp only [fnd]
    by_cases hp : p i = true
    · exact ⟨i, by rw [if_pos hp], Nat.le_refl _, by omega, hp, fun q h4 h5 => by omega⟩
    · have hij : i ≠ j := fun e => hp (by rw [e]; exact h3)
      obtain ⟨s, e1, e2, e3, e4, e5⟩ := ih (i + 1) ⟨j, by omega, by omega, h3⟩
      refine ⟨s, by rw [if_neg hp]; exact e1, by omega, by omega, e4, fun q h4 h5 => ?_⟩
      rcases Nat.lt_or_ge i q with w | w
      · exact e5 q w h5
      · rw [show q = i by omega]; simpa using hp
def pkF (O : AO) (V : AW) (u l s : Nat) : Bool := cnF O V u l s && (1 + lc O V (u ||| 2 ^ s) s == lc O V u l)
theorem pk_iff {O : AO} {V : AW} (h9 : aS O ≤ 9) {u l f s : Nat} (hu : u < 512) (hf : lc O V u l = f + 1) (hs : s < aS O) : pkF O V u l s = true ↔ (l = 9 ∨ fitt O V l s = true) ∧ chP O V f u s := by
  unfold pkF
  rw [Bool.and_eq_true, cnF_iff, beq_iff_eq, hf]
  have hlu := or_lt9 (s := s) hu (by omega)
  constructor
  · rintro ⟨⟨h1, h2⟩, h3⟩
    refine ⟨h2, ?_⟩
    cases f with
    | zero => exact ⟨hs, h1.2, h1.1⟩
    | succ f =>
      obtain ⟨t, g1, g2⟩ := (lc_iff h9 (j := f) hlu).mp (by omega : f < lc O V (u ||| 2 ^ s) s)
      refine ⟨⟨hs, h1.2, h1.1⟩, t, ?_, g2⟩
      rcases g1 with g1 | g1
      · omega
      · exact g1
  · rintro ⟨h1, h2⟩
    have h0 := chP_0 h2
    have hc : cnF O V u l s = true := cnF_iff.mpr ⟨⟨h0.2.2, h0.2.1⟩, h1⟩
    refine ⟨⟨⟨h0.2.2, h0.2.1⟩, h1⟩, ?_⟩
    have hge : f ≤ lc O V (u ||| 2 ^ s) s := by
      cases f with
      | zero => exact Nat.zero_le _
      | succ f =>
        obtain ⟨_, t, g1, g2⟩ := h2
        exact (lc_iff h9 hlu).mpr ⟨t, Or.inr g1, g2⟩
    have hle : ¬ f + 1 < 1 + lc O V (u ||| 2 ^ s) s := fun w => by
      have : f + 1 < lc O V u l := by
        rw [lc_rec h9 hu, mxN_lt]
        exact ⟨s, hs, by rw [if_pos hc]; exact w⟩
      omega
    omega
/-- a sheet is laid: both take the same one -/
theorem row_st {O : AO} {V : AW} (h9 : aS O ≤ 9) {u l f x : Nat} (hu : u < 512) (hf : lc O V u l = f + 1) (hx : ∀ s, s < aS O → ¬ vP V s = 0 → (x.testBit s = true ↔ (l = 9 ∨ fitt O V l s = true))) :
    ∃ s, s < aS O ∧ low (x &&& bgN (rT O V) (f + 1) u (2 ^ aS O - 1)) = some s ∧ fnd (aS O) 0 (pkF O V u l) = some s ∧ lc O V (u ||| 2 ^ s) s = f := by
  have hp := p9 h9
  have hbit : ∀ s, (x &&& bgN (rT O V) (f + 1) u (2 ^ aS O - 1)).testBit s = true ↔ (l = 9 ∨ fitt O V l s = true) ∧ chP O V f u s := by
    intro s
    rw [Nat.testBit_and, Bool.and_eq_true, bgN_bit]
    constructor
    · rintro ⟨h1, k, g1, g2, g3, g4, g5⟩
      have hch : chP O V f u s := (ch_T h9 _ _ _).mpr ⟨k, by omega, g3, g4, g5⟩
      have h0 := chP_0 hch
      exact ⟨(hx s h0.1 h0.2.1).mp h1, hch⟩
    · rintro ⟨h1, h2⟩
      have h0 := chP_0 h2
      obtain ⟨k, g1, g2, g3, g4⟩ := (ch_T h9 _ _ _).mp h2
      have hk1 : 1 ≤ k := Nat.pos_of_ne_zero (fun e => by rw [e] at g3; have : pop 0 = 0 := rfl; omega)
      exact ⟨(hx s h0.1 h0.2.1).mpr h1, k, hk1, by omega, g2, g3, g4⟩
  obtain ⟨s1, g1, g2⟩ := (lc_iff (V := V) h9 hu (l := l) (j := f)).mp (by omega)
  have h0 := chP_0 g2
  obtain ⟨s, e1, _, e3, e4, e5⟩ := fnd_ex (p := pkF O V u l) (aS O) 0 ⟨s1, Nat.zero_le _, by have := h0.1; omega, (pk_iff h9 hu hf h0.1).mpr ⟨g1, g2⟩⟩
  have hs : s < aS O := by omega
  refine ⟨s, hs, ?_, e1, ?_⟩
  · refine lowF_some 32 0 s (Nat.zero_le _) (by omega) (fun j _ hj => ?_) ((hbit s).mpr ((pk_iff h9 hu hf hs).mp e4))
    cases hb : (x &&& bgN (rT O V) (f + 1) u (2 ^ aS O - 1)).testBit j with
    | false => rfl
    | true =>
      have := (pk_iff h9 hu hf (by omega)).mpr ((hbit j).mp hb)
      rw [e5 j (Nat.zero_le _) hj] at this; cases this
  · unfold pkF at e4
    rw [Bool.and_eq_true, beq_iff_eq, hf] at e4
    omega
theorem rwL_c {O : AO} {V : AW} (h9 : aS O ≤ 9) {u l f x m i : Nat} (hm : i + (f + 1) = m) (hu : u < 512) (hf : lc O V u l = f + 1) (hx : ∀ s, s < aS O → ¬ vP V s = 0 → (x.testBit s = true ↔ (l = 9 ∨ fitt O V l s = true))) :
    ∃ s, s < aS O ∧ rwL (ftg O V) (rT O V) (2 ^ aS O - 1) m (f + 1) i u x = s :: rwL (ftg O V) (rT O V) (2 ^ aS O - 1) m f (i + 1) (u ||| 2 ^ s) (ftg O V s) ∧ fnd (aS O) 0 (pkF O V u l) = some s ∧ lc O V (u ||| 2 ^ s) s = f ∧ (∀ t, t < aS O → ¬ vP V t = 0 → ((ftg O V s).testBit t = true ↔ (s = 9 ∨ fitt O V s t = true))) := by
  obtain ⟨s, h1, h2, h3, h4⟩ := row_st h9 hu hf hx
  refine ⟨s, h1, ?_, h3, h4, fun t ht _ => ?_⟩
  · rw [rwL, show m - i = f + 1 by omega, h2]
  · rw [ftg_bit, decide_eq_true ht, Bool.true_and]
    constructor
    · intro w; exact Or.inr w
    · rintro (w | w)
      · omega
      · exact w
theorem rwL_l {O : AO} {V : AW} (h9 : aS O ≤ 9) {m : Nat} : ∀ f i u l x, i + f = m → u < 512 → lc O V u l = f → (∀ s, s < aS O → ¬ vP V s = 0 → (x.testBit s = true ↔ (l = 9 ∨ fitt O V l s = true))) → (rwL (ftg O V) (rT O V) (2 ^ aS O - 1) m f i u x).length = f := by
  intro f
  induction f with
  | zero => intro i u l x _ _ _ _; rfl
  | succ f ih =>
    intro i u l x hm hu hf hx
    obtain ⟨s, h1, h2, h3, h4, h5⟩ := rwL_c h9 hm hu hf hx
    rw [h2, List.length_cons, ih (i + 1) (u ||| 2 ^ s) s (ftg O V s) (by omega) (or_lt9 hu (by omega)) h4 h5]
theorem hx0 {O : AO} {V : AW} : ∀ s, s < aS O → ¬ vP V s = 0 → ((unb O V).testBit s = true ↔ (9 = 9 ∨ fitt O V 9 s = true)) := by
  intro s h1 h2
  rw [unb_bit, decide_eq_true h1]
  constructor
  · intro _; exact Or.inl rfl
  · intro _; simpa using h2
theorem rwA_len {O : AO} {V : AW} (h9 : aS O ≤ 9) : (rwA O V).length = lc O V 0 9 := by
  have := rwL_l h9 (O := O) (V := V) (m := rM_ O V) (lc O V 0 9) 0 0 9 (unb O V) (by rw [rM_lc h9]; omega) (by decide) rfl hx0
  unfold rwA
  show (rwL (ftg O V) (rT O V) (2 ^ aS O - 1) (rM_ O V) (rM_ O V) 0 0 (unb O V)).length = _
  rw [show rwL (ftg O V) (rT O V) (2 ^ aS O - 1) (rM_ O V) (rM_ O V) 0 0 (unb O V) = rwL (ftg O V) (rT O V) (2 ^ aS O - 1) (rM_ O V) (lc O V 0 9) 0 0 (unb O V) by rw [← rM_lc h9]]
  exact this
