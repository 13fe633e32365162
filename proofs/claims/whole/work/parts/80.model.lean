/-! ===== the reference: where its arrays are; what it asks of a row ===== -/
abbrev M0 : Nat := 18874377
abbrev mRd : Nat := 19137680
abbrev mRl : Nat := 19398864
abbrev mWl : Nat := 19661200
abbrev mWr : Nat := 19923344
abbrev mCd : Nat := 20229904
abbrev mTp : Nat := 20469648
abbrev mRf : Nat := 20709488
abbrev nRd : Nat := 20972688
abbrev nRl : Nat := 21233872
abbrev nWl : Nat := 21496208
abbrev nWr : Nat := 21758352
abbrev nRw : Nat := 22021200
abbrev rCd : Nat := 22327056
abbrev mWt : Nat := 22574800
abbrev mTs : Nat := 22806834
abbrev mRo : Nat := 23070864
abbrev mAh : Nat := 23374352
abbrev mTo : Nat := 23593264
abbrev mPi : Nat := 23885520
abbrev mCo : Nat := 24133648
abbrev mMo : Nat := 24543248
abbrev mHe : Nat := 24642576
abbrev mSo : Nat := 24903888
abbrev mSa : Nat := 25176208
abbrev iRo : Nat := 25429072
abbrev iAh : Nat := 25733648
abbrev iHe : Nat := 25953296
def mRef : Nat → Nat
  | 7 => 19137680
  | 8 => 19398864
  | 9 => 19661200
  | 10 => 19923344
  | 11 => 20229904
  | 12 => 20469648
  | 16 => 20709488
  | 36 => 20972688
  | 37 => 21233872
  | 38 => 21496208
  | 39 => 21758352
  | 40 => 22021200
  | 41 => 22327056
  | 42 => 22574800
  | 43 => 22806834
  | 44 => 23070864
  | 45 => 23374352
  | 47 => 23593264
  | 48 => 23885520
  | 49 => 24133648
  | 50 => 24543248
  | 52 => 24642576
  | 53 => 24903888
  | 54 => 25176208
  | 59 => 25429072
  | 60 => 25733648
  | 61 => 25953296
  | _ => 0
/-- a place as the reference has it -/
def atI (p : Nat) : Int32 := if p = 0 then -1 else if p < 5 then nI (p - 1) else nI (p + 5)
/-- a row of the reference: the day, edges (those of burnt sheets only where e says so), places, what clerks know -/
def RowM (e : Bool) (f : Nat → Int32) (b : Nat) (O : AO) (V : AW) : Prop := f b = nI (vD V) ∧ (∀ s, s < aS O → (e = true ∨ vP V s ≠ 0 → f (b + 1 + s) = nI (vL V s)) ∧ f (b + 10 + s) = nI (vR V s) ∧ f (b + 19 + s) = atI (vP V s)) ∧ ∀ c, c < aC O → f (b + 28 + c) = nI (vK V c)
/-- a step of a rule in the reference's code -/
def enc (w : Bool) (t : Int32) : List Int32 :=
  if 10000 ≤ t then [2, if w = true then t - 9996 else if t < 10002 then t - 9996 else t - 10002]
  else if 0 ≤ t then [1, t] else if t = -1 then [5] else if t = -2 then [4] else if t = -3 then [3] else if t = -4 then [6] else if t = -5 then [7] else if t = -6 then [8] else if t = -7 then [9] else if t = -8 then [10] else [11]
def encL (w : Bool) (ps : List Int32) : List Int32 := ps.flatMap (enc w)
/-- how high the pile stands behind a rule's steps; none: too few, or more than forty -/
def hgt : Nat → List Int32 → Option Nat
  | h, [] => some h
  | h, t :: ts => if 0 ≤ t then (if h < 40 then hgt (h + 1) ts else none) else if t = -3 then (if 0 < h then hgt h ts else none) else (if 1 < h then hgt (h - 1) ts else none)
def okSt (w : Bool) (t : Int32) : Prop := -9 ≤ t ∧ t < (if w = true then 10005 else 10006)
def RuM (σ : PH) (k : Nat) (w : Bool) : Option (List Int32) → Prop
  | none => hI σ M0 k = -1
  | some ps => hgt 0 ps = some 1 ∧ (∀ t ∈ ps, okSt w t) ∧ ∃ p, hI σ M0 k = nI p ∧ p + (encL w ps).length < 1400 ∧ ∀ i, i < (encL w ps ++ [0]).length → hA σ mCd (p + i) = (encL w ps ++ [0]).getD i 0
def OM (σ : PH) (O : AO) : Prop := (∀ k, hR σ M0 k = mRef k) ∧ OkO O ∧ (hI σ M0 1 = nI (aS O) ∧ hI σ M0 2 = nI (aC O) ∧ hI σ M0 3 = nI (aW O) ∧ hI σ M0 4 = nI (aK O)) ∧ (∀ c, c < aC O → hA σ mRl c = nI (aT O c) ∧ ∀ j, j < aT O c → hA σ mRd (6 * c + j) = nI (aR O c j)) ∧ (∀ k, k < aW O → hA σ mWl k = nI (aL O k) ∧ hA σ mWr k = nI (aB O k)) ∧ RuM σ 5 true (aY O) ∧ RuM σ 6 false (aM O)
theorem ix (b k s : Nat) (K : Int32) (h : K = nI k) : nI b + K + nI s = nI (b + k + s) := by rw [h, nI_add, nI_add]
theorem sb1 {m i : Nat} (hm : m < 2 ^ 31) (hi : i < 32) : nI m >>> (nI i &&& 31) &&& 1 = b2i (m.testBit i) := by
  rw [shr_nI hm hi, and1, Nat.testBit_eq_decide_div_mod_eq]
  rcases Nat.mod_two_eq_zero_or_one (m / 2 ^ i) with h | h <;> rw [h] <;> rfl
theorem sb2 {m i j : Nat} (hm : m < 2 ^ 31) (hi : i < 32) (hj : j < 32) : nI m >>> (nI i &&& 31) &&& nI m >>> (nI j &&& 31) &&& 1 = b2i (m.testBit i && m.testBit j) := by
  rw [shr_nI hm hi, shr_nI hm hj, nx_and, and1, Nat.testBit_eq_decide_div_mod_eq, Nat.testBit_eq_decide_div_mod_eq, ← Nat.and_one_is_mod, Nat.and_assoc, Nat.and_one_is_mod]
  rcases Nat.mod_two_eq_zero_or_one (m / 2 ^ i) with h | h <;> rcases Nat.mod_two_eq_zero_or_one (m / 2 ^ j) with g | g
  all_goals
    rw [h, g]
    have e : m / 2 ^ i &&& m / 2 ^ j % 2 = (m / 2 ^ i) % 2 &&& (m / 2 ^ j) % 2 := by
      rw [← Nat.and_one_is_mod (m / 2 ^ i), ← Nat.and_one_is_mod (m / 2 ^ j), Nat.and_assoc, ← Nat.and_assoc 1, Nat.and_comm 1 (m / 2 ^ j), Nat.and_assoc (m / 2 ^ j), Nat.and_self]
    rw [g] at e
    rw [e, h]
    rfl
theorem b2i_1 {b : Bool} : b2i b = 1 ↔ b = true := by cases b <;> decide
theorem or0 (x : Int32) : x ||| 0 = x := by apply Int32.toBitVec_inj.1; show x.toBitVec ||| (0 : BitVec 32) = x.toBitVec; simp
theorem atI_0 {p : Nat} (h : p < 100) : atI p = -1 ↔ p = 0 := by
  unfold atI
  constructor
  · intro q
    by_cases h0 : p = 0
    · exact h0
    · rw [if_neg h0] at q
      split at q
      · exact absurd q (nI_m1 (by omega))
      · exact absurd q (nI_m1 (by omega))
  · intro q; rw [if_pos q]
section C80
variable {Γ : Gm} {σ : PH} {O : AO} {V : AW} {e : Bool} {b : Nat}
set_option maxRecDepth 4000 in
theorem c_within (x a c : Int32) : CallOk Γ 1 0 0 mX9_within [.int x, .int a, .int c] σ (rI σ (b2i (decide (a ≤ x) && decide (x ≤ c)))) := by
  refine p_enter rfl rfl (Nat.le_of_ble_eq_true rfl) rfl ?_
  refine p_iload_n 0 1 rfl rfl dX9_within_0 rfl ?_
  refine p_iload_n 1 2 rfl rfl dX9_within_1 rfl ?_
  refine p_icmp_lt 14 5 rfl rfl dX9_within_2 (fun h2 => ?_) (fun h2 => ?_)
  · refine p_iconst (0) 15 rfl dX9_within_14 rfl ?_
    exact p_zret dX9_within_15 rfl (by decide) ⟨by rw [decide_eq_false (fun q => Int32.not_le.mpr h2 q)]; rfl, rfl⟩
  · refine p_iload_n 0 6 rfl rfl dX9_within_5 rfl ?_
    refine p_iload_n 2 7 rfl rfl dX9_within_6 rfl ?_
    refine p_icmp_gt 14 10 rfl rfl dX9_within_7 (fun h7 => ?_) (fun h7 => ?_)
    · refine p_iconst (0) 15 rfl dX9_within_14 rfl ?_
      exact p_zret dX9_within_15 rfl (by decide) ⟨by rw [decide_eq_false (fun q => Int32.not_le.mpr h7 q), Bool.and_false]; rfl, rfl⟩
    · refine p_iconst (1) 11 rfl dX9_within_10 rfl ?_
      refine p_goto 15 rfl dX9_within_11 ?_
      exact p_zret dX9_within_15 rfl (by decide) ⟨by rw [decide_eq_true (Int32.not_lt.mp h2), decide_eq_true (Int32.not_lt.mp h7)]; rfl, rfl⟩
set_option maxRecDepth 4000 in
theorem c_greater (x y : Int32) : CallOk Γ 1 0 0 mX9_greater [.int x, .int y] σ (rI σ (if x ≤ y then y else x)) := by
  refine p_enter rfl rfl (Nat.le_of_ble_eq_true rfl) rfl ?_
  refine p_iload_n 0 1 rfl rfl dX9_greater_0 rfl ?_
  refine p_iload_n 1 2 rfl rfl dX9_greater_1 rfl ?_
  refine p_icmp_le 9 5 rfl rfl dX9_greater_2 (fun h2 => ?_) (fun h2 => ?_)
  · refine p_iload_n 1 10 rfl rfl dX9_greater_9 rfl ?_
    exact p_iret dX9_greater_10 rfl ⟨by rw [if_pos h2], rfl⟩
  · refine p_iload_n 0 6 rfl rfl dX9_greater_5 rfl ?_
    refine p_goto 10 rfl dX9_greater_6 ?_
    exact p_iret dX9_greater_10 rfl ⟨by rw [if_neg h2], rfl⟩
set_option maxRecDepth 4000 in
theorem l_bits {m : Nat} (hm : m < 2 ^ 31) : ∀ (n i : Nat), i + n = 12 → Ok Γ 1 0 0 mX9_bits 4 [some (.int (nI m)), some (.int (nI (popN i m))), some (.int (nI i))] [] σ (rI σ (nI (pop m))) := by
  intro n
  induction n with
  | zero =>
    intro i hi
    refine p_iload_n 2 5 rfl rfl dX9_bits_4 rfl ?_
    refine p_bipush (12) 7 rfl dX9_bits_5 rfl ?_
    refine p_icmp_ge 24 10 rfl rfl dX9_bits_7 (fun h7 => ?_) (fun h7 => absurd (nI_le (a := 12) (b := i) (by omega) (by omega)) h7)
    refine p_iload_n 1 25 rfl rfl dX9_bits_24 rfl ?_
    exact p_iret dX9_bits_25 rfl ⟨by rw [show i = 12 by omega]; rfl, rfl⟩
  | succ n ih =>
    intro i hi
    refine p_iload_n 2 5 rfl rfl dX9_bits_4 rfl ?_
    refine p_bipush (12) 7 rfl dX9_bits_5 rfl ?_
    refine p_icmp_ge 24 10 rfl rfl dX9_bits_7 (fun h7 => absurd h7 (nI_ge (a := i) (b := 12) (by omega) (by omega))) (fun h7 => ?_)
    refine p_iload_n 1 11 rfl rfl dX9_bits_10 rfl ?_
    refine p_iload_n 0 12 rfl rfl dX9_bits_11 rfl ?_
    refine p_iload_n 2 13 rfl rfl dX9_bits_12 rfl ?_
    refine p_ishr 14 rfl dX9_bits_13 ?_
    refine p_iconst (1) 15 rfl dX9_bits_14 rfl ?_
    refine p_iand 16 rfl dX9_bits_15 ?_
    rw [shr_nI hm (by omega), and1]
    refine p_iadd 17 rfl dX9_bits_16 ?_
    rw [nI_add]
    refine p_ist_n1 18 rfl rfl dX9_bits_17 (Nat.le_of_ble_eq_true rfl) rfl ?_
    refine p_inc_2 21 rfl dX9_bits_18 (1) rfl (Nat.le_of_ble_eq_true rfl) rfl ?_
    refine p_goto 4 rfl dX9_bits_21 ?_
    rw [nI_1]
    exact ih (i + 1) (by omega)
set_option maxRecDepth 4000 in
theorem c_bits {m : Nat} (hm : m < 2 ^ 31) : CallOk Γ 1 0 0 mX9_bits [.int (nI m)] σ (rI σ (nI (pop m))) := by
  refine p_enter rfl rfl (Nat.le_of_ble_eq_true rfl) rfl ?_
  refine p_iconst (0) 1 rfl dX9_bits_0 rfl ?_
  refine p_ist_n1 2 rfl rfl dX9_bits_1 (Nat.le_of_ble_eq_true rfl) rfl ?_
  refine p_iconst (0) 3 rfl dX9_bits_2 rfl ?_
  refine p_ist_n2 4 rfl rfl dX9_bits_3 (Nat.le_of_ble_eq_true rfl) rfl ?_
  exact l_bits hm 12 0 (by omega)
set_option maxRecDepth 4000 in
theorem c_mTownOn (hM : OM σ O) {c d : Nat} (hc : c < aC O) (hd : d < 2 ^ 31) : CallOk Γ 1 0 0 mX9_townOn [.ref M0, .int (nI c), .int (nI d)] σ (rI σ (nI (tOn O c d))) := by
  have hO := hM.2.1
  have hs9 := hO.1
  have hc6 := hO.2.1
  have hw12 := hO.2.2.1
  have hk8 := hO.2.2.2.1
  have hT := hO.2.2.2.2.1 c hc
  refine p_enter rfl rfl (Nat.le_of_ble_eq_true rfl) rfl ?_
  refine p_aload_n 0 1 rfl rfl dX9_townOn_0 rfl ?_
  refine p_getR 9 7 4 rfl dX9_townOn_1 fl_X9_16 rfl rfl (show hR _ M0 7 = mRd from hM.1 7) (by decide) ?_
  refine p_bipush (6) 6 rfl dX9_townOn_4 rfl ?_
  refine p_iload_n 1 7 rfl rfl dX9_townOn_6 rfl ?_
  refine p_imul 8 rfl dX9_townOn_7 ?_
  rw [show (6 : Int32) = nI 6 from rfl, nI_mu]
  refine p_iload_n 2 9 rfl rfl dX9_townOn_8 rfl ?_
  refine p_aload_n 0 10 rfl rfl dX9_townOn_9 rfl ?_
  refine p_getR 9 8 13 rfl dX9_townOn_10 fl_X9_20 rfl rfl (show hR _ M0 8 = mRl from hM.1 8) (by decide) ?_
  refine p_iload_n 1 14 rfl rfl dX9_townOn_13 rfl ?_
  refine p_ialdE 15 rfl dX9_townOn_14 (i := c) rfl (by show c < 6; omega) (hM.2.2.2.1 c hc).1 ?_
  refine p_irem 16 rfl dX9_townOn_15 (nI_ne0 hT.1 (by omega)) ?_
  rw [pk_rem (by omega) hT.1 (by omega)]
  refine p_iadd 17 rfl dX9_townOn_16 ?_
  rw [nI_add]
  refine p_ialdE 18 rfl dX9_townOn_17 (i := 6 * c + d % aT O c) rfl (by show _ < 36; have := Nat.mod_lt d hT.1; omega) ((hM.2.2.2.1 c hc).2 _ (Nat.mod_lt d hT.1)) ?_
  exact p_iret dX9_townOn_18 rfl ⟨rfl, rfl⟩
set_option maxRecDepth 4000 in
theorem c_clerkIn (hM : OM σ O) (hw : RowM e (hA σ mRo) b O V) (hv : OkV O V) (hb : b ≤ 34) {c : Nat} (hc : c < aC O) : CallOk Γ 2 0 0 mX9_clerkIn [.ref M0, .int (nI b), .int (nI c)] σ (rI σ (nI (tOn O c (vD V)))) := by
  have hO := hM.2.1
  have hs9 := hO.1
  have hc6 := hO.2.1
  have hw12 := hO.2.2.1
  have hk8 := hO.2.2.2.1
  refine p_enter rfl rfl (Nat.le_of_ble_eq_true rfl) rfl ?_
  refine p_aload_n 0 1 rfl rfl dX9_clerkIn_0 rfl ?_
  refine p_iload_n 2 2 rfl rfl dX9_clerkIn_1 rfl ?_
  refine p_aload_n 0 3 rfl rfl dX9_clerkIn_2 rfl ?_
  refine p_getR 9 44 6 rfl dX9_clerkIn_3 fl_X9_66 rfl rfl (show hR _ M0 44 = mRo from hM.1 44) (by decide) ?_
  refine p_iload_n 1 7 rfl rfl dX9_clerkIn_6 rfl ?_
  refine p_iconst (0) 8 rfl dX9_clerkIn_7 rfl ?_
  refine p_iadd 9 rfl dX9_clerkIn_8 ?_
  rw [show nI b + 0 = nI b from nI_add b 0]
  refine p_ialdE 10 rfl dX9_clerkIn_9 (i := b) rfl (by show b < 68; omega) hw.1 ?_
  refine p_cV2i 13 rfl dX9_clerkIn_10 (c_mTownOn hM hc (by have := hv.1; omega)) ml_X9_310 vl_X9_townOn rfl (by decide) rfl (Nat.le_of_ble_eq_true rfl) (Nat.le_of_ble_eq_true rfl) rfl ?_
  exact p_iret dX9_clerkIn_13 rfl ⟨rfl, rfl⟩
set_option maxRecDepth 4000 in
theorem c_isBurnt (hM : OM σ O) (hw : RowM e (hA σ mRo) b O V) (hv : OkV O V) (hb : b ≤ 34) {s : Nat} (hs : s < aS O) : CallOk Γ 1 0 0 mX9_isBurnt [.ref M0, .int (nI b), .int (nI s)] σ (rI σ (b2i (vP V s == 0))) := by
  have hO := hM.2.1
  have hs9 := hO.1
  have hc6 := hO.2.1
  have hw12 := hO.2.2.1
  have hk8 := hO.2.2.2.1
  have hp : vP V s < 100 := by have := (hv.2.1 s (by omega)).2.2; omega
  refine p_enter rfl rfl (Nat.le_of_ble_eq_true rfl) rfl ?_
  refine p_aload_n 0 1 rfl rfl dX9_isBurnt_0 rfl ?_
  refine p_getR 9 44 4 rfl dX9_isBurnt_1 fl_X9_66 rfl rfl (show hR _ M0 44 = mRo from hM.1 44) (by decide) ?_
  refine p_iload_n 1 5 rfl rfl dX9_isBurnt_4 rfl ?_
  refine p_bipush (19) 7 rfl dX9_isBurnt_5 rfl ?_
  refine p_iadd 8 rfl dX9_isBurnt_7 ?_
  refine p_iload_n 2 9 rfl rfl dX9_isBurnt_8 rfl ?_
  refine p_iadd 10 rfl dX9_isBurnt_9 ?_
  rw [ix b 19 (s) 19 rfl]
  refine p_ialdE 11 rfl dX9_isBurnt_10 (i := b + 19 + s) rfl (by show b + 19 + s < 68; omega) (hw.2.1 s (by omega)).2.2 ?_
  refine p_iconst (-1) 12 rfl dX9_isBurnt_11 rfl ?_
  refine p_icmp_ne 19 15 rfl rfl dX9_isBurnt_12 (fun h12 => ?_) (fun h12 => ?_)
  · refine p_iconst (0) 20 rfl dX9_isBurnt_19 rfl ?_
    exact p_zret dX9_isBurnt_20 rfl (by decide) ⟨by have hq : (vP V s == 0) = false := (by simp only [beq_eq_false_iff_ne]; exact fun q => h12 ((atI_0 hp).mpr q)); rw [hq]; rfl, rfl⟩
  · refine p_iconst (1) 16 rfl dX9_isBurnt_15 rfl ?_
    refine p_goto 20 rfl dX9_isBurnt_16 ?_
    exact p_zret dX9_isBurnt_20 rfl (by decide) ⟨by rw [(atI_0 hp).mp h12]; rfl, rfl⟩
theorem atI_lt {p : Nat} (h : p < 100) : atI p < 10 ↔ p < 5 := by
  unfold atI
  by_cases h0 : p = 0
  · rw [if_pos h0]; exact ⟨fun _ => by omega, fun _ => by decide⟩
  · rw [if_neg h0]
    by_cases h5 : p < 5
    · rw [if_pos h5]; exact ⟨fun _ => h5, fun _ => nI_lt (b := 10) (by omega) (by decide)⟩
    · rw [if_neg h5]; exact ⟨fun q => absurd q (nI_nlt (a := p + 5) (b := 10) (by omega) (by omega)), fun q => absurd q h5⟩
theorem atI_pI {p : Nat} (h : p < 5) : atI p = pI p := by
  unfold atI
  by_cases h0 : p = 0
  · rw [if_pos h0, h0]; decide
  · rw [if_neg h0, if_pos h, ← pI_s, show p - 1 + 1 = p by omega]
theorem atI_5 {p : Nat} (h : 5 ≤ p) : atI p = nI (p + 5) := by unfold atI; rw [if_neg (by omega), if_neg (by omega)]
set_option maxRecDepth 4000 in
theorem c_sheetIn (hM : OM σ O) (hw : RowM e (hA σ mRo) b O V) (hv : OkV O V) (hb : b ≤ 34) {s : Nat} (hs : s < aS O) : CallOk Γ 3 0 0 mX9_sheetIn [.ref M0, .int (nI b), .int (nI s)] σ (rI σ (pI (tOf O V s 0))) := by
  have hO := hM.2.1
  have hs9 := hO.1
  have hc6 := hO.2.1
  have hw12 := hO.2.2.1
  have hk8 := hO.2.2.2.1
  have hp : vP V s < 100 := by have := (hv.2.1 s (by omega)).2.2; omega
  refine p_enter rfl rfl (Nat.le_of_ble_eq_true rfl) rfl ?_
  refine p_aload_n 0 1 rfl rfl dX9_sheetIn_0 rfl ?_
  refine p_getR 9 44 4 rfl dX9_sheetIn_1 fl_X9_66 rfl rfl (show hR _ M0 44 = mRo from hM.1 44) (by decide) ?_
  refine p_iload_n 1 5 rfl rfl dX9_sheetIn_4 rfl ?_
  refine p_bipush (19) 7 rfl dX9_sheetIn_5 rfl ?_
  refine p_iadd 8 rfl dX9_sheetIn_7 ?_
  refine p_iload_n 2 9 rfl rfl dX9_sheetIn_8 rfl ?_
  refine p_iadd 10 rfl dX9_sheetIn_9 ?_
  rw [ix b 19 (s) 19 rfl]
  refine p_ialdE 11 rfl dX9_sheetIn_10 (i := b + 19 + s) rfl (by show b + 19 + s < 68; omega) (hw.2.1 s (by omega)).2.2 ?_
  refine p_ist_n3 12 rfl rfl dX9_sheetIn_11 (Nat.le_of_ble_eq_true rfl) rfl ?_
  refine p_iload_n 3 13 rfl rfl dX9_sheetIn_12 rfl ?_
  refine p_bipush (10) 15 rfl dX9_sheetIn_13 rfl ?_
  refine p_icmp_ge 22 18 rfl rfl dX9_sheetIn_15 (fun h15 => ?_) (fun h15 => ?_)
  · have h5 : 5 ≤ vP V s := (Nat.lt_or_ge (vP V s) 5).elim (fun q => absurd h15 (Int32.not_le.mpr ((atI_lt hp).mpr q))) id
    refine p_aload_n 0 23 rfl rfl dX9_sheetIn_22 rfl ?_
    refine p_iload_n 1 24 rfl rfl dX9_sheetIn_23 rfl ?_
    refine p_iload_n 3 25 rfl rfl dX9_sheetIn_24 rfl ?_
    refine p_bipush (10) 27 rfl dX9_sheetIn_25 rfl ?_
    refine p_isub 28 rfl dX9_sheetIn_27 ?_
    rw [atI_5 h5, show nI (vP V s + 5) - 10 = nI (vP V s - 5) from (nI_sb (a := vP V s + 5) (b := 10) (by omega)).trans (by rw [show vP V s + 5 - 10 = vP V s - 5 by omega])]
    refine p_cV2i 31 rfl dX9_sheetIn_28 (c_clerkIn hM hw hv hb (c := vP V s - 5) (by have := hv.2.2.1 s hs; omega)) ml_X9_313 vl_X9_clerkIn rfl (by decide) rfl (Nat.le_of_ble_eq_true rfl) (Nat.le_of_ble_eq_true rfl) rfl ?_
    exact p_iret dX9_sheetIn_31 rfl ⟨by rw [tOf, if_pos h5, pI_s]; rfl, rfl⟩
  · have h5 : vP V s < 5 := (atI_lt hp).mp (Int32.not_le.mp h15)
    refine p_iload_n 3 19 rfl rfl dX9_sheetIn_18 rfl ?_
    refine p_goto 31 rfl dX9_sheetIn_19 ?_
    exact p_iret dX9_sheetIn_31 rfl ⟨by rw [tOf, if_neg (by omega), atI_pI h5], rfl⟩
set_option maxRecDepth 4000 in
theorem c_offBy (hM : OM σ O) (hw : RowM e (hA σ mRo) b O V) (hv : OkV O V) (hb : b ≤ 34) {s t : Nat} (hs : s < aS O) (ht : t < aS O) (he : e = true ∨ vP V t ≠ 0) : CallOk Γ 2 0 0 mX9_offBy [.ref M0, .int (nI b), .int (nI s), .int (nI t)] σ (rI σ (nI (dif V s t))) := by
  have hO := hM.2.1
  have hs9 := hO.1
  have hc6 := hO.2.1
  have hw12 := hO.2.2.1
  have hk8 := hO.2.2.2.1
  refine p_enter rfl rfl (Nat.le_of_ble_eq_true rfl) rfl ?_
  refine p_aload_n 0 1 rfl rfl dX9_offBy_0 rfl ?_
  refine p_getR 9 44 4 rfl dX9_offBy_1 fl_X9_66 rfl rfl (show hR _ M0 44 = mRo from hM.1 44) (by decide) ?_
  refine p_iload_n 1 5 rfl rfl dX9_offBy_4 rfl ?_
  refine p_bipush (10) 7 rfl dX9_offBy_5 rfl ?_
  refine p_iadd 8 rfl dX9_offBy_7 ?_
  refine p_iload_n 2 9 rfl rfl dX9_offBy_8 rfl ?_
  refine p_iadd 10 rfl dX9_offBy_9 ?_
  rw [ix b 10 (s) 10 rfl]
  refine p_ialdE 11 rfl dX9_offBy_10 (i := b + 10 + s) rfl (by show b + 10 + s < 68; omega) (hw.2.1 s (by omega)).2.1 ?_
  refine p_aload_n 0 12 rfl rfl dX9_offBy_11 rfl ?_
  refine p_getR 9 44 15 rfl dX9_offBy_12 fl_X9_66 rfl rfl (show hR _ M0 44 = mRo from hM.1 44) (by decide) ?_
  refine p_iload_n 1 16 rfl rfl dX9_offBy_15 rfl ?_
  refine p_iconst (1) 17 rfl dX9_offBy_16 rfl ?_
  refine p_iadd 18 rfl dX9_offBy_17 ?_
  refine p_iload_n 3 19 rfl rfl dX9_offBy_18 rfl ?_
  refine p_iadd 20 rfl dX9_offBy_19 ?_
  rw [ix b 1 (t) 1 rfl]
  refine p_ialdE 21 rfl dX9_offBy_20 (i := b + 1 + t) rfl (by show b + 1 + t < 68; omega) ((hw.2.1 t (by omega)).1 he) ?_
  refine p_ixor 22 rfl dX9_offBy_21 ?_
  rw [nx_xor]
  refine p_cS1i 25 rfl dX9_offBy_22 (c_bits (Nat.lt_trans (Nat.xor_lt_two_pow (n := 8) (hv.2.1 s (by omega)).2.1 (hv.2.1 t (by omega)).1) (by decide))) ml_X9_316 sl_X9_bits (Nat.le_of_ble_eq_true rfl) (Nat.le_of_ble_eq_true rfl) rfl ?_
  exact p_iret dX9_offBy_25 rfl ⟨rfl, rfl⟩
set_option maxRecDepth 4000 in
theorem c_doesFit (hM : OM σ O) (hw : RowM e (hA σ mRo) b O V) (hv : OkV O V) (hb : b ≤ 34) {s t : Nat} (hs : s < aS O) (ht : t < aS O) : CallOk Γ 3 0 0 mX9_doesFit [.ref M0, .int (nI b), .int (nI s), .int (nI t)] σ (rI σ (b2i (fitt O V s t))) := by
  have hO := hM.2.1
  have hs9 := hO.1
  have hc6 := hO.2.1
  have hw12 := hO.2.2.1
  have hk8 := hO.2.2.2.1
  have hdl : dif V s t ≤ 12 := popN_le _ _
  refine p_enter rfl rfl (Nat.le_of_ble_eq_true rfl) rfl ?_
  refine p_iload_n 2 1 rfl rfl dX9_doesFit_0 rfl ?_
  refine p_iload_n 3 2 rfl rfl dX9_doesFit_1 rfl ?_
  refine p_icmp_eq 41 5 rfl rfl dX9_doesFit_2 (fun h2 => ?_) (fun h2 => ?_)
  · refine p_iconst (0) 42 rfl dX9_doesFit_41 rfl ?_
    exact p_zret dX9_doesFit_42 rfl (by decide) ⟨by have hst : s = t := nI_eqI h2 (by omega) (by omega); simp [fitt, hst, b2i], rfl⟩
  · refine p_aload_n 0 6 rfl rfl dX9_doesFit_5 rfl ?_
    refine p_iload_n 1 7 rfl rfl dX9_doesFit_6 rfl ?_
    refine p_iload_n 2 8 rfl rfl dX9_doesFit_7 rfl ?_
    refine p_cV2i 11 rfl dX9_doesFit_8 (c_isBurnt hM hw hv hb hs) ml_X9_319 vl_X9_isBurnt rfl (by decide) rfl (Nat.le_of_ble_eq_true rfl) (Nat.le_of_ble_eq_true rfl) rfl ?_
    refine p_if_ne 41 14 rfl rfl dX9_doesFit_11 (fun h11 => ?_) (fun h11 => ?_)
    · refine p_iconst (0) 42 rfl dX9_doesFit_41 rfl ?_
      exact p_zret dX9_doesFit_42 rfl (by decide) ⟨by have g : (vP V s == 0) = true := (by simpa only [b2i_eq0, Decidable.not_not] using h11); have g2 : vP V s = 0 := (by simpa using g); simp [fitt, g2, b2i], rfl⟩
    · have g11 : (vP V s == 0) = false := by simpa only [b2i_eq0, Bool.not_eq_true] using h11
      refine p_aload_n 0 15 rfl rfl dX9_doesFit_14 rfl ?_
      refine p_iload_n 1 16 rfl rfl dX9_doesFit_15 rfl ?_
      refine p_iload_n 3 17 rfl rfl dX9_doesFit_16 rfl ?_
      refine p_cV2i 20 rfl dX9_doesFit_17 (c_isBurnt hM hw hv hb ht) ml_X9_319 vl_X9_isBurnt rfl (by decide) rfl (Nat.le_of_ble_eq_true rfl) (Nat.le_of_ble_eq_true rfl) rfl ?_
      refine p_if_ne 41 23 rfl rfl dX9_doesFit_20 (fun h20 => ?_) (fun h20 => ?_)
      · refine p_iconst (0) 42 rfl dX9_doesFit_41 rfl ?_
        exact p_zret dX9_doesFit_42 rfl (by decide) ⟨by have g : (vP V t == 0) = true := (by simpa only [b2i_eq0, Decidable.not_not] using h20); have g2 : vP V t = 0 := (by simpa using g); simp [fitt, g2, b2i], rfl⟩
      · have g20b : (vP V t == 0) = false := by simpa only [b2i_eq0, Bool.not_eq_true] using h20
        have g20 : vP V t ≠ 0 := by simpa using g20b
        refine p_aload_n 0 24 rfl rfl dX9_doesFit_23 rfl ?_
        refine p_iload_n 1 25 rfl rfl dX9_doesFit_24 rfl ?_
        refine p_iload_n 2 26 rfl rfl dX9_doesFit_25 rfl ?_
        refine p_iload_n 3 27 rfl rfl dX9_doesFit_26 rfl ?_
        refine p_cV3i 30 rfl dX9_doesFit_27 (c_offBy hM hw hv hb hs ht (Or.inr g20)) ml_X9_322 vl_X9_offBy rfl (by decide) rfl (Nat.le_of_ble_eq_true rfl) (Nat.le_of_ble_eq_true rfl) rfl ?_
        refine p_aload_n 0 31 rfl rfl dX9_doesFit_30 rfl ?_
        refine p_getIE 9 4 34 rfl dX9_doesFit_31 fl_X9_289 rfl rfl hM.2.2.1.2.2.2 ?_
        refine p_icmp_gt 41 37 rfl rfl dX9_doesFit_34 (fun h34 => ?_) (fun h34 => ?_)
        · refine p_iconst (0) 42 rfl dX9_doesFit_41 rfl ?_
          exact p_zret dX9_doesFit_42 rfl (by decide) ⟨by have hq : ¬ dif V s t ≤ aK O := fun q => nI_nlt q (by omega) h34; simp [fitt, hq, b2i], rfl⟩
        · refine p_iconst (1) 38 rfl dX9_doesFit_37 rfl ?_
          refine p_goto 42 rfl dX9_doesFit_38 ?_
          exact p_zret dX9_doesFit_42 rfl (by decide) ⟨by have hst : ¬ s = t := fun q => h2 (by rw [q]); have hq : dif V s t ≤ aK O := (Nat.lt_or_ge (aK O) (dif V s t)).elim (fun q => absurd (nI_lt q (by omega)) h34) id; have g1 : ¬ vP V s = 0 := (by simpa using g11); simp [fitt, hst, hq, g1, g20, b2i], rfl⟩
end C80
