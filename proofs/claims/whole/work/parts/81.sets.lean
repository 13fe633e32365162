/-! ===== the reference: sets ===== -/
theorem at0 {e : Bool} {f : Nat → Int32} {O : AO} {V : AW} (hw : RowM e f 0 O V) {s : Nat} (hs : s < aS O) : f (19 + s) = atI (vP V s) := by
  have := (hw.2.1 s hs).2.2; rwa [Nat.zero_add] at this
theorem kn0 {e : Bool} {f : Nat → Int32} {O : AO} {V : AW} (hw : RowM e f 0 O V) {c : Nat} (hc : c < aC O) : f (28 + c) = nI (vK V c) := by
  have := hw.2.2 c hc; rwa [Nat.zero_add] at this
theorem ix0 (k s : Nat) (K : Int32) (h : K = nI k) : K + nI s = nI (k + s) := by rw [h, nI_add]
theorem atI_town {p t : Nat} (hp : p < 100) (ht : t < 4) : atI p = nI t ↔ p = t + 1 := by
  by_cases h5 : p < 5
  · rw [atI_pI h5]; exact pI_nI hp (by omega)
  · rw [atI_5 (by omega)]
    exact ⟨fun q => absurd (nI_eqI q (by omega) (by omega)) (by omega), fun q => by omega⟩
theorem atI_hand {p c : Nat} (hp : p < 100) (hc : c < 90) : atI p = nI (10 + c) ↔ p = c + 5 := by
  by_cases h5 : p < 5
  · have := (atI_lt hp).mpr h5
    constructor
    · intro q; rw [q] at this; exact absurd this (nI_nlt (a := 10 + c) (b := 10) (by omega) (by omega))
    · intro q; omega
  · rw [atI_5 (by omega)]
    exact ⟨fun q => by have := nI_eqI q (by omega) (by omega); omega, fun q => by rw [q, show c + 5 + 5 = 10 + c by omega]⟩
theorem sb3 {m i j : Nat} (hm : m < 2 ^ 31) (hi : i < 32) (hj : j < 32) : (nI m >>> (nI i &&& 31) ||| nI m >>> (nI j &&& 31)) &&& 1 = b2i (m.testBit i || m.testBit j) := by
  rw [shr_nI hm hi, shr_nI hm hj, nx_or, and1, Nat.testBit_eq_decide_div_mod_eq, Nat.testBit_eq_decide_div_mod_eq, show (m / 2 ^ i ||| m / 2 ^ j) % 2 = m / 2 ^ i % 2 ||| m / 2 ^ j % 2 from Nat.or_mod_two_pow (n := 1)]
  rcases Nat.mod_two_eq_zero_or_one (m / 2 ^ i) with h | h <;> rcases Nat.mod_two_eq_zero_or_one (m / 2 ^ j) with g | g <;> rw [h, g] <;> rfl
section C81
variable {Γ : Gm} {σ : PH} {O : AO} {V : AW} {e : Bool} {b : Nat}
theorem hvP (hv : OkV O V) {s : Nat} (hs : s < 9) : vP V s < 100 := by have := (hv.2.1 s hs).2.2; omega
set_option maxRecDepth 4000 in
theorem l_clerksAt (hM : OM σ O) (hw : RowM e (hA σ mRo) b O V) (hv : OkV O V) (hb : b ≤ 34) {t : Nat} (ht : t < 20) : ∀ (n i : Nat), i + n = aC O → Ok Γ 3 0 0 mX9_clerksAt 5 [some (.ref M0), some (.int (nI b)), some (.int (nI t)), some (.int (nI (setN i (fun c => tOn O c (vD V) == t)))), some (.int (nI i))] [] σ (rI σ (nI (setN (aC O) (fun c => tOn O c (vD V) == t)))) := by
  have hO := hM.2.1
  have hs9 := hO.1
  have hc6 := hO.2.1
  have hw12 := hO.2.2.1
  have hk8 := hO.2.2.2.1
  intro n
  induction n with
  | zero =>
    intro i hi
    refine p_iload 4 7 rfl dX9_clerksAt_5 rfl ?_
    refine p_aload_n 0 8 rfl rfl dX9_clerksAt_7 rfl ?_
    refine p_getIE 9 2 11 rfl dX9_clerksAt_8 fl_X9_283 rfl rfl hM.2.2.1.2.1 ?_
    refine p_icmp_ge 42 14 rfl rfl dX9_clerksAt_11 (fun h11 => ?_) (fun h11 => absurd (nI_le (a := aC O) (b := i) (by omega) (by omega)) h11)
    refine p_iload_n 3 43 rfl rfl dX9_clerksAt_42 rfl ?_
    exact p_iret dX9_clerksAt_43 rfl ⟨by rw [show i = aC O by omega], rfl⟩
  | succ n ih =>
    intro i hi
    have hlt : i < aC O := by omega
    refine p_iload 4 7 rfl dX9_clerksAt_5 rfl ?_
    refine p_aload_n 0 8 rfl rfl dX9_clerksAt_7 rfl ?_
    refine p_getIE 9 2 11 rfl dX9_clerksAt_8 fl_X9_283 rfl rfl hM.2.2.1.2.1 ?_
    refine p_icmp_ge 42 14 rfl rfl dX9_clerksAt_11 (fun h11 => absurd h11 (nI_ge (a := i) (b := aC O) (by omega) (by omega))) (fun h11 => ?_)
    refine p_iload_n 3 15 rfl rfl dX9_clerksAt_14 rfl ?_
    refine p_aload_n 0 16 rfl rfl dX9_clerksAt_15 rfl ?_
    refine p_iload_n 1 17 rfl rfl dX9_clerksAt_16 rfl ?_
    refine p_iload 4 19 rfl dX9_clerksAt_17 rfl ?_
    refine p_cV2i 22 rfl dX9_clerksAt_19 (c_clerkIn hM hw hv hb hlt) ml_X9_313 vl_X9_clerkIn rfl (by decide) rfl (Nat.le_of_ble_eq_true rfl) (Nat.le_of_ble_eq_true rfl) rfl ?_
    refine p_iload_n 2 23 rfl rfl dX9_clerksAt_22 rfl ?_
    refine p_icmp_ne 33 26 rfl rfl dX9_clerksAt_23 (fun h23 => ?_) (fun h23 => ?_)
    · refine p_iconst (0) 34 rfl dX9_clerksAt_33 rfl ?_
      refine p_ior 35 rfl dX9_clerksAt_34 ?_
      refine p_ist_n3 36 rfl rfl dX9_clerksAt_35 (Nat.le_of_ble_eq_true rfl) rfl ?_
      refine p_inc_4 39 rfl dX9_clerksAt_36 (1) rfl (Nat.le_of_ble_eq_true rfl) rfl ?_
      refine p_goto 5 rfl dX9_clerksAt_39 ?_
      have hb : (tOn O i (vD V) == t) = false := by simp only [beq_eq_false_iff_ne]; exact fun q => h23 (by rw [q])
      rw [or0, nI_1, ← set_f (p := fun c => tOn O c (vD V) == t) (by rw [hb]; decide)]
      exact ih (i + 1) (by omega)
    · refine p_iconst (1) 27 rfl dX9_clerksAt_26 rfl ?_
      refine p_iload 4 29 rfl dX9_clerksAt_27 rfl ?_
      refine p_ishl 30 rfl dX9_clerksAt_29 ?_
      refine p_goto 34 rfl dX9_clerksAt_30 ?_
      refine p_ior 35 rfl dX9_clerksAt_34 ?_
      refine p_ist_n3 36 rfl rfl dX9_clerksAt_35 (Nat.le_of_ble_eq_true rfl) rfl ?_
      refine p_inc_4 39 rfl dX9_clerksAt_36 (1) rfl (Nat.le_of_ble_eq_true rfl) rfl ?_
      refine p_goto 5 rfl dX9_clerksAt_39 ?_
      have hb : (tOn O i (vD V) == t) = true := by simp only [beq_iff_eq]; exact nI_eqI h23 (by have := tOn_lt hO (d := vD V) hlt; omega) (by omega)
      rw [set_t (p := fun c => tOn O c (vD V) == t) hb (by omega), nI_1]
      exact ih (i + 1) (by omega)
set_option maxRecDepth 4000 in
theorem c_clerksAt (hM : OM σ O) (hw : RowM e (hA σ mRo) b O V) (hv : OkV O V) (hb : b ≤ 34) {t : Nat} (ht : t < 20) : CallOk Γ 3 0 0 mX9_clerksAt [.ref M0, .int (nI b), .int (nI t)] σ (rI σ (nI (setN (aC O) (fun c => tOn O c (vD V) == t)))) := by
  have hO := hM.2.1
  have hs9 := hO.1
  have hc6 := hO.2.1
  have hw12 := hO.2.2.1
  have hk8 := hO.2.2.2.1
  refine p_enter rfl rfl (Nat.le_of_ble_eq_true rfl) rfl ?_
  refine p_iconst (0) 1 rfl dX9_clerksAt_0 rfl ?_
  refine p_ist_n3 2 rfl rfl dX9_clerksAt_1 (Nat.le_of_ble_eq_true rfl) rfl ?_
  refine p_iconst (0) 3 rfl dX9_clerksAt_2 rfl ?_
  refine p_ist_4 5 rfl dX9_clerksAt_3 (Nat.le_of_ble_eq_true rfl) rfl ?_
  exact l_clerksAt hM hw hv hb ht (aC O) 0 (by omega)
set_option maxRecDepth 4000 in
theorem l_mSheetsAt (hM : OM σ O) (hw : RowM e (hA σ mRo) b O V) (hv : OkV O V) (hb : b ≤ 34) {t : Nat} (ht : t < 20) : ∀ (n i : Nat), i + n = aS O → Ok Γ 4 0 0 mX9_sheetsAt 5 [some (.ref M0), some (.int (nI b)), some (.int (nI t)), some (.int (nI (setN i (fun s => tOf O V s 0 == t + 1)))), some (.int (nI i))] [] σ (rI σ (nI (setN (aS O) (fun s => tOf O V s 0 == t + 1)))) := by
  have hO := hM.2.1
  have hs9 := hO.1
  have hc6 := hO.2.1
  have hw12 := hO.2.2.1
  have hk8 := hO.2.2.2.1
  intro n
  induction n with
  | zero =>
    intro i hi
    refine p_iload 4 7 rfl dX9_sheetsAt_5 rfl ?_
    refine p_aload_n 0 8 rfl rfl dX9_sheetsAt_7 rfl ?_
    refine p_getIE 9 1 11 rfl dX9_sheetsAt_8 fl_X9_280 rfl rfl hM.2.2.1.1 ?_
    refine p_icmp_ge 42 14 rfl rfl dX9_sheetsAt_11 (fun h11 => ?_) (fun h11 => absurd (nI_le (a := aS O) (b := i) (by omega) (by omega)) h11)
    refine p_iload_n 3 43 rfl rfl dX9_sheetsAt_42 rfl ?_
    exact p_iret dX9_sheetsAt_43 rfl ⟨by rw [show i = aS O by omega], rfl⟩
  | succ n ih =>
    intro i hi
    have hlt : i < aS O := by omega
    refine p_iload 4 7 rfl dX9_sheetsAt_5 rfl ?_
    refine p_aload_n 0 8 rfl rfl dX9_sheetsAt_7 rfl ?_
    refine p_getIE 9 1 11 rfl dX9_sheetsAt_8 fl_X9_280 rfl rfl hM.2.2.1.1 ?_
    refine p_icmp_ge 42 14 rfl rfl dX9_sheetsAt_11 (fun h11 => absurd h11 (nI_ge (a := i) (b := aS O) (by omega) (by omega))) (fun h11 => ?_)
    refine p_iload_n 3 15 rfl rfl dX9_sheetsAt_14 rfl ?_
    refine p_aload_n 0 16 rfl rfl dX9_sheetsAt_15 rfl ?_
    refine p_iload_n 1 17 rfl rfl dX9_sheetsAt_16 rfl ?_
    refine p_iload 4 19 rfl dX9_sheetsAt_17 rfl ?_
    refine p_cV2i 22 rfl dX9_sheetsAt_19 (c_sheetIn hM hw hv hb hlt) ml_X9_325 vl_X9_sheetIn rfl (by decide) rfl (Nat.le_of_ble_eq_true rfl) (Nat.le_of_ble_eq_true rfl) rfl ?_
    refine p_iload_n 2 23 rfl rfl dX9_sheetsAt_22 rfl ?_
    refine p_icmp_ne 33 26 rfl rfl dX9_sheetsAt_23 (fun h23 => ?_) (fun h23 => ?_)
    · refine p_iconst (0) 34 rfl dX9_sheetsAt_33 rfl ?_
      refine p_ior 35 rfl dX9_sheetsAt_34 ?_
      refine p_ist_n3 36 rfl rfl dX9_sheetsAt_35 (Nat.le_of_ble_eq_true rfl) rfl ?_
      refine p_inc_4 39 rfl dX9_sheetsAt_36 (1) rfl (Nat.le_of_ble_eq_true rfl) rfl ?_
      refine p_goto 5 rfl dX9_sheetsAt_39 ?_
      have hT := tOf_lt hO hv (k := 0) hlt
      have hb : (tOf O V i 0 == t + 1) = false := by simp only [beq_eq_false_iff_ne]; exact fun q => h23 ((pI_nI (by omega) (by omega)).mpr q)
      rw [or0, nI_1, ← set_f (p := fun s => tOf O V s 0 == t + 1) (by rw [hb]; decide)]
      exact ih (i + 1) (by omega)
    · refine p_iconst (1) 27 rfl dX9_sheetsAt_26 rfl ?_
      refine p_iload 4 29 rfl dX9_sheetsAt_27 rfl ?_
      refine p_ishl 30 rfl dX9_sheetsAt_29 ?_
      refine p_goto 34 rfl dX9_sheetsAt_30 ?_
      refine p_ior 35 rfl dX9_sheetsAt_34 ?_
      refine p_ist_n3 36 rfl rfl dX9_sheetsAt_35 (Nat.le_of_ble_eq_true rfl) rfl ?_
      refine p_inc_4 39 rfl dX9_sheetsAt_36 (1) rfl (Nat.le_of_ble_eq_true rfl) rfl ?_
      refine p_goto 5 rfl dX9_sheetsAt_39 ?_
      have hT := tOf_lt hO hv (k := 0) hlt
      have hb : (tOf O V i 0 == t + 1) = true := by simp only [beq_iff_eq]; exact (pI_nI (by omega) (by omega)).mp h23
      rw [set_t (p := fun s => tOf O V s 0 == t + 1) hb (by omega), nI_1]
      exact ih (i + 1) (by omega)
set_option maxRecDepth 4000 in
theorem c_mSheetsAt (hM : OM σ O) (hw : RowM e (hA σ mRo) b O V) (hv : OkV O V) (hb : b ≤ 34) {t : Nat} (ht : t < 20) : CallOk Γ 4 0 0 mX9_sheetsAt [.ref M0, .int (nI b), .int (nI t)] σ (rI σ (nI (setN (aS O) (fun s => tOf O V s 0 == t + 1)))) := by
  have hO := hM.2.1
  have hs9 := hO.1
  have hc6 := hO.2.1
  have hw12 := hO.2.2.1
  have hk8 := hO.2.2.2.1
  refine p_enter rfl rfl (Nat.le_of_ble_eq_true rfl) rfl ?_
  refine p_iconst (0) 1 rfl dX9_sheetsAt_0 rfl ?_
  refine p_ist_n3 2 rfl rfl dX9_sheetsAt_1 (Nat.le_of_ble_eq_true rfl) rfl ?_
  refine p_iconst (0) 3 rfl dX9_sheetsAt_2 rfl ?_
  refine p_ist_4 5 rfl dX9_sheetsAt_3 (Nat.le_of_ble_eq_true rfl) rfl ?_
  exact l_mSheetsAt hM hw hv hb ht (aS O) 0 (by omega)
set_option maxRecDepth 4000 in
theorem l_burntOnes (hM : OM σ O) (hw : RowM e (hA σ mRo) 0 O V) (hv : OkV O V) : ∀ (n i : Nat), i + n = aS O → Ok Γ 2 0 0 mX9_burntOnes 4 [some (.ref M0), some (.int (nI (setN i (fun s => vP V s == 0)))), some (.int (nI i))] [] σ (rI σ (nI (setN (aS O) (fun s => vP V s == 0)))) := by
  have hO := hM.2.1
  have hs9 := hO.1
  have hc6 := hO.2.1
  have hw12 := hO.2.2.1
  have hk8 := hO.2.2.2.1
  intro n
  induction n with
  | zero =>
    intro i hi
    refine p_iload_n 2 5 rfl rfl dX9_burntOnes_4 rfl ?_
    refine p_aload_n 0 6 rfl rfl dX9_burntOnes_5 rfl ?_
    refine p_getIE 9 1 9 rfl dX9_burntOnes_6 fl_X9_280 rfl rfl hM.2.2.1.1 ?_
    refine p_icmp_ge 37 12 rfl rfl dX9_burntOnes_9 (fun h9 => ?_) (fun h9 => absurd (nI_le (a := aS O) (b := i) (by omega) (by omega)) h9)
    refine p_iload_n 1 38 rfl rfl dX9_burntOnes_37 rfl ?_
    exact p_iret dX9_burntOnes_38 rfl ⟨by rw [show i = aS O by omega], rfl⟩
  | succ n ih =>
    intro i hi
    have hlt : i < aS O := by omega
    refine p_iload_n 2 5 rfl rfl dX9_burntOnes_4 rfl ?_
    refine p_aload_n 0 6 rfl rfl dX9_burntOnes_5 rfl ?_
    refine p_getIE 9 1 9 rfl dX9_burntOnes_6 fl_X9_280 rfl rfl hM.2.2.1.1 ?_
    refine p_icmp_ge 37 12 rfl rfl dX9_burntOnes_9 (fun h9 => absurd h9 (nI_ge (a := i) (b := aS O) (by omega) (by omega))) (fun h9 => ?_)
    refine p_iload_n 1 13 rfl rfl dX9_burntOnes_12 rfl ?_
    refine p_aload_n 0 14 rfl rfl dX9_burntOnes_13 rfl ?_
    refine p_iconst (0) 15 rfl dX9_burntOnes_14 rfl ?_
    refine p_iload_n 2 16 rfl rfl dX9_burntOnes_15 rfl ?_
    refine p_cV2i 19 rfl dX9_burntOnes_16 (c_isBurnt hM hw hv (by decide) hlt) ml_X9_319 vl_X9_isBurnt rfl (by decide) rfl (Nat.le_of_ble_eq_true rfl) (Nat.le_of_ble_eq_true rfl) rfl ?_
    refine p_if_eq 28 22 rfl rfl dX9_burntOnes_19 (fun h19 => ?_) (fun h19 => ?_)
    · refine p_iconst (0) 29 rfl dX9_burntOnes_28 rfl ?_
      refine p_ior 30 rfl dX9_burntOnes_29 ?_
      refine p_ist_n1 31 rfl rfl dX9_burntOnes_30 (Nat.le_of_ble_eq_true rfl) rfl ?_
      refine p_inc_2 34 rfl dX9_burntOnes_31 (1) rfl (Nat.le_of_ble_eq_true rfl) rfl ?_
      refine p_goto 4 rfl dX9_burntOnes_34 ?_
      have hb : (vP V i == 0) = false := by simpa only [b2i_eq0, b2i_1, Bool.not_eq_true, Decidable.not_not] using h19
      rw [or0, nI_1, ← set_f (p := fun s => vP V s == 0) (by rw [hb]; decide)]
      exact ih (i + 1) (by omega)
    · refine p_iconst (1) 23 rfl dX9_burntOnes_22 rfl ?_
      refine p_iload_n 2 24 rfl rfl dX9_burntOnes_23 rfl ?_
      refine p_ishl 25 rfl dX9_burntOnes_24 ?_
      refine p_goto 29 rfl dX9_burntOnes_25 ?_
      refine p_ior 30 rfl dX9_burntOnes_29 ?_
      refine p_ist_n1 31 rfl rfl dX9_burntOnes_30 (Nat.le_of_ble_eq_true rfl) rfl ?_
      refine p_inc_2 34 rfl dX9_burntOnes_31 (1) rfl (Nat.le_of_ble_eq_true rfl) rfl ?_
      refine p_goto 4 rfl dX9_burntOnes_34 ?_
      have hb : (vP V i == 0) = true := by simpa only [b2i_eq0, b2i_1, Decidable.not_not, Bool.not_eq_true, Bool.not_eq_false] using h19
      rw [set_t (p := fun s => vP V s == 0) hb (by omega), nI_1]
      exact ih (i + 1) (by omega)
set_option maxRecDepth 4000 in
theorem c_burntOnes (hM : OM σ O) (hw : RowM e (hA σ mRo) 0 O V) (hv : OkV O V) : CallOk Γ 2 0 0 mX9_burntOnes [.ref M0] σ (rI σ (nI (setN (aS O) (fun s => vP V s == 0)))) := by
  have hO := hM.2.1
  have hs9 := hO.1
  have hc6 := hO.2.1
  have hw12 := hO.2.2.1
  have hk8 := hO.2.2.2.1
  refine p_enter rfl rfl (Nat.le_of_ble_eq_true rfl) rfl ?_
  refine p_iconst (0) 1 rfl dX9_burntOnes_0 rfl ?_
  refine p_ist_n1 2 rfl rfl dX9_burntOnes_1 (Nat.le_of_ble_eq_true rfl) rfl ?_
  refine p_iconst (0) 3 rfl dX9_burntOnes_2 rfl ?_
  refine p_ist_n2 4 rfl rfl dX9_burntOnes_3 (Nat.le_of_ble_eq_true rfl) rfl ?_
  exact l_burntOnes hM hw hv (aS O) 0 (by omega)
set_option maxRecDepth 4000 in
theorem l_borneOnes (hM : OM σ O) (hw : RowM e (hA σ mRo) b O V) (hv : OkV O V) (hb : b ≤ 34) : ∀ (n i : Nat), i + n = aS O → Ok Γ 1 0 0 mX9_borneOnes 4 [some (.ref M0), some (.int (nI b)), some (.int (nI (setN i (fun s => decide (5 ≤ vP V s))))), some (.int (nI i))] [] σ (rI σ (nI (setN (aS O) (fun s => decide (5 ≤ vP V s))))) := by
  have hO := hM.2.1
  have hs9 := hO.1
  have hc6 := hO.2.1
  have hw12 := hO.2.2.1
  have hk8 := hO.2.2.2.1
  intro n
  induction n with
  | zero =>
    intro i hi
    refine p_iload_n 3 5 rfl rfl dX9_borneOnes_4 rfl ?_
    refine p_aload_n 0 6 rfl rfl dX9_borneOnes_5 rfl ?_
    refine p_getIE 9 1 9 rfl dX9_borneOnes_6 fl_X9_280 rfl rfl hM.2.2.1.1 ?_
    refine p_icmp_ge 44 12 rfl rfl dX9_borneOnes_9 (fun h9 => ?_) (fun h9 => absurd (nI_le (a := aS O) (b := i) (by omega) (by omega)) h9)
    refine p_iload_n 2 45 rfl rfl dX9_borneOnes_44 rfl ?_
    exact p_iret dX9_borneOnes_45 rfl ⟨by rw [show i = aS O by omega], rfl⟩
  | succ n ih =>
    intro i hi
    have hlt : i < aS O := by omega
    refine p_iload_n 3 5 rfl rfl dX9_borneOnes_4 rfl ?_
    refine p_aload_n 0 6 rfl rfl dX9_borneOnes_5 rfl ?_
    refine p_getIE 9 1 9 rfl dX9_borneOnes_6 fl_X9_280 rfl rfl hM.2.2.1.1 ?_
    refine p_icmp_ge 44 12 rfl rfl dX9_borneOnes_9 (fun h9 => absurd h9 (nI_ge (a := i) (b := aS O) (by omega) (by omega))) (fun h9 => ?_)
    refine p_iload_n 2 13 rfl rfl dX9_borneOnes_12 rfl ?_
    refine p_aload_n 0 14 rfl rfl dX9_borneOnes_13 rfl ?_
    refine p_getR 9 44 17 rfl dX9_borneOnes_14 fl_X9_66 rfl rfl (show hR _ M0 44 = mRo from hM.1 44) (by decide) ?_
    refine p_iload_n 1 18 rfl rfl dX9_borneOnes_17 rfl ?_
    refine p_bipush (19) 20 rfl dX9_borneOnes_18 rfl ?_
    refine p_iadd 21 rfl dX9_borneOnes_20 ?_
    refine p_iload_n 3 22 rfl rfl dX9_borneOnes_21 rfl ?_
    refine p_iadd 23 rfl dX9_borneOnes_22 ?_
    rw [ix b 19 (i) 19 rfl]
    refine p_ialdE 24 rfl dX9_borneOnes_23 (i := b + 19 + i) rfl (by show b + 19 + i < 68; omega) (hw.2.1 i hlt).2.2 ?_
    refine p_bipush (10) 26 rfl dX9_borneOnes_24 rfl ?_
    refine p_icmp_lt 35 29 rfl rfl dX9_borneOnes_26 (fun h26 => ?_) (fun h26 => ?_)
    · refine p_iconst (0) 36 rfl dX9_borneOnes_35 rfl ?_
      refine p_ior 37 rfl dX9_borneOnes_36 ?_
      refine p_ist_n2 38 rfl rfl dX9_borneOnes_37 (Nat.le_of_ble_eq_true rfl) rfl ?_
      refine p_inc_3 41 rfl dX9_borneOnes_38 (1) rfl (Nat.le_of_ble_eq_true rfl) rfl ?_
      refine p_goto 4 rfl dX9_borneOnes_41 ?_
      have hp := hvP hv (s := i) (by omega)
      have hb : decide (5 ≤ vP V i) = false := decide_eq_false (fun q => by have := (atI_lt hp).mp h26; omega)
      rw [or0, nI_1, ← set_f (p := fun s => decide (5 ≤ vP V s)) (by rw [hb]; decide)]
      exact ih (i + 1) (by omega)
    · refine p_iconst (1) 30 rfl dX9_borneOnes_29 rfl ?_
      refine p_iload_n 3 31 rfl rfl dX9_borneOnes_30 rfl ?_
      refine p_ishl 32 rfl dX9_borneOnes_31 ?_
      refine p_goto 36 rfl dX9_borneOnes_32 ?_
      refine p_ior 37 rfl dX9_borneOnes_36 ?_
      refine p_ist_n2 38 rfl rfl dX9_borneOnes_37 (Nat.le_of_ble_eq_true rfl) rfl ?_
      refine p_inc_3 41 rfl dX9_borneOnes_38 (1) rfl (Nat.le_of_ble_eq_true rfl) rfl ?_
      refine p_goto 4 rfl dX9_borneOnes_41 ?_
      have hp := hvP hv (s := i) (by omega)
      have hb : decide (5 ≤ vP V i) = true := decide_eq_true ((Nat.lt_or_ge (vP V i) 5).elim (fun q => absurd ((atI_lt hp).mpr q) h26) id)
      rw [set_t (p := fun s => decide (5 ≤ vP V s)) hb (by omega), nI_1]
      exact ih (i + 1) (by omega)
set_option maxRecDepth 4000 in
theorem c_borneOnes (hM : OM σ O) (hw : RowM e (hA σ mRo) b O V) (hv : OkV O V) (hb : b ≤ 34) : CallOk Γ 1 0 0 mX9_borneOnes [.ref M0, .int (nI b)] σ (rI σ (nI (setN (aS O) (fun s => decide (5 ≤ vP V s))))) := by
  have hO := hM.2.1
  have hs9 := hO.1
  have hc6 := hO.2.1
  have hw12 := hO.2.2.1
  have hk8 := hO.2.2.2.1
  refine p_enter rfl rfl (Nat.le_of_ble_eq_true rfl) rfl ?_
  refine p_iconst (0) 1 rfl dX9_borneOnes_0 rfl ?_
  refine p_ist_n2 2 rfl rfl dX9_borneOnes_1 (Nat.le_of_ble_eq_true rfl) rfl ?_
  refine p_iconst (0) 3 rfl dX9_borneOnes_2 rfl ?_
  refine p_ist_n3 4 rfl rfl dX9_borneOnes_3 (Nat.le_of_ble_eq_true rfl) rfl ?_
  exact l_borneOnes hM hw hv hb (aS O) 0 (by omega)
set_option maxRecDepth 4000 in
theorem l_mFitting (hM : OM σ O) (hw : RowM e (hA σ mRo) 0 O V) (hv : OkV O V) {s : Nat} (hs : s < aS O) : ∀ (n i : Nat), i + n = aS O → Ok Γ 4 0 0 mX9_fitting 4 [some (.ref M0), some (.int (nI s)), some (.int (nI (setN i (fun o => fitt O V s o)))), some (.int (nI i))] [] σ (rI σ (nI (setN (aS O) (fun o => fitt O V s o)))) := by
  have hO := hM.2.1
  have hs9 := hO.1
  have hc6 := hO.2.1
  have hw12 := hO.2.2.1
  have hk8 := hO.2.2.2.1
  intro n
  induction n with
  | zero =>
    intro i hi
    refine p_iload_n 3 5 rfl rfl dX9_fitting_4 rfl ?_
    refine p_aload_n 0 6 rfl rfl dX9_fitting_5 rfl ?_
    refine p_getIE 9 1 9 rfl dX9_fitting_6 fl_X9_280 rfl rfl hM.2.2.1.1 ?_
    refine p_icmp_ge 38 12 rfl rfl dX9_fitting_9 (fun h9 => ?_) (fun h9 => absurd (nI_le (a := aS O) (b := i) (by omega) (by omega)) h9)
    refine p_iload_n 2 39 rfl rfl dX9_fitting_38 rfl ?_
    exact p_iret dX9_fitting_39 rfl ⟨by rw [show i = aS O by omega], rfl⟩
  | succ n ih =>
    intro i hi
    have hlt : i < aS O := by omega
    refine p_iload_n 3 5 rfl rfl dX9_fitting_4 rfl ?_
    refine p_aload_n 0 6 rfl rfl dX9_fitting_5 rfl ?_
    refine p_getIE 9 1 9 rfl dX9_fitting_6 fl_X9_280 rfl rfl hM.2.2.1.1 ?_
    refine p_icmp_ge 38 12 rfl rfl dX9_fitting_9 (fun h9 => absurd h9 (nI_ge (a := i) (b := aS O) (by omega) (by omega))) (fun h9 => ?_)
    refine p_iload_n 2 13 rfl rfl dX9_fitting_12 rfl ?_
    refine p_aload_n 0 14 rfl rfl dX9_fitting_13 rfl ?_
    refine p_iconst (0) 15 rfl dX9_fitting_14 rfl ?_
    refine p_iload_n 1 16 rfl rfl dX9_fitting_15 rfl ?_
    refine p_iload_n 3 17 rfl rfl dX9_fitting_16 rfl ?_
    refine p_cV3i 20 rfl dX9_fitting_17 (c_doesFit hM hw hv (by decide) hs hlt) ml_X9_331 vl_X9_doesFit rfl (by decide) rfl (Nat.le_of_ble_eq_true rfl) (Nat.le_of_ble_eq_true rfl) rfl ?_
    refine p_if_eq 29 23 rfl rfl dX9_fitting_20 (fun h20 => ?_) (fun h20 => ?_)
    · refine p_iconst (0) 30 rfl dX9_fitting_29 rfl ?_
      refine p_ior 31 rfl dX9_fitting_30 ?_
      refine p_ist_n2 32 rfl rfl dX9_fitting_31 (Nat.le_of_ble_eq_true rfl) rfl ?_
      refine p_inc_3 35 rfl dX9_fitting_32 (1) rfl (Nat.le_of_ble_eq_true rfl) rfl ?_
      refine p_goto 4 rfl dX9_fitting_35 ?_
      have hb : fitt O V s i = false := by simpa only [b2i_eq0, b2i_1, Bool.not_eq_true, Decidable.not_not] using h20
      rw [or0, nI_1, ← set_f (p := fun o => fitt O V s o) (by rw [hb]; decide)]
      exact ih (i + 1) (by omega)
    · refine p_iconst (1) 24 rfl dX9_fitting_23 rfl ?_
      refine p_iload_n 3 25 rfl rfl dX9_fitting_24 rfl ?_
      refine p_ishl 26 rfl dX9_fitting_25 ?_
      refine p_goto 30 rfl dX9_fitting_26 ?_
      refine p_ior 31 rfl dX9_fitting_30 ?_
      refine p_ist_n2 32 rfl rfl dX9_fitting_31 (Nat.le_of_ble_eq_true rfl) rfl ?_
      refine p_inc_3 35 rfl dX9_fitting_32 (1) rfl (Nat.le_of_ble_eq_true rfl) rfl ?_
      refine p_goto 4 rfl dX9_fitting_35 ?_
      have hb : fitt O V s i = true := by simpa only [b2i_eq0, b2i_1, Decidable.not_not, Bool.not_eq_true, Bool.not_eq_false] using h20
      rw [set_t (p := fun o => fitt O V s o) hb (by omega), nI_1]
      exact ih (i + 1) (by omega)
set_option maxRecDepth 4000 in
theorem c_mFitting (hM : OM σ O) (hw : RowM e (hA σ mRo) 0 O V) (hv : OkV O V) {s : Nat} (hs : s < aS O) : CallOk Γ 4 0 0 mX9_fitting [.ref M0, .int (nI s)] σ (rI σ (nI (setN (aS O) (fun o => fitt O V s o)))) := by
  have hO := hM.2.1
  have hs9 := hO.1
  have hc6 := hO.2.1
  have hw12 := hO.2.2.1
  have hk8 := hO.2.2.2.1
  refine p_enter rfl rfl (Nat.le_of_ble_eq_true rfl) rfl ?_
  refine p_iconst (0) 1 rfl dX9_fitting_0 rfl ?_
  refine p_ist_n2 2 rfl rfl dX9_fitting_1 (Nat.le_of_ble_eq_true rfl) rfl ?_
  refine p_iconst (0) 3 rfl dX9_fitting_2 rfl ?_
  refine p_ist_n3 4 rfl rfl dX9_fitting_3 (Nat.le_of_ble_eq_true rfl) rfl ?_
  exact l_mFitting hM hw hv hs (aS O) 0 (by omega)
set_option maxRecDepth 4000 in
theorem l_mArchive (hM : OM σ O) (hw : RowM e (hA σ mRo) 0 O V) (hv : OkV O V) {t : Nat} (ht : t < 4) : ∀ (n i : Nat), i + n = aS O → Ok Γ 1 0 0 mX9_archive 4 [some (.ref M0), some (.int (nI t)), some (.int (nI (setN i (fun s => vP V s == t + 1)))), some (.int (nI i))] [] σ (rI σ (nI (setN (aS O) (fun s => vP V s == t + 1)))) := by
  have hO := hM.2.1
  have hs9 := hO.1
  have hc6 := hO.2.1
  have hw12 := hO.2.2.1
  have hk8 := hO.2.2.2.1
  intro n
  induction n with
  | zero =>
    intro i hi
    refine p_iload_n 3 5 rfl rfl dX9_archive_4 rfl ?_
    refine p_aload_n 0 6 rfl rfl dX9_archive_5 rfl ?_
    refine p_getIE 9 1 9 rfl dX9_archive_6 fl_X9_280 rfl rfl hM.2.2.1.1 ?_
    refine p_icmp_ge 41 12 rfl rfl dX9_archive_9 (fun h9 => ?_) (fun h9 => absurd (nI_le (a := aS O) (b := i) (by omega) (by omega)) h9)
    refine p_iload_n 2 42 rfl rfl dX9_archive_41 rfl ?_
    exact p_iret dX9_archive_42 rfl ⟨by rw [show i = aS O by omega], rfl⟩
  | succ n ih =>
    intro i hi
    have hlt : i < aS O := by omega
    refine p_iload_n 3 5 rfl rfl dX9_archive_4 rfl ?_
    refine p_aload_n 0 6 rfl rfl dX9_archive_5 rfl ?_
    refine p_getIE 9 1 9 rfl dX9_archive_6 fl_X9_280 rfl rfl hM.2.2.1.1 ?_
    refine p_icmp_ge 41 12 rfl rfl dX9_archive_9 (fun h9 => absurd h9 (nI_ge (a := i) (b := aS O) (by omega) (by omega))) (fun h9 => ?_)
    refine p_iload_n 2 13 rfl rfl dX9_archive_12 rfl ?_
    refine p_aload_n 0 14 rfl rfl dX9_archive_13 rfl ?_
    refine p_getR 9 44 17 rfl dX9_archive_14 fl_X9_66 rfl rfl (show hR _ M0 44 = mRo from hM.1 44) (by decide) ?_
    refine p_bipush (19) 19 rfl dX9_archive_17 rfl ?_
    refine p_iload_n 3 20 rfl rfl dX9_archive_19 rfl ?_
    refine p_iadd 21 rfl dX9_archive_20 ?_
    rw [ix0 19 i 19 rfl]
    refine p_ialdE 22 rfl dX9_archive_21 (i := 19 + i) rfl (by show 19 + i < 68; omega) (at0 hw hlt) ?_
    refine p_iload_n 1 23 rfl rfl dX9_archive_22 rfl ?_
    refine p_icmp_ne 32 26 rfl rfl dX9_archive_23 (fun h23 => ?_) (fun h23 => ?_)
    · refine p_iconst (0) 33 rfl dX9_archive_32 rfl ?_
      refine p_ior 34 rfl dX9_archive_33 ?_
      refine p_ist_n2 35 rfl rfl dX9_archive_34 (Nat.le_of_ble_eq_true rfl) rfl ?_
      refine p_inc_3 38 rfl dX9_archive_35 (1) rfl (Nat.le_of_ble_eq_true rfl) rfl ?_
      refine p_goto 4 rfl dX9_archive_38 ?_
      have hp := hvP hv (s := i) (by omega)
      have hb : (vP V i == t + 1) = false := by simp only [beq_eq_false_iff_ne]; exact fun q => h23 ((atI_town hp ht).mpr q)
      rw [or0, nI_1, ← set_f (p := fun s => vP V s == t + 1) (by rw [hb]; decide)]
      exact ih (i + 1) (by omega)
    · refine p_iconst (1) 27 rfl dX9_archive_26 rfl ?_
      refine p_iload_n 3 28 rfl rfl dX9_archive_27 rfl ?_
      refine p_ishl 29 rfl dX9_archive_28 ?_
      refine p_goto 33 rfl dX9_archive_29 ?_
      refine p_ior 34 rfl dX9_archive_33 ?_
      refine p_ist_n2 35 rfl rfl dX9_archive_34 (Nat.le_of_ble_eq_true rfl) rfl ?_
      refine p_inc_3 38 rfl dX9_archive_35 (1) rfl (Nat.le_of_ble_eq_true rfl) rfl ?_
      refine p_goto 4 rfl dX9_archive_38 ?_
      have hp := hvP hv (s := i) (by omega)
      have hb : (vP V i == t + 1) = true := by simp only [beq_iff_eq]; exact (atI_town hp ht).mp h23
      rw [set_t (p := fun s => vP V s == t + 1) hb (by omega), nI_1]
      exact ih (i + 1) (by omega)
set_option maxRecDepth 4000 in
theorem c_mArchive (hM : OM σ O) (hw : RowM e (hA σ mRo) 0 O V) (hv : OkV O V) {t : Nat} (ht : t < 4) : CallOk Γ 1 0 0 mX9_archive [.ref M0, .int (nI t)] σ (rI σ (nI (setN (aS O) (fun s => vP V s == t + 1)))) := by
  have hO := hM.2.1
  have hs9 := hO.1
  have hc6 := hO.2.1
  have hw12 := hO.2.2.1
  have hk8 := hO.2.2.2.1
  refine p_enter rfl rfl (Nat.le_of_ble_eq_true rfl) rfl ?_
  refine p_iconst (0) 1 rfl dX9_archive_0 rfl ?_
  refine p_ist_n2 2 rfl rfl dX9_archive_1 (Nat.le_of_ble_eq_true rfl) rfl ?_
  refine p_iconst (0) 3 rfl dX9_archive_2 rfl ?_
  refine p_ist_n3 4 rfl rfl dX9_archive_3 (Nat.le_of_ble_eq_true rfl) rfl ?_
  exact l_mArchive hM hw hv ht (aS O) 0 (by omega)
set_option maxRecDepth 4000 in
theorem l_bears (hM : OM σ O) (hw : RowM e (hA σ mRo) 0 O V) (hv : OkV O V) {c : Nat} (hc : c < 90) : ∀ (n i : Nat), i + n = aS O → Ok Γ 1 0 0 mX9_bears 4 [some (.ref M0), some (.int (nI c)), some (.int (nI (setN i (fun s => vP V s == c + 5)))), some (.int (nI i))] [] σ (rI σ (nI (setN (aS O) (fun s => vP V s == c + 5)))) := by
  have hO := hM.2.1
  have hs9 := hO.1
  have hc6 := hO.2.1
  have hw12 := hO.2.2.1
  have hk8 := hO.2.2.2.1
  intro n
  induction n with
  | zero =>
    intro i hi
    refine p_iload_n 3 5 rfl rfl dX9_bears_4 rfl ?_
    refine p_aload_n 0 6 rfl rfl dX9_bears_5 rfl ?_
    refine p_getIE 9 1 9 rfl dX9_bears_6 fl_X9_280 rfl rfl hM.2.2.1.1 ?_
    refine p_icmp_ge 44 12 rfl rfl dX9_bears_9 (fun h9 => ?_) (fun h9 => absurd (nI_le (a := aS O) (b := i) (by omega) (by omega)) h9)
    refine p_iload_n 2 45 rfl rfl dX9_bears_44 rfl ?_
    exact p_iret dX9_bears_45 rfl ⟨by rw [show i = aS O by omega], rfl⟩
  | succ n ih =>
    intro i hi
    have hlt : i < aS O := by omega
    refine p_iload_n 3 5 rfl rfl dX9_bears_4 rfl ?_
    refine p_aload_n 0 6 rfl rfl dX9_bears_5 rfl ?_
    refine p_getIE 9 1 9 rfl dX9_bears_6 fl_X9_280 rfl rfl hM.2.2.1.1 ?_
    refine p_icmp_ge 44 12 rfl rfl dX9_bears_9 (fun h9 => absurd h9 (nI_ge (a := i) (b := aS O) (by omega) (by omega))) (fun h9 => ?_)
    refine p_iload_n 2 13 rfl rfl dX9_bears_12 rfl ?_
    refine p_aload_n 0 14 rfl rfl dX9_bears_13 rfl ?_
    refine p_getR 9 44 17 rfl dX9_bears_14 fl_X9_66 rfl rfl (show hR _ M0 44 = mRo from hM.1 44) (by decide) ?_
    refine p_bipush (19) 19 rfl dX9_bears_17 rfl ?_
    refine p_iload_n 3 20 rfl rfl dX9_bears_19 rfl ?_
    refine p_iadd 21 rfl dX9_bears_20 ?_
    rw [ix0 19 i 19 rfl]
    refine p_ialdE 22 rfl dX9_bears_21 (i := 19 + i) rfl (by show 19 + i < 68; omega) (at0 hw hlt) ?_
    refine p_bipush (10) 24 rfl dX9_bears_22 rfl ?_
    refine p_iload_n 1 25 rfl rfl dX9_bears_24 rfl ?_
    refine p_iadd 26 rfl dX9_bears_25 ?_
    rw [ix0 10 c 10 rfl]
    refine p_icmp_ne 35 29 rfl rfl dX9_bears_26 (fun h26 => ?_) (fun h26 => ?_)
    · refine p_iconst (0) 36 rfl dX9_bears_35 rfl ?_
      refine p_ior 37 rfl dX9_bears_36 ?_
      refine p_ist_n2 38 rfl rfl dX9_bears_37 (Nat.le_of_ble_eq_true rfl) rfl ?_
      refine p_inc_3 41 rfl dX9_bears_38 (1) rfl (Nat.le_of_ble_eq_true rfl) rfl ?_
      refine p_goto 4 rfl dX9_bears_41 ?_
      have hp := hvP hv (s := i) (by omega)
      have hb : (vP V i == c + 5) = false := by simp only [beq_eq_false_iff_ne]; exact fun q => h26 ((atI_hand hp hc).mpr q)
      rw [or0, nI_1, ← set_f (p := fun s => vP V s == c + 5) (by rw [hb]; decide)]
      exact ih (i + 1) (by omega)
    · refine p_iconst (1) 30 rfl dX9_bears_29 rfl ?_
      refine p_iload_n 3 31 rfl rfl dX9_bears_30 rfl ?_
      refine p_ishl 32 rfl dX9_bears_31 ?_
      refine p_goto 36 rfl dX9_bears_32 ?_
      refine p_ior 37 rfl dX9_bears_36 ?_
      refine p_ist_n2 38 rfl rfl dX9_bears_37 (Nat.le_of_ble_eq_true rfl) rfl ?_
      refine p_inc_3 41 rfl dX9_bears_38 (1) rfl (Nat.le_of_ble_eq_true rfl) rfl ?_
      refine p_goto 4 rfl dX9_bears_41 ?_
      have hp := hvP hv (s := i) (by omega)
      have hb : (vP V i == c + 5) = true := by simp only [beq_iff_eq]; exact (atI_hand hp hc).mp h26
      rw [set_t (p := fun s => vP V s == c + 5) hb (by omega), nI_1]
      exact ih (i + 1) (by omega)
set_option maxRecDepth 4000 in
theorem c_bears (hM : OM σ O) (hw : RowM e (hA σ mRo) 0 O V) (hv : OkV O V) {c : Nat} (hc : c < 90) : CallOk Γ 1 0 0 mX9_bears [.ref M0, .int (nI c)] σ (rI σ (nI (setN (aS O) (fun s => vP V s == c + 5)))) := by
  have hO := hM.2.1
  have hs9 := hO.1
  have hc6 := hO.2.1
  have hw12 := hO.2.2.1
  have hk8 := hO.2.2.2.1
  refine p_enter rfl rfl (Nat.le_of_ble_eq_true rfl) rfl ?_
  refine p_iconst (0) 1 rfl dX9_bears_0 rfl ?_
  refine p_ist_n2 2 rfl rfl dX9_bears_1 (Nat.le_of_ble_eq_true rfl) rfl ?_
  refine p_iconst (0) 3 rfl dX9_bears_2 rfl ?_
  refine p_ist_n3 4 rfl rfl dX9_bears_3 (Nat.le_of_ble_eq_true rfl) rfl ?_
  exact l_bears hM hw hv hc (aS O) 0 (by omega)
set_option maxRecDepth 4000 in
theorem c_isWhole (hM : OM σ O) (hw : RowM e (hA σ mRo) 0 O V) (hv : OkV O V) {k : Nat} (hk : k < aW O) : CallOk Γ 2 0 0 mX9_isWhole [.ref M0, .int (nI k)] σ (rI σ (b2i (!dead O V k))) := by
  have hO := hM.2.1
  have hs9 := hO.1
  have hc6 := hO.2.1
  have hw12 := hO.2.2.1
  have hk8 := hO.2.2.2.1
  have hl := hO.2.2.2.2.2 k hk
  refine p_enter rfl rfl (Nat.le_of_ble_eq_true rfl) rfl ?_
  refine p_aload_n 0 1 rfl rfl dX9_isWhole_0 rfl ?_
  refine p_iconst (0) 2 rfl dX9_isWhole_1 rfl ?_
  refine p_aload_n 0 3 rfl rfl dX9_isWhole_2 rfl ?_
  refine p_getR 9 9 6 rfl dX9_isWhole_3 fl_X9_23 rfl rfl (show hR _ M0 9 = mWl from hM.1 9) (by decide) ?_
  refine p_iload_n 1 7 rfl rfl dX9_isWhole_6 rfl ?_
  refine p_ialdE 8 rfl dX9_isWhole_7 (i := k) rfl (by show k < 12; omega) (hM.2.2.2.2.1 k (by omega)).1 ?_
  refine p_cV2i 11 rfl dX9_isWhole_8 (c_isBurnt hM hw hv (by decide) hl.1) ml_X9_319 vl_X9_isBurnt rfl (by decide) rfl (Nat.le_of_ble_eq_true rfl) (Nat.le_of_ble_eq_true rfl) rfl ?_
  refine p_if_ne 32 14 rfl rfl dX9_isWhole_11 (fun h11 => ?_) (fun h11 => ?_)
  · refine p_iconst (0) 33 rfl dX9_isWhole_32 rfl ?_
    exact p_zret dX9_isWhole_33 rfl (by decide) ⟨by have g : (vP V (aL O k) == 0) = true := (by simpa only [b2i_eq0, Decidable.not_not] using h11); simp [dead, g, b2i], rfl⟩
  · refine p_aload_n 0 15 rfl rfl dX9_isWhole_14 rfl ?_
    refine p_iconst (0) 16 rfl dX9_isWhole_15 rfl ?_
    refine p_aload_n 0 17 rfl rfl dX9_isWhole_16 rfl ?_
    refine p_getR 9 10 20 rfl dX9_isWhole_17 fl_X9_26 rfl rfl (show hR _ M0 10 = mWr from hM.1 10) (by decide) ?_
    refine p_iload_n 1 21 rfl rfl dX9_isWhole_20 rfl ?_
    refine p_ialdE 22 rfl dX9_isWhole_21 (i := k) rfl (by show k < 12; omega) (hM.2.2.2.2.1 k (by omega)).2 ?_
    refine p_cV2i 25 rfl dX9_isWhole_22 (c_isBurnt hM hw hv (by decide) hl.2) ml_X9_319 vl_X9_isBurnt rfl (by decide) rfl (Nat.le_of_ble_eq_true rfl) (Nat.le_of_ble_eq_true rfl) rfl ?_
    refine p_if_ne 32 28 rfl rfl dX9_isWhole_25 (fun h25 => ?_) (fun h25 => ?_)
    · refine p_iconst (0) 33 rfl dX9_isWhole_32 rfl ?_
      exact p_zret dX9_isWhole_33 rfl (by decide) ⟨by have g : (vP V (aB O k) == 0) = true := (by simpa only [b2i_eq0, Decidable.not_not] using h25); simp [dead, g, b2i], rfl⟩
    · refine p_iconst (1) 29 rfl dX9_isWhole_28 rfl ?_
      refine p_goto 33 rfl dX9_isWhole_29 ?_
      exact p_zret dX9_isWhole_33 rfl (by decide) ⟨by have g : (vP V (aL O k) == 0) = false := (by simpa only [b2i_eq0, Bool.not_eq_true] using h11); have g2 : (vP V (aB O k) == 0) = false := (by simpa only [b2i_eq0, Bool.not_eq_true] using h25); simp only [dead, g, g2]; rfl, rfl⟩
set_option maxRecDepth 4000 in
theorem l_lostBy (hM : OM σ O) (hw : RowM e (hA σ mRo) 0 O V) (hv : OkV O V) {m : Nat} (hm : m < 2 ^ 31) : ∀ (n i : Nat), i + n = aW O → Ok Γ 3 0 0 mX9_lostBy 4 [some (.ref M0), some (.int (nI m)), some (.int (nI (setN i (fun k => !dead O V k && (m.testBit (aL O k) || m.testBit (aB O k)))))), some (.int (nI i))] [] σ (rI σ (nI (setN (aW O) (fun k => !dead O V k && (m.testBit (aL O k) || m.testBit (aB O k)))))) := by
  have hO := hM.2.1
  have hs9 := hO.1
  have hc6 := hO.2.1
  have hw12 := hO.2.2.1
  have hk8 := hO.2.2.2.1
  intro n
  induction n with
  | zero =>
    intro i hi
    refine p_iload_n 3 5 rfl rfl dX9_lostBy_4 rfl ?_
    refine p_aload_n 0 6 rfl rfl dX9_lostBy_5 rfl ?_
    refine p_getIE 9 3 9 rfl dX9_lostBy_6 fl_X9_286 rfl rfl hM.2.2.1.2.2.1 ?_
    refine p_icmp_ge 59 12 rfl rfl dX9_lostBy_9 (fun h9 => ?_) (fun h9 => absurd (nI_le (a := aW O) (b := i) (by omega) (by omega)) h9)
    refine p_iload_n 2 60 rfl rfl dX9_lostBy_59 rfl ?_
    exact p_iret dX9_lostBy_60 rfl ⟨by rw [show i = aW O by omega], rfl⟩
  | succ n ih =>
    intro i hi
    have hlt : i < aW O := by omega
    refine p_iload_n 3 5 rfl rfl dX9_lostBy_4 rfl ?_
    refine p_aload_n 0 6 rfl rfl dX9_lostBy_5 rfl ?_
    refine p_getIE 9 3 9 rfl dX9_lostBy_6 fl_X9_286 rfl rfl hM.2.2.1.2.2.1 ?_
    refine p_icmp_ge 59 12 rfl rfl dX9_lostBy_9 (fun h9 => absurd h9 (nI_ge (a := i) (b := aW O) (by omega) (by omega))) (fun h9 => ?_)
    refine p_iload_n 2 13 rfl rfl dX9_lostBy_12 rfl ?_
    refine p_aload_n 0 14 rfl rfl dX9_lostBy_13 rfl ?_
    refine p_iload_n 3 15 rfl rfl dX9_lostBy_14 rfl ?_
    refine p_cV1i 18 rfl dX9_lostBy_15 (c_isWhole hM hw hv hlt) ml_X9_399 vl_X9_isWhole rfl (by decide) rfl (Nat.le_of_ble_eq_true rfl) (Nat.le_of_ble_eq_true rfl) rfl ?_
    refine p_if_eq 50 21 rfl rfl dX9_lostBy_18 (fun h18 => ?_) (fun h18 => ?_)
    · refine p_iconst (0) 51 rfl dX9_lostBy_50 rfl ?_
      refine p_ior 52 rfl dX9_lostBy_51 ?_
      refine p_ist_n2 53 rfl rfl dX9_lostBy_52 (Nat.le_of_ble_eq_true rfl) rfl ?_
      refine p_inc_3 56 rfl dX9_lostBy_53 (1) rfl (Nat.le_of_ble_eq_true rfl) rfl ?_
      refine p_goto 4 rfl dX9_lostBy_56 ?_
      have hd : (!dead O V i) = false := by simpa only [b2i_eq0, b2i_1, Bool.not_eq_true, Decidable.not_not] using h18
      have hb : (!dead O V i && (m.testBit (aL O i) || m.testBit (aB O i))) = false := by rw [hd]; rfl
      rw [or0, nI_1, ← set_f (p := fun k => !dead O V k && (m.testBit (aL O k) || m.testBit (aB O k))) (by rw [hb]; decide)]
      exact ih (i + 1) (by omega)
    · have hl := hO.2.2.2.2.2 i hlt
      refine p_iload_n 1 22 rfl rfl dX9_lostBy_21 rfl ?_
      refine p_aload_n 0 23 rfl rfl dX9_lostBy_22 rfl ?_
      refine p_getR 9 9 26 rfl dX9_lostBy_23 fl_X9_23 rfl rfl (show hR _ M0 9 = mWl from hM.1 9) (by decide) ?_
      refine p_iload_n 3 27 rfl rfl dX9_lostBy_26 rfl ?_
      refine p_ialdE 28 rfl dX9_lostBy_27 (i := i) rfl (by show i < 12; omega) (hM.2.2.2.2.1 i (by omega)).1 ?_
      refine p_ishr 29 rfl dX9_lostBy_28 ?_
      refine p_iload_n 1 30 rfl rfl dX9_lostBy_29 rfl ?_
      refine p_aload_n 0 31 rfl rfl dX9_lostBy_30 rfl ?_
      refine p_getR 9 10 34 rfl dX9_lostBy_31 fl_X9_26 rfl rfl (show hR _ M0 10 = mWr from hM.1 10) (by decide) ?_
      refine p_iload_n 3 35 rfl rfl dX9_lostBy_34 rfl ?_
      refine p_ialdE 36 rfl dX9_lostBy_35 (i := i) rfl (by show i < 12; omega) (hM.2.2.2.2.1 i (by omega)).2 ?_
      refine p_ishr 37 rfl dX9_lostBy_36 ?_
      refine p_ior 38 rfl dX9_lostBy_37 ?_
      refine p_iconst (1) 39 rfl dX9_lostBy_38 rfl ?_
      refine p_iand 40 rfl dX9_lostBy_39 ?_
      rw [sb3 hm (by omega) (by omega)]
      refine p_iconst (1) 41 rfl dX9_lostBy_40 rfl ?_
      refine p_icmp_ne 50 44 rfl rfl dX9_lostBy_41 (fun h41 => ?_) (fun h41 => ?_)
      · refine p_iconst (0) 51 rfl dX9_lostBy_50 rfl ?_
        refine p_ior 52 rfl dX9_lostBy_51 ?_
        refine p_ist_n2 53 rfl rfl dX9_lostBy_52 (Nat.le_of_ble_eq_true rfl) rfl ?_
        refine p_inc_3 56 rfl dX9_lostBy_53 (1) rfl (Nat.le_of_ble_eq_true rfl) rfl ?_
        refine p_goto 4 rfl dX9_lostBy_56 ?_
        have hd : (m.testBit (aL O i) || m.testBit (aB O i)) = false := by simpa only [b2i_eq0, b2i_1, Bool.not_eq_true, Decidable.not_not] using h41
        have hb : (!dead O V i && (m.testBit (aL O i) || m.testBit (aB O i))) = false := by rw [hd, Bool.and_false]
        rw [or0, nI_1, ← set_f (p := fun k => !dead O V k && (m.testBit (aL O k) || m.testBit (aB O k))) (by rw [hb]; decide)]
        exact ih (i + 1) (by omega)
      · refine p_iconst (1) 45 rfl dX9_lostBy_44 rfl ?_
        refine p_iload_n 3 46 rfl rfl dX9_lostBy_45 rfl ?_
        refine p_ishl 47 rfl dX9_lostBy_46 ?_
        refine p_goto 51 rfl dX9_lostBy_47 ?_
        refine p_ior 52 rfl dX9_lostBy_51 ?_
        refine p_ist_n2 53 rfl rfl dX9_lostBy_52 (Nat.le_of_ble_eq_true rfl) rfl ?_
        refine p_inc_3 56 rfl dX9_lostBy_53 (1) rfl (Nat.le_of_ble_eq_true rfl) rfl ?_
        refine p_goto 4 rfl dX9_lostBy_56 ?_
        have hd : (!dead O V i) = true := by simpa only [b2i_eq0, b2i_1, Decidable.not_not, Bool.not_eq_true, Bool.not_eq_false] using h18
        have hd2 : (m.testBit (aL O i) || m.testBit (aB O i)) = true := by simpa only [b2i_eq0, b2i_1, Decidable.not_not, Bool.not_eq_true, Bool.not_eq_false] using h41
        have hb : (!dead O V i && (m.testBit (aL O i) || m.testBit (aB O i))) = true := by rw [hd, hd2]; rfl
        rw [set_t (p := fun k => !dead O V k && (m.testBit (aL O k) || m.testBit (aB O k))) hb (by omega), nI_1]
        exact ih (i + 1) (by omega)
set_option maxRecDepth 4000 in
theorem c_lostBy (hM : OM σ O) (hw : RowM e (hA σ mRo) 0 O V) (hv : OkV O V) {m : Nat} (hm : m < 2 ^ 31) : CallOk Γ 3 0 0 mX9_lostBy [.ref M0, .int (nI m)] σ (rI σ (nI (setN (aW O) (fun k => !dead O V k && (m.testBit (aL O k) || m.testBit (aB O k)))))) := by
  have hO := hM.2.1
  have hs9 := hO.1
  have hc6 := hO.2.1
  have hw12 := hO.2.2.1
  have hk8 := hO.2.2.2.1
  refine p_enter rfl rfl (Nat.le_of_ble_eq_true rfl) rfl ?_
  refine p_iconst (0) 1 rfl dX9_lostBy_0 rfl ?_
  refine p_ist_n2 2 rfl rfl dX9_lostBy_1 (Nat.le_of_ble_eq_true rfl) rfl ?_
  refine p_iconst (0) 3 rfl dX9_lostBy_2 rfl ?_
  refine p_ist_n3 4 rfl rfl dX9_lostBy_3 (Nat.le_of_ble_eq_true rfl) rfl ?_
  exact l_lostBy hM hw hv hm (aW O) 0 (by omega)
set_option maxRecDepth 4000 in
theorem l_showsIn (hM : OM σ O) (hw : RowM e (hA σ mRo) b O V) (hv : OkV O V) (hb : b ≤ 34) {t : Nat} (ht : t < 20) : ∀ (n i : Nat), i + n = aW O → Ok Γ 5 0 0 mX9_showsIn 13 [some (.ref M0), some (.int (nI b)), some (.int (nI t)), some (.int (nI (shIn O V t 0))), some (.int (nI (setN i (fun k => (shIn O V t 0).testBit (aL O k) && (shIn O V t 0).testBit (aB O k) && fitt O V (aL O k) (aB O k))))), some (.int (nI i))] [] σ (rI σ (nI (wOf O V (shIn O V t 0)))) := by
  have hO := hM.2.1
  have hs9 := hO.1
  have hc6 := hO.2.1
  have hw12 := hO.2.2.1
  have hk8 := hO.2.2.2.1
  have hX : shIn O V t 0 < 2 ^ 31 := Nat.lt_trans (Nat.lt_of_lt_of_le (setN_lt _ _) (Nat.pow_le_pow_right (by decide) hM.2.1.1)) (by decide)
  intro n
  induction n with
  | zero =>
    intro i hi
    refine p_iload 5 15 rfl dX9_showsIn_13 rfl ?_
    refine p_aload_n 0 16 rfl rfl dX9_showsIn_15 rfl ?_
    refine p_getIE 9 3 19 rfl dX9_showsIn_16 fl_X9_286 rfl rfl hM.2.2.1.2.2.1 ?_
    refine p_icmp_ge 88 22 rfl rfl dX9_showsIn_19 (fun h19 => ?_) (fun h19 => absurd (nI_le (a := aW O) (b := i) (by omega) (by omega)) h19)
    refine p_iload 4 90 rfl dX9_showsIn_88 rfl ?_
    exact p_iret dX9_showsIn_90 rfl ⟨by rw [show i = aW O by omega]; rfl, rfl⟩
  | succ n ih =>
    intro i hi
    have hlt : i < aW O := by omega
    refine p_iload 5 15 rfl dX9_showsIn_13 rfl ?_
    refine p_aload_n 0 16 rfl rfl dX9_showsIn_15 rfl ?_
    refine p_getIE 9 3 19 rfl dX9_showsIn_16 fl_X9_286 rfl rfl hM.2.2.1.2.2.1 ?_
    refine p_icmp_ge 88 22 rfl rfl dX9_showsIn_19 (fun h19 => absurd h19 (nI_ge (a := i) (b := aW O) (by omega) (by omega))) (fun h19 => ?_)
    have hl := hO.2.2.2.2.2 i hlt
    refine p_iload 4 24 rfl dX9_showsIn_22 rfl ?_
    refine p_iload_n 3 25 rfl rfl dX9_showsIn_24 rfl ?_
    refine p_aload_n 0 26 rfl rfl dX9_showsIn_25 rfl ?_
    refine p_getR 9 9 29 rfl dX9_showsIn_26 fl_X9_23 rfl rfl (show hR _ M0 9 = mWl from hM.1 9) (by decide) ?_
    refine p_iload 5 31 rfl dX9_showsIn_29 rfl ?_
    refine p_ialdE 32 rfl dX9_showsIn_31 (i := i) rfl (by show i < 12; omega) (hM.2.2.2.2.1 i (by omega)).1 ?_
    refine p_ishr 33 rfl dX9_showsIn_32 ?_
    refine p_iload_n 3 34 rfl rfl dX9_showsIn_33 rfl ?_
    refine p_aload_n 0 35 rfl rfl dX9_showsIn_34 rfl ?_
    refine p_getR 9 10 38 rfl dX9_showsIn_35 fl_X9_26 rfl rfl (show hR _ M0 10 = mWr from hM.1 10) (by decide) ?_
    refine p_iload 5 40 rfl dX9_showsIn_38 rfl ?_
    refine p_ialdE 41 rfl dX9_showsIn_40 (i := i) rfl (by show i < 12; omega) (hM.2.2.2.2.1 i (by omega)).2 ?_
    refine p_ishr 42 rfl dX9_showsIn_41 ?_
    refine p_iand 43 rfl dX9_showsIn_42 ?_
    refine p_iconst (1) 44 rfl dX9_showsIn_43 rfl ?_
    refine p_iand 45 rfl dX9_showsIn_44 ?_
    rw [sb2 hX (by omega) (by omega)]
    refine p_iconst (1) 46 rfl dX9_showsIn_45 rfl ?_
    refine p_icmp_ne 78 49 rfl rfl dX9_showsIn_46 (fun h46 => ?_) (fun h46 => ?_)
    · refine p_iconst (0) 79 rfl dX9_showsIn_78 rfl ?_
      refine p_ior 80 rfl dX9_showsIn_79 ?_
      refine p_ist_4 82 rfl dX9_showsIn_80 (Nat.le_of_ble_eq_true rfl) rfl ?_
      refine p_inc_5 85 rfl dX9_showsIn_82 (1) rfl (Nat.le_of_ble_eq_true rfl) rfl ?_
      refine p_goto 13 rfl dX9_showsIn_85 ?_
      have hd : ((shIn O V t 0).testBit (aL O i) && (shIn O V t 0).testBit (aB O i)) = false := by simpa only [b2i_eq0, b2i_1, Bool.not_eq_true, Decidable.not_not] using h46
      have hb : ((shIn O V t 0).testBit (aL O i) && (shIn O V t 0).testBit (aB O i) && fitt O V (aL O i) (aB O i)) = false := by rw [hd]; rfl
      rw [or0, nI_1, ← set_f (p := fun k => (shIn O V t 0).testBit (aL O k) && (shIn O V t 0).testBit (aB O k) && fitt O V (aL O k) (aB O k)) (by rw [hb]; decide)]
      exact ih (i + 1) (by omega)
    · refine p_aload_n 0 50 rfl rfl dX9_showsIn_49 rfl ?_
      refine p_iload_n 1 51 rfl rfl dX9_showsIn_50 rfl ?_
      refine p_aload_n 0 52 rfl rfl dX9_showsIn_51 rfl ?_
      refine p_getR 9 9 55 rfl dX9_showsIn_52 fl_X9_23 rfl rfl (show hR _ M0 9 = mWl from hM.1 9) (by decide) ?_
      refine p_iload 5 57 rfl dX9_showsIn_55 rfl ?_
      refine p_ialdE 58 rfl dX9_showsIn_57 (i := i) rfl (by show i < 12; omega) (hM.2.2.2.2.1 i (by omega)).1 ?_
      refine p_aload_n 0 59 rfl rfl dX9_showsIn_58 rfl ?_
      refine p_getR 9 10 62 rfl dX9_showsIn_59 fl_X9_26 rfl rfl (show hR _ M0 10 = mWr from hM.1 10) (by decide) ?_
      refine p_iload 5 64 rfl dX9_showsIn_62 rfl ?_
      refine p_ialdE 65 rfl dX9_showsIn_64 (i := i) rfl (by show i < 12; omega) (hM.2.2.2.2.1 i (by omega)).2 ?_
      refine p_cV3i 68 rfl dX9_showsIn_65 (c_doesFit hM hw hv hb hl.1 hl.2) ml_X9_331 vl_X9_doesFit rfl (by decide) rfl (Nat.le_of_ble_eq_true rfl) (Nat.le_of_ble_eq_true rfl) rfl ?_
      refine p_if_eq 78 71 rfl rfl dX9_showsIn_68 (fun h68 => ?_) (fun h68 => ?_)
      · refine p_iconst (0) 79 rfl dX9_showsIn_78 rfl ?_
        refine p_ior 80 rfl dX9_showsIn_79 ?_
        refine p_ist_4 82 rfl dX9_showsIn_80 (Nat.le_of_ble_eq_true rfl) rfl ?_
        refine p_inc_5 85 rfl dX9_showsIn_82 (1) rfl (Nat.le_of_ble_eq_true rfl) rfl ?_
        refine p_goto 13 rfl dX9_showsIn_85 ?_
        have hd : fitt O V (aL O i) (aB O i) = false := by simpa only [b2i_eq0, b2i_1, Bool.not_eq_true, Decidable.not_not] using h68
        have hb : ((shIn O V t 0).testBit (aL O i) && (shIn O V t 0).testBit (aB O i) && fitt O V (aL O i) (aB O i)) = false := by rw [hd, Bool.and_false]
        rw [or0, nI_1, ← set_f (p := fun k => (shIn O V t 0).testBit (aL O k) && (shIn O V t 0).testBit (aB O k) && fitt O V (aL O k) (aB O k)) (by rw [hb]; decide)]
        exact ih (i + 1) (by omega)
      · refine p_iconst (1) 72 rfl dX9_showsIn_71 rfl ?_
        refine p_iload 5 74 rfl dX9_showsIn_72 rfl ?_
        refine p_ishl 75 rfl dX9_showsIn_74 ?_
        refine p_goto 79 rfl dX9_showsIn_75 ?_
        refine p_ior 80 rfl dX9_showsIn_79 ?_
        refine p_ist_4 82 rfl dX9_showsIn_80 (Nat.le_of_ble_eq_true rfl) rfl ?_
        refine p_inc_5 85 rfl dX9_showsIn_82 (1) rfl (Nat.le_of_ble_eq_true rfl) rfl ?_
        refine p_goto 13 rfl dX9_showsIn_85 ?_
        have hd : ((shIn O V t 0).testBit (aL O i) && (shIn O V t 0).testBit (aB O i)) = true := by simpa only [b2i_eq0, b2i_1, Decidable.not_not, Bool.not_eq_true, Bool.not_eq_false] using h46
        have hd2 : fitt O V (aL O i) (aB O i) = true := by simpa only [b2i_eq0, b2i_1, Decidable.not_not, Bool.not_eq_true, Bool.not_eq_false] using h68
        have hb : ((shIn O V t 0).testBit (aL O i) && (shIn O V t 0).testBit (aB O i) && fitt O V (aL O i) (aB O i)) = true := by rw [hd, hd2]; rfl
        rw [set_t (p := fun k => (shIn O V t 0).testBit (aL O k) && (shIn O V t 0).testBit (aB O k) && fitt O V (aL O k) (aB O k)) hb (by omega), nI_1]
        exact ih (i + 1) (by omega)
set_option maxRecDepth 4000 in
theorem c_showsIn (hM : OM σ O) (hw : RowM e (hA σ mRo) b O V) (hv : OkV O V) (hb : b ≤ 34) {t : Nat} (ht : t < 20) : CallOk Γ 5 0 0 mX9_showsIn [.ref M0, .int (nI b), .int (nI t)] σ (rI σ (nI (wOf O V (shIn O V t 0)))) := by
  refine p_enter rfl rfl (Nat.le_of_ble_eq_true rfl) rfl ?_
  refine p_aload_n 0 1 rfl rfl dX9_showsIn_0 rfl ?_
  refine p_iload_n 1 2 rfl rfl dX9_showsIn_1 rfl ?_
  refine p_iload_n 2 3 rfl rfl dX9_showsIn_2 rfl ?_
  refine p_cV2i 6 rfl dX9_showsIn_3 (c_mSheetsAt hM hw hv hb ht) ml_X9_328 vl_X9_sheetsAt rfl (by decide) rfl (Nat.le_of_ble_eq_true rfl) (Nat.le_of_ble_eq_true rfl) rfl ?_
  refine p_ist_n3 7 rfl rfl dX9_showsIn_6 (Nat.le_of_ble_eq_true rfl) rfl ?_
  refine p_iconst (0) 8 rfl dX9_showsIn_7 rfl ?_
  refine p_ist_4 10 rfl dX9_showsIn_8 (Nat.le_of_ble_eq_true rfl) rfl ?_
  refine p_iconst (0) 11 rfl dX9_showsIn_10 rfl ?_
  refine p_ist_5 13 rfl dX9_showsIn_11 (Nat.le_of_ble_eq_true rfl) rfl ?_
  exact l_showsIn hM hw hv hb ht (aW O) 0 (by omega)
set_option maxRecDepth 4000 in
theorem l_knownBy (hM : OM σ O) (hw : RowM e (hA σ mRo) b O V) (hv : OkV O V) (hb : b ≤ 34) {m : Nat} (hm : m < 2 ^ 31) : ∀ (n i : Nat), i + n = aC O → Ok Γ 1 0 0 mX9_knownBy 5 [some (.ref M0), some (.int (nI b)), some (.int (nI m)), some (.int (nI (orK i (fun c => m.testBit c) V))), some (.int (nI i))] [] σ (rI σ (nI (kBy O V m))) := by
  have hO := hM.2.1
  have hs9 := hO.1
  have hc6 := hO.2.1
  have hw12 := hO.2.2.1
  have hk8 := hO.2.2.2.1
  intro n
  induction n with
  | zero =>
    intro i hi
    refine p_iload 4 7 rfl dX9_knownBy_5 rfl ?_
    refine p_aload_n 0 8 rfl rfl dX9_knownBy_7 rfl ?_
    refine p_getIE 9 2 11 rfl dX9_knownBy_8 fl_X9_283 rfl rfl hM.2.2.1.2.1 ?_
    refine p_icmp_ge 49 14 rfl rfl dX9_knownBy_11 (fun h11 => ?_) (fun h11 => absurd (nI_le (a := aC O) (b := i) (by omega) (by omega)) h11)
    refine p_iload_n 3 50 rfl rfl dX9_knownBy_49 rfl ?_
    exact p_iret dX9_knownBy_50 rfl ⟨by rw [show i = aC O by omega]; rfl, rfl⟩
  | succ n ih =>
    intro i hi
    have hlt : i < aC O := by omega
    refine p_iload 4 7 rfl dX9_knownBy_5 rfl ?_
    refine p_aload_n 0 8 rfl rfl dX9_knownBy_7 rfl ?_
    refine p_getIE 9 2 11 rfl dX9_knownBy_8 fl_X9_283 rfl rfl hM.2.2.1.2.1 ?_
    refine p_icmp_ge 49 14 rfl rfl dX9_knownBy_11 (fun h11 => absurd h11 (nI_ge (a := i) (b := aC O) (by omega) (by omega))) (fun h11 => ?_)
    refine p_iload_n 3 15 rfl rfl dX9_knownBy_14 rfl ?_
    refine p_iload_n 2 16 rfl rfl dX9_knownBy_15 rfl ?_
    refine p_iload 4 18 rfl dX9_knownBy_16 rfl ?_
    refine p_ishr 19 rfl dX9_knownBy_18 ?_
    refine p_iconst (1) 20 rfl dX9_knownBy_19 rfl ?_
    refine p_iand 21 rfl dX9_knownBy_20 ?_
    rw [sb1 hm (by omega)]
    refine p_iconst (1) 22 rfl dX9_knownBy_21 rfl ?_
    refine p_icmp_ne 40 25 rfl rfl dX9_knownBy_22 (fun h22 => ?_) (fun h22 => ?_)
    · refine p_iconst (0) 41 rfl dX9_knownBy_40 rfl ?_
      refine p_ior 42 rfl dX9_knownBy_41 ?_
      refine p_ist_n3 43 rfl rfl dX9_knownBy_42 (Nat.le_of_ble_eq_true rfl) rfl ?_
      refine p_inc_4 46 rfl dX9_knownBy_43 (1) rfl (Nat.le_of_ble_eq_true rfl) rfl ?_
      refine p_goto 5 rfl dX9_knownBy_46 ?_
      have hb : m.testBit i = false := by simpa only [b2i_eq0, b2i_1, Bool.not_eq_true, Decidable.not_not] using h22
      rw [or0, nI_1]
      have e : orK (i + 1) (fun c => m.testBit c) V = orK i (fun c => m.testBit c) V := by simp [orK, hb]
      rw [← e]
      exact ih (i + 1) (by omega)
    · refine p_aload_n 0 26 rfl rfl dX9_knownBy_25 rfl ?_
      refine p_getR 9 44 29 rfl dX9_knownBy_26 fl_X9_66 rfl rfl (show hR _ M0 44 = mRo from hM.1 44) (by decide) ?_
      refine p_iload_n 1 30 rfl rfl dX9_knownBy_29 rfl ?_
      refine p_bipush (28) 32 rfl dX9_knownBy_30 rfl ?_
      refine p_iadd 33 rfl dX9_knownBy_32 ?_
      refine p_iload 4 35 rfl dX9_knownBy_33 rfl ?_
      refine p_iadd 36 rfl dX9_knownBy_35 ?_
      rw [ix b 28 (i) 28 rfl]
      refine p_ialdE 37 rfl dX9_knownBy_36 (i := b + 28 + i) rfl (by show b + 28 + i < 68; omega) (hw.2.2 i hlt) ?_
      refine p_goto 41 rfl dX9_knownBy_37 ?_
      refine p_ior 42 rfl dX9_knownBy_41 ?_
      refine p_ist_n3 43 rfl rfl dX9_knownBy_42 (Nat.le_of_ble_eq_true rfl) rfl ?_
      refine p_inc_4 46 rfl dX9_knownBy_43 (1) rfl (Nat.le_of_ble_eq_true rfl) rfl ?_
      refine p_goto 5 rfl dX9_knownBy_46 ?_
      have hb : m.testBit i = true := by simpa only [b2i_eq0, b2i_1, Decidable.not_not, Bool.not_eq_true, Bool.not_eq_false] using h22
      rw [nx_or, nI_1]
      have e : orK (i + 1) (fun c => m.testBit c) V = orK i (fun c => m.testBit c) V ||| vK V i := by simp [orK, hb]
      rw [← e]
      exact ih (i + 1) (by omega)
set_option maxRecDepth 4000 in
theorem c_knownBy (hM : OM σ O) (hw : RowM e (hA σ mRo) b O V) (hv : OkV O V) (hb : b ≤ 34) {m : Nat} (hm : m < 2 ^ 31) : CallOk Γ 1 0 0 mX9_knownBy [.ref M0, .int (nI b), .int (nI m)] σ (rI σ (nI (kBy O V m))) := by
  refine p_enter rfl rfl (Nat.le_of_ble_eq_true rfl) rfl ?_
  refine p_iconst (0) 1 rfl dX9_knownBy_0 rfl ?_
  refine p_ist_n3 2 rfl rfl dX9_knownBy_1 (Nat.le_of_ble_eq_true rfl) rfl ?_
  refine p_iconst (0) 3 rfl dX9_knownBy_2 rfl ?_
  refine p_ist_4 5 rfl dX9_knownBy_3 (Nat.le_of_ble_eq_true rfl) rfl ?_
  exact l_knownBy hM hw hv hb hm (aC O) 0 (by omega)
set_option maxRecDepth 4000 in
theorem c_everybody (hM : OM σ O) : CallOk Γ 1 0 0 mX9_everybody [.ref M0] σ (rI σ (nI (2 ^ aC O - 1))) := by
  have hO := hM.2.1
  have hs9 := hO.1
  have hc6 := hO.2.1
  have hw12 := hO.2.2.1
  have hk8 := hO.2.2.2.1
  refine p_enter rfl rfl (Nat.le_of_ble_eq_true rfl) rfl ?_
  refine p_iconst (1) 1 rfl dX9_everybody_0 rfl ?_
  refine p_aload_n 0 2 rfl rfl dX9_everybody_1 rfl ?_
  refine p_getIE 9 2 5 rfl dX9_everybody_2 fl_X9_283 rfl rfl hM.2.2.1.2.1 ?_
  refine p_ishl 6 rfl dX9_everybody_5 ?_
  refine p_iconst (1) 7 rfl dX9_everybody_6 rfl ?_
  refine p_isub 8 rfl dX9_everybody_7 ?_
  exact p_iret dX9_everybody_8 rfl ⟨by rw [one_shl_m1 _ (by omega)], rfl⟩
theorem shl0 : ∀ i, i < 32 → (b2i false) <<< (nI i &&& 31) = 0 := by decide +kernel
set_option maxRecDepth 4000 in
theorem l_mKnowers (hM : OM σ O) (hw : RowM e (hA σ mRo) b O V) (hv : OkV O V) (hb : b ≤ 34) {k : Nat} (hk : k < 32) : ∀ (n i : Nat), i + n = aC O → Ok Γ 1 0 0 mX9_knowers 5 [some (.ref M0), some (.int (nI b)), some (.int (nI k)), some (.int (nI (setN i (fun c => (vK V c).testBit k)))), some (.int (nI i))] [] σ (rI σ (nI (whoK O V k))) := by
  have hO := hM.2.1
  have hs9 := hO.1
  have hc6 := hO.2.1
  have hw12 := hO.2.2.1
  have hk8 := hO.2.2.2.1
  intro n
  induction n with
  | zero =>
    intro i hi
    refine p_iload 4 7 rfl dX9_knowers_5 rfl ?_
    refine p_aload_n 0 8 rfl rfl dX9_knowers_7 rfl ?_
    refine p_getIE 9 2 11 rfl dX9_knowers_8 fl_X9_283 rfl rfl hM.2.2.1.2.1 ?_
    refine p_icmp_ge 42 14 rfl rfl dX9_knowers_11 (fun h11 => ?_) (fun h11 => absurd (nI_le (a := aC O) (b := i) (by omega) (by omega)) h11)
    refine p_iload_n 3 43 rfl rfl dX9_knowers_42 rfl ?_
    exact p_iret dX9_knowers_43 rfl ⟨by rw [show i = aC O by omega]; rfl, rfl⟩
  | succ n ih =>
    intro i hi
    have hlt : i < aC O := by omega
    refine p_iload 4 7 rfl dX9_knowers_5 rfl ?_
    refine p_aload_n 0 8 rfl rfl dX9_knowers_7 rfl ?_
    refine p_getIE 9 2 11 rfl dX9_knowers_8 fl_X9_283 rfl rfl hM.2.2.1.2.1 ?_
    refine p_icmp_ge 42 14 rfl rfl dX9_knowers_11 (fun h11 => absurd h11 (nI_ge (a := i) (b := aC O) (by omega) (by omega))) (fun h11 => ?_)
    refine p_iload_n 3 15 rfl rfl dX9_knowers_14 rfl ?_
    refine p_aload_n 0 16 rfl rfl dX9_knowers_15 rfl ?_
    refine p_getR 9 44 19 rfl dX9_knowers_16 fl_X9_66 rfl rfl (show hR _ M0 44 = mRo from hM.1 44) (by decide) ?_
    refine p_iload_n 1 20 rfl rfl dX9_knowers_19 rfl ?_
    refine p_bipush (28) 22 rfl dX9_knowers_20 rfl ?_
    refine p_iadd 23 rfl dX9_knowers_22 ?_
    refine p_iload 4 25 rfl dX9_knowers_23 rfl ?_
    refine p_iadd 26 rfl dX9_knowers_25 ?_
    rw [ix b 28 (i) 28 rfl]
    refine p_ialdE 27 rfl dX9_knowers_26 (i := b + 28 + i) rfl (by show b + 28 + i < 68; omega) (hw.2.2 i hlt) ?_
    refine p_iload_n 2 28 rfl rfl dX9_knowers_27 rfl ?_
    refine p_ishr 29 rfl dX9_knowers_28 ?_
    refine p_iconst (1) 30 rfl dX9_knowers_29 rfl ?_
    refine p_iand 31 rfl dX9_knowers_30 ?_
    rw [sb1 (by have := hv.2.2.2 i (by omega); omega) (by omega)]
    refine p_iload 4 33 rfl dX9_knowers_31 rfl ?_
    refine p_ishl 34 rfl dX9_knowers_33 ?_
    refine p_ior 35 rfl dX9_knowers_34 ?_
    refine p_ist_n3 36 rfl rfl dX9_knowers_35 (Nat.le_of_ble_eq_true rfl) rfl ?_
    refine p_inc_4 39 rfl dX9_knowers_36 (1) rfl (Nat.le_of_ble_eq_true rfl) rfl ?_
    refine p_goto 5 rfl dX9_knowers_39 ?_
    rcases hb : (vK V i).testBit k with _ | _
    · rw [show b2i false <<< (nI i &&& 31) = 0 from shl0 i (by omega), or0, nI_1, ← set_f (p := fun c => (vK V c).testBit k) (by rw [hb]; decide)]
      exact ih (i + 1) (by omega)
    · rw [show b2i true = 1 from rfl, set_t (p := fun c => (vK V c).testBit k) hb (by omega), nI_1]
      exact ih (i + 1) (by omega)
set_option maxRecDepth 4000 in
theorem c_mKnowers (hM : OM σ O) (hw : RowM e (hA σ mRo) b O V) (hv : OkV O V) (hb : b ≤ 34) {k : Nat} (hk : k < 32) : CallOk Γ 1 0 0 mX9_knowers [.ref M0, .int (nI b), .int (nI k)] σ (rI σ (nI (whoK O V k))) := by
  refine p_enter rfl rfl (Nat.le_of_ble_eq_true rfl) rfl ?_
  refine p_iconst (0) 1 rfl dX9_knowers_0 rfl ?_
  refine p_ist_n3 2 rfl rfl dX9_knowers_1 (Nat.le_of_ble_eq_true rfl) rfl ?_
  refine p_iconst (0) 3 rfl dX9_knowers_2 rfl ?_
  refine p_ist_4 5 rfl dX9_knowers_3 (Nat.le_of_ble_eq_true rfl) rfl ?_
  exact l_mKnowers hM hw hv hb hk (aC O) 0 (by omega)
end C81
