/-! ===== the reference: odd ===== -/
theorem nt {b : Bool} (h : b = false) : ¬ b = true := by rw [h]; decide
theorem anyF_iff {p : Nat → Bool} : ∀ n i, anyF n i p = true ↔ ∃ j, i ≤ j ∧ j < i + n ∧ p j = true := by
  intro n
  induction n with
  | zero => intro i; simp only [anyF]; constructor
            · intro h; cases h
            · rintro ⟨j, h1, h2, _⟩; omega
  | succ n ih =>
    intro i
    simp only [anyF, Bool.or_eq_true, ih]
    constructor
    · rintro (h | ⟨j, h1, h2, h3⟩)
      · exact ⟨i, Nat.le_refl _, by omega, h⟩
      · exact ⟨j, by omega, by omega, h3⟩
    · rintro ⟨j, h1, h2, h3⟩
      rcases Nat.lt_or_ge i j with w | w
      · exact Or.inr ⟨j, by omega, by omega, h3⟩
      · rw [show i = j by omega]; exact Or.inl h3
theorem anyF_or {p q : Nat → Bool} : ∀ n i, anyF n i (fun k => p k || q k) = (anyF n i p || anyF n i q) := by
  intro n
  induction n with
  | zero => intro i; rfl
  | succ n ih => intro i; simp only [anyF, ih]; cases p i <;> cases q i <;> simp
theorem setN_0 {p : Nat → Bool} {n : Nat} : setN n p = 0 ↔ anyF n 0 p = false := by
  constructor
  · intro h
    cases ha : anyF n 0 p with
    | false => rfl
    | true =>
      obtain ⟨j, _, h2, h3⟩ := (anyF_iff n 0).mp ha
      have hb := setN_bit p j n
      rw [h, h3, decide_eq_true (by omega)] at hb
      simp at hb
  · intro h
    apply Nat.eq_of_testBit_eq
    intro i
    rw [setN_bit, Nat.zero_testBit]
    by_cases hi : i < n
    · cases hp : p i with
      | false => rw [Bool.and_false]
      | true => exact absurd ((anyF_iff n 0).mpr ⟨i, Nat.zero_le _, by omega, hp⟩) (by rw [h]; decide)
    · rw [decide_eq_false hi]; rfl
def orB (O : AO) (V : AW) (s : Nat) : Bool := !(vP V s == 0) && ftg O V s == 0 && !anyF (aS O) 0 (fun q => fitt O V q s)
theorem orB_eq {O : AO} {V : AW} {s : Nat} (hs : s < aS O) : orB O V s = ((unb O V).testBit s && bsd O V s == 0) := by
  have h1 : (unb O V).testBit s = !(vP V s == 0) := by
    unfold unb shAt
    rw [Nat.testBit_xor, Nat.testBit_and, Nat.testBit_two_pow_sub_one, setN_bit, decide_eq_true hs]
    cases (vP V s == 0) <;> rfl
  have h2 : (bsd O V s == 0) = (ftg O V s == 0 && !anyF (aS O) 0 (fun q => fitt O V q s)) := by
    unfold bsd bsN
    cases ha : anyF (aS O) 0 (fun q => fitt O V q s) with
    | false => rw [setN_0.mpr ha, Nat.or_zero, Bool.not_false, Bool.and_true]
    | true =>
      rw [Bool.not_true, Bool.and_false, beq_eq_false_iff_ne]
      intro q
      have : setN (aS O) (fun q => fitt O V q s) = 0 := by
        apply Nat.eq_of_testBit_eq
        intro i
        have := congrArg (fun x => Nat.testBit x i) q
        rw [Nat.testBit_or, Nat.zero_testBit] at this
        rw [Nat.zero_testBit]
        exact (Bool.or_eq_false_iff.mp this).2
      rw [setN_0.mp this] at ha; cases ha
  unfold orB
  rw [h1, h2, Bool.and_assoc]
/-- sums -/
def sm : Nat → (Nat → Nat) → Nat
  | 0, _ => 0
  | n + 1, f => sm n f + f n
theorem sm_add (f g : Nat → Nat) : ∀ n, sm n (fun i => f i + g i) = sm n f + sm n g := by
  intro n
  induction n with
  | zero => rfl
  | succ n ih => simp only [sm, ih]; omega
theorem sm_eq {f g : Nat → Nat} : ∀ n, (∀ i, i < n → f i = g i) → sm n f = sm n g := by
  intro n
  induction n with
  | zero => intro _; rfl
  | succ n ih => intro h; simp only [sm]; rw [ih (fun i hi => h i (by omega)), h n (by omega)]
theorem sm_sq (c : Nat → Nat → Nat) : ∀ n, sm n (fun i => sm (n - (i + 1)) (fun j => c i (i + 1 + j))) = sm n (fun j => sm j (fun i => c i j)) := by
  intro n
  induction n with
  | zero => rfl
  | succ n ih =>
    have h1 : sm n (fun i => sm (n + 1 - (i + 1)) (fun j => c i (i + 1 + j))) = sm n (fun i => sm (n - (i + 1)) (fun j => c i (i + 1 + j)) + c i n) := by
      refine sm_eq n (fun i hi => ?_)
      rw [show n + 1 - (i + 1) = (n - (i + 1)) + 1 by omega]
      simp only [sm]
      rw [show i + 1 + (n - (i + 1)) = n by omega]
    simp only [sm]
    rw [h1, sm_add, ih, show n + 1 - (n + 1) = 0 by omega]
    rfl
def ogP (O : AO) (V : AW) (s q : Nat) : Bool := (fitt O V s q || fitt O V q s) && !(hasW O (nI s) (nI q) || hasW O (nI q) (nI s))
def ogI (O : AO) (V : AW) (s a : Nat) : Nat → Nat
  | 0 => a
  | j + 1 => ogI O V s a j + (if ogP O V s j = true then 1 else 0)
def og (O : AO) (V : AW) : Nat → Nat
  | 0 => 0
  | s + 1 => ogI O V s (og O V s) s
theorem ogI_sm {O : AO} {V : AW} {s a : Nat} : ∀ j, ogI O V s a j = a + sm j (fun j => if ogP O V s j = true then 1 else 0) := by
  intro j
  induction j with
  | zero => rfl
  | succ j ih => simp only [ogI, sm, ih]; omega
theorem stgI_sm {O : AO} {V : AW} {s a : Nat} : ∀ j, stgI O V s a j = a + sm j (fun j => if stgP O V s (s + 1 + j) = true then 1 else 0) := by
  intro j
  induction j with
  | zero => rfl
  | succ j ih => simp only [stgI, sm, ih]; omega
theorem og_stg {O : AO} {V : AW} : og O V (aS O) = stg O V (aS O) := by
  have h1 : ∀ n, og O V n = sm n (fun s => sm s (fun j => if ogP O V s j = true then 1 else 0)) := by
    intro n
    induction n with
    | zero => rfl
    | succ n ih => simp only [og, sm, ogI_sm, ih]
  have h2 : ∀ n, stg O V n = sm n (fun s => sm (aS O - (s + 1)) (fun j => if stgP O V s (s + 1 + j) = true then 1 else 0)) := by
    intro n
    induction n with
    | zero => rfl
    | succ n ih => simp only [stg, sm, stgI_sm, ih]
  rw [h1, h2, sm_sq (fun i j => if stgP O V i j = true then 1 else 0)]
  refine sm_eq _ (fun s hs => sm_eq _ (fun j hj => ?_))
  have : ogP O V s j = stgP O V j s := by
    unfold ogP stgP
    rw [bsd_bit hs]
    cases fitt O V s j <;> cases fitt O V j s <;> cases hasW O (nI s) (nI j) <;> cases hasW O (nI j) (nI s) <;> rfl
  rw [this]
section C98
variable {Γ : Gm} {σ : PH} {A : AT}
set_option maxRecDepth 4000 in
theorem l_orph {τ : PH} (hR0 : RM τ A) {s : Nat} (hs : s < aS (tO A)) : ∀ (n i : Nat) (B : Bool), i + n = aS (tO A) → Ok Γ 5 0 0 mX9_isOrphan 25 [some (.ref M0), some (.int (nI s)), some (.int (b2i B)), some (.int (nI i))] [] τ (rI τ (b2i (B && !anyF n i (fun q => fitt (tO A) (tV A) q s)))) := by
  have hK := hR0.2.1
  have hO := hK.2.2.1
  have hc6 := hO.2.1
  have hw12 := hO.2.2.1
  have hs9 := hO.1
  have hv := hK.2.2.2.2.1.1
  have hd9 := hK.2.2.2.2.1.2
  have hM := hR0.1
  have hw := hR0.2.2.1
  intro n
  induction n with
  | zero =>
    intro i B hi
    refine p_iload_n 3 26 rfl rfl dX9_isOrphan_25 rfl ?_
    refine p_aload_n 0 27 rfl rfl dX9_isOrphan_26 rfl ?_
    refine p_getIE 9 1 30 rfl dX9_isOrphan_27 fl_X9_280 rfl rfl hM.2.2.1.1 ?_
    refine p_icmp_ge 59 33 rfl rfl dX9_isOrphan_30 (fun h30 => ?_) (fun h30 => absurd (nI_le (a := aS (tO A)) (b := i) (by omega) (by omega)) h30)
    refine p_iload_n 2 60 rfl rfl dX9_isOrphan_59 rfl ?_
    exact p_zret dX9_isOrphan_60 rfl (nz_b2i B) ⟨by simp [anyF], rfl⟩
  | succ n ih =>
    intro i B hi
    have hlt : i < aS (tO A) := by omega
    refine p_iload_n 3 26 rfl rfl dX9_isOrphan_25 rfl ?_
    refine p_aload_n 0 27 rfl rfl dX9_isOrphan_26 rfl ?_
    refine p_getIE 9 1 30 rfl dX9_isOrphan_27 fl_X9_280 rfl rfl hM.2.2.1.1 ?_
    refine p_icmp_ge 59 33 rfl rfl dX9_isOrphan_30 (fun h30 => absurd h30 (nI_ge (a := i) (b := aS (tO A)) (by omega) (by omega))) (fun h30 => ?_)
    refine p_iload_n 2 34 rfl rfl dX9_isOrphan_33 rfl ?_
    refine p_if_eq 51 37 rfl rfl dX9_isOrphan_34 (fun h34 => ?_) (fun h34 => ?_)
    · refine p_iconst (0) 52 rfl dX9_isOrphan_51 rfl ?_
      refine p_ist_n2 53 rfl rfl dX9_isOrphan_52 (Nat.le_of_ble_eq_true rfl) rfl ?_
      refine p_inc_3 56 rfl dX9_isOrphan_53 (1) rfl (Nat.le_of_ble_eq_true rfl) rfl ?_
      refine p_goto 25 rfl dX9_isOrphan_56 ?_
      have hB : B = false := by simpa only [b2i_eq0, Bool.not_eq_true, Decidable.not_not] using h34
      rw [nI_1, hB]
      exact ih (i + 1) false (by omega)
    · refine p_aload_n 0 38 rfl rfl dX9_isOrphan_37 rfl ?_
      refine p_iconst (0) 39 rfl dX9_isOrphan_38 rfl ?_
      refine p_iload_n 3 40 rfl rfl dX9_isOrphan_39 rfl ?_
      refine p_iload_n 1 41 rfl rfl dX9_isOrphan_40 rfl ?_
      refine p_cV3i 44 rfl dX9_isOrphan_41 (c_doesFit hM hw hv (by decide) hlt hs) ml_X9_331 vl_X9_doesFit rfl (by decide) rfl (Nat.le_of_ble_eq_true rfl) (Nat.le_of_ble_eq_true rfl) rfl ?_
      refine p_if_ne 51 47 rfl rfl dX9_isOrphan_44 (fun h44 => ?_) (fun h44 => ?_)
      · refine p_iconst (0) 52 rfl dX9_isOrphan_51 rfl ?_
        refine p_ist_n2 53 rfl rfl dX9_isOrphan_52 (Nat.le_of_ble_eq_true rfl) rfl ?_
        refine p_inc_3 56 rfl dX9_isOrphan_53 (1) rfl (Nat.le_of_ble_eq_true rfl) rfl ?_
        refine p_goto 25 rfl dX9_isOrphan_56 ?_
        have hB : B = true := by simpa only [b2i_eq0, Decidable.not_not, Bool.not_eq_true, Bool.not_eq_false] using h34
        have hb : fitt (tO A) (tV A) i s = true := by simpa only [b2i_eq0, b2i_1, Decidable.not_not, Bool.not_eq_true, Bool.not_eq_false] using h44
        rw [nI_1, hB]
        have e : (true && !anyF (n + 1) i (fun q => fitt (tO A) (tV A) q s)) = (false && !anyF n (i + 1) (fun q => fitt (tO A) (tV A) q s)) := by simp [anyF, hb]
        rw [e]
        exact ih (i + 1) false (by omega)
      · refine p_iconst (1) 48 rfl dX9_isOrphan_47 rfl ?_
        refine p_goto 52 rfl dX9_isOrphan_48 ?_
        refine p_ist_n2 53 rfl rfl dX9_isOrphan_52 (Nat.le_of_ble_eq_true rfl) rfl ?_
        refine p_inc_3 56 rfl dX9_isOrphan_53 (1) rfl (Nat.le_of_ble_eq_true rfl) rfl ?_
        refine p_goto 25 rfl dX9_isOrphan_56 ?_
        have hB : B = true := by simpa only [b2i_eq0, Decidable.not_not, Bool.not_eq_true, Bool.not_eq_false] using h34
        have hb : fitt (tO A) (tV A) i s = false := by simpa only [b2i_eq0, b2i_1, Bool.not_eq_true, Decidable.not_not] using h44
        rw [nI_1, hB]
        have e : (true && !anyF (n + 1) i (fun q => fitt (tO A) (tV A) q s)) = (true && !anyF n (i + 1) (fun q => fitt (tO A) (tV A) q s)) := by simp [anyF, hb]
        rw [e]
        exact ih (i + 1) true (by omega)
set_option maxRecDepth 4000 in
theorem c_isOrphan {τ : PH} (hR0 : RM τ A) {s : Nat} (hs : s < aS (tO A)) : CallOk Γ 5 0 0 mX9_isOrphan [.ref M0, .int (nI s)] τ (rI τ (b2i (orB (tO A) (tV A) s))) := by
  have hK := hR0.2.1
  have hO := hK.2.2.1
  have hc6 := hO.2.1
  have hw12 := hO.2.2.1
  have hs9 := hO.1
  have hv := hK.2.2.2.2.1.1
  have hd9 := hK.2.2.2.2.1.2
  have hM := hR0.1
  have hw := hR0.2.2.1
  refine p_enter rfl rfl (Nat.le_of_ble_eq_true rfl) rfl ?_
  refine p_aload_n 0 1 rfl rfl dX9_isOrphan_0 rfl ?_
  refine p_iconst (0) 2 rfl dX9_isOrphan_1 rfl ?_
  refine p_iload_n 1 3 rfl rfl dX9_isOrphan_2 rfl ?_
  refine p_cV2i 6 rfl dX9_isOrphan_3 (c_isBurnt hM hw hv (by decide) hs) ml_X9_319 vl_X9_isBurnt rfl (by decide) rfl (Nat.le_of_ble_eq_true rfl) (Nat.le_of_ble_eq_true rfl) rfl ?_
  refine p_if_ne 21 9 rfl rfl dX9_isOrphan_6 (fun h6 => ?_) (fun h6 => ?_)
  · refine p_iconst (0) 22 rfl dX9_isOrphan_21 rfl ?_
    refine p_ist_n2 23 rfl rfl dX9_isOrphan_22 (Nat.le_of_ble_eq_true rfl) rfl ?_
    refine p_iconst (0) 24 rfl dX9_isOrphan_23 rfl ?_
    refine p_ist_n3 25 rfl rfl dX9_isOrphan_24 (Nat.le_of_ble_eq_true rfl) rfl ?_
    have hb : (vP (tV A) s == 0) = true := by simpa only [b2i_eq0, b2i_1, Decidable.not_not, Bool.not_eq_true, Bool.not_eq_false] using h6
    have e : orB (tO A) (tV A) s = (false && !anyF (aS (tO A)) 0 (fun q => fitt (tO A) (tV A) q s)) := by unfold orB; rw [hb]; rfl
    rw [e]
    exact l_orph hR0 hs (aS (tO A)) 0 false (by omega)
  · refine p_aload_n 0 10 rfl rfl dX9_isOrphan_9 rfl ?_
    refine p_iload_n 1 11 rfl rfl dX9_isOrphan_10 rfl ?_
    refine p_cV1i 14 rfl dX9_isOrphan_11 (c_mFitting hM hw hv hs) ml_X9_384 vl_X9_fitting rfl (by decide) rfl (Nat.le_of_ble_eq_true rfl) (Nat.le_of_ble_eq_true rfl) rfl ?_
    refine p_if_ne 21 17 rfl rfl dX9_isOrphan_14 (fun h14 => ?_) (fun h14 => ?_)
    · refine p_iconst (0) 22 rfl dX9_isOrphan_21 rfl ?_
      refine p_ist_n2 23 rfl rfl dX9_isOrphan_22 (Nat.le_of_ble_eq_true rfl) rfl ?_
      refine p_iconst (0) 24 rfl dX9_isOrphan_23 rfl ?_
      refine p_ist_n3 25 rfl rfl dX9_isOrphan_24 (Nat.le_of_ble_eq_true rfl) rfl ?_
      have hfl : ftg (tO A) (tV A) s < 512 := Nat.lt_of_lt_of_le (setN_lt _ _) (Nat.pow_le_pow_right (by decide) hs9)
      have hb : (ftg (tO A) (tV A) s == 0) = false := by rw [beq_eq_false_iff_ne]; exact fun q => h14 (show nI (ftg (tO A) (tV A) s) = 0 by rw [q]; rfl)
      have e : orB (tO A) (tV A) s = (false && !anyF (aS (tO A)) 0 (fun q => fitt (tO A) (tV A) q s)) := by unfold orB; rw [hb, Bool.and_false]
      rw [e]
      exact l_orph hR0 hs (aS (tO A)) 0 false (by omega)
    · refine p_iconst (1) 18 rfl dX9_isOrphan_17 rfl ?_
      refine p_goto 22 rfl dX9_isOrphan_18 ?_
      refine p_ist_n2 23 rfl rfl dX9_isOrphan_22 (Nat.le_of_ble_eq_true rfl) rfl ?_
      refine p_iconst (0) 24 rfl dX9_isOrphan_23 rfl ?_
      refine p_ist_n3 25 rfl rfl dX9_isOrphan_24 (Nat.le_of_ble_eq_true rfl) rfl ?_
      have hb1 : (vP (tV A) s == 0) = false := by simpa only [b2i_eq0, b2i_1, Bool.not_eq_true, Decidable.not_not] using h6
      have hfl : ftg (tO A) (tV A) s < 512 := Nat.lt_of_lt_of_le (setN_lt _ _) (Nat.pow_le_pow_right (by decide) hs9)
      have hb2 : (ftg (tO A) (tV A) s == 0) = true := by rw [beq_iff_eq]; exact nI_eqI (show nI (ftg (tO A) (tV A) s) = nI 0 from h14) (by omega) (by decide)
      have e : orB (tO A) (tV A) s = (true && !anyF (aS (tO A)) 0 (fun q => fitt (tO A) (tV A) q s)) := by unfold orB; rw [hb1, hb2]; rfl
      rw [e]
      exact l_orph hR0 hs (aS (tO A)) 0 true (by omega)
set_option maxRecDepth 4000 in
theorem l_mHasW {τ : PH} (hR0 : RM τ A) {s q : Nat} : ∀ (n i : Nat), i + n = aW (tO A) → Ok Γ 1 0 0 mX9_hasWord 2 [some (.ref M0), some (.int (nI s)), some (.int (nI q)), some (.int (nI i))] [] τ (rI τ (b2i (anyF n i (fun k => (decide (nI (aL (tO A) k) = nI s) && decide (nI (aB (tO A) k) = nI q)) || (decide (nI (aL (tO A) k) = nI q) && decide (nI (aB (tO A) k) = nI s)))))) := by
  have hK := hR0.2.1
  have hO := hK.2.2.1
  have hc6 := hO.2.1
  have hw12 := hO.2.2.1
  have hs9 := hO.1
  have hv := hK.2.2.2.2.1.1
  have hd9 := hK.2.2.2.2.1.2
  have hM := hR0.1
  have hw := hR0.2.2.1
  intro n
  induction n with
  | zero =>
    intro i hi
    refine p_iload_n 3 3 rfl rfl dX9_hasWord_2 rfl ?_
    refine p_aload_n 0 4 rfl rfl dX9_hasWord_3 rfl ?_
    refine p_getIE 9 3 7 rfl dX9_hasWord_4 fl_X9_286 rfl rfl hM.2.2.1.2.2.1 ?_
    refine p_icmp_ge 58 10 rfl rfl dX9_hasWord_7 (fun h7 => ?_) (fun h7 => absurd (nI_le (a := aW (tO A)) (b := i) (by omega) (by omega)) h7)
    refine p_iconst (0) 59 rfl dX9_hasWord_58 rfl ?_
    exact p_zret dX9_hasWord_59 rfl (by decide) ⟨rfl, rfl⟩
  | succ n ih =>
    intro i hi
    have hlt : i < aW (tO A) := by omega
    refine p_iload_n 3 3 rfl rfl dX9_hasWord_2 rfl ?_
    refine p_aload_n 0 4 rfl rfl dX9_hasWord_3 rfl ?_
    refine p_getIE 9 3 7 rfl dX9_hasWord_4 fl_X9_286 rfl rfl hM.2.2.1.2.2.1 ?_
    refine p_icmp_ge 58 10 rfl rfl dX9_hasWord_7 (fun h7 => absurd h7 (nI_ge (a := i) (b := aW (tO A)) (by omega) (by omega))) (fun h7 => ?_)
    refine p_aload_n 0 11 rfl rfl dX9_hasWord_10 rfl ?_
    refine p_getR 9 9 14 rfl dX9_hasWord_11 fl_X9_23 rfl rfl (show hR _ M0 9 = mWl from hM.1 9) (by decide) ?_
    refine p_iload_n 3 15 rfl rfl dX9_hasWord_14 rfl ?_
    refine p_ialdE 16 rfl dX9_hasWord_15 (i := i) rfl (by show i < 12; omega) (hM.2.2.2.2.1 i hlt).1 ?_
    refine p_iload_n 1 17 rfl rfl dX9_hasWord_16 rfl ?_
    refine p_icmp_ne 30 20 rfl rfl dX9_hasWord_17 (fun h17 => ?_) (fun h17 => ?_)
    · refine p_aload_n 0 31 rfl rfl dX9_hasWord_30 rfl ?_
      refine p_getR 9 9 34 rfl dX9_hasWord_31 fl_X9_23 rfl rfl (show hR _ M0 9 = mWl from hM.1 9) (by decide) ?_
      refine p_iload_n 3 35 rfl rfl dX9_hasWord_34 rfl ?_
      refine p_ialdE 36 rfl dX9_hasWord_35 (i := i) rfl (by show i < 12; omega) (hM.2.2.2.2.1 i hlt).1 ?_
      refine p_iload_n 2 37 rfl rfl dX9_hasWord_36 rfl ?_
      refine p_icmp_ne 52 40 rfl rfl dX9_hasWord_37 (fun h37 => ?_) (fun h37 => ?_)
      · refine p_inc_3 55 rfl dX9_hasWord_52 (1) rfl (Nat.le_of_ble_eq_true rfl) rfl ?_
        refine p_goto 2 rfl dX9_hasWord_55 ?_
        have g1 : (decide (nI (aL (tO A) i) = nI s) && decide (nI (aB (tO A) i) = nI q)) = false := by rw [decide_eq_false h17]; rfl
        have hb : (fun k => (decide (nI (aL (tO A) k) = nI s) && decide (nI (aB (tO A) k) = nI q)) || (decide (nI (aL (tO A) k) = nI q) && decide (nI (aB (tO A) k) = nI s))) i = false := by show ((decide (nI (aL (tO A) i) = nI s) && decide (nI (aB (tO A) i) = nI q)) || (decide (nI (aL (tO A) i) = nI q) && decide (nI (aB (tO A) i) = nI s))) = false; rw [g1, decide_eq_false h37]; rfl
        have e : anyF (n + 1) i (fun k => (decide (nI (aL (tO A) k) = nI s) && decide (nI (aB (tO A) k) = nI q)) || (decide (nI (aL (tO A) k) = nI q) && decide (nI (aB (tO A) k) = nI s))) = anyF n (i + 1) (fun k => (decide (nI (aL (tO A) k) = nI s) && decide (nI (aB (tO A) k) = nI q)) || (decide (nI (aL (tO A) k) = nI q) && decide (nI (aB (tO A) k) = nI s))) := by show ((fun k => (decide (nI (aL (tO A) k) = nI s) && decide (nI (aB (tO A) k) = nI q)) || (decide (nI (aL (tO A) k) = nI q) && decide (nI (aB (tO A) k) = nI s))) i || anyF n (i + 1) (fun k => (decide (nI (aL (tO A) k) = nI s) && decide (nI (aB (tO A) k) = nI q)) || (decide (nI (aL (tO A) k) = nI q) && decide (nI (aB (tO A) k) = nI s)))) = _; rw [hb]; rfl
        rw [nI_1, e]
        exact ih (i + 1) (by omega)
      · refine p_aload_n 0 41 rfl rfl dX9_hasWord_40 rfl ?_
        refine p_getR 9 10 44 rfl dX9_hasWord_41 fl_X9_26 rfl rfl (show hR _ M0 10 = mWr from hM.1 10) (by decide) ?_
        refine p_iload_n 3 45 rfl rfl dX9_hasWord_44 rfl ?_
        refine p_ialdE 46 rfl dX9_hasWord_45 (i := i) rfl (by show i < 12; omega) (hM.2.2.2.2.1 i hlt).2 ?_
        refine p_iload_n 1 47 rfl rfl dX9_hasWord_46 rfl ?_
        refine p_icmp_ne 52 50 rfl rfl dX9_hasWord_47 (fun h47 => ?_) (fun h47 => ?_)
        · refine p_inc_3 55 rfl dX9_hasWord_52 (1) rfl (Nat.le_of_ble_eq_true rfl) rfl ?_
          refine p_goto 2 rfl dX9_hasWord_55 ?_
          have g1 : (decide (nI (aL (tO A) i) = nI s) && decide (nI (aB (tO A) i) = nI q)) = false := by rw [decide_eq_false h17]; rfl
          have hb : (fun k => (decide (nI (aL (tO A) k) = nI s) && decide (nI (aB (tO A) k) = nI q)) || (decide (nI (aL (tO A) k) = nI q) && decide (nI (aB (tO A) k) = nI s))) i = false := by show ((decide (nI (aL (tO A) i) = nI s) && decide (nI (aB (tO A) i) = nI q)) || (decide (nI (aL (tO A) i) = nI q) && decide (nI (aB (tO A) i) = nI s))) = false; rw [g1, decide_eq_false h47, Bool.and_false]; rfl
          have e : anyF (n + 1) i (fun k => (decide (nI (aL (tO A) k) = nI s) && decide (nI (aB (tO A) k) = nI q)) || (decide (nI (aL (tO A) k) = nI q) && decide (nI (aB (tO A) k) = nI s))) = anyF n (i + 1) (fun k => (decide (nI (aL (tO A) k) = nI s) && decide (nI (aB (tO A) k) = nI q)) || (decide (nI (aL (tO A) k) = nI q) && decide (nI (aB (tO A) k) = nI s))) := by show ((fun k => (decide (nI (aL (tO A) k) = nI s) && decide (nI (aB (tO A) k) = nI q)) || (decide (nI (aL (tO A) k) = nI q) && decide (nI (aB (tO A) k) = nI s))) i || anyF n (i + 1) (fun k => (decide (nI (aL (tO A) k) = nI s) && decide (nI (aB (tO A) k) = nI q)) || (decide (nI (aL (tO A) k) = nI q) && decide (nI (aB (tO A) k) = nI s)))) = _; rw [hb]; rfl
          rw [nI_1, e]
          exact ih (i + 1) (by omega)
        · have g1 : (decide (nI (aL (tO A) i) = nI s) && decide (nI (aB (tO A) i) = nI q)) = false := by rw [decide_eq_false h17]; rfl
          have hb : (fun k => (decide (nI (aL (tO A) k) = nI s) && decide (nI (aB (tO A) k) = nI q)) || (decide (nI (aL (tO A) k) = nI q) && decide (nI (aB (tO A) k) = nI s))) i = true := by show ((decide (nI (aL (tO A) i) = nI s) && decide (nI (aB (tO A) i) = nI q)) || (decide (nI (aL (tO A) i) = nI q) && decide (nI (aB (tO A) i) = nI s))) = true; rw [g1, decide_eq_true h37, decide_eq_true h47]; rfl
          refine p_iconst (1) 51 rfl dX9_hasWord_50 rfl ?_
          exact p_zret dX9_hasWord_51 rfl (by decide) ⟨by rw [show anyF (n + 1) i (fun k => (decide (nI (aL (tO A) k) = nI s) && decide (nI (aB (tO A) k) = nI q)) || (decide (nI (aL (tO A) k) = nI q) && decide (nI (aB (tO A) k) = nI s))) = true by show ((fun k => (decide (nI (aL (tO A) k) = nI s) && decide (nI (aB (tO A) k) = nI q)) || (decide (nI (aL (tO A) k) = nI q) && decide (nI (aB (tO A) k) = nI s))) i || anyF n (i + 1) (fun k => (decide (nI (aL (tO A) k) = nI s) && decide (nI (aB (tO A) k) = nI q)) || (decide (nI (aL (tO A) k) = nI q) && decide (nI (aB (tO A) k) = nI s)))) = true; rw [hb]; rfl]; rfl, rfl⟩
    · refine p_aload_n 0 21 rfl rfl dX9_hasWord_20 rfl ?_
      refine p_getR 9 10 24 rfl dX9_hasWord_21 fl_X9_26 rfl rfl (show hR _ M0 10 = mWr from hM.1 10) (by decide) ?_
      refine p_iload_n 3 25 rfl rfl dX9_hasWord_24 rfl ?_
      refine p_ialdE 26 rfl dX9_hasWord_25 (i := i) rfl (by show i < 12; omega) (hM.2.2.2.2.1 i hlt).2 ?_
      refine p_iload_n 2 27 rfl rfl dX9_hasWord_26 rfl ?_
      refine p_icmp_eq 50 30 rfl rfl dX9_hasWord_27 (fun h27 => ?_) (fun h27 => ?_)
      · have hb : (fun k => (decide (nI (aL (tO A) k) = nI s) && decide (nI (aB (tO A) k) = nI q)) || (decide (nI (aL (tO A) k) = nI q) && decide (nI (aB (tO A) k) = nI s))) i = true := by show ((decide (nI (aL (tO A) i) = nI s) && decide (nI (aB (tO A) i) = nI q)) || (decide (nI (aL (tO A) i) = nI q) && decide (nI (aB (tO A) i) = nI s))) = true; rw [decide_eq_true h17, decide_eq_true h27]; rfl
        refine p_iconst (1) 51 rfl dX9_hasWord_50 rfl ?_
        exact p_zret dX9_hasWord_51 rfl (by decide) ⟨by rw [show anyF (n + 1) i (fun k => (decide (nI (aL (tO A) k) = nI s) && decide (nI (aB (tO A) k) = nI q)) || (decide (nI (aL (tO A) k) = nI q) && decide (nI (aB (tO A) k) = nI s))) = true by show ((fun k => (decide (nI (aL (tO A) k) = nI s) && decide (nI (aB (tO A) k) = nI q)) || (decide (nI (aL (tO A) k) = nI q) && decide (nI (aB (tO A) k) = nI s))) i || anyF n (i + 1) (fun k => (decide (nI (aL (tO A) k) = nI s) && decide (nI (aB (tO A) k) = nI q)) || (decide (nI (aL (tO A) k) = nI q) && decide (nI (aB (tO A) k) = nI s)))) = true; rw [hb]; rfl]; rfl, rfl⟩
      · refine p_aload_n 0 31 rfl rfl dX9_hasWord_30 rfl ?_
        refine p_getR 9 9 34 rfl dX9_hasWord_31 fl_X9_23 rfl rfl (show hR _ M0 9 = mWl from hM.1 9) (by decide) ?_
        refine p_iload_n 3 35 rfl rfl dX9_hasWord_34 rfl ?_
        refine p_ialdE 36 rfl dX9_hasWord_35 (i := i) rfl (by show i < 12; omega) (hM.2.2.2.2.1 i hlt).1 ?_
        refine p_iload_n 2 37 rfl rfl dX9_hasWord_36 rfl ?_
        refine p_icmp_ne 52 40 rfl rfl dX9_hasWord_37 (fun h37 => ?_) (fun h37 => ?_)
        · refine p_inc_3 55 rfl dX9_hasWord_52 (1) rfl (Nat.le_of_ble_eq_true rfl) rfl ?_
          refine p_goto 2 rfl dX9_hasWord_55 ?_
          have g1 : (decide (nI (aL (tO A) i) = nI s) && decide (nI (aB (tO A) i) = nI q)) = false := by rw [decide_eq_false h27, Bool.and_false]
          have hb : (fun k => (decide (nI (aL (tO A) k) = nI s) && decide (nI (aB (tO A) k) = nI q)) || (decide (nI (aL (tO A) k) = nI q) && decide (nI (aB (tO A) k) = nI s))) i = false := by show ((decide (nI (aL (tO A) i) = nI s) && decide (nI (aB (tO A) i) = nI q)) || (decide (nI (aL (tO A) i) = nI q) && decide (nI (aB (tO A) i) = nI s))) = false; rw [g1, decide_eq_false h37]; rfl
          have e : anyF (n + 1) i (fun k => (decide (nI (aL (tO A) k) = nI s) && decide (nI (aB (tO A) k) = nI q)) || (decide (nI (aL (tO A) k) = nI q) && decide (nI (aB (tO A) k) = nI s))) = anyF n (i + 1) (fun k => (decide (nI (aL (tO A) k) = nI s) && decide (nI (aB (tO A) k) = nI q)) || (decide (nI (aL (tO A) k) = nI q) && decide (nI (aB (tO A) k) = nI s))) := by show ((fun k => (decide (nI (aL (tO A) k) = nI s) && decide (nI (aB (tO A) k) = nI q)) || (decide (nI (aL (tO A) k) = nI q) && decide (nI (aB (tO A) k) = nI s))) i || anyF n (i + 1) (fun k => (decide (nI (aL (tO A) k) = nI s) && decide (nI (aB (tO A) k) = nI q)) || (decide (nI (aL (tO A) k) = nI q) && decide (nI (aB (tO A) k) = nI s)))) = _; rw [hb]; rfl
          rw [nI_1, e]
          exact ih (i + 1) (by omega)
        · refine p_aload_n 0 41 rfl rfl dX9_hasWord_40 rfl ?_
          refine p_getR 9 10 44 rfl dX9_hasWord_41 fl_X9_26 rfl rfl (show hR _ M0 10 = mWr from hM.1 10) (by decide) ?_
          refine p_iload_n 3 45 rfl rfl dX9_hasWord_44 rfl ?_
          refine p_ialdE 46 rfl dX9_hasWord_45 (i := i) rfl (by show i < 12; omega) (hM.2.2.2.2.1 i hlt).2 ?_
          refine p_iload_n 1 47 rfl rfl dX9_hasWord_46 rfl ?_
          refine p_icmp_ne 52 50 rfl rfl dX9_hasWord_47 (fun h47 => ?_) (fun h47 => ?_)
          · refine p_inc_3 55 rfl dX9_hasWord_52 (1) rfl (Nat.le_of_ble_eq_true rfl) rfl ?_
            refine p_goto 2 rfl dX9_hasWord_55 ?_
            have g1 : (decide (nI (aL (tO A) i) = nI s) && decide (nI (aB (tO A) i) = nI q)) = false := by rw [decide_eq_false h27, Bool.and_false]
            have hb : (fun k => (decide (nI (aL (tO A) k) = nI s) && decide (nI (aB (tO A) k) = nI q)) || (decide (nI (aL (tO A) k) = nI q) && decide (nI (aB (tO A) k) = nI s))) i = false := by show ((decide (nI (aL (tO A) i) = nI s) && decide (nI (aB (tO A) i) = nI q)) || (decide (nI (aL (tO A) i) = nI q) && decide (nI (aB (tO A) i) = nI s))) = false; rw [g1, decide_eq_false h47, Bool.and_false]; rfl
            have e : anyF (n + 1) i (fun k => (decide (nI (aL (tO A) k) = nI s) && decide (nI (aB (tO A) k) = nI q)) || (decide (nI (aL (tO A) k) = nI q) && decide (nI (aB (tO A) k) = nI s))) = anyF n (i + 1) (fun k => (decide (nI (aL (tO A) k) = nI s) && decide (nI (aB (tO A) k) = nI q)) || (decide (nI (aL (tO A) k) = nI q) && decide (nI (aB (tO A) k) = nI s))) := by show ((fun k => (decide (nI (aL (tO A) k) = nI s) && decide (nI (aB (tO A) k) = nI q)) || (decide (nI (aL (tO A) k) = nI q) && decide (nI (aB (tO A) k) = nI s))) i || anyF n (i + 1) (fun k => (decide (nI (aL (tO A) k) = nI s) && decide (nI (aB (tO A) k) = nI q)) || (decide (nI (aL (tO A) k) = nI q) && decide (nI (aB (tO A) k) = nI s)))) = _; rw [hb]; rfl
            rw [nI_1, e]
            exact ih (i + 1) (by omega)
          · have g1 : (decide (nI (aL (tO A) i) = nI s) && decide (nI (aB (tO A) i) = nI q)) = false := by rw [decide_eq_false h27, Bool.and_false]
            have hb : (fun k => (decide (nI (aL (tO A) k) = nI s) && decide (nI (aB (tO A) k) = nI q)) || (decide (nI (aL (tO A) k) = nI q) && decide (nI (aB (tO A) k) = nI s))) i = true := by show ((decide (nI (aL (tO A) i) = nI s) && decide (nI (aB (tO A) i) = nI q)) || (decide (nI (aL (tO A) i) = nI q) && decide (nI (aB (tO A) i) = nI s))) = true; rw [g1, decide_eq_true h37, decide_eq_true h47]; rfl
            refine p_iconst (1) 51 rfl dX9_hasWord_50 rfl ?_
            exact p_zret dX9_hasWord_51 rfl (by decide) ⟨by rw [show anyF (n + 1) i (fun k => (decide (nI (aL (tO A) k) = nI s) && decide (nI (aB (tO A) k) = nI q)) || (decide (nI (aL (tO A) k) = nI q) && decide (nI (aB (tO A) k) = nI s))) = true by show ((fun k => (decide (nI (aL (tO A) k) = nI s) && decide (nI (aB (tO A) k) = nI q)) || (decide (nI (aL (tO A) k) = nI q) && decide (nI (aB (tO A) k) = nI s))) i || anyF n (i + 1) (fun k => (decide (nI (aL (tO A) k) = nI s) && decide (nI (aB (tO A) k) = nI q)) || (decide (nI (aL (tO A) k) = nI q) && decide (nI (aB (tO A) k) = nI s)))) = true; rw [hb]; rfl]; rfl, rfl⟩
set_option maxRecDepth 4000 in
theorem c_mHasW {τ : PH} (hR0 : RM τ A) {s q : Nat} : CallOk Γ 1 0 0 mX9_hasWord [.ref M0, .int (nI s), .int (nI q)] τ (rI τ (b2i (hasW (tO A) (nI s) (nI q) || hasW (tO A) (nI q) (nI s)))) := by
  unfold hasW
  rw [← anyF_or]
  refine p_enter rfl rfl (Nat.le_of_ble_eq_true rfl) rfl ?_
  refine p_iconst (0) 1 rfl dX9_hasWord_0 rfl ?_
  refine p_ist_n3 2 rfl rfl dX9_hasWord_1 (Nat.le_of_ble_eq_true rfl) rfl ?_
  exact l_mHasW hR0 (aW (tO A)) 0 (by omega)
set_option maxRecDepth 4000 in
theorem l_odd0 {τ : PH} (hR0 : RM τ A) (h0 : hI τ M0 0 = 0) (hc1 : ChM σ τ) {x1 : Int32} {x4 : Option Value} : ∀ (n i : Nat), i + n = aS (tO A) → Ok Γ 11 0 0 mX9_odd 24 [some (.ref M0), some (.int x1), some (.int (nI (setN i (fun s => orB (tO A) (tV A) s)))), some (.int (nI i)), x4] [] τ (rM (0, nI (setN (aS (tO A)) (fun s => orB (tO A) (tV A) s))) (fun σ' => RM σ' A ∧ ChM σ σ')) := by
  have hK := hR0.2.1
  have hO := hK.2.2.1
  have hc6 := hO.2.1
  have hw12 := hO.2.2.1
  have hs9 := hO.1
  have hv := hK.2.2.2.2.1.1
  have hd9 := hK.2.2.2.2.1.2
  have hM := hR0.1
  have hw := hR0.2.2.1
  intro n
  induction n with
  | zero =>
    intro i hi
    refine p_iload_n 3 25 rfl rfl dX9_odd_24 rfl ?_
    refine p_aload_n 0 26 rfl rfl dX9_odd_25 rfl ?_
    refine p_getIE 9 1 29 rfl dX9_odd_26 fl_X9_280 rfl rfl hM.2.2.1.1 ?_
    refine p_icmp_ge 56 32 rfl rfl dX9_odd_29 (fun h29 => ?_) (fun h29 => absurd (nI_le (a := aS (tO A)) (b := i) (by omega) (by omega)) h29)
    refine p_goto 208 rfl dX9_odd_56 ?_
    refine p_iload_n 2 209 rfl rfl dX9_odd_208 rfl ?_
    exact p_iret dX9_odd_209 rfl ⟨_, rfl, h0, fun _ => by rw [show i = aS (tO A) by omega], hR0, hc1⟩
  | succ n ih =>
    intro i hi
    have hlt : i < aS (tO A) := by omega
    refine p_iload_n 3 25 rfl rfl dX9_odd_24 rfl ?_
    refine p_aload_n 0 26 rfl rfl dX9_odd_25 rfl ?_
    refine p_getIE 9 1 29 rfl dX9_odd_26 fl_X9_280 rfl rfl hM.2.2.1.1 ?_
    refine p_icmp_ge 56 32 rfl rfl dX9_odd_29 (fun h29 => absurd h29 (nI_ge (a := i) (b := aS (tO A)) (by omega) (by omega))) (fun h29 => ?_)
    refine p_iload_n 2 33 rfl rfl dX9_odd_32 rfl ?_
    refine p_aload_n 0 34 rfl rfl dX9_odd_33 rfl ?_
    refine p_iload_n 3 35 rfl rfl dX9_odd_34 rfl ?_
    refine p_cV1i 38 rfl dX9_odd_35 (c_isOrphan hR0 hlt) ml_X9_467 vl_X9_isOrphan rfl (by decide) rfl (Nat.le_of_ble_eq_true rfl) (Nat.le_of_ble_eq_true rfl) rfl ?_
    refine p_if_eq 47 41 rfl rfl dX9_odd_38 (fun h38 => ?_) (fun h38 => ?_)
    · refine p_iconst (0) 48 rfl dX9_odd_47 rfl ?_
      refine p_ior 49 rfl dX9_odd_48 ?_
      refine p_ist_n2 50 rfl rfl dX9_odd_49 (Nat.le_of_ble_eq_true rfl) rfl ?_
      refine p_inc_3 53 rfl dX9_odd_50 (1) rfl (Nat.le_of_ble_eq_true rfl) rfl ?_
      refine p_goto 24 rfl dX9_odd_53 ?_
      have hb : orB (tO A) (tV A) i = false := by simpa only [b2i_eq0, b2i_1, Bool.not_eq_true, Decidable.not_not] using h38
      rw [or0, nI_1, ← set_f (p := (fun s => orB (tO A) (tV A) s)) (by rw [hb]; decide)]
      exact ih (i + 1) (by omega)
    · refine p_iconst (1) 42 rfl dX9_odd_41 rfl ?_
      refine p_iload_n 3 43 rfl rfl dX9_odd_42 rfl ?_
      refine p_ishl 44 rfl dX9_odd_43 ?_
      refine p_goto 48 rfl dX9_odd_44 ?_
      refine p_ior 49 rfl dX9_odd_48 ?_
      refine p_ist_n2 50 rfl rfl dX9_odd_49 (Nat.le_of_ble_eq_true rfl) rfl ?_
      refine p_inc_3 53 rfl dX9_odd_50 (1) rfl (Nat.le_of_ble_eq_true rfl) rfl ?_
      refine p_goto 24 rfl dX9_odd_53 ?_
      have hb : orB (tO A) (tV A) i = true := by simpa only [b2i_eq0, b2i_1, Decidable.not_not, Bool.not_eq_true, Bool.not_eq_false] using h38
      rw [set_t (p := (fun s => orB (tO A) (tV A) s)) hb (by omega), nI_1]
      exact ih (i + 1) (by omega)
set_option maxRecDepth 4000 in
theorem l_odd3i {τ : PH} (hR0 : RM τ A) {x1 : Int32} {s a : Nat} (hs : s < aS (tO A)) {Q : PO → PH → Prop} (kk : ∀ x4, Ok Γ 11 0 0 mX9_odd 66 [some (.ref M0), some (.int x1), some (.int (nI (ogI (tO A) (tV A) s a s))), some (.int (nI (s + 1))), x4] [] τ Q) : ∀ (n j : Nat), j + n = s → Ok Γ 11 0 0 mX9_odd 77 [some (.ref M0), some (.int x1), some (.int (nI (ogI (tO A) (tV A) s a j))), some (.int (nI s)), some (.int (nI j))] [] τ Q := by
  have hK := hR0.2.1
  have hO := hK.2.2.1
  have hc6 := hO.2.1
  have hw12 := hO.2.2.1
  have hs9 := hO.1
  have hv := hK.2.2.2.2.1.1
  have hd9 := hK.2.2.2.2.1.2
  have hM := hR0.1
  have hw := hR0.2.2.1
  intro n
  induction n with
  | zero =>
    intro j hj
    refine p_iload 4 79 rfl dX9_odd_77 rfl ?_
    refine p_iload_n 3 80 rfl rfl dX9_odd_79 rfl ?_
    refine p_icmp_ge 129 83 rfl rfl dX9_odd_80 (fun h80 => ?_) (fun h80 => absurd (nI_le (a := s) (b := j) (by omega) (by omega)) h80)
    refine p_inc_3 132 rfl dX9_odd_129 (1) rfl (Nat.le_of_ble_eq_true rfl) rfl ?_
    refine p_goto 66 rfl dX9_odd_132 ?_
    rw [show j = s by omega, nI_1]
    exact kk _
  | succ n ih =>
    intro j hj
    refine p_iload 4 79 rfl dX9_odd_77 rfl ?_
    refine p_iload_n 3 80 rfl rfl dX9_odd_79 rfl ?_
    refine p_icmp_ge 129 83 rfl rfl dX9_odd_80 (fun h80 => absurd h80 (nI_ge (a := j) (b := s) (by omega) (by omega))) (fun h80 => ?_)
    refine p_iload_n 2 84 rfl rfl dX9_odd_83 rfl ?_
    refine p_aload_n 0 85 rfl rfl dX9_odd_84 rfl ?_
    refine p_iconst (0) 86 rfl dX9_odd_85 rfl ?_
    refine p_iload_n 3 87 rfl rfl dX9_odd_86 rfl ?_
    refine p_iload 4 89 rfl dX9_odd_87 rfl ?_
    refine p_cV3i 92 rfl dX9_odd_89 (c_doesFit hM hw hv (by decide) hs (by omega)) ml_X9_331 vl_X9_doesFit rfl (by decide) rfl (Nat.le_of_ble_eq_true rfl) (Nat.le_of_ble_eq_true rfl) rfl ?_
    refine p_if_ne 106 95 rfl rfl dX9_odd_92 (fun h92 => ?_) (fun h92 => ?_)
    · refine p_aload_n 0 107 rfl rfl dX9_odd_106 rfl ?_
      refine p_iload_n 3 108 rfl rfl dX9_odd_107 rfl ?_
      refine p_iload 4 110 rfl dX9_odd_108 rfl ?_
      refine p_cV2i 113 rfl dX9_odd_110 (c_mHasW hR0) ml_X9_470 vl_X9_hasWord rfl (by decide) rfl (Nat.le_of_ble_eq_true rfl) (Nat.le_of_ble_eq_true rfl) rfl ?_
      refine p_if_ne 120 116 rfl rfl dX9_odd_113 (fun h113 => ?_) (fun h113 => ?_)
      · refine p_iconst (0) 121 rfl dX9_odd_120 rfl ?_
        refine p_iadd 122 rfl dX9_odd_121 ?_
        refine p_ist_n2 123 rfl rfl dX9_odd_122 (Nat.le_of_ble_eq_true rfl) rfl ?_
        refine p_inc_4 126 rfl dX9_odd_123 (1) rfl (Nat.le_of_ble_eq_true rfl) rfl ?_
        refine p_goto 77 rfl dX9_odd_126 ?_
        have g1 : fitt (tO A) (tV A) s j = true := by simpa only [b2i_eq0, b2i_1, Decidable.not_not, Bool.not_eq_true, Bool.not_eq_false] using h92
        have gg : (fitt (tO A) (tV A) s j || fitt (tO A) (tV A) j s) = true := by rw [g1]; rfl
        have g3 : (hasW (tO A) (nI s) (nI j) || hasW (tO A) (nI j) (nI s)) = true := by simpa only [b2i_eq0, b2i_1, Decidable.not_not, Bool.not_eq_true, Bool.not_eq_false] using h113
        have hb : ogP (tO A) (tV A) s j = false := by show ((fitt (tO A) (tV A) s j || fitt (tO A) (tV A) j s) && !(hasW (tO A) (nI s) (nI j) || hasW (tO A) (nI j) (nI s))) = false; rw [g3, Bool.not_true, Bool.and_false]
        have e : ogI (tO A) (tV A) s a (j + 1) = (ogI (tO A) (tV A) s a j) := by simp [ogI, hb]
        rw [show nI (ogI (tO A) (tV A) s a j) + 0 = nI (ogI (tO A) (tV A) s a j) from nI_add _ 0, nI_1, ← e]
        exact ih (j + 1) (by omega)
      · refine p_iconst (1) 117 rfl dX9_odd_116 rfl ?_
        refine p_goto 121 rfl dX9_odd_117 ?_
        refine p_iadd 122 rfl dX9_odd_121 ?_
        refine p_ist_n2 123 rfl rfl dX9_odd_122 (Nat.le_of_ble_eq_true rfl) rfl ?_
        refine p_inc_4 126 rfl dX9_odd_123 (1) rfl (Nat.le_of_ble_eq_true rfl) rfl ?_
        refine p_goto 77 rfl dX9_odd_126 ?_
        have g1 : fitt (tO A) (tV A) s j = true := by simpa only [b2i_eq0, b2i_1, Decidable.not_not, Bool.not_eq_true, Bool.not_eq_false] using h92
        have gg : (fitt (tO A) (tV A) s j || fitt (tO A) (tV A) j s) = true := by rw [g1]; rfl
        have g3 : (hasW (tO A) (nI s) (nI j) || hasW (tO A) (nI j) (nI s)) = false := by simpa only [b2i_eq0, b2i_1, Bool.not_eq_true, Decidable.not_not] using h113
        have hb : ogP (tO A) (tV A) s j = true := by show ((fitt (tO A) (tV A) s j || fitt (tO A) (tV A) j s) && !(hasW (tO A) (nI s) (nI j) || hasW (tO A) (nI j) (nI s))) = true; rw [gg, g3]; rfl
        have e : ogI (tO A) (tV A) s a (j + 1) = (ogI (tO A) (tV A) s a j) + 1 := by simp [ogI, hb]
        rw [nI_1, nI_1, ← e]
        exact ih (j + 1) (by omega)
    · refine p_aload_n 0 96 rfl rfl dX9_odd_95 rfl ?_
      refine p_iconst (0) 97 rfl dX9_odd_96 rfl ?_
      refine p_iload 4 99 rfl dX9_odd_97 rfl ?_
      refine p_iload_n 3 100 rfl rfl dX9_odd_99 rfl ?_
      refine p_cV3i 103 rfl dX9_odd_100 (c_doesFit hM hw hv (by decide) (by omega) hs) ml_X9_331 vl_X9_doesFit rfl (by decide) rfl (Nat.le_of_ble_eq_true rfl) (Nat.le_of_ble_eq_true rfl) rfl ?_
      refine p_if_eq 120 106 rfl rfl dX9_odd_103 (fun h103 => ?_) (fun h103 => ?_)
      · refine p_iconst (0) 121 rfl dX9_odd_120 rfl ?_
        refine p_iadd 122 rfl dX9_odd_121 ?_
        refine p_ist_n2 123 rfl rfl dX9_odd_122 (Nat.le_of_ble_eq_true rfl) rfl ?_
        refine p_inc_4 126 rfl dX9_odd_123 (1) rfl (Nat.le_of_ble_eq_true rfl) rfl ?_
        refine p_goto 77 rfl dX9_odd_126 ?_
        have g1 : fitt (tO A) (tV A) s j = false := by simpa only [b2i_eq0, b2i_1, Bool.not_eq_true, Decidable.not_not] using h92
        have g2 : fitt (tO A) (tV A) j s = false := by simpa only [b2i_eq0, b2i_1, Bool.not_eq_true, Decidable.not_not] using h103
        have gg : (fitt (tO A) (tV A) s j || fitt (tO A) (tV A) j s) = false := by rw [g1, g2]; rfl
        have hb : ogP (tO A) (tV A) s j = false := by show ((fitt (tO A) (tV A) s j || fitt (tO A) (tV A) j s) && !(hasW (tO A) (nI s) (nI j) || hasW (tO A) (nI j) (nI s))) = false; rw [gg]; rfl
        have e : ogI (tO A) (tV A) s a (j + 1) = (ogI (tO A) (tV A) s a j) := by simp [ogI, hb]
        rw [show nI (ogI (tO A) (tV A) s a j) + 0 = nI (ogI (tO A) (tV A) s a j) from nI_add _ 0, nI_1, ← e]
        exact ih (j + 1) (by omega)
      · refine p_aload_n 0 107 rfl rfl dX9_odd_106 rfl ?_
        refine p_iload_n 3 108 rfl rfl dX9_odd_107 rfl ?_
        refine p_iload 4 110 rfl dX9_odd_108 rfl ?_
        refine p_cV2i 113 rfl dX9_odd_110 (c_mHasW hR0) ml_X9_470 vl_X9_hasWord rfl (by decide) rfl (Nat.le_of_ble_eq_true rfl) (Nat.le_of_ble_eq_true rfl) rfl ?_
        refine p_if_ne 120 116 rfl rfl dX9_odd_113 (fun h113 => ?_) (fun h113 => ?_)
        · refine p_iconst (0) 121 rfl dX9_odd_120 rfl ?_
          refine p_iadd 122 rfl dX9_odd_121 ?_
          refine p_ist_n2 123 rfl rfl dX9_odd_122 (Nat.le_of_ble_eq_true rfl) rfl ?_
          refine p_inc_4 126 rfl dX9_odd_123 (1) rfl (Nat.le_of_ble_eq_true rfl) rfl ?_
          refine p_goto 77 rfl dX9_odd_126 ?_
          have g2 : fitt (tO A) (tV A) j s = true := by simpa only [b2i_eq0, b2i_1, Decidable.not_not, Bool.not_eq_true, Bool.not_eq_false] using h103
          have gg : (fitt (tO A) (tV A) s j || fitt (tO A) (tV A) j s) = true := by rw [g2, Bool.or_true]
          have g3 : (hasW (tO A) (nI s) (nI j) || hasW (tO A) (nI j) (nI s)) = true := by simpa only [b2i_eq0, b2i_1, Decidable.not_not, Bool.not_eq_true, Bool.not_eq_false] using h113
          have hb : ogP (tO A) (tV A) s j = false := by show ((fitt (tO A) (tV A) s j || fitt (tO A) (tV A) j s) && !(hasW (tO A) (nI s) (nI j) || hasW (tO A) (nI j) (nI s))) = false; rw [g3, Bool.not_true, Bool.and_false]
          have e : ogI (tO A) (tV A) s a (j + 1) = (ogI (tO A) (tV A) s a j) := by simp [ogI, hb]
          rw [show nI (ogI (tO A) (tV A) s a j) + 0 = nI (ogI (tO A) (tV A) s a j) from nI_add _ 0, nI_1, ← e]
          exact ih (j + 1) (by omega)
        · refine p_iconst (1) 117 rfl dX9_odd_116 rfl ?_
          refine p_goto 121 rfl dX9_odd_117 ?_
          refine p_iadd 122 rfl dX9_odd_121 ?_
          refine p_ist_n2 123 rfl rfl dX9_odd_122 (Nat.le_of_ble_eq_true rfl) rfl ?_
          refine p_inc_4 126 rfl dX9_odd_123 (1) rfl (Nat.le_of_ble_eq_true rfl) rfl ?_
          refine p_goto 77 rfl dX9_odd_126 ?_
          have g2 : fitt (tO A) (tV A) j s = true := by simpa only [b2i_eq0, b2i_1, Decidable.not_not, Bool.not_eq_true, Bool.not_eq_false] using h103
          have gg : (fitt (tO A) (tV A) s j || fitt (tO A) (tV A) j s) = true := by rw [g2, Bool.or_true]
          have g3 : (hasW (tO A) (nI s) (nI j) || hasW (tO A) (nI j) (nI s)) = false := by simpa only [b2i_eq0, b2i_1, Bool.not_eq_true, Decidable.not_not] using h113
          have hb : ogP (tO A) (tV A) s j = true := by show ((fitt (tO A) (tV A) s j || fitt (tO A) (tV A) j s) && !(hasW (tO A) (nI s) (nI j) || hasW (tO A) (nI j) (nI s))) = true; rw [gg, g3]; rfl
          have e : ogI (tO A) (tV A) s a (j + 1) = (ogI (tO A) (tV A) s a j) + 1 := by simp [ogI, hb]
          rw [nI_1, nI_1, ← e]
          exact ih (j + 1) (by omega)
set_option maxRecDepth 4000 in
theorem l_odd3 {τ : PH} (hR0 : RM τ A) (h0 : hI τ M0 0 = 0) (hc1 : ChM σ τ) {x1 : Int32} : ∀ (n s : Nat) (x4 : Option Value), s + n = aS (tO A) → Ok Γ 11 0 0 mX9_odd 66 [some (.ref M0), some (.int x1), some (.int (nI (og (tO A) (tV A) s))), some (.int (nI s)), x4] [] τ (rM (0, nI (og (tO A) (tV A) (aS (tO A)))) (fun σ' => RM σ' A ∧ ChM σ σ')) := by
  have hK := hR0.2.1
  have hO := hK.2.2.1
  have hc6 := hO.2.1
  have hw12 := hO.2.2.1
  have hs9 := hO.1
  have hv := hK.2.2.2.2.1.1
  have hd9 := hK.2.2.2.2.1.2
  have hM := hR0.1
  have hw := hR0.2.2.1
  intro n
  induction n with
  | zero =>
    intro s x4 hi
    refine p_iload_n 3 67 rfl rfl dX9_odd_66 rfl ?_
    refine p_aload_n 0 68 rfl rfl dX9_odd_67 rfl ?_
    refine p_getIE 9 1 71 rfl dX9_odd_68 fl_X9_280 rfl rfl hM.2.2.1.1 ?_
    refine p_icmp_ge 135 74 rfl rfl dX9_odd_71 (fun h71 => ?_) (fun h71 => absurd (nI_le (a := aS (tO A)) (b := s) (by omega) (by omega)) h71)
    refine p_goto 208 rfl dX9_odd_135 ?_
    refine p_iload_n 2 209 rfl rfl dX9_odd_208 rfl ?_
    exact p_iret dX9_odd_209 rfl ⟨_, rfl, h0, fun _ => by rw [show s = aS (tO A) by omega], hR0, hc1⟩
  | succ n ih =>
    intro s x4 hi
    have hlt : s < aS (tO A) := by omega
    refine p_iload_n 3 67 rfl rfl dX9_odd_66 rfl ?_
    refine p_aload_n 0 68 rfl rfl dX9_odd_67 rfl ?_
    refine p_getIE 9 1 71 rfl dX9_odd_68 fl_X9_280 rfl rfl hM.2.2.1.1 ?_
    refine p_icmp_ge 135 74 rfl rfl dX9_odd_71 (fun h71 => absurd h71 (nI_ge (a := s) (b := aS (tO A)) (by omega) (by omega))) (fun h71 => ?_)
    refine p_iconst (0) 75 rfl dX9_odd_74 rfl ?_
    refine p_ist_4 77 rfl dX9_odd_75 (Nat.le_of_ble_eq_true rfl) rfl ?_
    refine l_odd3i hR0 hlt (fun x4 => ?_) s 0 (by omega)
    exact ih (s + 1) _ (by omega)
set_option maxRecDepth 4000 in
theorem l_odd2 {τ : PH} (hR0 : RM τ A) (h0 : hI τ M0 0 = 0) (hc1 : ChM σ τ) {q : Nat} (hq : q < 4) {x4 : Option Value} : ∀ (n i : Nat), i + n = aW (tO A) → Ok Γ 11 0 0 mX9_odd 140 [some (.ref M0), some (.int (nI q)), some (.int (nI (setN i (fun k => if q = 1 then dead (tO A) (tV A) k else !dead (tO A) (tV A) k && !fitt (tO A) (tV A) (aL (tO A) k) (aB (tO A) k))))), some (.int (nI i)), x4] [] τ (rM (0, nI (setN (aW (tO A)) (fun k => if q = 1 then dead (tO A) (tV A) k else !dead (tO A) (tV A) k && !fitt (tO A) (tV A) (aL (tO A) k) (aB (tO A) k)))) (fun σ' => RM σ' A ∧ ChM σ σ')) := by
  have hK := hR0.2.1
  have hO := hK.2.2.1
  have hc6 := hO.2.1
  have hw12 := hO.2.2.1
  have hs9 := hO.1
  have hv := hK.2.2.2.2.1.1
  have hd9 := hK.2.2.2.2.1.2
  have hM := hR0.1
  have hw := hR0.2.2.1
  intro n
  induction n with
  | zero =>
    intro i hi
    refine p_iload_n 3 141 rfl rfl dX9_odd_140 rfl ?_
    refine p_aload_n 0 142 rfl rfl dX9_odd_141 rfl ?_
    refine p_getIE 9 3 145 rfl dX9_odd_142 fl_X9_286 rfl rfl hM.2.2.1.2.2.1 ?_
    refine p_icmp_ge 208 148 rfl rfl dX9_odd_145 (fun h145 => ?_) (fun h145 => absurd (nI_le (a := aW (tO A)) (b := i) (by omega) (by omega)) h145)
    refine p_iload_n 2 209 rfl rfl dX9_odd_208 rfl ?_
    exact p_iret dX9_odd_209 rfl ⟨_, rfl, h0, fun _ => by rw [show i = aW (tO A) by omega], hR0, hc1⟩
  | succ n ih =>
    intro i hi
    have hlt : i < aW (tO A) := by omega
    have hl := hO.2.2.2.2.2 i hlt
    refine p_iload_n 3 141 rfl rfl dX9_odd_140 rfl ?_
    refine p_aload_n 0 142 rfl rfl dX9_odd_141 rfl ?_
    refine p_getIE 9 3 145 rfl dX9_odd_142 fl_X9_286 rfl rfl hM.2.2.1.2.2.1 ?_
    refine p_icmp_ge 208 148 rfl rfl dX9_odd_145 (fun h145 => absurd h145 (nI_ge (a := i) (b := aW (tO A)) (by omega) (by omega))) (fun h145 => ?_)
    refine p_iload_n 2 149 rfl rfl dX9_odd_148 rfl ?_
    refine p_iload_n 1 150 rfl rfl dX9_odd_149 rfl ?_
    refine p_iconst (1) 151 rfl dX9_odd_150 rfl ?_
    refine p_icmp_ne 165 154 rfl rfl dX9_odd_151 (fun h151 => ?_) (fun h151 => ?_)
    · refine p_aload_n 0 166 rfl rfl dX9_odd_165 rfl ?_
      refine p_iload_n 3 167 rfl rfl dX9_odd_166 rfl ?_
      refine p_cV1i 170 rfl dX9_odd_167 (c_isWhole hM hw hv hlt) ml_X9_399 vl_X9_isWhole rfl (by decide) rfl (Nat.le_of_ble_eq_true rfl) (Nat.le_of_ble_eq_true rfl) rfl ?_
      refine p_if_eq 199 173 rfl rfl dX9_odd_170 (fun h170 => ?_) (fun h170 => ?_)
      · refine p_iconst (0) 200 rfl dX9_odd_199 rfl ?_
        refine p_ior 201 rfl dX9_odd_200 ?_
        refine p_ist_n2 202 rfl rfl dX9_odd_201 (Nat.le_of_ble_eq_true rfl) rfl ?_
        refine p_inc_3 205 rfl dX9_odd_202 (1) rfl (Nat.le_of_ble_eq_true rfl) rfl ?_
        refine p_goto 140 rfl dX9_odd_205 ?_
        have hq1 : ¬ q = 1 := fun e => h151 (by rw [e]; rfl)
        have g1 : (!dead (tO A) (tV A) i) = false := by simpa only [b2i_eq0, b2i_1, Bool.not_eq_true, Decidable.not_not] using h170
        have hb : (fun k => if q = 1 then dead (tO A) (tV A) k else !dead (tO A) (tV A) k && !fitt (tO A) (tV A) (aL (tO A) k) (aB (tO A) k)) i = false := by show (if q = 1 then dead (tO A) (tV A) i else !dead (tO A) (tV A) i && !fitt (tO A) (tV A) (aL (tO A) i) (aB (tO A) i)) = false; rw [if_neg hq1, g1]; rfl
        rw [or0, nI_1, ← set_f (p := (fun k => if q = 1 then dead (tO A) (tV A) k else !dead (tO A) (tV A) k && !fitt (tO A) (tV A) (aL (tO A) k) (aB (tO A) k))) (nt hb)]
        exact ih (i + 1) (by omega)
      · refine p_aload_n 0 174 rfl rfl dX9_odd_173 rfl ?_
        refine p_iconst (0) 175 rfl dX9_odd_174 rfl ?_
        refine p_aload_n 0 176 rfl rfl dX9_odd_175 rfl ?_
        refine p_getR 9 9 179 rfl dX9_odd_176 fl_X9_23 rfl rfl (show hR _ M0 9 = mWl from hM.1 9) (by decide) ?_
        refine p_iload_n 3 180 rfl rfl dX9_odd_179 rfl ?_
        refine p_ialdE 181 rfl dX9_odd_180 (i := i) rfl (by show i < 12; omega) (hM.2.2.2.2.1 i hlt).1 ?_
        refine p_aload_n 0 182 rfl rfl dX9_odd_181 rfl ?_
        refine p_getR 9 10 185 rfl dX9_odd_182 fl_X9_26 rfl rfl (show hR _ M0 10 = mWr from hM.1 10) (by decide) ?_
        refine p_iload_n 3 186 rfl rfl dX9_odd_185 rfl ?_
        refine p_ialdE 187 rfl dX9_odd_186 (i := i) rfl (by show i < 12; omega) (hM.2.2.2.2.1 i hlt).2 ?_
        refine p_cV3i 190 rfl dX9_odd_187 (c_doesFit hM hw hv (by decide) hl.1 hl.2) ml_X9_331 vl_X9_doesFit rfl (by decide) rfl (Nat.le_of_ble_eq_true rfl) (Nat.le_of_ble_eq_true rfl) rfl ?_
        refine p_if_ne 199 193 rfl rfl dX9_odd_190 (fun h190 => ?_) (fun h190 => ?_)
        · refine p_iconst (0) 200 rfl dX9_odd_199 rfl ?_
          refine p_ior 201 rfl dX9_odd_200 ?_
          refine p_ist_n2 202 rfl rfl dX9_odd_201 (Nat.le_of_ble_eq_true rfl) rfl ?_
          refine p_inc_3 205 rfl dX9_odd_202 (1) rfl (Nat.le_of_ble_eq_true rfl) rfl ?_
          refine p_goto 140 rfl dX9_odd_205 ?_
          have hq1 : ¬ q = 1 := fun e => h151 (by rw [e]; rfl)
          have g1 : (!dead (tO A) (tV A) i) = true := by simpa only [b2i_eq0, b2i_1, Decidable.not_not, Bool.not_eq_true, Bool.not_eq_false] using h170
          have g2 : fitt (tO A) (tV A) (aL (tO A) i) (aB (tO A) i) = true := by simpa only [b2i_eq0, b2i_1, Decidable.not_not, Bool.not_eq_true, Bool.not_eq_false] using h190
          have hb : (fun k => if q = 1 then dead (tO A) (tV A) k else !dead (tO A) (tV A) k && !fitt (tO A) (tV A) (aL (tO A) k) (aB (tO A) k)) i = false := by show (if q = 1 then dead (tO A) (tV A) i else !dead (tO A) (tV A) i && !fitt (tO A) (tV A) (aL (tO A) i) (aB (tO A) i)) = false; rw [if_neg hq1, g2, Bool.not_true, Bool.and_false]
          rw [or0, nI_1, ← set_f (p := (fun k => if q = 1 then dead (tO A) (tV A) k else !dead (tO A) (tV A) k && !fitt (tO A) (tV A) (aL (tO A) k) (aB (tO A) k))) (nt hb)]
          exact ih (i + 1) (by omega)
        · refine p_iconst (1) 194 rfl dX9_odd_193 rfl ?_
          refine p_iload_n 3 195 rfl rfl dX9_odd_194 rfl ?_
          refine p_ishl 196 rfl dX9_odd_195 ?_
          refine p_goto 200 rfl dX9_odd_196 ?_
          refine p_ior 201 rfl dX9_odd_200 ?_
          refine p_ist_n2 202 rfl rfl dX9_odd_201 (Nat.le_of_ble_eq_true rfl) rfl ?_
          refine p_inc_3 205 rfl dX9_odd_202 (1) rfl (Nat.le_of_ble_eq_true rfl) rfl ?_
          refine p_goto 140 rfl dX9_odd_205 ?_
          have hq1 : ¬ q = 1 := fun e => h151 (by rw [e]; rfl)
          have g1 : (!dead (tO A) (tV A) i) = true := by simpa only [b2i_eq0, b2i_1, Decidable.not_not, Bool.not_eq_true, Bool.not_eq_false] using h170
          have g2 : fitt (tO A) (tV A) (aL (tO A) i) (aB (tO A) i) = false := by simpa only [b2i_eq0, b2i_1, Bool.not_eq_true, Decidable.not_not] using h190
          have hb : (fun k => if q = 1 then dead (tO A) (tV A) k else !dead (tO A) (tV A) k && !fitt (tO A) (tV A) (aL (tO A) k) (aB (tO A) k)) i = true := by show (if q = 1 then dead (tO A) (tV A) i else !dead (tO A) (tV A) i && !fitt (tO A) (tV A) (aL (tO A) i) (aB (tO A) i)) = true; rw [if_neg hq1, g1, g2]; rfl
          rw [set_t (p := (fun k => if q = 1 then dead (tO A) (tV A) k else !dead (tO A) (tV A) k && !fitt (tO A) (tV A) (aL (tO A) k) (aB (tO A) k))) hb (by omega), nI_1]
          exact ih (i + 1) (by omega)
    · refine p_aload_n 0 155 rfl rfl dX9_odd_154 rfl ?_
      refine p_iload_n 3 156 rfl rfl dX9_odd_155 rfl ?_
      refine p_cV1i 159 rfl dX9_odd_156 (c_isWhole hM hw hv hlt) ml_X9_399 vl_X9_isWhole rfl (by decide) rfl (Nat.le_of_ble_eq_true rfl) (Nat.le_of_ble_eq_true rfl) rfl ?_
      refine p_if_ne 199 162 rfl rfl dX9_odd_159 (fun h159 => ?_) (fun h159 => ?_)
      · refine p_iconst (0) 200 rfl dX9_odd_199 rfl ?_
        refine p_ior 201 rfl dX9_odd_200 ?_
        refine p_ist_n2 202 rfl rfl dX9_odd_201 (Nat.le_of_ble_eq_true rfl) rfl ?_
        refine p_inc_3 205 rfl dX9_odd_202 (1) rfl (Nat.le_of_ble_eq_true rfl) rfl ?_
        refine p_goto 140 rfl dX9_odd_205 ?_
        have hq1 : q = 1 := nI_eqI (show nI q = nI 1 from h151) (by omega) (by decide)
        have g1 : (!dead (tO A) (tV A) i) = true := by simpa only [b2i_eq0, b2i_1, Decidable.not_not, Bool.not_eq_true, Bool.not_eq_false] using h159
        have hb : (fun k => if q = 1 then dead (tO A) (tV A) k else !dead (tO A) (tV A) k && !fitt (tO A) (tV A) (aL (tO A) k) (aB (tO A) k)) i = false := by show (if q = 1 then dead (tO A) (tV A) i else !dead (tO A) (tV A) i && !fitt (tO A) (tV A) (aL (tO A) i) (aB (tO A) i)) = false; rw [if_pos hq1]; simpa using g1
        rw [or0, nI_1, ← set_f (p := (fun k => if q = 1 then dead (tO A) (tV A) k else !dead (tO A) (tV A) k && !fitt (tO A) (tV A) (aL (tO A) k) (aB (tO A) k))) (nt hb)]
        exact ih (i + 1) (by omega)
      · refine p_goto 193 rfl dX9_odd_162 ?_
        refine p_iconst (1) 194 rfl dX9_odd_193 rfl ?_
        refine p_iload_n 3 195 rfl rfl dX9_odd_194 rfl ?_
        refine p_ishl 196 rfl dX9_odd_195 ?_
        refine p_goto 200 rfl dX9_odd_196 ?_
        refine p_ior 201 rfl dX9_odd_200 ?_
        refine p_ist_n2 202 rfl rfl dX9_odd_201 (Nat.le_of_ble_eq_true rfl) rfl ?_
        refine p_inc_3 205 rfl dX9_odd_202 (1) rfl (Nat.le_of_ble_eq_true rfl) rfl ?_
        refine p_goto 140 rfl dX9_odd_205 ?_
        have hq1 : q = 1 := nI_eqI (show nI q = nI 1 from h151) (by omega) (by decide)
        have g1 : (!dead (tO A) (tV A) i) = false := by simpa only [b2i_eq0, b2i_1, Bool.not_eq_true, Decidable.not_not] using h159
        have hb : (fun k => if q = 1 then dead (tO A) (tV A) k else !dead (tO A) (tV A) k && !fitt (tO A) (tV A) (aL (tO A) k) (aB (tO A) k)) i = true := by show (if q = 1 then dead (tO A) (tV A) i else !dead (tO A) (tV A) i && !fitt (tO A) (tV A) (aL (tO A) i) (aB (tO A) i)) = true; rw [if_pos hq1]; simpa using g1
        rw [set_t (p := (fun k => if q = 1 then dead (tO A) (tV A) k else !dead (tO A) (tV A) k && !fitt (tO A) (tV A) (aL (tO A) k) (aB (tO A) k))) hb (by omega), nI_1]
        exact ih (i + 1) (by omega)
theorem setN_eq {p q : Nat → Bool} : ∀ n, (∀ i, i < n → p i = q i) → setN n p = setN n q := by
  intro n
  induction n with
  | zero => intro _; rfl
  | succ n ih => intro h; simp only [setN]; rw [ih (fun i hi => h i (by omega)), h n (by omega)]
set_option maxRecDepth 8000 in
theorem q_odd (hRM : RM σ A) (x : Int32) : CallOk Γ 12 0 0 mX9_odd [.ref M0, .int x] σ (rM (fOdd A x) (fun σ' => RM σ' A ∧ ChM σ σ')) := by
  have hK := hRM.2.1
  have hO := hK.2.2.1
  have hs9 := hO.1
  have hc6 := hO.2.1
  have hw12 := hO.2.2.1
  have hk8 := hO.2.2.2.1
  have hv := hK.2.2.2.2.1.1
  have hd9 := hK.2.2.2.2.1.2
  refine p_enter rfl rfl (Nat.le_of_ble_eq_true rfl) rfl ?_
  refine p_aload_n 0 1 rfl rfl dX9_odd_0 rfl ?_
  refine p_iconst (0) 2 rfl dX9_odd_1 rfl ?_
  refine p_putI 9 0 5 rfl dX9_odd_2 fl_X9_102 rfl rfl (Or.inl rfl) ?_
  have hQ : FQ σ (sI σ M0 0 0) := FQ.th
  have hR0 := hRM.q hQ
  have h0 : hI (sI σ M0 0 0) M0 0 = 0 := hI_sI _ _ _ _
  generalize sI σ M0 0 0 = τ at hQ hR0 h0 ⊢
  have hM := hR0.1
  have hw := hR0.2.2.1
  refine p_aload_n 0 6 rfl rfl dX9_odd_5 rfl ?_
  refine p_iload_n 1 7 rfl rfl dX9_odd_6 rfl ?_
  refine p_iconst (3) 8 rfl dX9_odd_7 rfl ?_
  refine p_cV2x 0 0 11 rfl dX9_odd_8 (c_isWhat (n := 3) h0 _ (by decide)) ml_X9_381 vl_X9_isWhat rfl (by decide) rfl (Nat.le_of_ble_eq_true rfl) (Nat.le_of_ble_eq_true rfl) (Nat.le_of_ble_eq_true rfl) (Nat.le_of_ble_eq_true rfl) rfl ?_
  intro v0 τ0 hp0
  obtain ⟨hv0, ht0, hf0⟩ := hp0
  subst hv0
  refine p_if_ne 16 14 rfl rfl dX9_odd_11 (fun h11 => ?_) (fun h11 => ?_)
  · have hb0 : inR x 4 = true := by simpa only [b2i_eq0, Decidable.not_not, Bool.not_eq_true, Bool.not_eq_false] using h11
    have ee0 := ht0 hb0
    subst ee0
    obtain ⟨q, rfl, hq⟩ := asN hb0 (by omega)
    have hqL : q < 2147483648 := by omega
    refine p_iconst (0) 17 rfl dX9_odd_16 rfl ?_
    refine p_ist_n2 18 rfl rfl dX9_odd_17 (Nat.le_of_ble_eq_true rfl) rfl ?_
    refine p_iload_n 1 19 rfl rfl dX9_odd_18 rfl ?_
    refine p_if_ne 59 22 rfl rfl dX9_odd_19 (fun h19 => ?_) (fun h19 => ?_)
    · refine p_iload_n 1 60 rfl rfl dX9_odd_59 rfl ?_
      refine p_iconst (3) 61 rfl dX9_odd_60 rfl ?_
      refine p_icmp_ne 138 64 rfl rfl dX9_odd_61 (fun h61 => ?_) (fun h61 => ?_)
      · refine p_iconst (0) 139 rfl dX9_odd_138 rfl ?_
        refine p_ist_n3 140 rfl rfl dX9_odd_139 (Nat.le_of_ble_eq_true rfl) rfl ?_
        have e : fOdd A (nI q) = (0, [nI (orph (tO A) (tV A)), nI (wDead (tO A) (tV A)), nI (wBlank (tO A) (tV A)), nI (stg (tO A) (tV A) (aS (tO A)))].getD q 0) := by rw [fOdd, gd_t hb0, sel, iN_nI hqL]
        have hq0 : ¬ q = 0 := fun e => h19 (by rw [e]; rfl)
        have hq3 : ¬ q = 3 := fun e => h61 (by rw [e]; rfl)
        have e2 : [nI (orph (tO A) (tV A)), nI (wDead (tO A) (tV A)), nI (wBlank (tO A) (tV A)), nI (stg (tO A) (tV A) (aS (tO A)))].getD q 0 = nI (setN (aW (tO A)) (fun k => if q = 1 then dead (tO A) (tV A) k else !dead (tO A) (tV A) k && !fitt (tO A) (tV A) (aL (tO A) k) (aB (tO A) k))) := by
          have : q = 1 ∨ q = 2 := by omega
          rcases this with rfl | rfl <;> rfl
        rw [e, e2]
        exact Ok.sub (l_odd2 hR0 h0 hQ.ch hq (aW (tO A)) 0 (by omega)) (by decide) (by decide) (by decide)
      · refine p_iconst (0) 65 rfl dX9_odd_64 rfl ?_
        refine p_ist_n3 66 rfl rfl dX9_odd_65 (Nat.le_of_ble_eq_true rfl) rfl ?_
        have e : fOdd A (nI q) = (0, [nI (orph (tO A) (tV A)), nI (wDead (tO A) (tV A)), nI (wBlank (tO A) (tV A)), nI (stg (tO A) (tV A) (aS (tO A)))].getD q 0) := by rw [fOdd, gd_t hb0, sel, iN_nI hqL]
        have hq3 : q = 3 := nI_eqI (show nI q = nI 3 from h61) (by omega) (by decide)
        have e2 : [nI (orph (tO A) (tV A)), nI (wDead (tO A) (tV A)), nI (wBlank (tO A) (tV A)), nI (stg (tO A) (tV A) (aS (tO A)))].getD q 0 = nI (og (tO A) (tV A) (aS (tO A))) := by rw [hq3, og_stg]; rfl
        rw [e, e2]
        exact Ok.sub (l_odd3 hR0 h0 hQ.ch (aS (tO A)) 0 _ (by omega)) (by decide) (by decide) (by decide)
    · refine p_iconst (0) 23 rfl dX9_odd_22 rfl ?_
      refine p_ist_n3 24 rfl rfl dX9_odd_23 (Nat.le_of_ble_eq_true rfl) rfl ?_
      have e : fOdd A (nI q) = (0, [nI (orph (tO A) (tV A)), nI (wDead (tO A) (tV A)), nI (wBlank (tO A) (tV A)), nI (stg (tO A) (tV A) (aS (tO A)))].getD q 0) := by rw [fOdd, gd_t hb0, sel, iN_nI hqL]
      have hq0 : q = 0 := nI_eqI (show nI q = nI 0 from h19) (by omega) (by decide)
      have e2 : [nI (orph (tO A) (tV A)), nI (wDead (tO A) (tV A)), nI (wBlank (tO A) (tV A)), nI (stg (tO A) (tV A) (aS (tO A)))].getD q 0 = nI (setN (aS (tO A)) (fun s => orB (tO A) (tV A) s)) := by rw [hq0]; show nI (orph (tO A) (tV A)) = _; unfold orph; rw [setN_eq (aS (tO A)) (fun i hi => (orB_eq hi).symm)]
      rw [e, e2]
      exact Ok.sub (l_odd0 hR0 h0 hQ.ch (aS (tO A)) 0 (by omega)) (by decide) (by decide) (by decide)
  · have hb0 : inR x 4 = false := by simpa only [b2i_eq0, Bool.not_eq_true, Decidable.not_not] using h11
    have ee0 := hf0 hb0
    subst ee0
    refine p_iconst (0) 15 rfl dX9_odd_14 rfl ?_
    exact p_iret dX9_odd_15 rfl ⟨_, rfl, by rw [fOdd, gd_f hb0]; exact hI_sI _ _ _ _, fun q => absurd q (by rw [fOdd, gd_f hb0]; decide), (hRM.q hQ).q FQ.th, (hQ.tr FQ.th).ch⟩
end C98
