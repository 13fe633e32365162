/-! ===== the best of some; company; what to save ===== -/
theorem wbs_lt {p : Nat → Bool} {f : Nat → Nat} : ∀ n b, wbs p f n = some b → b < n := by
  intro n
  induction n with
  | zero => intro b h; cases h
  | succ n ih =>
    intro b h
    unfold wbs at h
    split at h
    · split at h
      · cases h; omega
      · rename_i b' hb'
        split at h
        · cases h; omega
        · cases h; have := ih b hb'; omega
    · have := ih b h; omega
theorem wbs_t {p : Nat → Bool} {f : Nat → Nat} {i : Nat} (hp : p i = true) (hf : ∀ c, f c < 100) (h : ¬ nI (f i) ≤ wbv f (wbs p f i)) : wbs p f (i + 1) = some i := by
  unfold wbs
  rw [if_pos hp]
  cases hb : wbs p f i with
  | none => rfl
  | some b =>
    rw [hb] at h
    show (if f b < f i then some i else some b) = some i
    rw [if_pos]
    have h2 : ¬ nI (f i) ≤ nI (f b) := h
    rw [nI_leI (by have := hf i; omega) (by have := hf b; omega)] at h2
    omega
theorem wbs_f {p : Nat → Bool} {f : Nat → Nat} {i : Nat} (hf : ∀ c, f c < 100) (h : ¬ p i = true ∨ nI (f i) ≤ wbv f (wbs p f i)) : wbs p f (i + 1) = wbs p f i := by
  rw [wbs]
  by_cases hp : p i = true
  · rw [if_pos hp]
    have h2 := h.resolve_left (fun z => z hp)
    cases hb : wbs p f i with
    | none =>
      rw [hb] at h2
      exfalso
      have h3 := Int32.le_iff_toInt_le.mp (show nI (f i) ≤ (-1 : Int32) from h2)
      rw [nI_toInt (by have := hf i; omega)] at h3
      have : (-1 : Int32).toInt = -1 := rfl
      omega
    | some b =>
      rw [hb] at h2
      show (if f b < f i then some i else some b) = some b
      rw [if_neg]
      rw [show wbv f (some b) = nI (f b) from rfl, nI_leI (by have := hf i; omega) (by have := hf b; omega)] at h2
      omega
  · rw [if_neg hp]
/-- the least loss: the first of the smallest, below what is lost at first -/
def lsv (p : Nat → Bool) (f : Nat → Nat) (m0 : Nat) : Nat → Option Nat × Nat
  | 0 => (none, m0)
  | n + 1 => if p n = true ∧ f n < (lsv p f m0 n).2 then (some n, f n) else lsv p f m0 n
def fToSave (A : AT) (x : Int32) : Nat × Int32 := gd (inR x 4) 1 (0, oI (lsv (fun s => (shAt (tO A) (tV A) (iN x + 1)).testBit s) (fun s => pop (wLost (tO A) (tV A) (shAt (tO A) (tV A) (iN x + 1) ^^^ (shAt (tO A) (tV A) (iN x + 1) &&& 2 ^ s)))) (pop (wLost (tO A) (tV A) (shAt (tO A) (tV A) (iN x + 1)))) (aS (tO A))).1)
theorem lsv_lt {p : Nat → Bool} {f : Nat → Nat} {m0 : Nat} (hf : ∀ c, f c < 100) (h0 : m0 < 100) : ∀ n, (lsv p f m0 n).2 < 100 := by
  intro n
  induction n with
  | zero => exact h0
  | succ n ih =>
    unfold lsv
    split
    · exact hf n
    · exact ih
/-- sheets of words that can be read -/
def rdF (O : AO) (V : AW) : Nat → Nat
  | 0 => 0
  | n + 1 => rdF O V n ||| (if fitt O V (aL O n) (aB O n) = true then 2 ^ aL O n ||| 2 ^ aB O n else 0)
def fCompany (A : AT) (x y z : Int32) : Nat × Int32 := gd (inR x (aC (tO A))) 1 (gd (inR y (aC (tO A))) 1 (gd (btw z 1 60) 2 (0, nI (cntN (iN z) (fun q => tOn (tO A) (iN x) (vD (tV A) + q) == tOn (tO A) (iN y) (vD (tV A) + q))))))
/-- how many clerks are in the fullest town on a day -/
def lgc (O : AO) (d : Nat) : Nat → Nat
  | 0 => 0
  | n + 1 => max (lgc O d n) (cntN (aC O) (fun c => tOn O c d == n))
def fTogether (A : AT) (y : Int32) : Nat × Int32 := gd (btw y 1 6) 1 (0, oI (fnd 61 0 (fun q => decide (iN y ≤ lgc (tO A) (vD (tV A) + q) 4))))
theorem lgc_le (O : AO) (d : Nat) : ∀ n, lgc O d n ≤ aC O := by
  intro n
  induction n with
  | zero => exact Nat.zero_le _
  | succ n ih =>
    have := cntN_le (fun c => tOn O c d == n) (aC O)
    simp only [lgc]; omega
theorem mx_nI {a b : Nat} (ha : a < 2 ^ 31) (hb : b < 2 ^ 31) : mx (nI a) (nI b) = nI (max a b) := by
  unfold mx
  by_cases h : a < b
  · rw [if_pos (nI_lt h hb), Nat.max_eq_right (by omega)]
  · rw [if_neg (nI_nlt (by omega) ha), Nat.max_eq_left (by omega)]
theorem gbs_lt {f : Nat → Nat} (hf : ∀ c, f c < 100) : ∀ n, (gbs n f).2 < 100 := by
  intro n
  induction n with
  | zero => show 0 < 100; decide
  | succ n ih => unfold gbs; split; exact hf n; exact ih
section C49
variable {Γ : Gm} {σ : PH} {o o' : Nat} {A : AT}
set_option maxRecDepth 6000 in
theorem l_wisest (hT : IT σ o o' A) {σ1 : PH} {k : Nat} (hk : k ≤ 40) (h1 : IA σ1 o o' A (daysF (tO A) k (tV A))) (hc1 : Ch (inS sAux) σ σ1) : ∀ (n i : Nat) (x5 : Option Value), i + n = aC (tO A) → Ok Γ 14 0 0 mX8_wisest 19 [some (.ref T0), some (.int (nI k)), some (.int (oI (wbs (fun _ => true) (fun c => pop (vK (daysF (tO A) k (tV A)) c)) i))), some (.int (wbv (fun c => pop (vK (daysF (tO A) k (tV A)) c)) (wbs (fun _ => true) (fun c => pop (vK (daysF (tO A) k (tV A)) c)) i))), some (.int (nI i)), x5] [] σ1 (rS (0, oI (wbs (fun _ => true) (fun c => pop (vK (daysF (tO A) k (tV A)) c)) (aC (tO A)))) true (fun σ' => IT σ' o o' A ∧ Ch cls σ σ')) := by
  have hS := hT.1
  have hK := hT.2.1
  have hto : hR σ T0 3 = o := hT.2.2.1.2.2.1
  have hQ := hT.2.2.2.1
  have ho := hQ.1
  have hw := hT.2.2.2.2.1.1
  have hwo := hT.2.2.2.2.1.2
  have hv := hK.2.2.2.2.1.1
  have hd9 := hK.2.2.2.2.1.2
  have hY := hK.2.2.2.1
  have hO := hK.2.2.1
  have hs9 := hO.1
  have hc6 := hO.2.1
  have hw12 := hO.2.2.1
  have hk8 := hO.2.2.2.1
  intro n
  induction n with
  | zero =>
    intro i x5 hi
    have hS1 := h1.1.1
    have hw1 := h1.2.1
    have hwo1 := h1.2.2
    have hQ1 := h1.1.2.2.2.1
    have ho1 := hQ1.1
    have hto1 : hR σ1 T0 3 = o := h1.1.2.2.1.2.2.1
    have hn1 := h1.1.2.2.2.2.1.1
    have hno1 := h1.1.2.2.2.2.1.2
    refine p_iload 4 21 rfl dX8_wisest_19 rfl ?_
    refine p_aload_n 0 22 rfl rfl dX8_wisest_21 rfl ?_
    refine p_getR 8 3 25 rfl dX8_wisest_22 fl_X8_23 rfl rfl hto1 ho1.1.1.ne0 ?_
    refine p_getIE 4 4 28 rfl dX8_wisest_25 fl_X8_134 ho1.1.1.kd rfl ho1.2.2.2.1 ?_
    refine p_icmp_ge 64 31 rfl rfl dX8_wisest_28 (fun h28 => ?_) (fun h28 => absurd (nI_le (a := aC (tO A)) (b := i) (by omega) (by omega)) h28)
    refine p_iload_n 2 65 rfl rfl dX8_wisest_64 rfl ?_
    exact p_iret dX8_wisest_65 rfl ⟨by rw [show aC (tO A) = i by omega]; rfl, h1.1, hc1.aux⟩
  | succ n ih =>
    intro i x5 hi
    have hS1 := h1.1.1
    have hw1 := h1.2.1
    have hwo1 := h1.2.2
    have hQ1 := h1.1.2.2.2.1
    have ho1 := hQ1.1
    have hto1 : hR σ1 T0 3 = o := h1.1.2.2.1.2.2.1
    have hn1 := h1.1.2.2.2.2.1.1
    have hno1 := h1.1.2.2.2.2.1.2
    have hdv := daysF_ok hO hv k (by omega)
    refine p_iload 4 21 rfl dX8_wisest_19 rfl ?_
    refine p_aload_n 0 22 rfl rfl dX8_wisest_21 rfl ?_
    refine p_getR 8 3 25 rfl dX8_wisest_22 fl_X8_23 rfl rfl hto1 ho1.1.1.ne0 ?_
    refine p_getIE 4 4 28 rfl dX8_wisest_25 fl_X8_134 ho1.1.1.kd rfl ho1.2.2.2.1 ?_
    refine p_icmp_ge 64 31 rfl rfl dX8_wisest_28 (fun h28 => absurd h28 (nI_ge (a := i) (b := aC (tO A)) (by omega) (by omega))) (fun h28 => ?_)
    refine p_aload_n 0 32 rfl rfl dX8_wisest_31 rfl ?_
    refine p_getR 8 7 35 rfl dX8_wisest_32 fl_X8_48 rfl rfl hS1.2.2.2.1 (by decide) ?_
    refine p_getR 7 5 38 rfl dX8_wisest_35 fl_X8_200 rfl rfl hw1.1.2.2.2.2.1 (mk0 (Nat.succ_ne_zero _)) ?_
    refine p_iload 4 40 rfl dX8_wisest_38 rfl ?_
    refine p_ialdE 41 rfl dX8_wisest_40 (kd16 _ _) (lt6 (by omega)) (hw1.2.2.2 i (by omega)) ?_
    refine p_cS1i 44 rfl dX8_wisest_41 (c_bitCountN (hdv.2.2.2 i (by omega))) ml_X8_284 sl_J6_bitCount_0f7a4 (Nat.le_of_ble_eq_true rfl) (Nat.le_of_ble_eq_true rfl) rfl ?_
    refine p_ist_5 46 rfl dX8_wisest_44 (Nat.le_of_ble_eq_true rfl) rfl ?_
    refine p_iload 5 48 rfl dX8_wisest_46 rfl ?_
    refine p_iload_n 3 49 rfl rfl dX8_wisest_48 rfl ?_
    refine p_icmp_le 58 52 rfl rfl dX8_wisest_49 (fun h49 => ?_) (fun h49 => ?_)
    · refine p_inc_4 61 rfl dX8_wisest_58 (1) rfl (Nat.le_of_ble_eq_true rfl) rfl ?_
      refine p_goto 19 rfl dX8_wisest_61 ?_
      have e := wbs_f (p := fun _ => true) (f := (fun c => pop (vK (daysF (tO A) k (tV A)) c))) (i := i) (fun c => Nat.lt_of_le_of_lt (pop_le _) (by decide)) (Or.inr h49)
      rw [nI_1, ← e]
      exact ih (i + 1) _ (by omega)
    · refine p_iload 5 54 rfl dX8_wisest_52 rfl ?_
      refine p_ist_n3 55 rfl rfl dX8_wisest_54 (Nat.le_of_ble_eq_true rfl) rfl ?_
      refine p_iload 4 57 rfl dX8_wisest_55 rfl ?_
      refine p_ist_n2 58 rfl rfl dX8_wisest_57 (Nat.le_of_ble_eq_true rfl) rfl ?_
      refine p_inc_4 61 rfl dX8_wisest_58 (1) rfl (Nat.le_of_ble_eq_true rfl) rfl ?_
      refine p_goto 19 rfl dX8_wisest_61 ?_
      have e := wbs_t (p := fun _ => true) (f := (fun c => pop (vK (daysF (tO A) k (tV A)) c))) (i := i) rfl (fun c => Nat.lt_of_le_of_lt (pop_le _) (by decide)) h49
      have := ih (i + 1) (some (.int (nI (pop (vK (daysF (tO A) k (tV A)) i))))) (by omega)
      rw [e] at this
      rw [nI_1]
      exact this
set_option maxRecDepth 6000 in
theorem t_wisest (hT : IT σ o o' A) (y : Int32) : CallOk Γ 14 8 48 mX8_wisest [.ref T0, .int y] σ (rS (fWisest A y) true (fun σ' => IT σ' o o' A ∧ Ch cls σ σ')) := by
  have hS := hT.1
  have hK := hT.2.1
  have hto : hR σ T0 3 = o := hT.2.2.1.2.2.1
  have hQ := hT.2.2.2.1
  have ho := hQ.1
  have hw := hT.2.2.2.2.1.1
  have hwo := hT.2.2.2.2.1.2
  have hv := hK.2.2.2.2.1.1
  have hd9 := hK.2.2.2.2.1.2
  have hY := hK.2.2.2.1
  have hO := hK.2.2.1
  have hs9 := hO.1
  have hc6 := hO.2.1
  have hw12 := hO.2.2.1
  have hk8 := hO.2.2.2.1
  refine p_enter rfl rfl (Nat.le_of_ble_eq_true rfl) rfl ?_
  refine p_iload_n 1 1 rfl rfl dX8_wisest_0 rfl ?_
  refine p_iconst (0) 2 rfl dX8_wisest_1 rfl ?_
  refine p_bipush (40) 4 rfl dX8_wisest_2 rfl ?_
  refine p_cS3n 7 rfl dX8_wisest_4 (c_needBetween _ 0 40) ml_X8_267 sl_X8_needBetween (Nat.le_of_ble_eq_true rfl) (Nat.le_of_ble_eq_true rfl) (Nat.le_of_ble_eq_true rfl) (Nat.le_of_ble_eq_true rfl) rfl (fun h4 => ?_) (fun h4 => ⟨by simp [fWisest, gd, h4], hT, Ch.rf⟩)
  obtain ⟨k, rfl, hka, hk⟩ := asB h4 (by decide) (by decide)
  have hkL : k < 2147483648 := by omega
  refine p_aload_n 0 8 rfl rfl dX8_wisest_7 rfl ?_
  refine p_iload_n 1 9 rfl rfl dX8_wisest_8 rfl ?_
  refine p_cV1v 0 0 12 rfl dX8_wisest_9 (c_lookAhead (k := k) hT (by omega)) ml_X8_271 vl_X8_lookAhead rfl (by decide) rfl (Nat.le_of_ble_eq_true rfl) (Nat.le_of_ble_eq_true rfl) (Nat.le_of_ble_eq_true rfl) (Nat.le_of_ble_eq_true rfl) rfl ?_
  rintro σ1 ⟨h1, hc1⟩
  refine p_iconst (-1) 13 rfl dX8_wisest_12 rfl ?_
  refine p_ist_n2 14 rfl rfl dX8_wisest_13 (Nat.le_of_ble_eq_true rfl) rfl ?_
  refine p_iconst (-1) 15 rfl dX8_wisest_14 rfl ?_
  refine p_ist_n3 16 rfl rfl dX8_wisest_15 (Nat.le_of_ble_eq_true rfl) rfl ?_
  refine p_iconst (0) 17 rfl dX8_wisest_16 rfl ?_
  refine p_ist_4 19 rfl dX8_wisest_17 (Nat.le_of_ble_eq_true rfl) rfl ?_
  have e : fWisest A (nI k) = (0, oI (wbs (fun _ => true) (fun c => pop (vK (daysF (tO A) k (tV A)) c)) (aC (tO A)))) := by simp [fWisest, gd, h4, iN_nI hkL]
  rw [e]
  exact l_wisest hT hk h1 hc1 (aC (tO A)) 0 _ (by omega)
set_option maxRecDepth 6000 in
theorem l_heir (hT : IT σ o o' A) {s : Nat} (hs : s < aC (tO A)) : ∀ (n i : Nat) (x5 : Option Value), i + n = aC (tO A) → Ok Γ 14 0 0 mX8_heir 12 [some (.ref T0), some (.int (nI s)), some (.int (oI (wbs (fun c => c != s) (fun c => pop (vK (tV A) c &&& vK (tV A) s)) i))), some (.int (wbv (fun c => pop (vK (tV A) c &&& vK (tV A) s)) (wbs (fun c => c != s) (fun c => pop (vK (tV A) c &&& vK (tV A) s)) i))), some (.int (nI i)), x5] [] σ (rS (0, oI (wbs (fun c => c != s) (fun c => pop (vK (tV A) c &&& vK (tV A) s)) (aC (tO A)))) false (fun σ' => IT σ' o o' A ∧ Ch cls σ σ')) := by
  have hS := hT.1
  have hK := hT.2.1
  have hto : hR σ T0 3 = o := hT.2.2.1.2.2.1
  have hQ := hT.2.2.2.1
  have ho := hQ.1
  have hw := hT.2.2.2.2.1.1
  have hwo := hT.2.2.2.2.1.2
  have hv := hK.2.2.2.2.1.1
  have hd9 := hK.2.2.2.2.1.2
  have hY := hK.2.2.2.1
  have hO := hK.2.2.1
  have hs9 := hO.1
  have hc6 := hO.2.1
  have hw12 := hO.2.2.1
  have hk8 := hO.2.2.2.1
  intro n
  induction n with
  | zero =>
    intro i x5 hi
    refine p_iload 4 14 rfl dX8_heir_12 rfl ?_
    refine p_aload_n 0 15 rfl rfl dX8_heir_14 rfl ?_
    refine p_getR 8 3 18 rfl dX8_heir_15 fl_X8_23 rfl rfl hto ho.1.1.ne0 ?_
    refine p_getIE 4 4 21 rfl dX8_heir_18 fl_X8_134 ho.1.1.kd rfl ho.2.2.2.1 ?_
    refine p_icmp_ge 73 24 rfl rfl dX8_heir_21 (fun h21 => ?_) (fun h21 => absurd (nI_le (a := aC (tO A)) (b := i) (by omega) (by omega)) h21)
    refine p_iload_n 2 74 rfl rfl dX8_heir_73 rfl ?_
    exact p_iret dX8_heir_74 rfl ⟨by rw [show aC (tO A) = i by omega]; rfl, hT, Ch.rf⟩
  | succ n ih =>
    intro i x5 hi
    refine p_iload 4 14 rfl dX8_heir_12 rfl ?_
    refine p_aload_n 0 15 rfl rfl dX8_heir_14 rfl ?_
    refine p_getR 8 3 18 rfl dX8_heir_15 fl_X8_23 rfl rfl hto ho.1.1.ne0 ?_
    refine p_getIE 4 4 21 rfl dX8_heir_18 fl_X8_134 ho.1.1.kd rfl ho.2.2.2.1 ?_
    refine p_icmp_ge 73 24 rfl rfl dX8_heir_21 (fun h21 => absurd h21 (nI_ge (a := i) (b := aC (tO A)) (by omega) (by omega))) (fun h21 => ?_)
    refine p_aload_n 0 25 rfl rfl dX8_heir_24 rfl ?_
    refine p_getR 8 6 28 rfl dX8_heir_25 fl_X8_44 rfl rfl hS.2.2.1 (by decide) ?_
    refine p_getR 7 5 31 rfl dX8_heir_28 fl_X8_200 rfl rfl hw.1.2.2.2.2.1 (mk0 (Nat.succ_ne_zero _)) ?_
    refine p_iload 4 33 rfl dX8_heir_31 rfl ?_
    refine p_ialdE 34 rfl dX8_heir_33 (kd16 _ _) (lt6 (by omega)) (hw.2.2.2 i (by omega)) ?_
    refine p_aload_n 0 35 rfl rfl dX8_heir_34 rfl ?_
    refine p_getR 8 6 38 rfl dX8_heir_35 fl_X8_44 rfl rfl hS.2.2.1 (by decide) ?_
    refine p_getR 7 5 41 rfl dX8_heir_38 fl_X8_200 rfl rfl hw.1.2.2.2.2.1 (mk0 (Nat.succ_ne_zero _)) ?_
    refine p_iload_n 1 42 rfl rfl dX8_heir_41 rfl ?_
    refine p_ialdE 43 rfl dX8_heir_42 (kd16 _ _) (lt6 (by omega)) (hw.2.2.2 s (by omega)) ?_
    refine p_iand 44 rfl dX8_heir_43 ?_
    rw [nx_and]
    refine p_cS1i 47 rfl dX8_heir_44 (c_bitCountN (Nat.lt_of_le_of_lt Nat.and_le_left (hv.2.2.2 i (by omega)))) ml_X8_284 sl_J6_bitCount_0f7a4 (Nat.le_of_ble_eq_true rfl) (Nat.le_of_ble_eq_true rfl) rfl ?_
    refine p_ist_5 49 rfl dX8_heir_47 (Nat.le_of_ble_eq_true rfl) rfl ?_
    refine p_iload 4 51 rfl dX8_heir_49 rfl ?_
    refine p_iload_n 1 52 rfl rfl dX8_heir_51 rfl ?_
    refine p_icmp_eq 67 55 rfl rfl dX8_heir_52 (fun h52 => ?_) (fun h52 => ?_)
    · refine p_inc_4 70 rfl dX8_heir_67 (1) rfl (Nat.le_of_ble_eq_true rfl) rfl ?_
      refine p_goto 12 rfl dX8_heir_70 ?_
      have e := wbs_f (p := (fun c => c != s)) (f := (fun c => pop (vK (tV A) c &&& vK (tV A) s))) (i := i) (fun c => Nat.lt_of_le_of_lt (pop_le _) (by decide)) (Or.inl (by simp [(nI_eq (by omega) (by omega)).mp h52]))
      rw [nI_1, ← e]
      exact ih (i + 1) _ (by omega)
    · refine p_iload 5 57 rfl dX8_heir_55 rfl ?_
      refine p_iload_n 3 58 rfl rfl dX8_heir_57 rfl ?_
      refine p_icmp_le 67 61 rfl rfl dX8_heir_58 (fun h58 => ?_) (fun h58 => ?_)
      · refine p_inc_4 70 rfl dX8_heir_67 (1) rfl (Nat.le_of_ble_eq_true rfl) rfl ?_
        refine p_goto 12 rfl dX8_heir_70 ?_
        have e := wbs_f (p := (fun c => c != s)) (f := (fun c => pop (vK (tV A) c &&& vK (tV A) s))) (i := i) (fun c => Nat.lt_of_le_of_lt (pop_le _) (by decide)) (Or.inr h58)
        rw [nI_1, ← e]
        exact ih (i + 1) _ (by omega)
      · refine p_iload 5 63 rfl dX8_heir_61 rfl ?_
        refine p_ist_n3 64 rfl rfl dX8_heir_63 (Nat.le_of_ble_eq_true rfl) rfl ?_
        refine p_iload 4 66 rfl dX8_heir_64 rfl ?_
        refine p_ist_n2 67 rfl rfl dX8_heir_66 (Nat.le_of_ble_eq_true rfl) rfl ?_
        refine p_inc_4 70 rfl dX8_heir_67 (1) rfl (Nat.le_of_ble_eq_true rfl) rfl ?_
        refine p_goto 12 rfl dX8_heir_70 ?_
        have hne : i ≠ s := fun z => h52 (by rw [z])
        have e := wbs_t (p := (fun c => c != s)) (f := (fun c => pop (vK (tV A) c &&& vK (tV A) s))) (i := i) (by simp [hne]) (fun c => Nat.lt_of_le_of_lt (pop_le _) (by decide)) h58
        have := ih (i + 1) (some (.int (nI (pop (vK (tV A) i &&& vK (tV A) s))))) (by omega)
        rw [e] at this
        rw [nI_1]
        exact this
set_option maxRecDepth 6000 in
theorem t_heir (hT : IT σ o o' A) (x : Int32) : CallOk Γ 14 8 48 mX8_heir [.ref T0, .int x] σ (rS (fHeir A x) false (fun σ' => IT σ' o o' A ∧ Ch cls σ σ')) := by
  have hS := hT.1
  have hK := hT.2.1
  have hto : hR σ T0 3 = o := hT.2.2.1.2.2.1
  have hQ := hT.2.2.2.1
  have ho := hQ.1
  have hw := hT.2.2.2.2.1.1
  have hwo := hT.2.2.2.2.1.2
  have hv := hK.2.2.2.2.1.1
  have hd9 := hK.2.2.2.2.1.2
  have hY := hK.2.2.2.1
  have hO := hK.2.2.1
  have hs9 := hO.1
  have hc6 := hO.2.1
  have hw12 := hO.2.2.1
  have hk8 := hO.2.2.2.1
  refine p_enter rfl rfl (Nat.le_of_ble_eq_true rfl) rfl ?_
  refine p_aload_n 0 1 rfl rfl dX8_heir_0 rfl ?_
  refine p_iload_n 1 2 rfl rfl dX8_heir_1 rfl ?_
  refine p_cV1n 5 rfl dX8_heir_2 (c_needClerk hto hQ _) ml_X8_194 vl_X8_needClerk rfl (by decide) rfl (Nat.le_of_ble_eq_true rfl) (Nat.le_of_ble_eq_true rfl) (Nat.le_of_ble_eq_true rfl) (Nat.le_of_ble_eq_true rfl) rfl (fun h2 => ?_) (fun h2 => ⟨by simp [fHeir, gd, h2], hT, Ch.rf⟩)
  obtain ⟨s, rfl, hs⟩ := asN h2 (by omega)
  have hsL : s < 2147483648 := by omega
  refine p_iconst (-1) 6 rfl dX8_heir_5 rfl ?_
  refine p_ist_n2 7 rfl rfl dX8_heir_6 (Nat.le_of_ble_eq_true rfl) rfl ?_
  refine p_iconst (-1) 8 rfl dX8_heir_7 rfl ?_
  refine p_ist_n3 9 rfl rfl dX8_heir_8 (Nat.le_of_ble_eq_true rfl) rfl ?_
  refine p_iconst (0) 10 rfl dX8_heir_9 rfl ?_
  refine p_ist_4 12 rfl dX8_heir_10 (Nat.le_of_ble_eq_true rfl) rfl ?_
  have e : fHeir A (nI s) = (0, oI (wbs (fun c => c != s) (fun c => pop (vK (tV A) c &&& vK (tV A) s)) (aC (tO A)))) := by simp [fHeir, gd, h2, iN_nI hsL]
  rw [e]
  exact (l_heir hT hs (aC (tO A)) 0 _ (by omega)).sub (Nat.le_refl _) (Nat.zero_le _) (Nat.zero_le _)
set_option maxRecDepth 6000 in
theorem l_gathering (hT : IT σ o o' A) {k : Nat} (hk : k ≤ 40) : ∀ (n i : Nat) (x5 : Option Value), i + n = 4 → Ok Γ 14 0 0 mX8_gathering 14 [some (.ref T0), some (.int (nI k)), some (.int (nI (gbs i (fun t => pop (shIn (tO A) (tV A) t k))).1)), some (.int (nI (gbs i (fun t => pop (shIn (tO A) (tV A) t k))).2)), some (.int (nI i)), x5] [] σ (rS (0, nI (gbs 4 (fun t => pop (shIn (tO A) (tV A) t k))).1) true (fun σ' => IT σ' o o' A ∧ Ch cls σ σ')) := by
  have hS := hT.1
  have hK := hT.2.1
  have hto : hR σ T0 3 = o := hT.2.2.1.2.2.1
  have hQ := hT.2.2.2.1
  have ho := hQ.1
  have hw := hT.2.2.2.2.1.1
  have hwo := hT.2.2.2.2.1.2
  have hv := hK.2.2.2.2.1.1
  have hd9 := hK.2.2.2.2.1.2
  have hY := hK.2.2.2.1
  have hO := hK.2.2.1
  have hs9 := hO.1
  have hc6 := hO.2.1
  have hw12 := hO.2.2.1
  have hk8 := hO.2.2.2.1
  intro n
  induction n with
  | zero =>
    intro i x5 hi
    refine p_iload 4 16 rfl dX8_gathering_14 rfl ?_
    refine p_iconst (4) 17 rfl dX8_gathering_16 rfl ?_
    refine p_icmp_ge 53 20 rfl rfl dX8_gathering_17 (fun h17 => ?_) (fun h17 => absurd (nI_le (a := 4) (b := i) (by omega) (by omega)) h17)
    refine p_iload_n 2 54 rfl rfl dX8_gathering_53 rfl ?_
    exact p_iret dX8_gathering_54 rfl ⟨by rw [show i = 4 by omega]; rfl, hT, Ch.rf⟩
  | succ n ih =>
    intro i x5 hi
    refine p_iload 4 16 rfl dX8_gathering_14 rfl ?_
    refine p_iconst (4) 17 rfl dX8_gathering_16 rfl ?_
    refine p_icmp_ge 53 20 rfl rfl dX8_gathering_17 (fun h17 => absurd h17 (nI_ge (a := i) (b := 4) (by omega) (by omega))) (fun h17 => ?_)
    refine p_aload_n 0 21 rfl rfl dX8_gathering_20 rfl ?_
    refine p_getR 8 6 24 rfl dX8_gathering_21 fl_X8_44 rfl rfl hS.2.2.1 (by decide) ?_
    refine p_iload 4 26 rfl dX8_gathering_24 rfl ?_
    refine p_iload_n 1 27 rfl rfl dX8_gathering_26 rfl ?_
    refine p_cV2i 30 rfl dX8_gathering_27 (c_sheetsIn ho hw hv hwo (by omega) (by omega)) ml_X8_234 vl_X7_sheetsIn rfl (by decide) rfl (Nat.le_of_ble_eq_true rfl) (Nat.le_of_ble_eq_true rfl) rfl ?_
    refine p_cS1i 33 rfl dX8_gathering_30 (c_bitCountN (Nat.lt_trans (shIn_lt hO _ _ _) (by decide))) ml_X8_284 sl_J6_bitCount_0f7a4 (Nat.le_of_ble_eq_true rfl) (Nat.le_of_ble_eq_true rfl) rfl ?_
    refine p_ist_5 35 rfl dX8_gathering_33 (Nat.le_of_ble_eq_true rfl) rfl ?_
    refine p_iload 5 37 rfl dX8_gathering_35 rfl ?_
    refine p_iload_n 3 38 rfl rfl dX8_gathering_37 rfl ?_
    refine p_icmp_le 47 41 rfl rfl dX8_gathering_38 (fun h38 => ?_) (fun h38 => ?_)
    · refine p_inc_4 50 rfl dX8_gathering_47 (1) rfl (Nat.le_of_ble_eq_true rfl) rfl ?_
      refine p_goto 14 rfl dX8_gathering_50 ?_
      have e : gbs (i + 1) (fun t => pop (shIn (tO A) (tV A) t k)) = gbs i (fun t => pop (shIn (tO A) (tV A) t k)) := by
        have hh := (nI_leI (by have := pop_le (shIn (tO A) (tV A) i k); omega) (by have := gbs_lt (f := (fun t => pop (shIn (tO A) (tV A) t k))) (fun c => Nat.lt_of_le_of_lt (pop_le _) (by decide)) i; omega)).mp h38
        rw [gbs, if_neg (Nat.not_lt.mpr hh)]
      rw [nI_1, ← e]
      exact ih (i + 1) _ (by omega)
    · refine p_iload 5 43 rfl dX8_gathering_41 rfl ?_
      refine p_ist_n3 44 rfl rfl dX8_gathering_43 (Nat.le_of_ble_eq_true rfl) rfl ?_
      refine p_iload 4 46 rfl dX8_gathering_44 rfl ?_
      refine p_ist_n2 47 rfl rfl dX8_gathering_46 (Nat.le_of_ble_eq_true rfl) rfl ?_
      refine p_inc_4 50 rfl dX8_gathering_47 (1) rfl (Nat.le_of_ble_eq_true rfl) rfl ?_
      refine p_goto 14 rfl dX8_gathering_50 ?_
      have e : gbs (i + 1) (fun t => pop (shIn (tO A) (tV A) t k)) = (i, pop (shIn (tO A) (tV A) i k)) := by
        have hh := fun z => h38 (nI_le z (by have := gbs_lt (f := (fun t => pop (shIn (tO A) (tV A) t k))) (fun c => Nat.lt_of_le_of_lt (pop_le _) (by decide)) i; omega))
        rw [gbs, if_pos (Nat.lt_of_not_le hh)]
      have := ih (i + 1) (some (.int (nI (pop (shIn (tO A) (tV A) i k))))) (by omega)
      rw [e] at this
      rw [nI_1]
      exact this
set_option maxRecDepth 6000 in
theorem t_gathering (hT : IT σ o o' A) (y : Int32) : CallOk Γ 14 8 48 mX8_gathering [.ref T0, .int y] σ (rS (fGath A y) true (fun σ' => IT σ' o o' A ∧ Ch cls σ σ')) := by
  have hS := hT.1
  have hK := hT.2.1
  have hto : hR σ T0 3 = o := hT.2.2.1.2.2.1
  have hQ := hT.2.2.2.1
  have ho := hQ.1
  have hw := hT.2.2.2.2.1.1
  have hwo := hT.2.2.2.2.1.2
  have hv := hK.2.2.2.2.1.1
  have hd9 := hK.2.2.2.2.1.2
  have hY := hK.2.2.2.1
  have hO := hK.2.2.1
  have hs9 := hO.1
  have hc6 := hO.2.1
  have hw12 := hO.2.2.1
  have hk8 := hO.2.2.2.1
  refine p_enter rfl rfl (Nat.le_of_ble_eq_true rfl) rfl ?_
  refine p_iload_n 1 1 rfl rfl dX8_gathering_0 rfl ?_
  refine p_iconst (0) 2 rfl dX8_gathering_1 rfl ?_
  refine p_bipush (40) 4 rfl dX8_gathering_2 rfl ?_
  refine p_cS3n 7 rfl dX8_gathering_4 (c_needBetween _ 0 40) ml_X8_267 sl_X8_needBetween (Nat.le_of_ble_eq_true rfl) (Nat.le_of_ble_eq_true rfl) (Nat.le_of_ble_eq_true rfl) (Nat.le_of_ble_eq_true rfl) rfl (fun h4 => ?_) (fun h4 => ⟨by simp [fGath, gd, h4], hT, Ch.rf⟩)
  obtain ⟨k, rfl, hka, hk⟩ := asB h4 (by decide) (by decide)
  have hkL : k < 2147483648 := by omega
  refine p_iconst (0) 8 rfl dX8_gathering_7 rfl ?_
  refine p_ist_n2 9 rfl rfl dX8_gathering_8 (Nat.le_of_ble_eq_true rfl) rfl ?_
  refine p_iconst (0) 10 rfl dX8_gathering_9 rfl ?_
  refine p_ist_n3 11 rfl rfl dX8_gathering_10 (Nat.le_of_ble_eq_true rfl) rfl ?_
  refine p_iconst (0) 12 rfl dX8_gathering_11 rfl ?_
  refine p_ist_4 14 rfl dX8_gathering_12 (Nat.le_of_ble_eq_true rfl) rfl ?_
  have e : fGath A (nI k) = (0, nI (gbs 4 (fun t => pop (shIn (tO A) (tV A) t k))).1) := by simp [fGath, gd, h4, iN_nI hkL]
  rw [e]
  exact (l_gathering hT hk 4 0 _ rfl).sub (Nat.le_refl _) (Nat.zero_le _) (Nat.zero_le _)
end C49
