/-! ===== who bore it; whom to ask ===== -/
def canB (A : AT) (p : Nat) : Bool := decide (p / 9 < aC (tO A)) && decide (p % 9 < aS (tO A)) && vP (tV A) (p % 9) != 0 && vP (tV A) (p % 9) != p / 9 + 5
def borW (A : AT) (p : Nat) : AW := wPl (tV A) (va_up (vP (tV A)) (p % 9) (p / 9 + 5))
def okP (A : AT) (p : Nat) : Bool := canB A p && allS (tO A) (borW A p) (tH A)
def prL (f : Nat → Bool) : Nat → List Nat
  | 0 => []
  | n + 1 => if f n = true then prL f n ++ [n] else prL f n
theorem prL_len (f : Nat → Bool) : ∀ n, (prL f n).length ≤ n := by
  intro n
  induction n with
  | zero => exact Nat.le_refl _
  | succ n ih =>
    unfold prL; split
    · simp; omega
    · omega
theorem prL_mem (f : Nat → Bool) : ∀ n p, p ∈ prL f n → p < n ∧ f p = true := by
  intro n
  induction n with
  | zero => intro p hp; cases hp
  | succ n ih =>
    intro p hp
    unfold prL at hp
    split at hp
    · rename_i hf
      rcases List.mem_append.mp hp with g | g
      · have := ih p g; exact ⟨by omega, this.2⟩
      · rw [List.mem_singleton] at g; subst g; exact ⟨by omega, hf⟩
    · have := ih p hp; exact ⟨by omega, this.2⟩
def fstI (l : List Nat) : Int32 := match l with
  | [] => -1
  | p :: _ => nI (p / 9 * 10 + p % 9)
def fBorne (A : AT) (x : Int32) : Nat × Int32 := gd (inR x 3) 1 (0, if iN x = 2 then b2i (allS (tO A) (tV A) (tH A)) else if iN x = 0 then nI (prL (okP A) 54).length else fstI (prL (okP A) 54))
theorem OkU.borW {A : AT} (h : OkU (tO A) (tV A)) (hO : OkO (tO A)) {p : Nat} (hp : canB A p = true) : OkU (tO A) (borW A p) := by
  simp only [canB, Bool.and_eq_true, decide_eq_true_eq] at hp
  exact h.pl (by have := hO.2.1; omega) (by omega)
/-- what clerk c would know in six days, if the pair p were so -/
def ansW (A : AT) (c p : Nat) : Nat := vK (daysF (tO A) 6 (borW A p)) c
def unl (A : AT) (c : Nat) : Nat := cntN (prL (okP A) 54).length (fun i => !anyN i (fun j => ansW A c ((prL (okP A) 54).getD j 0) == ansW A c ((prL (okP A) 54).getD i 0)))
def askB (u : Nat → Nat) : Nat → Option Nat × Nat
  | 0 => (none, 0)
  | n + 1 => if (askB u n).2 < u n then (some n, u n) else askB u n
def fAsk (A : AT) (x : Int32) : Nat × Int32 := gd (inR x 2) 1 (0, if iN x = 0 then oI (askB (unl A) (aC (tO A))).1 else nI (askB (unl A) (aC (tO A))).2)
def ANS (σ : PH) (A : AT) (l : List Nat) : Prop := ∀ k, k < l.length → ∀ c, c < 6 → hA σ 18622608 (6 * k + c) = nI (ansW A c (l.getD k 0))
theorem Ch.w {σ σ' : PH} (h : Ch (inS sAux) σ σ') : Ch (inS sAuxW) σ σ' := h.more (by decide)
section C56
variable {Γ : Gm} {σ : PH} {o o' : Nat} {A : AT}
set_option maxRecDepth 4000 in
theorem c_suppose (hT : IT σ o o' A) {p : Nat} (hp : p < 54) : CallOk Γ 2 0 0 mX8_supposeBorne [.ref T0, .int (nI p)] σ (rX (fun y σ' => y = b2i (canB A p) ∧ IT σ' o o' A ∧ Ch (inS sAux) σ σ' ∧ (canB A p = true → IA σ' o o' A (borW A p)))) := by
  have hS := hT.1
  have hK := hT.2.1
  have hto : hR σ T0 3 = o := hT.2.2.1.2.2.1
  have hQ := hT.2.2.2.1
  have ho := hQ.1
  have hw := hT.2.2.2.2.1.1
  have hwo := hT.2.2.2.2.1.2
  have hv := hK.2.2.2.2.1.1
  have hd9 := hK.2.2.2.2.1.2
  have hY := hK.2.2.2.1
  have hO := hK.2.2.1
  have hs9 := hO.1
  have hc6 := hO.2.1
  have hw12 := hO.2.2.1
  have hk8 := hO.2.2.2.1
  refine p_enter rfl rfl (Nat.le_of_ble_eq_true rfl) rfl ?_
  refine p_iload_n 1 1 rfl rfl dX8_supposeBorne_0 rfl ?_
  refine p_bipush (9) 3 rfl dX8_supposeBorne_1 rfl ?_
  refine p_idiv 4 rfl dX8_supposeBorne_3 (by decide) ?_
  rw [show (9 : Int32) = nI 9 from rfl, pk_div (by omega) (by decide) (by decide)]
  refine p_ist_n2 5 rfl rfl dX8_supposeBorne_4 (Nat.le_of_ble_eq_true rfl) rfl ?_
  refine p_iload_n 1 6 rfl rfl dX8_supposeBorne_5 rfl ?_
  refine p_bipush (9) 8 rfl dX8_supposeBorne_6 rfl ?_
  refine p_irem 9 rfl dX8_supposeBorne_8 (by decide) ?_
  rw [show (9 : Int32) = nI 9 from rfl, pk_rem (by omega) (by decide) (by decide)]
  refine p_ist_n3 10 rfl rfl dX8_supposeBorne_9 (Nat.le_of_ble_eq_true rfl) rfl ?_
  refine p_iload_n 2 11 rfl rfl dX8_supposeBorne_10 rfl ?_
  refine p_aload_n 0 12 rfl rfl dX8_supposeBorne_11 rfl ?_
  refine p_getR 8 3 15 rfl dX8_supposeBorne_12 fl_X8_23 rfl rfl hto ho.1.1.ne0 ?_
  refine p_getIE 4 4 18 rfl dX8_supposeBorne_15 fl_X8_134 ho.1.1.kd rfl ho.2.2.2.1 ?_
  refine p_icmp_ge 32 21 rfl rfl dX8_supposeBorne_18 (fun h18 => ?_) (fun h18 => ?_)
  · refine p_iconst (0) 33 rfl dX8_supposeBorne_32 rfl ?_
    exact p_zret dX8_supposeBorne_33 rfl rfl (by
      have hn : canB A p = false := by have : ¬ p / 9 < aC (tO A) := fun z => nI_ge z (by omega) h18; simp [canB, this]
      exact ⟨_, rfl, by rw [hn]; rfl, hT, Ch.rf, fun z => absurd z (by simp [hn])⟩)
  · refine p_iload_n 3 22 rfl rfl dX8_supposeBorne_21 rfl ?_
    refine p_aload_n 0 23 rfl rfl dX8_supposeBorne_22 rfl ?_
    refine p_getR 8 3 26 rfl dX8_supposeBorne_23 fl_X8_23 rfl rfl hto ho.1.1.ne0 ?_
    refine p_getIE 4 0 29 rfl dX8_supposeBorne_26 fl_X8_131 ho.1.1.kd rfl ho.2.2.1 ?_
    refine p_icmp_lt 34 32 rfl rfl dX8_supposeBorne_29 (fun h29 => ?_) (fun h29 => ?_)
    · have hc0 : p / 9 < aC (tO A) := Nat.lt_of_not_le (fun z => h18 (nI_le z (by omega)))
      have hs0 : p % 9 < aS (tO A) := (nI_ltI (by omega) (by omega)).mp h29
      refine p_aload_n 0 35 rfl rfl dX8_supposeBorne_34 rfl ?_
      refine p_getR 8 6 38 rfl dX8_supposeBorne_35 fl_X8_44 rfl rfl hS.2.2.1 (by decide) ?_
      refine p_getR 7 4 41 rfl dX8_supposeBorne_38 fl_X8_254 rfl rfl hw.1.2.2.2.1 (mk0 (Nat.succ_ne_zero _)) ?_
      refine p_iload_n 3 42 rfl rfl dX8_supposeBorne_41 rfl ?_
      refine p_ialdE 43 rfl dX8_supposeBorne_42 (kd16 _ _) (lt9 (by omega)) (hw.2.2.1 (p % 9) (by omega)).2.2 ?_
      refine p_iconst (-1) 44 rfl dX8_supposeBorne_43 rfl ?_
      refine p_icmp_eq 62 47 rfl rfl dX8_supposeBorne_44 (fun h44 => ?_) (fun h44 => ?_)
      · refine p_iconst (0) 63 rfl dX8_supposeBorne_62 rfl ?_
        exact p_zret dX8_supposeBorne_63 rfl rfl (by
      have hn : canB A p = false := by have := (pI_m1 (by have := (hv.2.1 (p % 9) (by omega)).2.2; omega)).mp h44; simp [canB, this]
      exact ⟨_, rfl, by rw [hn]; rfl, hT, Ch.rf, fun z => absurd z (by simp [hn])⟩)
      · refine p_aload_n 0 48 rfl rfl dX8_supposeBorne_47 rfl ?_
        refine p_getR 8 6 51 rfl dX8_supposeBorne_48 fl_X8_44 rfl rfl hS.2.2.1 (by decide) ?_
        refine p_getR 7 4 54 rfl dX8_supposeBorne_51 fl_X8_254 rfl rfl hw.1.2.2.2.1 (mk0 (Nat.succ_ne_zero _)) ?_
        refine p_iload_n 3 55 rfl rfl dX8_supposeBorne_54 rfl ?_
        refine p_ialdE 56 rfl dX8_supposeBorne_55 (kd16 _ _) (lt9 (by omega)) (hw.2.2.1 (p % 9) (by omega)).2.2 ?_
        refine p_iconst (4) 57 rfl dX8_supposeBorne_56 rfl ?_
        refine p_iload_n 2 58 rfl rfl dX8_supposeBorne_57 rfl ?_
        refine p_iadd 59 rfl dX8_supposeBorne_58 ?_
        rw [pI_hand]
        refine p_icmp_ne 64 62 rfl rfl dX8_supposeBorne_59 (fun h59 => ?_) (fun h59 => ?_)
        · refine p_aload_n 0 65 rfl rfl dX8_supposeBorne_64 rfl ?_
          refine p_getR 8 7 68 rfl dX8_supposeBorne_65 fl_X8_48 rfl rfl hS.2.2.2.1 (by decide) ?_
          refine p_aload_n 0 69 rfl rfl dX8_supposeBorne_68 rfl ?_
          refine p_getR 8 6 72 rfl dX8_supposeBorne_69 fl_X8_44 rfl rfl hS.2.2.1 (by decide) ?_
          refine p_cV1v 0 0 75 rfl dX8_supposeBorne_72 (c_copyW hT.2.2.2.2.2.1.1 hw (by decide) hwo ho.1.1.ne0) ml_X8_345 vl_X7_copyFrom rfl (by decide) rfl (Nat.le_of_ble_eq_true rfl) (Nat.le_of_ble_eq_true rfl) (Nat.le_of_ble_eq_true rfl) (Nat.le_of_ble_eq_true rfl) rfl ?_
          rintro σ1 ⟨hw1, hwo1, hF1⟩
          have hc1 : Ch (inS sAux) σ σ1 := hF1.ch (by decide) (by decide) (by decide) (by decide)
          have h1 : IT σ1 o o' A := hT.aux hc1
          have hS1 := h1.1
          refine p_aload_n 0 76 rfl rfl dX8_supposeBorne_75 rfl ?_
          refine p_getR 8 7 79 rfl dX8_supposeBorne_76 fl_X8_48 rfl rfl hS1.2.2.2.1 (by decide) ?_
          refine p_getR 7 4 82 rfl dX8_supposeBorne_79 fl_X8_254 rfl rfl hw1.1.2.2.2.1 (mk0 (Nat.succ_ne_zero _)) ?_
          refine p_iload_n 3 83 rfl rfl dX8_supposeBorne_82 rfl ?_
          refine p_iconst (4) 84 rfl dX8_supposeBorne_83 rfl ?_
          refine p_iload_n 2 85 rfl rfl dX8_supposeBorne_84 rfl ?_
          refine p_iadd 86 rfl dX8_supposeBorne_85 ?_
          rw [pI_hand]
          refine p_iastE 87 rfl dX8_supposeBorne_86 (kd16 _ _) (lt9 (by omega)) ?_
          refine p_iconst (1) 88 rfl dX8_supposeBorne_87 rfl ?_
          exact p_zret dX8_supposeBorne_88 rfl rfl (by
      have e1 : ¬ vP (tV A) (p % 9) = 0 := fun z => h44 (by rw [z]; rfl)
      have e2 : ¬ vP (tV A) (p % 9) = p / 9 + 5 := fun z => h59 (by rw [z])
      have hn : canB A p = true := by simp [canB, hc0, hs0, e1, e2]
      have hF2 : WF wA o σ1 (sA σ1 (wP wA) (p % 9) (pI (p / 9 + 5))) := Fr.sA (by simp [wX])
      have hc2 : Ch (inS sAux) σ (sA σ1 (wP wA) (p % 9) (pI (p / 9 + 5))) := hc1.tr (hF2.aux ho.1.1)
      exact ⟨_, rfl, by rw [hn]; rfl, hT.aux hc2, hc2, fun _ => ⟨hT.aux hc2, hw1.setP, hwo1⟩⟩)
        · refine p_iconst (0) 63 rfl dX8_supposeBorne_62 rfl ?_
          exact p_zret dX8_supposeBorne_63 rfl rfl (by
      have hn : canB A p = false := by have := (pI_inj (by have := (hv.2.1 (p % 9) (by omega)).2.2; omega) (by omega)).mp h59; simp [canB, this]
      exact ⟨_, rfl, by rw [hn]; rfl, hT, Ch.rf, fun z => absurd z (by simp [hn])⟩)
    · refine p_iconst (0) 33 rfl dX8_supposeBorne_32 rfl ?_
      exact p_zret dX8_supposeBorne_33 rfl rfl (by
      have hn : canB A p = false := by have : ¬ p % 9 < aS (tO A) := fun z => h29 (nI_lt z (by omega)); simp [canB, this]
      exact ⟨_, rfl, by rw [hn]; rfl, hT, Ch.rf, fun z => absurd z (by simp [hn])⟩)
set_option maxRecDepth 6000 in
theorem l_borne (hT : IT σ o o' A) {w : Nat} (hw3 : w < 3) : ∀ (n i : Nat) (σ1 : PH), i + n = 54 → IT σ1 o o' A → Ch (inS sAux) σ σ1 → Ok Γ 14 0 0 mX8_borne 42 [some (.ref T0), some (.int (nI w)), some (.int (nI (prL (okP A) i).length)), some (.int (fstI (prL (okP A) i))), some (.int (nI i))] [] σ1 (rS (0, if w = 0 then nI (prL (okP A) 54).length else fstI (prL (okP A) 54)) false (fun σ' => IT σ' o o' A ∧ Ch cls σ σ')) := by
  have hS := hT.1
  have hK := hT.2.1
  have hto : hR σ T0 3 = o := hT.2.2.1.2.2.1
  have hQ := hT.2.2.2.1
  have ho := hQ.1
  have hw := hT.2.2.2.2.1.1
  have hwo := hT.2.2.2.2.1.2
  have hv := hK.2.2.2.2.1.1
  have hd9 := hK.2.2.2.2.1.2
  have hY := hK.2.2.2.1
  have hO := hK.2.2.1
  have hs9 := hO.1
  have hc6 := hO.2.1
  have hw12 := hO.2.2.1
  have hk8 := hO.2.2.2.1
  intro n
  induction n with
  | zero =>
    intro i σ1 hi hT1 hcc
    have hS1 := hT1.1
    have hK := hT1.2.1
    refine p_iload 4 44 rfl dX8_borne_42 rfl ?_
    refine p_bipush (54) 46 rfl dX8_borne_44 rfl ?_
    refine p_icmp_ge 100 49 rfl rfl dX8_borne_46 (fun h46 => ?_) (fun h46 => absurd (nI_le (a := 54) (b := i) (by omega) (by omega)) h46)
    refine p_iload_n 1 101 rfl rfl dX8_borne_100 rfl ?_
    refine p_if_ne 108 104 rfl rfl dX8_borne_101 (fun h101 => ?_) (fun h101 => ?_)
    · refine p_iload_n 3 109 rfl rfl dX8_borne_108 rfl ?_
      exact p_iret dX8_borne_109 rfl (by
      have hx : ¬ w = 0 := fun z => h101 (by rw [z]; rfl)
      exact ⟨by rw [if_neg hx, show i = 54 by omega]; rfl, hT1, hcc.aux⟩)
    · refine p_iload_n 2 105 rfl rfl dX8_borne_104 rfl ?_
      refine p_goto 109 rfl dX8_borne_105 ?_
      exact p_iret dX8_borne_109 rfl (by
      have hx : w = 0 := by
        rcases Nat.eq_zero_or_pos w with z | z
        · exact z
        · exact absurd h101 (nI_ne0 z (by omega))
      exact ⟨by rw [if_pos hx, show i = 54 by omega]; rfl, hT1, hcc.aux⟩)
  | succ n ih =>
    intro i σ1 hi hT1 hcc
    have hS1 := hT1.1
    have hK := hT1.2.1
    refine p_iload 4 44 rfl dX8_borne_42 rfl ?_
    refine p_bipush (54) 46 rfl dX8_borne_44 rfl ?_
    refine p_icmp_ge 100 49 rfl rfl dX8_borne_46 (fun h46 => absurd h46 (nI_ge (a := i) (b := 54) (by omega) (by omega))) (fun h46 => ?_)
    refine p_aload_n 0 50 rfl rfl dX8_borne_49 rfl ?_
    refine p_iload 4 52 rfl dX8_borne_50 rfl ?_
    refine p_cV1x 0 0 55 rfl dX8_borne_52 (c_suppose hT1 (by omega)) ml_X8_335 vl_X8_supposeBorne rfl (by decide) rfl (Nat.le_of_ble_eq_true rfl) (Nat.le_of_ble_eq_true rfl) (Nat.le_of_ble_eq_true rfl) (Nat.le_of_ble_eq_true rfl) rfl ?_
    rintro x2 σ2 ⟨hx2, hT2, hc2, hA2⟩
    subst hx2
    have hS2 := hT2.1
    refine p_if_eq 94 58 rfl rfl dX8_borne_55 (fun h55 => ?_) (fun h55 => ?_)
    · refine p_inc_4 97 rfl dX8_borne_94 (1) rfl (Nat.le_of_ble_eq_true rfl) rfl ?_
      refine p_goto 42 rfl dX8_borne_97 ?_
      have hcan : canB A i = false := by simpa only [b2i_eq0, Bool.not_eq_true] using h55
      have e : prL (okP A) (i + 1) = prL (okP A) i := by rw [prL, if_neg (by simp [okP, hcan])]
      rw [nI_1, ← e]
      exact ih (i + 1) σ2 (by omega) hT2 (hcc.tr hc2)
    · have hcan : canB A i = true := by simpa only [b2i_eq0, Decidable.not_not, Bool.not_eq_true, Bool.not_eq_false] using h55
      refine p_aload_n 0 59 rfl rfl dX8_borne_58 rfl ?_
      refine p_getR 8 9 62 rfl dX8_borne_59 fl_X8_61 rfl rfl hS2.2.2.2.2.2.1 (by decide) ?_
      refine p_aload_n 0 63 rfl rfl dX8_borne_62 rfl ?_
      refine p_getR 8 7 66 rfl dX8_borne_63 fl_X8_48 rfl rfl hS2.2.2.2.1 (by decide) ?_
      refine p_cV1x 0 0 69 rfl dX8_borne_66 (c_allSo (hA2 hcan) (OkU.borW hK.2.2.2.2.1 hK.2.2.1 hcan).1 (Nat.le_trans (OkU.borW hK.2.2.2.2.1 hK.2.2.1 hcan).2 (by decide))) ml_X8_331 vl_X3_allSo rfl (by decide) rfl (Nat.le_of_ble_eq_true rfl) (Nat.le_of_ble_eq_true rfl) (Nat.le_of_ble_eq_true rfl) (Nat.le_of_ble_eq_true rfl) rfl ?_
      rintro x3 σ3 ⟨hx3, hT3, hc3⟩
      subst hx3
      refine p_if_eq 94 72 rfl rfl dX8_borne_69 (fun h69 => ?_) (fun h69 => ?_)
      · refine p_inc_4 97 rfl dX8_borne_94 (1) rfl (Nat.le_of_ble_eq_true rfl) rfl ?_
        refine p_goto 42 rfl dX8_borne_97 ?_
        have hall : allS (tO A) (borW A i) (tH A) = false := by simpa only [b2i_eq0, Bool.not_eq_true] using h69
        have e : prL (okP A) (i + 1) = prL (okP A) i := by rw [prL, if_neg (by simp [okP, hall])]
        rw [nI_1, ← e]
        exact ih (i + 1) σ3 (by omega) hT3 ((hcc.tr hc2).tr hc3)
      · refine p_iload_n 2 73 rfl rfl dX8_borne_72 rfl ?_
        refine p_if_ne 91 76 rfl rfl dX8_borne_73 (fun h73 => ?_) (fun h73 => ?_)
        · refine p_inc_2 94 rfl dX8_borne_91 (1) rfl (Nat.le_of_ble_eq_true rfl) rfl ?_
          refine p_inc_4 97 rfl dX8_borne_94 (1) rfl (Nat.le_of_ble_eq_true rfl) rfl ?_
          refine p_goto 42 rfl dX8_borne_97 ?_
          have hall : allS (tO A) (borW A i) (tH A) = true := by simpa only [b2i_eq0, Decidable.not_not, Bool.not_eq_true, Bool.not_eq_false] using h69
          have e : prL (okP A) (i + 1) = prL (okP A) i ++ [i] := by rw [prL, if_pos (by simp [okP, hcan, hall])]
          have := ih (i + 1) σ3 (by omega) hT3 ((hcc.tr hc2).tr hc3)
          rw [e, List.length_append, List.length_singleton] at this
          have hne : prL (okP A) i ≠ [] := fun z => h73 (by rw [z]; rfl)
          have e2 : fstI (prL (okP A) i ++ [i]) = fstI (prL (okP A) i) := by
            cases hl : prL (okP A) i with
            | nil => exact absurd hl hne
            | cons a l => rfl
          rw [e2] at this
          rw [nI_1, nI_1]
          exact this
        · refine p_iload 4 78 rfl dX8_borne_76 rfl ?_
          refine p_bipush (9) 80 rfl dX8_borne_78 rfl ?_
          refine p_idiv 81 rfl dX8_borne_80 (by decide) ?_
          rw [show (9 : Int32) = nI 9 from rfl, pk_div (by omega) (by decide) (by decide)]
          refine p_bipush (10) 83 rfl dX8_borne_81 rfl ?_
          refine p_imul 84 rfl dX8_borne_83 ?_
          refine p_iload 4 86 rfl dX8_borne_84 rfl ?_
          refine p_bipush (9) 88 rfl dX8_borne_86 rfl ?_
          refine p_irem 89 rfl dX8_borne_88 (by decide) ?_
          rw [show (9 : Int32) = nI 9 from rfl, pk_rem (by omega) (by decide) (by decide), show (10 : Int32) = nI 10 from rfl, pk_mul]
          refine p_iadd 90 rfl dX8_borne_89 ?_
          rw [nI_add]
          refine p_ist_n3 91 rfl rfl dX8_borne_90 (Nat.le_of_ble_eq_true rfl) rfl ?_
          refine p_inc_2 94 rfl dX8_borne_91 (1) rfl (Nat.le_of_ble_eq_true rfl) rfl ?_
          refine p_inc_4 97 rfl dX8_borne_94 (1) rfl (Nat.le_of_ble_eq_true rfl) rfl ?_
          refine p_goto 42 rfl dX8_borne_97 ?_
          have hall : allS (tO A) (borW A i) (tH A) = true := by simpa only [b2i_eq0, Decidable.not_not, Bool.not_eq_true, Bool.not_eq_false] using h69
          have e : prL (okP A) (i + 1) = prL (okP A) i ++ [i] := by rw [prL, if_pos (by simp [okP, hcan, hall])]
          have := ih (i + 1) σ3 (by omega) hT3 ((hcc.tr hc2).tr hc3)
          rw [e, List.length_append, List.length_singleton] at this
          have hnil : prL (okP A) i = [] := by
            cases hl : prL (okP A) i with
            | nil => rfl
            | cons a l => exact absurd h73 (by rw [hl]; exact nI_ne0 (by simp) (by have := prL_len (okP A) i; rw [hl] at this; omega))
          rw [hnil] at this ⊢
          rw [nI_1, nI_1]
          exact this
set_option maxRecDepth 6000 in
theorem t_borne (hT : IT σ o o' A) (x : Int32) : CallOk Γ 14 8 48 mX8_borne [.ref T0, .int x] σ (rS (fBorne A x) false (fun σ' => IT σ' o o' A ∧ Ch cls σ σ')) := by
  have hS := hT.1
  have hK := hT.2.1
  have hto : hR σ T0 3 = o := hT.2.2.1.2.2.1
  have hQ := hT.2.2.2.1
  have ho := hQ.1
  have hw := hT.2.2.2.2.1.1
  have hwo := hT.2.2.2.2.1.2
  have hv := hK.2.2.2.2.1.1
  have hd9 := hK.2.2.2.2.1.2
  have hY := hK.2.2.2.1
  have hO := hK.2.2.1
  have hs9 := hO.1
  have hc6 := hO.2.1
  have hw12 := hO.2.2.1
  have hk8 := hO.2.2.2.1
  refine p_enter rfl rfl (Nat.le_of_ble_eq_true rfl) rfl ?_
  refine p_iload_n 1 1 rfl rfl dX8_borne_0 rfl ?_
  refine p_iconst (3) 2 rfl dX8_borne_1 rfl ?_
  refine p_cS2n 5 rfl dX8_borne_2 (c_needBelow _ 3) ml_X8_257 sl_X8_needBelow (Nat.le_of_ble_eq_true rfl) (Nat.le_of_ble_eq_true rfl) (Nat.le_of_ble_eq_true rfl) (Nat.le_of_ble_eq_true rfl) rfl (fun h2 => ?_) (fun h2 => ⟨by simp [fBorne, gd, h2], hT, Ch.rf⟩)
  obtain ⟨w, rfl, hww⟩ := asN h2 (by decide)
  have hwL : w < 2147483648 := by omega
  refine p_iload_n 1 6 rfl rfl dX8_borne_5 rfl ?_
  refine p_iconst (2) 7 rfl dX8_borne_6 rfl ?_
  refine p_icmp_ne 35 10 rfl rfl dX8_borne_7 (fun h7 => ?_) (fun h7 => ?_)
  · refine p_iconst (0) 36 rfl dX8_borne_35 rfl ?_
    refine p_ist_n2 37 rfl rfl dX8_borne_36 (Nat.le_of_ble_eq_true rfl) rfl ?_
    refine p_iconst (-1) 38 rfl dX8_borne_37 rfl ?_
    refine p_ist_n3 39 rfl rfl dX8_borne_38 (Nat.le_of_ble_eq_true rfl) rfl ?_
    refine p_iconst (0) 40 rfl dX8_borne_39 rfl ?_
    refine p_ist_4 42 rfl dX8_borne_40 (Nat.le_of_ble_eq_true rfl) rfl ?_
    have e2 : ¬ w = 2 := fun z => h7 (by rw [z]; rfl)
    have e : fBorne A (nI w) = (0, if w = 0 then nI (prL (okP A) 54).length else fstI (prL (okP A) 54)) := by simp [fBorne, gd, h2, iN_nI hwL, e2]
    rw [e]
    exact (l_borne hT hww 54 0 σ (by omega) hT Ch.rf).sub (Nat.le_refl _) (Nat.zero_le _) (Nat.zero_le _)
  · refine p_aload_n 0 11 rfl rfl dX8_borne_10 rfl ?_
    refine p_iconst (0) 12 rfl dX8_borne_11 rfl ?_
    refine p_cV1v 0 0 15 rfl dX8_borne_12 (c_lookAhead (k := 0) hT (by omega)) ml_X8_271 vl_X8_lookAhead rfl (by decide) rfl (Nat.le_of_ble_eq_true rfl) (Nat.le_of_ble_eq_true rfl) (Nat.le_of_ble_eq_true rfl) (Nat.le_of_ble_eq_true rfl) rfl ?_
    rintro σ1 ⟨h1, hc1⟩
    have hS1 := h1.1.1
    refine p_aload_n 0 16 rfl rfl dX8_borne_15 rfl ?_
    refine p_getR 8 9 19 rfl dX8_borne_16 fl_X8_61 rfl rfl hS1.2.2.2.2.2.1 (by decide) ?_
    refine p_aload_n 0 20 rfl rfl dX8_borne_19 rfl ?_
    refine p_getR 8 7 23 rfl dX8_borne_20 fl_X8_48 rfl rfl hS1.2.2.2.1 (by decide) ?_
    refine p_cV1x 0 0 26 rfl dX8_borne_23 (c_allSo (W := tV A) h1 hv (by omega)) ml_X8_331 vl_X3_allSo rfl (by decide) rfl (Nat.le_of_ble_eq_true rfl) (Nat.le_of_ble_eq_true rfl) (Nat.le_of_ble_eq_true rfl) (Nat.le_of_ble_eq_true rfl) rfl ?_
    rintro x3 σ3 ⟨hx3, hT3, hc3⟩
    subst hx3
    refine p_if_eq 33 29 rfl rfl dX8_borne_26 (fun h26 => ?_) (fun h26 => ?_)
    · refine p_iconst (0) 34 rfl dX8_borne_33 rfl ?_
      exact p_iret dX8_borne_34 rfl (by
      have e2 : w = 2 := (nI_eq (b := 2) hwL (by decide)).mp h7
      subst e2
      have hall : allS (tO A) (tV A) (tH A) = false := by simpa only [b2i_eq0, Bool.not_eq_true] using h26
      exact ⟨by simp [fBorne, gd, h2, iN_nI hwL, hall, b2i], hT3, (hc1.tr hc3).aux⟩)
    · refine p_iconst (1) 30 rfl dX8_borne_29 rfl ?_
      refine p_goto 34 rfl dX8_borne_30 ?_
      exact p_iret dX8_borne_34 rfl (by
      have e2 : w = 2 := (nI_eq (b := 2) hwL (by decide)).mp h7
      subst e2
      have hall : allS (tO A) (tV A) (tH A) = true := by simpa only [b2i_eq0, Decidable.not_not, Bool.not_eq_true, Bool.not_eq_false] using h26
      exact ⟨by simp [fBorne, gd, h2, iN_nI hwL, hall, b2i], hT3, (hc1.tr hc3).aux⟩)
set_option maxRecDepth 6000 in
theorem l_gather (hT : IT σ o o' A)  : ∀ (n i : Nat) (σ1 : PH), i + n = 54 → IT σ1 o o' A → Ch (inS sAuxW) σ σ1 → ANS σ1 A (prL (okP A) i) → Ok Γ 14 0 0 mX8_gatherAnswers 4 [some (.ref T0), some (.int (nI (prL (okP A) i).length)), some (.int (nI i))] [] σ1 (rX (fun y σ' => y = nI (prL (okP A) 54).length ∧ IT σ' o o' A ∧ ANS σ' A (prL (okP A) 54) ∧ Ch (inS sAuxW) σ σ')) := by
  have hS := hT.1
  have hK := hT.2.1
  have hto : hR σ T0 3 = o := hT.2.2.1.2.2.1
  have hQ := hT.2.2.2.1
  have ho := hQ.1
  have hw := hT.2.2.2.2.1.1
  have hwo := hT.2.2.2.2.1.2
  have hv := hK.2.2.2.2.1.1
  have hd9 := hK.2.2.2.2.1.2
  have hY := hK.2.2.2.1
  have hO := hK.2.2.1
  have hs9 := hO.1
  have hc6 := hO.2.1
  have hw12 := hO.2.2.1
  have hk8 := hO.2.2.2.1
  intro n
  induction n with
  | zero =>
    intro i σ1 hi hT1 hcc hans
    have hS1 := hT1.1
    have hK := hT1.2.1
    refine p_iload_n 2 5 rfl rfl dX8_gatherAnswers_4 rfl ?_
    refine p_bipush (54) 7 rfl dX8_gatherAnswers_5 rfl ?_
    refine p_icmp_ge 77 10 rfl rfl dX8_gatherAnswers_7 (fun h7 => ?_) (fun h7 => absurd (nI_le (a := 54) (b := i) (by omega) (by omega)) h7)
    refine p_iload_n 1 78 rfl rfl dX8_gatherAnswers_77 rfl ?_
    exact p_iret dX8_gatherAnswers_78 rfl ⟨_, rfl, by rw [show i = 54 by omega], hT1, by rw [show i = 54 by omega] at hans; exact hans, hcc⟩
  | succ n ih =>
    intro i σ1 hi hT1 hcc hans
    have hS1 := hT1.1
    have hK := hT1.2.1
    have hpl := prL_len (okP A) i
    refine p_iload_n 2 5 rfl rfl dX8_gatherAnswers_4 rfl ?_
    refine p_bipush (54) 7 rfl dX8_gatherAnswers_5 rfl ?_
    refine p_icmp_ge 77 10 rfl rfl dX8_gatherAnswers_7 (fun h7 => absurd h7 (nI_ge (a := i) (b := 54) (by omega) (by omega))) (fun h7 => ?_)
    refine p_aload_n 0 11 rfl rfl dX8_gatherAnswers_10 rfl ?_
    refine p_iload_n 2 12 rfl rfl dX8_gatherAnswers_11 rfl ?_
    refine p_cV1x 0 0 15 rfl dX8_gatherAnswers_12 (c_suppose hT1 (by omega)) ml_X8_335 vl_X8_supposeBorne rfl (by decide) rfl (Nat.le_of_ble_eq_true rfl) (Nat.le_of_ble_eq_true rfl) (Nat.le_of_ble_eq_true rfl) (Nat.le_of_ble_eq_true rfl) rfl ?_
    rintro x2 σ2 ⟨hx2, hT2, hc2, hA2⟩
    subst hx2
    have hS2 := hT2.1
    have hN2 : hA σ2 18622608 = hA σ1 18622608 := (hc2.2.2.2.2 18622608 rfl).2.1
    refine p_if_eq 71 18 rfl rfl dX8_gatherAnswers_15 (fun h15 => ?_) (fun h15 => ?_)
    · refine p_inc_2 74 rfl dX8_gatherAnswers_71 (1) rfl (Nat.le_of_ble_eq_true rfl) rfl ?_
      refine p_goto 4 rfl dX8_gatherAnswers_74 ?_
      have hcan : canB A i = false := by simpa only [b2i_eq0, Bool.not_eq_true] using h15
      have e : prL (okP A) (i + 1) = prL (okP A) i := by rw [prL, if_neg (by simp [okP, hcan])]
      have hx2 : hA σ2 18622608 = hA σ1 18622608 := hN2
      rw [nI_1, ← e]
      exact ih (i + 1) σ2 (by omega) hT2 (hcc.tr hc2.w) (by rw [e]; intro k hk c hc; rw [hx2]; exact hans k hk c hc)
    · have hcan : canB A i = true := by simpa only [b2i_eq0, Decidable.not_not, Bool.not_eq_true, Bool.not_eq_false] using h15
      refine p_aload_n 0 19 rfl rfl dX8_gatherAnswers_18 rfl ?_
      refine p_getR 8 9 22 rfl dX8_gatherAnswers_19 fl_X8_61 rfl rfl hS2.2.2.2.2.2.1 (by decide) ?_
      refine p_aload_n 0 23 rfl rfl dX8_gatherAnswers_22 rfl ?_
      refine p_getR 8 7 26 rfl dX8_gatherAnswers_23 fl_X8_48 rfl rfl hS2.2.2.2.1 (by decide) ?_
      refine p_cV1x 0 0 29 rfl dX8_gatherAnswers_26 (c_allSo (hA2 hcan) (OkU.borW hK.2.2.2.2.1 hK.2.2.1 hcan).1 (Nat.le_trans (OkU.borW hK.2.2.2.2.1 hK.2.2.1 hcan).2 (by decide))) ml_X8_331 vl_X3_allSo rfl (by decide) rfl (Nat.le_of_ble_eq_true rfl) (Nat.le_of_ble_eq_true rfl) (Nat.le_of_ble_eq_true rfl) (Nat.le_of_ble_eq_true rfl) rfl ?_
      rintro x3 σ3 ⟨hx3, hT3, hc3⟩
      subst hx3
      have hS3 := hT3.1
      have hN3 : hA σ3 18622608 = hA σ1 18622608 := ((hc3.2.2.2.2 18622608 rfl).2.1).trans hN2
      refine p_if_eq 71 32 rfl rfl dX8_gatherAnswers_29 (fun h29 => ?_) (fun h29 => ?_)
      · refine p_inc_2 74 rfl dX8_gatherAnswers_71 (1) rfl (Nat.le_of_ble_eq_true rfl) rfl ?_
        refine p_goto 4 rfl dX8_gatherAnswers_74 ?_
        have hall : allS (tO A) (borW A i) (tH A) = false := by simpa only [b2i_eq0, Bool.not_eq_true] using h29
        have e : prL (okP A) (i + 1) = prL (okP A) i := by rw [prL, if_neg (by simp [okP, hall])]
        rw [nI_1, ← e]
        exact ih (i + 1) σ3 (by omega) hT3 ((hcc.tr hc2.w).tr hc3.w) (by rw [e]; intro k hk c hc; rw [hN3]; exact hans k hk c hc)
      · have hall : allS (tO A) (borW A i) (tH A) = true := by simpa only [b2i_eq0, Decidable.not_not, Bool.not_eq_true, Bool.not_eq_false] using h29
        refine p_aload_n 0 33 rfl rfl dX8_gatherAnswers_32 rfl ?_
        refine p_iload_n 2 34 rfl rfl dX8_gatherAnswers_33 rfl ?_
        refine p_cV1x 0 0 37 rfl dX8_gatherAnswers_34 (c_suppose hT3 (by omega)) ml_X8_335 vl_X8_supposeBorne rfl (by decide) rfl (Nat.le_of_ble_eq_true rfl) (Nat.le_of_ble_eq_true rfl) (Nat.le_of_ble_eq_true rfl) (Nat.le_of_ble_eq_true rfl) rfl ?_
        rintro x4 σ4 ⟨-, hT4, hc4, hA4⟩
        have h4 := hA4 hcan
        have hS4 := hT4.1
        have hb4 := (OkU.borW hK.2.2.2.2.1 hK.2.2.1 hcan).1
        refine p_pop 38 rfl dX8_gatherAnswers_37 rfl ?_
        refine p_aload_n 0 39 rfl rfl dX8_gatherAnswers_38 rfl ?_
        refine p_getR 8 7 42 rfl dX8_gatherAnswers_39 fl_X8_48 rfl rfl hS4.2.2.2.1 (by decide) ?_
        refine p_bipush (6) 44 rfl dX8_gatherAnswers_42 rfl ?_
        refine p_cV1v 0 0 47 rfl dX8_gatherAnswers_44 (c_passDays h4.1.2.2.2.1 hK.2.2.2.1 h4.2.1 hb4 h4.2.2 (k := 6) (by have := (OkU.borW hK.2.2.2.2.1 hK.2.2.1 hcan).2; omega)) ml_X8_251 vl_X7_passDays rfl (by decide) rfl (Nat.le_of_ble_eq_true rfl) (Nat.le_of_ble_eq_true rfl) (Nat.le_of_ble_eq_true rfl) (Nat.le_of_ble_eq_true rfl) rfl ?_
        rintro σ5 ⟨hw5, hF5⟩
        have h5 := h4.wf hw5 hF5
        have hS5 := h5.1.1
        have hc5 := hF5.aux hT4.2.2.2.1.1.1.1
        have hN5 : hA σ5 18622608 = hA σ1 18622608 := (((hc5.2.2.2.2 18622608 rfl).2.1).trans ((hc4.2.2.2.2 18622608 rfl).2.1)).trans hN3
        refine p_aload_n 0 48 rfl rfl dX8_gatherAnswers_47 rfl ?_
        refine p_getR 8 7 51 rfl dX8_gatherAnswers_48 fl_X8_48 rfl rfl hS5.2.2.2.1 (by decide) ?_
        refine p_getR 7 5 54 rfl dX8_gatherAnswers_51 fl_X8_200 rfl rfl hw5.1.2.2.2.2.1 (mk0 (Nat.succ_ne_zero _)) ?_
        refine p_iconst (0) 55 rfl dX8_gatherAnswers_54 rfl ?_
        refine p_aload_n 0 56 rfl rfl dX8_gatherAnswers_55 rfl ?_
        refine p_getR 8 17 59 rfl dX8_gatherAnswers_56 fl_X8_96 rfl rfl hS5.2.2.2.2.2.2.2.2.2.2.2.2.1 (by decide) ?_
        refine p_iload_n 1 60 rfl rfl dX8_gatherAnswers_59 rfl ?_
        refine p_bipush (6) 62 rfl dX8_gatherAnswers_60 rfl ?_
        refine p_imul 63 rfl dX8_gatherAnswers_62 ?_
        refine p_bipush (6) 65 rfl dX8_gatherAnswers_63 rfl ?_
        rw [show (6 : Int32) = nI 6 from rfl, pk_mul, Nat.mul_comm]
        refine p_copy 68 rfl dX8_gatherAnswers_65 cl_X8_348 (kd16 _ _) rfl (by decide) (nI_pos (by omega)) (by decide) (by rw [show ln (wK wA) = 6 from ln6 _]; decide) (by rw [nI_clamp (by omega)]; show 6 * (prL (okP A) i).length + 6 ≤ 324; omega) (Nat.le_of_ble_eq_true rfl) (Nat.le_of_ble_eq_true rfl) ?_
        refine p_inc_1 71 rfl dX8_gatherAnswers_68 (1) rfl (Nat.le_of_ble_eq_true rfl) rfl ?_
        refine p_inc_2 74 rfl dX8_gatherAnswers_71 (1) rfl (Nat.le_of_ble_eq_true rfl) rfl ?_
        refine p_goto 4 rfl dX8_gatherAnswers_74 ?_
        have e : prL (okP A) (i + 1) = prL (okP A) i ++ [i] := by rw [prL, if_pos (by simp [okP, hcan, hall])]
        rw [show (0 : Int32).toNatClampNeg = 0 from rfl, show (nI 6).toNatClampNeg = 6 from rfl, nI_clamp (by omega)]
        have hc6 : Ch (inS sAuxW) σ5 (sF σ5 18622608 (va_cpy (hA σ5 (wK wA)) (hA σ5 18622608) 0 (6 * (prL (okP A) i).length) 6)) := Fr.ch (XI := []) (X := [18622608]) (Fr.sF (by simp)) rfl (by decide)
        have := ih (i + 1) (sF σ5 18622608 (va_cpy (hA σ5 (wK wA)) (hA σ5 18622608) 0 (6 * (prL (okP A) i).length) 6)) (by omega) (h5.1.auxW hc6) (((((hcc.tr hc2.w).tr hc3.w).tr hc4.w).tr hc5.w).tr hc6) (by
          rw [e]
          intro k hk c hc
          rw [hA_sF]
          rw [List.length_append, List.length_singleton] at hk
          by_cases ek : k = (prL (okP A) i).length
          · subst ek
            rw [pk_cpy_in (by omega) (by omega), show ∀ a : Nat, 0 + (6 * a + c - 6 * a) = c by intro a; omega]
            rw [hw5.2.2.2 c hc]
            show _ = nI (ansW A c (List.getD (prL (okP A) i ++ [i]) (prL (okP A) i).length 0))
            rw [List.getD_eq_getElem?_getD, List.getElem?_append_right (Nat.le_refl _)]
            simp [ansW]
          · rw [pk_cpy_out (Or.inl (by omega)), hN5]
            have hlt : k < (prL (okP A) i).length := by omega
            rw [hans k hlt c hc]
            rw [List.getD_eq_getElem?_getD, List.getD_eq_getElem?_getD, List.getElem?_append_left hlt])
        rw [e, List.length_append, List.length_singleton] at this
        rw [nI_1, nI_1]
        exact this
set_option maxRecDepth 4000 in
theorem c_gather (hT : IT σ o o' A) : CallOk Γ 14 0 0 mX8_gatherAnswers [.ref T0] σ (rX (fun y σ' => y = nI (prL (okP A) 54).length ∧ IT σ' o o' A ∧ ANS σ' A (prL (okP A) 54) ∧ Ch (inS sAuxW) σ σ')) := by
  refine p_enter rfl rfl (Nat.le_of_ble_eq_true rfl) rfl ?_
  refine p_iconst (0) 1 rfl dX8_gatherAnswers_0 rfl ?_
  refine p_ist_n1 2 rfl rfl dX8_gatherAnswers_1 (Nat.le_of_ble_eq_true rfl) rfl ?_
  refine p_iconst (0) 3 rfl dX8_gatherAnswers_2 rfl ?_
  refine p_ist_n2 4 rfl rfl dX8_gatherAnswers_3 (Nat.le_of_ble_eq_true rfl) rfl ?_
  exact l_gather hT 54 0 σ (by omega) hT Ch.rf (fun k hk => absurd hk (Nat.not_lt_zero _))
theorem anyN_mono {p : Nat → Bool} {n m : Nat} (h : n ≤ m) (hp : anyN n p = true) : anyN m p = true := by
  induction m with
  | zero => rw [show n = 0 by omega] at hp; exact hp
  | succ m ih =>
    by_cases e : n = m + 1
    · subst e; exact hp
    · rw [anyN, ih (by omega)]; rfl
set_option maxRecDepth 4000 in
theorem m_unlike (hr17 : hR σ T0 17 = 18622608) {c : Nat} {l : List Nat} (hc : c < 6) (hl : l.length ≤ 54) (hans : ANS σ A l) (hbd : ∀ k, k < l.length → ansW A c (l.getD k 0) < 4096) {i : Nat} (hi : i < l.length) {Q : PO → PH → Prop} (kk : ∀ x6, Ok Γ 1 0 0 mX8_unlikeAnswers 69 [some (.ref T0), some (.int (nI c)), some (.int (nI l.length)), some (.int (nI (cntN i (fun i => !anyN i (fun j => ansW A c (l.getD j 0) == ansW A c (l.getD i 0)))))), some (.int (nI i)), some (.int (b2i (!anyN i (fun j => ansW A c (l.getD j 0) == ansW A c (l.getD i 0))))), x6] [] σ Q) : ∀ (n j : Nat), j + n = i → Ok Γ 1 0 0 mX8_unlikeAnswers 17 [some (.ref T0), some (.int (nI c)), some (.int (nI l.length)), some (.int (nI (cntN i (fun i => !anyN i (fun j => ansW A c (l.getD j 0) == ansW A c (l.getD i 0)))))), some (.int (nI i)), some (.int (b2i (!anyN j (fun j => ansW A c (l.getD j 0) == ansW A c (l.getD i 0))))), some (.int (nI j))] [] σ Q := by
  intro n
  induction n with
  | zero =>
    intro j hj
    refine p_iload 6 19 rfl dX8_unlikeAnswers_17 rfl ?_
    refine p_iload 4 21 rfl dX8_unlikeAnswers_19 rfl ?_
    refine p_icmp_ge 69 24 rfl rfl dX8_unlikeAnswers_21 (fun h21 => ?_) (fun h21 => absurd (nI_le (a := i) (b := j) (by omega) (by omega)) h21)
    rw [show j = i by omega]
    exact kk _
  | succ n ih =>
    intro j hj
    refine p_iload 6 19 rfl dX8_unlikeAnswers_17 rfl ?_
    refine p_iload 4 21 rfl dX8_unlikeAnswers_19 rfl ?_
    refine p_icmp_ge 69 24 rfl rfl dX8_unlikeAnswers_21 (fun h21 => absurd h21 (nI_ge (a := j) (b := i) (by omega) (by omega))) (fun h21 => ?_)
    refine p_iload 5 26 rfl dX8_unlikeAnswers_24 rfl ?_
    refine p_if_eq 69 29 rfl rfl dX8_unlikeAnswers_26 (fun h26 => ?_) (fun h26 => ?_)
    · have e0 : anyN j (fun j => ansW A c (l.getD j 0) == ansW A c (l.getD i 0)) = true := by
        cases e1 : anyN j (fun j => ansW A c (l.getD j 0) == ansW A c (l.getD i 0)) with
        | false => rw [e1] at h26; exact absurd h26 (by decide)
        | true => rfl
      have e2 : anyN i (fun j => ansW A c (l.getD j 0) == ansW A c (l.getD i 0)) = true := anyN_mono (by omega) e0
      have e3 : b2i (!anyN j (fun j => ansW A c (l.getD j 0) == ansW A c (l.getD i 0))) = b2i (!anyN i (fun j => ansW A c (l.getD j 0) == ansW A c (l.getD i 0))) := by rw [e0, e2]
      rw [e3]
      exact kk _
    · refine p_aload_n 0 30 rfl rfl dX8_unlikeAnswers_29 rfl ?_
      refine p_getR 8 17 33 rfl dX8_unlikeAnswers_30 fl_X8_96 rfl rfl hr17 (by decide) ?_
      refine p_iload 6 35 rfl dX8_unlikeAnswers_33 rfl ?_
      refine p_bipush (6) 37 rfl dX8_unlikeAnswers_35 rfl ?_
      refine p_imul 38 rfl dX8_unlikeAnswers_37 ?_
      rw [show (6 : Int32) = nI 6 from rfl, pk_mul, Nat.mul_comm]
      refine p_iload_n 1 39 rfl rfl dX8_unlikeAnswers_38 rfl ?_
      refine p_iadd 40 rfl dX8_unlikeAnswers_39 ?_
      rw [nI_add]
      refine p_ialdE 41 rfl dX8_unlikeAnswers_40 (i := 6 * j + c) rfl (by show 6 * j + c < 324; omega) (hans j (by omega) c hc) ?_
      refine p_aload_n 0 42 rfl rfl dX8_unlikeAnswers_41 rfl ?_
      refine p_getR 8 17 45 rfl dX8_unlikeAnswers_42 fl_X8_96 rfl rfl hr17 (by decide) ?_
      refine p_iload 4 47 rfl dX8_unlikeAnswers_45 rfl ?_
      refine p_bipush (6) 49 rfl dX8_unlikeAnswers_47 rfl ?_
      refine p_imul 50 rfl dX8_unlikeAnswers_49 ?_
      rw [show (6 : Int32) = nI 6 from rfl, pk_mul, Nat.mul_comm]
      refine p_iload_n 1 51 rfl rfl dX8_unlikeAnswers_50 rfl ?_
      refine p_iadd 52 rfl dX8_unlikeAnswers_51 ?_
      rw [nI_add]
      refine p_ialdE 53 rfl dX8_unlikeAnswers_52 (i := 6 * i + c) rfl (by show 6 * i + c < 324; omega) (hans i (by omega) c hc) ?_
      refine p_icmp_eq 60 56 rfl rfl dX8_unlikeAnswers_53 (fun h53 => ?_) (fun h53 => ?_)
      · refine p_iconst (0) 61 rfl dX8_unlikeAnswers_60 rfl ?_
        refine p_ist_5 63 rfl dX8_unlikeAnswers_61 (Nat.le_of_ble_eq_true rfl) rfl ?_
        refine p_inc_6 66 rfl dX8_unlikeAnswers_63 (1) rfl (Nat.le_of_ble_eq_true rfl) rfl ?_
        refine p_goto 17 rfl dX8_unlikeAnswers_66 ?_
        have hx : (ansW A c (l.getD j 0) == ansW A c (l.getD i 0)) = true := by simpa using (nI_eq (Nat.lt_trans (hbd _ (by omega)) (by decide)) (Nat.lt_trans (hbd _ (by omega)) (by decide))).mp h53
        have e : b2i (!anyN (j + 1) (fun j => ansW A c (l.getD j 0) == ansW A c (l.getD i 0))) = 0 := by simp only [anyN, hx]; simp [b2i]
        rw [nI_1, ← e]
        exact ih (j + 1) (by omega)
      · refine p_iconst (1) 57 rfl dX8_unlikeAnswers_56 rfl ?_
        refine p_goto 61 rfl dX8_unlikeAnswers_57 ?_
        refine p_ist_5 63 rfl dX8_unlikeAnswers_61 (Nat.le_of_ble_eq_true rfl) rfl ?_
        refine p_inc_6 66 rfl dX8_unlikeAnswers_63 (1) rfl (Nat.le_of_ble_eq_true rfl) rfl ?_
        refine p_goto 17 rfl dX8_unlikeAnswers_66 ?_
        have hx : (ansW A c (l.getD j 0) == ansW A c (l.getD i 0)) = false := by simpa using (fun z : ansW A c (l.getD j 0) = ansW A c (l.getD i 0) => h53 (by rw [z]))
        have e0 : anyN j (fun j => ansW A c (l.getD j 0) == ansW A c (l.getD i 0)) = false := by
          cases e1 : anyN j (fun j => ansW A c (l.getD j 0) == ansW A c (l.getD i 0)) with
          | false => rfl
          | true => rw [e1] at h26; exact absurd rfl h26
        have e : b2i (!anyN (j + 1) (fun j => ansW A c (l.getD j 0) == ansW A c (l.getD i 0))) = 1 := by simp only [anyN, hx, e0]; simp [b2i]
        rw [nI_1, ← e]
        exact ih (j + 1) (by omega)
set_option maxRecDepth 4000 in
theorem l_unlike (hr17 : hR σ T0 17 = 18622608) {c : Nat} {l : List Nat} (hc : c < 6) (hl : l.length ≤ 54) (hans : ANS σ A l) (hbd : ∀ k, k < l.length → ansW A c (l.getD k 0) < 4096) : ∀ (n i : Nat) (x5 x6 : Option Value), i + n = l.length → Ok Γ 1 0 0 mX8_unlikeAnswers 5 [some (.ref T0), some (.int (nI c)), some (.int (nI l.length)), some (.int (nI (cntN i (fun i => !anyN i (fun j => ansW A c (l.getD j 0) == ansW A c (l.getD i 0)))))), some (.int (nI i)), x5, x6] [] σ (rI σ (nI (cntN l.length (fun i => !anyN i (fun j => ansW A c (l.getD j 0) == ansW A c (l.getD i 0)))))) := by
  intro n
  induction n with
  | zero =>
    intro i x5 x6 hi
    refine p_iload 4 7 rfl dX8_unlikeAnswers_5 rfl ?_
    refine p_iload_n 2 8 rfl rfl dX8_unlikeAnswers_7 rfl ?_
    refine p_icmp_ge 83 11 rfl rfl dX8_unlikeAnswers_8 (fun h8 => ?_) (fun h8 => absurd (nI_le (a := l.length) (b := i) (by omega) (by omega)) h8)
    refine p_iload_n 3 84 rfl rfl dX8_unlikeAnswers_83 rfl ?_
    exact p_iret dX8_unlikeAnswers_84 rfl ⟨by rw [show i = l.length by omega], rfl⟩
  | succ n ih =>
    intro i x5 x6 hi
    refine p_iload 4 7 rfl dX8_unlikeAnswers_5 rfl ?_
    refine p_iload_n 2 8 rfl rfl dX8_unlikeAnswers_7 rfl ?_
    refine p_icmp_ge 83 11 rfl rfl dX8_unlikeAnswers_8 (fun h8 => absurd h8 (nI_ge (a := i) (b := l.length) (by omega) (by omega))) (fun h8 => ?_)
    refine p_iconst (1) 12 rfl dX8_unlikeAnswers_11 rfl ?_
    refine p_ist_5 14 rfl dX8_unlikeAnswers_12 (Nat.le_of_ble_eq_true rfl) rfl ?_
    refine p_iconst (0) 15 rfl dX8_unlikeAnswers_14 rfl ?_
    refine p_ist_6 17 rfl dX8_unlikeAnswers_15 (Nat.le_of_ble_eq_true rfl) rfl ?_
    refine m_unlike hr17 hc hl hans hbd (by omega) (fun x6 => ?_) i 0 (by omega)
    refine p_iload 5 71 rfl dX8_unlikeAnswers_69 rfl ?_
    refine p_if_eq 77 74 rfl rfl dX8_unlikeAnswers_71 (fun h71 => ?_) (fun h71 => ?_)
    · refine p_inc_4 80 rfl dX8_unlikeAnswers_77 (1) rfl (Nat.le_of_ble_eq_true rfl) rfl ?_
      refine p_goto 5 rfl dX8_unlikeAnswers_80 ?_
      have e : cntN (i + 1) (fun i => !anyN i (fun j => ansW A c (l.getD j 0) == ansW A c (l.getD i 0))) = cntN i (fun i => !anyN i (fun j => ansW A c (l.getD j 0) == ansW A c (l.getD i 0))) := by
        have e1 : (!anyN i (fun j => ansW A c (l.getD j 0) == ansW A c (l.getD i 0))) = false := by simpa only [b2i_eq0, Bool.not_eq_true] using h71
        rw [cntN, if_neg (by rw [e1]; decide)]; rfl
      rw [nI_1, ← e]
      exact ih (i + 1) _ _ (by omega)
    · refine p_inc_3 77 rfl dX8_unlikeAnswers_74 (1) rfl (Nat.le_of_ble_eq_true rfl) rfl ?_
      refine p_inc_4 80 rfl dX8_unlikeAnswers_77 (1) rfl (Nat.le_of_ble_eq_true rfl) rfl ?_
      refine p_goto 5 rfl dX8_unlikeAnswers_80 ?_
      have e : cntN (i + 1) (fun i => !anyN i (fun j => ansW A c (l.getD j 0) == ansW A c (l.getD i 0))) = cntN i (fun i => !anyN i (fun j => ansW A c (l.getD j 0) == ansW A c (l.getD i 0))) + 1 := by
        have e1 : (!anyN i (fun j => ansW A c (l.getD j 0) == ansW A c (l.getD i 0))) = true := by simpa only [b2i_eq0, Decidable.not_not, Bool.not_eq_true, Bool.not_eq_false] using h71
        rw [cntN, if_pos e1]
      rw [nI_1, nI_1, ← e]
      exact ih (i + 1) _ _ (by omega)
set_option maxRecDepth 4000 in
theorem c_unlike (hr17 : hR σ T0 17 = 18622608) {c : Nat} {l : List Nat} (hc : c < 6) (hl : l.length ≤ 54) (hans : ANS σ A l) (hbd : ∀ k, k < l.length → ansW A c (l.getD k 0) < 4096) : CallOk Γ 1 0 0 mX8_unlikeAnswers [.ref T0, .int (nI c), .int (nI l.length)] σ (rI σ (nI (cntN l.length (fun i => !anyN i (fun j => ansW A c (l.getD j 0) == ansW A c (l.getD i 0)))))) := by
  refine p_enter rfl rfl (Nat.le_of_ble_eq_true rfl) rfl ?_
  refine p_iconst (0) 1 rfl dX8_unlikeAnswers_0 rfl ?_
  refine p_ist_n3 2 rfl rfl dX8_unlikeAnswers_1 (Nat.le_of_ble_eq_true rfl) rfl ?_
  refine p_iconst (0) 3 rfl dX8_unlikeAnswers_2 rfl ?_
  refine p_ist_4 5 rfl dX8_unlikeAnswers_3 (Nat.le_of_ble_eq_true rfl) rfl ?_
  exact l_unlike hr17 hc hl hans hbd l.length 0 _ _ (by omega)
theorem askB_le {u : Nat → Nat} {m : Nat} (h : ∀ i, u i ≤ m) : ∀ n, (askB u n).2 ≤ m := by
  intro n
  induction n with
  | zero => exact Nat.zero_le _
  | succ n ih => unfold askB; split; exact h n; exact ih
set_option maxRecDepth 6000 in
theorem l_ask (hT : IT σ o o' A) {w : Nat} (hw2 : w < 2) {σ1 : PH} (hT1 : IT σ1 o o' A) (hcc : Ch (inS sAuxW) σ σ1) (hans : ANS σ1 A (prL (okP A) 54)) : ∀ (n i : Nat) (x6 : Option Value), i + n = aC (tO A) → Ok Γ 16 0 0 mX8_ask 18 [some (.ref T0), some (.int (nI w)), some (.int (nI (prL (okP A) 54).length)), some (.int (oI (askB (unl A) i).1)), some (.int (nI (askB (unl A) i).2)), some (.int (nI i)), x6] [] σ1 (rS (0, if w = 0 then oI (askB (unl A) (aC (tO A))).1 else nI (askB (unl A) (aC (tO A))).2) false (fun σ' => IT σ' o o' A ∧ Ch cls σ σ')) := by
  have hS := hT.1
  have hK := hT.2.1
  have hto : hR σ T0 3 = o := hT.2.2.1.2.2.1
  have hQ := hT.2.2.2.1
  have ho := hQ.1
  have hw := hT.2.2.2.2.1.1
  have hwo := hT.2.2.2.2.1.2
  have hv := hK.2.2.2.2.1.1
  have hd9 := hK.2.2.2.2.1.2
  have hY := hK.2.2.2.1
  have hO := hK.2.2.1
  have hs9 := hO.1
  have hc6 := hO.2.1
  have hw12 := hO.2.2.1
  have hk8 := hO.2.2.2.1
  intro n
  induction n with
  | zero =>
    intro i x6 hi
    have hto1 : hR σ1 T0 3 = o := hT1.2.2.1.2.2.1
    have ho1 := hT1.2.2.2.1.1
    have hr17 : hR σ1 T0 17 = 18622608 := hT1.1.2.2.2.2.2.2.2.2.2.2.2.2.1
    have hul : ∀ i, unl A i ≤ 54 := fun i => Nat.le_trans (cntN_le _ _) (prL_len _ _)
    have hab := askB_le hul
    have hbd : ∀ k, k < (prL (okP A) 54).length → OkV (tO A) (daysF (tO A) 6 (borW A ((prL (okP A) 54).getD k 0))) := fun k hk => by
      have hm : (prL (okP A) 54).getD k 0 ∈ prL (okP A) 54 := by
        rw [List.getD_eq_getElem?_getD, List.getElem?_eq_getElem hk]; exact List.getElem_mem hk
      have hcan : canB A ((prL (okP A) 54).getD k 0) = true := by
        have := (prL_mem (okP A) 54 _ hm).2
        simp only [okP, Bool.and_eq_true] at this
        exact this.1
      have hb := OkU.borW hK.2.2.2.2.1 hO hcan
      exact daysF_ok hO hb.1 6 (by have := hb.2; omega)
    refine p_iload 5 20 rfl dX8_ask_18 rfl ?_
    refine p_aload_n 0 21 rfl rfl dX8_ask_20 rfl ?_
    refine p_getR 8 3 24 rfl dX8_ask_21 fl_X8_23 rfl rfl hto1 ho1.1.1.ne0 ?_
    refine p_getIE 4 4 27 rfl dX8_ask_24 fl_X8_134 ho1.1.1.kd rfl ho1.2.2.2.1 ?_
    refine p_icmp_ge 59 30 rfl rfl dX8_ask_27 (fun h27 => ?_) (fun h27 => absurd (nI_le (a := aC (tO A)) (b := i) (by omega) (by omega)) h27)
    refine p_iload_n 1 60 rfl rfl dX8_ask_59 rfl ?_
    refine p_if_ne 67 63 rfl rfl dX8_ask_60 (fun h60 => ?_) (fun h60 => ?_)
    · refine p_iload 4 69 rfl dX8_ask_67 rfl ?_
      exact p_iret dX8_ask_69 rfl (by
      have hx : ¬ w = 0 := fun z => h60 (by rw [z]; rfl)
      exact ⟨by rw [if_neg hx, show aC (tO A) = i by omega]; rfl, hT1, hcc.toC (by decide)⟩)
    · refine p_iload_n 3 64 rfl rfl dX8_ask_63 rfl ?_
      refine p_goto 69 rfl dX8_ask_64 ?_
      exact p_iret dX8_ask_69 rfl (by
      have hx : w = 0 := by
        rcases Nat.eq_zero_or_pos w with z | z
        · exact z
        · exact absurd h60 (nI_ne0 z (by omega))
      exact ⟨by rw [if_pos hx, show aC (tO A) = i by omega]; rfl, hT1, hcc.toC (by decide)⟩)
  | succ n ih =>
    intro i x6 hi
    have hto1 : hR σ1 T0 3 = o := hT1.2.2.1.2.2.1
    have ho1 := hT1.2.2.2.1.1
    have hr17 : hR σ1 T0 17 = 18622608 := hT1.1.2.2.2.2.2.2.2.2.2.2.2.2.1
    have hul : ∀ i, unl A i ≤ 54 := fun i => Nat.le_trans (cntN_le _ _) (prL_len _ _)
    have hab := askB_le hul
    have hbd : ∀ k, k < (prL (okP A) 54).length → OkV (tO A) (daysF (tO A) 6 (borW A ((prL (okP A) 54).getD k 0))) := fun k hk => by
      have hm : (prL (okP A) 54).getD k 0 ∈ prL (okP A) 54 := by
        rw [List.getD_eq_getElem?_getD, List.getElem?_eq_getElem hk]; exact List.getElem_mem hk
      have hcan : canB A ((prL (okP A) 54).getD k 0) = true := by
        have := (prL_mem (okP A) 54 _ hm).2
        simp only [okP, Bool.and_eq_true] at this
        exact this.1
      have hb := OkU.borW hK.2.2.2.2.1 hO hcan
      exact daysF_ok hO hb.1 6 (by have := hb.2; omega)
    refine p_iload 5 20 rfl dX8_ask_18 rfl ?_
    refine p_aload_n 0 21 rfl rfl dX8_ask_20 rfl ?_
    refine p_getR 8 3 24 rfl dX8_ask_21 fl_X8_23 rfl rfl hto1 ho1.1.1.ne0 ?_
    refine p_getIE 4 4 27 rfl dX8_ask_24 fl_X8_134 ho1.1.1.kd rfl ho1.2.2.2.1 ?_
    refine p_icmp_ge 59 30 rfl rfl dX8_ask_27 (fun h27 => absurd h27 (nI_ge (a := i) (b := aC (tO A)) (by omega) (by omega))) (fun h27 => ?_)
    refine p_aload_n 0 31 rfl rfl dX8_ask_30 rfl ?_
    refine p_iload 5 33 rfl dX8_ask_31 rfl ?_
    refine p_iload_n 2 34 rfl rfl dX8_ask_33 rfl ?_
    refine p_cV2i 37 rfl dX8_ask_34 (c_unlike hr17 (l := prL (okP A) 54) (c := i) (by omega) (prL_len _ _) hans (fun k hk => (hbd k hk).2.2.2 i (by omega))) ml_X8_342 vl_X8_unlikeAnswers rfl (by decide) rfl (Nat.le_of_ble_eq_true rfl) (Nat.le_of_ble_eq_true rfl) rfl ?_
    refine p_ist_6 39 rfl dX8_ask_37 (Nat.le_of_ble_eq_true rfl) rfl ?_
    refine p_iload 6 41 rfl dX8_ask_39 rfl ?_
    refine p_iload 4 43 rfl dX8_ask_41 rfl ?_
    refine p_icmp_le 53 46 rfl rfl dX8_ask_43 (fun h43 => ?_) (fun h43 => ?_)
    · refine p_inc_5 56 rfl dX8_ask_53 (1) rfl (Nat.le_of_ble_eq_true rfl) rfl ?_
      refine p_goto 18 rfl dX8_ask_56 ?_
      have e : askB (unl A) (i + 1) = askB (unl A) i := by
        rw [askB, if_neg (Nat.not_lt.mpr ((nI_leI (by have := hul i; omega) (by have := hab i; omega)).mp (show nI (unl A i) ≤ nI (askB (unl A) i).2 from h43)))]
      rw [nI_1, ← e]
      exact ih (i + 1) _ (by omega)
    · refine p_iload 6 48 rfl dX8_ask_46 rfl ?_
      refine p_ist_4 50 rfl dX8_ask_48 (Nat.le_of_ble_eq_true rfl) rfl ?_
      refine p_iload 5 52 rfl dX8_ask_50 rfl ?_
      refine p_ist_n3 53 rfl rfl dX8_ask_52 (Nat.le_of_ble_eq_true rfl) rfl ?_
      refine p_inc_5 56 rfl dX8_ask_53 (1) rfl (Nat.le_of_ble_eq_true rfl) rfl ?_
      refine p_goto 18 rfl dX8_ask_56 ?_
      have e : askB (unl A) (i + 1) = (some i, unl A i) := by
        rw [askB, if_pos (Nat.lt_of_not_le (fun z : unl A i ≤ (askB (unl A) i).2 => h43 (nI_le z (by have := hab i; omega))))]
      have := ih (i + 1) (some (.int (nI (unl A i)))) (by omega)
      rw [e] at this
      rw [nI_1]
      exact this
set_option maxRecDepth 6000 in
theorem t_ask (hT : IT σ o o' A) (x : Int32) : CallOk Γ 16 8 48 mX8_ask [.ref T0, .int x] σ (rS (fAsk A x) false (fun σ' => IT σ' o o' A ∧ Ch cls σ σ')) := by
  have hS := hT.1
  have hK := hT.2.1
  have hto : hR σ T0 3 = o := hT.2.2.1.2.2.1
  have hQ := hT.2.2.2.1
  have ho := hQ.1
  have hw := hT.2.2.2.2.1.1
  have hwo := hT.2.2.2.2.1.2
  have hv := hK.2.2.2.2.1.1
  have hd9 := hK.2.2.2.2.1.2
  have hY := hK.2.2.2.1
  have hO := hK.2.2.1
  have hs9 := hO.1
  have hc6 := hO.2.1
  have hw12 := hO.2.2.1
  have hk8 := hO.2.2.2.1
  refine p_enter rfl rfl (Nat.le_of_ble_eq_true rfl) rfl ?_
  refine p_iload_n 1 1 rfl rfl dX8_ask_0 rfl ?_
  refine p_iconst (2) 2 rfl dX8_ask_1 rfl ?_
  refine p_cS2n 5 rfl dX8_ask_2 (c_needBelow _ 2) ml_X8_257 sl_X8_needBelow (Nat.le_of_ble_eq_true rfl) (Nat.le_of_ble_eq_true rfl) (Nat.le_of_ble_eq_true rfl) (Nat.le_of_ble_eq_true rfl) rfl (fun h2 => ?_) (fun h2 => ⟨by simp [fAsk, gd, h2], hT, Ch.rf⟩)
  obtain ⟨w, rfl, hww⟩ := asN h2 (by decide)
  have hwL : w < 2147483648 := by omega
  refine p_aload_n 0 6 rfl rfl dX8_ask_5 rfl ?_
  refine p_cV0x 0 0 9 rfl dX8_ask_6 (c_gather hT) ml_X8_339 vl_X8_gatherAnswers rfl (by decide) rfl (Nat.le_of_ble_eq_true rfl) (Nat.le_of_ble_eq_true rfl) (Nat.le_of_ble_eq_true rfl) (Nat.le_of_ble_eq_true rfl) rfl ?_
  rintro x3 σ3 ⟨hx3, hT3, hans3, hc3⟩
  subst hx3
  refine p_ist_n2 10 rfl rfl dX8_ask_9 (Nat.le_of_ble_eq_true rfl) rfl ?_
  refine p_iconst (-1) 11 rfl dX8_ask_10 rfl ?_
  refine p_ist_n3 12 rfl rfl dX8_ask_11 (Nat.le_of_ble_eq_true rfl) rfl ?_
  refine p_iconst (0) 13 rfl dX8_ask_12 rfl ?_
  refine p_ist_4 15 rfl dX8_ask_13 (Nat.le_of_ble_eq_true rfl) rfl ?_
  refine p_iconst (0) 16 rfl dX8_ask_15 rfl ?_
  refine p_ist_5 18 rfl dX8_ask_16 (Nat.le_of_ble_eq_true rfl) rfl ?_
  have e : fAsk A (nI w) = (0, if w = 0 then oI (askB (unl A) (aC (tO A))).1 else nI (askB (unl A) (aC (tO A))).2) := by simp [fAsk, gd, h2, iN_nI hwL]
  rw [e]
  exact l_ask hT hww hT3 hc3 hans3 (aC (tO A)) 0 _ (by omega)
end C56
