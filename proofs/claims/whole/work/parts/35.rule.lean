/-! ===== rules: steps upon a pile ===== -/
theorem sw8 (x : Int32) : x = (-8) ∨ x = (-7) ∨ x = (-6) ∨ x = (-5) ∨ x = (-4) ∨ x = (-3) ∨ x = (-2) ∨ x = (-1) ∨ (x.toInt < -8 ∨ -1 < x.toInt) := by
  by_cases h0 : x.toInt = -8
  · exact Or.inl (Int32.toInt_inj.mp (h0.trans (by decide)))
  by_cases h1 : x.toInt = -7
  · exact Or.inr (Or.inl (Int32.toInt_inj.mp (h1.trans (by decide))))
  by_cases h2 : x.toInt = -6
  · exact Or.inr (Or.inr (Or.inl (Int32.toInt_inj.mp (h2.trans (by decide)))))
  by_cases h3 : x.toInt = -5
  · exact Or.inr (Or.inr (Or.inr (Or.inl (Int32.toInt_inj.mp (h3.trans (by decide))))))
  by_cases h4 : x.toInt = -4
  · exact Or.inr (Or.inr (Or.inr (Or.inr (Or.inl (Int32.toInt_inj.mp (h4.trans (by decide)))))))
  by_cases h5 : x.toInt = -3
  · exact Or.inr (Or.inr (Or.inr (Or.inr (Or.inr (Or.inl (Int32.toInt_inj.mp (h5.trans (by decide))))))))
  by_cases h6 : x.toInt = -2
  · exact Or.inr (Or.inr (Or.inr (Or.inr (Or.inr (Or.inr (Or.inl (Int32.toInt_inj.mp (h6.trans (by decide)))))))))
  by_cases h7 : x.toInt = -1
  · exact Or.inr (Or.inr (Or.inr (Or.inr (Or.inr (Or.inr (Or.inr (Or.inl (Int32.toInt_inj.mp (h7.trans (by decide))))))))))
  exact Or.inr (Or.inr (Or.inr (Or.inr (Or.inr (Or.inr (Or.inr (Or.inr (by omega))))))))
def jn (op a b : Int32) : Int32 := if op = -1 then b2i (decide (¬ a = 0 ∨ ¬ b = 0)) else if op = -2 then b2i (decide (¬ a = 0 ∧ ¬ b = 0)) else if op = -4 then b2i (decide (a < b)) else if op = -5 then b2i (decide (a = b)) else if op = -6 then a + b else if op = -7 then a - b else if op = -8 then a * b else if b = 0 then 0 else a / b
def opd (vals : Nat → Int32) (st : Int32) : Int32 := if st < 10000 then st else if st < 10006 then vals (st - 10000).toNatClampNeg else 0
def ev1 (vals : Nat → Int32) (stk : List Int32) (t : Int32) : List Int32 :=
  if 0 ≤ t then (if stk.length < 40 then opd vals t :: stk else stk)
  else if t = -3 then (match stk with
    | [] => []
    | x :: r => b2i (decide (x = 0)) :: r)
  else (match stk with
    | y :: x :: r => jn t x y :: r
    | s => s)
def evL (vals : Nat → Int32) (stk : List Int32) : List Int32 → List Int32
  | [] => stk
  | t :: ts => evL vals (ev1 vals stk t) ts
def bot (stk : List Int32) : Int32 := stk.getLast?.getD 0
def evP (ps : List Int32) (vals : Nat → Int32) : Int32 := bot (evL vals [] ps)
/-- a rule in the heap -/
def RpU (σ : PH) (u : Nat) (ps : Option (List Int32)) : Prop := kd u = 6 ∧ hR σ u 2 = uS u ∧ hR σ u 3 = uP u ∧ match ps with
  | none => hI σ u 0 = 0
  | some l => hI σ u 0 = 1 ∧ hI σ u 1 = nI l.length ∧ l.length ≤ 700 ∧ ∀ i, i < l.length → hA σ (uS u) i = l.getD i 0
theorem ln700 (s : Nat) : ln (mkr s 700 16) = 700 := ln_mkr (by decide) (by decide)
theorem ln40 (s : Nat) : ln (mkr s 40 16) = 40 := ln_mkr (by decide) (by decide)
theorem lt700 {i s : Nat} (h : i < 700) : i < ln (mkr s 700 16) := by rw [ln700]; exact h
theorem lt40 {i s : Nat} (h : i < 40) : i < ln (mkr s 40 16) := by rw [ln40]; exact h
theorem sF_sF (σ : PH) (r : Nat) (f g : Nat → Int32) : sF (sF σ r f) r g = sF σ r g := by
  unfold sF
  refine congrArg (fun z => (hn σ, hI σ, hJ σ, hR σ, z, hL σ)) ?_
  show va_up (va_up (hA σ) r f) r g = va_up (hA σ) r g
  exact bx_uu _ _ _ _
theorem hA_sF (σ : PH) (r : Nat) (f : Nat → Int32) : hA (sF σ r f) r = f := va_ups
theorem sA_sF (σ : PH) (r : Nat) (f : Nat → Int32) (i : Nat) (x : Int32) : sA (sF σ r f) r i x = sF σ r (upd f i x) := by
  unfold sA
  rw [hA_sF, sF_sF]
theorem sF_self (σ : PH) (r : Nat) : sF σ r (hA σ r) = σ := by
  obtain ⟨a, b, c, d, e, g⟩ := σ
  show (a, b, c, d, va_up e r (e r), g) = _
  have : va_up e r (e r) = e := by
    funext j
    by_cases h : j = r
    · subst h; exact va_ups
    · exact va_upo h
  rw [this]
theorem op_in {t : Int32} (h4 : 10000 ≤ t) (h18 : ¬ (Int32.ofNat 6) ≤ t - 10000) : vp_in (t - 10000) 6 ∧ t < 10006 := by
  have e1 : (10000 : Int) ≤ t.toInt := Int32.le_iff_toInt_le.mp h4
  have e2 : t.toInt < 2147483648 := Int32.toInt_lt t
  have e3 : (t - 10000).toInt = t.toInt - 10000 := by
    rw [Int32.toInt_sub]
    show (t.toInt - 10000).bmod (2 ^ 32) = _
    exact Int.bmod_eq_of_le (by omega) (by omega)
  have e4 : ¬ (6 : Int) ≤ (t - 10000).toInt := fun z => h18 (Int32.le_iff_toInt_le.mpr z)
  rw [vp_in_iff, Int32.lt_iff_toInt_lt]
  show (_ ∧ _) ∧ t.toInt < 10006
  omega
theorem op_out {t : Int32} (h4 : 10000 ≤ t) (z : t < 10006) : ¬ (Int32.ofNat 6) ≤ t - 10000 := by
  intro h18
  have e1 : (10000 : Int) ≤ t.toInt := Int32.le_iff_toInt_le.mp h4
  have e3 : (t - 10000).toInt = t.toInt - 10000 := by
    rw [Int32.toInt_sub]
    show (t.toInt - 10000).bmod (2 ^ 32) = _
    have e2 : t.toInt < 2147483648 := Int32.toInt_lt t
    exact Int.bmod_eq_of_le (by omega) (by omega)
  have e4 : (6 : Int) ≤ (t - 10000).toInt := Int32.le_iff_toInt_le.mp h18
  have e5 : t.toInt < 10006 := Int32.lt_iff_toInt_lt.mp z
  omega
section C35
variable {Γ : Gm} {σ : PH}
set_option maxRecDepth 4000 in
theorem c_joined (op a b : Int32) : CallOk Γ 1 0 0 mX6_joined [.int op, .int a, .int b] σ (rI σ (jn op a b)) := by
  refine p_enter rfl rfl (Nat.le_of_ble_eq_true rfl) rfl ?_
  refine p_iload_n 0 1 rfl rfl dX6_joined_0 rfl ?_
  rcases sw8 op with hs1 | hs1 | hs1 | hs1 | hs1 | hs1 | hs1 | hs1 | hs1
  · subst hs1
    refine p_tswIn (off := 105) 106 rfl dX6_joined_1 (by decide) (by decide) rfl ?_
    refine p_iload_n 1 107 rfl rfl dX6_joined_106 rfl ?_
    refine p_iload_n 2 108 rfl rfl dX6_joined_107 rfl ?_
    refine p_imul 109 rfl dX6_joined_108 ?_
    exact p_iret dX6_joined_109 rfl ⟨rfl, rfl⟩
  · subst hs1
    refine p_tswIn (off := 101) 102 rfl dX6_joined_1 (by decide) (by decide) rfl ?_
    refine p_iload_n 1 103 rfl rfl dX6_joined_102 rfl ?_
    refine p_iload_n 2 104 rfl rfl dX6_joined_103 rfl ?_
    refine p_isub 105 rfl dX6_joined_104 ?_
    exact p_iret dX6_joined_105 rfl ⟨rfl, rfl⟩
  · subst hs1
    refine p_tswIn (off := 97) 98 rfl dX6_joined_1 (by decide) (by decide) rfl ?_
    refine p_iload_n 1 99 rfl rfl dX6_joined_98 rfl ?_
    refine p_iload_n 2 100 rfl rfl dX6_joined_99 rfl ?_
    refine p_iadd 101 rfl dX6_joined_100 ?_
    exact p_iret dX6_joined_101 rfl ⟨rfl, rfl⟩
  · subst hs1
    refine p_tswIn (off := 86) 87 rfl dX6_joined_1 (by decide) (by decide) rfl ?_
    refine p_iload_n 1 88 rfl rfl dX6_joined_87 rfl ?_
    refine p_iload_n 2 89 rfl rfl dX6_joined_88 rfl ?_
    refine p_icmp_ne 96 92 rfl rfl dX6_joined_89 (fun h89 => ?_) (fun h89 => ?_)
    · refine p_iconst (0) 97 rfl dX6_joined_96 rfl ?_
      exact p_iret dX6_joined_97 rfl ⟨by simp [jn, b2i, h89], rfl⟩
    · refine p_iconst (1) 93 rfl dX6_joined_92 rfl ?_
      refine p_goto 97 rfl dX6_joined_93 ?_
      exact p_iret dX6_joined_97 rfl ⟨by simp [jn, b2i, h89], rfl⟩
  · subst hs1
    refine p_tswIn (off := 75) 76 rfl dX6_joined_1 (by decide) (by decide) rfl ?_
    refine p_iload_n 1 77 rfl rfl dX6_joined_76 rfl ?_
    refine p_iload_n 2 78 rfl rfl dX6_joined_77 rfl ?_
    refine p_icmp_ge 85 81 rfl rfl dX6_joined_78 (fun h78 => ?_) (fun h78 => ?_)
    · refine p_iconst (0) 86 rfl dX6_joined_85 rfl ?_
      exact p_iret dX6_joined_86 rfl ⟨by simp [jn, b2i, Int32.not_lt.mpr h78], rfl⟩
    · refine p_iconst (1) 82 rfl dX6_joined_81 rfl ?_
      refine p_goto 86 rfl dX6_joined_82 ?_
      exact p_iret dX6_joined_86 rfl ⟨by simp [jn, b2i, Int32.not_le.mp h78], rfl⟩
  · subst hs1
    refine p_tswIn (off := 109) 110 rfl dX6_joined_1 (by decide) (by decide) rfl ?_
    refine p_iload_n 2 111 rfl rfl dX6_joined_110 rfl ?_
    refine p_if_ne 118 114 rfl rfl dX6_joined_111 (fun h111 => ?_) (fun h111 => ?_)
    · refine p_iload_n 1 119 rfl rfl dX6_joined_118 rfl ?_
      refine p_iload_n 2 120 rfl rfl dX6_joined_119 rfl ?_
      refine p_idiv 121 rfl dX6_joined_120 h111 ?_
      exact p_iret dX6_joined_121 rfl ⟨by
        simp [jn, h111], rfl⟩
    · refine p_iconst (0) 115 rfl dX6_joined_114 rfl ?_
      refine p_goto 121 rfl dX6_joined_115 ?_
      exact p_iret dX6_joined_121 rfl ⟨by
        simp [jn, h111], rfl⟩
  · subst hs1
    refine p_tswIn (off := 61) 62 rfl dX6_joined_1 (by decide) (by decide) rfl ?_
    refine p_iload_n 1 63 rfl rfl dX6_joined_62 rfl ?_
    refine p_if_eq 74 66 rfl rfl dX6_joined_63 (fun h63 => ?_) (fun h63 => ?_)
    · refine p_iconst (0) 75 rfl dX6_joined_74 rfl ?_
      exact p_iret dX6_joined_75 rfl ⟨by simp [jn, b2i, h63], rfl⟩
    · refine p_iload_n 2 67 rfl rfl dX6_joined_66 rfl ?_
      refine p_if_eq 74 70 rfl rfl dX6_joined_67 (fun h67 => ?_) (fun h67 => ?_)
      · refine p_iconst (0) 75 rfl dX6_joined_74 rfl ?_
        exact p_iret dX6_joined_75 rfl ⟨by simp [jn, b2i, h63, h67], rfl⟩
      · refine p_iconst (1) 71 rfl dX6_joined_70 rfl ?_
        refine p_goto 75 rfl dX6_joined_71 ?_
        exact p_iret dX6_joined_75 rfl ⟨by simp [jn, b2i, h63, h67], rfl⟩
  · subst hs1
    refine p_tswIn (off := 47) 48 rfl dX6_joined_1 (by decide) (by decide) rfl ?_
    refine p_iload_n 1 49 rfl rfl dX6_joined_48 rfl ?_
    refine p_if_ne 56 52 rfl rfl dX6_joined_49 (fun h49 => ?_) (fun h49 => ?_)
    · refine p_iconst (1) 57 rfl dX6_joined_56 rfl ?_
      refine p_goto 61 rfl dX6_joined_57 ?_
      exact p_iret dX6_joined_61 rfl ⟨by simp [jn, b2i, h49], rfl⟩
    · refine p_iload_n 2 53 rfl rfl dX6_joined_52 rfl ?_
      refine p_if_eq 60 56 rfl rfl dX6_joined_53 (fun h53 => ?_) (fun h53 => ?_)
      · refine p_iconst (0) 61 rfl dX6_joined_60 rfl ?_
        exact p_iret dX6_joined_61 rfl ⟨by simp [jn, b2i, h49, h53], rfl⟩
      · refine p_iconst (1) 57 rfl dX6_joined_56 rfl ?_
        refine p_goto 61 rfl dX6_joined_57 ?_
        exact p_iret dX6_joined_61 rfl ⟨by simp [jn, b2i, h49, h53], rfl⟩
  · refine p_tswOut 110 rfl dX6_joined_1 hs1 ?_
    refine p_iload_n 2 111 rfl rfl dX6_joined_110 rfl ?_
    refine p_if_ne 118 114 rfl rfl dX6_joined_111 (fun h111 => ?_) (fun h111 => ?_)
    · refine p_iload_n 1 119 rfl rfl dX6_joined_118 rfl ?_
      refine p_iload_n 2 120 rfl rfl dX6_joined_119 rfl ?_
      refine p_idiv 121 rfl dX6_joined_120 h111 ?_
      exact p_iret dX6_joined_121 rfl ⟨by
        have e1 : ¬ op = -1 := fun z => by subst z; exact absurd hs1 (by decide)
        have e2 : ¬ op = -2 := fun z => by subst z; exact absurd hs1 (by decide)
        have e4 : ¬ op = -4 := fun z => by subst z; exact absurd hs1 (by decide)
        have e5 : ¬ op = -5 := fun z => by subst z; exact absurd hs1 (by decide)
        have e6 : ¬ op = -6 := fun z => by subst z; exact absurd hs1 (by decide)
        have e7 : ¬ op = -7 := fun z => by subst z; exact absurd hs1 (by decide)
        have e8 : ¬ op = -8 := fun z => by subst z; exact absurd hs1 (by decide)
        simp [jn, e1, e2, e4, e5, e6, e7, e8, h111], rfl⟩
    · refine p_iconst (0) 115 rfl dX6_joined_114 rfl ?_
      refine p_goto 121 rfl dX6_joined_115 ?_
      exact p_iret dX6_joined_121 rfl ⟨by
        have e1 : ¬ op = -1 := fun z => by subst z; exact absurd hs1 (by decide)
        have e2 : ¬ op = -2 := fun z => by subst z; exact absurd hs1 (by decide)
        have e4 : ¬ op = -4 := fun z => by subst z; exact absurd hs1 (by decide)
        have e5 : ¬ op = -5 := fun z => by subst z; exact absurd hs1 (by decide)
        have e6 : ¬ op = -6 := fun z => by subst z; exact absurd hs1 (by decide)
        have e7 : ¬ op = -7 := fun z => by subst z; exact absurd hs1 (by decide)
        have e8 : ¬ op = -8 := fun z => by subst z; exact absurd hs1 (by decide)
        simp [jn, e1, e2, e4, e5, e6, e7, e8, h111], rfl⟩
set_option maxRecDepth 4000 in
theorem c_operand {r : Nat} (hk : kd r = 16) (hl : ln r = 6) {t : Int32} (ht : 0 ≤ t) : CallOk Γ 1 0 0 mX6_operand [.int t, .ref r] σ (rI σ (opd (hA σ r) t)) := by
  refine p_enter rfl rfl (Nat.le_of_ble_eq_true rfl) rfl ?_
  refine p_iload_n 0 1 rfl rfl dX6_operand_0 rfl ?_
  refine p_sipush (10000) 4 rfl dX6_operand_1 rfl ?_
  refine p_icmp_ge 9 7 rfl rfl dX6_operand_4 (fun h4 => ?_) (fun h4 => ?_)
  · refine p_iload_n 0 10 rfl rfl dX6_operand_9 rfl ?_
    refine p_sipush (10000) 13 rfl dX6_operand_10 rfl ?_
    refine p_isub 14 rfl dX6_operand_13 ?_
    refine p_ist_n2 15 rfl rfl dX6_operand_14 (Nat.le_of_ble_eq_true rfl) rfl ?_
    refine p_iload_n 2 16 rfl rfl dX6_operand_15 rfl ?_
    refine p_aload_n 1 17 rfl rfl dX6_operand_16 rfl ?_
    refine p_alen 18 rfl dX6_operand_17 (Or.inl hk) ?_
    rw [hl]
    have h9 : ¬ t < 10000 := Int32.not_lt.mpr h4
    refine p_icmp_ge 27 21 rfl rfl dX6_operand_18 (fun h18 => ?_) (fun h18 => ?_)
    · refine p_iconst (0) 28 rfl dX6_operand_27 rfl ?_
      exact p_iret dX6_operand_28 rfl ⟨by
      have hz : ¬ t < 10006 := fun z => absurd h18 (op_out h4 z)
      simp [opd, h9, hz], rfl⟩
    · refine p_aload_n 1 22 rfl rfl dX6_operand_21 rfl ?_
      refine p_iload_n 2 23 rfl rfl dX6_operand_22 rfl ?_
      have hin := op_in h4 h18
      refine p_iald 24 rfl dX6_operand_23 hk (by rw [hl]; exact hin.1) ?_
      refine p_goto 28 rfl dX6_operand_24 ?_
      exact p_iret dX6_operand_28 rfl ⟨by simp [opd, h9, hin.2], rfl⟩
  · refine p_iload_n 0 8 rfl rfl dX6_operand_7 rfl ?_
    exact p_iret dX6_operand_8 rfl ⟨by simp [opd, Int32.not_le.mp h4], rfl⟩
end C35
