/-! ===== the reference: what a rule comes to ===== -/
def wk (x a b : Int32) : Int32 := if x = 4 then b2i (decide (¬ a = 0 ∧ ¬ b = 0)) else if x = 5 then b2i (decide (¬ a = 0 ∨ ¬ b = 0)) else if x = 6 then b2i (decide (a < b)) else if x = 7 then b2i (decide (a = b)) else if x = 8 then a + b else if x = 9 then a - b else if x = 10 then a * b else if b = 0 then 0 else a / b
def slt (w : Bool) (s : Nat) : Nat := if w = true then s + 4 else if s < 2 then s + 4 else s - 2
theorem hgt_p {t : Int32} {h : Nat} {ts : List Int32} (h0 : 0 ≤ t) {r : Nat} (hh : hgt h (t :: ts) = some r) : h < 40 ∧ hgt (h + 1) ts = some r := by
  rw [hgt, if_pos h0] at hh
  by_cases q : h < 40
  · rw [if_pos q] at hh; exact ⟨q, hh⟩
  · rw [if_neg q] at hh; cases hh
theorem hgt_n {h : Nat} {ts : List Int32} {r : Nat} (hh : hgt h ((-3) :: ts) = some r) : 0 < h ∧ hgt h ts = some r := by
  rw [hgt, if_neg (by decide), if_pos rfl] at hh
  by_cases q : 0 < h
  · rw [if_pos q] at hh; exact ⟨q, hh⟩
  · rw [if_neg q] at hh; cases hh
theorem hgt_b {t : Int32} {h : Nat} {ts : List Int32} (h0 : ¬ 0 ≤ t) (h3 : ¬ t = -3) {r : Nat} (hh : hgt h (t :: ts) = some r) : 1 < h ∧ hgt (h - 1) ts = some r := by
  rw [hgt, if_neg h0, if_neg h3] at hh
  by_cases q : 1 < h
  · rw [if_pos q] at hh; exact ⟨q, hh⟩
  · rw [if_neg q] at hh; cases hh
theorem enc_1 {w : Bool} {t : Int32} (h0 : 0 ≤ t) (h1 : t < 10000) : enc w t = [1, t] := by
  unfold enc; rw [if_neg (Int32.not_le.mpr h1), if_pos h0]
theorem ok_val {w : Bool} {t : Int32} (h : okSt w t) (h1 : ¬ t < 10000) : ∃ s, t = nI (10000 + s) ∧ s < 6 ∧ (w = true → s < 5) ∧ enc w t = [2, nI (slt w s)] := by
  have hle : (10000 : Int32) ≤ t := Int32.not_lt.mp h1
  have hl := Int32.le_iff_toInt_le.mp hle
  rw [show (10000 : Int32).toInt = 10000 from rfl] at hl
  have h2 : t.toInt < 10006 ∧ (w = true → t.toInt < 10005) := by
    have := h.2
    cases w
    · have := Int32.lt_iff_toInt_lt.mp this
      rw [show (if false = true then (10005 : Int32) else 10006).toInt = 10006 from rfl] at this
      exact ⟨this, fun q => by cases q⟩
    · have := Int32.lt_iff_toInt_lt.mp this
      rw [show (if true = true then (10005 : Int32) else 10006).toInt = 10005 from rfl] at this
      exact ⟨by omega, fun _ => this⟩
  obtain ⟨s, hs, e⟩ : ∃ s, s < 6 ∧ t = nI (10000 + s) := by
    refine ⟨(t.toInt - 10000).toNat, by omega, ?_⟩
    apply Int32.toInt_inj.mp
    rw [nI_toInt (by omega)]
    omega
  subst e
  have hn : (nI (10000 + s)).toInt = ((10000 + s : Nat) : Int) := nI_toInt (by omega)
  refine ⟨s, rfl, hs, fun q => by have := h2.2 q; omega, ?_⟩
  have h5 : w = true → s < 5 := fun q => by have := h2.2 q; omega
  clear h h1 hle hl h2 hn
  have : s = 0 ∨ s = 1 ∨ s = 2 ∨ s = 3 ∨ s = 4 ∨ s = 5 := by omega
  rcases this with rfl | rfl | rfl | rfl | rfl | rfl <;> cases w <;> decide
theorem swm9 (x : Int32) : x = (-9) ∨ x = (-8) ∨ x = (-7) ∨ x = (-6) ∨ x = (-5) ∨ x = (-4) ∨ x = (-3) ∨ x = (-2) ∨ x = (-1) ∨ (x.toInt < -9 ∨ -1 < x.toInt) := by
  by_cases h0 : x.toInt = -9
  · exact Or.inl (Int32.toInt_inj.mp (h0.trans (by decide)))
  by_cases h1 : x.toInt = -8
  · exact Or.inr (Or.inl (Int32.toInt_inj.mp (h1.trans (by decide))))
  by_cases h2 : x.toInt = -7
  · exact Or.inr (Or.inr (Or.inl (Int32.toInt_inj.mp (h2.trans (by decide)))))
  by_cases h3 : x.toInt = -6
  · exact Or.inr (Or.inr (Or.inr (Or.inl (Int32.toInt_inj.mp (h3.trans (by decide))))))
  by_cases h4 : x.toInt = -5
  · exact Or.inr (Or.inr (Or.inr (Or.inr (Or.inl (Int32.toInt_inj.mp (h4.trans (by decide)))))))
  by_cases h5 : x.toInt = -4
  · exact Or.inr (Or.inr (Or.inr (Or.inr (Or.inr (Or.inl (Int32.toInt_inj.mp (h5.trans (by decide))))))))
  by_cases h6 : x.toInt = -3
  · exact Or.inr (Or.inr (Or.inr (Or.inr (Or.inr (Or.inr (Or.inl (Int32.toInt_inj.mp (h6.trans (by decide)))))))))
  by_cases h7 : x.toInt = -2
  · exact Or.inr (Or.inr (Or.inr (Or.inr (Or.inr (Or.inr (Or.inr (Or.inl (Int32.toInt_inj.mp (h7.trans (by decide))))))))))
  by_cases h8 : x.toInt = -1
  · exact Or.inr (Or.inr (Or.inr (Or.inr (Or.inr (Or.inr (Or.inr (Or.inr (Or.inl (Int32.toInt_inj.mp (h8.trans (by decide)))))))))))
  exact Or.inr (Or.inr (Or.inr (Or.inr (Or.inr (Or.inr (Or.inr (Or.inr (Or.inr (by omega)))))))))
theorem ok_op {w : Bool} {t : Int32} (h : okSt w t) (h0 : ¬ 0 ≤ t) (h3 : ¬ t = -3) : ∃ oc, enc w t = [oc] ∧ ¬ oc = 0 ∧ ¬ oc = 1 ∧ ¬ oc = 2 ∧ ¬ oc = 3 ∧ ∀ a b, wk oc a b = jn t a b := by
  have hl := Int32.le_iff_toInt_le.mp h.1
  rw [show (-9 : Int32).toInt = -9 from rfl] at hl
  have hu := Int32.lt_iff_toInt_lt.mp (Int32.not_le.mp h0)
  rw [show (0 : Int32).toInt = 0 from rfl] at hu
  rcases swm9 t with rfl | rfl | rfl | rfl | rfl | rfl | rfl | rfl | rfl | q
  · exact ⟨11, by cases w <;> decide, by decide, by decide, by decide, by decide, fun a b => by simp [wk, jn]⟩
  · exact ⟨10, by cases w <;> decide, by decide, by decide, by decide, by decide, fun a b => by simp [wk, jn]⟩
  · exact ⟨9, by cases w <;> decide, by decide, by decide, by decide, by decide, fun a b => by simp [wk, jn]⟩
  · exact ⟨8, by cases w <;> decide, by decide, by decide, by decide, by decide, fun a b => by simp [wk, jn]⟩
  · exact ⟨7, by cases w <;> decide, by decide, by decide, by decide, by decide, fun a b => by simp [wk, jn]⟩
  · exact ⟨6, by cases w <;> decide, by decide, by decide, by decide, by decide, fun a b => by simp [wk, jn]⟩
  · exact absurd rfl h3
  · exact ⟨4, by cases w <;> decide, by decide, by decide, by decide, by decide, fun a b => by simp [wk, jn]⟩
  · exact ⟨5, by cases w <;> decide, by decide, by decide, by decide, by decide, fun a b => by simp [wk, jn]⟩
  · omega
section C82
variable {Γ : Gm} {σ : PH}
theorem sww (x : Int32) : x = 4 ∨ x = 5 ∨ x = 6 ∨ x = 7 ∨ x = 8 ∨ x = 9 ∨ x = 10 ∨ (x.toInt < 4 ∨ 10 < x.toInt) := by
  by_cases h0 : x.toInt = 4
  · exact Or.inl (Int32.toInt_inj.mp (h0.trans (by decide)))
  by_cases h1 : x.toInt = 5
  · exact Or.inr (Or.inl (Int32.toInt_inj.mp (h1.trans (by decide))))
  by_cases h2 : x.toInt = 6
  · exact Or.inr (Or.inr (Or.inl (Int32.toInt_inj.mp (h2.trans (by decide)))))
  by_cases h3 : x.toInt = 7
  · exact Or.inr (Or.inr (Or.inr (Or.inl (Int32.toInt_inj.mp (h3.trans (by decide))))))
  by_cases h4 : x.toInt = 8
  · exact Or.inr (Or.inr (Or.inr (Or.inr (Or.inl (Int32.toInt_inj.mp (h4.trans (by decide)))))))
  by_cases h5 : x.toInt = 9
  · exact Or.inr (Or.inr (Or.inr (Or.inr (Or.inr (Or.inl (Int32.toInt_inj.mp (h5.trans (by decide))))))))
  by_cases h6 : x.toInt = 10
  · exact Or.inr (Or.inr (Or.inr (Or.inr (Or.inr (Or.inr (Or.inl (Int32.toInt_inj.mp (h6.trans (by decide)))))))))
  exact Or.inr (Or.inr (Or.inr (Or.inr (Or.inr (Or.inr (Or.inr (by omega)))))))
set_option maxRecDepth 4000 in
theorem c_works (x0 x1 x2 : Int32) : CallOk Γ 1 0 0 mX9_works [.int x0, .int x1, .int x2] σ (rI σ (wk x0 x1 x2)) := by
  refine p_enter rfl rfl (Nat.le_of_ble_eq_true rfl) rfl ?_
  refine p_iload_n 0 1 rfl rfl dX9_works_0 rfl ?_
  rcases sww x0 with hs1 | hs1 | hs1 | hs1 | hs1 | hs1 | hs1 | hs1
  · subst hs1
    refine p_tswIn (off := 43) 44 rfl dX9_works_1 (by decide) (by decide) rfl ?_
    refine p_iload_n 1 45 rfl rfl dX9_works_44 rfl ?_
    refine p_if_eq 56 48 rfl rfl dX9_works_45 (fun h45 => ?_) (fun h45 => ?_)
    · refine p_iconst (0) 57 rfl dX9_works_56 rfl ?_
      exact p_iret dX9_works_57 rfl ⟨by simp [wk, h45, b2i], rfl⟩
    · refine p_iload_n 2 49 rfl rfl dX9_works_48 rfl ?_
      refine p_if_eq 56 52 rfl rfl dX9_works_49 (fun h49 => ?_) (fun h49 => ?_)
      · refine p_iconst (0) 57 rfl dX9_works_56 rfl ?_
        exact p_iret dX9_works_57 rfl ⟨by simp [wk, h49, b2i], rfl⟩
      · refine p_iconst (1) 53 rfl dX9_works_52 rfl ?_
        refine p_goto 57 rfl dX9_works_53 ?_
        exact p_iret dX9_works_57 rfl ⟨by simp [wk, h45, h49, b2i], rfl⟩
  · subst hs1
    refine p_tswIn (off := 57) 58 rfl dX9_works_1 (by decide) (by decide) rfl ?_
    refine p_iload_n 1 59 rfl rfl dX9_works_58 rfl ?_
    refine p_if_ne 66 62 rfl rfl dX9_works_59 (fun h59 => ?_) (fun h59 => ?_)
    · refine p_iconst (1) 67 rfl dX9_works_66 rfl ?_
      refine p_goto 71 rfl dX9_works_67 ?_
      exact p_iret dX9_works_71 rfl ⟨by simp [wk, h59, b2i], rfl⟩
    · refine p_iload_n 2 63 rfl rfl dX9_works_62 rfl ?_
      refine p_if_eq 70 66 rfl rfl dX9_works_63 (fun h63 => ?_) (fun h63 => ?_)
      · refine p_iconst (0) 71 rfl dX9_works_70 rfl ?_
        exact p_iret dX9_works_71 rfl ⟨by have h59 : x1 = 0 := h59; simp [wk, h59, h63, b2i], rfl⟩
      · refine p_iconst (1) 67 rfl dX9_works_66 rfl ?_
        refine p_goto 71 rfl dX9_works_67 ?_
        exact p_iret dX9_works_71 rfl ⟨by simp [wk, h63, b2i], rfl⟩
  · subst hs1
    refine p_tswIn (off := 71) 72 rfl dX9_works_1 (by decide) (by decide) rfl ?_
    refine p_iload_n 1 73 rfl rfl dX9_works_72 rfl ?_
    refine p_iload_n 2 74 rfl rfl dX9_works_73 rfl ?_
    refine p_icmp_ge 81 77 rfl rfl dX9_works_74 (fun h74 => ?_) (fun h74 => ?_)
    · refine p_iconst (0) 82 rfl dX9_works_81 rfl ?_
      exact p_iret dX9_works_82 rfl ⟨by simp [wk, Int32.not_lt.mpr h74, b2i], rfl⟩
    · refine p_iconst (1) 78 rfl dX9_works_77 rfl ?_
      refine p_goto 82 rfl dX9_works_78 ?_
      exact p_iret dX9_works_82 rfl ⟨by simp [wk, Int32.not_le.mp h74, b2i], rfl⟩
  · subst hs1
    refine p_tswIn (off := 82) 83 rfl dX9_works_1 (by decide) (by decide) rfl ?_
    refine p_iload_n 1 84 rfl rfl dX9_works_83 rfl ?_
    refine p_iload_n 2 85 rfl rfl dX9_works_84 rfl ?_
    refine p_icmp_ne 92 88 rfl rfl dX9_works_85 (fun h85 => ?_) (fun h85 => ?_)
    · refine p_iconst (0) 93 rfl dX9_works_92 rfl ?_
      exact p_iret dX9_works_93 rfl ⟨by simp [wk, h85, b2i], rfl⟩
    · refine p_iconst (1) 89 rfl dX9_works_88 rfl ?_
      refine p_goto 93 rfl dX9_works_89 ?_
      exact p_iret dX9_works_93 rfl ⟨by simp [wk, h85, b2i], rfl⟩
  · subst hs1
    refine p_tswIn (off := 93) 94 rfl dX9_works_1 (by decide) (by decide) rfl ?_
    refine p_iload_n 1 95 rfl rfl dX9_works_94 rfl ?_
    refine p_iload_n 2 96 rfl rfl dX9_works_95 rfl ?_
    refine p_iadd 97 rfl dX9_works_96 ?_
    exact p_iret dX9_works_97 rfl ⟨by simp [wk], rfl⟩
  · subst hs1
    refine p_tswIn (off := 97) 98 rfl dX9_works_1 (by decide) (by decide) rfl ?_
    refine p_iload_n 1 99 rfl rfl dX9_works_98 rfl ?_
    refine p_iload_n 2 100 rfl rfl dX9_works_99 rfl ?_
    refine p_isub 101 rfl dX9_works_100 ?_
    exact p_iret dX9_works_101 rfl ⟨by simp [wk], rfl⟩
  · subst hs1
    refine p_tswIn (off := 101) 102 rfl dX9_works_1 (by decide) (by decide) rfl ?_
    refine p_iload_n 1 103 rfl rfl dX9_works_102 rfl ?_
    refine p_iload_n 2 104 rfl rfl dX9_works_103 rfl ?_
    refine p_imul 105 rfl dX9_works_104 ?_
    exact p_iret dX9_works_105 rfl ⟨by simp [wk], rfl⟩
  · refine p_tswOut 106 rfl dX9_works_1 hs1 ?_
    refine p_iload_n 2 107 rfl rfl dX9_works_106 rfl ?_
    refine p_if_ne 114 110 rfl rfl dX9_works_107 (fun h107 => ?_) (fun h107 => ?_)
    · refine p_iload_n 1 115 rfl rfl dX9_works_114 rfl ?_
      refine p_iload_n 2 116 rfl rfl dX9_works_115 rfl ?_
      refine p_idiv 117 rfl dX9_works_116 h107 ?_
      exact p_iret dX9_works_117 rfl ⟨by have hx : ∀ k : Int32, 4 ≤ k.toInt → k.toInt ≤ 10 → ¬ x0 = k := fun k h1 h2 e => (by rw [e] at hs1; omega); rw [wk, if_neg (hx 4 (by decide) (by decide)), if_neg (hx 5 (by decide) (by decide)), if_neg (hx 6 (by decide) (by decide)), if_neg (hx 7 (by decide) (by decide)), if_neg (hx 8 (by decide) (by decide)), if_neg (hx 9 (by decide) (by decide)), if_neg (hx 10 (by decide) (by decide)), if_neg h107], rfl⟩
    · refine p_iconst (0) 111 rfl dX9_works_110 rfl ?_
      refine p_goto 117 rfl dX9_works_111 ?_
      exact p_iret dX9_works_117 rfl ⟨by have hx : ∀ k : Int32, 4 ≤ k.toInt → k.toInt ≤ 10 → ¬ x0 = k := fun k h1 h2 e => (by rw [e] at hs1; omega); rw [wk, if_neg (hx 4 (by decide) (by decide)), if_neg (hx 5 (by decide) (by decide)), if_neg (hx 6 (by decide) (by decide)), if_neg (hx 7 (by decide) (by decide)), if_neg (hx 8 (by decide) (by decide)), if_neg (hx 9 (by decide) (by decide)), if_neg (hx 10 (by decide) (by decide)), if_pos h107], rfl⟩
set_option maxRecDepth 4000 in
theorem r_num (hr : ∀ k, hR σ M0 k = mRef k) {stk : List Int32} {k : Nat} {x1 t : Int32} {x4 : Option Value} {f : Nat → Int32} {Q : PO → PH → Prop} (hs : stk.length < 900) (hk : k + 1 < 1400) (h1 : hA σ mCd k = 1) (h2 : hA σ mCd (k + 1) = t) (kk : ∀ (τ : PH) (y4 : Option Value), τ = sF σ mPi (upd f stk.length t) → Ok Γ 2 0 0 mX9_reckons 4 [some (.ref M0), some (.int x1), some (.int (nI (stk.length + 1))), some (.int (nI (k + 1 + 1))), y4] [] τ Q) : Ok Γ 2 0 0 mX9_reckons 4 [some (.ref M0), some (.int x1), some (.int (nI stk.length)), some (.int (nI k)), x4] [] (sF σ mPi f) Q := by
  refine p_aload_n 0 5 rfl rfl dX9_reckons_4 rfl ?_
  refine p_getR 9 11 8 rfl dX9_reckons_5 fl_X9_29 rfl rfl (show hR _ M0 11 = mCd from hr 11) (by decide) ?_
  refine p_iload_n 3 9 rfl rfl dX9_reckons_8 rfl ?_
  refine p_ialdE 10 rfl dX9_reckons_9 (i := k) rfl (by show k < 1400; omega) ((congrFun (sF_o (show mCd ≠ mPi by decide)) _).trans h1) ?_
  refine p_if_eq 143 13 rfl rfl dX9_reckons_10 (fun h10 => absurd h10 (by decide)) (fun h10 => ?_)
  refine p_aload_n 0 14 rfl rfl dX9_reckons_13 rfl ?_
  refine p_getR 9 11 17 rfl dX9_reckons_14 fl_X9_29 rfl rfl (show hR _ M0 11 = mCd from hr 11) (by decide) ?_
  refine p_iload_n 3 18 rfl rfl dX9_reckons_17 rfl ?_
  refine p_ialdE 19 rfl dX9_reckons_18 (i := k) rfl (by show k < 1400; omega) ((congrFun (sF_o (show mCd ≠ mPi by decide)) _).trans h1) ?_
  refine p_ist_4 21 rfl dX9_reckons_19 (Nat.le_of_ble_eq_true rfl) rfl ?_
  refine p_inc_3 24 rfl dX9_reckons_21 (1) rfl (Nat.le_of_ble_eq_true rfl) rfl ?_
  rw [nI_1]
  refine p_iload 4 26 rfl dX9_reckons_24 rfl ?_
  refine p_iconst (1) 27 rfl dX9_reckons_26 rfl ?_
  refine p_icmp_eq 36 30 rfl rfl dX9_reckons_27 (fun h27 => ?_) (fun h27 => absurd rfl h27)
  refine p_aload_n 0 37 rfl rfl dX9_reckons_36 rfl ?_
  refine p_getR 9 48 40 rfl dX9_reckons_37 fl_X9_75 rfl rfl (show hR _ M0 48 = mPi from hr 48) (by decide) ?_
  refine p_iload_n 2 41 rfl rfl dX9_reckons_40 rfl ?_
  refine p_iload 4 43 rfl dX9_reckons_41 rfl ?_
  refine p_iconst (1) 44 rfl dX9_reckons_43 rfl ?_
  refine p_icmp_ne 56 47 rfl rfl dX9_reckons_44 (fun h44 => absurd rfl h44) (fun h44 => ?_)
  refine p_aload_n 0 48 rfl rfl dX9_reckons_47 rfl ?_
  refine p_getR 9 11 51 rfl dX9_reckons_48 fl_X9_29 rfl rfl (show hR _ M0 11 = mCd from hr 11) (by decide) ?_
  refine p_iload_n 3 52 rfl rfl dX9_reckons_51 rfl ?_
  refine p_ialdE 53 rfl dX9_reckons_52 (i := k + 1) rfl (by show k + 1 < 1400; omega) ((congrFun (sF_o (show mCd ≠ mPi by decide)) _).trans h2) ?_
  refine p_goto 67 rfl dX9_reckons_53 ?_
  refine p_iastE 68 rfl dX9_reckons_67 (i := stk.length) rfl (by show _ < 950; omega) ?_
  refine p_inc_3 71 rfl dX9_reckons_68 (1) rfl (Nat.le_of_ble_eq_true rfl) rfl ?_
  refine p_inc_2 74 rfl dX9_reckons_71 (1) rfl (Nat.le_of_ble_eq_true rfl) rfl ?_
  refine p_goto 140 rfl dX9_reckons_74 ?_
  refine p_goto 4 rfl dX9_reckons_140 ?_
  rw [nI_1, nI_1, sA_sF]
  exact kk _ _ rfl
set_option maxRecDepth 4000 in
theorem r_val (hr : ∀ k, hR σ M0 k = mRef k) {stk : List Int32} {k j : Nat} {x1 t : Int32} {x4 : Option Value} {f : Nat → Int32} {Q : PO → PH → Prop} (hs : stk.length < 900) (hk : k + 1 < 1400) (hj9 : j < 9) (h1 : hA σ mCd k = 2) (h2 : hA σ mCd (k + 1) = nI j) (hj : hA σ mTo j = t) (kk : ∀ (τ : PH) (y4 : Option Value), τ = sF σ mPi (upd f stk.length t) → Ok Γ 2 0 0 mX9_reckons 4 [some (.ref M0), some (.int x1), some (.int (nI (stk.length + 1))), some (.int (nI (k + 1 + 1))), y4] [] τ Q) : Ok Γ 2 0 0 mX9_reckons 4 [some (.ref M0), some (.int x1), some (.int (nI stk.length)), some (.int (nI k)), x4] [] (sF σ mPi f) Q := by
  refine p_aload_n 0 5 rfl rfl dX9_reckons_4 rfl ?_
  refine p_getR 9 11 8 rfl dX9_reckons_5 fl_X9_29 rfl rfl (show hR _ M0 11 = mCd from hr 11) (by decide) ?_
  refine p_iload_n 3 9 rfl rfl dX9_reckons_8 rfl ?_
  refine p_ialdE 10 rfl dX9_reckons_9 (i := k) rfl (by show k < 1400; omega) ((congrFun (sF_o (show mCd ≠ mPi by decide)) _).trans h1) ?_
  refine p_if_eq 143 13 rfl rfl dX9_reckons_10 (fun h10 => absurd h10 (by decide)) (fun h10 => ?_)
  refine p_aload_n 0 14 rfl rfl dX9_reckons_13 rfl ?_
  refine p_getR 9 11 17 rfl dX9_reckons_14 fl_X9_29 rfl rfl (show hR _ M0 11 = mCd from hr 11) (by decide) ?_
  refine p_iload_n 3 18 rfl rfl dX9_reckons_17 rfl ?_
  refine p_ialdE 19 rfl dX9_reckons_18 (i := k) rfl (by show k < 1400; omega) ((congrFun (sF_o (show mCd ≠ mPi by decide)) _).trans h1) ?_
  refine p_ist_4 21 rfl dX9_reckons_19 (Nat.le_of_ble_eq_true rfl) rfl ?_
  refine p_inc_3 24 rfl dX9_reckons_21 (1) rfl (Nat.le_of_ble_eq_true rfl) rfl ?_
  rw [nI_1]
  refine p_iload 4 26 rfl dX9_reckons_24 rfl ?_
  refine p_iconst (1) 27 rfl dX9_reckons_26 rfl ?_
  refine p_icmp_eq 36 30 rfl rfl dX9_reckons_27 (fun h27 => absurd h27 (by decide)) (fun h27 => ?_)
  refine p_iload 4 32 rfl dX9_reckons_30 rfl ?_
  refine p_iconst (2) 33 rfl dX9_reckons_32 rfl ?_
  refine p_icmp_ne 77 36 rfl rfl dX9_reckons_33 (fun h33 => absurd rfl h33) (fun h33 => ?_)
  refine p_aload_n 0 37 rfl rfl dX9_reckons_36 rfl ?_
  refine p_getR 9 48 40 rfl dX9_reckons_37 fl_X9_75 rfl rfl (show hR _ M0 48 = mPi from hr 48) (by decide) ?_
  refine p_iload_n 2 41 rfl rfl dX9_reckons_40 rfl ?_
  refine p_iload 4 43 rfl dX9_reckons_41 rfl ?_
  refine p_iconst (1) 44 rfl dX9_reckons_43 rfl ?_
  refine p_icmp_ne 56 47 rfl rfl dX9_reckons_44 (fun h44 => ?_) (fun h44 => absurd h44 (by decide))
  refine p_aload_n 0 57 rfl rfl dX9_reckons_56 rfl ?_
  refine p_getR 9 47 60 rfl dX9_reckons_57 fl_X9_72 rfl rfl (show hR _ M0 47 = mTo from hr 47) (by decide) ?_
  refine p_aload_n 0 61 rfl rfl dX9_reckons_60 rfl ?_
  refine p_getR 9 11 64 rfl dX9_reckons_61 fl_X9_29 rfl rfl (show hR _ M0 11 = mCd from hr 11) (by decide) ?_
  refine p_iload_n 3 65 rfl rfl dX9_reckons_64 rfl ?_
  refine p_ialdE 66 rfl dX9_reckons_65 (i := k + 1) rfl (by show k + 1 < 1400; omega) ((congrFun (sF_o (show mCd ≠ mPi by decide)) _).trans h2) ?_
  refine p_ialdE 67 rfl dX9_reckons_66 (i := j) rfl (by show _ < 9; omega) ((congrFun (sF_o (show mTo ≠ mPi by decide)) _).trans hj) ?_
  refine p_iastE 68 rfl dX9_reckons_67 (i := stk.length) rfl (by show _ < 950; omega) ?_
  refine p_inc_3 71 rfl dX9_reckons_68 (1) rfl (Nat.le_of_ble_eq_true rfl) rfl ?_
  refine p_inc_2 74 rfl dX9_reckons_71 (1) rfl (Nat.le_of_ble_eq_true rfl) rfl ?_
  refine p_goto 140 rfl dX9_reckons_74 ?_
  refine p_goto 4 rfl dX9_reckons_140 ?_
  rw [nI_1, nI_1, sA_sF]
  exact kk _ _ rfl
set_option maxRecDepth 4000 in
theorem r_not (hr : ∀ k, hR σ M0 k = mRef k) {rs : List Int32} {k : Nat} {x1 y : Int32} {x4 : Option Value} {f : Nat → Int32} {Q : PO → PH → Prop} (hs : rs.length < 900) (hk : k + 1 < 1400) (h1 : hA σ mCd k = 3) (hf : plk f (y :: rs)) (kk : ∀ (τ : PH) (y4 : Option Value), τ = sF σ mPi (upd f rs.length (b2i (decide (y = 0)))) → Ok Γ 2 0 0 mX9_reckons 4 [some (.ref M0), some (.int x1), some (.int (nI (rs.length + 1))), some (.int (nI (k + 1))), y4] [] τ Q) : Ok Γ 2 0 0 mX9_reckons 4 [some (.ref M0), some (.int x1), some (.int (nI (rs.length + 1))), some (.int (nI k)), x4] [] (sF σ mPi f) Q := by
  refine p_aload_n 0 5 rfl rfl dX9_reckons_4 rfl ?_
  refine p_getR 9 11 8 rfl dX9_reckons_5 fl_X9_29 rfl rfl (show hR _ M0 11 = mCd from hr 11) (by decide) ?_
  refine p_iload_n 3 9 rfl rfl dX9_reckons_8 rfl ?_
  refine p_ialdE 10 rfl dX9_reckons_9 (i := k) rfl (by show k < 1400; omega) ((congrFun (sF_o (show mCd ≠ mPi by decide)) _).trans h1) ?_
  refine p_if_eq 143 13 rfl rfl dX9_reckons_10 (fun h10 => absurd h10 (by decide)) (fun h10 => ?_)
  refine p_aload_n 0 14 rfl rfl dX9_reckons_13 rfl ?_
  refine p_getR 9 11 17 rfl dX9_reckons_14 fl_X9_29 rfl rfl (show hR _ M0 11 = mCd from hr 11) (by decide) ?_
  refine p_iload_n 3 18 rfl rfl dX9_reckons_17 rfl ?_
  refine p_ialdE 19 rfl dX9_reckons_18 (i := k) rfl (by show k < 1400; omega) ((congrFun (sF_o (show mCd ≠ mPi by decide)) _).trans h1) ?_
  refine p_ist_4 21 rfl dX9_reckons_19 (Nat.le_of_ble_eq_true rfl) rfl ?_
  refine p_inc_3 24 rfl dX9_reckons_21 (1) rfl (Nat.le_of_ble_eq_true rfl) rfl ?_
  rw [nI_1]
  refine p_iload 4 26 rfl dX9_reckons_24 rfl ?_
  refine p_iconst (1) 27 rfl dX9_reckons_26 rfl ?_
  refine p_icmp_eq 36 30 rfl rfl dX9_reckons_27 (fun h27 => absurd h27 (by decide)) (fun h27 => ?_)
  refine p_iload 4 32 rfl dX9_reckons_30 rfl ?_
  refine p_iconst (2) 33 rfl dX9_reckons_32 rfl ?_
  refine p_icmp_ne 77 36 rfl rfl dX9_reckons_33 (fun h33 => ?_) (fun h33 => absurd h33 (by decide))
  refine p_iload 4 79 rfl dX9_reckons_77 rfl ?_
  refine p_iconst (3) 80 rfl dX9_reckons_79 rfl ?_
  refine p_icmp_ne 110 83 rfl rfl dX9_reckons_80 (fun h80 => absurd rfl h80) (fun h80 => ?_)
  refine p_aload_n 0 84 rfl rfl dX9_reckons_83 rfl ?_
  refine p_getR 9 48 87 rfl dX9_reckons_84 fl_X9_75 rfl rfl (show hR _ M0 48 = mPi from hr 48) (by decide) ?_
  refine p_iload_n 2 88 rfl rfl dX9_reckons_87 rfl ?_
  refine p_iconst (1) 89 rfl dX9_reckons_88 rfl ?_
  refine p_isub 90 rfl dX9_reckons_89 ?_
  rw [show nI (rs.length + 1) - 1 = nI rs.length from nI_pred _]
  refine p_aload_n 0 91 rfl rfl dX9_reckons_90 rfl ?_
  refine p_getR 9 48 94 rfl dX9_reckons_91 fl_X9_75 rfl rfl (show hR _ M0 48 = mPi from hr 48) (by decide) ?_
  refine p_iload_n 2 95 rfl rfl dX9_reckons_94 rfl ?_
  refine p_iconst (1) 96 rfl dX9_reckons_95 rfl ?_
  refine p_isub 97 rfl dX9_reckons_96 ?_
  rw [show nI (rs.length + 1) - 1 = nI rs.length from nI_pred _]
  refine p_ialdE 98 rfl dX9_reckons_97 (i := rs.length) rfl (by show rs.length < 950; omega) ((congrFun (hA_sF _ _ _) _).trans (plk_top hf)) ?_
  refine p_if_ne 105 101 rfl rfl dX9_reckons_98 (fun h98 => ?_) (fun h98 => ?_)
  · refine p_iconst (0) 106 rfl dX9_reckons_105 rfl ?_
    refine p_iastE 107 rfl dX9_reckons_106 (i := rs.length) rfl (by show _ < 950; omega) ?_
    refine p_goto 140 rfl dX9_reckons_107 ?_
    refine p_goto 4 rfl dX9_reckons_140 ?_
    rw [sA_sF]
    have e : b2i (decide (y = 0)) = 0 := by rw [decide_eq_false h98]; rfl
    rw [← e]
    exact kk _ _ rfl
  · refine p_iconst (1) 102 rfl dX9_reckons_101 rfl ?_
    refine p_goto 106 rfl dX9_reckons_102 ?_
    refine p_iastE 107 rfl dX9_reckons_106 (i := rs.length) rfl (by show _ < 950; omega) ?_
    refine p_goto 140 rfl dX9_reckons_107 ?_
    refine p_goto 4 rfl dX9_reckons_140 ?_
    rw [sA_sF]
    have e : b2i (decide (y = 0)) = 1 := by rw [decide_eq_true h98]; rfl
    rw [← e]
    exact kk _ _ rfl
theorem nI_m (n : Nat) : nI (n + 1) + (-1) = nI n := sb_m1 (p := n + 1) (by omega)
set_option maxRecDepth 4000 in
theorem r_op (hr : ∀ k, hR σ M0 k = mRef k) {rs : List Int32} {k : Nat} {x1 x y oc : Int32} {x4 : Option Value} {f : Nat → Int32} {Q : PO → PH → Prop} (hs : rs.length < 900) (hk : k + 1 < 1400) (h1 : hA σ mCd k = oc) (n0 : ¬ oc = 0) (n1 : ¬ oc = 1) (n2 : ¬ oc = 2) (n3 : ¬ oc = 3) (hf : plk f (y :: x :: rs)) (kk : ∀ (τ : PH) (y4 : Option Value), τ = sF σ mPi (upd f rs.length (wk oc x y)) → Ok Γ 2 0 0 mX9_reckons 4 [some (.ref M0), some (.int x1), some (.int (nI (rs.length + 1))), some (.int (nI (k + 1))), y4] [] τ Q) : Ok Γ 2 0 0 mX9_reckons 4 [some (.ref M0), some (.int x1), some (.int (nI (rs.length + 1 + 1))), some (.int (nI k)), x4] [] (sF σ mPi f) Q := by
  refine p_aload_n 0 5 rfl rfl dX9_reckons_4 rfl ?_
  refine p_getR 9 11 8 rfl dX9_reckons_5 fl_X9_29 rfl rfl (show hR _ M0 11 = mCd from hr 11) (by decide) ?_
  refine p_iload_n 3 9 rfl rfl dX9_reckons_8 rfl ?_
  refine p_ialdE 10 rfl dX9_reckons_9 (i := k) rfl (by show k < 1400; omega) ((congrFun (sF_o (show mCd ≠ mPi by decide)) _).trans h1) ?_
  refine p_if_eq 143 13 rfl rfl dX9_reckons_10 (fun h10 => absurd h10 n0) (fun h10 => ?_)
  refine p_aload_n 0 14 rfl rfl dX9_reckons_13 rfl ?_
  refine p_getR 9 11 17 rfl dX9_reckons_14 fl_X9_29 rfl rfl (show hR _ M0 11 = mCd from hr 11) (by decide) ?_
  refine p_iload_n 3 18 rfl rfl dX9_reckons_17 rfl ?_
  refine p_ialdE 19 rfl dX9_reckons_18 (i := k) rfl (by show k < 1400; omega) ((congrFun (sF_o (show mCd ≠ mPi by decide)) _).trans h1) ?_
  refine p_ist_4 21 rfl dX9_reckons_19 (Nat.le_of_ble_eq_true rfl) rfl ?_
  refine p_inc_3 24 rfl dX9_reckons_21 (1) rfl (Nat.le_of_ble_eq_true rfl) rfl ?_
  rw [nI_1]
  refine p_iload 4 26 rfl dX9_reckons_24 rfl ?_
  refine p_iconst (1) 27 rfl dX9_reckons_26 rfl ?_
  refine p_icmp_eq 36 30 rfl rfl dX9_reckons_27 (fun h27 => absurd h27 n1) (fun h27 => ?_)
  refine p_iload 4 32 rfl dX9_reckons_30 rfl ?_
  refine p_iconst (2) 33 rfl dX9_reckons_32 rfl ?_
  refine p_icmp_ne 77 36 rfl rfl dX9_reckons_33 (fun h33 => ?_) (fun h33 => absurd h33 n2)
  refine p_iload 4 79 rfl dX9_reckons_77 rfl ?_
  refine p_iconst (3) 80 rfl dX9_reckons_79 rfl ?_
  refine p_icmp_ne 110 83 rfl rfl dX9_reckons_80 (fun h80 => ?_) (fun h80 => absurd h80 n3)
  refine p_inc_2 113 rfl dX9_reckons_110 (-1) rfl (Nat.le_of_ble_eq_true rfl) rfl ?_
  rw [show nI (rs.length + 1 + 1) + (-1) = nI (rs.length + 1) from nI_m (rs.length + 1)]
  refine p_aload_n 0 114 rfl rfl dX9_reckons_113 rfl ?_
  refine p_getR 9 48 117 rfl dX9_reckons_114 fl_X9_75 rfl rfl (show hR _ M0 48 = mPi from hr 48) (by decide) ?_
  refine p_iload_n 2 118 rfl rfl dX9_reckons_117 rfl ?_
  refine p_iconst (1) 119 rfl dX9_reckons_118 rfl ?_
  refine p_isub 120 rfl dX9_reckons_119 ?_
  rw [show nI (rs.length + 1) - 1 = nI rs.length from nI_pred _]
  refine p_iload 4 122 rfl dX9_reckons_120 rfl ?_
  refine p_aload_n 0 123 rfl rfl dX9_reckons_122 rfl ?_
  refine p_getR 9 48 126 rfl dX9_reckons_123 fl_X9_75 rfl rfl (show hR _ M0 48 = mPi from hr 48) (by decide) ?_
  refine p_iload_n 2 127 rfl rfl dX9_reckons_126 rfl ?_
  refine p_iconst (1) 128 rfl dX9_reckons_127 rfl ?_
  refine p_isub 129 rfl dX9_reckons_128 ?_
  rw [show nI (rs.length + 1) - 1 = nI rs.length from nI_pred _]
  refine p_ialdE 130 rfl dX9_reckons_129 (i := rs.length) rfl (by show rs.length < 950; omega) ((congrFun (hA_sF _ _ _) _).trans (plk_top (plk_tl hf))) ?_
  refine p_aload_n 0 131 rfl rfl dX9_reckons_130 rfl ?_
  refine p_getR 9 48 134 rfl dX9_reckons_131 fl_X9_75 rfl rfl (show hR _ M0 48 = mPi from hr 48) (by decide) ?_
  refine p_iload_n 2 135 rfl rfl dX9_reckons_134 rfl ?_
  refine p_ialdE 136 rfl dX9_reckons_135 (i := rs.length + 1) rfl (by show rs.length + 1 < 950; omega) ((congrFun (hA_sF _ _ _) _).trans (plk_top hf)) ?_
  refine p_cS3i 139 rfl dX9_reckons_136 (c_works _ _ _) ml_X9_306 sl_X9_works (Nat.le_of_ble_eq_true rfl) (Nat.le_of_ble_eq_true rfl) rfl ?_
  refine p_iastE 140 rfl dX9_reckons_139 (i := rs.length) rfl (by show _ < 950; omega) ?_
  refine p_goto 4 rfl dX9_reckons_140 ?_
  rw [sA_sF]
  exact kk _ _ rfl
set_option maxRecDepth 4000 in
theorem r_end (hr : ∀ k, hR σ M0 k = mRef k) {stk : List Int32} {k : Nat} {x1 : Int32} {x4 : Option Value} {f : Nat → Int32} (hk : k < 1400) (hz : hA σ mCd k = 0) (hf : plk f stk) (hs : 0 < stk.length) : Ok Γ 2 0 0 mX9_reckons 4 [some (.ref M0), some (.int x1), some (.int (nI stk.length)), some (.int (nI k)), x4] [] (sF σ mPi f) (rX (fun v σ' => v = bot stk ∧ ∃ f', σ' = sF σ mPi f')) := by
  refine p_aload_n 0 5 rfl rfl dX9_reckons_4 rfl ?_
  refine p_getR 9 11 8 rfl dX9_reckons_5 fl_X9_29 rfl rfl (show hR _ M0 11 = mCd from hr 11) (by decide) ?_
  refine p_iload_n 3 9 rfl rfl dX9_reckons_8 rfl ?_
  refine p_ialdE 10 rfl dX9_reckons_9 (i := k) rfl (by show k < 1400; omega) ((congrFun (sF_o (show mCd ≠ mPi by decide)) _).trans hz) ?_
  refine p_if_eq 143 13 rfl rfl dX9_reckons_10 (fun h10 => ?_) (fun h10 => absurd rfl h10)
  refine p_aload_n 0 144 rfl rfl dX9_reckons_143 rfl ?_
  refine p_getR 9 48 147 rfl dX9_reckons_144 fl_X9_75 rfl rfl (show hR _ M0 48 = mPi from hr 48) (by decide) ?_
  refine p_iconst (0) 148 rfl dX9_reckons_147 rfl ?_
  refine p_ialdE 149 rfl dX9_reckons_148 (i := 0) rfl (by decide) ((congrFun (hA_sF _ _ _) _).trans (plk_bot hf hs)) ?_
  exact p_iret dX9_reckons_149 rfl ⟨_, rfl, rfl, f, rfl⟩
theorem l_reck {w : Bool} {vals : Nat → Int32} (hr : ∀ k, hR σ M0 k = mRef k) (hTo : ∀ s, s < 6 → (w = true → s < 5) → hA σ mTo (slt w s) = vals s) : ∀ (ts : List Int32) (k : Nat) (stk : List Int32) (f : Nat → Int32) (x1 : Int32) (x4 : Option Value), k + (encL w ts).length < 1400 → (∀ i, i < (encL w ts ++ [0]).length → hA σ mCd (k + i) = (encL w ts ++ [0]).getD i 0) → (∀ t ∈ ts, okSt w t) → hgt stk.length ts = some 1 → stk.length ≤ 40 → plk f stk → Ok Γ 2 0 0 mX9_reckons 4 [some (.ref M0), some (.int x1), some (.int (nI stk.length)), some (.int (nI k)), x4] [] (sF σ mPi f) (rX (fun v σ' => v = bot (evL vals stk ts) ∧ ∃ f', σ' = sF σ mPi f')) := by
  intro ts
  induction ts with
  | nil =>
    intro k stk f x1 x4 hk hc hok hg h40 hf
    have e : stk.length = 1 := by simpa [hgt] using hg
    exact r_end hr hk (by have := hc 0 (by simp [encL]); simpa [encL] using this) hf (by omega)
  | cons t ts ih =>
    intro k stk f x1 x4 hk hc hok hg h40 hf
    have hot := hok t (by simp)
    have hok2 : ∀ s ∈ ts, okSt w s := fun s hs => hok s (List.mem_cons_of_mem _ hs)
    have eL : encL w (t :: ts) = enc w t ++ encL w ts := by simp [encL]
    rw [eL, List.length_append] at hk
    rw [eL] at hc
    have hc2 : ∀ i, i < (encL w ts ++ [0]).length → hA σ mCd (k + (enc w t).length + i) = (encL w ts ++ [0]).getD i 0 := by
      intro i hi
      have := hc ((enc w t).length + i) (by simp only [List.length_append] at hi ⊢; omega)
      rw [Nat.add_assoc, this, List.append_assoc]
      simp only [List.getD_eq_getElem?_getD]
      rw [List.getElem?_append_right (by omega), show (enc w t).length + i - (enc w t).length = i by omega]
    have hd : ∀ i, i < (enc w t).length → hA σ mCd (k + i) = (enc w t).getD i 0 := by
      intro i hi
      rw [hc i (by simp only [List.length_append]; omega), List.append_assoc]
      simp only [List.getD_eq_getElem?_getD]
      rw [List.getElem?_append_left hi]
    by_cases h0 : 0 ≤ t
    · obtain ⟨hlt, hg2⟩ := hgt_p h0 hg
      have ee : evL vals stk (t :: ts) = evL vals (opd vals t :: stk) ts := by
        show evL vals (ev1 vals stk t) ts = _
        unfold ev1; rw [if_pos h0, if_pos hlt]
      rw [ee]
      by_cases h1 : t < 10000
      · have en := enc_1 (w := w) h0 h1
        rw [en] at hk hc2 hd
        simp only [List.length_cons, List.length_nil] at hk hc2 hd
        have eo : opd vals t = t := if_pos h1
        rw [eo]
        refine r_num hr (by omega) (by omega) (hd 0 (by decide)) (hd 1 (by decide)) (fun τ y4 hτ => ?_)
        subst hτ
        exact ih (k + 1 + 1) (t :: stk) _ x1 y4 (by omega) (fun i hi => hc2 i hi) hok2 hg2 (by simp; omega) (plk_push hf)
      · obtain ⟨s, hs, hs6, hs5, en⟩ := ok_val hot h1
        rw [en] at hk hc2 hd
        simp only [List.length_cons, List.length_nil] at hk hc2 hd
        have eo : opd vals t = vals s := by
          rw [opd, if_neg h1, hs, if_pos (show nI (10000 + s) < 10006 from nI_lt (a := 10000 + s) (b := 10006) (by omega) (by decide)), show nI (10000 + s) - 10000 = nI s from (nI_sb (a := 10000 + s) (b := 10000) (by omega)).trans (by rw [Nat.add_sub_cancel_left]), nI_clamp (by omega)]
        rw [eo]
        have hj : slt w s < 9 := by
          unfold slt
          split
          · rename_i hw; have := hs5 hw; omega
          · split <;> omega
        refine r_val hr (by omega) (by omega) hj (hd 0 (by decide)) (hd 1 (by decide)) (hTo s hs6 hs5) (fun τ y4 hτ => ?_)
        subst hτ
        exact ih (k + 1 + 1) (vals s :: stk) _ x1 y4 (by omega) (fun i hi => hc2 i hi) hok2 hg2 (by simp; omega) (plk_push hf)
    · by_cases h3 : t = -3
      · subst h3
        obtain ⟨hlt, hg2⟩ := hgt_n hg
        obtain ⟨y, rs, rfl⟩ : ∃ y rs, stk = y :: rs := by
          cases stk with
          | nil => exact absurd hlt (by simp)
          | cons y rs => exact ⟨y, rs, rfl⟩
        have en : enc w (-3) = [3] := by cases w <;> decide
        rw [en] at hk hc2 hd
        simp only [List.length_cons, List.length_nil] at hk hc2 hd hg2 h40
        have ee : evL vals (y :: rs) (-3 :: ts) = evL vals (b2i (decide (y = 0)) :: rs) ts := by
          show evL vals (ev1 vals (y :: rs) (-3)) ts = _
          unfold ev1; rw [if_neg (by decide), if_pos rfl]
        rw [ee]
        refine r_not hr (by omega) (by omega) (hd 0 (by decide)) hf (fun τ y4 hτ => ?_)
        subst hτ
        exact ih (k + 1) (b2i (decide (y = 0)) :: rs) _ x1 y4 (by omega) (fun i hi => hc2 i hi) hok2 hg2 (by simp; omega) (plk_set hf)
      · obtain ⟨hlt, hg2⟩ := hgt_b h0 h3 hg
        obtain ⟨y, x, rs, rfl⟩ : ∃ y x rs, stk = y :: x :: rs := by
          cases stk with
          | nil => exact absurd hlt (by simp)
          | cons y rs => cases rs with
            | nil => exact absurd hlt (by simp)
            | cons x rs => exact ⟨y, x, rs, rfl⟩
        obtain ⟨oc, en, n0, n1, n2, n3, hj⟩ := ok_op hot h0 h3
        rw [en] at hk hc2 hd
        simp only [List.length_cons, List.length_nil] at hk hc2 hd hg2 h40
        have ee : evL vals (y :: x :: rs) (t :: ts) = evL vals (wk oc x y :: rs) ts := by
          show evL vals (ev1 vals (y :: x :: rs) t) ts = _
          unfold ev1; rw [if_neg h0, if_neg h3, hj]
        rw [ee]
        refine r_op hr (by omega) (by omega) (hd 0 (by decide)) n0 n1 n2 n3 hf (fun τ y4 hτ => ?_)
        subst hτ
        exact ih (k + 1) (wk oc x y :: rs) _ x1 y4 (by omega) (fun i hi => hc2 i hi) hok2 hg2 (by simp; omega) (plk_set (plk_tl hf))
theorem c_reckons {w : Bool} {vals : Nat → Int32} (hr : ∀ k, hR σ M0 k = mRef k) (hTo : ∀ s, s < 6 → (w = true → s < 5) → hA σ mTo (slt w s) = vals s) {ps : List Int32} {p : Nat} (hg : hgt 0 ps = some 1) (hok : ∀ t ∈ ps, okSt w t) (hp : p + (encL w ps).length < 1400) (hc : ∀ i, i < (encL w ps ++ [0]).length → hA σ mCd (p + i) = (encL w ps ++ [0]).getD i 0) : CallOk Γ 2 0 0 mX9_reckons [.ref M0, .int (nI p)] σ (rX (fun v σ' => v = evP ps vals ∧ ∃ f', σ' = sF σ mPi f')) := by
  refine p_enter rfl rfl (Nat.le_of_ble_eq_true rfl) rfl ?_
  refine p_iconst (0) 1 rfl dX9_reckons_0 rfl ?_
  refine p_ist_n2 2 rfl rfl dX9_reckons_1 (Nat.le_of_ble_eq_true rfl) rfl ?_
  refine p_iload_n 1 3 rfl rfl dX9_reckons_2 rfl ?_
  refine p_ist_n3 4 rfl rfl dX9_reckons_3 (Nat.le_of_ble_eq_true rfl) rfl ?_
  have h := l_reck (Γ := Γ) hr hTo ps p [] (hA σ mPi) (nI p) none hp hc hok hg (by decide) (fun j hj => absurd hj (Nat.not_lt_zero _))
  rw [sF_self] at h
  exact h
end C82
