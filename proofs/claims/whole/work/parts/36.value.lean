/-! ===== a rule's value ===== -/
def plk (f : Nat → Int32) (stk : List Int32) : Prop := ∀ j, j < stk.length → f j = stk.getD (stk.length - 1 - j) 0
theorem plk_push {f : Nat → Int32} {stk : List Int32} {x : Int32} (h : plk f stk) : plk (upd f stk.length x) (x :: stk) := by
  intro j hj
  simp only [List.length_cons] at hj ⊢
  by_cases e : j = stk.length
  · subst e
    rw [pk_us]
    rw [show stk.length + 1 - 1 - stk.length = 0 by omega]
    rfl
  · rw [pk_un e, h j (by omega), show stk.length + 1 - 1 - j = (stk.length - 1 - j) + 1 by omega]
    rfl
theorem plk_top {f : Nat → Int32} {y : Int32} {rs : List Int32} (h : plk f (y :: rs)) : f rs.length = y := by
  rw [h rs.length (by simp)]
  simp only [List.length_cons]
  rw [show rs.length + 1 - 1 - rs.length = 0 by omega]
  rfl
theorem plk_tl {f : Nat → Int32} {y : Int32} {rs : List Int32} (h : plk f (y :: rs)) : plk f rs := by
  intro j hj
  rw [h j (by simp; omega)]
  simp only [List.length_cons]
  rw [show rs.length + 1 - 1 - j = (rs.length - 1 - j) + 1 by omega]
  rfl
theorem plk_set {f : Nat → Int32} {y z : Int32} {rs : List Int32} (h : plk f (y :: rs)) : plk (upd f rs.length z) (z :: rs) := plk_push (plk_tl h)
theorem plk_bot {f : Nat → Int32} {stk : List Int32} (h : plk f stk) (h0 : 0 < stk.length) : f 0 = bot stk := by
  rw [h 0 h0]
  unfold bot
  rw [List.getLast?_eq_getElem?]
  simp
theorem drop_at {ps : List Int32} {i : Nat} (h : i < ps.length) : ps.drop i = ps.getD i 0 :: ps.drop (i + 1) := by
  rw [List.drop_eq_getElem_cons h]
  simp [h]
theorem uSP (u : Nat) : uS u ≠ uP u := by
  unfold uS uP mkr; omega
section C36
variable {Γ : Gm} {σ : PH} {u r : Nat} {ps : List Int32}
set_option maxRecDepth 4000 in
theorem l_valueFor (hu : RpU σ u (some ps)) (hk : kd r = 16) (hl : ln r = 6) (hr : r ≠ uP u) : ∀ (n i : Nat) (stk : List Int32) (f : Nat → Int32) (x4 : Option Value), i + n = ps.length → stk.length ≤ 40 → plk f stk → Ok Γ 2 0 0 mX6_valueFor 4 [some (.ref u), some (.ref r), some (.int (nI stk.length)), some (.int (nI i)), x4] [] (sF σ (uP u) f) (rX (fun x σ' => x = bot (evL (hA σ r) stk (ps.drop i)) ∧ ∃ g, σ' = sF σ (uP u) g)) := by
  have h700 := hu.2.2.2.2.2.1
  intro n
  induction n with
  | zero =>
    intro i stk f x4 hi hs40 hf
    have hiN : i = ps.length := by omega
    subst hiN
    refine p_iload_n 3 5 rfl rfl dX6_valueFor_4 rfl ?_
    refine p_aload_n 0 6 rfl rfl dX6_valueFor_5 rfl ?_
    refine p_getIE 6 1 9 rfl dX6_valueFor_6 fl_X6_15 hu.1 rfl hu.2.2.2.2.1 ?_
    refine p_icmp_ge 128 12 rfl rfl dX6_valueFor_9 (fun h9 => ?_) (fun h9 => absurd (nI_le (Nat.le_refl _) (by omega)) h9)
    refine p_iload_n 2 129 rfl rfl dX6_valueFor_128 rfl ?_
    refine p_if_le 141 132 rfl rfl dX6_valueFor_129 (fun h129 => ?_) (fun h129 => ?_)
    · refine p_iconst (0) 142 rfl dX6_valueFor_141 rfl ?_
      exact p_iret dX6_valueFor_142 rfl ⟨0, rfl, by
          have hz : stk = [] := by
            cases stk with
            | nil => rfl
            | cons y rs => exact absurd h129 (nI_nle (by simp) (by simp at hs40; simp; omega))
          subst hz
          simp [evL, bot], f, rfl⟩
    · have h0 : 0 < stk.length := by
        cases stk with
        | nil => exact absurd (by decide) h129
        | cons y rs => simp
      refine p_aload_n 0 133 rfl rfl dX6_valueFor_132 rfl ?_
      refine p_getR 6 3 136 rfl dX6_valueFor_133 fl_X6_23 hu.1 rfl hu.2.2.1 (mk0 (Nat.succ_ne_zero _)) ?_
      refine p_iconst (0) 137 rfl dX6_valueFor_136 rfl ?_
      refine p_ialdE 138 rfl dX6_valueFor_137 (i := 0) (kd16 _ _) (lt40 (by omega)) ((congrFun (hA_sF _ _ _) _).trans (plk_bot hf h0)) ?_
      refine p_goto 142 rfl dX6_valueFor_138 ?_
      exact p_iret dX6_valueFor_142 rfl ⟨bot stk, rfl, by simp [evL], f, rfl⟩
  | succ n ih =>
    intro i stk f x4 hi hs40 hf
    have hlt : i < ps.length := by omega
    refine p_iload_n 3 5 rfl rfl dX6_valueFor_4 rfl ?_
    refine p_aload_n 0 6 rfl rfl dX6_valueFor_5 rfl ?_
    refine p_getIE 6 1 9 rfl dX6_valueFor_6 fl_X6_15 hu.1 rfl hu.2.2.2.2.1 ?_
    refine p_icmp_ge 128 12 rfl rfl dX6_valueFor_9 (fun h9 => absurd h9 (nI_ge hlt (by omega))) (fun h9 => ?_)
    have hhr : hA (sF σ (uP u) f) r = hA σ r := sF_o hr
    refine p_aload_n 0 13 rfl rfl dX6_valueFor_12 rfl ?_
    refine p_getR 6 2 16 rfl dX6_valueFor_13 fl_X6_19 hu.1 rfl hu.2.1 (mk0 (Nat.succ_ne_zero _)) ?_
    refine p_iload_n 3 17 rfl rfl dX6_valueFor_16 rfl ?_
    refine p_ialdE 18 rfl dX6_valueFor_17 (kd16 _ _) (lt700 (by omega)) ((congrFun (sF_o (uSP u)) i).trans (hu.2.2.2.2.2.2 i hlt)) ?_
    refine p_ist_4 20 rfl dX6_valueFor_18 (Nat.le_of_ble_eq_true rfl) rfl ?_
    refine p_iload 4 22 rfl dX6_valueFor_20 rfl ?_
    refine p_if_lt 49 25 rfl rfl dX6_valueFor_22 (fun h22 => ?_) (fun h22 => ?_)
    · refine p_iload 4 51 rfl dX6_valueFor_49 rfl ?_
      refine p_bipush (-3) 53 rfl dX6_valueFor_51 rfl ?_
      refine p_icmp_ne 87 56 rfl rfl dX6_valueFor_53 (fun h53 => ?_) (fun h53 => ?_)
      · refine p_iload_n 2 88 rfl rfl dX6_valueFor_87 rfl ?_
        refine p_iconst (1) 89 rfl dX6_valueFor_88 rfl ?_
        refine p_icmp_le 122 92 rfl rfl dX6_valueFor_89 (fun h89 => ?_) (fun h89 => ?_)
        · refine p_inc_3 125 rfl dX6_valueFor_122 (1) rfl (Nat.le_of_ble_eq_true rfl) rfl ?_
          refine p_goto 4 rfl dX6_valueFor_125 ?_
          have e1 : ev1 (hA σ r) stk (ps.getD i 0) = stk := by
            unfold ev1
            rw [if_neg (Int32.not_le.mpr h22), if_neg h53]
            match stk, h89 with
            | [], _ => rfl
            | [y], _ => rfl
            | y :: x :: rs, h89 => exact absurd h89 (nI_ge (a := 1) (by simp) (by simp at hs40; simp; omega))
          rw [nI_1]
          have hx := ih (i + 1) stk f (some (.int (ps.getD i 0))) (by omega) hs40 hf
          rw [drop_at hlt]
          simp only [evL]
          rw [e1]
          exact hx
        · obtain ⟨y, x, rs, rfl⟩ : ∃ y x rs, stk = y :: x :: rs := by
            match stk, h89 with
            | [], h89 => exact absurd (by decide) h89
            | [y], h89 => exact absurd (show nI 1 ≤ 1 by decide) h89
            | y :: x :: rs, _ => exact ⟨y, x, rs, rfl⟩
          have hs41 : rs.length + 1 < 40 := by simp at hs40; omega
          simp only [List.length_cons]
          refine p_inc_2 95 rfl dX6_valueFor_92 (-1) rfl (Nat.le_of_ble_eq_true rfl) rfl ?_
          rw [pk_m1]
          refine p_aload_n 0 96 rfl rfl dX6_valueFor_95 rfl ?_
          refine p_getR 6 3 99 rfl dX6_valueFor_96 fl_X6_23 hu.1 rfl hu.2.2.1 (mk0 (Nat.succ_ne_zero _)) ?_
          refine p_iload_n 2 100 rfl rfl dX6_valueFor_99 rfl ?_
          refine p_iconst (1) 101 rfl dX6_valueFor_100 rfl ?_
          refine p_isub 102 rfl dX6_valueFor_101 ?_
          rw [nI_pred]
          refine p_iload 4 104 rfl dX6_valueFor_102 rfl ?_
          refine p_aload_n 0 105 rfl rfl dX6_valueFor_104 rfl ?_
          refine p_getR 6 3 108 rfl dX6_valueFor_105 fl_X6_23 hu.1 rfl hu.2.2.1 (mk0 (Nat.succ_ne_zero _)) ?_
          refine p_iload_n 2 109 rfl rfl dX6_valueFor_108 rfl ?_
          refine p_iconst (1) 110 rfl dX6_valueFor_109 rfl ?_
          refine p_isub 111 rfl dX6_valueFor_110 ?_
          rw [nI_pred]
          refine p_ialdE 112 rfl dX6_valueFor_111 (kd16 _ _) (lt40 (by omega)) ((congrFun (hA_sF _ _ _) _).trans (plk_top (plk_tl hf))) ?_
          refine p_aload_n 0 113 rfl rfl dX6_valueFor_112 rfl ?_
          refine p_getR 6 3 116 rfl dX6_valueFor_113 fl_X6_23 hu.1 rfl hu.2.2.1 (mk0 (Nat.succ_ne_zero _)) ?_
          refine p_iload_n 2 117 rfl rfl dX6_valueFor_116 rfl ?_
          refine p_ialdE 118 rfl dX6_valueFor_117 (kd16 _ _) (lt40 (by omega)) ((congrFun (hA_sF _ _ _) _).trans (plk_top hf)) ?_
          refine p_cS3i 121 rfl dX6_valueFor_118 (c_joined _ _ _) ml_X6_30 sl_X6_joined (Nat.le_of_ble_eq_true rfl) (Nat.le_of_ble_eq_true rfl) rfl ?_
          refine p_iastE 122 rfl dX6_valueFor_121 (kd16 _ _) (lt40 (by omega)) ?_
          refine p_inc_3 125 rfl dX6_valueFor_122 (1) rfl (Nat.le_of_ble_eq_true rfl) rfl ?_
          refine p_goto 4 rfl dX6_valueFor_125 ?_
          rw [nI_1, sA_sF]
          have e1 : ev1 (hA σ r) (y :: x :: rs) (ps.getD i 0) = jn (ps.getD i 0) x y :: rs := by unfold ev1; rw [if_neg (Int32.not_le.mpr h22), if_neg h53]
          have hx := ih (i + 1) (jn (ps.getD i 0) x y :: rs) _ (some (.int (ps.getD i 0))) (by omega) (by simp at hs40 ⊢; omega) (plk_set (z := jn (ps.getD i 0) x y) (plk_tl hf))
          rw [drop_at hlt]
          simp only [evL]
          rw [e1]
          exact hx
      · refine p_iload_n 2 57 rfl rfl dX6_valueFor_56 rfl ?_
        refine p_if_le 122 60 rfl rfl dX6_valueFor_57 (fun h57 => ?_) (fun h57 => ?_)
        · refine p_inc_3 125 rfl dX6_valueFor_122 (1) rfl (Nat.le_of_ble_eq_true rfl) rfl ?_
          refine p_goto 4 rfl dX6_valueFor_125 ?_
          have h0 : stk = [] := by
            cases stk with
            | nil => rfl
            | cons y rs => exact absurd h57 (nI_nle (by simp) (by simp at hs40; simp; omega))
          subst h0
          rw [nI_1]
          have e1 : ev1 (hA σ r) [] (ps.getD i 0) = [] := by unfold ev1; rw [if_neg (Int32.not_le.mpr h22), if_pos h53]
          have hx := ih (i + 1) [] f (some (.int (ps.getD i 0))) (by omega) hs40 hf
          rw [drop_at hlt]
          simp only [evL]
          rw [e1]
          exact hx
        · obtain ⟨y, rs, rfl⟩ : ∃ y rs, stk = y :: rs := by
            cases stk with
            | nil => exact absurd (by decide) h57
            | cons y rs => exact ⟨y, rs, rfl⟩
          have hs41 : rs.length < 40 := by simp at hs40; omega
          simp only [List.length_cons]
          refine p_aload_n 0 61 rfl rfl dX6_valueFor_60 rfl ?_
          refine p_getR 6 3 64 rfl dX6_valueFor_61 fl_X6_23 hu.1 rfl hu.2.2.1 (mk0 (Nat.succ_ne_zero _)) ?_
          refine p_iload_n 2 65 rfl rfl dX6_valueFor_64 rfl ?_
          refine p_iconst (1) 66 rfl dX6_valueFor_65 rfl ?_
          refine p_isub 67 rfl dX6_valueFor_66 ?_
          rw [nI_pred]
          refine p_aload_n 0 68 rfl rfl dX6_valueFor_67 rfl ?_
          refine p_getR 6 3 71 rfl dX6_valueFor_68 fl_X6_23 hu.1 rfl hu.2.2.1 (mk0 (Nat.succ_ne_zero _)) ?_
          refine p_iload_n 2 72 rfl rfl dX6_valueFor_71 rfl ?_
          refine p_iconst (1) 73 rfl dX6_valueFor_72 rfl ?_
          refine p_isub 74 rfl dX6_valueFor_73 ?_
          rw [nI_pred]
          refine p_ialdE 75 rfl dX6_valueFor_74 (kd16 _ _) (lt40 (by omega)) ((congrFun (hA_sF _ _ _) _).trans (plk_top hf)) ?_
          refine p_if_ne 82 78 rfl rfl dX6_valueFor_75 (fun h75 => ?_) (fun h75 => ?_)
          · refine p_iconst (0) 83 rfl dX6_valueFor_82 rfl ?_
            refine p_iastE 84 rfl dX6_valueFor_83 (kd16 _ _) (lt40 (by omega)) ?_
            refine p_goto 122 rfl dX6_valueFor_84 ?_
            refine p_inc_3 125 rfl dX6_valueFor_122 (1) rfl (Nat.le_of_ble_eq_true rfl) rfl ?_
            refine p_goto 4 rfl dX6_valueFor_125 ?_
            rw [nI_1, sA_sF]
            have ez : b2i (decide (y = 0)) = 0 := by simp [b2i, h75]
            have e1 : ev1 (hA σ r) (y :: rs) (ps.getD i 0) = 0 :: rs := by unfold ev1; rw [if_neg (Int32.not_le.mpr h22), if_pos h53]; simp only [ez]
            have hx := ih (i + 1) (0 :: rs) _ (some (.int (ps.getD i 0))) (by omega) (by simpa using hs40) (plk_set (z := 0) hf)
            rw [drop_at hlt]
            simp only [evL]
            rw [e1]
            exact hx
          · refine p_iconst (1) 79 rfl dX6_valueFor_78 rfl ?_
            refine p_goto 83 rfl dX6_valueFor_79 ?_
            refine p_iastE 84 rfl dX6_valueFor_83 (kd16 _ _) (lt40 (by omega)) ?_
            refine p_goto 122 rfl dX6_valueFor_84 ?_
            refine p_inc_3 125 rfl dX6_valueFor_122 (1) rfl (Nat.le_of_ble_eq_true rfl) rfl ?_
            refine p_goto 4 rfl dX6_valueFor_125 ?_
            rw [nI_1, sA_sF]
            have ez : b2i (decide (y = 0)) = 1 := by simp [b2i, h75]
            have e1 : ev1 (hA σ r) (y :: rs) (ps.getD i 0) = 1 :: rs := by unfold ev1; rw [if_neg (Int32.not_le.mpr h22), if_pos h53]; simp only [ez]
            have hx := ih (i + 1) (1 :: rs) _ (some (.int (ps.getD i 0))) (by omega) (by simpa using hs40) (plk_set (z := 1) hf)
            rw [drop_at hlt]
            simp only [evL]
            rw [e1]
            exact hx
    · refine p_iload_n 2 26 rfl rfl dX6_valueFor_25 rfl ?_
      refine p_bipush (40) 28 rfl dX6_valueFor_26 rfl ?_
      refine p_icmp_ge 122 31 rfl rfl dX6_valueFor_28 (fun h28 => ?_) (fun h28 => ?_)
      · refine p_inc_3 125 rfl dX6_valueFor_122 (1) rfl (Nat.le_of_ble_eq_true rfl) rfl ?_
        refine p_goto 4 rfl dX6_valueFor_125 ?_
        have hfull : ¬ stk.length < 40 := fun z => absurd h28 (nI_ge (a := stk.length) (b := 40) z (by decide))
        rw [nI_1]
        have e1 : ev1 (hA σ r) stk (ps.getD i 0) = stk := by unfold ev1; rw [if_pos (Int32.not_lt.mp h22), if_neg hfull]
        have hx := ih (i + 1) stk f (some (.int (ps.getD i 0))) (by omega) hs40 hf
        rw [drop_at hlt]
        simp only [evL]
        rw [e1]
        exact hx
      · refine p_aload_n 0 32 rfl rfl dX6_valueFor_31 rfl ?_
        refine p_getR 6 3 35 rfl dX6_valueFor_32 fl_X6_23 hu.1 rfl hu.2.2.1 (mk0 (Nat.succ_ne_zero _)) ?_
        refine p_iload_n 2 36 rfl rfl dX6_valueFor_35 rfl ?_
        refine p_iload 4 38 rfl dX6_valueFor_36 rfl ?_
        refine p_aload_n 1 39 rfl rfl dX6_valueFor_38 rfl ?_
        refine p_cS2i 42 rfl dX6_valueFor_39 (c_operand hk hl (Int32.not_lt.mp h22)) ml_X6_26 sl_X6_operand (Nat.le_of_ble_eq_true rfl) (Nat.le_of_ble_eq_true rfl) rfl ?_
        rw [hhr]
        refine p_iastE 43 rfl dX6_valueFor_42 (kd16 _ _) (lt40 (by rcases Nat.lt_or_ge stk.length 40 with z | z; exact z; exact absurd (nI_le (a := 40) z (by omega)) h28)) ?_
        refine p_inc_2 46 rfl dX6_valueFor_43 (1) rfl (Nat.le_of_ble_eq_true rfl) rfl ?_
        refine p_goto 122 rfl dX6_valueFor_46 ?_
        refine p_inc_3 125 rfl dX6_valueFor_122 (1) rfl (Nat.le_of_ble_eq_true rfl) rfl ?_
        refine p_goto 4 rfl dX6_valueFor_125 ?_
        rw [nI_1, nI_1, sA_sF]
        have hroom : stk.length < 40 := by
          rcases Nat.lt_or_ge stk.length 40 with z | z
          · exact z
          · exact absurd (nI_le (a := 40) z (by omega)) h28
        have e1 : ev1 (hA σ r) stk (ps.getD i 0) = opd (hA σ r) (ps.getD i 0) :: stk := by unfold ev1; rw [if_pos (Int32.not_lt.mp h22), if_pos hroom]
        have hx := ih (i + 1) (opd (hA σ r) (ps.getD i 0) :: stk) _ (some (.int (ps.getD i 0))) (by omega) (by simp; omega) (plk_push (x := opd (hA σ r) (ps.getD i 0)) hf)
        rw [drop_at hlt]
        simp only [evL]
        rw [e1]
        exact hx
set_option maxRecDepth 4000 in
theorem c_valueFor (hu : RpU σ u (some ps)) (hk : kd r = 16) (hl : ln r = 6) (hr : r ≠ uP u) : CallOk Γ 2 0 0 mX6_valueFor [.ref u, .ref r] σ (rX (fun x σ' => x = evP ps (hA σ r) ∧ ∃ g, σ' = sF σ (uP u) g)) := by
  refine p_enter rfl rfl (Nat.le_of_ble_eq_true rfl) rfl ?_
  refine p_iconst (0) 1 rfl dX6_valueFor_0 rfl ?_
  refine p_ist_n2 2 rfl rfl dX6_valueFor_1 (Nat.le_of_ble_eq_true rfl) rfl ?_
  refine p_iconst (0) 3 rfl dX6_valueFor_2 rfl ?_
  refine p_ist_n3 4 rfl rfl dX6_valueFor_3 (Nat.le_of_ble_eq_true rfl) rfl ?_
  have hx := l_valueFor (Γ := Γ) hu hk hl hr ps.length 0 [] (hA σ (uP u)) none (by omega) (by decide) (fun j hj => absurd hj (by simp))
  rw [sF_self] at hx
  exact hx
end C36
