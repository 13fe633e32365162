/-! ===== the law: calls with their catches ===== -/
theorem cl_13 : Cond.classLink RL 13 (exn 2) ∈ TB := tb_i 602 (by decide +kernel) rfl
theorem cl_18 : Cond.classLink RL 18 (exn 1) ∈ TB := tb_i 898 (by decide +kernel) rfl
abbrev oL0 : Nat := 26214451
theorem in_o : vp_in 0 (ln oL0) := vp_in_nI (n := 0) (by decide) (by decide)
def rW (sp : Nat × Int32) (P : PH → Prop) : PO → PH → Prop := fun o σ' => o = .inl (some (.int (nI sp.1))) ∧ ∃ σ1, P σ1 ∧ ((sp.1 = 0 ∧ σ' = sL σ1 oL0 0 sp.2.toInt64) ∨ (¬ sp.1 = 0 ∧ σ' = σ1))
section Cb4
variable {Γ : Gm} {σ : PH} {sp : Nat × Int32} {P : PH → Prop}
set_option maxRecDepth 4000 in
theorem w_office (x : Int32) (h1 : sp.1 ≤ 1) (hM : CallOk Γ 54 8 48 mX8_office [.ref T0, .int x] σ (rS sp true P)) : CallOk Γ 55 8 48 mL_office [.ref T0, .int x, .ref oL0] σ (rW sp P) := by
  refine p_enterH rfl (by decide) (Nat.le_of_ble_eq_true rfl) rfl ?_
  refine p_aload_n 2 1 rfl rfl dL_office_0 rfl ?_
  refine p_iconst (0) 2 rfl dL_office_1 rfl ?_
  refine p_aload_n 0 3 rfl rfl dL_office_2 rfl ?_
  refine p_iload_n 1 4 rfl rfl dL_office_3 rfl ?_
  refine p_callVH (as := [.int x]) (st := [.int 0, .ref oL0]) (mc2 := 0) (ms2 := 0) 7 rfl dL_office_4 hM ml_L_7 vl_X8_office rfl (by decide) rfl rfl rfl (Nat.le_of_ble_eq_true rfl) (Nat.le_of_ble_eq_true rfl) (Nat.le_of_ble_eq_true rfl) (Nat.le_of_ble_eq_true rfl) (fun v σ' h => ?_) (fun xx σ' h => ?_)
  · obtain ⟨he, hP⟩ := h
    by_cases h0 : sp.1 = 0
    · rw [if_pos h0] at he
      injection he with he
      subst he
      refine p_i2l 8 rfl dL_office_7 ?_
      refine p_last 9 rfl dL_office_8 rfl in_o ?_
      refine p_goto 15 rfl dL_office_9 ?_
      refine p_iconst (0) 16 rfl dL_office_15 rfl ?_
      exact p_iret dL_office_16 rfl ⟨by rw [h0]; rfl, σ', hP, Or.inl ⟨h0, rfl⟩⟩
    · rw [if_neg h0] at he; cases he
  · obtain ⟨he, hP⟩ := h
    by_cases h0 : sp.1 = 0
    · rw [if_pos h0] at he; cases he
    · rw [if_neg h0] at he
      injection he with he
      subst he
      have e1 : sp.1 = 1 := by omega
      rw [if_pos rfl]
      refine ⟨13, ⟨[], ⟨0, 9, 12, 13⟩, [], 3, rfl, (fun z hz => by cases hz), by decide, by decide, cl_13, Or.inl ⟨3, dL_office_12, rfl, rfl⟩, (Nat.le_of_ble_eq_true rfl)⟩, ?_⟩
      refine p_iconst (1) 14 rfl dL_office_13 rfl ?_
      exact p_iret dL_office_14 rfl ⟨by rw [e1]; rfl, σ', hP, Or.inr ⟨h0, rfl⟩⟩
set_option maxRecDepth 4000 in
theorem w_count (x : Int32) (h1 : sp.1 ≤ 1) (hM : CallOk Γ 14 8 48 mX8_count [.ref T0, .int x] σ (rS sp false P)) : CallOk Γ 15 8 48 mL_count [.ref T0, .int x, .ref oL0] σ (rW sp P) := by
  refine p_enterH rfl (by decide) (Nat.le_of_ble_eq_true rfl) rfl ?_
  refine p_aload_n 2 1 rfl rfl dL_count_0 rfl ?_
  refine p_iconst (0) 2 rfl dL_count_1 rfl ?_
  refine p_aload_n 0 3 rfl rfl dL_count_2 rfl ?_
  refine p_iload_n 1 4 rfl rfl dL_count_3 rfl ?_
  refine p_callVH (as := [.int x]) (st := [.int 0, .ref oL0]) (mc2 := 0) (ms2 := 0) 7 rfl dL_count_4 hM ml_L_15 vl_X8_count rfl (by decide) rfl rfl rfl (Nat.le_of_ble_eq_true rfl) (Nat.le_of_ble_eq_true rfl) (Nat.le_of_ble_eq_true rfl) (Nat.le_of_ble_eq_true rfl) (fun v σ' h => ?_) (fun xx σ' h => ?_)
  · obtain ⟨he, hP⟩ := h
    by_cases h0 : sp.1 = 0
    · rw [if_pos h0] at he
      injection he with he
      subst he
      refine p_i2l 8 rfl dL_count_7 ?_
      refine p_last 9 rfl dL_count_8 rfl in_o ?_
      refine p_goto 15 rfl dL_count_9 ?_
      refine p_iconst (0) 16 rfl dL_count_15 rfl ?_
      exact p_iret dL_count_16 rfl ⟨by rw [h0]; rfl, σ', hP, Or.inl ⟨h0, rfl⟩⟩
    · rw [if_neg h0] at he; cases he
  · obtain ⟨he, hP⟩ := h
    by_cases h0 : sp.1 = 0
    · rw [if_pos h0] at he; cases he
    · rw [if_neg h0] at he
      injection he with he
      subst he
      have e1 : sp.1 = 1 := by omega
      rw [if_neg (by decide), e1]
      refine ⟨13, ⟨[], ⟨0, 9, 12, 18⟩, [], 3, rfl, (fun z hz => by cases hz), by decide, by decide, cl_18, Or.inl ⟨3, dL_count_12, rfl, rfl⟩, (Nat.le_of_ble_eq_true rfl)⟩, ?_⟩
      refine p_iconst (1) 14 rfl dL_count_13 rfl ?_
      exact p_iret dL_count_14 rfl ⟨by rw [e1]; rfl, σ', hP, Or.inr ⟨h0, rfl⟩⟩
set_option maxRecDepth 4000 in
theorem w_sheet (x : Int32) (y : Int32) (h1 : sp.1 ≤ 1) (hM : CallOk Γ 14 8 48 mX8_sheet [.ref T0, .int x, .int y] σ (rS sp false P)) : CallOk Γ 15 8 48 mL_sheet [.ref T0, .int x, .int y, .ref oL0] σ (rW sp P) := by
  refine p_enterH rfl (by decide) (Nat.le_of_ble_eq_true rfl) rfl ?_
  refine p_aload_n 3 1 rfl rfl dL_sheet_0 rfl ?_
  refine p_iconst (0) 2 rfl dL_sheet_1 rfl ?_
  refine p_aload_n 0 3 rfl rfl dL_sheet_2 rfl ?_
  refine p_iload_n 1 4 rfl rfl dL_sheet_3 rfl ?_
  refine p_iload_n 2 5 rfl rfl dL_sheet_4 rfl ?_
  refine p_callVH (as := [.int x, .int y]) (st := [.int 0, .ref oL0]) (mc2 := 0) (ms2 := 0) 8 rfl dL_sheet_5 hM ml_L_20 vl_X8_sheet rfl (by decide) rfl rfl rfl (Nat.le_of_ble_eq_true rfl) (Nat.le_of_ble_eq_true rfl) (Nat.le_of_ble_eq_true rfl) (Nat.le_of_ble_eq_true rfl) (fun v σ' h => ?_) (fun xx σ' h => ?_)
  · obtain ⟨he, hP⟩ := h
    by_cases h0 : sp.1 = 0
    · rw [if_pos h0] at he
      injection he with he
      subst he
      refine p_i2l 9 rfl dL_sheet_8 ?_
      refine p_last 10 rfl dL_sheet_9 rfl in_o ?_
      refine p_goto 17 rfl dL_sheet_10 ?_
      refine p_iconst (0) 18 rfl dL_sheet_17 rfl ?_
      exact p_iret dL_sheet_18 rfl ⟨by rw [h0]; rfl, σ', hP, Or.inl ⟨h0, rfl⟩⟩
    · rw [if_neg h0] at he; cases he
  · obtain ⟨he, hP⟩ := h
    by_cases h0 : sp.1 = 0
    · rw [if_pos h0] at he; cases he
    · rw [if_neg h0] at he
      injection he with he
      subst he
      have e1 : sp.1 = 1 := by omega
      rw [if_neg (by decide), e1]
      refine ⟨15, ⟨[], ⟨0, 10, 13, 18⟩, [], 4, rfl, (fun z hz => by cases hz), by decide, by decide, cl_18, Or.inr ⟨dL_sheet_13, rfl⟩, (Nat.le_of_ble_eq_true rfl)⟩, ?_⟩
      refine p_iconst (1) 16 rfl dL_sheet_15 rfl ?_
      exact p_iret dL_sheet_16 rfl ⟨by rw [e1]; rfl, σ', hP, Or.inr ⟨h0, rfl⟩⟩
set_option maxRecDepth 4000 in
theorem w_clerk (x : Int32) (y : Int32) (h1 : sp.1 ≤ 1) (hM : CallOk Γ 14 8 48 mX8_clerk [.ref T0, .int x, .int y] σ (rS sp false P)) : CallOk Γ 15 8 48 mL_clerk [.ref T0, .int x, .int y, .ref oL0] σ (rW sp P) := by
  refine p_enterH rfl (by decide) (Nat.le_of_ble_eq_true rfl) rfl ?_
  refine p_aload_n 3 1 rfl rfl dL_clerk_0 rfl ?_
  refine p_iconst (0) 2 rfl dL_clerk_1 rfl ?_
  refine p_aload_n 0 3 rfl rfl dL_clerk_2 rfl ?_
  refine p_iload_n 1 4 rfl rfl dL_clerk_3 rfl ?_
  refine p_iload_n 2 5 rfl rfl dL_clerk_4 rfl ?_
  refine p_callVH (as := [.int x, .int y]) (st := [.int 0, .ref oL0]) (mc2 := 0) (ms2 := 0) 8 rfl dL_clerk_5 hM ml_L_24 vl_X8_clerk rfl (by decide) rfl rfl rfl (Nat.le_of_ble_eq_true rfl) (Nat.le_of_ble_eq_true rfl) (Nat.le_of_ble_eq_true rfl) (Nat.le_of_ble_eq_true rfl) (fun v σ' h => ?_) (fun xx σ' h => ?_)
  · obtain ⟨he, hP⟩ := h
    by_cases h0 : sp.1 = 0
    · rw [if_pos h0] at he
      injection he with he
      subst he
      refine p_i2l 9 rfl dL_clerk_8 ?_
      refine p_last 10 rfl dL_clerk_9 rfl in_o ?_
      refine p_goto 17 rfl dL_clerk_10 ?_
      refine p_iconst (0) 18 rfl dL_clerk_17 rfl ?_
      exact p_iret dL_clerk_18 rfl ⟨by rw [h0]; rfl, σ', hP, Or.inl ⟨h0, rfl⟩⟩
    · rw [if_neg h0] at he; cases he
  · obtain ⟨he, hP⟩ := h
    by_cases h0 : sp.1 = 0
    · rw [if_pos h0] at he; cases he
    · rw [if_neg h0] at he
      injection he with he
      subst he
      have e1 : sp.1 = 1 := by omega
      rw [if_neg (by decide), e1]
      refine ⟨15, ⟨[], ⟨0, 10, 13, 18⟩, [], 4, rfl, (fun z hz => by cases hz), by decide, by decide, cl_18, Or.inr ⟨dL_clerk_13, rfl⟩, (Nat.le_of_ble_eq_true rfl)⟩, ?_⟩
      refine p_iconst (1) 16 rfl dL_clerk_15 rfl ?_
      exact p_iret dL_clerk_16 rfl ⟨by rw [e1]; rfl, σ', hP, Or.inr ⟨h0, rfl⟩⟩
set_option maxRecDepth 4000 in
theorem w_word (x : Int32) (y : Int32) (h1 : sp.1 ≤ 1) (hM : CallOk Γ 14 8 48 mX8_word [.ref T0, .int x, .int y] σ (rS sp false P)) : CallOk Γ 15 8 48 mL_word [.ref T0, .int x, .int y, .ref oL0] σ (rW sp P) := by
  refine p_enterH rfl (by decide) (Nat.le_of_ble_eq_true rfl) rfl ?_
  refine p_aload_n 3 1 rfl rfl dL_word_0 rfl ?_
  refine p_iconst (0) 2 rfl dL_word_1 rfl ?_
  refine p_aload_n 0 3 rfl rfl dL_word_2 rfl ?_
  refine p_iload_n 1 4 rfl rfl dL_word_3 rfl ?_
  refine p_iload_n 2 5 rfl rfl dL_word_4 rfl ?_
  refine p_callVH (as := [.int x, .int y]) (st := [.int 0, .ref oL0]) (mc2 := 0) (ms2 := 0) 8 rfl dL_word_5 hM ml_L_27 vl_X8_word rfl (by decide) rfl rfl rfl (Nat.le_of_ble_eq_true rfl) (Nat.le_of_ble_eq_true rfl) (Nat.le_of_ble_eq_true rfl) (Nat.le_of_ble_eq_true rfl) (fun v σ' h => ?_) (fun xx σ' h => ?_)
  · obtain ⟨he, hP⟩ := h
    by_cases h0 : sp.1 = 0
    · rw [if_pos h0] at he
      injection he with he
      subst he
      refine p_i2l 9 rfl dL_word_8 ?_
      refine p_last 10 rfl dL_word_9 rfl in_o ?_
      refine p_goto 17 rfl dL_word_10 ?_
      refine p_iconst (0) 18 rfl dL_word_17 rfl ?_
      exact p_iret dL_word_18 rfl ⟨by rw [h0]; rfl, σ', hP, Or.inl ⟨h0, rfl⟩⟩
    · rw [if_neg h0] at he; cases he
  · obtain ⟨he, hP⟩ := h
    by_cases h0 : sp.1 = 0
    · rw [if_pos h0] at he; cases he
    · rw [if_neg h0] at he
      injection he with he
      subst he
      have e1 : sp.1 = 1 := by omega
      rw [if_neg (by decide), e1]
      refine ⟨15, ⟨[], ⟨0, 10, 13, 18⟩, [], 4, rfl, (fun z hz => by cases hz), by decide, by decide, cl_18, Or.inr ⟨dL_word_13, rfl⟩, (Nat.le_of_ble_eq_true rfl)⟩, ?_⟩
      refine p_iconst (1) 16 rfl dL_word_15 rfl ?_
      exact p_iret dL_word_16 rfl ⟨by rw [e1]; rfl, σ', hP, Or.inr ⟨h0, rfl⟩⟩
set_option maxRecDepth 4000 in
theorem w_town (x : Int32) (y : Int32) (h1 : sp.1 ≤ 1) (hM : CallOk Γ 14 8 48 mX8_town [.ref T0, .int x, .int y] σ (rS sp false P)) : CallOk Γ 15 8 48 mL_town [.ref T0, .int x, .int y, .ref oL0] σ (rW sp P) := by
  refine p_enterH rfl (by decide) (Nat.le_of_ble_eq_true rfl) rfl ?_
  refine p_aload_n 3 1 rfl rfl dL_town_0 rfl ?_
  refine p_iconst (0) 2 rfl dL_town_1 rfl ?_
  refine p_aload_n 0 3 rfl rfl dL_town_2 rfl ?_
  refine p_iload_n 1 4 rfl rfl dL_town_3 rfl ?_
  refine p_iload_n 2 5 rfl rfl dL_town_4 rfl ?_
  refine p_callVH (as := [.int x, .int y]) (st := [.int 0, .ref oL0]) (mc2 := 0) (ms2 := 0) 8 rfl dL_town_5 hM ml_L_30 vl_X8_town rfl (by decide) rfl rfl rfl (Nat.le_of_ble_eq_true rfl) (Nat.le_of_ble_eq_true rfl) (Nat.le_of_ble_eq_true rfl) (Nat.le_of_ble_eq_true rfl) (fun v σ' h => ?_) (fun xx σ' h => ?_)
  · obtain ⟨he, hP⟩ := h
    by_cases h0 : sp.1 = 0
    · rw [if_pos h0] at he
      injection he with he
      subst he
      refine p_i2l 9 rfl dL_town_8 ?_
      refine p_last 10 rfl dL_town_9 rfl in_o ?_
      refine p_goto 17 rfl dL_town_10 ?_
      refine p_iconst (0) 18 rfl dL_town_17 rfl ?_
      exact p_iret dL_town_18 rfl ⟨by rw [h0]; rfl, σ', hP, Or.inl ⟨h0, rfl⟩⟩
    · rw [if_neg h0] at he; cases he
  · obtain ⟨he, hP⟩ := h
    by_cases h0 : sp.1 = 0
    · rw [if_pos h0] at he; cases he
    · rw [if_neg h0] at he
      injection he with he
      subst he
      have e1 : sp.1 = 1 := by omega
      rw [if_neg (by decide), e1]
      refine ⟨15, ⟨[], ⟨0, 10, 13, 18⟩, [], 4, rfl, (fun z hz => by cases hz), by decide, by decide, cl_18, Or.inr ⟨dL_town_13, rfl⟩, (Nat.le_of_ble_eq_true rfl)⟩, ?_⟩
      refine p_iconst (1) 16 rfl dL_town_15 rfl ?_
      exact p_iret dL_town_16 rfl ⟨by rw [e1]; rfl, σ', hP, Or.inr ⟨h0, rfl⟩⟩
set_option maxRecDepth 4000 in
theorem w_take (x : Int32) (y : Int32) (h1 : sp.1 ≤ 1) (hb : sp.2 = 0 ∨ sp.2 = 1) (hM : CallOk Γ 14 8 48 mX8_take [.ref T0, .int x, .int y] σ (rS sp false P)) : CallOk Γ 15 8 48 mL_take [.ref T0, .int x, .int y, .ref oL0] σ (rW sp P) := by
  refine p_enterH rfl (by decide) (Nat.le_of_ble_eq_true rfl) rfl ?_
  refine p_aload_n 3 1 rfl rfl dL_take_0 rfl ?_
  refine p_iconst (0) 2 rfl dL_take_1 rfl ?_
  refine p_aload_n 0 3 rfl rfl dL_take_2 rfl ?_
  refine p_iload_n 1 4 rfl rfl dL_take_3 rfl ?_
  refine p_iload_n 2 5 rfl rfl dL_take_4 rfl ?_
  refine p_callVH (as := [.int x, .int y]) (st := [.int 0, .ref oL0]) (mc2 := 0) (ms2 := 0) 8 rfl dL_take_5 hM ml_L_33 vl_X8_take rfl (by decide) rfl rfl rfl (Nat.le_of_ble_eq_true rfl) (Nat.le_of_ble_eq_true rfl) (Nat.le_of_ble_eq_true rfl) (Nat.le_of_ble_eq_true rfl) (fun v σ' h => ?_) (fun xx σ' h => ?_)
  · obtain ⟨he, hP⟩ := h
    by_cases h0 : sp.1 = 0
    · rw [if_pos h0] at he
      injection he with he
      subst he
      refine p_if_eq 15 11 rfl rfl dL_take_8 (fun h8 => ?_) (fun h8 => ?_)
      · refine p_lconst 0 16 rfl dL_take_15 rfl ?_
        refine p_last 17 rfl dL_take_16 rfl in_o ?_
        refine p_goto 24 rfl dL_take_17 ?_
        refine p_iconst (0) 25 rfl dL_take_24 rfl ?_
        exact p_iret dL_take_25 rfl ⟨by rw [h0]; rfl, σ', hP, Or.inl ⟨h0, by rw [h8]; rfl⟩⟩
      · refine p_lconst 1 12 rfl dL_take_11 rfl ?_
        refine p_goto 16 rfl dL_take_12 ?_
        refine p_last 17 rfl dL_take_16 rfl in_o ?_
        refine p_goto 24 rfl dL_take_17 ?_
        refine p_iconst (0) 25 rfl dL_take_24 rfl ?_
        exact p_iret dL_take_25 rfl ⟨by rw [h0]; rfl, σ', hP, Or.inl ⟨h0, by rw [hb.resolve_left h8]; rfl⟩⟩
    · rw [if_neg h0] at he; cases he
  · obtain ⟨he, hP⟩ := h
    by_cases h0 : sp.1 = 0
    · rw [if_pos h0] at he; cases he
    · rw [if_neg h0] at he
      injection he with he
      subst he
      have e1 : sp.1 = 1 := by omega
      rw [if_neg (by decide), e1]
      refine ⟨22, ⟨[], ⟨0, 17, 20, 18⟩, [], 4, rfl, (fun z hz => by cases hz), by decide, by decide, cl_18, Or.inr ⟨dL_take_20, rfl⟩, (Nat.le_of_ble_eq_true rfl)⟩, ?_⟩
      refine p_iconst (1) 23 rfl dL_take_22 rfl ?_
      exact p_iret dL_take_23 rfl ⟨by rw [e1]; rfl, σ', hP, Or.inr ⟨h0, rfl⟩⟩
set_option maxRecDepth 4000 in
theorem w_leave (x : Int32) (y : Int32) (h1 : sp.1 ≤ 1) (hM : CallOk Γ 14 8 48 mX8_leave [.ref T0, .int x, .int y] σ (rS sp false P)) : CallOk Γ 15 8 48 mL_leave [.ref T0, .int x, .int y, .ref oL0] σ (rW sp P) := by
  refine p_enterH rfl (by decide) (Nat.le_of_ble_eq_true rfl) rfl ?_
  refine p_aload_n 3 1 rfl rfl dL_leave_0 rfl ?_
  refine p_iconst (0) 2 rfl dL_leave_1 rfl ?_
  refine p_aload_n 0 3 rfl rfl dL_leave_2 rfl ?_
  refine p_iload_n 1 4 rfl rfl dL_leave_3 rfl ?_
  refine p_iload_n 2 5 rfl rfl dL_leave_4 rfl ?_
  refine p_callVH (as := [.int x, .int y]) (st := [.int 0, .ref oL0]) (mc2 := 0) (ms2 := 0) 8 rfl dL_leave_5 hM ml_L_37 vl_X8_leave rfl (by decide) rfl rfl rfl (Nat.le_of_ble_eq_true rfl) (Nat.le_of_ble_eq_true rfl) (Nat.le_of_ble_eq_true rfl) (Nat.le_of_ble_eq_true rfl) (fun v σ' h => ?_) (fun xx σ' h => ?_)
  · obtain ⟨he, hP⟩ := h
    by_cases h0 : sp.1 = 0
    · rw [if_pos h0] at he
      injection he with he
      subst he
      refine p_i2l 9 rfl dL_leave_8 ?_
      refine p_last 10 rfl dL_leave_9 rfl in_o ?_
      refine p_goto 17 rfl dL_leave_10 ?_
      refine p_iconst (0) 18 rfl dL_leave_17 rfl ?_
      exact p_iret dL_leave_18 rfl ⟨by rw [h0]; rfl, σ', hP, Or.inl ⟨h0, rfl⟩⟩
    · rw [if_neg h0] at he; cases he
  · obtain ⟨he, hP⟩ := h
    by_cases h0 : sp.1 = 0
    · rw [if_pos h0] at he; cases he
    · rw [if_neg h0] at he
      injection he with he
      subst he
      have e1 : sp.1 = 1 := by omega
      rw [if_neg (by decide), e1]
      refine ⟨15, ⟨[], ⟨0, 10, 13, 18⟩, [], 4, rfl, (fun z hz => by cases hz), by decide, by decide, cl_18, Or.inr ⟨dL_leave_13, rfl⟩, (Nat.le_of_ble_eq_true rfl)⟩, ?_⟩
      refine p_iconst (1) 16 rfl dL_leave_15 rfl ?_
      exact p_iret dL_leave_16 rfl ⟨by rw [e1]; rfl, σ', hP, Or.inr ⟨h0, rfl⟩⟩
set_option maxRecDepth 4000 in
theorem w_forge (x : Int32) (y : Int32) (z : Int32) (h1 : sp.1 ≤ 1) (hM : CallOk Γ 14 8 48 mX8_forge [.ref T0, .int x, .int y, .int z] σ (rS sp false P)) : CallOk Γ 15 8 48 mL_forge [.ref T0, .int x, .int y, .int z, .ref oL0] σ (rW sp P) := by
  refine p_enterH rfl (by decide) (Nat.le_of_ble_eq_true rfl) rfl ?_
  refine p_aload 4 2 rfl dL_forge_0 rfl ?_
  refine p_iconst (0) 3 rfl dL_forge_2 rfl ?_
  refine p_aload_n 0 4 rfl rfl dL_forge_3 rfl ?_
  refine p_iload_n 1 5 rfl rfl dL_forge_4 rfl ?_
  refine p_iload_n 2 6 rfl rfl dL_forge_5 rfl ?_
  refine p_iload_n 3 7 rfl rfl dL_forge_6 rfl ?_
  refine p_callVH (as := [.int x, .int y, .int z]) (st := [.int 0, .ref oL0]) (mc2 := 0) (ms2 := 0) 10 rfl dL_forge_7 hM ml_L_40 vl_X8_forge rfl (by decide) rfl rfl rfl (Nat.le_of_ble_eq_true rfl) (Nat.le_of_ble_eq_true rfl) (Nat.le_of_ble_eq_true rfl) (Nat.le_of_ble_eq_true rfl) (fun v σ' h => ?_) (fun xx σ' h => ?_)
  · obtain ⟨he, hP⟩ := h
    by_cases h0 : sp.1 = 0
    · rw [if_pos h0] at he
      injection he with he
      subst he
      refine p_i2l 11 rfl dL_forge_10 ?_
      refine p_last 12 rfl dL_forge_11 rfl in_o ?_
      refine p_goto 19 rfl dL_forge_12 ?_
      refine p_iconst (0) 20 rfl dL_forge_19 rfl ?_
      exact p_iret dL_forge_20 rfl ⟨by rw [h0]; rfl, σ', hP, Or.inl ⟨h0, rfl⟩⟩
    · rw [if_neg h0] at he; cases he
  · obtain ⟨he, hP⟩ := h
    by_cases h0 : sp.1 = 0
    · rw [if_pos h0] at he; cases he
    · rw [if_neg h0] at he
      injection he with he
      subst he
      have e1 : sp.1 = 1 := by omega
      rw [if_neg (by decide), e1]
      refine ⟨17, ⟨[], ⟨0, 12, 15, 18⟩, [], 5, rfl, (fun z hz => by cases hz), by decide, by decide, cl_18, Or.inr ⟨dL_forge_15, rfl⟩, (Nat.le_of_ble_eq_true rfl)⟩, ?_⟩
      refine p_iconst (1) 18 rfl dL_forge_17 rfl ?_
      exact p_iret dL_forge_18 rfl ⟨by rw [e1]; rfl, σ', hP, Or.inr ⟨h0, rfl⟩⟩
set_option maxRecDepth 4000 in
theorem w_fire (x : Int32) (h1 : sp.1 ≤ 1) (hM : CallOk Γ 14 8 48 mX8_fire [.ref T0, .int x] σ (rS sp false P)) : CallOk Γ 15 8 48 mL_fire [.ref T0, .int x, .ref oL0] σ (rW sp P) := by
  refine p_enterH rfl (by decide) (Nat.le_of_ble_eq_true rfl) rfl ?_
  refine p_aload_n 2 1 rfl rfl dL_fire_0 rfl ?_
  refine p_iconst (0) 2 rfl dL_fire_1 rfl ?_
  refine p_aload_n 0 3 rfl rfl dL_fire_2 rfl ?_
  refine p_iload_n 1 4 rfl rfl dL_fire_3 rfl ?_
  refine p_callVH (as := [.int x]) (st := [.int 0, .ref oL0]) (mc2 := 0) (ms2 := 0) 7 rfl dL_fire_4 hM ml_L_44 vl_X8_fire rfl (by decide) rfl rfl rfl (Nat.le_of_ble_eq_true rfl) (Nat.le_of_ble_eq_true rfl) (Nat.le_of_ble_eq_true rfl) (Nat.le_of_ble_eq_true rfl) (fun v σ' h => ?_) (fun xx σ' h => ?_)
  · obtain ⟨he, hP⟩ := h
    by_cases h0 : sp.1 = 0
    · rw [if_pos h0] at he
      injection he with he
      subst he
      refine p_i2l 8 rfl dL_fire_7 ?_
      refine p_last 9 rfl dL_fire_8 rfl in_o ?_
      refine p_goto 15 rfl dL_fire_9 ?_
      refine p_iconst (0) 16 rfl dL_fire_15 rfl ?_
      exact p_iret dL_fire_16 rfl ⟨by rw [h0]; rfl, σ', hP, Or.inl ⟨h0, rfl⟩⟩
    · rw [if_neg h0] at he; cases he
  · obtain ⟨he, hP⟩ := h
    by_cases h0 : sp.1 = 0
    · rw [if_pos h0] at he; cases he
    · rw [if_neg h0] at he
      injection he with he
      subst he
      have e1 : sp.1 = 1 := by omega
      rw [if_neg (by decide), e1]
      refine ⟨13, ⟨[], ⟨0, 9, 12, 18⟩, [], 3, rfl, (fun z hz => by cases hz), by decide, by decide, cl_18, Or.inl ⟨3, dL_fire_12, rfl, rfl⟩, (Nat.le_of_ble_eq_true rfl)⟩, ?_⟩
      refine p_iconst (1) 14 rfl dL_fire_13 rfl ?_
      exact p_iret dL_fire_14 rfl ⟨by rw [e1]; rfl, σ', hP, Or.inr ⟨h0, rfl⟩⟩
set_option maxRecDepth 4000 in
theorem w_then (x : Int32) (y : Int32) (z : Int32) (h1 : sp.1 ≤ 2) (hM : CallOk Γ 14 8 48 mX8_then [.ref T0, .int x, .int y, .int z] σ (rS sp false P)) : CallOk Γ 15 8 48 mL_then [.ref T0, .int x, .int y, .int z, .ref oL0] σ (rW sp P) := by
  refine p_enterH rfl (by decide) (Nat.le_of_ble_eq_true rfl) rfl ?_
  refine p_aload 4 2 rfl dL_then_0 rfl ?_
  refine p_iconst (0) 3 rfl dL_then_2 rfl ?_
  refine p_aload_n 0 4 rfl rfl dL_then_3 rfl ?_
  refine p_iload_n 1 5 rfl rfl dL_then_4 rfl ?_
  refine p_iload_n 2 6 rfl rfl dL_then_5 rfl ?_
  refine p_iload_n 3 7 rfl rfl dL_then_6 rfl ?_
  refine p_callVH (as := [.int x, .int y, .int z]) (st := [.int 0, .ref oL0]) (mc2 := 0) (ms2 := 0) 10 rfl dL_then_7 hM ml_L_47 vl_X8_then rfl (by decide) rfl rfl rfl (Nat.le_of_ble_eq_true rfl) (Nat.le_of_ble_eq_true rfl) (Nat.le_of_ble_eq_true rfl) (Nat.le_of_ble_eq_true rfl) (fun v σ' h => ?_) (fun xx σ' h => ?_)
  · obtain ⟨he, hP⟩ := h
    by_cases h0 : sp.1 = 0
    · rw [if_pos h0] at he
      injection he with he
      subst he
      refine p_i2l 11 rfl dL_then_10 ?_
      refine p_last 12 rfl dL_then_11 rfl in_o ?_
      refine p_goto 23 rfl dL_then_12 ?_
      refine p_iconst (0) 24 rfl dL_then_23 rfl ?_
      exact p_iret dL_then_24 rfl ⟨by rw [h0]; rfl, σ', hP, Or.inl ⟨h0, rfl⟩⟩
    · rw [if_neg h0] at he; cases he
  · obtain ⟨he, hP⟩ := h
    by_cases h0 : sp.1 = 0
    · rw [if_pos h0] at he; cases he
    · rw [if_neg h0] at he
      injection he with he
      subst he
      rcases (show sp.1 = 1 ∨ sp.1 = 2 by omega) with e1 | e1
      · rw [if_neg (by decide), e1]
        refine ⟨17, ⟨[], ⟨0, 12, 15, 18⟩, [⟨0, 12, 19, 13⟩], 5, rfl, (fun z hz => by cases hz), by decide, by decide, cl_18, Or.inr ⟨dL_then_15, rfl⟩, (Nat.le_of_ble_eq_true rfl)⟩, ?_⟩
        refine p_iconst (1) 18 rfl dL_then_17 rfl ?_
        exact p_iret dL_then_18 rfl ⟨by rw [e1]; rfl, σ', hP, Or.inr ⟨h0, rfl⟩⟩
      · rw [if_neg (by decide), e1]
        refine ⟨21, ⟨[⟨0, 12, 15, 18⟩], ⟨0, 12, 19, 13⟩, [], 5, rfl, (fun z hz => by rw [List.mem_singleton.mp hz]; exact ⟨by decide, by decide, rfl, cl_18⟩), by decide, by decide, cl_13, Or.inr ⟨dL_then_19, rfl⟩, (Nat.le_of_ble_eq_true rfl)⟩, ?_⟩
        refine p_iconst (2) 22 rfl dL_then_21 rfl ?_
        exact p_iret dL_then_22 rfl ⟨by rw [e1]; rfl, σ', hP, Or.inr ⟨h0, rfl⟩⟩
set_option maxRecDepth 4000 in
theorem w_where (x : Int32) (y : Int32) (h1 : sp.1 ≤ 2) (hM : CallOk Γ 14 8 48 mX8_where [.ref T0, .int x, .int y] σ (rS sp false P)) : CallOk Γ 15 8 48 mL_where [.ref T0, .int x, .int y, .ref oL0] σ (rW sp P) := by
  refine p_enterH rfl (by decide) (Nat.le_of_ble_eq_true rfl) rfl ?_
  refine p_aload_n 3 1 rfl rfl dL_where_0 rfl ?_
  refine p_iconst (0) 2 rfl dL_where_1 rfl ?_
  refine p_aload_n 0 3 rfl rfl dL_where_2 rfl ?_
  refine p_iload_n 1 4 rfl rfl dL_where_3 rfl ?_
  refine p_iload_n 2 5 rfl rfl dL_where_4 rfl ?_
  refine p_callVH (as := [.int x, .int y]) (st := [.int 0, .ref oL0]) (mc2 := 0) (ms2 := 0) 8 rfl dL_where_5 hM ml_L_50 vl_X8_where rfl (by decide) rfl rfl rfl (Nat.le_of_ble_eq_true rfl) (Nat.le_of_ble_eq_true rfl) (Nat.le_of_ble_eq_true rfl) (Nat.le_of_ble_eq_true rfl) (fun v σ' h => ?_) (fun xx σ' h => ?_)
  · obtain ⟨he, hP⟩ := h
    by_cases h0 : sp.1 = 0
    · rw [if_pos h0] at he
      injection he with he
      subst he
      refine p_i2l 9 rfl dL_where_8 ?_
      refine p_last 10 rfl dL_where_9 rfl in_o ?_
      refine p_goto 21 rfl dL_where_10 ?_
      refine p_iconst (0) 22 rfl dL_where_21 rfl ?_
      exact p_iret dL_where_22 rfl ⟨by rw [h0]; rfl, σ', hP, Or.inl ⟨h0, rfl⟩⟩
    · rw [if_neg h0] at he; cases he
  · obtain ⟨he, hP⟩ := h
    by_cases h0 : sp.1 = 0
    · rw [if_pos h0] at he; cases he
    · rw [if_neg h0] at he
      injection he with he
      subst he
      rcases (show sp.1 = 1 ∨ sp.1 = 2 by omega) with e1 | e1
      · rw [if_neg (by decide), e1]
        refine ⟨15, ⟨[], ⟨0, 10, 13, 18⟩, [⟨0, 10, 17, 13⟩], 4, rfl, (fun z hz => by cases hz), by decide, by decide, cl_18, Or.inr ⟨dL_where_13, rfl⟩, (Nat.le_of_ble_eq_true rfl)⟩, ?_⟩
        refine p_iconst (1) 16 rfl dL_where_15 rfl ?_
        exact p_iret dL_where_16 rfl ⟨by rw [e1]; rfl, σ', hP, Or.inr ⟨h0, rfl⟩⟩
      · rw [if_neg (by decide), e1]
        refine ⟨19, ⟨[⟨0, 10, 13, 18⟩], ⟨0, 10, 17, 13⟩, [], 4, rfl, (fun z hz => by rw [List.mem_singleton.mp hz]; exact ⟨by decide, by decide, rfl, cl_18⟩), by decide, by decide, cl_13, Or.inr ⟨dL_where_17, rfl⟩, (Nat.le_of_ble_eq_true rfl)⟩, ?_⟩
        refine p_iconst (2) 20 rfl dL_where_19 rfl ?_
        exact p_iret dL_where_20 rfl ⟨by rw [e1]; rfl, σ', hP, Or.inr ⟨h0, rfl⟩⟩
set_option maxRecDepth 4000 in
theorem w_first (x : Int32) (y : Int32) (h1 : sp.1 ≤ 1) (hM : CallOk Γ 14 8 48 mX8_first [.ref T0, .int x, .int y] σ (rS sp false P)) : CallOk Γ 15 8 48 mL_first [.ref T0, .int x, .int y, .ref oL0] σ (rW sp P) := by
  refine p_enterH rfl (by decide) (Nat.le_of_ble_eq_true rfl) rfl ?_
  refine p_aload_n 3 1 rfl rfl dL_first_0 rfl ?_
  refine p_iconst (0) 2 rfl dL_first_1 rfl ?_
  refine p_aload_n 0 3 rfl rfl dL_first_2 rfl ?_
  refine p_iload_n 1 4 rfl rfl dL_first_3 rfl ?_
  refine p_iload_n 2 5 rfl rfl dL_first_4 rfl ?_
  refine p_callVH (as := [.int x, .int y]) (st := [.int 0, .ref oL0]) (mc2 := 0) (ms2 := 0) 8 rfl dL_first_5 hM ml_L_53 vl_X8_first rfl (by decide) rfl rfl rfl (Nat.le_of_ble_eq_true rfl) (Nat.le_of_ble_eq_true rfl) (Nat.le_of_ble_eq_true rfl) (Nat.le_of_ble_eq_true rfl) (fun v σ' h => ?_) (fun xx σ' h => ?_)
  · obtain ⟨he, hP⟩ := h
    by_cases h0 : sp.1 = 0
    · rw [if_pos h0] at he
      injection he with he
      subst he
      refine p_i2l 9 rfl dL_first_8 ?_
      refine p_last 10 rfl dL_first_9 rfl in_o ?_
      refine p_goto 17 rfl dL_first_10 ?_
      refine p_iconst (0) 18 rfl dL_first_17 rfl ?_
      exact p_iret dL_first_18 rfl ⟨by rw [h0]; rfl, σ', hP, Or.inl ⟨h0, rfl⟩⟩
    · rw [if_neg h0] at he; cases he
  · obtain ⟨he, hP⟩ := h
    by_cases h0 : sp.1 = 0
    · rw [if_pos h0] at he; cases he
    · rw [if_neg h0] at he
      injection he with he
      subst he
      have e1 : sp.1 = 1 := by omega
      rw [if_neg (by decide), e1]
      refine ⟨15, ⟨[], ⟨0, 10, 13, 18⟩, [], 4, rfl, (fun z hz => by cases hz), by decide, by decide, cl_18, Or.inr ⟨dL_first_13, rfl⟩, (Nat.le_of_ble_eq_true rfl)⟩, ?_⟩
      refine p_iconst (1) 16 rfl dL_first_15 rfl ?_
      exact p_iret dL_first_16 rfl ⟨by rw [e1]; rfl, σ', hP, Or.inr ⟨h0, rfl⟩⟩
set_option maxRecDepth 4000 in
theorem w_read (x : Int32) (y : Int32) (h1 : sp.1 ≤ 2) (hM : CallOk Γ 14 8 48 mX8_read [.ref T0, .int x, .int y] σ (rS sp false P)) : CallOk Γ 15 8 48 mL_read [.ref T0, .int x, .int y, .ref oL0] σ (rW sp P) := by
  refine p_enterH rfl (by decide) (Nat.le_of_ble_eq_true rfl) rfl ?_
  refine p_aload_n 3 1 rfl rfl dL_read_0 rfl ?_
  refine p_iconst (0) 2 rfl dL_read_1 rfl ?_
  refine p_aload_n 0 3 rfl rfl dL_read_2 rfl ?_
  refine p_iload_n 1 4 rfl rfl dL_read_3 rfl ?_
  refine p_iload_n 2 5 rfl rfl dL_read_4 rfl ?_
  refine p_callVH (as := [.int x, .int y]) (st := [.int 0, .ref oL0]) (mc2 := 0) (ms2 := 0) 8 rfl dL_read_5 hM ml_L_56 vl_X8_read rfl (by decide) rfl rfl rfl (Nat.le_of_ble_eq_true rfl) (Nat.le_of_ble_eq_true rfl) (Nat.le_of_ble_eq_true rfl) (Nat.le_of_ble_eq_true rfl) (fun v σ' h => ?_) (fun xx σ' h => ?_)
  · obtain ⟨he, hP⟩ := h
    by_cases h0 : sp.1 = 0
    · rw [if_pos h0] at he
      injection he with he
      subst he
      refine p_i2l 9 rfl dL_read_8 ?_
      refine p_last 10 rfl dL_read_9 rfl in_o ?_
      refine p_goto 21 rfl dL_read_10 ?_
      refine p_iconst (0) 22 rfl dL_read_21 rfl ?_
      exact p_iret dL_read_22 rfl ⟨by rw [h0]; rfl, σ', hP, Or.inl ⟨h0, rfl⟩⟩
    · rw [if_neg h0] at he; cases he
  · obtain ⟨he, hP⟩ := h
    by_cases h0 : sp.1 = 0
    · rw [if_pos h0] at he; cases he
    · rw [if_neg h0] at he
      injection he with he
      subst he
      rcases (show sp.1 = 1 ∨ sp.1 = 2 by omega) with e1 | e1
      · rw [if_neg (by decide), e1]
        refine ⟨15, ⟨[], ⟨0, 10, 13, 18⟩, [⟨0, 10, 17, 13⟩], 4, rfl, (fun z hz => by cases hz), by decide, by decide, cl_18, Or.inr ⟨dL_read_13, rfl⟩, (Nat.le_of_ble_eq_true rfl)⟩, ?_⟩
        refine p_iconst (1) 16 rfl dL_read_15 rfl ?_
        exact p_iret dL_read_16 rfl ⟨by rw [e1]; rfl, σ', hP, Or.inr ⟨h0, rfl⟩⟩
      · rw [if_neg (by decide), e1]
        refine ⟨19, ⟨[⟨0, 10, 13, 18⟩], ⟨0, 10, 17, 13⟩, [], 4, rfl, (fun z hz => by rw [List.mem_singleton.mp hz]; exact ⟨by decide, by decide, rfl, cl_18⟩), by decide, by decide, cl_13, Or.inr ⟨dL_read_17, rfl⟩, (Nat.le_of_ble_eq_true rfl)⟩, ?_⟩
        refine p_iconst (2) 20 rfl dL_read_19 rfl ?_
        exact p_iret dL_read_20 rfl ⟨by rw [e1]; rfl, σ', hP, Or.inr ⟨h0, rfl⟩⟩
set_option maxRecDepth 4000 in
theorem w_mould (x : Int32) (h1 : sp.1 ≤ 1) (hM : CallOk Γ 14 8 48 mX8_mould [.ref T0, .int x] σ (rS sp false P)) : CallOk Γ 15 8 48 mL_mould [.ref T0, .int x, .ref oL0] σ (rW sp P) := by
  refine p_enterH rfl (by decide) (Nat.le_of_ble_eq_true rfl) rfl ?_
  refine p_aload_n 2 1 rfl rfl dL_mould_0 rfl ?_
  refine p_iconst (0) 2 rfl dL_mould_1 rfl ?_
  refine p_aload_n 0 3 rfl rfl dL_mould_2 rfl ?_
  refine p_iload_n 1 4 rfl rfl dL_mould_3 rfl ?_
  refine p_callVH (as := [.int x]) (st := [.int 0, .ref oL0]) (mc2 := 0) (ms2 := 0) 7 rfl dL_mould_4 hM ml_L_59 vl_X8_mould rfl (by decide) rfl rfl rfl (Nat.le_of_ble_eq_true rfl) (Nat.le_of_ble_eq_true rfl) (Nat.le_of_ble_eq_true rfl) (Nat.le_of_ble_eq_true rfl) (fun v σ' h => ?_) (fun xx σ' h => ?_)
  · obtain ⟨he, hP⟩ := h
    by_cases h0 : sp.1 = 0
    · rw [if_pos h0] at he
      injection he with he
      subst he
      refine p_i2l 8 rfl dL_mould_7 ?_
      refine p_last 9 rfl dL_mould_8 rfl in_o ?_
      refine p_goto 15 rfl dL_mould_9 ?_
      refine p_iconst (0) 16 rfl dL_mould_15 rfl ?_
      exact p_iret dL_mould_16 rfl ⟨by rw [h0]; rfl, σ', hP, Or.inl ⟨h0, rfl⟩⟩
    · rw [if_neg h0] at he; cases he
  · obtain ⟨he, hP⟩ := h
    by_cases h0 : sp.1 = 0
    · rw [if_pos h0] at he; cases he
    · rw [if_neg h0] at he
      injection he with he
      subst he
      have e1 : sp.1 = 1 := by omega
      rw [if_neg (by decide), e1]
      refine ⟨13, ⟨[], ⟨0, 9, 12, 18⟩, [], 3, rfl, (fun z hz => by cases hz), by decide, by decide, cl_18, Or.inl ⟨3, dL_mould_12, rfl, rfl⟩, (Nat.le_of_ble_eq_true rfl)⟩, ?_⟩
      refine p_iconst (1) 14 rfl dL_mould_13 rfl ?_
      exact p_iret dL_mould_14 rfl ⟨by rw [e1]; rfl, σ', hP, Or.inr ⟨h0, rfl⟩⟩
set_option maxRecDepth 4000 in
theorem w_meet (x : Int32) (y : Int32) (h1 : sp.1 ≤ 1) (hM : CallOk Γ 14 8 48 mX8_meet [.ref T0, .int x, .int y] σ (rS sp false P)) : CallOk Γ 15 8 48 mL_meet [.ref T0, .int x, .int y, .ref oL0] σ (rW sp P) := by
  refine p_enterH rfl (by decide) (Nat.le_of_ble_eq_true rfl) rfl ?_
  refine p_aload_n 3 1 rfl rfl dL_meet_0 rfl ?_
  refine p_iconst (0) 2 rfl dL_meet_1 rfl ?_
  refine p_aload_n 0 3 rfl rfl dL_meet_2 rfl ?_
  refine p_iload_n 1 4 rfl rfl dL_meet_3 rfl ?_
  refine p_iload_n 2 5 rfl rfl dL_meet_4 rfl ?_
  refine p_callVH (as := [.int x, .int y]) (st := [.int 0, .ref oL0]) (mc2 := 0) (ms2 := 0) 8 rfl dL_meet_5 hM ml_L_62 vl_X8_meet rfl (by decide) rfl rfl rfl (Nat.le_of_ble_eq_true rfl) (Nat.le_of_ble_eq_true rfl) (Nat.le_of_ble_eq_true rfl) (Nat.le_of_ble_eq_true rfl) (fun v σ' h => ?_) (fun xx σ' h => ?_)
  · obtain ⟨he, hP⟩ := h
    by_cases h0 : sp.1 = 0
    · rw [if_pos h0] at he
      injection he with he
      subst he
      refine p_i2l 9 rfl dL_meet_8 ?_
      refine p_last 10 rfl dL_meet_9 rfl in_o ?_
      refine p_goto 17 rfl dL_meet_10 ?_
      refine p_iconst (0) 18 rfl dL_meet_17 rfl ?_
      exact p_iret dL_meet_18 rfl ⟨by rw [h0]; rfl, σ', hP, Or.inl ⟨h0, rfl⟩⟩
    · rw [if_neg h0] at he; cases he
  · obtain ⟨he, hP⟩ := h
    by_cases h0 : sp.1 = 0
    · rw [if_pos h0] at he; cases he
    · rw [if_neg h0] at he
      injection he with he
      subst he
      have e1 : sp.1 = 1 := by omega
      rw [if_neg (by decide), e1]
      refine ⟨15, ⟨[], ⟨0, 10, 13, 18⟩, [], 4, rfl, (fun z hz => by cases hz), by decide, by decide, cl_18, Or.inr ⟨dL_meet_13, rfl⟩, (Nat.le_of_ble_eq_true rfl)⟩, ?_⟩
      refine p_iconst (1) 16 rfl dL_meet_15 rfl ?_
      exact p_iret dL_meet_16 rfl ⟨by rw [e1]; rfl, σ', hP, Or.inr ⟨h0, rfl⟩⟩
set_option maxRecDepth 4000 in
theorem w_gathering (x : Int32) (h1 : sp.1 ≤ 1) (hM : CallOk Γ 14 8 48 mX8_gathering [.ref T0, .int x] σ (rS sp true P)) : CallOk Γ 15 8 48 mL_gathering [.ref T0, .int x, .ref oL0] σ (rW sp P) := by
  refine p_enterH rfl (by decide) (Nat.le_of_ble_eq_true rfl) rfl ?_
  refine p_aload_n 2 1 rfl rfl dL_gathering_0 rfl ?_
  refine p_iconst (0) 2 rfl dL_gathering_1 rfl ?_
  refine p_aload_n 0 3 rfl rfl dL_gathering_2 rfl ?_
  refine p_iload_n 1 4 rfl rfl dL_gathering_3 rfl ?_
  refine p_callVH (as := [.int x]) (st := [.int 0, .ref oL0]) (mc2 := 0) (ms2 := 0) 7 rfl dL_gathering_4 hM ml_L_65 vl_X8_gathering rfl (by decide) rfl rfl rfl (Nat.le_of_ble_eq_true rfl) (Nat.le_of_ble_eq_true rfl) (Nat.le_of_ble_eq_true rfl) (Nat.le_of_ble_eq_true rfl) (fun v σ' h => ?_) (fun xx σ' h => ?_)
  · obtain ⟨he, hP⟩ := h
    by_cases h0 : sp.1 = 0
    · rw [if_pos h0] at he
      injection he with he
      subst he
      refine p_i2l 8 rfl dL_gathering_7 ?_
      refine p_last 9 rfl dL_gathering_8 rfl in_o ?_
      refine p_goto 15 rfl dL_gathering_9 ?_
      refine p_iconst (0) 16 rfl dL_gathering_15 rfl ?_
      exact p_iret dL_gathering_16 rfl ⟨by rw [h0]; rfl, σ', hP, Or.inl ⟨h0, rfl⟩⟩
    · rw [if_neg h0] at he; cases he
  · obtain ⟨he, hP⟩ := h
    by_cases h0 : sp.1 = 0
    · rw [if_pos h0] at he; cases he
    · rw [if_neg h0] at he
      injection he with he
      subst he
      have e1 : sp.1 = 1 := by omega
      rw [if_pos rfl]
      refine ⟨13, ⟨[], ⟨0, 9, 12, 13⟩, [], 3, rfl, (fun z hz => by cases hz), by decide, by decide, cl_13, Or.inl ⟨3, dL_gathering_12, rfl, rfl⟩, (Nat.le_of_ble_eq_true rfl)⟩, ?_⟩
      refine p_iconst (1) 14 rfl dL_gathering_13 rfl ?_
      exact p_iret dL_gathering_14 rfl ⟨by rw [e1]; rfl, σ', hP, Or.inr ⟨h0, rfl⟩⟩
set_option maxRecDepth 4000 in
theorem w_row (x : Int32) (h1 : sp.1 ≤ 1) (hM : CallOk Γ 14 8 48 mX8_row [.ref T0, .int x] σ (rS sp false P)) : CallOk Γ 15 8 48 mL_row [.ref T0, .int x, .ref oL0] σ (rW sp P) := by
  refine p_enterH rfl (by decide) (Nat.le_of_ble_eq_true rfl) rfl ?_
  refine p_aload_n 2 1 rfl rfl dL_row_0 rfl ?_
  refine p_iconst (0) 2 rfl dL_row_1 rfl ?_
  refine p_aload_n 0 3 rfl rfl dL_row_2 rfl ?_
  refine p_iload_n 1 4 rfl rfl dL_row_3 rfl ?_
  refine p_callVH (as := [.int x]) (st := [.int 0, .ref oL0]) (mc2 := 0) (ms2 := 0) 7 rfl dL_row_4 hM ml_L_68 vl_X8_row rfl (by decide) rfl rfl rfl (Nat.le_of_ble_eq_true rfl) (Nat.le_of_ble_eq_true rfl) (Nat.le_of_ble_eq_true rfl) (Nat.le_of_ble_eq_true rfl) (fun v σ' h => ?_) (fun xx σ' h => ?_)
  · obtain ⟨he, hP⟩ := h
    by_cases h0 : sp.1 = 0
    · rw [if_pos h0] at he
      injection he with he
      subst he
      refine p_i2l 8 rfl dL_row_7 ?_
      refine p_last 9 rfl dL_row_8 rfl in_o ?_
      refine p_goto 15 rfl dL_row_9 ?_
      refine p_iconst (0) 16 rfl dL_row_15 rfl ?_
      exact p_iret dL_row_16 rfl ⟨by rw [h0]; rfl, σ', hP, Or.inl ⟨h0, rfl⟩⟩
    · rw [if_neg h0] at he; cases he
  · obtain ⟨he, hP⟩ := h
    by_cases h0 : sp.1 = 0
    · rw [if_pos h0] at he; cases he
    · rw [if_neg h0] at he
      injection he with he
      subst he
      have e1 : sp.1 = 1 := by omega
      rw [if_neg (by decide), e1]
      refine ⟨13, ⟨[], ⟨0, 9, 12, 18⟩, [], 3, rfl, (fun z hz => by cases hz), by decide, by decide, cl_18, Or.inl ⟨3, dL_row_12, rfl, rfl⟩, (Nat.le_of_ble_eq_true rfl)⟩, ?_⟩
      refine p_iconst (1) 14 rfl dL_row_13 rfl ?_
      exact p_iret dL_row_14 rfl ⟨by rw [e1]; rfl, σ', hP, Or.inr ⟨h0, rfl⟩⟩
set_option maxRecDepth 4000 in
theorem w_toForge (x : Int32) (y : Int32) (h1 : sp.1 ≤ 1) (hM : CallOk Γ 14 8 48 mX8_toForge [.ref T0, .int x, .int y] σ (rS sp false P)) : CallOk Γ 15 8 48 mL_toForge [.ref T0, .int x, .int y, .ref oL0] σ (rW sp P) := by
  refine p_enterH rfl (by decide) (Nat.le_of_ble_eq_true rfl) rfl ?_
  refine p_aload_n 3 1 rfl rfl dL_toForge_0 rfl ?_
  refine p_iconst (0) 2 rfl dL_toForge_1 rfl ?_
  refine p_aload_n 0 3 rfl rfl dL_toForge_2 rfl ?_
  refine p_iload_n 1 4 rfl rfl dL_toForge_3 rfl ?_
  refine p_iload_n 2 5 rfl rfl dL_toForge_4 rfl ?_
  refine p_callVH (as := [.int x, .int y]) (st := [.int 0, .ref oL0]) (mc2 := 0) (ms2 := 0) 8 rfl dL_toForge_5 hM ml_L_71 vl_X8_toForge rfl (by decide) rfl rfl rfl (Nat.le_of_ble_eq_true rfl) (Nat.le_of_ble_eq_true rfl) (Nat.le_of_ble_eq_true rfl) (Nat.le_of_ble_eq_true rfl) (fun v σ' h => ?_) (fun xx σ' h => ?_)
  · obtain ⟨he, hP⟩ := h
    by_cases h0 : sp.1 = 0
    · rw [if_pos h0] at he
      injection he with he
      subst he
      refine p_i2l 9 rfl dL_toForge_8 ?_
      refine p_last 10 rfl dL_toForge_9 rfl in_o ?_
      refine p_goto 17 rfl dL_toForge_10 ?_
      refine p_iconst (0) 18 rfl dL_toForge_17 rfl ?_
      exact p_iret dL_toForge_18 rfl ⟨by rw [h0]; rfl, σ', hP, Or.inl ⟨h0, rfl⟩⟩
    · rw [if_neg h0] at he; cases he
  · obtain ⟨he, hP⟩ := h
    by_cases h0 : sp.1 = 0
    · rw [if_pos h0] at he; cases he
    · rw [if_neg h0] at he
      injection he with he
      subst he
      have e1 : sp.1 = 1 := by omega
      rw [if_neg (by decide), e1]
      refine ⟨15, ⟨[], ⟨0, 10, 13, 18⟩, [], 4, rfl, (fun z hz => by cases hz), by decide, by decide, cl_18, Or.inr ⟨dL_toForge_13, rfl⟩, (Nat.le_of_ble_eq_true rfl)⟩, ?_⟩
      refine p_iconst (1) 16 rfl dL_toForge_15 rfl ?_
      exact p_iret dL_toForge_16 rfl ⟨by rw [e1]; rfl, σ', hP, Or.inr ⟨h0, rfl⟩⟩
set_option maxRecDepth 4000 in
theorem w_toSave (x : Int32) (h1 : sp.1 ≤ 1) (hM : CallOk Γ 14 8 48 mX8_toSave [.ref T0, .int x] σ (rS sp false P)) : CallOk Γ 15 8 48 mL_toSave [.ref T0, .int x, .ref oL0] σ (rW sp P) := by
  refine p_enterH rfl (by decide) (Nat.le_of_ble_eq_true rfl) rfl ?_
  refine p_aload_n 2 1 rfl rfl dL_toSave_0 rfl ?_
  refine p_iconst (0) 2 rfl dL_toSave_1 rfl ?_
  refine p_aload_n 0 3 rfl rfl dL_toSave_2 rfl ?_
  refine p_iload_n 1 4 rfl rfl dL_toSave_3 rfl ?_
  refine p_callVH (as := [.int x]) (st := [.int 0, .ref oL0]) (mc2 := 0) (ms2 := 0) 7 rfl dL_toSave_4 hM ml_L_74 vl_X8_toSave rfl (by decide) rfl rfl rfl (Nat.le_of_ble_eq_true rfl) (Nat.le_of_ble_eq_true rfl) (Nat.le_of_ble_eq_true rfl) (Nat.le_of_ble_eq_true rfl) (fun v σ' h => ?_) (fun xx σ' h => ?_)
  · obtain ⟨he, hP⟩ := h
    by_cases h0 : sp.1 = 0
    · rw [if_pos h0] at he
      injection he with he
      subst he
      refine p_i2l 8 rfl dL_toSave_7 ?_
      refine p_last 9 rfl dL_toSave_8 rfl in_o ?_
      refine p_goto 15 rfl dL_toSave_9 ?_
      refine p_iconst (0) 16 rfl dL_toSave_15 rfl ?_
      exact p_iret dL_toSave_16 rfl ⟨by rw [h0]; rfl, σ', hP, Or.inl ⟨h0, rfl⟩⟩
    · rw [if_neg h0] at he; cases he
  · obtain ⟨he, hP⟩ := h
    by_cases h0 : sp.1 = 0
    · rw [if_pos h0] at he; cases he
    · rw [if_neg h0] at he
      injection he with he
      subst he
      have e1 : sp.1 = 1 := by omega
      rw [if_neg (by decide), e1]
      refine ⟨13, ⟨[], ⟨0, 9, 12, 18⟩, [], 3, rfl, (fun z hz => by cases hz), by decide, by decide, cl_18, Or.inl ⟨3, dL_toSave_12, rfl, rfl⟩, (Nat.le_of_ble_eq_true rfl)⟩, ?_⟩
      refine p_iconst (1) 14 rfl dL_toSave_13 rfl ?_
      exact p_iret dL_toSave_14 rfl ⟨by rw [e1]; rfl, σ', hP, Or.inr ⟨h0, rfl⟩⟩
set_option maxRecDepth 4000 in
theorem w_chain (x : Int32) (y : Int32) (h1 : sp.1 ≤ 1) (hM : CallOk Γ 14 8 48 mX8_chain [.ref T0, .int x, .int y] σ (rS sp false P)) : CallOk Γ 15 8 48 mL_chain [.ref T0, .int x, .int y, .ref oL0] σ (rW sp P) := by
  refine p_enterH rfl (by decide) (Nat.le_of_ble_eq_true rfl) rfl ?_
  refine p_aload_n 3 1 rfl rfl dL_chain_0 rfl ?_
  refine p_iconst (0) 2 rfl dL_chain_1 rfl ?_
  refine p_aload_n 0 3 rfl rfl dL_chain_2 rfl ?_
  refine p_iload_n 1 4 rfl rfl dL_chain_3 rfl ?_
  refine p_iload_n 2 5 rfl rfl dL_chain_4 rfl ?_
  refine p_callVH (as := [.int x, .int y]) (st := [.int 0, .ref oL0]) (mc2 := 0) (ms2 := 0) 8 rfl dL_chain_5 hM ml_L_77 vl_X8_chain rfl (by decide) rfl rfl rfl (Nat.le_of_ble_eq_true rfl) (Nat.le_of_ble_eq_true rfl) (Nat.le_of_ble_eq_true rfl) (Nat.le_of_ble_eq_true rfl) (fun v σ' h => ?_) (fun xx σ' h => ?_)
  · obtain ⟨he, hP⟩ := h
    by_cases h0 : sp.1 = 0
    · rw [if_pos h0] at he
      injection he with he
      subst he
      refine p_i2l 9 rfl dL_chain_8 ?_
      refine p_last 10 rfl dL_chain_9 rfl in_o ?_
      refine p_goto 17 rfl dL_chain_10 ?_
      refine p_iconst (0) 18 rfl dL_chain_17 rfl ?_
      exact p_iret dL_chain_18 rfl ⟨by rw [h0]; rfl, σ', hP, Or.inl ⟨h0, rfl⟩⟩
    · rw [if_neg h0] at he; cases he
  · obtain ⟨he, hP⟩ := h
    by_cases h0 : sp.1 = 0
    · rw [if_pos h0] at he; cases he
    · rw [if_neg h0] at he
      injection he with he
      subst he
      have e1 : sp.1 = 1 := by omega
      rw [if_neg (by decide), e1]
      refine ⟨15, ⟨[], ⟨0, 10, 13, 18⟩, [], 4, rfl, (fun z hz => by cases hz), by decide, by decide, cl_18, Or.inr ⟨dL_chain_13, rfl⟩, (Nat.le_of_ble_eq_true rfl)⟩, ?_⟩
      refine p_iconst (1) 16 rfl dL_chain_15 rfl ?_
      exact p_iret dL_chain_16 rfl ⟨by rw [e1]; rfl, σ', hP, Or.inr ⟨h0, rfl⟩⟩
set_option maxRecDepth 4000 in
theorem w_hear (x : Int32) (y : Int32) (z : Int32) (b : Bool) (h1 : sp.1 ≤ 1) (hM : CallOk Γ 14 8 48 mX8_hear [.ref T0, .int x, .int y, .int z, .int (b2i b)] σ (rS sp false P)) : CallOk Γ 15 8 48 mL_hear [.ref T0, .int x, .int y, .int z, .int (b2i b), .ref oL0] σ (rW sp P) := by
  refine p_enterH rfl (by decide) (Nat.le_of_ble_eq_true rfl) rfl ?_
  refine p_aload 5 2 rfl dL_hear_0 rfl ?_
  refine p_iconst (0) 3 rfl dL_hear_2 rfl ?_
  refine p_aload_n 0 4 rfl rfl dL_hear_3 rfl ?_
  refine p_iload_n 1 5 rfl rfl dL_hear_4 rfl ?_
  refine p_iload_n 2 6 rfl rfl dL_hear_5 rfl ?_
  refine p_iload_n 3 7 rfl rfl dL_hear_6 rfl ?_
  refine p_iload 4 9 rfl dL_hear_7 rfl ?_
  refine p_callVH (as := [.int x, .int y, .int z, .int (b2i b)]) (st := [.int 0, .ref oL0]) (mc2 := 0) (ms2 := 0) 12 rfl dL_hear_9 hM ml_L_80 vl_X8_hear rfl (by decide) rfl rfl rfl (Nat.le_of_ble_eq_true rfl) (Nat.le_of_ble_eq_true rfl) (Nat.le_of_ble_eq_true rfl) (Nat.le_of_ble_eq_true rfl) (fun v σ' h => ?_) (fun xx σ' h => ?_)
  · obtain ⟨he, hP⟩ := h
    by_cases h0 : sp.1 = 0
    · rw [if_pos h0] at he
      injection he with he
      subst he
      refine p_i2l 13 rfl dL_hear_12 ?_
      refine p_last 14 rfl dL_hear_13 rfl in_o ?_
      refine p_goto 21 rfl dL_hear_14 ?_
      refine p_iconst (0) 22 rfl dL_hear_21 rfl ?_
      exact p_iret dL_hear_22 rfl ⟨by rw [h0]; rfl, σ', hP, Or.inl ⟨h0, rfl⟩⟩
    · rw [if_neg h0] at he; cases he
  · obtain ⟨he, hP⟩ := h
    by_cases h0 : sp.1 = 0
    · rw [if_pos h0] at he; cases he
    · rw [if_neg h0] at he
      injection he with he
      subst he
      have e1 : sp.1 = 1 := by omega
      rw [if_neg (by decide), e1]
      refine ⟨19, ⟨[], ⟨0, 14, 17, 18⟩, [], 6, rfl, (fun z hz => by cases hz), by decide, by decide, cl_18, Or.inr ⟨dL_hear_17, rfl⟩, (Nat.le_of_ble_eq_true rfl)⟩, ?_⟩
      refine p_iconst (1) 20 rfl dL_hear_19 rfl ?_
      exact p_iret dL_hear_20 rfl ⟨by rw [e1]; rfl, σ', hP, Or.inr ⟨h0, rfl⟩⟩
set_option maxRecDepth 4000 in
theorem w_borne (x : Int32) (h1 : sp.1 ≤ 1) (hM : CallOk Γ 14 8 48 mX8_borne [.ref T0, .int x] σ (rS sp false P)) : CallOk Γ 15 8 48 mL_borne [.ref T0, .int x, .ref oL0] σ (rW sp P) := by
  refine p_enterH rfl (by decide) (Nat.le_of_ble_eq_true rfl) rfl ?_
  refine p_aload_n 2 1 rfl rfl dL_borne_0 rfl ?_
  refine p_iconst (0) 2 rfl dL_borne_1 rfl ?_
  refine p_aload_n 0 3 rfl rfl dL_borne_2 rfl ?_
  refine p_iload_n 1 4 rfl rfl dL_borne_3 rfl ?_
  refine p_callVH (as := [.int x]) (st := [.int 0, .ref oL0]) (mc2 := 0) (ms2 := 0) 7 rfl dL_borne_4 hM ml_L_84 vl_X8_borne rfl (by decide) rfl rfl rfl (Nat.le_of_ble_eq_true rfl) (Nat.le_of_ble_eq_true rfl) (Nat.le_of_ble_eq_true rfl) (Nat.le_of_ble_eq_true rfl) (fun v σ' h => ?_) (fun xx σ' h => ?_)
  · obtain ⟨he, hP⟩ := h
    by_cases h0 : sp.1 = 0
    · rw [if_pos h0] at he
      injection he with he
      subst he
      refine p_i2l 8 rfl dL_borne_7 ?_
      refine p_last 9 rfl dL_borne_8 rfl in_o ?_
      refine p_goto 15 rfl dL_borne_9 ?_
      refine p_iconst (0) 16 rfl dL_borne_15 rfl ?_
      exact p_iret dL_borne_16 rfl ⟨by rw [h0]; rfl, σ', hP, Or.inl ⟨h0, rfl⟩⟩
    · rw [if_neg h0] at he; cases he
  · obtain ⟨he, hP⟩ := h
    by_cases h0 : sp.1 = 0
    · rw [if_pos h0] at he; cases he
    · rw [if_neg h0] at he
      injection he with he
      subst he
      have e1 : sp.1 = 1 := by omega
      rw [if_neg (by decide), e1]
      refine ⟨13, ⟨[], ⟨0, 9, 12, 18⟩, [], 3, rfl, (fun z hz => by cases hz), by decide, by decide, cl_18, Or.inl ⟨3, dL_borne_12, rfl, rfl⟩, (Nat.le_of_ble_eq_true rfl)⟩, ?_⟩
      refine p_iconst (1) 14 rfl dL_borne_13 rfl ?_
      exact p_iret dL_borne_14 rfl ⟨by rw [e1]; rfl, σ', hP, Or.inr ⟨h0, rfl⟩⟩
set_option maxRecDepth 4000 in
theorem w_ask (x : Int32) (h1 : sp.1 ≤ 1) (hM : CallOk Γ 16 8 48 mX8_ask [.ref T0, .int x] σ (rS sp false P)) : CallOk Γ 17 8 48 mL_ask [.ref T0, .int x, .ref oL0] σ (rW sp P) := by
  refine p_enterH rfl (by decide) (Nat.le_of_ble_eq_true rfl) rfl ?_
  refine p_aload_n 2 1 rfl rfl dL_ask_0 rfl ?_
  refine p_iconst (0) 2 rfl dL_ask_1 rfl ?_
  refine p_aload_n 0 3 rfl rfl dL_ask_2 rfl ?_
  refine p_iload_n 1 4 rfl rfl dL_ask_3 rfl ?_
  refine p_callVH (as := [.int x]) (st := [.int 0, .ref oL0]) (mc2 := 0) (ms2 := 0) 7 rfl dL_ask_4 hM ml_L_87 vl_X8_ask rfl (by decide) rfl rfl rfl (Nat.le_of_ble_eq_true rfl) (Nat.le_of_ble_eq_true rfl) (Nat.le_of_ble_eq_true rfl) (Nat.le_of_ble_eq_true rfl) (fun v σ' h => ?_) (fun xx σ' h => ?_)
  · obtain ⟨he, hP⟩ := h
    by_cases h0 : sp.1 = 0
    · rw [if_pos h0] at he
      injection he with he
      subst he
      refine p_i2l 8 rfl dL_ask_7 ?_
      refine p_last 9 rfl dL_ask_8 rfl in_o ?_
      refine p_goto 15 rfl dL_ask_9 ?_
      refine p_iconst (0) 16 rfl dL_ask_15 rfl ?_
      exact p_iret dL_ask_16 rfl ⟨by rw [h0]; rfl, σ', hP, Or.inl ⟨h0, rfl⟩⟩
    · rw [if_neg h0] at he; cases he
  · obtain ⟨he, hP⟩ := h
    by_cases h0 : sp.1 = 0
    · rw [if_pos h0] at he; cases he
    · rw [if_neg h0] at he
      injection he with he
      subst he
      have e1 : sp.1 = 1 := by omega
      rw [if_neg (by decide), e1]
      refine ⟨13, ⟨[], ⟨0, 9, 12, 18⟩, [], 3, rfl, (fun z hz => by cases hz), by decide, by decide, cl_18, Or.inl ⟨3, dL_ask_12, rfl, rfl⟩, (Nat.le_of_ble_eq_true rfl)⟩, ?_⟩
      refine p_iconst (1) 14 rfl dL_ask_13 rfl ?_
      exact p_iret dL_ask_14 rfl ⟨by rw [e1]; rfl, σ', hP, Or.inr ⟨h0, rfl⟩⟩
set_option maxRecDepth 4000 in
theorem w_fires (x : Int32) (y : Int32) (h1 : sp.1 ≤ 2) (hM : CallOk Γ 14 8 48 mX8_fires [.ref T0, .int x, .int y] σ (rS sp false P)) : CallOk Γ 15 8 48 mL_fires [.ref T0, .int x, .int y, .ref oL0] σ (rW sp P) := by
  refine p_enterH rfl (by decide) (Nat.le_of_ble_eq_true rfl) rfl ?_
  refine p_aload_n 3 1 rfl rfl dL_fires_0 rfl ?_
  refine p_iconst (0) 2 rfl dL_fires_1 rfl ?_
  refine p_aload_n 0 3 rfl rfl dL_fires_2 rfl ?_
  refine p_iload_n 1 4 rfl rfl dL_fires_3 rfl ?_
  refine p_iload_n 2 5 rfl rfl dL_fires_4 rfl ?_
  refine p_callVH (as := [.int x, .int y]) (st := [.int 0, .ref oL0]) (mc2 := 0) (ms2 := 0) 8 rfl dL_fires_5 hM ml_L_90 vl_X8_fires rfl (by decide) rfl rfl rfl (Nat.le_of_ble_eq_true rfl) (Nat.le_of_ble_eq_true rfl) (Nat.le_of_ble_eq_true rfl) (Nat.le_of_ble_eq_true rfl) (fun v σ' h => ?_) (fun xx σ' h => ?_)
  · obtain ⟨he, hP⟩ := h
    by_cases h0 : sp.1 = 0
    · rw [if_pos h0] at he
      injection he with he
      subst he
      refine p_i2l 9 rfl dL_fires_8 ?_
      refine p_last 10 rfl dL_fires_9 rfl in_o ?_
      refine p_goto 21 rfl dL_fires_10 ?_
      refine p_iconst (0) 22 rfl dL_fires_21 rfl ?_
      exact p_iret dL_fires_22 rfl ⟨by rw [h0]; rfl, σ', hP, Or.inl ⟨h0, rfl⟩⟩
    · rw [if_neg h0] at he; cases he
  · obtain ⟨he, hP⟩ := h
    by_cases h0 : sp.1 = 0
    · rw [if_pos h0] at he; cases he
    · rw [if_neg h0] at he
      injection he with he
      subst he
      rcases (show sp.1 = 1 ∨ sp.1 = 2 by omega) with e1 | e1
      · rw [if_neg (by decide), e1]
        refine ⟨15, ⟨[], ⟨0, 10, 13, 18⟩, [⟨0, 10, 17, 13⟩], 4, rfl, (fun z hz => by cases hz), by decide, by decide, cl_18, Or.inr ⟨dL_fires_13, rfl⟩, (Nat.le_of_ble_eq_true rfl)⟩, ?_⟩
        refine p_iconst (1) 16 rfl dL_fires_15 rfl ?_
        exact p_iret dL_fires_16 rfl ⟨by rw [e1]; rfl, σ', hP, Or.inr ⟨h0, rfl⟩⟩
      · rw [if_neg (by decide), e1]
        refine ⟨19, ⟨[⟨0, 10, 13, 18⟩], ⟨0, 10, 17, 13⟩, [], 4, rfl, (fun z hz => by rw [List.mem_singleton.mp hz]; exact ⟨by decide, by decide, rfl, cl_18⟩), by decide, by decide, cl_13, Or.inr ⟨dL_fires_17, rfl⟩, (Nat.le_of_ble_eq_true rfl)⟩, ?_⟩
        refine p_iconst (2) 20 rfl dL_fires_19 rfl ?_
        exact p_iret dL_fires_20 rfl ⟨by rw [e1]; rfl, σ', hP, Or.inr ⟨h0, rfl⟩⟩
set_option maxRecDepth 4000 in
theorem w_game (x : Int32) (y : Int32) (z : Int32) (h1 : sp.1 ≤ 2) (hM : CallOk Γ 14 8 48 mX8_game [.ref T0, .int x, .int y, .int z] σ (rS sp false P)) : CallOk Γ 15 8 48 mL_game [.ref T0, .int x, .int y, .int z, .ref oL0] σ (rW sp P) := by
  refine p_enterH rfl (by decide) (Nat.le_of_ble_eq_true rfl) rfl ?_
  refine p_aload 4 2 rfl dL_game_0 rfl ?_
  refine p_iconst (0) 3 rfl dL_game_2 rfl ?_
  refine p_aload_n 0 4 rfl rfl dL_game_3 rfl ?_
  refine p_iload_n 1 5 rfl rfl dL_game_4 rfl ?_
  refine p_iload_n 2 6 rfl rfl dL_game_5 rfl ?_
  refine p_iload_n 3 7 rfl rfl dL_game_6 rfl ?_
  refine p_callVH (as := [.int x, .int y, .int z]) (st := [.int 0, .ref oL0]) (mc2 := 0) (ms2 := 0) 10 rfl dL_game_7 hM ml_L_93 vl_X8_game rfl (by decide) rfl rfl rfl (Nat.le_of_ble_eq_true rfl) (Nat.le_of_ble_eq_true rfl) (Nat.le_of_ble_eq_true rfl) (Nat.le_of_ble_eq_true rfl) (fun v σ' h => ?_) (fun xx σ' h => ?_)
  · obtain ⟨he, hP⟩ := h
    by_cases h0 : sp.1 = 0
    · rw [if_pos h0] at he
      injection he with he
      subst he
      refine p_i2l 11 rfl dL_game_10 ?_
      refine p_last 12 rfl dL_game_11 rfl in_o ?_
      refine p_goto 23 rfl dL_game_12 ?_
      refine p_iconst (0) 24 rfl dL_game_23 rfl ?_
      exact p_iret dL_game_24 rfl ⟨by rw [h0]; rfl, σ', hP, Or.inl ⟨h0, rfl⟩⟩
    · rw [if_neg h0] at he; cases he
  · obtain ⟨he, hP⟩ := h
    by_cases h0 : sp.1 = 0
    · rw [if_pos h0] at he; cases he
    · rw [if_neg h0] at he
      injection he with he
      subst he
      rcases (show sp.1 = 1 ∨ sp.1 = 2 by omega) with e1 | e1
      · rw [if_neg (by decide), e1]
        refine ⟨17, ⟨[], ⟨0, 12, 15, 18⟩, [⟨0, 12, 19, 13⟩], 5, rfl, (fun z hz => by cases hz), by decide, by decide, cl_18, Or.inr ⟨dL_game_15, rfl⟩, (Nat.le_of_ble_eq_true rfl)⟩, ?_⟩
        refine p_iconst (1) 18 rfl dL_game_17 rfl ?_
        exact p_iret dL_game_18 rfl ⟨by rw [e1]; rfl, σ', hP, Or.inr ⟨h0, rfl⟩⟩
      · rw [if_neg (by decide), e1]
        refine ⟨21, ⟨[⟨0, 12, 15, 18⟩], ⟨0, 12, 19, 13⟩, [], 5, rfl, (fun z hz => by rw [List.mem_singleton.mp hz]; exact ⟨by decide, by decide, rfl, cl_18⟩), by decide, by decide, cl_13, Or.inr ⟨dL_game_19, rfl⟩, (Nat.le_of_ble_eq_true rfl)⟩, ?_⟩
        refine p_iconst (2) 22 rfl dL_game_21 rfl ?_
        exact p_iret dL_game_22 rfl ⟨by rw [e1]; rfl, σ', hP, Or.inr ⟨h0, rfl⟩⟩
set_option maxRecDepth 4000 in
theorem w_years (x : Int32) (y : Int32) (z : Int32) (h1 : sp.1 ≤ 2) (hM : CallOk Γ 14 8 48 mX8_years [.ref T0, .int x, .int y, .int z] σ (rS sp false P)) : CallOk Γ 15 8 48 mL_years [.ref T0, .int x, .int y, .int z, .ref oL0] σ (rW sp P) := by
  refine p_enterH rfl (by decide) (Nat.le_of_ble_eq_true rfl) rfl ?_
  refine p_aload 4 2 rfl dL_years_0 rfl ?_
  refine p_iconst (0) 3 rfl dL_years_2 rfl ?_
  refine p_aload_n 0 4 rfl rfl dL_years_3 rfl ?_
  refine p_iload_n 1 5 rfl rfl dL_years_4 rfl ?_
  refine p_iload_n 2 6 rfl rfl dL_years_5 rfl ?_
  refine p_iload_n 3 7 rfl rfl dL_years_6 rfl ?_
  refine p_callVH (as := [.int x, .int y, .int z]) (st := [.int 0, .ref oL0]) (mc2 := 0) (ms2 := 0) 10 rfl dL_years_7 hM ml_L_96 vl_X8_years rfl (by decide) rfl rfl rfl (Nat.le_of_ble_eq_true rfl) (Nat.le_of_ble_eq_true rfl) (Nat.le_of_ble_eq_true rfl) (Nat.le_of_ble_eq_true rfl) (fun v σ' h => ?_) (fun xx σ' h => ?_)
  · obtain ⟨he, hP⟩ := h
    by_cases h0 : sp.1 = 0
    · rw [if_pos h0] at he
      injection he with he
      subst he
      refine p_i2l 11 rfl dL_years_10 ?_
      refine p_last 12 rfl dL_years_11 rfl in_o ?_
      refine p_goto 23 rfl dL_years_12 ?_
      refine p_iconst (0) 24 rfl dL_years_23 rfl ?_
      exact p_iret dL_years_24 rfl ⟨by rw [h0]; rfl, σ', hP, Or.inl ⟨h0, rfl⟩⟩
    · rw [if_neg h0] at he; cases he
  · obtain ⟨he, hP⟩ := h
    by_cases h0 : sp.1 = 0
    · rw [if_pos h0] at he; cases he
    · rw [if_neg h0] at he
      injection he with he
      subst he
      rcases (show sp.1 = 1 ∨ sp.1 = 2 by omega) with e1 | e1
      · rw [if_neg (by decide), e1]
        refine ⟨17, ⟨[], ⟨0, 12, 15, 18⟩, [⟨0, 12, 19, 13⟩], 5, rfl, (fun z hz => by cases hz), by decide, by decide, cl_18, Or.inr ⟨dL_years_15, rfl⟩, (Nat.le_of_ble_eq_true rfl)⟩, ?_⟩
        refine p_iconst (1) 18 rfl dL_years_17 rfl ?_
        exact p_iret dL_years_18 rfl ⟨by rw [e1]; rfl, σ', hP, Or.inr ⟨h0, rfl⟩⟩
      · rw [if_neg (by decide), e1]
        refine ⟨21, ⟨[⟨0, 12, 15, 18⟩], ⟨0, 12, 19, 13⟩, [], 5, rfl, (fun z hz => by rw [List.mem_singleton.mp hz]; exact ⟨by decide, by decide, rfl, cl_18⟩), by decide, by decide, cl_13, Or.inr ⟨dL_years_19, rfl⟩, (Nat.le_of_ble_eq_true rfl)⟩, ?_⟩
        refine p_iconst (2) 22 rfl dL_years_21 rfl ?_
        exact p_iret dL_years_22 rfl ⟨by rw [e1]; rfl, σ', hP, Or.inr ⟨h0, rfl⟩⟩
set_option maxRecDepth 4000 in
theorem w_wisest (x : Int32) (h1 : sp.1 ≤ 1) (hM : CallOk Γ 14 8 48 mX8_wisest [.ref T0, .int x] σ (rS sp true P)) : CallOk Γ 15 8 48 mL_wisest [.ref T0, .int x, .ref oL0] σ (rW sp P) := by
  refine p_enterH rfl (by decide) (Nat.le_of_ble_eq_true rfl) rfl ?_
  refine p_aload_n 2 1 rfl rfl dL_wisest_0 rfl ?_
  refine p_iconst (0) 2 rfl dL_wisest_1 rfl ?_
  refine p_aload_n 0 3 rfl rfl dL_wisest_2 rfl ?_
  refine p_iload_n 1 4 rfl rfl dL_wisest_3 rfl ?_
  refine p_callVH (as := [.int x]) (st := [.int 0, .ref oL0]) (mc2 := 0) (ms2 := 0) 7 rfl dL_wisest_4 hM ml_L_99 vl_X8_wisest rfl (by decide) rfl rfl rfl (Nat.le_of_ble_eq_true rfl) (Nat.le_of_ble_eq_true rfl) (Nat.le_of_ble_eq_true rfl) (Nat.le_of_ble_eq_true rfl) (fun v σ' h => ?_) (fun xx σ' h => ?_)
  · obtain ⟨he, hP⟩ := h
    by_cases h0 : sp.1 = 0
    · rw [if_pos h0] at he
      injection he with he
      subst he
      refine p_i2l 8 rfl dL_wisest_7 ?_
      refine p_last 9 rfl dL_wisest_8 rfl in_o ?_
      refine p_goto 15 rfl dL_wisest_9 ?_
      refine p_iconst (0) 16 rfl dL_wisest_15 rfl ?_
      exact p_iret dL_wisest_16 rfl ⟨by rw [h0]; rfl, σ', hP, Or.inl ⟨h0, rfl⟩⟩
    · rw [if_neg h0] at he; cases he
  · obtain ⟨he, hP⟩ := h
    by_cases h0 : sp.1 = 0
    · rw [if_pos h0] at he; cases he
    · rw [if_neg h0] at he
      injection he with he
      subst he
      have e1 : sp.1 = 1 := by omega
      rw [if_pos rfl]
      refine ⟨13, ⟨[], ⟨0, 9, 12, 13⟩, [], 3, rfl, (fun z hz => by cases hz), by decide, by decide, cl_13, Or.inl ⟨3, dL_wisest_12, rfl, rfl⟩, (Nat.le_of_ble_eq_true rfl)⟩, ?_⟩
      refine p_iconst (1) 14 rfl dL_wisest_13 rfl ?_
      exact p_iret dL_wisest_14 rfl ⟨by rw [e1]; rfl, σ', hP, Or.inr ⟨h0, rfl⟩⟩
set_option maxRecDepth 4000 in
theorem w_company (x : Int32) (y : Int32) (z : Int32) (h1 : sp.1 ≤ 2) (hM : CallOk Γ 14 8 48 mX8_company [.ref T0, .int x, .int y, .int z] σ (rS sp false P)) : CallOk Γ 15 8 48 mL_company [.ref T0, .int x, .int y, .int z, .ref oL0] σ (rW sp P) := by
  refine p_enterH rfl (by decide) (Nat.le_of_ble_eq_true rfl) rfl ?_
  refine p_aload 4 2 rfl dL_company_0 rfl ?_
  refine p_iconst (0) 3 rfl dL_company_2 rfl ?_
  refine p_aload_n 0 4 rfl rfl dL_company_3 rfl ?_
  refine p_iload_n 1 5 rfl rfl dL_company_4 rfl ?_
  refine p_iload_n 2 6 rfl rfl dL_company_5 rfl ?_
  refine p_iload_n 3 7 rfl rfl dL_company_6 rfl ?_
  refine p_callVH (as := [.int x, .int y, .int z]) (st := [.int 0, .ref oL0]) (mc2 := 0) (ms2 := 0) 10 rfl dL_company_7 hM ml_L_102 vl_X8_company rfl (by decide) rfl rfl rfl (Nat.le_of_ble_eq_true rfl) (Nat.le_of_ble_eq_true rfl) (Nat.le_of_ble_eq_true rfl) (Nat.le_of_ble_eq_true rfl) (fun v σ' h => ?_) (fun xx σ' h => ?_)
  · obtain ⟨he, hP⟩ := h
    by_cases h0 : sp.1 = 0
    · rw [if_pos h0] at he
      injection he with he
      subst he
      refine p_i2l 11 rfl dL_company_10 ?_
      refine p_last 12 rfl dL_company_11 rfl in_o ?_
      refine p_goto 23 rfl dL_company_12 ?_
      refine p_iconst (0) 24 rfl dL_company_23 rfl ?_
      exact p_iret dL_company_24 rfl ⟨by rw [h0]; rfl, σ', hP, Or.inl ⟨h0, rfl⟩⟩
    · rw [if_neg h0] at he; cases he
  · obtain ⟨he, hP⟩ := h
    by_cases h0 : sp.1 = 0
    · rw [if_pos h0] at he; cases he
    · rw [if_neg h0] at he
      injection he with he
      subst he
      rcases (show sp.1 = 1 ∨ sp.1 = 2 by omega) with e1 | e1
      · rw [if_neg (by decide), e1]
        refine ⟨17, ⟨[], ⟨0, 12, 15, 18⟩, [⟨0, 12, 19, 13⟩], 5, rfl, (fun z hz => by cases hz), by decide, by decide, cl_18, Or.inr ⟨dL_company_15, rfl⟩, (Nat.le_of_ble_eq_true rfl)⟩, ?_⟩
        refine p_iconst (1) 18 rfl dL_company_17 rfl ?_
        exact p_iret dL_company_18 rfl ⟨by rw [e1]; rfl, σ', hP, Or.inr ⟨h0, rfl⟩⟩
      · rw [if_neg (by decide), e1]
        refine ⟨21, ⟨[⟨0, 12, 15, 18⟩], ⟨0, 12, 19, 13⟩, [], 5, rfl, (fun z hz => by rw [List.mem_singleton.mp hz]; exact ⟨by decide, by decide, rfl, cl_18⟩), by decide, by decide, cl_13, Or.inr ⟨dL_company_19, rfl⟩, (Nat.le_of_ble_eq_true rfl)⟩, ?_⟩
        refine p_iconst (2) 22 rfl dL_company_21 rfl ?_
        exact p_iret dL_company_22 rfl ⟨by rw [e1]; rfl, σ', hP, Or.inr ⟨h0, rfl⟩⟩
set_option maxRecDepth 4000 in
theorem w_together (x : Int32) (h1 : sp.1 ≤ 1) (hM : CallOk Γ 14 8 48 mX8_together [.ref T0, .int x] σ (rS sp true P)) : CallOk Γ 15 8 48 mL_together [.ref T0, .int x, .ref oL0] σ (rW sp P) := by
  refine p_enterH rfl (by decide) (Nat.le_of_ble_eq_true rfl) rfl ?_
  refine p_aload_n 2 1 rfl rfl dL_together_0 rfl ?_
  refine p_iconst (0) 2 rfl dL_together_1 rfl ?_
  refine p_aload_n 0 3 rfl rfl dL_together_2 rfl ?_
  refine p_iload_n 1 4 rfl rfl dL_together_3 rfl ?_
  refine p_callVH (as := [.int x]) (st := [.int 0, .ref oL0]) (mc2 := 0) (ms2 := 0) 7 rfl dL_together_4 hM ml_L_105 vl_X8_together rfl (by decide) rfl rfl rfl (Nat.le_of_ble_eq_true rfl) (Nat.le_of_ble_eq_true rfl) (Nat.le_of_ble_eq_true rfl) (Nat.le_of_ble_eq_true rfl) (fun v σ' h => ?_) (fun xx σ' h => ?_)
  · obtain ⟨he, hP⟩ := h
    by_cases h0 : sp.1 = 0
    · rw [if_pos h0] at he
      injection he with he
      subst he
      refine p_i2l 8 rfl dL_together_7 ?_
      refine p_last 9 rfl dL_together_8 rfl in_o ?_
      refine p_goto 15 rfl dL_together_9 ?_
      refine p_iconst (0) 16 rfl dL_together_15 rfl ?_
      exact p_iret dL_together_16 rfl ⟨by rw [h0]; rfl, σ', hP, Or.inl ⟨h0, rfl⟩⟩
    · rw [if_neg h0] at he; cases he
  · obtain ⟨he, hP⟩ := h
    by_cases h0 : sp.1 = 0
    · rw [if_pos h0] at he; cases he
    · rw [if_neg h0] at he
      injection he with he
      subst he
      have e1 : sp.1 = 1 := by omega
      rw [if_pos rfl]
      refine ⟨13, ⟨[], ⟨0, 9, 12, 13⟩, [], 3, rfl, (fun z hz => by cases hz), by decide, by decide, cl_13, Or.inl ⟨3, dL_together_12, rfl, rfl⟩, (Nat.le_of_ble_eq_true rfl)⟩, ?_⟩
      refine p_iconst (1) 14 rfl dL_together_13 rfl ?_
      exact p_iret dL_together_14 rfl ⟨by rw [e1]; rfl, σ', hP, Or.inr ⟨h0, rfl⟩⟩
set_option maxRecDepth 4000 in
theorem w_odd (x : Int32) (h1 : sp.1 ≤ 1) (hM : CallOk Γ 14 8 48 mX8_odd [.ref T0, .int x] σ (rS sp false P)) : CallOk Γ 15 8 48 mL_odd [.ref T0, .int x, .ref oL0] σ (rW sp P) := by
  refine p_enterH rfl (by decide) (Nat.le_of_ble_eq_true rfl) rfl ?_
  refine p_aload_n 2 1 rfl rfl dL_odd_0 rfl ?_
  refine p_iconst (0) 2 rfl dL_odd_1 rfl ?_
  refine p_aload_n 0 3 rfl rfl dL_odd_2 rfl ?_
  refine p_iload_n 1 4 rfl rfl dL_odd_3 rfl ?_
  refine p_callVH (as := [.int x]) (st := [.int 0, .ref oL0]) (mc2 := 0) (ms2 := 0) 7 rfl dL_odd_4 hM ml_L_108 vl_X8_odd rfl (by decide) rfl rfl rfl (Nat.le_of_ble_eq_true rfl) (Nat.le_of_ble_eq_true rfl) (Nat.le_of_ble_eq_true rfl) (Nat.le_of_ble_eq_true rfl) (fun v σ' h => ?_) (fun xx σ' h => ?_)
  · obtain ⟨he, hP⟩ := h
    by_cases h0 : sp.1 = 0
    · rw [if_pos h0] at he
      injection he with he
      subst he
      refine p_i2l 8 rfl dL_odd_7 ?_
      refine p_last 9 rfl dL_odd_8 rfl in_o ?_
      refine p_goto 15 rfl dL_odd_9 ?_
      refine p_iconst (0) 16 rfl dL_odd_15 rfl ?_
      exact p_iret dL_odd_16 rfl ⟨by rw [h0]; rfl, σ', hP, Or.inl ⟨h0, rfl⟩⟩
    · rw [if_neg h0] at he; cases he
  · obtain ⟨he, hP⟩ := h
    by_cases h0 : sp.1 = 0
    · rw [if_pos h0] at he; cases he
    · rw [if_neg h0] at he
      injection he with he
      subst he
      have e1 : sp.1 = 1 := by omega
      rw [if_neg (by decide), e1]
      refine ⟨13, ⟨[], ⟨0, 9, 12, 18⟩, [], 3, rfl, (fun z hz => by cases hz), by decide, by decide, cl_18, Or.inl ⟨3, dL_odd_12, rfl, rfl⟩, (Nat.le_of_ble_eq_true rfl)⟩, ?_⟩
      refine p_iconst (1) 14 rfl dL_odd_13 rfl ?_
      exact p_iret dL_odd_14 rfl ⟨by rw [e1]; rfl, σ', hP, Or.inr ⟨h0, rfl⟩⟩
set_option maxRecDepth 4000 in
theorem w_far (x : Int32) (y : Int32) (h1 : sp.1 ≤ 1) (hM : CallOk Γ 14 8 48 mX8_far [.ref T0, .int x, .int y] σ (rS sp false P)) : CallOk Γ 15 8 48 mL_far [.ref T0, .int x, .int y, .ref oL0] σ (rW sp P) := by
  refine p_enterH rfl (by decide) (Nat.le_of_ble_eq_true rfl) rfl ?_
  refine p_aload_n 3 1 rfl rfl dL_far_0 rfl ?_
  refine p_iconst (0) 2 rfl dL_far_1 rfl ?_
  refine p_aload_n 0 3 rfl rfl dL_far_2 rfl ?_
  refine p_iload_n 1 4 rfl rfl dL_far_3 rfl ?_
  refine p_iload_n 2 5 rfl rfl dL_far_4 rfl ?_
  refine p_callVH (as := [.int x, .int y]) (st := [.int 0, .ref oL0]) (mc2 := 0) (ms2 := 0) 8 rfl dL_far_5 hM ml_L_111 vl_X8_far rfl (by decide) rfl rfl rfl (Nat.le_of_ble_eq_true rfl) (Nat.le_of_ble_eq_true rfl) (Nat.le_of_ble_eq_true rfl) (Nat.le_of_ble_eq_true rfl) (fun v σ' h => ?_) (fun xx σ' h => ?_)
  · obtain ⟨he, hP⟩ := h
    by_cases h0 : sp.1 = 0
    · rw [if_pos h0] at he
      injection he with he
      subst he
      refine p_i2l 9 rfl dL_far_8 ?_
      refine p_last 10 rfl dL_far_9 rfl in_o ?_
      refine p_goto 17 rfl dL_far_10 ?_
      refine p_iconst (0) 18 rfl dL_far_17 rfl ?_
      exact p_iret dL_far_18 rfl ⟨by rw [h0]; rfl, σ', hP, Or.inl ⟨h0, rfl⟩⟩
    · rw [if_neg h0] at he; cases he
  · obtain ⟨he, hP⟩ := h
    by_cases h0 : sp.1 = 0
    · rw [if_pos h0] at he; cases he
    · rw [if_neg h0] at he
      injection he with he
      subst he
      have e1 : sp.1 = 1 := by omega
      rw [if_neg (by decide), e1]
      refine ⟨15, ⟨[], ⟨0, 10, 13, 18⟩, [], 4, rfl, (fun z hz => by cases hz), by decide, by decide, cl_18, Or.inr ⟨dL_far_13, rfl⟩, (Nat.le_of_ble_eq_true rfl)⟩, ?_⟩
      refine p_iconst (1) 16 rfl dL_far_15 rfl ?_
      exact p_iret dL_far_16 rfl ⟨by rw [e1]; rfl, σ', hP, Or.inr ⟨h0, rfl⟩⟩
set_option maxRecDepth 4000 in
theorem w_unread (x : Int32) (h1 : sp.1 ≤ 1) (hM : CallOk Γ 14 8 48 mX8_unread [.ref T0, .int x] σ (rS sp true P)) : CallOk Γ 15 8 48 mL_unread [.ref T0, .int x, .ref oL0] σ (rW sp P) := by
  refine p_enterH rfl (by decide) (Nat.le_of_ble_eq_true rfl) rfl ?_
  refine p_aload_n 2 1 rfl rfl dL_unread_0 rfl ?_
  refine p_iconst (0) 2 rfl dL_unread_1 rfl ?_
  refine p_aload_n 0 3 rfl rfl dL_unread_2 rfl ?_
  refine p_iload_n 1 4 rfl rfl dL_unread_3 rfl ?_
  refine p_callVH (as := [.int x]) (st := [.int 0, .ref oL0]) (mc2 := 0) (ms2 := 0) 7 rfl dL_unread_4 hM ml_L_114 vl_X8_unread rfl (by decide) rfl rfl rfl (Nat.le_of_ble_eq_true rfl) (Nat.le_of_ble_eq_true rfl) (Nat.le_of_ble_eq_true rfl) (Nat.le_of_ble_eq_true rfl) (fun v σ' h => ?_) (fun xx σ' h => ?_)
  · obtain ⟨he, hP⟩ := h
    by_cases h0 : sp.1 = 0
    · rw [if_pos h0] at he
      injection he with he
      subst he
      refine p_i2l 8 rfl dL_unread_7 ?_
      refine p_last 9 rfl dL_unread_8 rfl in_o ?_
      refine p_goto 15 rfl dL_unread_9 ?_
      refine p_iconst (0) 16 rfl dL_unread_15 rfl ?_
      exact p_iret dL_unread_16 rfl ⟨by rw [h0]; rfl, σ', hP, Or.inl ⟨h0, rfl⟩⟩
    · rw [if_neg h0] at he; cases he
  · obtain ⟨he, hP⟩ := h
    by_cases h0 : sp.1 = 0
    · rw [if_pos h0] at he; cases he
    · rw [if_neg h0] at he
      injection he with he
      subst he
      have e1 : sp.1 = 1 := by omega
      rw [if_pos rfl]
      refine ⟨13, ⟨[], ⟨0, 9, 12, 13⟩, [], 3, rfl, (fun z hz => by cases hz), by decide, by decide, cl_13, Or.inl ⟨3, dL_unread_12, rfl, rfl⟩, (Nat.le_of_ble_eq_true rfl)⟩, ?_⟩
      refine p_iconst (1) 14 rfl dL_unread_13 rfl ?_
      exact p_iret dL_unread_14 rfl ⟨by rw [e1]; rfl, σ', hP, Or.inr ⟨h0, rfl⟩⟩
set_option maxRecDepth 4000 in
theorem w_heir (x : Int32) (h1 : sp.1 ≤ 1) (hM : CallOk Γ 14 8 48 mX8_heir [.ref T0, .int x] σ (rS sp false P)) : CallOk Γ 15 8 48 mL_heir [.ref T0, .int x, .ref oL0] σ (rW sp P) := by
  refine p_enterH rfl (by decide) (Nat.le_of_ble_eq_true rfl) rfl ?_
  refine p_aload_n 2 1 rfl rfl dL_heir_0 rfl ?_
  refine p_iconst (0) 2 rfl dL_heir_1 rfl ?_
  refine p_aload_n 0 3 rfl rfl dL_heir_2 rfl ?_
  refine p_iload_n 1 4 rfl rfl dL_heir_3 rfl ?_
  refine p_callVH (as := [.int x]) (st := [.int 0, .ref oL0]) (mc2 := 0) (ms2 := 0) 7 rfl dL_heir_4 hM ml_L_117 vl_X8_heir rfl (by decide) rfl rfl rfl (Nat.le_of_ble_eq_true rfl) (Nat.le_of_ble_eq_true rfl) (Nat.le_of_ble_eq_true rfl) (Nat.le_of_ble_eq_true rfl) (fun v σ' h => ?_) (fun xx σ' h => ?_)
  · obtain ⟨he, hP⟩ := h
    by_cases h0 : sp.1 = 0
    · rw [if_pos h0] at he
      injection he with he
      subst he
      refine p_i2l 8 rfl dL_heir_7 ?_
      refine p_last 9 rfl dL_heir_8 rfl in_o ?_
      refine p_goto 15 rfl dL_heir_9 ?_
      refine p_iconst (0) 16 rfl dL_heir_15 rfl ?_
      exact p_iret dL_heir_16 rfl ⟨by rw [h0]; rfl, σ', hP, Or.inl ⟨h0, rfl⟩⟩
    · rw [if_neg h0] at he; cases he
  · obtain ⟨he, hP⟩ := h
    by_cases h0 : sp.1 = 0
    · rw [if_pos h0] at he; cases he
    · rw [if_neg h0] at he
      injection he with he
      subst he
      have e1 : sp.1 = 1 := by omega
      rw [if_neg (by decide), e1]
      refine ⟨13, ⟨[], ⟨0, 9, 12, 18⟩, [], 3, rfl, (fun z hz => by cases hz), by decide, by decide, cl_18, Or.inl ⟨3, dL_heir_12, rfl, rfl⟩, (Nat.le_of_ble_eq_true rfl)⟩, ?_⟩
      refine p_iconst (1) 14 rfl dL_heir_13 rfl ?_
      exact p_iret dL_heir_14 rfl ⟨by rw [e1]; rfl, σ', hP, Or.inr ⟨h0, rfl⟩⟩
set_option maxRecDepth 4000 in
theorem w_laid (x : Int32) (h1 : sp.1 ≤ 1) (hM : CallOk Γ 14 8 48 mX8_laid [.ref T0, .int x] σ (rS sp true P)) : CallOk Γ 15 8 48 mL_laid [.ref T0, .int x, .ref oL0] σ (rW sp P) := by
  refine p_enterH rfl (by decide) (Nat.le_of_ble_eq_true rfl) rfl ?_
  refine p_aload_n 2 1 rfl rfl dL_laid_0 rfl ?_
  refine p_iconst (0) 2 rfl dL_laid_1 rfl ?_
  refine p_aload_n 0 3 rfl rfl dL_laid_2 rfl ?_
  refine p_iload_n 1 4 rfl rfl dL_laid_3 rfl ?_
  refine p_callVH (as := [.int x]) (st := [.int 0, .ref oL0]) (mc2 := 0) (ms2 := 0) 7 rfl dL_laid_4 hM ml_L_120 vl_X8_laid rfl (by decide) rfl rfl rfl (Nat.le_of_ble_eq_true rfl) (Nat.le_of_ble_eq_true rfl) (Nat.le_of_ble_eq_true rfl) (Nat.le_of_ble_eq_true rfl) (fun v σ' h => ?_) (fun xx σ' h => ?_)
  · obtain ⟨he, hP⟩ := h
    by_cases h0 : sp.1 = 0
    · rw [if_pos h0] at he
      injection he with he
      subst he
      refine p_i2l 8 rfl dL_laid_7 ?_
      refine p_last 9 rfl dL_laid_8 rfl in_o ?_
      refine p_goto 15 rfl dL_laid_9 ?_
      refine p_iconst (0) 16 rfl dL_laid_15 rfl ?_
      exact p_iret dL_laid_16 rfl ⟨by rw [h0]; rfl, σ', hP, Or.inl ⟨h0, rfl⟩⟩
    · rw [if_neg h0] at he; cases he
  · obtain ⟨he, hP⟩ := h
    by_cases h0 : sp.1 = 0
    · rw [if_pos h0] at he; cases he
    · rw [if_neg h0] at he
      injection he with he
      subst he
      have e1 : sp.1 = 1 := by omega
      rw [if_pos rfl]
      refine ⟨13, ⟨[], ⟨0, 9, 12, 13⟩, [], 3, rfl, (fun z hz => by cases hz), by decide, by decide, cl_13, Or.inl ⟨3, dL_laid_12, rfl, rfl⟩, (Nat.le_of_ble_eq_true rfl)⟩, ?_⟩
      refine p_iconst (1) 14 rfl dL_laid_13 rfl ?_
      exact p_iret dL_laid_14 rfl ⟨by rw [e1]; rfl, σ', hP, Or.inr ⟨h0, rfl⟩⟩
theorem mh_L_132 : MH RL 132 mL_office 3 := ⟨tb_i 599 (by decide +kernel) rfl, in_RL, tb_i 601 (by decide +kernel) rfl, by decide, by decide +kernel, by decide⟩
theorem mh_L_146 : MH RL 146 mL_count 3 := ⟨tb_i 895 (by decide +kernel) rfl, in_RL, tb_i 897 (by decide +kernel) rfl, by decide, by decide +kernel, by decide⟩
theorem mh_L_149 : MH RL 149 mL_sheet 4 := ⟨tb_i 955 (by decide +kernel) rfl, in_RL, tb_i 957 (by decide +kernel) rfl, by decide, by decide +kernel, by decide⟩
theorem mh_L_153 : MH RL 153 mL_clerk 4 := ⟨tb_i 974 (by decide +kernel) rfl, in_RL, tb_i 976 (by decide +kernel) rfl, by decide, by decide +kernel, by decide⟩
theorem mh_L_156 : MH RL 156 mL_word 4 := ⟨tb_i 992 (by decide +kernel) rfl, in_RL, tb_i 994 (by decide +kernel) rfl, by decide, by decide +kernel, by decide⟩
theorem mh_L_159 : MH RL 159 mL_town 4 := ⟨tb_i 1013 (by decide +kernel) rfl, in_RL, tb_i 1015 (by decide +kernel) rfl, by decide, by decide +kernel, by decide⟩
theorem mh_L_166 : MH RL 166 mL_take 4 := ⟨tb_i 1040 (by decide +kernel) rfl, in_RL, tb_i 1042 (by decide +kernel) rfl, by decide, by decide +kernel, by decide⟩
theorem mh_L_169 : MH RL 169 mL_leave 4 := ⟨tb_i 1047 (by decide +kernel) rfl, in_RL, tb_i 1049 (by decide +kernel) rfl, by decide, by decide +kernel, by decide⟩
theorem mh_L_172 : MH RL 172 mL_forge 5 := ⟨tb_i 1054 (by decide +kernel) rfl, in_RL, tb_i 1056 (by decide +kernel) rfl, by decide, by decide +kernel, by decide⟩
theorem mh_L_176 : MH RL 176 mL_fire 3 := ⟨tb_i 1065 (by decide +kernel) rfl, in_RL, tb_i 1067 (by decide +kernel) rfl, by decide, by decide +kernel, by decide⟩
theorem mh_L_183 : MH RL 183 mL_then 5 := ⟨tb_i 1076 (by decide +kernel) rfl, in_RL, tb_i 1078 (by decide +kernel) rfl, by decide, by decide +kernel, by decide⟩
theorem mh_L_186 : MH RL 186 mL_where 4 := ⟨tb_i 1091 (by decide +kernel) rfl, in_RL, tb_i 1093 (by decide +kernel) rfl, by decide, by decide +kernel, by decide⟩
theorem mh_L_189 : MH RL 189 mL_first 4 := ⟨tb_i 1098 (by decide +kernel) rfl, in_RL, tb_i 1100 (by decide +kernel) rfl, by decide, by decide +kernel, by decide⟩
theorem mh_L_192 : MH RL 192 mL_read 4 := ⟨tb_i 1106 (by decide +kernel) rfl, in_RL, tb_i 1108 (by decide +kernel) rfl, by decide, by decide +kernel, by decide⟩
theorem mh_L_195 : MH RL 195 mL_mould 3 := ⟨tb_i 1117 (by decide +kernel) rfl, in_RL, tb_i 1119 (by decide +kernel) rfl, by decide, by decide +kernel, by decide⟩
theorem mh_L_198 : MH RL 198 mL_meet 4 := ⟨tb_i 1124 (by decide +kernel) rfl, in_RL, tb_i 1126 (by decide +kernel) rfl, by decide, by decide +kernel, by decide⟩
theorem mh_L_201 : MH RL 201 mL_gathering 3 := ⟨tb_i 1131 (by decide +kernel) rfl, in_RL, tb_i 1133 (by decide +kernel) rfl, by decide, by decide +kernel, by decide⟩
theorem mh_L_204 : MH RL 204 mL_row 3 := ⟨tb_i 1139 (by decide +kernel) rfl, in_RL, tb_i 1141 (by decide +kernel) rfl, by decide, by decide +kernel, by decide⟩
theorem mh_L_207 : MH RL 207 mL_toForge 4 := ⟨tb_i 1159 (by decide +kernel) rfl, in_RL, tb_i 1161 (by decide +kernel) rfl, by decide, by decide +kernel, by decide⟩
theorem mh_L_210 : MH RL 210 mL_toSave 3 := ⟨tb_i 1171 (by decide +kernel) rfl, in_RL, tb_i 1173 (by decide +kernel) rfl, by decide, by decide +kernel, by decide⟩
theorem mh_L_217 : MH RL 217 mL_chain 4 := ⟨tb_i 1178 (by decide +kernel) rfl, in_RL, tb_i 1180 (by decide +kernel) rfl, by decide, by decide +kernel, by decide⟩
theorem mh_L_220 : MH RL 220 mL_hear 6 := ⟨tb_i 1189 (by decide +kernel) rfl, in_RL, tb_i 1191 (by decide +kernel) rfl, by decide, by decide +kernel, by decide⟩
theorem mh_L_228 : MH RL 228 mL_borne 3 := ⟨tb_i 1200 (by decide +kernel) rfl, in_RL, tb_i 1202 (by decide +kernel) rfl, by decide, by decide +kernel, by decide⟩
theorem mh_L_231 : MH RL 231 mL_ask 3 := ⟨tb_i 1218 (by decide +kernel) rfl, in_RL, tb_i 1220 (by decide +kernel) rfl, by decide, by decide +kernel, by decide⟩
theorem mh_L_234 : MH RL 234 mL_fires 4 := ⟨tb_i 1234 (by decide +kernel) rfl, in_RL, tb_i 1236 (by decide +kernel) rfl, by decide, by decide +kernel, by decide⟩
theorem mh_L_237 : MH RL 237 mL_game 5 := ⟨tb_i 1241 (by decide +kernel) rfl, in_RL, tb_i 1243 (by decide +kernel) rfl, by decide, by decide +kernel, by decide⟩
theorem mh_L_240 : MH RL 240 mL_years 5 := ⟨tb_i 1257 (by decide +kernel) rfl, in_RL, tb_i 1259 (by decide +kernel) rfl, by decide, by decide +kernel, by decide⟩
theorem mh_L_243 : MH RL 243 mL_wisest 3 := ⟨tb_i 1279 (by decide +kernel) rfl, in_RL, tb_i 1281 (by decide +kernel) rfl, by decide, by decide +kernel, by decide⟩
theorem mh_L_246 : MH RL 246 mL_company 5 := ⟨tb_i 1286 (by decide +kernel) rfl, in_RL, tb_i 1288 (by decide +kernel) rfl, by decide, by decide +kernel, by decide⟩
theorem mh_L_249 : MH RL 249 mL_together 3 := ⟨tb_i 1293 (by decide +kernel) rfl, in_RL, tb_i 1295 (by decide +kernel) rfl, by decide, by decide +kernel, by decide⟩
theorem mh_L_252 : MH RL 252 mL_odd 3 := ⟨tb_i 1306 (by decide +kernel) rfl, in_RL, tb_i 1308 (by decide +kernel) rfl, by decide, by decide +kernel, by decide⟩
theorem mh_L_255 : MH RL 255 mL_far 4 := ⟨tb_i 1331 (by decide +kernel) rfl, in_RL, tb_i 1333 (by decide +kernel) rfl, by decide, by decide +kernel, by decide⟩
theorem mh_L_258 : MH RL 258 mL_unread 3 := ⟨tb_i 1338 (by decide +kernel) rfl, in_RL, tb_i 1340 (by decide +kernel) rfl, by decide, by decide +kernel, by decide⟩
theorem mh_L_261 : MH RL 261 mL_heir 3 := ⟨tb_i 1345 (by decide +kernel) rfl, in_RL, tb_i 1347 (by decide +kernel) rfl, by decide, by decide +kernel, by decide⟩
theorem mh_L_264 : MH RL 264 mL_laid 3 := ⟨tb_i 1352 (by decide +kernel) rfl, in_RL, tb_i 1354 (by decide +kernel) rfl, by decide, by decide +kernel, by decide⟩
end Cb4
