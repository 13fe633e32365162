/-! ===== the law: its head ===== -/
section Cb9
variable {Γ : Gm} {d mc ms : Nat} {mi : MI} {pc : Nat} {L : List (Option Value)} {st : List Value} {σ : PH} {Q : PO → PH → Prop}
theorem q_newarrL {n : Int32} {atype : ArrayType} {l : List Ev} (N q mc' ms' m r : Nat) (hq : pc + 2 = q) (hd : decode (mC mi) pc = .ok (.newarray atype, 2)) (ht : newarray.typeOf atype = .long) (hwd : Cond.arrayClass .long ∈ TB) (hn0 : ¬ n < 0) (hN : n.toNatClampNeg = N) (hNl : N < 8192) (hm : mc' + 1 ≤ mc) (hs : ms' + N ≤ ms) (hnn : hn (evl l σ) = m) (hr : mkr m N 19 = r)
    (kk : Ok Γ d mc' ms' mi q L (.ref r :: st) (evl (.inl r :: l) σ) Q) : Ok Γ d mc ms mi pc L (.int n :: st) (evl l σ) Q := p_newarrL N q mc' ms' hq hd ht hwd hn0 hN hNl hm hs (by rw [hnn, hr]; exact kk)
end Cb9
section Cb9b
variable {Γ : Gm} {σ : PH}
set_option maxRecDepth 12000 in
theorem law_head (hL3 : gL Γ ≤ 384) (hσ : hn σ = 1) : Ok Γ 60 612 23860 mL_law 0 [some (.ref 27), none, none, none, none, none, none] [] σ rLw := by
  refine e_0 ?_
  refine q_new 8 3 611 23842 1 262152 rfl dL_law_0 nl_L_8 (Nat.le_of_ble_eq_true rfl) (Nat.le_of_ble_eq_true rfl) (hn_e hσ rfl) rfl ?_
  refine p_dup 4 rfl dL_law_3 rfl ?_
  refine q_cI0 541 17570 7 rfl dL_law_4 (c_iX8 (hn_e hσ rfl)) ml_L_123 il_X8_init (Nat.le_of_ble_eq_true rfl) (Nat.le_of_ble_eq_true rfl) (Nat.le_of_ble_eq_true rfl) (Nat.le_of_ble_eq_true rfl) ?_
  refine p_ast_n1 8 rfl rfl dL_law_7 (Nat.le_of_ble_eq_true rfl) rfl ?_
  refine q_new 9 11 540 17508 72 18874377 rfl dL_law_8 nl_L_124 (Nat.le_of_ble_eq_true rfl) (Nat.le_of_ble_eq_true rfl) (hn_e hσ rfl) rfl ?_
  refine p_dup 12 rfl dL_law_11 rfl ?_
  refine q_cI0 513 3073 15 rfl dL_law_12 (c_iX9 (hn_e hσ rfl)) ml_L_126 il_X9_init (Nat.le_of_ble_eq_true rfl) (Nat.le_of_ble_eq_true rfl) (Nat.le_of_ble_eq_true rfl) (Nat.le_of_ble_eq_true rfl) ?_
  refine p_ast_n2 16 rfl rfl dL_law_15 (Nat.le_of_ble_eq_true rfl) rfl ?_
  refine p_iconst (1) 17 rfl dL_law_16 rfl ?_
  refine q_newarrL 1 19 512 3072 100 26214451 rfl dL_law_17 rfl ac_19 (by decide) (by decide) (Nat.le_of_ble_eq_true rfl) (Nat.le_of_ble_eq_true rfl) (Nat.le_of_ble_eq_true rfl) (hn_e hσ rfl) rfl ?_
  refine p_ast_n3 20 rfl rfl dL_law_19 (Nat.le_of_ble_eq_true rfl) rfl ?_
  refine p_iconst (0) 21 rfl dL_law_20 rfl ?_
  refine p_ist_4 23 rfl dL_law_21 (Nat.le_of_ble_eq_true rfl) rfl ?_
  exact law_loop hL3 64 0 (evl lgW σ) A0 none none (by omega) (by omega) BO_0
end Cb9b
