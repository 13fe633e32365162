/-! ===== whether all that was heard is so ===== -/
abbrev hh0 : Nat := 12058627
def gdH (O : AO) (W : AW) (q : Hr) : Bool := (vK (daysF O q.2.2.1 W) q.1).testBit q.2.1 == q.2.2.2
def allS (O : AO) (W : AW) (Hs : List Hr) : Bool := Hs.all (gdH O W)
def lstD (Hs : List Hr) : Nat → Nat
  | 0 => 0
  | n + 1 => max (lstD Hs n) ((Hs.getD n (0, 0, 0, false)).2.2.1)
theorem lstD_ge (Hs : List Hr) : ∀ n j, j < n → (Hs.getD j (0, 0, 0, false)).2.2.1 ≤ lstD Hs n := by
  intro n
  induction n with
  | zero => intro j hj; omega
  | succ n ih =>
    intro j hj
    unfold lstD
    by_cases e : j = n
    · subst e; exact Nat.le_max_right _ _
    · exact Nat.le_trans (ih j (by omega)) (Nat.le_max_left _ _)
theorem getD_of {Hs : List Hr} {i : Nat} {q : Hr} (h : Hs[i]? = some q) : Hs.getD i (0, 0, 0, false) = q := by
  rw [List.getD_eq_getElem?_getD, h]; rfl
theorem lstD_le {O : AO} {Hs : List Hr} (h : OkH O Hs) : ∀ n, n ≤ Hs.length → lstD Hs n ≤ 12 := by
  intro n
  induction n with
  | zero => intro _; exact Nat.zero_le _
  | succ n ih =>
    intro hn
    unfold lstD
    have hq : Hs[n]? = some (Hs[n]'(by omega)) := List.getElem?_eq_getElem (by omega)
    rw [getD_of hq]
    have := (h.2 _ (List.getElem_mem (show n < Hs.length by omega))).2.2
    have := ih (by omega)
    omega
theorem allS_f {O : AO} {W : AW} {Hs : List Hr} {q : Hr} (h : q ∈ Hs) (g : ¬ gdH O W q = true) : allS O W Hs = false := by
  cases e : allS O W Hs with
  | false => rfl
  | true => exact absurd (List.all_eq_true.mp e q h) g
theorem allS_t {O : AO} {W : AW} {Hs : List Hr} (h : ∀ q ∈ Hs, gdH O W q = true) : allS O W Hs = true := List.all_eq_true.mpr h
def PS (σ : PH) (o o' : Nat) (A : AT) (W : AW) : PO → PH → Prop := rX (fun y σ' => y = b2i (allS (tO A) W (tH A)) ∧ IT σ' o o' A ∧ Ch (inS sAux) σ σ')
section C55
variable {Γ : Gm} {σ : PH} {o o' : Nat} {A : AT} {W : AW}
set_option maxRecDepth 4000 in
theorem m_allSo {σ1 : PH} {i l : Nat} (hi : i ≤ 12) (h1 : IA σ1 o o' A (daysF (tO A) i W)) (hc1 : Ch (inS sAux) σ σ1) (hW : OkV (tO A) W) (hd : vD W ≤ 2000) (kk : ∀ x4, (∀ q ∈ tH A, q.2.2.1 = i → gdH (tO A) W q = true) → Ok Γ 6 0 0 mX3_allSo 31 [some (.ref hh0), some (.ref wA), some (.int (nI l)), some (.int (nI (i + 1))), x4] [] σ1 (PS σ o o' A W)) : ∀ (n j : Nat), j + n = (tH A).length → (∀ (k : Nat) (q : Hr), k < j → (tH A)[k]? = some q → q.2.2.1 = i → gdH (tO A) W q = true) → Ok Γ 6 0 0 mX3_allSo 48 [some (.ref hh0), some (.ref wA), some (.int (nI l)), some (.int (nI i)), some (.int (nI j))] [] σ1 (PS σ o o' A W) := by
  have hdv := daysF_ok h1.1.2.1.2.2.1 hW i (by omega)
  have hK := h1.1.2.1
  have hO := hK.2.2.1
  have hHo := hK.2.2.2.2.2.2.2.1
  have hl8 := hHo.1
  have hg := h1.1.2.2.2.2.2.2.2.1
  have hQ1 := h1.1.2.2.2.1
  intro n
  induction n with
  | zero =>
    intro j hj hin
    refine p_iload 4 50 rfl dX3_allSo_48 rfl ?_
    refine p_aload_n 0 51 rfl rfl dX3_allSo_50 rfl ?_
    refine p_getIE 3 0 54 rfl dX3_allSo_51 fl_X3_9 rfl rfl hg.2.2.1 ?_
    refine p_icmp_ge 108 57 rfl rfl dX3_allSo_54 (fun h54 => ?_) (fun h54 => absurd (nI_le (a := (tH A).length) (b := j) (by omega) (by omega)) h54)
    refine p_inc_3 111 rfl dX3_allSo_108 (1) rfl (Nat.le_of_ble_eq_true rfl) rfl ?_
    refine p_goto 31 rfl dX3_allSo_111 ?_
    rw [nI_1]
    refine kk _ (fun q hq e => ?_)
    obtain ⟨k', hk'⟩ := List.getElem?_of_mem hq
    exact hin k' q (by have := (List.getElem?_eq_some_iff.mp hk').1; omega) hk' e
  | succ n ih =>
    intro j hj hin
    obtain ⟨q, hq⟩ : ∃ q, (tH A)[j]? = some q := ⟨(tH A)[j]'(by omega), List.getElem?_eq_getElem (by omega)⟩
    have hqm : q ∈ tH A := List.mem_of_getElem? hq
    have he := hg.2.2.2 j q hq
    have hqo := hHo.2 q hqm
    refine p_iload 4 50 rfl dX3_allSo_48 rfl ?_
    refine p_aload_n 0 51 rfl rfl dX3_allSo_50 rfl ?_
    refine p_getIE 3 0 54 rfl dX3_allSo_51 fl_X3_9 rfl rfl hg.2.2.1 ?_
    refine p_icmp_ge 108 57 rfl rfl dX3_allSo_54 (fun h54 => absurd h54 (nI_ge (a := j) (b := (tH A).length) (by omega) (by omega))) (fun h54 => ?_)
    refine p_aload_n 0 58 rfl rfl dX3_allSo_57 rfl ?_
    refine p_getR 3 3 61 rfl dX3_allSo_58 fl_X3_22 rfl rfl hg.1.2.2.2.1 (mk0 (Nat.succ_ne_zero _)) ?_
    refine p_iload 4 63 rfl dX3_allSo_61 rfl ?_
    refine p_ialdE 64 rfl dX3_allSo_63 (kd16 _ _) (lt8 (by omega)) he.2.2.1 ?_
    refine p_iload_n 3 65 rfl rfl dX3_allSo_64 rfl ?_
    refine p_icmp_ne 102 68 rfl rfl dX3_allSo_65 (fun h65 => ?_) (fun h65 => ?_)
    · refine p_inc_4 105 rfl dX3_allSo_102 (1) rfl (Nat.le_of_ble_eq_true rfl) rfl ?_
      refine p_goto 48 rfl dX3_allSo_105 ?_
      rw [nI_1]
      refine ih (j + 1) (by omega) ?_
      · intro k' q' hk' hq' e'
        rcases Nat.lt_or_ge k' j with z | z
        · exact hin k' q' z hq' e'
        · exfalso
          rw [show k' = j by omega, hq] at hq'; cases hq'
          exact h65 (by rw [e'])
    · refine p_aload_n 1 69 rfl rfl dX3_allSo_68 rfl ?_
      refine p_getR 7 5 72 rfl dX3_allSo_69 fl_X3_41 rfl rfl h1.2.1.1.2.2.2.2.1 (mk0 (Nat.succ_ne_zero _)) ?_
      refine p_aload_n 0 73 rfl rfl dX3_allSo_72 rfl ?_
      refine p_getR 3 1 76 rfl dX3_allSo_73 fl_X3_15 rfl rfl hg.1.2.1 (mk0 (Nat.succ_ne_zero _)) ?_
      refine p_iload 4 78 rfl dX3_allSo_76 rfl ?_
      refine p_ialdE 79 rfl dX3_allSo_78 (kd16 _ _) (lt8 (by omega)) he.1 ?_
      refine p_ialdE 80 rfl dX3_allSo_79 (kd16 _ _) (lt6 (by have := hO.2.1; omega)) (h1.2.1.2.2.2 q.1 (by have := hO.2.1; omega)) ?_
      refine p_aload_n 0 81 rfl rfl dX3_allSo_80 rfl ?_
      refine p_getR 3 2 84 rfl dX3_allSo_81 fl_X3_19 rfl rfl hg.1.2.2.1 (mk0 (Nat.succ_ne_zero _)) ?_
      refine p_iload 4 86 rfl dX3_allSo_84 rfl ?_
      refine p_ialdE 87 rfl dX3_allSo_86 (kd16 _ _) (lt8 (by omega)) he.2.1 ?_
      refine p_cN2i 90 rfl dX3_allSo_87 (c_hasBitN (Nat.lt_trans (hdv.2.2.2 q.1 (by have := hO.2.1; omega)) (by decide)) (by have := hO.2.2.1; omega)) mn_X3_44 sl_X8_hasBit (Nat.le_of_ble_eq_true rfl) (Nat.le_of_ble_eq_true rfl) ?_
      refine p_aload_n 0 91 rfl rfl dX3_allSo_90 rfl ?_
      refine p_getR 3 4 94 rfl dX3_allSo_91 fl_X3_25 rfl rfl hg.1.2.2.2.2 (mk0 (Nat.succ_ne_zero _)) ?_
      refine p_iload 4 96 rfl dX3_allSo_94 rfl ?_
      refine p_zaldE 97 rfl dX3_allSo_96 (kd18 _ _) (lt8z (by omega)) he.2.2.2 ?_
      refine p_icmp_eq 102 100 rfl rfl dX3_allSo_97 (fun h97 => ?_) (fun h97 => ?_)
      · refine p_inc_4 105 rfl dX3_allSo_102 (1) rfl (Nat.le_of_ble_eq_true rfl) rfl ?_
        refine p_goto 48 rfl dX3_allSo_105 ?_
        have hx : (vK (daysF (tO A) i W) q.1).testBit q.2.1 = q.2.2.2 := by
          revert h97
          cases (vK (daysF (tO A) i W) q.1).testBit q.2.1 <;> cases q.2.2.2 <;> decide
        rw [nI_1]
        refine ih (j + 1) (by omega) ?_
        · intro k' q' hk' hq' e'
          rcases Nat.lt_or_ge k' j with z | z
          · exact hin k' q' z hq' e'
          · rw [show k' = j by omega, hq] at hq'; cases hq'
            unfold gdH
            rw [e', hx]; simp
      · refine p_iconst (0) 101 rfl dX3_allSo_100 rfl ?_
        exact p_zret dX3_allSo_101 rfl rfl (by
        have hx : ¬ gdH (tO A) W q = true := by
          have e3 : q.2.2.1 = i := (nI_eq (by omega) (by omega)).mp h65
          unfold gdH
          rw [e3]
          intro z
          have z2 : (vK (daysF (tO A) i W) q.1).testBit q.2.1 = q.2.2.2 := by simpa using z
          exact h97 (by rw [z2])
        exact ⟨_, rfl, by rw [allS_f hqm hx]; rfl, h1.1, hc1⟩)
set_option maxRecDepth 4000 in
theorem l_allSo {l : Nat} (hl : l ≤ 12) (hmax : ∀ q ∈ tH A, q.2.2.1 ≤ l) (hW : OkV (tO A) W) (hd : vD W ≤ 2000) : ∀ (n i : Nat) (σ1 : PH) (x4 : Option Value), i + n = l + 1 → IA σ1 o o' A (daysF (tO A) (i - 1) W) → Ch (inS sAux) σ σ1 → (∀ q ∈ tH A, q.2.2.1 < i → gdH (tO A) W q = true) → Ok Γ 6 0 0 mX3_allSo 31 [some (.ref hh0), some (.ref wA), some (.int (nI l)), some (.int (nI i)), x4] [] σ1 (PS σ o o' A W) := by
  intro n
  induction n with
  | zero =>
    intro i σ1 x4 hi h1 hc1 hall
    have hK := h1.1.2.1
    have hO := hK.2.2.1
    have hHo := hK.2.2.2.2.2.2.2.1
    have hl8 := hHo.1
    have hg := h1.1.2.2.2.2.2.2.2.1
    have hQ1 := h1.1.2.2.2.1
    refine p_iload_n 3 32 rfl rfl dX3_allSo_31 rfl ?_
    refine p_iload_n 2 33 rfl rfl dX3_allSo_32 rfl ?_
    refine p_icmp_gt 114 36 rfl rfl dX3_allSo_33 (fun h33 => ?_) (fun h33 => absurd (nI_lt (a := l) (b := i) (by omega) (by omega)) h33)
    refine p_iconst (1) 115 rfl dX3_allSo_114 rfl ?_
    exact p_zret dX3_allSo_115 rfl rfl ⟨_, rfl, by rw [allS_t (fun q hq => hall q hq (by have := hmax q hq; omega))]; rfl, h1.1, hc1⟩
  | succ n ih =>
    intro i σ1 x4 hi h1 hc1 hall
    have hK := h1.1.2.1
    have hO := hK.2.2.1
    have hHo := hK.2.2.2.2.2.2.2.1
    have hl8 := hHo.1
    have hg := h1.1.2.2.2.2.2.2.2.1
    have hQ1 := h1.1.2.2.2.1
    have hdv := daysF_ok hO hW (i - 1) (by omega)
    refine p_iload_n 3 32 rfl rfl dX3_allSo_31 rfl ?_
    refine p_iload_n 2 33 rfl rfl dX3_allSo_32 rfl ?_
    refine p_icmp_gt 114 36 rfl rfl dX3_allSo_33 (fun h33 => absurd h33 (nI_nlt (a := l) (b := i) (by omega) (by omega))) (fun h33 => ?_)
    refine p_iload_n 3 37 rfl rfl dX3_allSo_36 rfl ?_
    refine p_if_le 45 40 rfl rfl dX3_allSo_37 (fun h37 => ?_) (fun h37 => ?_)
    · refine p_iconst (0) 46 rfl dX3_allSo_45 rfl ?_
      refine p_ist_4 48 rfl dX3_allSo_46 (Nat.le_of_ble_eq_true rfl) rfl ?_
      have hi0 : i = 0 := by
        rcases Nat.eq_zero_or_pos i with z | z
        · exact z
        · exact absurd h37 (nI_nle z (by omega))
      subst hi0
      exact m_allSo (i := 0) (l := l) (by omega) h1 hc1 hW hd (fun x4 hin => ih (0 + 1) σ1 x4 (by omega) (by rw [Nat.add_sub_cancel]; exact h1) hc1 (fun q hq e => by
          rcases Nat.lt_or_ge q.2.2.1 0 with z | z
          · exact hall q hq z
          · exact hin q hq (by omega))) (tH A).length 0 (by omega) (fun k q hk => absurd hk (Nat.not_lt_zero _))
    · refine p_aload_n 1 41 rfl rfl dX3_allSo_40 rfl ?_
      refine p_cV0x 0 0 44 rfl dX3_allSo_41 (c_passDay hQ1 hK.2.2.2.1 h1.2.1 hdv h1.2.2) ml_X3_35 vl_X7_passDay rfl (by decide) rfl (Nat.le_of_ble_eq_true rfl) (Nat.le_of_ble_eq_true rfl) (Nat.le_of_ble_eq_true rfl) (Nat.le_of_ble_eq_true rfl) rfl ?_
      rintro x2 σ2 ⟨-, hw2, hF2⟩
      have h2 := h1.wf hw2 hF2
      have hc2 := hc1.tr (hF2.aux hQ1.1.1.1)
      refine p_pop 45 rfl dX3_allSo_44 rfl ?_
      refine p_iconst (0) 46 rfl dX3_allSo_45 rfl ?_
      refine p_ist_4 48 rfl dX3_allSo_46 (Nat.le_of_ble_eq_true rfl) rfl ?_
      have hi0 : i ≠ 0 := fun z => h37 (by rw [z]; decide)
      have e1 : dayF (tO A) (daysF (tO A) (i - 1) W) = daysF (tO A) i W := by
        obtain ⟨i2, rfl⟩ : ∃ i2, i = i2 + 1 := ⟨i - 1, by omega⟩
        rfl
      rw [e1] at h2
      exact m_allSo (i := i) (l := l) (by omega) h2 hc2 hW hd (fun x4 hin => ih (i + 1) σ2 x4 (by omega) (by rw [Nat.add_sub_cancel]; exact h2) hc2 (fun q hq e => by
          rcases Nat.lt_or_ge q.2.2.1 i with z | z
          · exact hall q hq z
          · exact hin q hq (by omega))) (tH A).length 0 (by omega) (fun k q hk => absurd hk (Nat.not_lt_zero _))
set_option maxRecDepth 4000 in
theorem k_allSo (h1 : IA σ o o' A W) (hW : OkV (tO A) W) (hd : vD W ≤ 2000) (x4 : Option Value) : ∀ (n j : Nat), j + n = (tH A).length → Ok Γ 6 0 0 mX3_allSo 4 [some (.ref hh0), some (.ref wA), some (.int (nI (lstD (tH A) j))), some (.int (nI j)), x4] [] σ (PS σ o o' A W) := by
  have hK := h1.1.2.1
  have hO := hK.2.2.1
  have hHo := hK.2.2.2.2.2.2.2.1
  have hl8 := hHo.1
  have hg := h1.1.2.2.2.2.2.2.2.1
  have hQ1 := h1.1.2.2.2.1
  intro n
  induction n with
  | zero =>
    intro j hj
    refine p_iload_n 3 5 rfl rfl dX3_allSo_4 rfl ?_
    refine p_aload_n 0 6 rfl rfl dX3_allSo_5 rfl ?_
    refine p_getIE 3 0 9 rfl dX3_allSo_6 fl_X3_9 rfl rfl hg.2.2.1 ?_
    refine p_icmp_ge 29 12 rfl rfl dX3_allSo_9 (fun h9 => ?_) (fun h9 => absurd (nI_le (a := (tH A).length) (b := j) (by omega) (by omega)) h9)
    refine p_iconst (0) 30 rfl dX3_allSo_29 rfl ?_
    refine p_ist_n3 31 rfl rfl dX3_allSo_30 (Nat.le_of_ble_eq_true rfl) rfl ?_
    have hjl : j = (tH A).length := by omega
    subst hjl
    exact l_allSo (lstD_le hHo _ (Nat.le_refl _)) (fun q hq => by
      obtain ⟨k', hk'⟩ := List.getElem?_of_mem hq
      have := lstD_ge (tH A) (tH A).length k' (List.getElem?_eq_some_iff.mp hk').1
      rwa [getD_of hk'] at this) hW hd (lstD (tH A) (tH A).length + 1) 0 σ _ (by omega) h1 Ch.rf (fun q hq e => absurd e (Nat.not_lt_zero _))
  | succ n ih =>
    intro j hj
    obtain ⟨q, hq⟩ : ∃ q, (tH A)[j]? = some q := ⟨(tH A)[j]'(by omega), List.getElem?_eq_getElem (by omega)⟩
    have hqm : q ∈ tH A := List.mem_of_getElem? hq
    have he := hg.2.2.2 j q hq
    have hqo := hHo.2 q hqm
    refine p_iload_n 3 5 rfl rfl dX3_allSo_4 rfl ?_
    refine p_aload_n 0 6 rfl rfl dX3_allSo_5 rfl ?_
    refine p_getIE 3 0 9 rfl dX3_allSo_6 fl_X3_9 rfl rfl hg.2.2.1 ?_
    refine p_icmp_ge 29 12 rfl rfl dX3_allSo_9 (fun h9 => absurd h9 (nI_ge (a := j) (b := (tH A).length) (by omega) (by omega))) (fun h9 => ?_)
    refine p_iload_n 2 13 rfl rfl dX3_allSo_12 rfl ?_
    refine p_aload_n 0 14 rfl rfl dX3_allSo_13 rfl ?_
    refine p_getR 3 3 17 rfl dX3_allSo_14 fl_X3_22 rfl rfl hg.1.2.2.2.1 (mk0 (Nat.succ_ne_zero _)) ?_
    refine p_iload_n 3 18 rfl rfl dX3_allSo_17 rfl ?_
    refine p_ialdE 19 rfl dX3_allSo_18 (kd16 _ _) (lt8 (by omega)) he.2.2.1 ?_
    refine p_max 22 rfl dX3_allSo_19 ml_X3_29 (Nat.le_of_ble_eq_true rfl) (Nat.le_of_ble_eq_true rfl) ?_
    refine p_ist_n2 23 rfl rfl dX3_allSo_22 (Nat.le_of_ble_eq_true rfl) rfl ?_
    refine p_inc_3 26 rfl dX3_allSo_23 (1) rfl (Nat.le_of_ble_eq_true rfl) rfl ?_
    refine p_goto 4 rfl dX3_allSo_26 ?_
    have e : lstD (tH A) (j + 1) = max (lstD (tH A) j) q.2.2.1 := by rw [lstD, getD_of hq]
    rw [nI_1, mx_nI (by have := lstD_le hHo j (by omega); omega) (by omega), ← e]
    exact ih (j + 1) (by omega)
set_option maxRecDepth 4000 in
theorem c_allSo (h1 : IA σ o o' A W) (hW : OkV (tO A) W) (hd : vD W ≤ 2000) : CallOk Γ 6 0 0 mX3_allSo [.ref hh0, .ref wA] σ (PS σ o o' A W) := by
  refine p_enter rfl rfl (Nat.le_of_ble_eq_true rfl) rfl ?_
  refine p_iconst (0) 1 rfl dX3_allSo_0 rfl ?_
  refine p_ist_n2 2 rfl rfl dX3_allSo_1 (Nat.le_of_ble_eq_true rfl) rfl ?_
  refine p_iconst (0) 3 rfl dX3_allSo_2 rfl ?_
  refine p_ist_n3 4 rfl rfl dX3_allSo_3 (Nat.le_of_ble_eq_true rfl) rfl ?_
  exact k_allSo h1 hW hd _ (tH A).length 0 (by omega)
end C55
