/-! ===== the reference: code and waiting acts ===== -/
def CW (σ : PH) (o k : List Int32) : Prop := hI σ M0 31 = nI o.length ∧ (∀ i, i < o.length → hA σ rCd i = o.getD i 0) ∧ hI σ M0 34 = nI k.length ∧ plk (hA σ mWt) k
theorem CW.fr {σ σ' : PH} {o k : List Int32} {XI X : List Nat} (h : CW σ o k) (hf : Fj XI X σ σ') (h1 : XI.contains 31 = false) (h2 : XI.contains 34 = false) (h3 : X.contains rCd = false) (h4 : X.contains mWt = false) : CW σ' o k :=
  ⟨by rw [hf.i (by simpa using h1)]; exact h.1, by rw [hf.2.2.2.2 rCd (by simpa using h3)]; exact h.2.1, by rw [hf.i (by simpa using h2)]; exact h.2.2.1, by rw [hf.2.2.2.2 mWt (by simpa using h4)]; exact h.2.2.2⟩
theorem plk_hd {f : Nat → Int32} {a : Int32} {r : List Int32} (h : plk f (a :: r)) : f r.length = a := by
  have := h r.length (by simp)
  rw [this]
  show (a :: r).getD (r.length + 1 - 1 - r.length) 0 = a
  rw [show r.length + 1 - 1 - r.length = 0 by omega]; rfl
theorem plk_ps {f : Nat → Int32} {a : Int32} {r : List Int32} (h : plk f r) : plk (upd f r.length a) (a :: r) := by
  intro j hj
  simp only [List.length_cons] at hj
  show _ = (a :: r).getD (r.length + 1 - 1 - j) 0
  rcases Nat.lt_or_ge j r.length with q | q
  · rw [pk_un (by omega), h j q, show r.length + 1 - 1 - j = (r.length - 1 - j) + 1 by omega]; rfl
  · rw [show j = r.length by omega, pk_us, show r.length + 1 - 1 - r.length = 0 by omega]; rfl
section Ca6
variable {Γ : Gm} {σ : PH} {o k : List Int32}
set_option maxRecDepth 4000 in
theorem c_puts (hr : ∀ k, hR σ M0 k = mRef k) (h : CW σ o k) (hl : o.length < 1400) (x : Int32) : CallOk Γ 1 0 0 mX9_puts [.ref M0, .int x] σ (rV (fun σ' => CW σ' (o ++ [x]) k ∧ Fj [31] [rCd] σ σ' ∧ hJ σ' = hJ σ)) := by
  refine p_enter rfl rfl (Nat.le_of_ble_eq_true rfl) rfl ?_
  refine p_aload_n 0 1 rfl rfl dX9_puts_0 rfl ?_
  refine p_getR 9 41 4 rfl dX9_puts_1 fl_X9_56 rfl rfl (show hR _ M0 41 = rCd from hr 41) (by decide) ?_
  refine p_aload_n 0 5 rfl rfl dX9_puts_4 rfl ?_
  refine p_getIE 9 31 8 rfl dX9_puts_5 fl_X9_171 rfl rfl h.1 ?_
  refine p_iload_n 1 9 rfl rfl dX9_puts_8 rfl ?_
  refine p_iastE 10 rfl dX9_puts_9 (i := o.length) rfl (by show _ < 1400; omega) ?_
  refine p_aload_n 0 11 rfl rfl dX9_puts_10 rfl ?_
  refine p_dup 12 rfl dX9_puts_11 rfl ?_
  refine p_getIE 9 31 15 rfl dX9_puts_12 fl_X9_171 rfl rfl h.1 ?_
  refine p_iconst (1) 16 rfl dX9_puts_15 rfl ?_
  refine p_iadd 17 rfl dX9_puts_16 ?_
  rw [nI_1]
  refine p_putI 9 31 20 rfl dX9_puts_17 fl_X9_171 rfl rfl (Or.inl rfl) ?_
  refine p_vret dX9_puts_20 rfl ⟨rfl, ⟨(hI_sI _ _ _ _).trans (by simp), fun i hi => ?_, (hI_sIo (by decide)).trans h.2.2.1, ?_⟩, (Fj.sA (by simp)).tr (Fj.sI (by simp)), rfl⟩
  · rw [hA_sI, sA_s]
    rcases Nat.lt_or_ge i o.length with q | q
    · rw [pk_un (by omega), getD_app_l q]; exact h.2.1 i q
    · have e : i = o.length := by simp at hi; omega
      rw [e, pk_us, getD_app_r]
  · rw [hA_sI, sA_o (show mWt ≠ rCd by decide)]; exact h.2.2.2
set_option maxRecDepth 4000 in
theorem c_waitsFor (hr : ∀ k, hR σ M0 k = mRef k) (h : CW σ o k) (hl : k.length < 950) (x : Int32) : CallOk Γ 1 0 0 mX9_waitsFor [.ref M0, .int x] σ (rV (fun σ' => CW σ' o (x :: k) ∧ Fj [34] [mWt] σ σ' ∧ hJ σ' = hJ σ)) := by
  refine p_enter rfl rfl (Nat.le_of_ble_eq_true rfl) rfl ?_
  refine p_aload_n 0 1 rfl rfl dX9_waitsFor_0 rfl ?_
  refine p_getR 9 42 4 rfl dX9_waitsFor_1 fl_X9_59 rfl rfl (show hR _ M0 42 = mWt from hr 42) (by decide) ?_
  refine p_aload_n 0 5 rfl rfl dX9_waitsFor_4 rfl ?_
  refine p_getIE 9 34 8 rfl dX9_waitsFor_5 fl_X9_174 rfl rfl h.2.2.1 ?_
  refine p_iload_n 1 9 rfl rfl dX9_waitsFor_8 rfl ?_
  refine p_iastE 10 rfl dX9_waitsFor_9 (i := k.length) rfl (by show _ < 950; omega) ?_
  refine p_aload_n 0 11 rfl rfl dX9_waitsFor_10 rfl ?_
  refine p_dup 12 rfl dX9_waitsFor_11 rfl ?_
  refine p_getIE 9 34 15 rfl dX9_waitsFor_12 fl_X9_174 rfl rfl h.2.2.1 ?_
  refine p_iconst (1) 16 rfl dX9_waitsFor_15 rfl ?_
  refine p_iadd 17 rfl dX9_waitsFor_16 ?_
  rw [nI_1]
  refine p_putI 9 34 20 rfl dX9_waitsFor_17 fl_X9_174 rfl rfl (Or.inl rfl) ?_
  exact p_vret dX9_waitsFor_20 rfl ⟨rfl, ⟨(hI_sIo (by decide)).trans h.1, by rw [hA_sI, sA_o (show rCd ≠ mWt by decide)]; exact h.2.1, (hI_sI _ _ _ _).trans (by simp), by rw [hA_sI, sA_s]; exact plk_ps h.2.2.2⟩, (Fj.sA (by simp)).tr (Fj.sI (by simp)), rfl⟩
set_option maxRecDepth 4000 in
theorem c_isOpen (x : Int32) : CallOk Γ 1 0 0 mX9_isOpen [.int x] σ (rI σ (b2i (decide (14 ≤ x)))) := by
  refine p_enter rfl rfl (Nat.le_of_ble_eq_true rfl) rfl ?_
  refine p_iload_n 0 1 rfl rfl dX9_isOpen_0 rfl ?_
  refine p_bipush (14) 3 rfl dX9_isOpen_1 rfl ?_
  refine p_icmp_lt 10 6 rfl rfl dX9_isOpen_3 (fun h3 => ?_) (fun h3 => ?_)
  · refine p_iconst (0) 11 rfl dX9_isOpen_10 rfl ?_
    exact p_zret dX9_isOpen_11 rfl (by decide) ⟨by rw [decide_eq_false (Int32.not_le.mpr h3)]; rfl, rfl⟩
  · refine p_iconst (1) 7 rfl dX9_isOpen_6 rfl ?_
    refine p_goto 11 rfl dX9_isOpen_7 ?_
    exact p_zret dX9_isOpen_11 rfl (by decide) ⟨by rw [decide_eq_true (Int32.not_lt.mp h3)]; rfl, rfl⟩
set_option maxRecDepth 4000 in
theorem c_strength (x : Int32) : CallOk Γ 1 0 0 mX9_strength [.int x] σ (rI σ (nI (sgth x))) := by
  refine p_enter rfl rfl (Nat.le_of_ble_eq_true rfl) rfl ?_
  refine p_iload_n 0 1 rfl rfl dX9_strength_0 rfl ?_
  refine p_iconst (5) 2 rfl dX9_strength_1 rfl ?_
  refine p_icmp_ne 9 5 rfl rfl dX9_strength_2 (fun h2 => ?_) (fun h2 => ?_)
  · refine p_iload_n 0 10 rfl rfl dX9_strength_9 rfl ?_
    refine p_iconst (4) 11 rfl dX9_strength_10 rfl ?_
    refine p_icmp_ne 18 14 rfl rfl dX9_strength_11 (fun h11 => ?_) (fun h11 => ?_)
    · refine p_iload_n 0 19 rfl rfl dX9_strength_18 rfl ?_
      refine p_iconst (3) 20 rfl dX9_strength_19 rfl ?_
      refine p_icmp_ne 27 23 rfl rfl dX9_strength_20 (fun h20 => ?_) (fun h20 => ?_)
      · refine p_iload_n 0 28 rfl rfl dX9_strength_27 rfl ?_
        refine p_bipush (6) 30 rfl dX9_strength_28 rfl ?_
        refine p_icmp_eq 39 33 rfl rfl dX9_strength_30 (fun h30 => ?_) (fun h30 => ?_)
        · refine p_iconst (4) 40 rfl dX9_strength_39 rfl ?_
          refine p_goto 61 rfl dX9_strength_40 ?_
          exact p_iret dX9_strength_61 rfl ⟨by unfold sgth; rw [if_neg h2, if_neg h11, if_neg h20, if_pos (Or.inl h30)]; rfl, rfl⟩
        · refine p_iload_n 0 34 rfl rfl dX9_strength_33 rfl ?_
          refine p_bipush (7) 36 rfl dX9_strength_34 rfl ?_
          refine p_icmp_ne 43 39 rfl rfl dX9_strength_36 (fun h36 => ?_) (fun h36 => ?_)
          · refine p_iload_n 0 44 rfl rfl dX9_strength_43 rfl ?_
            refine p_bipush (8) 46 rfl dX9_strength_44 rfl ?_
            refine p_icmp_eq 55 49 rfl rfl dX9_strength_46 (fun h46 => ?_) (fun h46 => ?_)
            · refine p_iconst (5) 56 rfl dX9_strength_55 rfl ?_
              refine p_goto 61 rfl dX9_strength_56 ?_
              exact p_iret dX9_strength_61 rfl ⟨by unfold sgth; rw [if_neg h2, if_neg h11, if_neg h20, if_neg (fun q => q.elim h30 h36), if_pos (Or.inl h46)]; rfl, rfl⟩
            · refine p_iload_n 0 50 rfl rfl dX9_strength_49 rfl ?_
              refine p_bipush (9) 52 rfl dX9_strength_50 rfl ?_
              refine p_icmp_ne 59 55 rfl rfl dX9_strength_52 (fun h52 => ?_) (fun h52 => ?_)
              · refine p_bipush (6) 61 rfl dX9_strength_59 rfl ?_
                exact p_iret dX9_strength_61 rfl ⟨by unfold sgth; rw [if_neg h2, if_neg h11, if_neg h20, if_neg (fun q => q.elim h30 h36), if_neg (fun q => q.elim h46 h52)]; rfl, rfl⟩
              · refine p_iconst (5) 56 rfl dX9_strength_55 rfl ?_
                refine p_goto 61 rfl dX9_strength_56 ?_
                exact p_iret dX9_strength_61 rfl ⟨by unfold sgth; rw [if_neg h2, if_neg h11, if_neg h20, if_neg (fun q => q.elim h30 h36), if_pos (Or.inr h52)]; rfl, rfl⟩
          · refine p_iconst (4) 40 rfl dX9_strength_39 rfl ?_
            refine p_goto 61 rfl dX9_strength_40 ?_
            exact p_iret dX9_strength_61 rfl ⟨by unfold sgth; rw [if_neg h2, if_neg h11, if_neg h20, if_pos (Or.inr h36)]; rfl, rfl⟩
      · refine p_iconst (3) 24 rfl dX9_strength_23 rfl ?_
        refine p_goto 61 rfl dX9_strength_24 ?_
        exact p_iret dX9_strength_61 rfl ⟨by unfold sgth; rw [if_neg h2, if_neg h11, if_pos h20]; rfl, rfl⟩
    · refine p_iconst (2) 15 rfl dX9_strength_14 rfl ?_
      refine p_goto 61 rfl dX9_strength_15 ?_
      exact p_iret dX9_strength_61 rfl ⟨by unfold sgth; rw [if_neg h2, if_pos h11]; rfl, rfl⟩
  · refine p_iconst (1) 6 rfl dX9_strength_5 rfl ?_
    refine p_goto 61 rfl dX9_strength_6 ?_
    exact p_iret dX9_strength_61 rfl ⟨by unfold sgth; rw [if_pos h2]; rfl, rfl⟩
theorem sgth_le (a : Int32) : sgth a ≤ 6 := by unfold sgth; repeat (first | decide | split)
set_option maxRecDepth 4000 in
theorem l_drops {o0 k0 : List Int32} {l : Nat} (hl9 : l < 100) : ∀ (k1 o1 : List Int32) (σ1 : PH), o1.length + k1.length ≤ 1400 ∧ k1.length ≤ 950 → drp l o1 k1 = drp l o0 k0 → CW σ1 o1 k1 → (∀ k, hR σ1 M0 k = mRef k) → Fj [31, 34] [rCd] σ σ1 → hJ σ1 = hJ σ → Ok Γ 3 0 0 mX9_drops 0 [some (.ref M0), some (.int (nI l))] [] σ1 (rV (fun σ' => CW σ' (drp l o0 k0).1 (drp l o0 k0).2 ∧ Fj [31, 34] [rCd] σ σ' ∧ hJ σ' = hJ σ)) := by
  intro k1
  induction k1 with
  | nil =>
    intro o1 σ1 hl hd h hr1 hF hJJ
    refine p_aload_n 0 1 rfl rfl dX9_drops_0 rfl ?_
    refine p_getIE 9 34 4 rfl dX9_drops_1 fl_X9_174 rfl rfl h.2.2.1 ?_
    refine p_if_le 68 7 rfl rfl dX9_drops_4 (fun h4 => ?_) (fun h4 => absurd (show nI ([] : List Int32).length ≤ 0 by decide) h4)
    exact p_vret dX9_drops_68 rfl ⟨rfl, by rw [← hd]; exact h, hF, hJJ⟩
  | cons a r ih =>
    intro o1 σ1 hl hd h hr1 hF hJJ
    refine p_aload_n 0 1 rfl rfl dX9_drops_0 rfl ?_
    refine p_getIE 9 34 4 rfl dX9_drops_1 fl_X9_174 rfl rfl h.2.2.1 ?_
    refine p_if_le 68 7 rfl rfl dX9_drops_4 (fun h4 => absurd h4 (nI_nle (n := (a :: r).length) (by simp) (by simp at hl ⊢; omega))) (fun h4 => ?_)
    refine p_aload_n 0 8 rfl rfl dX9_drops_7 rfl ?_
    refine p_getR 9 42 11 rfl dX9_drops_8 fl_X9_59 rfl rfl (show hR _ M0 42 = mWt from hr1 42) (by decide) ?_
    refine p_aload_n 0 12 rfl rfl dX9_drops_11 rfl ?_
    refine p_getIE 9 34 15 rfl dX9_drops_12 fl_X9_174 rfl rfl h.2.2.1 ?_
    refine p_iconst (1) 16 rfl dX9_drops_15 rfl ?_
    refine p_isub 17 rfl dX9_drops_16 ?_
    rw [show nI (a :: r).length - 1 = nI r.length from (nI_sb (b := 1) (by simp)).trans (by simp)]
    refine p_ialdE 18 rfl dX9_drops_17 (i := r.length) rfl (by show _ < 950; simp at hl; omega) (plk_hd h.2.2.2) ?_
    refine p_cS1i 21 rfl dX9_drops_18 (c_isOpen _) ml_X9_177 sl_X9_isOpen (Nat.le_of_ble_eq_true rfl) (Nat.le_of_ble_eq_true rfl) rfl ?_
    refine p_if_ne 68 24 rfl rfl dX9_drops_21 (fun h21 => ?_) (fun h21 => ?_)
    · exact p_vret dX9_drops_68 rfl ⟨rfl, by rw [← hd, show drp l o1 (a :: r) = (o1, a :: r) from if_neg (fun q => absurd (of_decide_eq_true (b2i_t h21)) (Int32.not_le.mpr q.1))]; exact h, hF, hJJ⟩
    · refine p_aload_n 0 25 rfl rfl dX9_drops_24 rfl ?_
      refine p_getR 9 42 28 rfl dX9_drops_25 fl_X9_59 rfl rfl (show hR _ M0 42 = mWt from hr1 42) (by decide) ?_
      refine p_aload_n 0 29 rfl rfl dX9_drops_28 rfl ?_
      refine p_getIE 9 34 32 rfl dX9_drops_29 fl_X9_174 rfl rfl h.2.2.1 ?_
      refine p_iconst (1) 33 rfl dX9_drops_32 rfl ?_
      refine p_isub 34 rfl dX9_drops_33 ?_
      rw [show nI (a :: r).length - 1 = nI r.length from (nI_sb (b := 1) (by simp)).trans (by simp)]
      refine p_ialdE 35 rfl dX9_drops_34 (i := r.length) rfl (by show _ < 950; simp at hl; omega) (plk_hd h.2.2.2) ?_
      refine p_cS1i 38 rfl dX9_drops_35 (c_strength _) ml_X9_180 sl_X9_strength (Nat.le_of_ble_eq_true rfl) (Nat.le_of_ble_eq_true rfl) rfl ?_
      refine p_iload_n 1 39 rfl rfl dX9_drops_38 rfl ?_
      refine p_icmp_lt 68 42 rfl rfl dX9_drops_39 (fun h39 => ?_) (fun h39 => ?_)
      · exact p_vret dX9_drops_68 rfl ⟨rfl, by rw [← hd, show drp l o1 (a :: r) = (o1, a :: r) from if_neg (fun q => absurd h39 (nI_nlt q.2 (by have := sgth_le a; omega)))]; exact h, hF, hJJ⟩
      · refine p_aload_n 0 43 rfl rfl dX9_drops_42 rfl ?_
        refine p_dup 44 rfl dX9_drops_43 rfl ?_
        refine p_getIE 9 34 47 rfl dX9_drops_44 fl_X9_174 rfl rfl h.2.2.1 ?_
        refine p_iconst (1) 48 rfl dX9_drops_47 rfl ?_
        refine p_isub 49 rfl dX9_drops_48 ?_
        rw [show nI (a :: r).length - 1 = nI r.length from (nI_sb (b := 1) (by simp)).trans (by simp)]
        refine p_putI 9 34 52 rfl dX9_drops_49 fl_X9_174 rfl rfl (Or.inl rfl) ?_
        have h2 : CW (sI σ1 M0 34 (nI r.length)) o1 r := ⟨(hI_sIo (by decide)).trans h.1, h.2.1, hI_sI _ _ _ _, plk_tl h.2.2.2⟩
        have hopn : a < 14 := Int32.not_le.mp (of_decide_eq_false (b2i_f h21))
        have hstr : l ≤ sgth a := (Nat.lt_or_ge (sgth a) l).elim (fun q => absurd (nI_lt q (by omega)) h39) id
        refine p_aload_n 0 53 rfl rfl dX9_drops_52 rfl ?_
        refine p_aload_n 0 54 rfl rfl dX9_drops_53 rfl ?_
        refine p_getR 9 42 57 rfl dX9_drops_54 fl_X9_59 rfl rfl (show hR _ M0 42 = mWt from hr1 42) (by decide) ?_
        refine p_aload_n 0 58 rfl rfl dX9_drops_57 rfl ?_
        refine p_getIE 9 34 61 rfl dX9_drops_58 fl_X9_174 rfl rfl (hI_sI _ _ _ _) ?_
        refine p_ialdE 62 rfl dX9_drops_61 (i := r.length) rfl (by show _ < 950; simp at hl; omega) (plk_hd h.2.2.2) ?_
        refine p_cV1v 0 0 65 rfl dX9_drops_62 (c_puts (show ∀ k, hR (sI σ1 M0 34 (nI r.length)) M0 k = mRef k from hr1) h2 (by simp at hl; omega) _) ml_X9_183 vl_X9_puts rfl (by decide) rfl (Nat.le_of_ble_eq_true rfl) (Nat.le_of_ble_eq_true rfl) (Nat.le_of_ble_eq_true rfl) (Nat.le_of_ble_eq_true rfl) rfl ?_
        intro σ2 hp2
        refine p_goto 0 rfl dX9_drops_65 ?_
        refine ih (o1 ++ [a]) σ2 (by simp at hl ⊢; omega) (by rw [← hd]; exact (if_pos ⟨hopn, hstr⟩ : drp l o1 (a :: r) = _).symm) hp2.1 (fun q => by rw [hp2.2.1.2.2.1]; exact hr1 q) (hF.tr ((Fj.sI (by simp)).tr (hp2.2.1.up (by decide) (by decide)))) (hp2.2.2.trans hJJ)
set_option maxRecDepth 4000 in
theorem c_drops (hr : ∀ k, hR σ M0 k = mRef k) (h : CW σ o k) (hl : o.length + k.length ≤ 1400 ∧ k.length ≤ 950) {l : Nat} (hl9 : l < 100) : CallOk Γ 3 0 0 mX9_drops [.ref M0, .int (nI l)] σ (rV (fun σ' => CW σ' (drp l o k).1 (drp l o k).2 ∧ Fj [31, 34] [rCd] σ σ' ∧ hJ σ' = hJ σ)) := by
  refine p_enter rfl rfl (Nat.le_of_ble_eq_true rfl) rfl ?_
  exact l_drops hl9 k o σ hl rfl h hr Fj.rf rfl
set_option maxRecDepth 4000 in
theorem l_isOpened (hr : ∀ k, hR σ M0 k = mRef k) : ∀ (k1 : List Int32), k1.length ≤ 950 → plk (hA σ mWt) k1 → Ok Γ 2 0 0 mX9_isOpened 7 [some (.ref M0), some (.int (pI k1.length))] [] σ (rI σ (b2i (k1.any (fun a => decide (14 ≤ a))))) := by
  intro k1
  induction k1 with
  | nil =>
    intro hl hp
    show Ok Γ 2 0 0 mX9_isOpened 7 [some (.ref M0), some (.int (pI 0))] [] σ _
    refine p_iload_n 1 8 rfl rfl dX9_isOpened_7 rfl ?_
    refine p_if_lt 29 11 rfl rfl dX9_isOpened_8 (fun h8 => ?_) (fun h8 => absurd ((pI_lt0 (c := 0) (by decide)).mpr rfl) h8)
    refine p_iload_n 1 30 rfl rfl dX9_isOpened_29 rfl ?_
    refine p_if_lt 37 33 rfl rfl dX9_isOpened_30 (fun h30 => ?_) (fun h30 => absurd ((pI_lt0 (c := 0) (by decide)).mpr rfl) h30)
    refine p_iconst (0) 38 rfl dX9_isOpened_37 rfl ?_
    exact p_zret dX9_isOpened_38 rfl (by decide) ⟨rfl, rfl⟩
  | cons a r ih =>
    intro hl hp
    show Ok Γ 2 0 0 mX9_isOpened 7 [some (.ref M0), some (.int (pI (r.length + 1)))] [] σ _
    refine p_iload_n 1 8 rfl rfl dX9_isOpened_7 rfl ?_
    refine p_if_lt 29 11 rfl rfl dX9_isOpened_8 (fun h8 => absurd ((pI_lt0' (c := r.length + 1) (by simp at hl; omega)).mp h8) (by omega)) (fun h8 => ?_)
    rw [pI_town]
    refine p_aload_n 0 12 rfl rfl dX9_isOpened_11 rfl ?_
    refine p_getR 9 42 15 rfl dX9_isOpened_12 fl_X9_59 rfl rfl (show hR _ M0 42 = mWt from hr 42) (by decide) ?_
    refine p_iload_n 1 16 rfl rfl dX9_isOpened_15 rfl ?_
    refine p_ialdE 17 rfl dX9_isOpened_16 (i := r.length) rfl (by show _ < 950; simp at hl; omega) (plk_hd hp) ?_
    refine p_cS1i 20 rfl dX9_isOpened_17 (c_isOpen _) ml_X9_177 sl_X9_isOpen (Nat.le_of_ble_eq_true rfl) (Nat.le_of_ble_eq_true rfl) rfl ?_
    refine p_if_ne 29 23 rfl rfl dX9_isOpened_20 (fun h20 => ?_) (fun h20 => ?_)
    · refine p_iload_n 1 30 rfl rfl dX9_isOpened_29 rfl ?_
      refine p_if_lt 37 33 rfl rfl dX9_isOpened_30 (fun h30 => absurd (show pI (r.length + 1) < 0 by rw [pI_town]; exact h30) (fun q => absurd ((pI_lt0' (c := r.length + 1) (by simp at hl; omega)).mp q) (by omega))) (fun h30 => ?_)
      refine p_iconst (1) 34 rfl dX9_isOpened_33 rfl ?_
      refine p_goto 38 rfl dX9_isOpened_34 ?_
      exact p_zret dX9_isOpened_38 rfl (by decide) ⟨by rw [show (a :: r).any (fun a => decide (14 ≤ a)) = true by show (decide (14 ≤ a) || r.any (fun a => decide (14 ≤ a))) = true; rw [b2i_t h20]; rfl]; rfl, rfl⟩
    · refine p_inc_1 26 rfl dX9_isOpened_23 (-1) rfl (Nat.le_of_ble_eq_true rfl) rfl ?_
      refine p_goto 7 rfl dX9_isOpened_26 ?_
      rw [pI_dn]
      have e : (a :: r).any (fun a => decide (14 ≤ a)) = r.any (fun a => decide (14 ≤ a)) := by show (decide (14 ≤ a) || r.any (fun a => decide (14 ≤ a))) = _; rw [b2i_f h20]; rfl
      rw [e]
      exact ih (by simp at hl; omega) (plk_tl hp)
set_option maxRecDepth 4000 in
theorem c_isOpened (hr : ∀ k, hR σ M0 k = mRef k) (h : CW σ o k) (hl : k.length ≤ 950) : CallOk Γ 2 0 0 mX9_isOpened [.ref M0] σ (rI σ (b2i (opnd k))) := by
  refine p_enter rfl rfl (Nat.le_of_ble_eq_true rfl) rfl ?_
  refine p_aload_n 0 1 rfl rfl dX9_isOpened_0 rfl ?_
  refine p_getIE 9 34 4 rfl dX9_isOpened_1 fl_X9_174 rfl rfl h.2.2.1 ?_
  refine p_iconst (1) 5 rfl dX9_isOpened_4 rfl ?_
  refine p_isub 6 rfl dX9_isOpened_5 ?_
  refine p_ist_n1 7 rfl rfl dX9_isOpened_6 (Nat.le_of_ble_eq_true rfl) rfl ?_
  rw [show nI k.length - 1 = pI k.length from rfl]
  exact l_isOpened hr k hl h.2.2.2
end Ca6
