/-! ===== the reference: lines of sheets, clerks, words ===== -/
theorem LMx.f {σ : PH} {tx : Nat → Nat} {z : Nat} {S : RS} {B : OB} (hT : TpM σ tx z) (h : RdM σ tx z S) (hf : ¬ S.1 = 0) : LMx σ tx z (S, B) := ⟨hT, h, fun q => absurd q hf⟩
section Cac
variable {Γ : Gm} {σ : PH} {tx : Nat → Nat} {z : Nat}
set_option maxRecDepth 12000 in
theorem c_rSheet {S : RS} {B : OB} {o : List Int32} (hT : TpM σ tx z) (h : RdM σ tx z S) (ho : OkR z S) (hc : CO σ o) (hB : RBm σ B o) (hl : o.length ≤ 2 * S.2.2.2.1) (h9 : aS B.1 < 9) : CallOk Γ 6 0 0 mX9_readsSheet [.ref M0] σ (rV (fun σ' => LMx σ' tx z ((rdN tx z 3 (rdN tx z 255 (rdN tx z 255 S).2).2).2, if (rdN tx z 3 (rdN tx z 255 (rdN tx z 255 S).2).2).2.1 = 0 then bSheet B (rdN tx z 255 S).1 (rdN tx z 255 (rdN tx z 255 S).2).1 (rdN tx z 3 (rdN tx z 255 (rdN tx z 255 S).2).2).1 else B) ∧ Fj [14, 15, 18, 19, 20, 21, 22, 23, 25, 26, 27, 28, 29, 30, 31, 32, 33, 34, 35] [nRd, nRl, nWl, nWr, nRw, rCd, mWt, mTs] σ σ')) := by
  have hr0 := hT.1
  have hc6 := hB.1.2.1
  refine p_enter rfl rfl (Nat.le_of_ble_eq_true rfl) rfl ?_
  refine p_aload_n 0 1 rfl rfl dX9_readsSheet_0 rfl ?_
  refine p_getIE 9 25 4 rfl dX9_readsSheet_1 fl_X9_224 rfl rfl hB.2.1.1.1 ?_
  refine p_ist_n1 5 rfl rfl dX9_readsSheet_4 (Nat.le_of_ble_eq_true rfl) rfl ?_
  refine p_aload_n 0 6 rfl rfl dX9_readsSheet_5 rfl ?_
  refine p_getR 9 40 9 rfl dX9_readsSheet_6 fl_X9_53 rfl rfl (show hR _ M0 40 = nRw from hr0 40) (by decide) ?_
  refine p_iconst (1) 10 rfl dX9_readsSheet_9 rfl ?_
  refine p_iload_n 1 11 rfl rfl dX9_readsSheet_10 rfl ?_
  refine p_iadd 12 rfl dX9_readsSheet_11 ?_
  rw [ix0 1 (aS B.1) 1 rfl]
  refine p_aload_n 0 13 rfl rfl dX9_readsSheet_12 rfl ?_
  refine p_iconst (0) 14 rfl dX9_readsSheet_13 rfl ?_
  refine p_sipush (255) 17 rfl dX9_readsSheet_14 rfl ?_
  refine p_cV2x 0 0 20 rfl dX9_readsSheet_17 (c_number hT h (m := 255) (by decide)) ml_X9_227 vl_X9_number rfl (by decide) rfl (Nat.le_of_ble_eq_true rfl) (Nat.le_of_ble_eq_true rfl) (Nat.le_of_ble_eq_true rfl) (Nat.le_of_ble_eq_true rfl) rfl ?_
  rintro v1 σ1 ⟨hr1, hv1, hF1⟩
  refine p_iastE 21 rfl dX9_readsSheet_20 (i := 1 + aS B.1) rfl (by show _ < 34; omega) ?_
  have hT1 : TpM (sA σ1 nRw (1 + aS B.1) v1) tx z := (hT.fr hF1 rfl).fr (Fj.sA (XI := []) (X := [nRw]) (by simp)) rfl
  have h1 : RdM (sA σ1 nRw (1 + aS B.1) v1) tx z (rdN tx z 255 S).2 := hr1.fr (Fj.sA (XI := []) (X := [nRw]) (by simp)) rfl rfl
  have hr0 : ∀ k, hR (sA σ1 nRw (1 + aS B.1) v1) M0 k = mRef k := hT1.1
  refine p_aload_n 0 22 rfl rfl dX9_readsSheet_21 rfl ?_
  refine p_getR 9 40 25 rfl dX9_readsSheet_22 fl_X9_53 rfl rfl (show hR _ M0 40 = nRw from hr0 40) (by decide) ?_
  refine p_bipush (10) 27 rfl dX9_readsSheet_25 rfl ?_
  refine p_iload_n 1 28 rfl rfl dX9_readsSheet_27 rfl ?_
  refine p_iadd 29 rfl dX9_readsSheet_28 ?_
  rw [ix0 10 (aS B.1) 10 rfl]
  refine p_aload_n 0 30 rfl rfl dX9_readsSheet_29 rfl ?_
  refine p_iconst (0) 31 rfl dX9_readsSheet_30 rfl ?_
  refine p_sipush (255) 34 rfl dX9_readsSheet_31 rfl ?_
  refine p_cV2x 0 0 37 rfl dX9_readsSheet_34 (c_number hT1 h1 (m := 255) (by decide)) ml_X9_227 vl_X9_number rfl (by decide) rfl (Nat.le_of_ble_eq_true rfl) (Nat.le_of_ble_eq_true rfl) (Nat.le_of_ble_eq_true rfl) (Nat.le_of_ble_eq_true rfl) rfl ?_
  rintro v2 σ2 ⟨hr2, hv2, hF2⟩
  refine p_iastE 38 rfl dX9_readsSheet_37 (i := 10 + aS B.1) rfl (by show _ < 34; omega) ?_
  have hT2 : TpM (sA σ2 nRw (10 + aS B.1) v2) tx z := (hT1.fr hF2 rfl).fr (Fj.sA (XI := []) (X := [nRw]) (by simp)) rfl
  have h2 : RdM (sA σ2 nRw (10 + aS B.1) v2) tx z (rdN tx z 255 (rdN tx z 255 S).2).2 := hr2.fr (Fj.sA (XI := []) (X := [nRw]) (by simp)) rfl rfl
  have hr0 : ∀ k, hR (sA σ2 nRw (10 + aS B.1) v2) M0 k = mRef k := hT2.1
  refine p_aload_n 0 39 rfl rfl dX9_readsSheet_38 rfl ?_
  refine p_getR 9 40 42 rfl dX9_readsSheet_39 fl_X9_53 rfl rfl (show hR _ M0 40 = nRw from hr0 40) (by decide) ?_
  refine p_bipush (19) 44 rfl dX9_readsSheet_42 rfl ?_
  refine p_iload_n 1 45 rfl rfl dX9_readsSheet_44 rfl ?_
  refine p_iadd 46 rfl dX9_readsSheet_45 ?_
  rw [ix0 19 (aS B.1) 19 rfl]
  refine p_aload_n 0 47 rfl rfl dX9_readsSheet_46 rfl ?_
  refine p_iconst (0) 48 rfl dX9_readsSheet_47 rfl ?_
  refine p_iconst (3) 49 rfl dX9_readsSheet_48 rfl ?_
  refine p_cV2x 0 0 52 rfl dX9_readsSheet_49 (c_number hT2 h2 (m := 3) (by decide)) ml_X9_227 vl_X9_number rfl (by decide) rfl (Nat.le_of_ble_eq_true rfl) (Nat.le_of_ble_eq_true rfl) (Nat.le_of_ble_eq_true rfl) (Nat.le_of_ble_eq_true rfl) rfl ?_
  rintro v3 σ3 ⟨hr3, hv3, hF3⟩
  refine p_iastE 53 rfl dX9_readsSheet_52 (i := 19 + aS B.1) rfl (by show _ < 34; omega) ?_
  have hT3 : TpM (sA σ3 nRw (19 + aS B.1) v3) tx z := (hT2.fr hF3 rfl).fr (Fj.sA (XI := []) (X := [nRw]) (by simp)) rfl
  have h3 : RdM (sA σ3 nRw (19 + aS B.1) v3) tx z (rdN tx z 3 (rdN tx z 255 (rdN tx z 255 S).2).2).2 := hr3.fr (Fj.sA (XI := []) (X := [nRw]) (by simp)) rfl rfl
  have hFF : Fj [14, 15, 18, 19, 20, 21, 22, 23, 25, 26, 27, 28, 29, 30, 31, 32, 33, 34, 35] [nRd, nRl, nWl, nWr, nRw, rCd, mWt, mTs] σ (sA σ3 nRw (19 + aS B.1) v3) := ((((hF1.up (by decide) (by decide)).tr (Fj.sA (by simp))).tr ((hF2.up (by decide) (by decide)).tr (Fj.sA (by simp)))).tr ((hF3.up (by decide) (by decide)).tr (Fj.sA (by simp))))
  refine p_aload_n 0 54 rfl rfl dX9_readsSheet_53 rfl ?_
  refine p_cV0i 57 rfl dX9_readsSheet_54 (c_isGood h3) ml_X9_161 vl_X9_isGood rfl (by decide) rfl (Nat.le_of_ble_eq_true rfl) (Nat.le_of_ble_eq_true rfl) rfl ?_
  refine p_if_eq 70 60 rfl rfl dX9_readsSheet_57 (fun h57 => ?_) (fun h57 => ?_)
  · exact p_vret dX9_readsSheet_70 rfl ⟨rfl, LMx.f hT3 h3 (by have := b2i_f h57; simpa using this), hFF⟩
  · refine p_aload_n 0 61 rfl rfl dX9_readsSheet_60 rfl ?_
    refine p_dup 62 rfl dX9_readsSheet_61 rfl ?_
    refine p_getIE 9 25 65 rfl dX9_readsSheet_62 fl_X9_224 rfl rfl (((hF3.i (by decide)).trans ((hF2.i (by decide)).trans ((hF1.i (by decide)).trans hB.2.1.1.1)))) ?_
    refine p_iconst (1) 66 rfl dX9_readsSheet_65 rfl ?_
    refine p_iadd 67 rfl dX9_readsSheet_66 ?_
    rw [nI_1]
    have hg3 : (rdN tx z 3 (rdN tx z 255 (rdN tx z 255 S).2).2).2.1 = 0 := by have := b2i_t h57; simpa using this
    have hg2 := (rdN_0 hg3)
    have hg1 := (rdN_0 hg2.1)
    have hg0 := (rdN_0 hg1.1)
    have hFF2 : Fj [14, 15, 18, 19, 20, 21, 22, 23, 25, 26, 27, 28, 29, 30, 31, 32, 33, 34, 35] [nRd, nRl, nWl, nWr, nRw, rCd, mWt, mTs] σ (sI (sA σ3 nRw (19 + aS B.1) v3) M0 25 (nI (aS B.1 + 1))) := hFF.tr (Fj.sI (by simp))
    have row : hA (sA σ3 nRw (19 + aS B.1) v3) nRw = upd (upd (upd (hA σ nRw) (1 + aS B.1) v1) (10 + aS B.1) v2) (19 + aS B.1) v3 := by
      rw [sA_s, hF3.2.2.2.2 nRw (by simp), sA_s, hF2.2.2.2.2 nRw (by simp), sA_s, hF1.2.2.2.2 nRw (by simp)]
    have eo : ∀ r, r ≠ nRw → hA (sI (sA σ3 nRw (19 + aS B.1) v3) M0 25 (nI (aS B.1 + 1))) r = hA σ r := fun r hr => by
      rw [hA_sI, sA_o hr, hF3.2.2.2.2 r (by simp), sA_o hr, hF2.2.2.2.2 r (by simp), sA_o hr, hF1.2.2.2.2 r (by simp)]
    have ei : ∀ k, k ∉ [14, 15, 18, 19, 20, 21, 22, 23, 25] → hI (sI (sA σ3 nRw (19 + aS B.1) v3) M0 25 (nI (aS B.1 + 1))) M0 k = hI σ M0 k := fun k hk => by
      simp only [List.mem_cons, List.not_mem_nil, or_false, not_or] at hk
      rw [hI_sIo (by simp [hk])]
      show hI σ3 M0 k = _
      rw [hF3.i (by simp [hk])]
      show hI σ2 M0 k = _
      rw [hF2.i (by simp [hk])]
      show hI σ1 M0 k = _
      rw [hF1.i (by simp [hk])]
    have hfin : LMx (sI (sA σ3 nRw (19 + aS B.1) v3) M0 25 (nI (aS B.1 + 1))) tx z ((rdN tx z 3 (rdN tx z 255 (rdN tx z 255 S).2).2).2, if (rdN tx z 3 (rdN tx z 255 (rdN tx z 255 S).2).2).2.1 = 0 then bSheet B (rdN tx z 255 S).1 (rdN tx z 255 (rdN tx z 255 S).2).1 (rdN tx z 3 (rdN tx z 255 (rdN tx z 255 S).2).2).1 else B) := by
      refine ⟨hT3.fr (Fj.sI (XI := [25]) (X := []) (by simp)) rfl, h3.fr (Fj.sI (XI := [25]) (X := []) (by simp)) rfl rfl, fun _ => ⟨o, ⟨(ei 31 (by decide)).trans hc.1, by rw [eo rCd (by decide)]; exact hc.2⟩, ?_, ?_⟩⟩
      · show RBm _ (if (rdN tx z 3 (rdN tx z 255 (rdN tx z 255 S).2).2).2.1 = 0 then bSheet B (rdN tx z 255 S).1 (rdN tx z 255 (rdN tx z 255 S).2).1 (rdN tx z 3 (rdN tx z 255 (rdN tx z 255 S).2).2).1 else B) o
        rw [if_pos hg3]
        obtain ⟨b1, b2, b3, b4, b5, b6, b7⟩ := hB
        refine ⟨⟨by show aS B.1 + 1 ≤ 9; omega, b1.2.1, b1.2.2.1, b1.2.2.2.1, b1.2.2.2.2.1, fun k hk => ?_⟩, ⟨⟨hI_sI _ _ _ _, (ei 26 (by decide)).trans b2.1.2.1, (ei 27 (by decide)).trans b2.1.2.2⟩, (ei 28 (by decide)).trans b2.2.1, b2.2.2⟩, ?_, ?_, ?_, b6.e (ei 29 (by decide)), b7.e (ei 30 (by decide))⟩
        · have := b1.2.2.2.2.2 k hk
          show aL B.1 k < aS B.1 + 1 ∧ aB B.1 k < aS B.1 + 1
          omega
        · rw [hA_sI, row]
          refine ⟨by rw [pk_un (by omega), pk_un (by omega), pk_un (by omega)]; exact b3.1, fun s hs => ?_, fun c hc => ?_⟩
          · have hs' : s < aS B.1 + 1 := hs
            show _ = nI (va_up B.2.1 (aS B.1) (rdN tx z 255 S).1 s) ∧ _ = nI (va_up B.2.2.1 (aS B.1) (rdN tx z 255 (rdN tx z 255 S).2).1 s) ∧ _ = nI (va_up B.2.2.2.1 (aS B.1) (rdN tx z 3 (rdN tx z 255 (rdN tx z 255 S).2).2).1 s) ∧ va_up B.2.2.2.1 (aS B.1) (rdN tx z 3 (rdN tx z 255 (rdN tx z 255 S).2).2).1 s < 4
            by_cases e : s = aS B.1
            · subst e
              rw [va_ups, va_ups, va_ups]
              have h34 : (rdN tx z 3 (rdN tx z 255 (rdN tx z 255 S).2).2).1 ≤ 3 := rdN_le _ _ _ _
              exact ⟨by rw [pk_un (by omega), pk_un (by omega), pk_us]; exact hv1 hg1.1, by rw [pk_un (by omega), pk_us]; exact hv2 hg2.1, by rw [pk_us]; exact hv3 hg3, by omega⟩
            · rw [va_upo e, va_upo e, va_upo e, pk_un (by omega), pk_un (by omega), pk_un (by omega), pk_un (by omega), pk_un (by omega), pk_un (by omega), pk_un (by omega), pk_un (by omega), pk_un (by omega)]
              exact b3.2.1 s (by omega)
          · have hc' : c < aC B.1 := hc
            rw [pk_un (by omega), pk_un (by omega), pk_un (by omega)]; exact b3.2.2 c hc'
        · rw [eo nRl (by decide), eo nRd (by decide)]; exact b4
        · rw [eo nWl (by decide), eo nWr (by decide)]; exact b5
      · show o.length ≤ 2 * (rdN tx z 3 (rdN tx z 255 (rdN tx z 255 S).2).2).2.2.2.2.1
        have s3 := adv_st (tx := tx) (rdN_ok (tx := tx) (m := 255) (rdN_ok (tx := tx) (m := 255) ho).1).1 (by rw [hg2.2.1]; decide)
        have s2 := adv_st (tx := tx) (rdN_ok (tx := tx) (m := 255) ho).1 (by rw [hg1.2.1]; decide)
        have s1 := adv_st (tx := tx) ho (by rw [hg0.2.1]; decide)
        have q1 : (rdN tx z 255 S).2 = adv tx z S := by rw [hg0.2.2.2]
        have q2 : (rdN tx z 255 (rdN tx z 255 S).2).2 = adv tx z (rdN tx z 255 S).2 := by rw [hg1.2.2.2]
        have q3 : (rdN tx z 3 (rdN tx z 255 (rdN tx z 255 S).2).2).2 = adv tx z (rdN tx z 255 (rdN tx z 255 S).2).2 := by rw [hg2.2.2.2]
        rw [← q1] at s1
        rw [← q2] at s2
        rw [← q3] at s3
        omega
    refine p_putI 9 25 70 rfl dX9_readsSheet_67 fl_X9_224 rfl rfl (Or.inl rfl) ?_
    exact p_vret dX9_readsSheet_70 rfl ⟨rfl, hfin, hFF2⟩
set_option maxRecDepth 4000 in
theorem l_isWordOf {B : OB} {o : List Int32} (hr0 : ∀ k, hR σ M0 k = mRef k) (hB : RBm σ B o) (x y : Int32) : ∀ (n i : Nat), i + n = aW B.1 → Ok Γ 1 0 0 mX9_isWordOf 2 [some (.ref M0), some (.int x), some (.int y), some (.int (nI i))] [] σ (rI σ (b2i (anyF n i (fun k => decide (nI (aL B.1 k) = x) && decide (nI (aB B.1 k) = y))))) := by
  have hw12 := hB.1.2.2.1
  intro n
  induction n with
  | zero =>
    intro i hi
    refine p_iload_n 3 3 rfl rfl dX9_isWordOf_2 rfl ?_
    refine p_aload_n 0 4 rfl rfl dX9_isWordOf_3 rfl ?_
    refine p_getIE 9 27 7 rfl dX9_isWordOf_4 fl_X9_234 rfl rfl hB.2.1.1.2.2 ?_
    refine p_icmp_ge 38 10 rfl rfl dX9_isWordOf_7 (fun h7 => ?_) (fun h7 => absurd (nI_le (a := aW B.1) (b := i) (by omega) (by omega)) h7)
    refine p_iconst (0) 39 rfl dX9_isWordOf_38 rfl ?_
    exact p_zret dX9_isWordOf_39 rfl (by decide) ⟨rfl, rfl⟩
  | succ n ih =>
    intro i hi
    have hlt : i < aW B.1 := by omega
    refine p_iload_n 3 3 rfl rfl dX9_isWordOf_2 rfl ?_
    refine p_aload_n 0 4 rfl rfl dX9_isWordOf_3 rfl ?_
    refine p_getIE 9 27 7 rfl dX9_isWordOf_4 fl_X9_234 rfl rfl hB.2.1.1.2.2 ?_
    refine p_icmp_ge 38 10 rfl rfl dX9_isWordOf_7 (fun h7 => absurd h7 (nI_ge (a := i) (b := aW B.1) (by omega) (by omega))) (fun h7 => ?_)
    refine p_aload_n 0 11 rfl rfl dX9_isWordOf_10 rfl ?_
    refine p_getR 9 38 14 rfl dX9_isWordOf_11 fl_X9_47 rfl rfl (show hR _ M0 38 = nWl from hr0 38) (by decide) ?_
    refine p_iload_n 3 15 rfl rfl dX9_isWordOf_14 rfl ?_
    refine p_ialdE 16 rfl dX9_isWordOf_15 (i := i) rfl (by show i < 12; omega) (hB.2.2.2.2.1 i hlt).1 ?_
    refine p_iload_n 1 17 rfl rfl dX9_isWordOf_16 rfl ?_
    refine p_icmp_ne 32 20 rfl rfl dX9_isWordOf_17 (fun h17 => ?_) (fun h17 => ?_)
    · refine p_inc_3 35 rfl dX9_isWordOf_32 (1) rfl (Nat.le_of_ble_eq_true rfl) rfl ?_
      refine p_goto 2 rfl dX9_isWordOf_35 ?_
      have hb : (fun k => decide (nI (aL B.1 k) = x) && decide (nI (aB B.1 k) = y)) i = false := by show (decide (nI (aL B.1 i) = x) && _) = false; rw [decide_eq_false h17]; rfl
      have e : anyF (n + 1) i (fun k => decide (nI (aL B.1 k) = x) && decide (nI (aB B.1 k) = y)) = anyF n (i + 1) (fun k => decide (nI (aL B.1 k) = x) && decide (nI (aB B.1 k) = y)) := by show ((fun k => decide (nI (aL B.1 k) = x) && decide (nI (aB B.1 k) = y)) i || anyF n (i + 1) (fun k => decide (nI (aL B.1 k) = x) && decide (nI (aB B.1 k) = y))) = _; rw [hb]; rfl
      rw [nI_1, e]
      exact ih (i + 1) (by omega)
    · refine p_aload_n 0 21 rfl rfl dX9_isWordOf_20 rfl ?_
      refine p_getR 9 39 24 rfl dX9_isWordOf_21 fl_X9_50 rfl rfl (show hR _ M0 39 = nWr from hr0 39) (by decide) ?_
      refine p_iload_n 3 25 rfl rfl dX9_isWordOf_24 rfl ?_
      refine p_ialdE 26 rfl dX9_isWordOf_25 (i := i) rfl (by show i < 12; omega) (hB.2.2.2.2.1 i hlt).2 ?_
      refine p_iload_n 2 27 rfl rfl dX9_isWordOf_26 rfl ?_
      refine p_icmp_ne 32 30 rfl rfl dX9_isWordOf_27 (fun h27 => ?_) (fun h27 => ?_)
      · refine p_inc_3 35 rfl dX9_isWordOf_32 (1) rfl (Nat.le_of_ble_eq_true rfl) rfl ?_
        refine p_goto 2 rfl dX9_isWordOf_35 ?_
        have hb : (fun k => decide (nI (aL B.1 k) = x) && decide (nI (aB B.1 k) = y)) i = false := by show (decide (nI (aL B.1 i) = x) && decide (nI (aB B.1 i) = y)) = false; rw [decide_eq_false h27, Bool.and_false]
        have e : anyF (n + 1) i (fun k => decide (nI (aL B.1 k) = x) && decide (nI (aB B.1 k) = y)) = anyF n (i + 1) (fun k => decide (nI (aL B.1 k) = x) && decide (nI (aB B.1 k) = y)) := by show ((fun k => decide (nI (aL B.1 k) = x) && decide (nI (aB B.1 k) = y)) i || anyF n (i + 1) (fun k => decide (nI (aL B.1 k) = x) && decide (nI (aB B.1 k) = y))) = _; rw [hb]; rfl
        rw [nI_1, e]
        exact ih (i + 1) (by omega)
      · have hb : (fun k => decide (nI (aL B.1 k) = x) && decide (nI (aB B.1 k) = y)) i = true := by show (decide (nI (aL B.1 i) = x) && decide (nI (aB B.1 i) = y)) = true; rw [decide_eq_true h17, decide_eq_true h27]; rfl
        refine p_iconst (1) 31 rfl dX9_isWordOf_30 rfl ?_
        exact p_zret dX9_isWordOf_31 rfl (by decide) ⟨by rw [show anyF (n + 1) i (fun k => decide (nI (aL B.1 k) = x) && decide (nI (aB B.1 k) = y)) = true by show ((fun k => decide (nI (aL B.1 k) = x) && decide (nI (aB B.1 k) = y)) i || anyF n (i + 1) (fun k => decide (nI (aL B.1 k) = x) && decide (nI (aB B.1 k) = y))) = true; rw [hb]; rfl]; rfl, rfl⟩
set_option maxRecDepth 4000 in
theorem c_isWordOf {B : OB} {o : List Int32} (hr0 : ∀ k, hR σ M0 k = mRef k) (hB : RBm σ B o) (x y : Int32) : CallOk Γ 1 0 0 mX9_isWordOf [.ref M0, .int x, .int y] σ (rI σ (b2i (hasW B.1 x y))) := by
  refine p_enter rfl rfl (Nat.le_of_ble_eq_true rfl) rfl ?_
  refine p_iconst (0) 1 rfl dX9_isWordOf_0 rfl ?_
  refine p_ist_n3 2 rfl rfl dX9_isWordOf_1 (Nat.le_of_ble_eq_true rfl) rfl ?_
  exact l_isWordOf hr0 hB x y (aW B.1) 0 (by omega)
theorem amF_flt {m : Nat} {S : RS} (h0 : S.1 = 0) (hf : ¬ (amF z m S).1 = 0) : (amF z m S).2.2.1 = 0 := by
  unfold amF at hf ⊢
  split at hf
  · split at hf
    · split at hf
      · exact absurd h0 hf
      · rename_i a b c; rw [if_pos a, if_pos b, if_neg c]; exact (fai_k h0).1
    · rename_i a b; rw [if_pos a, if_neg b]; exact (fai_k h0).1
  · rename_i a; rw [if_neg a]; exact (fai_k h0).1
theorem rdN_flt {m : Nat} {S : RS} (hf : ¬ S.1 = 0) (hk : S.2.2.1 = 0) : rdN tx z m S = (0, S) := by
  unfold rdN; rw [if_neg (by rw [hk]; decide), fai_f hf]
theorem rdW_flt {O : AO} {be : Int32} {S : RS} (hf : ¬ S.1 = 0) (hk : S.2.2.1 = 0) : rdW tx z O be S = (0, S) := by
  unfold rdW rdWS; rw [if_neg (fun q => by rw [hk] at q; exact absurd q.1 (by decide))]; exact rdN_flt hf hk
theorem hasW_m1 {O : AO} (hO : OkO O) (y : Int32) : hasW O (-1) y = false := by
  unfold hasW
  cases h : anyF (aW O) 0 (fun k => decide (nI (aL O k) = -1) && decide (nI (aB O k) = y)) with
  | false => rfl
  | true =>
    obtain ⟨j, _, h2, h3⟩ := (anyF_iff _ _).mp h
    have hl := hO.2.2.2.2.2 j (by omega)
    have := hO.1
    rw [Bool.and_eq_true, decide_eq_true_eq] at h3
    exact absurd h3.1 (nI_m1 (by omega))
/-- a number of a sheet, as both read it -/
theorem rdW_am {O : AO} {be : Int32} {S : RS} (h0 : S.1 = 0) : (¬ (amF z (aS O) S).1 = 0 → rdW tx z O be S = (0, amF z (aS O) S)) ∧ ((amF z (aS O) S).1 = 0 → amF z (aS O) S = S ∧ S.2.2.1 = 2 ∧ S.2.2.2.2.2 < aS O ∧ ((nI S.2.2.2.2.2 = be ∨ hasW O be (nI S.2.2.2.2.2) = true) → rdW tx z O be S = (0, fai z 4 S)) ∧ (¬ (nI S.2.2.2.2.2 = be ∨ hasW O be (nI S.2.2.2.2.2) = true) → rdW tx z O be S = (S.2.2.2.2.2, adv tx z S))) := by
  by_cases k2 : S.2.2.1 = 2
  · by_cases n9 : S.2.2.2.2.2 ≤ 9999
    · by_cases nm : S.2.2.2.2.2 < aS O
      · have ea : amF z (aS O) S = S := by unfold amF; rw [if_pos k2, if_pos n9, if_pos nm]
        refine ⟨fun q => absurd (by rw [ea]; exact h0) q, fun _ => ⟨ea, k2, nm, fun hq => ?_, fun hq => ?_⟩⟩
        · unfold rdW rdWS
          rw [if_pos ⟨k2, n9⟩, if_pos nm, if_pos hq]
          exact rdN_flt (by rw [(fai_k h0).2.1]; decide) (fai_k h0).1
        · unfold rdW rdWS
          rw [if_pos ⟨k2, n9⟩, if_pos nm, if_neg hq]
          unfold rdN; rw [if_pos k2, if_pos n9]
      · have ea : amF z (aS O) S = fai z 3 S := by unfold amF; rw [if_pos k2, if_pos n9, if_neg nm]
        refine ⟨fun _ => ?_, fun q => absurd q (by rw [ea, (fai_k h0).2.1]; decide)⟩
        rw [ea]
        unfold rdW rdWS
        rw [if_pos ⟨k2, n9⟩, if_neg nm]
        exact rdN_flt (by rw [(fai_k h0).2.1]; decide) (fai_k h0).1
    · have ea : amF z (aS O) S = fai z 2 S := by unfold amF; rw [if_pos k2, if_neg n9]
      refine ⟨fun _ => ?_, fun q => absurd q (by rw [ea, (fai_k h0).2.1]; decide)⟩
      rw [ea]
      unfold rdW rdWS
      rw [if_neg (fun q => n9 q.2)]
      unfold rdN; rw [if_pos k2, if_neg n9]
  · have ea : amF z (aS O) S = fai z 1 S := by unfold amF; rw [if_neg k2]
    refine ⟨fun _ => ?_, fun q => absurd q (by rw [ea, (fai_k h0).2.1]; decide)⟩
    rw [ea]
    unfold rdW rdWS
    rw [if_neg (fun q => k2 q.1)]
    unfold rdN; rw [if_neg k2]
end Cac
