/-! ===== the reference: years ===== -/
def FY (σ σ' : PH) : Prop := FQ σ σ' ∧ hI σ' M0 0 = hI σ M0 0
theorem FY.rf {σ : PH} : FY σ σ := ⟨FQ.rf, rfl⟩
theorem FY.tr {σ σ1 σ2 : PH} (h : FY σ σ1) (g : FY σ1 σ2) : FY σ σ2 := ⟨h.1.tr g.1, g.2.trans h.2⟩
theorem FY.b {σ σ' : PH} (h : FrB 34 σ σ') : FY σ σ' := ⟨FQ.b h, h.1.2.1 M0 0 (by simp)⟩
theorem FY.sd {σ : PH} {v : Int32} : FY σ (sI σ M0 55 v) := ⟨⟨rfl, rfl, rfl, fun r k q => hI_sIo (fun e => q (by rw [e]; simp)), fun _ _ => rfl, fun _ _ => rfl, rfl⟩, hI_sIo (by decide)⟩
theorem RowM.w {f : Nat → Int32} {b : Nat} {O : AO} {V : AW} (h : RowM true f b O V) : RowM false f b O V := ⟨h.1, fun s q => ⟨fun _ => (h.2.1 s q).1 (Or.inl rfl), (h.2.1 s q).2⟩, h.2.2⟩
theorem RowM.lfb {f : Nat → Int32} {b : Nat} {O : AO} {V : AW} {i x : Nat} (h : RowM false f b O V) (hi : vP V i = 0) : RowM false f b O (wLf V (va_up (vL V) i x)) := by
  refine ⟨h.1, fun s q => ⟨fun g => ?_, (h.2.1 s q).2⟩, h.2.2⟩
  show _ = nI (va_up (vL V) i x s)
  rcases g with g | g
  · cases g
  · have hs : s ≠ i := fun e => g (by rw [e]; exact hi)
    rw [va_upo hs]; exact (h.2.1 s q).1 (Or.inr g)
theorem lowF_some {m : Nat} : ∀ n k i, k ≤ i → i < k + n → (∀ j, k ≤ j → j < i → m.testBit j = false) → m.testBit i = true → lowF m n k = some i := by
  intro n
  induction n with
  | zero => intro k i h1 h2; omega
  | succ n ih =>
    intro k i h1 h2 h3 h4
    simp only [lowF]
    rcases Nat.lt_or_ge k i with w | w
    · rw [if_neg (by rw [h3 k (Nat.le_refl _) w]; decide)]
      exact ih (k + 1) i (by omega) (by omega) (fun j hj hji => h3 j (by omega) hji) h4
    · have e : k = i := by omega
      subst e; rw [if_pos h4]
theorem lowF_none {m : Nat} : ∀ n k, (∀ j, k ≤ j → j < k + n → m.testBit j = false) → lowF m n k = none := by
  intro n
  induction n with
  | zero => intro k _; rfl
  | succ n ih =>
    intro k h
    simp only [lowF]
    rw [if_neg (by rw [h k (Nat.le_refl _) (by omega)]; decide)]
    exact ih (k + 1) (fun j h1 h2 => h j (by omega) (by omega))
section C9a
variable {Γ : Gm} {σ : PH} {A : AT} {O : AO}
set_option maxRecDepth 4000 in
theorem c_draw {m : Nat} {s : Int32} (hs : hI σ M0 55 = s) (h0 : 0 < m) (hm : m < 1000) : CallOk Γ 1 0 0 mX9_draw [.ref M0, .int (nI m)] σ (rX (fun y σ' => y = nI (drw (lcg s) m) ∧ σ' = sI σ M0 55 (lcg s))) := by
  refine p_enter rfl rfl (Nat.le_of_ble_eq_true rfl) rfl ?_
  refine p_aload_n 0 1 rfl rfl dX9_draw_0 rfl ?_
  refine p_aload_n 0 2 rfl rfl dX9_draw_1 rfl ?_
  refine p_getIE 9 55 5 rfl dX9_draw_2 fl_X9_454 rfl rfl hs ?_
  refine p_ldcw 8 rfl dX9_draw_5 kc_X9_457 ?_
  refine p_imul 9 rfl dX9_draw_8 ?_
  refine p_sipush (12345) 12 rfl dX9_draw_9 rfl ?_
  refine p_iadd 13 rfl dX9_draw_12 ?_
  refine p_putI 9 55 16 rfl dX9_draw_13 fl_X9_454 rfl rfl (Or.inl rfl) ?_
  refine p_aload_n 0 17 rfl rfl dX9_draw_16 rfl ?_
  refine p_getIE 9 55 20 rfl dX9_draw_17 fl_X9_454 rfl rfl (hI_sI _ _ _ _) ?_
  refine p_bipush (16) 22 rfl dX9_draw_20 rfl ?_
  refine p_ishr 23 rfl dX9_draw_22 ?_
  refine p_sipush (32767) 26 rfl dX9_draw_23 rfl ?_
  refine p_iand 27 rfl dX9_draw_26 ?_
  refine p_iload_n 1 28 rfl rfl dX9_draw_27 rfl ?_
  refine p_irem 29 rfl dX9_draw_28 (nI_ne0 h0 (by omega)) ?_
  exact p_iret dX9_draw_29 rfl ⟨_, rfl, drw_eq h0 hm, rfl⟩
set_option maxRecDepth 4000 in
theorem l_takesL {W : AW} {c : Nat} (hM : OM σ O) (hw : RowM false (hA σ mRo) 34 O W) (hv : OkV O W) (hc : c < aC O) : ∀ (n i : Nat), i + n = aS O → (∀ j, j < i → ¬ vP W j = tOn O c (vD W) + 1) → Ok Γ 3 0 0 mX9_takesLeast 2 [some (.ref M0), some (.int (nI c)), some (.int (nI i))] [] σ (rV (fun σ' => RowM false (hA σ' mRo) 34 O (tkl O W c) ∧ FrB 34 σ σ')) := by
  have hO := hM.2.1
  have hs9 := hO.1
  have hc6 := hO.2.1
  have hw12 := hO.2.2.1
  have hk8 := hO.2.2.2.1
  have ht4 := tOn_lt hO (d := vD W) hc
  intro n
  induction n with
  | zero =>
    intro i hi hn
    refine p_iload_n 2 3 rfl rfl dX9_takesLeast_2 rfl ?_
    refine p_aload_n 0 4 rfl rfl dX9_takesLeast_3 rfl ?_
    refine p_getIE 9 1 7 rfl dX9_takesLeast_4 fl_X9_280 rfl rfl hM.2.2.1.1 ?_
    refine p_icmp_ge 52 10 rfl rfl dX9_takesLeast_7 (fun h7 => ?_) (fun h7 => absurd (nI_le (a := aS O) (b := i) (by omega) (by omega)) h7)
    exact p_vret dX9_takesLeast_52 rfl ⟨rfl, by
     have e : low (shAt O W (tOn O c (vD W) + 1)) = none := by
       refine lowF_none 32 0 (fun j _ _ => ?_)
       unfold shAt; rw [setN_bit]
       by_cases hj : j < aS O
       · rw [decide_eq_true hj, Bool.true_and, beq_eq_false_iff_ne]; exact hn j (by omega)
       · rw [decide_eq_false hj, Bool.false_and]
     rw [tkl, e]; exact hw, FrB.rf⟩
  | succ n ih =>
    intro i hi hn
    have hlt : i < aS O := by omega
    have hp := hvP hv (s := i) (by omega)
    refine p_iload_n 2 3 rfl rfl dX9_takesLeast_2 rfl ?_
    refine p_aload_n 0 4 rfl rfl dX9_takesLeast_3 rfl ?_
    refine p_getIE 9 1 7 rfl dX9_takesLeast_4 fl_X9_280 rfl rfl hM.2.2.1.1 ?_
    refine p_icmp_ge 52 10 rfl rfl dX9_takesLeast_7 (fun h7 => absurd h7 (nI_ge (a := i) (b := aS O) (by omega) (by omega))) (fun h7 => ?_)
    refine p_aload_n 0 11 rfl rfl dX9_takesLeast_10 rfl ?_
    refine p_getR 9 44 14 rfl dX9_takesLeast_11 fl_X9_66 rfl rfl (show hR _ M0 44 = mRo from hM.1 44) (by decide) ?_
    refine p_bipush (53) 16 rfl dX9_takesLeast_14 rfl ?_
    refine p_iload_n 2 17 rfl rfl dX9_takesLeast_16 rfl ?_
    refine p_iadd 18 rfl dX9_takesLeast_17 ?_
    rw [ix0 53 i 53 rfl]
    refine p_ialdE 19 rfl dX9_takesLeast_18 (i := 53 + i) rfl (by show _ < 68; omega) (hw.2.1 i hlt).2.2 ?_
    refine p_aload_n 0 20 rfl rfl dX9_takesLeast_19 rfl ?_
    refine p_bipush (34) 22 rfl dX9_takesLeast_20 rfl ?_
    refine p_iload_n 1 23 rfl rfl dX9_takesLeast_22 rfl ?_
    refine p_cV2i 26 rfl dX9_takesLeast_23 (c_clerkIn hM hw hv (by decide) hc) ml_X9_313 vl_X9_clerkIn rfl (by decide) rfl (Nat.le_of_ble_eq_true rfl) (Nat.le_of_ble_eq_true rfl) rfl ?_
    refine p_icmp_eq 32 29 rfl rfl dX9_takesLeast_26 (fun h26 => ?_) (fun h26 => ?_)
    · refine p_aload_n 0 33 rfl rfl dX9_takesLeast_32 rfl ?_
      refine p_getR 9 44 36 rfl dX9_takesLeast_33 fl_X9_66 rfl rfl (show hR _ M0 44 = mRo from hM.1 44) (by decide) ?_
      refine p_bipush (53) 38 rfl dX9_takesLeast_36 rfl ?_
      refine p_iload_n 2 39 rfl rfl dX9_takesLeast_38 rfl ?_
      refine p_iadd 40 rfl dX9_takesLeast_39 ?_
      rw [ix0 53 i 53 rfl]
      refine p_bipush (10) 42 rfl dX9_takesLeast_40 rfl ?_
      refine p_iload_n 1 43 rfl rfl dX9_takesLeast_42 rfl ?_
      refine p_iadd 44 rfl dX9_takesLeast_43 ?_
      rw [ix0 10 c 10 rfl]
      refine p_iastE 45 rfl dX9_takesLeast_44 (i := 53 + i) rfl (by show _ < 68; omega) ?_
      exact p_vret dX9_takesLeast_45 rfl ⟨rfl, by
       have hyes : vP W i = tOn O c (vD W) + 1 := (atI_town hp ht4).mp h26
       have e : low (shAt O W (tOn O c (vD W) + 1)) = some i := by
         refine lowF_some 32 0 i (Nat.zero_le _) (by omega) (fun j _ hj => ?_) ?_
         · unfold shAt; rw [setN_bit, decide_eq_true (show j < aS O by omega), Bool.true_and, beq_eq_false_iff_ne]; exact hn j hj
         · unfold shAt; rw [setN_bit, decide_eq_true hlt, Bool.true_and, beq_iff_eq]; exact hyes
       rw [tkl, e]
       show RowM false (hA (sA σ mRo (53 + i) (nI (10 + c))) mRo) 34 O (wPl W (va_up (vP W) i (c + 5)))
       rw [sA_s, ← atI_c, show 53 + i = 34 + 19 + i by omega]; exact hw.pl (by omega) hs9 (Or.inr (Or.inr (by omega))), FrB.row (by omega)⟩
    · refine p_goto 46 rfl dX9_takesLeast_29 ?_
      refine p_inc_2 49 rfl dX9_takesLeast_46 (1) rfl (Nat.le_of_ble_eq_true rfl) rfl ?_
      refine p_goto 2 rfl dX9_takesLeast_49 ?_
      have hne : ¬ vP W i = tOn O c (vD W) + 1 := fun q => h26 ((atI_town hp ht4).mpr q)
      rw [nI_1]
      exact ih (i + 1) (by omega) (fun j hj => (Nat.lt_or_ge j i).elim (fun w => hn j w) (fun w => by rw [show j = i by omega]; exact hne))
set_option maxRecDepth 4000 in
theorem c_takesL {W : AW} {c : Nat} (hM : OM σ O) (hw : RowM false (hA σ mRo) 34 O W) (hv : OkV O W) (hc : c < aC O) : CallOk Γ 3 0 0 mX9_takesLeast [.ref M0, .int (nI c)] σ (rV (fun σ' => RowM false (hA σ' mRo) 34 O (tkl O W c) ∧ FrB 34 σ σ')) := by
  refine p_enter rfl rfl (Nat.le_of_ble_eq_true rfl) rfl ?_
  refine p_iconst (0) 1 rfl dX9_takesLeast_0 rfl ?_
  refine p_ist_n2 2 rfl rfl dX9_takesLeast_1 (Nat.le_of_ble_eq_true rfl) rfl ?_
  exact l_takesL hM hw hv hc (aS O) 0 (by omega) (fun j hj => absurd hj (Nat.not_lt_zero _))
set_option maxRecDepth 10000 in
theorem c_happens {W : AW} {s : Int32} (hM : OM σ O) (hw : RowM false (hA σ mRo) 34 O W) (hv : OkV O W) (hs : hI σ M0 55 = s) : CallOk Γ 5 0 0 mX9_happens [.ref M0] σ (rV (fun σ' => RowM false (hA σ' mRo) 34 O (drwA O (s, W)).2 ∧ hI σ' M0 55 = (drwA O (s, W)).1 ∧ FY σ σ')) := by
  have hO := hM.2.1
  have hs9 := hO.1
  have hc6 := hO.2.1
  have hw12 := hO.2.2.1
  have hk8 := hO.2.2.2.1
  refine p_enter rfl rfl (Nat.le_of_ble_eq_true rfl) rfl ?_
  refine p_aload_n 0 1 rfl rfl dX9_happens_0 rfl ?_
  refine p_bipush (6) 3 rfl dX9_happens_1 rfl ?_
  refine p_cV1x 0 0 6 rfl dX9_happens_3 (c_draw (m := 6) hs (by decide) (by decide)) ml_X9_458 vl_X9_draw rfl (by decide) rfl (Nat.le_of_ble_eq_true rfl) (Nat.le_of_ble_eq_true rfl) (Nat.le_of_ble_eq_true rfl) (Nat.le_of_ble_eq_true rfl) rfl ?_
  rintro y2 σ2 ⟨hy2, hs2⟩
  have hF2 : FY σ σ2 := by rw [hs2]; exact FY.sd
  have hM2 : OM σ2 O := hM.q hF2.1
  have hr2 : hA σ2 mRo = hA σ mRo := by rw [hs2]; rfl
  have hw2 : RowM false (hA σ2 mRo) 34 O W := by rw [hr2]; exact hw
  have e2 : hI σ2 M0 55 = lcg s := by rw [hs2]; exact hI_sI _ _ _ _
  clear hs2
  subst hy2
  have hd6 : drw (lcg s) 6 < 6 := drw_lt (by decide)
  refine p_ist_n1 7 rfl rfl dX9_happens_6 (Nat.le_of_ble_eq_true rfl) rfl ?_
  refine p_iload_n 1 8 rfl rfl dX9_happens_7 rfl ?_
  refine p_if_ne 22 11 rfl rfl dX9_happens_8 (fun h8 => ?_) (fun h8 => ?_)
  · have a0 : ¬ drw (lcg s) 6 = 0 := fun z => h8 (by rw [z]; rfl)
    refine p_iload_n 1 23 rfl rfl dX9_happens_22 rfl ?_
    refine p_iconst (1) 24 rfl dX9_happens_23 rfl ?_
    refine p_icmp_ne 46 27 rfl rfl dX9_happens_24 (fun h24 => ?_) (fun h24 => ?_)
    · have a1 : ¬ (drw (lcg s) 6 = 1 ∧ 0 < aC O) := fun z => h24 (by rw [z.1]; rfl)
      refine p_iload_n 1 47 rfl rfl dX9_happens_46 rfl ?_
      refine p_iconst (2) 48 rfl dX9_happens_47 rfl ?_
      refine p_icmp_ne 58 51 rfl rfl dX9_happens_48 (fun h48 => ?_) (fun h48 => ?_)
      · exact p_vret dX9_happens_58 rfl ⟨rfl, by have b2 : ¬ (drw (lcg s) 6 = 2 ∧ 0 < aS O) := fun z => h48 (by rw [z.1]; rfl); have e : drwA O (s, W) = (lcg s, W) := (by rw [drwA, if_neg a0, if_neg a1, if_neg b2]); rw [e]; exact ⟨hw2, e2, hF2⟩⟩
      · refine p_aload_n 0 52 rfl rfl dX9_happens_51 rfl ?_
        refine p_getIE 9 1 55 rfl dX9_happens_52 fl_X9_280 rfl rfl hM2.2.2.1.1 ?_
        refine p_if_ne 59 58 rfl rfl dX9_happens_55 (fun h55 => ?_) (fun h55 => ?_)
        · have hsp : 0 < aS O := Nat.pos_of_ne_zero (fun z => h55 (by rw [z]; rfl))
          have b2 : drw (lcg s) 6 = 2 := nI_eqI (show nI (drw (lcg s) 6) = nI 2 from h48) (by omega) (by decide)
          refine p_aload_n 0 60 rfl rfl dX9_happens_59 rfl ?_
          refine p_aload_n 0 61 rfl rfl dX9_happens_60 rfl ?_
          refine p_getIE 9 1 64 rfl dX9_happens_61 fl_X9_280 rfl rfl hM2.2.2.1.1 ?_
          refine p_cV1x 0 0 67 rfl dX9_happens_64 (c_draw (m := aS O) e2 hsp (by omega)) ml_X9_458 vl_X9_draw rfl (by decide) rfl (Nat.le_of_ble_eq_true rfl) (Nat.le_of_ble_eq_true rfl) (Nat.le_of_ble_eq_true rfl) (Nat.le_of_ble_eq_true rfl) rfl ?_
          rintro y3 σ3 ⟨hy3, hs3⟩
          have hF3 : FY σ2 σ3 := by rw [hs3]; exact FY.sd
          have hM3 : OM σ3 O := hM2.q hF3.1
          have hr3 : hA σ3 mRo = hA σ2 mRo := by rw [hs3]; rfl
          have hw3 : RowM false (hA σ3 mRo) 34 O W := by rw [hr3]; exact hw2
          have e3 : hI σ3 M0 55 = lcg (lcg s) := by rw [hs3]; exact hI_sI _ _ _ _
          clear hs3
          subst hy3
          have hsl := drw_lt (s := lcg (lcg s)) hsp
          refine p_ist_n2 68 rfl rfl dX9_happens_67 (Nat.le_of_ble_eq_true rfl) rfl ?_
          refine p_aload_n 0 69 rfl rfl dX9_happens_68 rfl ?_
          refine p_bipush (8) 71 rfl dX9_happens_69 rfl ?_
          refine p_cV1x 0 0 74 rfl dX9_happens_71 (c_draw (m := 8) e3 (by decide) (by decide)) ml_X9_458 vl_X9_draw rfl (by decide) rfl (Nat.le_of_ble_eq_true rfl) (Nat.le_of_ble_eq_true rfl) (Nat.le_of_ble_eq_true rfl) (Nat.le_of_ble_eq_true rfl) rfl ?_
          rintro y4 σ4 ⟨hy4, hs4⟩
          have hF4 : FY σ3 σ4 := by rw [hs4]; exact FY.sd
          have hM4 : OM σ4 O := hM3.q hF4.1
          have hr4 : hA σ4 mRo = hA σ3 mRo := by rw [hs4]; rfl
          have hw4 : RowM false (hA σ4 mRo) 34 O W := by rw [hr4]; exact hw3
          have e4 : hI σ4 M0 55 = lcg (lcg (lcg s)) := by rw [hs4]; exact hI_sI _ _ _ _
          clear hs4
          subst hy4
          have hst := drw_lt (s := lcg (lcg (lcg s))) (m := 8) (by decide)
          refine p_ist_n3 75 rfl rfl dX9_happens_74 (Nat.le_of_ble_eq_true rfl) rfl ?_
          refine p_aload_n 0 76 rfl rfl dX9_happens_75 rfl ?_
          refine p_bipush (34) 78 rfl dX9_happens_76 rfl ?_
          refine p_iload_n 2 79 rfl rfl dX9_happens_78 rfl ?_
          refine p_cV2i 82 rfl dX9_happens_79 (c_isBurnt hM4 hw4 hv (by decide) hsl) ml_X9_319 vl_X9_isBurnt rfl (by decide) rfl (Nat.le_of_ble_eq_true rfl) (Nat.le_of_ble_eq_true rfl) rfl ?_
          refine p_if_ne 100 85 rfl rfl dX9_happens_82 (fun h82 => ?_) (fun h82 => ?_)
          · have hbu : (vP W (drw (lcg (lcg s)) (aS O)) == 0) = true := by simpa only [b2i_eq0, b2i_1, Decidable.not_not, Bool.not_eq_true, Bool.not_eq_false] using h82
            exact p_vret dX9_happens_100 rfl ⟨rfl, by have e : drwA O (s, W) = (lcg (lcg (lcg s)), wLf W (va_up (vL W) (drw (lcg (lcg s)) (aS O)) (vL W (drw (lcg (lcg s)) (aS O)) ^^^ 2 ^ drw (lcg (lcg (lcg s))) 8))) := (by rw [drwA, if_neg a0, if_neg a1, if_pos ⟨b2, hsp⟩]); rw [e]; exact ⟨hw4.lfb (by simpa using hbu), e4, (hF2.tr hF3).tr hF4⟩⟩
          · have hbu : (vP W (drw (lcg (lcg s)) (aS O)) == 0) = false := by simpa only [b2i_eq0, b2i_1, Bool.not_eq_true, Decidable.not_not] using h82
            have hbn : ¬ vP W (drw (lcg (lcg s)) (aS O)) = 0 := by simpa using hbu
            refine p_aload_n 0 86 rfl rfl dX9_happens_85 rfl ?_
            refine p_getR 9 44 89 rfl dX9_happens_86 fl_X9_66 rfl rfl (show hR _ M0 44 = mRo from hM4.1 44) (by decide) ?_
            refine p_bipush (35) 91 rfl dX9_happens_89 rfl ?_
            refine p_iload_n 2 92 rfl rfl dX9_happens_91 rfl ?_
            refine p_iadd 93 rfl dX9_happens_92 ?_
            rw [ix0 35 (drw (lcg (lcg s)) (aS O)) 35 rfl]
            refine p_dup2 94 rfl dX9_happens_93 rfl rfl ?_
            refine p_ialdE 95 rfl dX9_happens_94 (i := 35 + (drw (lcg (lcg s)) (aS O))) rfl (by show _ < 68; omega) ((hw4.2.1 (drw (lcg (lcg s)) (aS O)) hsl).1 (Or.inr hbn)) ?_
            refine p_iconst (1) 96 rfl dX9_happens_95 rfl ?_
            refine p_iload_n 3 97 rfl rfl dX9_happens_96 rfl ?_
            refine p_ishl 98 rfl dX9_happens_97 ?_
            refine p_ixor 99 rfl dX9_happens_98 ?_
            rw [one_shl _ (by omega), nx_xor]
            refine p_iastE 100 rfl dX9_happens_99 (i := 35 + (drw (lcg (lcg s)) (aS O))) rfl (by show _ < 68; omega) ?_
            exact p_vret dX9_happens_100 rfl ⟨rfl, by have e : drwA O (s, W) = (lcg (lcg (lcg s)), wLf W (va_up (vL W) (drw (lcg (lcg s)) (aS O)) (vL W (drw (lcg (lcg s)) (aS O)) ^^^ 2 ^ drw (lcg (lcg (lcg s))) 8))) := (by rw [drwA, if_neg a0, if_neg a1, if_pos ⟨b2, hsp⟩]); rw [e]; exact ⟨by rw [sA_s, show 35 + drw (lcg (lcg s)) (aS O) = 34 + 1 + drw (lcg (lcg s)) (aS O) by omega]; exact hw4.lf (by omega) hs9, e4, ((hF2.tr hF3).tr hF4).tr (FY.b (FrB.row (by omega)))⟩⟩
        · exact p_vret dX9_happens_58 rfl ⟨rfl, by have b2 : ¬ (drw (lcg s) 6 = 2 ∧ 0 < aS O) := fun z => absurd h55 (nI_ne0 z.2 (by omega)); have e : drwA O (s, W) = (lcg s, W) := (by rw [drwA, if_neg a0, if_neg a1, if_neg b2]); rw [e]; exact ⟨hw2, e2, hF2⟩⟩
    · have a1 : drw (lcg s) 6 = 1 := nI_eqI (show nI (drw (lcg s) 6) = nI 1 from h24) (by omega) (by decide)
      refine p_aload_n 0 28 rfl rfl dX9_happens_27 rfl ?_
      refine p_getIE 9 2 31 rfl dX9_happens_28 fl_X9_283 rfl rfl hM2.2.2.1.2.1 ?_
      refine p_if_le 46 34 rfl rfl dX9_happens_31 (fun h31 => ?_) (fun h31 => ?_)
      · have a2 : ¬ (drw (lcg s) 6 = 1 ∧ 0 < aC O) := fun z => absurd h31 (nI_nle z.2 (by omega))
        refine p_iload_n 1 47 rfl rfl dX9_happens_46 rfl ?_
        refine p_iconst (2) 48 rfl dX9_happens_47 rfl ?_
        refine p_icmp_ne 58 51 rfl rfl dX9_happens_48 (fun h48 => ?_) (fun h48 => absurd h48 (by rw [a1]; decide))
        exact p_vret dX9_happens_58 rfl ⟨rfl, by have b2 : ¬ (drw (lcg s) 6 = 2 ∧ 0 < aS O) := fun z => absurd (a1.symm.trans z.1) (by decide); have e : drwA O (s, W) = (lcg s, W) := (by rw [drwA, if_neg a0, if_neg a2, if_neg b2]); rw [e]; exact ⟨hw2, e2, hF2⟩⟩
      · have hcp : 0 < aC O := Nat.pos_of_ne_zero (fun z => h31 (by rw [z]; decide))
        refine p_aload_n 0 35 rfl rfl dX9_happens_34 rfl ?_
        refine p_aload_n 0 36 rfl rfl dX9_happens_35 rfl ?_
        refine p_aload_n 0 37 rfl rfl dX9_happens_36 rfl ?_
        refine p_getIE 9 2 40 rfl dX9_happens_37 fl_X9_283 rfl rfl hM2.2.2.1.2.1 ?_
        refine p_cV1x 0 0 43 rfl dX9_happens_40 (c_draw (m := aC O) e2 hcp (by omega)) ml_X9_458 vl_X9_draw rfl (by decide) rfl (Nat.le_of_ble_eq_true rfl) (Nat.le_of_ble_eq_true rfl) (Nat.le_of_ble_eq_true rfl) (Nat.le_of_ble_eq_true rfl) rfl ?_
        rintro y3 σ3 ⟨hy3, hs3⟩
        have hF3 : FY σ2 σ3 := by rw [hs3]; exact FY.sd
        have hM3 : OM σ3 O := hM2.q hF3.1
        have hr3 : hA σ3 mRo = hA σ2 mRo := by rw [hs3]; rfl
        have hw3 : RowM false (hA σ3 mRo) 34 O W := by rw [hr3]; exact hw2
        have e3 : hI σ3 M0 55 = lcg (lcg s) := by rw [hs3]; exact hI_sI _ _ _ _
        clear hs3
        subst hy3
        refine p_cV1v 0 0 46 rfl dX9_happens_43 (c_takesL hM3 hw3 hv (drw_lt hcp)) ml_X9_461 vl_X9_takesLeast rfl (by decide) rfl (Nat.le_of_ble_eq_true rfl) (Nat.le_of_ble_eq_true rfl) (Nat.le_of_ble_eq_true rfl) (Nat.le_of_ble_eq_true rfl) rfl ?_
        intro σ4 hp4
        refine p_iload_n 1 47 rfl rfl dX9_happens_46 rfl ?_
        refine p_iconst (2) 48 rfl dX9_happens_47 rfl ?_
        refine p_icmp_ne 58 51 rfl rfl dX9_happens_48 (fun h48 => ?_) (fun h48 => absurd h48 (by rw [a1]; decide))
        exact p_vret dX9_happens_58 rfl ⟨rfl, by have e : drwA O (s, W) = (lcg (lcg s), tkl O W (drw (lcg (lcg s)) (aC O))) := (by rw [drwA, if_neg a0, if_pos ⟨a1, hcp⟩]); rw [e]; exact ⟨hp4.1, (hp4.2.1.2.1 M0 55 (by simp)).trans e3, (hF2.tr hF3).tr (FY.b hp4.2)⟩⟩
  · have a0 : drw (lcg s) 6 = 0 := nI_eqI (show nI (drw (lcg s) 6) = nI 0 from h8) (by omega) (by decide)
    refine p_aload_n 0 12 rfl rfl dX9_happens_11 rfl ?_
    refine p_bipush (34) 14 rfl dX9_happens_12 rfl ?_
    refine p_aload_n 0 15 rfl rfl dX9_happens_14 rfl ?_
    refine p_iconst (4) 16 rfl dX9_happens_15 rfl ?_
    refine p_cV1x 0 0 19 rfl dX9_happens_16 (c_draw (m := 4) e2 (by decide) (by decide)) ml_X9_458 vl_X9_draw rfl (by decide) rfl (Nat.le_of_ble_eq_true rfl) (Nat.le_of_ble_eq_true rfl) (Nat.le_of_ble_eq_true rfl) (Nat.le_of_ble_eq_true rfl) rfl ?_
    rintro y3 σ3 ⟨hy3, hs3⟩
    have hF3 : FY σ2 σ3 := by rw [hs3]; exact FY.sd
    have hM3 : OM σ3 O := hM2.q hF3.1
    have hr3 : hA σ3 mRo = hA σ2 mRo := by rw [hs3]; rfl
    have hw3 : RowM false (hA σ3 mRo) 34 O W := by rw [hr3]; exact hw2
    have e3 : hI σ3 M0 55 = lcg (lcg s) := by rw [hs3]; exact hI_sI _ _ _ _
    clear hs3
    subst hy3
    refine p_cV2v 0 0 22 rfl dX9_happens_19 (c_burns hM3 hv (by decide) (drw_lt (by decide)) hw3) ml_X9_417 vl_X9_burns rfl (by decide) rfl (Nat.le_of_ble_eq_true rfl) (Nat.le_of_ble_eq_true rfl) (Nat.le_of_ble_eq_true rfl) (Nat.le_of_ble_eq_true rfl) rfl ?_
    intro σ4 hp4
    refine p_iload_n 1 23 rfl rfl dX9_happens_22 rfl ?_
    refine p_iconst (1) 24 rfl dX9_happens_23 rfl ?_
    refine p_icmp_ne 46 27 rfl rfl dX9_happens_24 (fun h24 => ?_) (fun h24 => absurd h24 (by rw [a0]; decide))
    refine p_iload_n 1 47 rfl rfl dX9_happens_46 rfl ?_
    refine p_iconst (2) 48 rfl dX9_happens_47 rfl ?_
    refine p_icmp_ne 58 51 rfl rfl dX9_happens_48 (fun h48 => ?_) (fun h48 => absurd h48 (by rw [a0]; decide))
    exact p_vret dX9_happens_58 rfl ⟨rfl, by have e : drwA O (s, W) = (lcg (lcg s), brn O W (drw (lcg (lcg s)) 4)) := (by simp only [drwA, a0, if_true]); rw [e]; exact ⟨hp4.1, (hp4.2.1.2.1 M0 55 (by simp)).trans e3, (hF2.tr hF3).tr (FY.b hp4.2)⟩⟩
theorem cnt_not {p : Nat → Bool} : ∀ n, cntN n p + cntN n (fun i => !p i) = n := by
  intro n
  induction n with
  | zero => rfl
  | succ n ih =>
    cases hp : p n with
    | false => rw [cntN_f hp, cntN_t (p := fun i => !p i) (show (!p n) = true by rw [hp]; rfl)]; omega
    | true => rw [cntN_t hp, cntN_f (p := fun i => !p i) (show (!p n) = false by rw [hp]; rfl)]; omega
set_option maxRecDepth 4000 in
theorem l_yrE {τ : PH} (hR0 : RM τ A) (h0 : hI τ M0 0 = 0) (hc1 : ChM σ τ) {w k : Nat} {x : Int32} {W : AW} (hw3 : w < 3) (hvW : OkV (tO A) W) (hw1 : RowM false (hA τ mRo) 34 (tO A) W) : ∀ (n i : Nat), i + n = aS (tO A) → Ok Γ 11 0 0 mX9_years 66 [some (.ref M0), some (.int x), some (.int (nI k)), some (.int (nI w)), some (.int (nI (cntN i (fun s => !(vP W s == 0))))), some (.int (nI i))] [] τ (rM (0, if w = 0 then nI (pop (kAll (tO A) W)) else if w = 1 then nI (aS (tO A)) - nI (pop (shAt (tO A) W 0)) else nI (pop (inHd (tO A) W))) (fun σ' => RM σ' A ∧ ChM σ σ')) := by
  have hK := hR0.2.1
  have hO := hK.2.2.1
  have hc6 := hO.2.1
  have hw12 := hO.2.2.1
  have hs9 := hO.1
  have hv := hK.2.2.2.2.1.1
  have hd9 := hK.2.2.2.2.1.2
  have hM := hR0.1
  have hw := hR0.2.2.1
  intro n
  induction n with
  | zero =>
    intro i hi
    refine p_iload 5 68 rfl dX9_years_66 rfl ?_
    refine p_aload_n 0 69 rfl rfl dX9_years_68 rfl ?_
    refine p_getIE 9 1 72 rfl dX9_years_69 fl_X9_280 rfl rfl hM.2.2.1.1 ?_
    refine p_icmp_ge 102 75 rfl rfl dX9_years_72 (fun h72 => ?_) (fun h72 => absurd (nI_le (a := aS (tO A)) (b := i) (by omega) (by omega)) h72)
    refine p_iload_n 3 103 rfl rfl dX9_years_102 rfl ?_
    refine p_if_ne 122 106 rfl rfl dX9_years_103 (fun h103 => ?_) (fun h103 => ?_)
    · refine p_iload_n 3 123 rfl rfl dX9_years_122 rfl ?_
      refine p_iconst (1) 124 rfl dX9_years_123 rfl ?_
      refine p_icmp_ne 132 127 rfl rfl dX9_years_124 (fun h124 => ?_) (fun h124 => ?_)
      · refine p_aload_n 0 133 rfl rfl dX9_years_132 rfl ?_
        refine p_bipush (34) 135 rfl dX9_years_133 rfl ?_
        refine p_cV1i 138 rfl dX9_years_135 (c_borneOnes hM hw1 hvW (by decide)) ml_X9_369 vl_X9_borneOnes rfl (by decide) rfl (Nat.le_of_ble_eq_true rfl) (Nat.le_of_ble_eq_true rfl) rfl ?_
        refine p_cS1i 141 rfl dX9_years_138 (c_bits (Nat.lt_trans (Nat.lt_of_lt_of_le (setN_lt _ _) (Nat.pow_le_pow_right (by decide) hs9)) (by decide))) ml_X9_316 sl_X9_bits (Nat.le_of_ble_eq_true rfl) (Nat.le_of_ble_eq_true rfl) rfl ?_
        exact p_iret dX9_years_141 rfl ⟨_, rfl, h0, fun _ => by rw [if_neg (fun z : w = 0 => h103 (by rw [z]; rfl)), if_neg (fun z : w = 1 => h124 (by rw [z]; rfl))]; rfl, hR0, hc1⟩
      · refine p_iload 4 129 rfl dX9_years_127 rfl ?_
        refine p_goto 141 rfl dX9_years_129 ?_
        exact p_iret dX9_years_141 rfl ⟨_, rfl, h0, fun _ => by
       have hx : ¬ w = 0 := fun z => h103 (by rw [z]; rfl)
       have hx1 : w = 1 := nI_eqI (show nI w = nI 1 from h124) (by omega) (by decide)
       have hcn := cnt_not (p := fun s => vP W s == 0) (aS (tO A))
       have hps : pop (shAt (tO A) W 0) = cntN (aS (tO A)) (fun s => vP W s == 0) := pop_set (by omega)
       rw [if_neg hx, if_pos hx1, hps, nI_sb (by omega), show i = aS (tO A) by omega]
       show nI (cntN (aS (tO A)) (fun i => !(vP W i == 0))) = _
       rw [show aS (tO A) - cntN (aS (tO A)) (fun s => vP W s == 0) = cntN (aS (tO A)) (fun i => !(vP W i == 0)) by omega], hR0, hc1⟩
    · refine p_aload_n 0 107 rfl rfl dX9_years_106 rfl ?_
      refine p_bipush (34) 109 rfl dX9_years_107 rfl ?_
      refine p_aload_n 0 110 rfl rfl dX9_years_109 rfl ?_
      refine p_cV0i 113 rfl dX9_years_110 (c_everybody hM) ml_X9_372 vl_X9_everybody rfl (by decide) rfl (Nat.le_of_ble_eq_true rfl) (Nat.le_of_ble_eq_true rfl) rfl ?_
      refine p_cV2i 116 rfl dX9_years_113 (c_knownBy hM hw1 hvW (by decide) (p6 hO)) ml_X9_338 vl_X9_knownBy rfl (by decide) rfl (Nat.le_of_ble_eq_true rfl) (Nat.le_of_ble_eq_true rfl) rfl ?_
      refine p_cS1i 119 rfl dX9_years_116 (c_bits (Nat.lt_trans (kBy_l hO hvW _) (by decide))) ml_X9_316 sl_X9_bits (Nat.le_of_ble_eq_true rfl) (Nat.le_of_ble_eq_true rfl) rfl ?_
      refine p_goto 141 rfl dX9_years_119 ?_
      exact p_iret dX9_years_141 rfl ⟨_, rfl, h0, fun _ => by have hx : w = 0 := nI_eqI (show nI w = nI 0 from h103) (by omega) (by decide); rw [if_pos hx, ← kAll_by hO], hR0, hc1⟩
  | succ n ih =>
    intro i hi
    have hlt : i < aS (tO A) := by omega
    refine p_iload 5 68 rfl dX9_years_66 rfl ?_
    refine p_aload_n 0 69 rfl rfl dX9_years_68 rfl ?_
    refine p_getIE 9 1 72 rfl dX9_years_69 fl_X9_280 rfl rfl hM.2.2.1.1 ?_
    refine p_icmp_ge 102 75 rfl rfl dX9_years_72 (fun h72 => absurd h72 (nI_ge (a := i) (b := aS (tO A)) (by omega) (by omega))) (fun h72 => ?_)
    refine p_iload 4 77 rfl dX9_years_75 rfl ?_
    refine p_aload_n 0 78 rfl rfl dX9_years_77 rfl ?_
    refine p_bipush (34) 80 rfl dX9_years_78 rfl ?_
    refine p_iload 5 82 rfl dX9_years_80 rfl ?_
    refine p_cV2i 85 rfl dX9_years_82 (c_isBurnt hM hw1 hvW (by decide) hlt) ml_X9_319 vl_X9_isBurnt rfl (by decide) rfl (Nat.le_of_ble_eq_true rfl) (Nat.le_of_ble_eq_true rfl) rfl ?_
    refine p_if_eq 92 88 rfl rfl dX9_years_85 (fun h85 => ?_) (fun h85 => ?_)
    · refine p_iconst (1) 93 rfl dX9_years_92 rfl ?_
      refine p_iadd 94 rfl dX9_years_93 ?_
      refine p_ist_4 96 rfl dX9_years_94 (Nat.le_of_ble_eq_true rfl) rfl ?_
      refine p_inc_5 99 rfl dX9_years_96 (1) rfl (Nat.le_of_ble_eq_true rfl) rfl ?_
      refine p_goto 66 rfl dX9_years_99 ?_
      have hb : (vP W i == 0) = false := by simpa only [b2i_eq0, b2i_1, Bool.not_eq_true, Decidable.not_not] using h85
      rw [nI_1, nI_1, ← cntN_t (p := (fun s => !(vP W s == 0))) (show (fun s => !(vP W s == 0)) i = true by show (!(vP W i == 0)) = true; rw [hb]; rfl)]
      exact ih (i + 1) (by omega)
    · refine p_iconst (0) 89 rfl dX9_years_88 rfl ?_
      refine p_goto 93 rfl dX9_years_89 ?_
      refine p_iadd 94 rfl dX9_years_93 ?_
      refine p_ist_4 96 rfl dX9_years_94 (Nat.le_of_ble_eq_true rfl) rfl ?_
      refine p_inc_5 99 rfl dX9_years_96 (1) rfl (Nat.le_of_ble_eq_true rfl) rfl ?_
      refine p_goto 66 rfl dX9_years_99 ?_
      have hb : (vP W i == 0) = true := by simpa only [b2i_eq0, b2i_1, Decidable.not_not, Bool.not_eq_true, Bool.not_eq_false] using h85
      rw [show nI (cntN i (fun s => !(vP W s == 0))) + 0 = nI (cntN i (fun s => !(vP W s == 0))) from nI_add _ 0, nI_1, ← cntN_f (p := (fun s => !(vP W s == 0))) (show (fun s => !(vP W s == 0)) i = false by show (!(vP W i == 0)) = false; rw [hb]; rfl)]
      exact ih (i + 1) (by omega)
set_option maxRecDepth 4000 in
theorem l_mYears (hK : OkT A) {k w : Nat} (hk : k ≤ 40) (hw3 : w < 3) {x : Int32} (S : Nat → Int32) (Y : Nat → AW) (hY0 : ∀ i, i < k → S (i + 1) = (drwA (tO A) (S i, Y i)).1 ∧ Y (i + 1) = dayF (tO A) (drwA (tO A) (S i, Y i)).2) (hYo : ∀ i, i ≤ k → OkV (tO A) (Y i)) : ∀ (n i : Nat) (σ1 : PH) (x5 : Option Value), i + n = k → RM σ1 A → RowM false (hA σ1 mRo) 34 (tO A) (Y i) → hI σ1 M0 0 = 0 → hI σ1 M0 55 = S i → ChM σ σ1 → Ok Γ 11 0 0 mX9_years 38 [some (.ref M0), some (.int x), some (.int (nI k)), some (.int (nI w)), some (.int (nI i)), x5] [] σ1 (rM (0, if w = 0 then nI (pop (kAll (tO A) (Y k))) else if w = 1 then nI (aS (tO A)) - nI (pop (shAt (tO A) (Y k) 0)) else nI (pop (inHd (tO A) (Y k)))) (fun σ' => RM σ' A ∧ ChM σ σ')) := by
  have hO := hK.2.2.1
  have hc6 := hO.2.1
  have hw12 := hO.2.2.1
  have hs9 := hO.1
  have hv := hK.2.2.2.2.1.1
  have hd9 := hK.2.2.2.2.1.2
  intro n
  induction n with
  | zero =>
    intro i σ1 x5 hi hR1 hw1 h01 hsd hc1
    have hM := hR1.1
    refine p_iload 4 40 rfl dX9_years_38 rfl ?_
    refine p_iload_n 2 41 rfl rfl dX9_years_40 rfl ?_
    refine p_icmp_ge 60 44 rfl rfl dX9_years_41 (fun h41 => ?_) (fun h41 => absurd (nI_le (a := k) (b := i) (by omega) (by omega)) h41)
    refine p_iconst (0) 61 rfl dX9_years_60 rfl ?_
    refine p_ist_4 63 rfl dX9_years_61 (Nat.le_of_ble_eq_true rfl) rfl ?_
    refine p_iconst (0) 64 rfl dX9_years_63 rfl ?_
    refine p_ist_5 66 rfl dX9_years_64 (Nat.le_of_ble_eq_true rfl) rfl ?_
    have hik : i = k := by omega
    subst hik
    exact l_yrE hR1 h01 hc1 hw3 (hYo i (Nat.le_refl _)) hw1 (aS (tO A)) 0 (by omega)
  | succ n ih =>
    intro i σ1 x5 hi hR1 hw1 h01 hsd hc1
    have hM := hR1.1
    have hvY := hYo i (by omega)
    refine p_iload 4 40 rfl dX9_years_38 rfl ?_
    refine p_iload_n 2 41 rfl rfl dX9_years_40 rfl ?_
    refine p_icmp_ge 60 44 rfl rfl dX9_years_41 (fun h41 => absurd h41 (nI_ge (a := i) (b := k) (by omega) (by omega))) (fun h41 => ?_)
    refine p_aload_n 0 45 rfl rfl dX9_years_44 rfl ?_
    refine p_cV0v 0 0 48 rfl dX9_years_45 (c_happens hM hw1 hvY hsd) ml_X9_464 vl_X9_happens rfl (by decide) rfl (Nat.le_of_ble_eq_true rfl) (Nat.le_of_ble_eq_true rfl) (Nat.le_of_ble_eq_true rfl) (Nat.le_of_ble_eq_true rfl) rfl ?_
    rintro σ2 ⟨hw2, hs2, hF2⟩
    have hR2 := hR1.q hF2.1
    have hdo := drwA_ok (q := (S i, Y i)) hvY hO
    refine p_aload_n 0 49 rfl rfl dX9_years_48 rfl ?_
    refine p_bipush (34) 51 rfl dX9_years_49 rfl ?_
    refine p_cV1v 0 0 54 rfl dX9_years_51 (c_dayGoes hR2.1 hw2 hdo.1 (by decide)) ml_X9_357 vl_X9_dayGoes rfl (by decide) rfl (Nat.le_of_ble_eq_true rfl) (Nat.le_of_ble_eq_true rfl) (Nat.le_of_ble_eq_true rfl) (Nat.le_of_ble_eq_true rfl) rfl ?_
    intro σ3 hp3
    have hR3 := hR2.q (FQ.b hp3.2)
    refine p_inc_4 57 rfl dX9_years_54 (1) rfl (Nat.le_of_ble_eq_true rfl) rfl ?_
    refine p_goto 38 rfl dX9_years_57 ?_
    rw [nI_1]
    exact ih (i + 1) σ3 _ (by omega) hR3 (by rw [(hY0 i (by omega)).2]; exact hp3.1) ((hp3.2.1.2.1 M0 0 (by simp)).trans (hF2.2.trans h01)) (by rw [(hY0 i (by omega)).1]; exact (hp3.2.1.2.1 M0 55 (by simp)).trans hs2) ((hc1.tr hF2.1.ch).tr (FQ.b hp3.2).ch)
set_option maxRecDepth 8000 in
theorem q_years (hRM : RM σ A) (x y z : Int32) : CallOk Γ 12 0 0 mX9_years [.ref M0, .int x, .int y, .int z] σ (rM (fYears A x y z) (fun σ' => RM σ' A ∧ ChM σ σ')) := by
  have hK := hRM.2.1
  have hO := hK.2.2.1
  have hs9 := hO.1
  have hc6 := hO.2.1
  have hw12 := hO.2.2.1
  have hk8 := hO.2.2.2.1
  have hv := hK.2.2.2.2.1.1
  have hd9 := hK.2.2.2.2.1.2
  refine p_enter rfl rfl (Nat.le_of_ble_eq_true rfl) rfl ?_
  refine p_aload_n 0 1 rfl rfl dX9_years_0 rfl ?_
  refine p_iconst (0) 2 rfl dX9_years_1 rfl ?_
  refine p_putI 9 0 5 rfl dX9_years_2 fl_X9_102 rfl rfl (Or.inl rfl) ?_
  have hQ : FQ σ (sI σ M0 0 0) := FQ.th
  have hR0 := hRM.q hQ
  have h0 : hI (sI σ M0 0 0) M0 0 = 0 := hI_sI _ _ _ _
  generalize sI σ M0 0 0 = τ at hQ hR0 h0 ⊢
  have hM := hR0.1
  have hw := hR0.2.2.1
  refine p_aload_n 0 6 rfl rfl dX9_years_5 rfl ?_
  refine p_iload_n 3 7 rfl rfl dX9_years_6 rfl ?_
  refine p_iconst (2) 8 rfl dX9_years_7 rfl ?_
  refine p_cV2x 0 0 11 rfl dX9_years_8 (c_isWhat (n := 2) h0 _ (by decide)) ml_X9_381 vl_X9_isWhat rfl (by decide) rfl (Nat.le_of_ble_eq_true rfl) (Nat.le_of_ble_eq_true rfl) (Nat.le_of_ble_eq_true rfl) (Nat.le_of_ble_eq_true rfl) rfl ?_
  intro v0 τ0 hp0
  obtain ⟨hv0, ht0, hf0⟩ := hp0
  subst hv0
  refine p_if_eq 24 14 rfl rfl dX9_years_11 (fun h11 => ?_) (fun h11 => ?_)
  · have hb0 : inR z 3 = false := by simpa only [b2i_eq0, Bool.not_eq_true, Decidable.not_not] using h11
    have ee0 := hf0 hb0
    subst ee0
    refine p_iconst (0) 25 rfl dX9_years_24 rfl ?_
    exact p_iret dX9_years_25 rfl ⟨_, rfl, by rw [fYears, gd_f hb0]; exact hI_sI _ _ _ _, fun q => absurd q (by rw [fYears, gd_f hb0]; decide), (hRM.q hQ).q FQ.th, (hQ.tr FQ.th).ch⟩
  · have hb0 : inR z 3 = true := by simpa only [b2i_eq0, Decidable.not_not, Bool.not_eq_true, Bool.not_eq_false] using h11
    have ee0 := ht0 hb0
    subst ee0
    obtain ⟨w, rfl, hww⟩ := asN hb0 (by omega)
    have hwL : w < 2147483648 := by omega
    refine p_aload_n 0 15 rfl rfl dX9_years_14 rfl ?_
    refine p_iload_n 2 16 rfl rfl dX9_years_15 rfl ?_
    refine p_iconst (0) 17 rfl dX9_years_16 rfl ?_
    refine p_iconst (2) 18 rfl dX9_years_17 rfl ?_
    refine p_cV3x 0 0 21 rfl dX9_years_18 (c_isDays h0 _ 0 (by decide)) ml_X9_426 vl_X9_isDays rfl (by decide) rfl (Nat.le_of_ble_eq_true rfl) (Nat.le_of_ble_eq_true rfl) (Nat.le_of_ble_eq_true rfl) (Nat.le_of_ble_eq_true rfl) rfl ?_
    intro v1 τ1 hp1
    obtain ⟨hv1, ht1, hf1⟩ := hp1
    subst hv1
    refine p_if_ne 26 24 rfl rfl dX9_years_21 (fun h21 => ?_) (fun h21 => ?_)
    · have hb1 : btw y 0 40 = true := by simpa only [b2i_eq0, Decidable.not_not, Bool.not_eq_true, Bool.not_eq_false] using h21
      have ee1 := ht1 hb1
      subst ee1
      obtain ⟨k, rfl, hka, hk⟩ := asB hb1 (by decide) (by decide)
      have hkL : k < 2147483648 := by omega
      refine p_aload_n 0 27 rfl rfl dX9_years_26 rfl ?_
      refine p_cV0v 0 0 30 rfl dX9_years_27 (c_tries hM hw) ml_X9_420 vl_X9_tries rfl (by decide) rfl (Nat.le_of_ble_eq_true rfl) (Nat.le_of_ble_eq_true rfl) (Nat.le_of_ble_eq_true rfl) (Nat.le_of_ble_eq_true rfl) rfl ?_
      intro σ1 hp1
      have hR1 := hR0.q (FQ.b hp1.2)
      have h01 : hI σ1 M0 0 = 0 := (hp1.2.1.2.1 M0 0 (by simp)).trans h0
      refine p_aload_n 0 31 rfl rfl dX9_years_30 rfl ?_
      refine p_iload_n 1 32 rfl rfl dX9_years_31 rfl ?_
      refine p_putI 9 55 35 rfl dX9_years_32 fl_X9_454 rfl rfl (Or.inl rfl) ?_
      refine p_iconst (0) 36 rfl dX9_years_35 rfl ?_
      refine p_ist_4 38 rfl dX9_years_36 (Nat.le_of_ble_eq_true rfl) rfl ?_
      have e : fYears A x (nI k) (nI w) = (0, if w = 0 then nI (pop (kAll (tO A) (yrs (tO A) k (x, tV A)).2)) else if w = 1 then nI (aS (tO A)) - nI (pop (shAt (tO A) (yrs (tO A) k (x, tV A)).2 0)) else nI (pop (inHd (tO A) (yrs (tO A) k (x, tV A)).2))) := by rw [fYears, gd_t hb0, gd_t hb1, iN_nI hkL, iN_nI hwL]
      rw [e]
      have hFY : FY σ1 (sI σ1 M0 55 x) := FY.sd
      exact Ok.sub (l_mYears hK hk hww (fun i => (yrs (tO A) i (x, tV A)).1) (fun i => (yrs (tO A) i (x, tV A)).2) (fun i _ => yrs_s (pr_eta _)) (fun i hi => (yrs_ok (x := x) hv hO i (by omega)).1) k 0 (sI σ1 M0 55 x) _ (by omega) (hR1.q hFY.1) hp1.1.w (hFY.2.trans h01) (hI_sI _ _ _ _) ((hQ.tr (FQ.b hp1.2)).ch.tr hFY.1.ch)) (by decide) (by decide) (by decide)
    · have hb1 : btw y 0 40 = false := by simpa only [b2i_eq0, Bool.not_eq_true, Decidable.not_not] using h21
      have ee1 := hf1 hb1
      subst ee1
      refine p_iconst (0) 25 rfl dX9_years_24 rfl ?_
      exact p_iret dX9_years_25 rfl ⟨_, rfl, by rw [fYears, gd_t hb0, gd_f hb1]; exact hI_sI _ _ _ _, fun q => absurd q (by rw [fYears, gd_t hb0, gd_f hb1]; decide), (hRM.q hQ).q FQ.th, (hQ.tr FQ.th).ch⟩
end C9a
