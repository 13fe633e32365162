/-! ===== the reader: clerks, rules, whole lines ===== -/
theorem stpL_le {O : AO} (h : OkO O) : stpL O ≤ 6 := by
  unfold stpL
  split
  · exact (h.2.2.2.2.1 _ (by omega)).2.1
  · decide
section C68
variable {Γ : Gm} {σ : PH}
theorem c_stop1 {o : Nat} {B : OB} (h : RpB σ o B) (hp : 0 < aC B.1) (hk : stpL B.1 < 6) {t : Nat} (ht : t < 4) : CallOk Γ 1 0 0 mX4_addStop [.ref o, .int (nI t)] σ (rV (fun σ' => RpB σ' o (bStp B t) ∧ Ch (inS (sO o)) σ σ' ∧ hR σ' = hR σ)) := by
  have e : stpL B.1 = aT B.1 (aC B.1 - 1) := if_pos hp
  rw [e] at hk
  have hc6 := h.1.1.2.1.2.1
  refine (c_addStop (c := aC B.1 - 1) (k := aT B.1 (aC B.1 - 1)) h.1.1.1 (by rw [show aC B.1 - 1 + 1 = aC B.1 by omega]; exact h.1.1.2.2.2.1) (h.1.1.2.2.2.2.2.2.1 _ (by omega)).1 (by omega) hk t).mono ?_
  rintro o1 σ1 ⟨h1, h2⟩
  refine ⟨h1, ?_⟩
  rw [h2, bStp, if_pos hp]
  exact ⟨B_stop h hp hk ht, ch_stop h.1.1.1.1, rfl⟩
set_option maxRecDepth 4000 in
theorem c_stop0 {o : Nat} {B : OB} (h : RpB σ o B) (h0 : aC B.1 = 0) {t : Nat} : CallOk Γ 1 0 0 mX4_addStop [.ref o, .int (nI t)] σ (rV (fun σ' => RpB σ' o (bStp B t) ∧ Ch (inS (sO o)) σ σ' ∧ hR σ' = hR σ)) := by
  refine p_enter rfl rfl (Nat.le_of_ble_eq_true rfl) rfl ?_
  refine p_aload_n 0 1 rfl rfl dX4_addStop_0 rfl ?_
  refine p_getIE 4 4 4 rfl dX4_addStop_1 fl_X4_25 h.1.1.1.1.kd rfl (show hI σ o 4 = 0 by have := h.1.1.2.2.2.1; rw [h0] at this; exact this) ?_
  refine p_iconst (1) 5 rfl dX4_addStop_4 rfl ?_
  refine p_isub 6 rfl dX4_addStop_5 ?_
  refine p_ist_n2 7 rfl rfl dX4_addStop_6 (Nat.le_of_ble_eq_true rfl) rfl ?_
  refine p_iload_n 2 8 rfl rfl dX4_addStop_7 rfl ?_
  refine p_if_lt 49 11 rfl rfl dX4_addStop_8 (fun h8 => ?_) (fun h8 => absurd (by decide) h8)
  exact p_vret dX4_addStop_49 rfl ⟨rfl, by rw [bStp, if_neg (by omega)]; exact h, Ch.rf, rfl⟩
theorem c_stopB {o : Nat} {B : OB} (h : RpB σ o B) (hk : stpL B.1 < 6) {t : Nat} (ht : t < 4) : CallOk Γ 1 0 0 mX4_addStop [.ref o, .int (nI t)] σ (rV (fun σ' => RpB σ' o (bStp B t) ∧ Ch (inS (sO o)) σ σ' ∧ hR σ' = hR σ)) := by
  rcases Nat.eq_zero_or_pos (aC B.1) with q | q
  · exact c_stop0 h q
  · exact c_stop1 h q hk ht
set_option maxRecDepth 8000 in
theorem c_nextStop {tx : Nat → Nat} {z o : Nat} {S : RS} {B : OB} (h : RLn σ tx z o (S, B))  : CallOk Γ 5 0 0 mX5_readNextStop [.ref R0] σ (rL tx z o σ (lnStop tx z (S, B))) := by
  have hO := h.2.2.2.2.1.1.1.1
  have hB : RpB σ o B := h.2.2.2.2
  have hok : OkO B.1 := hB.1.1.2.1
  refine p_enter rfl rfl (Nat.le_of_ble_eq_true rfl) rfl ?_
  refine p_aload_n 0 1 rfl rfl dX5_readNextStop_0 rfl ?_
  refine p_getR 5 4 4 rfl dX5_readNextStop_1 fl_X5_41 rfl rfl h.2.2.2.1 hO.ne0 ?_
  refine p_cV0i 7 rfl dX5_readNextStop_4 (c_stopsOfLast hB) ml_X5_149 vl_X4_stopsOfLast hO.kd (by decide) rfl (Nat.le_of_ble_eq_true rfl) (Nat.le_of_ble_eq_true rfl) rfl ?_
  refine p_bipush (6) 9 rfl dX5_readNextStop_7 rfl ?_
  refine p_icmp_lt 18 12 rfl rfl dX5_readNextStop_9 (fun h9 => ?_) (fun h9 => ?_)
  · have hn : stpL B.1 < 6 := (Nat.lt_or_ge (stpL B.1) 6).elim id (fun q => absurd h9 (nI_nlt q (by have := stpL_le hok; omega)))
    refine p_aload_n 0 19 rfl rfl dX5_readNextStop_18 rfl ?_
    refine p_iconst (3) 20 rfl dX5_readNextStop_19 rfl ?_
    refine p_cV1x 0 0 23 rfl dX5_readNextStop_20 (c_readNumber (S := S) h.1 h.2.1 h.2.2.1 (by decide)) ml_X5_133 vl_X5_readNumber rfl (by decide) rfl (Nat.le_of_ble_eq_true rfl) (Nat.le_of_ble_eq_true rfl) (Nat.le_of_ble_eq_true rfl) (Nat.le_of_ble_eq_true rfl) rfl ?_
    intro v1 σ1 hp1
    obtain ⟨hv1, hr1, hcr1⟩ := hp1
    subst hv1
    have h1 : RLn σ1 tx z o ((rdN tx z 3 S).2, B) := RLn.tok h hr1 hcr1 ((rdN_ok h.2.2.1).1)
    have hc1 : Ch (inS (sRd o)) _ σ1 := hcr1.toL
    refine p_ist_n1 24 rfl rfl dX5_readNextStop_23 (Nat.le_of_ble_eq_true rfl) rfl ?_
    refine p_aload_n 0 25 rfl rfl dX5_readNextStop_24 rfl ?_
    refine p_getIE 5 0 28 rfl dX5_readNextStop_25 fl_X5_9 rfl rfl (show hI σ1 R0 0 = nI (rdN tx z 3 S).2.1 from h1.2.1.1) ?_
    refine p_if_ne 39 31 rfl rfl dX5_readNextStop_28 (fun h28 => ?_) (fun h28 => ?_)
    · exact p_vret dX5_readNextStop_39 rfl ⟨rfl, by
   have hf : ¬ (rdN tx z 3 S).2.1 = 0 := fun q => h28 (by rw [q]; rfl)
   rw [show lnStop tx z (S, B) = ((rdN tx z 3 S).2, B) by rw [lnStop, if_pos hn, if_neg hf]]; exact h1, hc1⟩
    · have hf : (rdN tx z 3 S).2.1 = 0 := (Nat.eq_zero_or_pos (rdN tx z 3 S).2.1).elim id (fun q => absurd h28 (fun w => nI_ne0 q (by have := h1.f5; omega) w))
      have hm1 := (rdN_ok (tx := tx) (m := 3) h.2.2.1).2
      refine p_aload_n 0 32 rfl rfl dX5_readNextStop_31 rfl ?_
      refine p_getR 5 4 35 rfl dX5_readNextStop_32 fl_X5_41 rfl rfl h1.2.2.2.1 hO.ne0 ?_
      refine p_iload_n 1 36 rfl rfl dX5_readNextStop_35 rfl ?_
      refine p_cV1v 0 0 39 rfl dX5_readNextStop_36 (c_stopB h1.2.2.2.2 hn (t := (rdN tx z 3 S).1) (Nat.lt_succ_of_le hm1)) ml_X5_152 vl_X4_addStop hO.kd (by decide) rfl (Nat.le_of_ble_eq_true rfl) (Nat.le_of_ble_eq_true rfl) (Nat.le_of_ble_eq_true rfl) (Nat.le_of_ble_eq_true rfl) rfl ?_
      intro σ2 hp2
      have h2 := h1.off hp2.1 hp2.2.1 hp2.2.2
      have hc2 := Ch.toL hp2.2.1
      exact p_vret dX5_readNextStop_39 rfl ⟨rfl, by
   rw [show lnStop tx z (S, B) = ((rdN tx z 3 S).2, bStp B (rdN tx z 3 S).1) by rw [lnStop, if_pos hn, if_pos hf]]; exact h2, hc1.tr hc2⟩
  · have hn : ¬ stpL B.1 < 6 := fun q => h9 (nI_lt q (by decide))
    refine p_aload_n 0 13 rfl rfl dX5_readNextStop_12 rfl ?_
    refine p_iconst (2) 14 rfl dX5_readNextStop_13 rfl ?_
    refine p_cV1v 0 0 17 rfl dX5_readNextStop_14 (c_fail h.2.1 h.2.2.1 2) ml_X5_118 vl_X5_fail rfl (by decide) rfl (Nat.le_of_ble_eq_true rfl) (Nat.le_of_ble_eq_true rfl) (Nat.le_of_ble_eq_true rfl) (Nat.le_of_ble_eq_true rfl) rfl ?_
    intro σ1 hp1
    have h1 : RLn σ1 tx z o (fai z 2 S, B) := RLn.tok h hp1.1 hp1.2 (fai_ok h.2.2.1 (by decide))
    have hc1 : Ch (inS (sRd o)) _ σ1 := hp1.2.toL
    exact p_vret dX5_readNextStop_17 rfl ⟨rfl, by
   rw [show lnStop tx z (S, B) = (fai z 2 S, B) from if_neg hn]; exact h1, hc1⟩
set_option maxRecDepth 4000 in
theorem l_stops {tx : Nat → Nat} {z o : Nat} {Z : LX} {x1 : Int32} : ∀ (m i : Nat) (σ1 : PH) (X : LX), i + m = 6 → RLn σ1 tx z o X → stpF tx z m X = Z → Ch (inS (sRd o)) σ σ1 → Ok Γ 6 0 0 mX5_readClerkLine 49 [some (.ref R0), some (.int x1), some (.int (nI i))] [] σ1 (rL tx z o σ Z) := by
  intro m
  induction m with
  | zero =>
    intro i σ1 X hi h hZ hc1
    refine p_iload_n 2 50 rfl rfl dX5_readClerkLine_49 rfl ?_
    refine p_bipush (6) 52 rfl dX5_readClerkLine_50 rfl ?_
    refine p_icmp_ge 73 55 rfl rfl dX5_readClerkLine_52 (fun h52 => ?_) (fun h52 => absurd (nI_le (a := 6) (b := i) (by omega) (by omega)) h52)
    exact p_vret dX5_readClerkLine_73 rfl ⟨rfl, by simp only [stpF] at hZ; rw [← hZ]; exact h, hc1⟩
  | succ m ih =>
    intro i σ1 X hi h hZ hc1
    refine p_iload_n 2 50 rfl rfl dX5_readClerkLine_49 rfl ?_
    refine p_bipush (6) 52 rfl dX5_readClerkLine_50 rfl ?_
    refine p_icmp_ge 73 55 rfl rfl dX5_readClerkLine_52 (fun h52 => absurd h52 (nI_ge (a := i) (b := 6) (by omega) (by omega))) (fun h52 => ?_)
    refine p_aload_n 0 56 rfl rfl dX5_readClerkLine_55 rfl ?_
    refine p_getIE 5 7 59 rfl dX5_readClerkLine_56 fl_X5_25 rfl rfl (show hI σ1 R0 7 = nI X.1.2.2.1 from h.2.1.2.2.2.1) ?_
    refine p_iconst (2) 60 rfl dX5_readClerkLine_59 rfl ?_
    refine p_icmp_ne 73 63 rfl rfl dX5_readClerkLine_60 (fun h60 => ?_) (fun h60 => ?_)
    · exact p_vret dX5_readClerkLine_73 rfl ⟨rfl, by rw [show stpF tx z (m + 1) X = X from if_neg (fun q => h60 (by rw [q]; rfl))] at hZ; rw [← hZ]; exact h, hc1⟩
    · have hk : X.1.2.2.1 = 2 := nI_eqI h60 (by have := h.2.2.1.2.1; omega) (by decide)
      refine p_aload_n 0 64 rfl rfl dX5_readClerkLine_63 rfl ?_
      refine p_cV0v 0 0 67 rfl dX5_readClerkLine_64 (c_nextStop (S := X.1) (B := X.2) h) ml_X5_146 vl_X5_readNextStop rfl (by decide) rfl (Nat.le_of_ble_eq_true rfl) (Nat.le_of_ble_eq_true rfl) (Nat.le_of_ble_eq_true rfl) (Nat.le_of_ble_eq_true rfl) rfl ?_
      intro σ2 hp2
      refine p_inc_2 70 rfl dX5_readClerkLine_67 (1) rfl (Nat.le_of_ble_eq_true rfl) rfl ?_
      refine p_goto 49 rfl dX5_readClerkLine_70 ?_
      rw [nI_1]
      refine ih (i + 1) σ2 _ (by omega) hp2.1 ?_ (hc1.tr hp2.2)
      rw [← hZ]; exact (if_pos hk).symm
set_option maxRecDepth 8000 in
theorem c_clerkLine {tx : Nat → Nat} {z o : Nat} {S : RS} {B : OB} (h : RLn σ tx z o (S, B))  : CallOk Γ 6 0 0 mX5_readClerkLine [.ref R0] σ (rL tx z o σ (lnClerk tx z (S, B))) := by
  have hO := h.2.2.2.2.1.1.1.1
  have hB : RpB σ o B := h.2.2.2.2
  have hok : OkO B.1 := hB.1.1.2.1
  refine p_enter rfl rfl (Nat.le_of_ble_eq_true rfl) rfl ?_
  refine p_aload_n 0 1 rfl rfl dX5_readClerkLine_0 rfl ?_
  refine p_aload_n 0 2 rfl rfl dX5_readClerkLine_1 rfl ?_
  refine p_getR 5 4 5 rfl dX5_readClerkLine_2 fl_X5_41 rfl rfl h.2.2.2.1 hO.ne0 ?_
  refine p_getIE 4 4 8 rfl dX5_readClerkLine_5 fl_X5_140 hO.kd rfl (show hI _ o 4 = nI (aC B.1) from h.2.2.2.2.1.1.2.2.2.1) ?_
  refine p_bipush (6) 10 rfl dX5_readClerkLine_8 rfl ?_
  refine p_icmp_ge 17 13 rfl rfl dX5_readClerkLine_10 (fun h10 => ?_) (fun h10 => ?_)
  · refine p_iconst (0) 18 rfl dX5_readClerkLine_17 rfl ?_
    refine p_iconst (2) 19 rfl dX5_readClerkLine_18 rfl ?_
    refine p_cV2x 0 0 22 rfl dX5_readClerkLine_19 (c_beginLine (S := S) h.1 h.2.1 h.2.2.1 false 2) ml_X5_129 vl_X5_beginLine rfl (by decide) rfl (Nat.le_of_ble_eq_true rfl) (Nat.le_of_ble_eq_true rfl) (Nat.le_of_ble_eq_true rfl) (Nat.le_of_ble_eq_true rfl) rfl ?_
    intro v1 σ1 hp1
    obtain ⟨hv1, hr1, hcr1⟩ := hp1
    subst hv1
    have hc1 : Ch (inS (sRd o)) _ σ1 := hcr1.toL
    refine p_if_ne 26 25 rfl rfl dX5_readClerkLine_22 (fun h22 => absurd rfl h22) (fun h22 => ?_)
    have h1 : RLn σ1 tx z o (fai z 2 S, B) := RLn.tok h hr1 hcr1 (fai_ok h.2.2.1 (by decide))
    exact p_vret dX5_readClerkLine_25 rfl ⟨rfl, by
   have hn : ¬ aC B.1 < 6 := fun q => nI_ge q (by decide) h10
   rw [show lnClerk tx z (S, B) = (fai z 2 S, B) from if_neg hn]; exact h1, hc1⟩
  · refine p_iconst (1) 14 rfl dX5_readClerkLine_13 rfl ?_
    refine p_goto 18 rfl dX5_readClerkLine_14 ?_
    refine p_iconst (2) 19 rfl dX5_readClerkLine_18 rfl ?_
    refine p_cV2x 0 0 22 rfl dX5_readClerkLine_19 (c_beginLine (S := S) h.1 h.2.1 h.2.2.1 true 2) ml_X5_129 vl_X5_beginLine rfl (by decide) rfl (Nat.le_of_ble_eq_true rfl) (Nat.le_of_ble_eq_true rfl) (Nat.le_of_ble_eq_true rfl) (Nat.le_of_ble_eq_true rfl) rfl ?_
    intro v1 σ1 hp1
    obtain ⟨hv1, hr1, hcr1⟩ := hp1
    subst hv1
    have hc1 : Ch (inS (sRd o)) _ σ1 := hcr1.toL
    refine p_if_ne 26 25 rfl rfl dX5_readClerkLine_22 (fun h22 => ?_) (fun h22 => absurd h22 (by decide))
    have hn : aC B.1 < 6 := (Nat.lt_or_ge (aC B.1) 6).elim id (fun q => absurd (nI_le (a := 6) q (by have := hok.2.1; omega)) h10)
    have h1 : RLn σ1 tx z o ((adv tx z S), B) := RLn.tok h hr1 hcr1 (adv_ok h.2.2.1)
    refine p_aload_n 0 27 rfl rfl dX5_readClerkLine_26 rfl ?_
    refine p_iconst (3) 28 rfl dX5_readClerkLine_27 rfl ?_
    refine p_cV1x 0 0 31 rfl dX5_readClerkLine_28 (c_readNumber (S := (adv tx z S)) h1.1 h1.2.1 h1.2.2.1 (by decide)) ml_X5_133 vl_X5_readNumber rfl (by decide) rfl (Nat.le_of_ble_eq_true rfl) (Nat.le_of_ble_eq_true rfl) (Nat.le_of_ble_eq_true rfl) (Nat.le_of_ble_eq_true rfl) rfl ?_
    intro v2 σ2 hp2
    obtain ⟨hv2, hr2, hcr2⟩ := hp2
    subst hv2
    have h2 : RLn σ2 tx z o ((rdN tx z 3 (adv tx z S)).2, B) := RLn.tok h1 hr2 hcr2 ((rdN_ok h1.2.2.1).1)
    have hc2 : Ch (inS (sRd o)) _ σ2 := hcr2.toL
    refine p_ist_n1 32 rfl rfl dX5_readClerkLine_31 (Nat.le_of_ble_eq_true rfl) rfl ?_
    refine p_aload_n 0 33 rfl rfl dX5_readClerkLine_32 rfl ?_
    refine p_getIE 5 0 36 rfl dX5_readClerkLine_33 fl_X5_9 rfl rfl (show hI σ2 R0 0 = nI (rdN tx z 3 (adv tx z S)).2.1 from h2.2.1.1) ?_
    refine p_if_ne 47 39 rfl rfl dX5_readClerkLine_36 (fun h36 => ?_) (fun h36 => ?_)
    · refine p_iconst (0) 48 rfl dX5_readClerkLine_47 rfl ?_
      refine p_ist_n2 49 rfl rfl dX5_readClerkLine_48 (Nat.le_of_ble_eq_true rfl) rfl ?_
      have hf : ¬ (rdN tx z 3 (adv tx z S)).2.1 = 0 := fun q => h36 (by rw [q]; rfl)
      exact l_stops 6 0 σ2 ((rdN tx z 3 (adv tx z S)).2, B) (by omega) h2 (by rw [lnClerk, if_pos hn, if_neg hf]) (hc1.tr hc2)
    · have hf : (rdN tx z 3 (adv tx z S)).2.1 = 0 := (Nat.eq_zero_or_pos (rdN tx z 3 (adv tx z S)).2.1).elim id (fun q => absurd h36 (fun w => nI_ne0 q (by have := h2.f5; omega) w))
      have hm1 := (rdN_ok (tx := tx) (m := 3) h1.2.2.1).2
      refine p_aload_n 0 40 rfl rfl dX5_readClerkLine_39 rfl ?_
      refine p_getR 5 4 43 rfl dX5_readClerkLine_40 fl_X5_41 rfl rfl h2.2.2.2.1 hO.ne0 ?_
      refine p_iload_n 1 44 rfl rfl dX5_readClerkLine_43 rfl ?_
      refine p_cV1v 0 0 47 rfl dX5_readClerkLine_44 (c_addClerk h2.2.2.2.2 hn _) ml_X5_143 vl_X4_addClerk hO.kd (by decide) rfl (Nat.le_of_ble_eq_true rfl) (Nat.le_of_ble_eq_true rfl) (Nat.le_of_ble_eq_true rfl) (Nat.le_of_ble_eq_true rfl) rfl ?_
      rintro σ3 rfl
      refine p_iconst (0) 48 rfl dX5_readClerkLine_47 rfl ?_
      refine p_ist_n2 49 rfl rfl dX5_readClerkLine_48 (Nat.le_of_ble_eq_true rfl) rfl ?_
      have h3 := h2.off (B_clerk h2.2.2.2.2 hn (Nat.lt_succ_of_le hm1)) (ch_clerk hO) rfl
      have hc3 := Ch.toL (ch_clerk (σ := σ2) (n := 6 * aC B.1 + 0) (m := aC B.1) (a := nI 0) (b := nI (aC B.1 + 1)) (x := nI (rdN tx z 3 (adv tx z S)).1) (y := nI (0 + 1)) hO)
      exact l_stops 6 0 _ ((rdN tx z 3 (adv tx z S)).2, bClerk B (rdN tx z 3 (adv tx z S)).1) (by omega) h3 (by rw [lnClerk, if_pos hn, if_pos hf]) ((hc1.tr hc2).tr hc3)
def uW (o : Nat) (w : Bool) : Nat := if w = true then oY o else oM o
theorem uW_isU {o : Nat} (h : isO o) (w : Bool) : isU (uW o w) := by
  unfold isU
  rcases h with rfl | rfl <;> cases w <;> decide
theorem sT_sRd {o : Nat} (h : isO o) (w : Bool) : (sT (uW o w)).all (fun s => (sRd o).contains s) = true := by
  rcases h with rfl | rfl <;> cases w <;> decide
theorem B_rule {σ σ' : PH} {o : Nat} {B : OB} {w : Bool} {ps : List Int32} (h : RpB σ o B) (hc : Ch (inS (sT (uW o w))) σ σ') (hp : RpP σ' (uW o w) ps) : RpB σ' o (bRule B w ps) := by
  have hO := h.1.1.1.1
  obtain ⟨⟨⟨h1, h2, h3, h4, h5, h6, h7, h8⟩, hY, hM⟩, hE, hZ, hy, hm, hb⟩ := h
  have e : ∀ r, r = o ∨ r = oL o ∨ r = oR o ∨ r = oH o ∨ r = oS o ∨ r = oN o ∨ r = oA o ∨ r = oB o ∨ r = uW o (!w) ∨ r = uS (uW o (!w)) → hI σ' r = hI σ r ∧ hA σ' r = hA σ r ∧ hR σ' r = hR σ r := by
    intro r hr
    rcases hO with rfl | rfl <;> cases w <;> rcases hr with rfl | rfl | rfl | rfl | rfl | rfl | rfl | rfl | rfl | rfl <;> exact hc.2.2.2.2 _ rfl
  have e0 := e o (by simp)
  have eL := e (oL o) (by simp)
  have eR := e (oR o) (by simp)
  have eH := e (oH o) (by simp)
  have eS := e (oS o) (by simp)
  have eN := e (oN o) (by simp)
  have eA := e (oA o) (by simp)
  have eB := e (oB o) (by simp)
  have eU := e (uW o (!w)) (by simp)
  have eV := e (uS (uW o (!w))) (by simp)
  have hst := h1.ch hc
  refine ⟨⟨⟨hst, h2, by rw [e0.1]; exact h3, by rw [e0.1]; exact h4, by rw [e0.1]; exact h5, by rw [e0.1]; exact h6, fun c hc => by rw [eS.2.1, eN.2.1]; exact h7 c hc, fun k hk => by rw [eA.2.1, eB.2.1]; exact h8 k hk⟩, ?_, ?_⟩, fun s hs => by rw [eL.2.1, eR.2.1, eH.2.1]; exact hE s hs, by rw [e0.1]; exact hZ, ?_, ?_, hb.eq eL.2.1 eR.2.1 eH.2.1⟩
  · cases w
    · show RpU σ' (oY o) (aY B.1)
      unfold RpU at hY ⊢
      rw [show hI σ' (oY o) = hI σ (oY o) from eU.1, show hR σ' (oY o) = hR σ (oY o) from eU.2.2, show hA σ' (uS (oY o)) = hA σ (uS (oY o)) from eV.2.1]; exact hY
    · exact ⟨kd6 _ _, hst.2.2.2.2.2.2.2.2.2.2.1, hst.2.2.2.2.2.2.2.2.2.2.2.1, hp.2.2.1, hp.2.2.2.1, hp.2.2.2.2.1, hp.2.2.2.2.2⟩
  · cases w
    · exact ⟨kd6 _ _, hst.2.2.2.2.2.2.2.2.2.2.2.2.1, hst.2.2.2.2.2.2.2.2.2.2.2.2.2, hp.2.2.1, hp.2.2.2.1, hp.2.2.2.2.1, hp.2.2.2.2.2⟩
    · show RpU σ' (oM o) (aM B.1)
      unfold RpU at hM ⊢
      rw [show hI σ' (oM o) = hI σ (oM o) from eU.1, show hR σ' (oM o) = hR σ (oM o) from eU.2.2, show hA σ' (uS (oM o)) = hA σ (uS (oM o)) from eV.2.1]; exact hM
  · cases w
    · intro q
      rw [show hI σ' (oY o) = hI σ (oY o) from eU.1]; exact hy q
    · intro q; cases q
  · cases w
    · intro q; cases q
    · intro q
      rw [show hI σ' (oM o) = hI σ (oM o) from eU.1]; exact hm q
theorem lnRule_t {tx : Nat → Nat} {z : Nat} {w : Bool} {S : RS} {B : OB} (hn : (if w = true then aY B.1 else aM B.1) = none) : lnRule tx z w (S, B) = ((tirF tx z w 40 0 0 (adv tx z S, [])).1, bRule B w (tirF tx z w 40 0 0 (adv tx z S, [])).2) := by
  unfold lnRule
  exact if_pos hn
theorem RpB.told {σ : PH} {o : Nat} {B : OB} (h : RpB σ o B) (w : Bool) : ((if w = true then aY B.1 else aM B.1) = none → hI σ (uW o w) 0 = 0 ∧ hI σ (uW o w) 1 = 0) ∧ (¬ (if w = true then aY B.1 else aM B.1) = none → hI σ (uW o w) 0 = 1) := by
  obtain ⟨⟨-, hY, hM⟩, -, -, hy, hm, -⟩ := h
  cases w
  · show (aM B.1 = none → hI σ (oM o) 0 = 0 ∧ hI σ (oM o) 1 = 0) ∧ (¬ aM B.1 = none → hI σ (oM o) 0 = 1)
    cases e : aM B.1 with
    | none => rw [e] at hM; exact ⟨fun _ => ⟨hM.2.2.2, hm e⟩, fun q => absurd rfl q⟩
    | some l => rw [e] at hM; exact ⟨(fun q => by cases q), fun _ => hM.2.2.2.1⟩
  · show (aY B.1 = none → hI σ (oY o) 0 = 0 ∧ hI σ (oY o) 1 = 0) ∧ (¬ aY B.1 = none → hI σ (oY o) 0 = 1)
    cases e : aY B.1 with
    | none => rw [e] at hY; exact ⟨fun _ => ⟨hY.2.2.2, hy e⟩, fun q => absurd rfl q⟩
    | some l => rw [e] at hY; exact ⟨(fun q => by cases q), fun _ => hY.2.2.2.1⟩
theorem hI_sR (σ : PH) (r k v : Nat) : hI (sR σ r k v) = hI σ := rfl
theorem hA_sR (σ : PH) (r k v : Nat) : hA (sR σ r k v) = hA σ := rfl
set_option maxRecDepth 8000 in
theorem c_ruleLine {tx : Nat → Nat} {z o : Nat} {S : RS} {B : OB} (h : RLn σ tx z o (S, B)) (w : Bool) : CallOk Γ 51 0 0 mX5_readRuleLine [.ref R0, .ref (uW o w), .int (b2i w)] σ (rL tx z o σ (lnRule tx z w (S, B))) := by
  have hO := h.2.2.2.2.1.1.1.1
  have hB : RpB σ o B := h.2.2.2.2
  have hok : OkO B.1 := hB.1.1.2.1
  have hu := uW_isU hO w
  have hT := hB.told w
  refine p_enter rfl rfl (Nat.le_of_ble_eq_true rfl) rfl ?_
  refine p_aload_n 0 1 rfl rfl dX5_readRuleLine_0 rfl ?_
  refine p_aload_n 1 2 rfl rfl dX5_readRuleLine_1 rfl ?_
  refine p_getIE 6 0 5 rfl dX5_readRuleLine_2 fl_X5_170 hu.kd rfl (show hI σ (uW o w) 0 = hI σ (uW o w) 0 from rfl) ?_
  refine p_if_ne 12 8 rfl rfl dX5_readRuleLine_5 (fun h5 => ?_) (fun h5 => ?_)
  · refine p_iconst (0) 13 rfl dX5_readRuleLine_12 rfl ?_
    refine p_iconst (5) 14 rfl dX5_readRuleLine_13 rfl ?_
    refine p_cV2x 0 0 17 rfl dX5_readRuleLine_14 (c_beginLine (S := S) h.1 h.2.1 h.2.2.1 false 5) ml_X5_129 vl_X5_beginLine rfl (by decide) rfl (Nat.le_of_ble_eq_true rfl) (Nat.le_of_ble_eq_true rfl) (Nat.le_of_ble_eq_true rfl) (Nat.le_of_ble_eq_true rfl) rfl ?_
    intro v1 σ1 hp1
    obtain ⟨hv1, hr1, hcr1⟩ := hp1
    subst hv1
    have hc1 : Ch (inS (sRd o)) _ σ1 := hcr1.toL
    refine p_if_ne 21 20 rfl rfl dX5_readRuleLine_17 (fun h17 => absurd rfl h17) (fun h17 => ?_)
    have hn : ¬ (if w = true then aY B.1 else aM B.1) = none := fun q => h5 (hT.1 q).1
    have h1 : RLn σ1 tx z o (fai z 5 S, B) := RLn.tok h hr1 hcr1 (fai_ok h.2.2.1 (by decide))
    exact p_vret dX5_readRuleLine_20 rfl ⟨rfl, by
   rw [show lnRule tx z w (S, B) = (fai z 5 S, B) from if_neg hn]; exact h1, hc1⟩
  · refine p_iconst (1) 9 rfl dX5_readRuleLine_8 rfl ?_
    refine p_goto 13 rfl dX5_readRuleLine_9 ?_
    refine p_iconst (5) 14 rfl dX5_readRuleLine_13 rfl ?_
    refine p_cV2x 0 0 17 rfl dX5_readRuleLine_14 (c_beginLine (S := S) h.1 h.2.1 h.2.2.1 true 5) ml_X5_129 vl_X5_beginLine rfl (by decide) rfl (Nat.le_of_ble_eq_true rfl) (Nat.le_of_ble_eq_true rfl) (Nat.le_of_ble_eq_true rfl) (Nat.le_of_ble_eq_true rfl) rfl ?_
    intro v1 σ1 hp1
    obtain ⟨hv1, hr1, hcr1⟩ := hp1
    subst hv1
    have hc1 : Ch (inS (sRd o)) _ σ1 := hcr1.toL
    refine p_if_ne 21 20 rfl rfl dX5_readRuleLine_17 (fun h17 => ?_) (fun h17 => absurd h17 (by decide))
    have hn : (if w = true then aY B.1 else aM B.1) = none := Decidable.byContradiction (fun q => absurd (hT.2 q) (by rw [h5]; decide))
    have h1 : RLn σ1 tx z o ((adv tx z S), B) := RLn.tok h hr1 hcr1 (adv_ok h.2.2.1)
    refine p_aload_n 1 22 rfl rfl dX5_readRuleLine_21 rfl ?_
    refine p_iconst (1) 23 rfl dX5_readRuleLine_22 rfl ?_
    refine p_putZ 6 0 26 rfl dX5_readRuleLine_23 fl_X5_170 hu.kd rfl (by first | exact Or.inl rfl | exact Or.inr rfl | assumption) (Or.inl rfl) ?_
    refine p_aload_n 0 27 rfl rfl dX5_readRuleLine_26 rfl ?_
    refine p_aload_n 1 28 rfl rfl dX5_readRuleLine_27 rfl ?_
    refine p_putR 5 5 31 rfl dX5_readRuleLine_28 fl_X5_51 rfl rfl hu.ne0 (Or.inl rfl) ?_
    refine p_aload_n 0 32 rfl rfl dX5_readRuleLine_31 rfl ?_
    refine p_iload_n 2 33 rfl rfl dX5_readRuleLine_32 rfl ?_
    refine p_putZ 5 6 36 rfl dX5_readRuleLine_33 fl_X5_21 rfl rfl (by cases w; exact Or.inl rfl; exact Or.inr rfl) (Or.inl rfl) ?_
    have hT1 := (h1.2.2.2.2.told w).1 hn
    have hu0 : (uW o w) ≠ R0 := by rcases hO with rfl | rfl <;> cases w <;> decide
    have hc4 : Ch (inS (sT (uW o w))) σ1 (sI (sR (sI σ1 (uW o w) 0 1) R0 5 (uW o w)) R0 6 (b2i w)) := by
      refine ⟨rfl, rfl, rfl, fun r k hk => ?_, fun r hr => ⟨?_, rfl, ?_⟩⟩
      · exact hR_sRo (fun e => hk (by rw [e]; decide))
      · have n1 : r ≠ R0 := fun e => by rw [e] at hr; exact absurd hr (by unfold sT inS; rw [show sn R0 = 31 from rfl]; simp)
        have n2 : r ≠ (uW o w) := fun e => by rw [e] at hr; exact absurd hr (by unfold sT inS; simp)
        rw [hI_ne n1, hI_sR, hI_ne n2]
      · have n1 : r ≠ R0 := fun e => by rw [e] at hr; exact absurd hr (by unfold sT inS; rw [show sn R0 = 31 from rfl]; simp)
        exact va_upo n1
    have hD4 : RD (sI (sR (sI σ1 (uW o w) 0 1) R0 5 (uW o w)) R0 6 (b2i w)) tx z (uW o w) w (adv tx z S) [] := by
      refine ⟨h1.1.ch hc4 (by rcases hO with rfl | rfl <;> cases w <;> rfl), ?_, h1.2.2.1, ⟨hR_sR _ _ _ _, hI_sI _ _ _ _⟩, hu, ?_, ?_, ?_, Nat.zero_le _, fun i hi => absurd hi (Nat.not_lt_zero _)⟩
      · have e : ∀ k, k ≠ 6 → hI (sI (sR (sI σ1 (uW o w) 0 1) R0 5 (uW o w)) R0 6 (b2i w)) R0 k = hI σ1 R0 k := fun k hk => by rw [hI_sIo (fun e => hk (congrArg Prod.snd e)), hI_sR, hI_ne hu0.symm]
        have := h1.2.1
        unfold RpS RpR at this ⊢
        rw [e 0 (by decide), e 1 (by decide), e 3 (by decide), e 7 (by decide), e 8 (by decide), e 9 (by decide), e 10 (by decide)]
        exact this
      · have e : hR (sI (sR (sI σ1 (uW o w) 0 1) R0 5 (uW o w)) R0 6 (b2i w)) (uW o w) = hR σ1 (uW o w) := va_upo hu0
        rw [e]
        have hst := h1.2.2.2.2.1.1.1
        cases w
        · exact hst.2.2.2.2.2.2.2.2.2.2.2.2.1
        · exact hst.2.2.2.2.2.2.2.2.2.2.1
      · rw [hI_ne hu0, hI_sR, hI_sI]
      · rw [hI_ne hu0, hI_sR, hI_sIo (by intro e; cases e)]; exact hT1.2
    refine p_aload_n 0 37 rfl rfl dX5_readRuleLine_36 rfl ?_
    refine p_iconst (0) 38 rfl dX5_readRuleLine_37 rfl ?_
    refine p_iconst (0) 39 rfl dX5_readRuleLine_38 rfl ?_
    refine p_cV2v 0 0 42 rfl dX5_readRuleLine_39 (c_tier hu 40 0 0 50 _ _ _ (by decide) (by decide) (by decide) (by decide) hD4) ml_X5_175 vl_X5_readTier rfl (by decide) rfl (Nat.le_of_ble_eq_true rfl) (Nat.le_of_ble_eq_true rfl) (Nat.le_of_ble_eq_true rfl) (Nat.le_of_ble_eq_true rfl) rfl ?_
    intro σ5 hp5
    have hln := lnRule_t (tx := tx) (z := z) (S := S) hn
    generalize tirF tx z w 40 0 0 (adv tx z S, []) = Y at hp5 hln
    obtain ⟨hD5, hc5⟩ := hp5
    have h54 : hR σ5 R0 4 = o := by rw [hc5.2]; exact (hR_sRo (by intro e; cases e)).trans h1.2.2.2.1
    exact p_vret dX5_readRuleLine_42 rfl ⟨rfl, by
   rw [hln]
   exact ⟨hD5.1, hD5.2.1, hD5.2.2.1, h54, B_rule h1.2.2.2.2 (hc4.tr hc5.1) hD5.2.2.2.2⟩, hc1.tr ((hc4.tr hc5.1).more (sT_sRd hO w))⟩
set_option maxRecDepth 4000 in
theorem l_line117 {tx : Nat → Nat} {z o : Nat} {X : LX} {σ1 : PH} (h : RLn σ1 tx z o (lnAny tx z X)) (hc : Ch (inS (sRd o)) σ σ1) : Ok Γ 52 0 0 mX5_readLine 117 [some (.ref R0)] [] σ1 (rL tx z o σ (lnOne tx z X)) := by
  refine p_aload_n 0 118 rfl rfl dX5_readLine_117 rfl ?_
  refine p_bipush (59) 120 rfl dX5_readLine_118 rfl ?_
  refine p_cV1v 0 0 123 rfl dX5_readLine_120 (c_readSign (S := (lnAny tx z X).1) h.1 h.2.1 h.2.2.1 (by decide)) ml_X5_122 vl_X5_readSign rfl (by decide) rfl (Nat.le_of_ble_eq_true rfl) (Nat.le_of_ble_eq_true rfl) (Nat.le_of_ble_eq_true rfl) (Nat.le_of_ble_eq_true rfl) rfl ?_
  intro σ2 hp2
  exact p_vret dX5_readLine_123 rfl ⟨rfl, RLn.tok h hp2.1 hp2.2 (rdS_ok h.2.2.1), hc.tr hp2.2.toL⟩
set_option maxRecDepth 8000 in
theorem c_readLine {tx : Nat → Nat} {z o : Nat} {S : RS} {B : OB} (h : RLn σ tx z o (S, B))  : CallOk Γ 52 0 0 mX5_readLine [.ref R0] σ (rL tx z o σ (lnOne tx z (S, B))) := by
  have hO := h.2.2.2.2.1.1.1.1
  have hB : RpB σ o B := h.2.2.2.2
  have hok : OkO B.1 := hB.1.1.2.1
  refine p_enter rfl rfl (Nat.le_of_ble_eq_true rfl) rfl ?_
  refine p_aload_n 0 1 rfl rfl dX5_readLine_0 rfl ?_
  refine p_ldcS 14 3 rfl dX5_readLine_1 (by decide) rfl rfl ?_
  refine p_cV1i 6 rfl dX5_readLine_3 (c_spells (S := S) h.1 h.2.1 h.2.2.1 (by decide)) ml_X5_87 vl_X5_spells rfl (by decide) rfl (Nat.le_of_ble_eq_true rfl) (Nat.le_of_ble_eq_true rfl) rfl ?_
  refine p_if_eq 16 9 rfl rfl dX5_readLine_6 (fun h6 => ?_) (fun h6 => ?_)
  · refine p_aload_n 0 17 rfl rfl dX5_readLine_16 rfl ?_
    refine p_ldcS 15 19 rfl dX5_readLine_17 (by decide) rfl rfl ?_
    refine p_cV1i 22 rfl dX5_readLine_19 (c_spells (S := S) h.1 h.2.1 h.2.2.1 (by decide)) ml_X5_87 vl_X5_spells rfl (by decide) rfl (Nat.le_of_ble_eq_true rfl) (Nat.le_of_ble_eq_true rfl) rfl ?_
    refine p_if_eq 32 25 rfl rfl dX5_readLine_22 (fun h22 => ?_) (fun h22 => ?_)
    · refine p_aload_n 0 33 rfl rfl dX5_readLine_32 rfl ?_
      refine p_ldcS 16 35 rfl dX5_readLine_33 (by decide) rfl rfl ?_
      refine p_cV1i 38 rfl dX5_readLine_35 (c_spells (S := S) h.1 h.2.1 h.2.2.1 (by decide)) ml_X5_87 vl_X5_spells rfl (by decide) rfl (Nat.le_of_ble_eq_true rfl) (Nat.le_of_ble_eq_true rfl) rfl ?_
      refine p_if_eq 48 41 rfl rfl dX5_readLine_38 (fun h38 => ?_) (fun h38 => ?_)
      · refine p_aload_n 0 49 rfl rfl dX5_readLine_48 rfl ?_
        refine p_ldcS 17 51 rfl dX5_readLine_49 (by decide) rfl rfl ?_
        refine p_cV1i 54 rfl dX5_readLine_51 (c_spells (S := S) h.1 h.2.1 h.2.2.1 (by decide)) ml_X5_87 vl_X5_spells rfl (by decide) rfl (Nat.le_of_ble_eq_true rfl) (Nat.le_of_ble_eq_true rfl) rfl ?_
        refine p_if_eq 64 57 rfl rfl dX5_readLine_54 (fun h54 => ?_) (fun h54 => ?_)
        · refine p_aload_n 0 65 rfl rfl dX5_readLine_64 rfl ?_
          refine p_ldcS 18 67 rfl dX5_readLine_65 (by decide) rfl rfl ?_
          refine p_cV1i 70 rfl dX5_readLine_67 (c_spells (S := S) h.1 h.2.1 h.2.2.1 (by decide)) ml_X5_87 vl_X5_spells rfl (by decide) rfl (Nat.le_of_ble_eq_true rfl) (Nat.le_of_ble_eq_true rfl) rfl ?_
          refine p_if_eq 88 73 rfl rfl dX5_readLine_70 (fun h70 => ?_) (fun h70 => ?_)
          · refine p_aload_n 0 89 rfl rfl dX5_readLine_88 rfl ?_
            refine p_ldcS 19 91 rfl dX5_readLine_89 (by decide) rfl rfl ?_
            refine p_cV1i 94 rfl dX5_readLine_91 (c_spells (S := S) h.1 h.2.1 h.2.2.1 (by decide)) ml_X5_87 vl_X5_spells rfl (by decide) rfl (Nat.le_of_ble_eq_true rfl) (Nat.le_of_ble_eq_true rfl) rfl ?_
            refine p_if_eq 112 97 rfl rfl dX5_readLine_94 (fun h94 => ?_) (fun h94 => ?_)
            · refine p_aload_n 0 113 rfl rfl dX5_readLine_112 rfl ?_
              refine p_iconst (1) 114 rfl dX5_readLine_113 rfl ?_
              refine p_cV1v 0 0 117 rfl dX5_readLine_114 (c_fail h.2.1 h.2.2.1 1) ml_X5_118 vl_X5_fail rfl (by decide) rfl (Nat.le_of_ble_eq_true rfl) (Nat.le_of_ble_eq_true rfl) (Nat.le_of_ble_eq_true rfl) (Nat.le_of_ble_eq_true rfl) rfl ?_
              intro σ1 hp1
              have g6 : ¬ spl tx S (swd 14) = true := by simpa only [b2i_eq0] using h6
              have g22 : ¬ spl tx S (swd 15) = true := by simpa only [b2i_eq0] using h22
              have g38 : ¬ spl tx S (swd 16) = true := by simpa only [b2i_eq0] using h38
              have g54 : ¬ spl tx S (swd 17) = true := by simpa only [b2i_eq0] using h54
              have g70 : ¬ spl tx S (swd 18) = true := by simpa only [b2i_eq0] using h70
              have g94 : ¬ spl tx S (swd 19) = true := by simpa only [b2i_eq0] using h94
              have e : lnAny tx z (S, B) = (fai z 1 S, B) := by rw [lnAny, if_neg g6, if_neg g22, if_neg g38, if_neg g54, if_neg g70, if_neg g94]
              exact l_line117 (by rw [e]; exact RLn.tok h hp1.1 hp1.2 (fai_ok h.2.2.1 (by decide))) hp1.2.toL
            · refine p_aload_n 0 98 rfl rfl dX5_readLine_97 rfl ?_
              refine p_aload_n 0 99 rfl rfl dX5_readLine_98 rfl ?_
              refine p_getR 5 4 102 rfl dX5_readLine_99 fl_X5_41 rfl rfl h.2.2.2.1 hO.ne0 ?_
              refine p_getR 4 13 105 rfl dX5_readLine_102 fl_X5_116 hO.kd rfl hB.1.1.1.2.2.2.2.2.2.2.2.2.1 (mk0 (Nat.succ_ne_zero _)) ?_
              refine p_iconst (0) 106 rfl dX5_readLine_105 rfl ?_
              refine p_cV2v 0 0 109 rfl dX5_readLine_106 (c_ruleLine h false) ml_X5_110 vl_X5_readRuleLine rfl (by decide) rfl (Nat.le_of_ble_eq_true rfl) (Nat.le_of_ble_eq_true rfl) (Nat.le_of_ble_eq_true rfl) (Nat.le_of_ble_eq_true rfl) rfl ?_
              intro σ1 hp1
              refine p_goto 117 rfl dX5_readLine_109 ?_
              have g6 : ¬ spl tx S (swd 14) = true := by simpa only [b2i_eq0] using h6
              have g22 : ¬ spl tx S (swd 15) = true := by simpa only [b2i_eq0] using h22
              have g38 : ¬ spl tx S (swd 16) = true := by simpa only [b2i_eq0] using h38
              have g54 : ¬ spl tx S (swd 17) = true := by simpa only [b2i_eq0] using h54
              have g70 : ¬ spl tx S (swd 18) = true := by simpa only [b2i_eq0] using h70
              have g94 : spl tx S (swd 19) = true := by simpa only [b2i_eq0, Decidable.not_not] using h94
              have e : lnAny tx z (S, B) = lnRule tx z false (S, B) := by rw [lnAny, if_neg g6, if_neg g22, if_neg g38, if_neg g54, if_neg g70, if_pos g94]
              exact l_line117 (by rw [e]; exact hp1.1) hp1.2
          · refine p_aload_n 0 74 rfl rfl dX5_readLine_73 rfl ?_
            refine p_aload_n 0 75 rfl rfl dX5_readLine_74 rfl ?_
            refine p_getR 5 4 78 rfl dX5_readLine_75 fl_X5_41 rfl rfl h.2.2.2.1 hO.ne0 ?_
            refine p_getR 4 12 81 rfl dX5_readLine_78 fl_X5_45 hO.kd rfl hB.1.1.1.2.2.2.2.2.2.2.2.1 (mk0 (Nat.succ_ne_zero _)) ?_
            refine p_iconst (1) 82 rfl dX5_readLine_81 rfl ?_
            refine p_cV2v 0 0 85 rfl dX5_readLine_82 (c_ruleLine h true) ml_X5_110 vl_X5_readRuleLine rfl (by decide) rfl (Nat.le_of_ble_eq_true rfl) (Nat.le_of_ble_eq_true rfl) (Nat.le_of_ble_eq_true rfl) (Nat.le_of_ble_eq_true rfl) rfl ?_
            intro σ1 hp1
            refine p_goto 117 rfl dX5_readLine_85 ?_
            have g6 : ¬ spl tx S (swd 14) = true := by simpa only [b2i_eq0] using h6
            have g22 : ¬ spl tx S (swd 15) = true := by simpa only [b2i_eq0] using h22
            have g38 : ¬ spl tx S (swd 16) = true := by simpa only [b2i_eq0] using h38
            have g54 : ¬ spl tx S (swd 17) = true := by simpa only [b2i_eq0] using h54
            have g70 : spl tx S (swd 18) = true := by simpa only [b2i_eq0, Decidable.not_not] using h70
            have e : lnAny tx z (S, B) = lnRule tx z true (S, B) := by rw [lnAny, if_neg g6, if_neg g22, if_neg g38, if_neg g54, if_pos g70]
            exact l_line117 (by rw [e]; exact hp1.1) hp1.2
        · refine p_aload_n 0 58 rfl rfl dX5_readLine_57 rfl ?_
          refine p_cV0v 0 0 61 rfl dX5_readLine_58 (c_slackLine h) ml_X5_106 vl_X5_readSlackLine rfl (by decide) rfl (Nat.le_of_ble_eq_true rfl) (Nat.le_of_ble_eq_true rfl) (Nat.le_of_ble_eq_true rfl) (Nat.le_of_ble_eq_true rfl) rfl ?_
          intro σ1 hp1
          refine p_goto 117 rfl dX5_readLine_61 ?_
          have g6 : ¬ spl tx S (swd 14) = true := by simpa only [b2i_eq0] using h6
          have g22 : ¬ spl tx S (swd 15) = true := by simpa only [b2i_eq0] using h22
          have g38 : ¬ spl tx S (swd 16) = true := by simpa only [b2i_eq0] using h38
          have g54 : spl tx S (swd 17) = true := by simpa only [b2i_eq0, Decidable.not_not] using h54
          have e : lnAny tx z (S, B) = lnSlack tx z (S, B) := by rw [lnAny, if_neg g6, if_neg g22, if_neg g38, if_pos g54]
          exact l_line117 (by rw [e]; exact hp1.1) hp1.2
      · refine p_aload_n 0 42 rfl rfl dX5_readLine_41 rfl ?_
        refine p_cV0v 0 0 45 rfl dX5_readLine_42 (c_wordLine h) ml_X5_101 vl_X5_readWordLine rfl (by decide) rfl (Nat.le_of_ble_eq_true rfl) (Nat.le_of_ble_eq_true rfl) (Nat.le_of_ble_eq_true rfl) (Nat.le_of_ble_eq_true rfl) rfl ?_
        intro σ1 hp1
        refine p_goto 117 rfl dX5_readLine_45 ?_
        have g6 : ¬ spl tx S (swd 14) = true := by simpa only [b2i_eq0] using h6
        have g22 : ¬ spl tx S (swd 15) = true := by simpa only [b2i_eq0] using h22
        have g38 : spl tx S (swd 16) = true := by simpa only [b2i_eq0, Decidable.not_not] using h38
        have e : lnAny tx z (S, B) = lnWord tx z (S, B) := by rw [lnAny, if_neg g6, if_neg g22, if_pos g38]
        exact l_line117 (by rw [e]; exact hp1.1) hp1.2
    · refine p_aload_n 0 26 rfl rfl dX5_readLine_25 rfl ?_
      refine p_cV0v 0 0 29 rfl dX5_readLine_26 (c_clerkLine h) ml_X5_96 vl_X5_readClerkLine rfl (by decide) rfl (Nat.le_of_ble_eq_true rfl) (Nat.le_of_ble_eq_true rfl) (Nat.le_of_ble_eq_true rfl) (Nat.le_of_ble_eq_true rfl) rfl ?_
      intro σ1 hp1
      refine p_goto 117 rfl dX5_readLine_29 ?_
      have g6 : ¬ spl tx S (swd 14) = true := by simpa only [b2i_eq0] using h6
      have g22 : spl tx S (swd 15) = true := by simpa only [b2i_eq0, Decidable.not_not] using h22
      have e : lnAny tx z (S, B) = lnClerk tx z (S, B) := by rw [lnAny, if_neg g6, if_pos g22]
      exact l_line117 (by rw [e]; exact hp1.1) hp1.2
  · refine p_aload_n 0 10 rfl rfl dX5_readLine_9 rfl ?_
    refine p_cV0v 0 0 13 rfl dX5_readLine_10 (c_sheetLine h) ml_X5_91 vl_X5_readSheetLine rfl (by decide) rfl (Nat.le_of_ble_eq_true rfl) (Nat.le_of_ble_eq_true rfl) (Nat.le_of_ble_eq_true rfl) (Nat.le_of_ble_eq_true rfl) rfl ?_
    intro σ1 hp1
    refine p_goto 117 rfl dX5_readLine_13 ?_
    have g6 : spl tx S (swd 14) = true := by simpa only [b2i_eq0, Decidable.not_not] using h6
    have e : lnAny tx z (S, B) = lnSheet tx z (S, B) := by rw [lnAny, if_pos g6]
    exact l_line117 (by rw [e]; exact hp1.1) hp1.2
end C68
