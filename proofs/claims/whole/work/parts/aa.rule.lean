/-! ===== the reference: a rule is read ===== -/
theorem drp_op (l : Nat) : ∀ k o, opnd k = true → ∃ a r, (drp l o k).2 = a :: r := by
  intro k
  induction k with
  | nil => intro o h; cases h
  | cons a r ih =>
    intro o h
    simp only [drp]
    split
    · rename_i hh
      refine ih _ ?_
      unfold opnd at h ⊢
      rw [List.any_cons, decide_eq_false (Int32.not_le.mpr hh.1)] at h
      exact h
    · exact ⟨a, r, rfl⟩
section Caa
variable {Γ : Gm} {σ : PH} {tx : Nat → Nat} {z : Nat} {w : Bool} {X : MX}
theorem RX.pu {σ1 σ2 σ3 σ4 : PH} {l : Nat} {c : Int32} {T' : Nat → Bool} (hX : RX σ tx z w X) (h0 : (zS X).1 = 0) (hk : ¬ (zS X).2.2.1 = 0) (hF1 : Fj [31, 34] [rCd] σ σ1) (h2 : CW σ2 (drp l (zO X) (zK X)).1 (c :: (drp l (zO X) (zK X)).2)) (hF2 : Fj [34] [mWt] σ1 σ2) (hF3 : Fj [] [mTs] σ2 σ3) (ht : ∀ i, 1 ≤ i → i ≤ zD X → hA σ3 mTs i = b2i (T' i)) (h4 : RdM σ4 tx z (adv tx z (zS X))) (hF4 : Fj [18, 19, 20, 21, 22, 23] [] σ3 σ4) : RX σ4 tx z w (psh tx z l c X T') ∧ Fj [14, 15, 18, 19, 20, 21, 22, 23, 31, 34, 35] [rCd, mWt, mTs] σ σ4 := by
  have hFF : Fj [14, 15, 18, 19, 20, 21, 22, 23, 31, 34, 35] [rCd, mWt, mTs] σ σ4 := (((hF1.up (by decide) (by decide)).tr (hF2.up (by decide) (by decide))).tr (hF3.up (by decide) (by decide))).tr (hF4.up (by decide) (by decide))
  have hg := hX.2.2.2.1 h0
  have ho := (hX.2.1.2.2.2.1 h0).2
  refine ⟨hX.good (Y := psh tx z l c X T') hFF h4 (by show (adv tx z (zS X)).1 = 0; rw [adv_f]; exact h0) ((h2.fr hF3 rfl rfl rfl rfl).fr hF4 rfl rfl rfl rfl) ⟨by rw [hF4.i (by decide), hF3.i (by decide), hF2.i (by decide), hF1.i (by decide)]; exact hg.2.1.1, hg.2.1.2⟩ (fun i hi hj => by rw [hF4.2.2.2.2 mTs (by simp)]; exact ht i hi hj) ?_, hFF⟩
  have := adv_st (tx := tx) ho hk
  have h5 := hg.2.2.2.1
  have h6 := hg.2.2.2.2
  have h7 := drp_len l (zK X) (zO X)
  refine ⟨?_, ?_⟩
  · show (drp l (zO X) (zK X)).1.length + (c :: (drp l (zO X) (zK X)).2).length + 8 ≤ 2 * (adv tx z (zS X)).2.2.2.1
    rw [List.length_cons]; omega
  · show (c :: (drp l (zO X) (zK X)).2).length ≤ (adv tx z (zS X)).2.2.2.1
    rw [List.length_cons]; omega
set_option maxRecDepth 8000 in
theorem c_closes (hX : RX σ tx z w X) (h0 : (zS X).1 = 0) (hk : ¬ (zS X).2.2.1 = 0) (hop : opnd (zK X) = true) (hD1 : 1 ≤ zD X) : CallOk Γ 5 0 0 mX9_closes [.ref M0] σ (rV (fun σ' => RX σ' tx z w (adv tx z (zS X), (drp 0 (zO X) (zK X)).1, (drp 0 (zO X) (zK X)).2.tail, zD X - 1, zT X) ∧ Fj [14, 15, 18, 19, 20, 21, 22, 23, 31, 34, 35] [rCd, mWt, mTs] σ σ')) := by
  have hT := hX.1
  have h := hX.2.1
  have hz7 := hT.2.1
  have htx := hT.2.2.1
  have hr := hT.1
  have hg := hX.2.2.2.1 h0
  have ht := (h.2.2.2.1 h0).1
  have ho := (h.2.2.2.1 h0).2
  have hcw := hg.1
  have hb := hg.2.2.2.b hz7 ho
  have hbd := hg.2.2.2
  obtain ⟨a, r, hd2⟩ := drp_op 0 (zK X) (zO X) hop
  refine p_enter rfl rfl (Nat.le_of_ble_eq_true rfl) rfl ?_
  refine p_aload_n 0 1 rfl rfl dX9_closes_0 rfl ?_
  refine p_iconst (0) 2 rfl dX9_closes_1 rfl ?_
  refine p_cV1v 0 0 5 rfl dX9_closes_2 (c_drops hr hcw (by omega) (l := 0) (by decide)) ml_X9_211 vl_X9_drops rfl (by decide) rfl (Nat.le_of_ble_eq_true rfl) (Nat.le_of_ble_eq_true rfl) (Nat.le_of_ble_eq_true rfl) (Nat.le_of_ble_eq_true rfl) rfl ?_
  intro σ1 hp1
  have h34 : hI σ1 M0 34 = nI (r.length + 1) := hp1.1.2.2.1.trans (by rw [hd2]; rfl)
  have h35 : hI σ1 M0 35 = nI (zD X) := (hp1.2.1.i (by decide)).trans hg.2.1.1
  refine p_aload_n 0 6 rfl rfl dX9_closes_5 rfl ?_
  refine p_dup 7 rfl dX9_closes_6 rfl ?_
  refine p_getIE 9 34 10 rfl dX9_closes_7 fl_X9_174 rfl rfl h34 ?_
  refine p_iconst (1) 11 rfl dX9_closes_10 rfl ?_
  refine p_isub 12 rfl dX9_closes_11 ?_
  rw [show nI (r.length + 1) - 1 = nI r.length from (nI_sb (b := 1) (by omega)).trans (by rw [Nat.add_sub_cancel])]
  refine p_putI 9 34 15 rfl dX9_closes_12 fl_X9_174 rfl rfl (Or.inl rfl) ?_
  refine p_aload_n 0 16 rfl rfl dX9_closes_15 rfl ?_
  refine p_dup 17 rfl dX9_closes_16 rfl ?_
  refine p_getIE 9 35 20 rfl dX9_closes_17 fl_X9_196 rfl rfl ((hI_sIo (by decide)).trans h35) ?_
  refine p_iconst (1) 21 rfl dX9_closes_20 rfl ?_
  refine p_isub 22 rfl dX9_closes_21 ?_
  rw [show nI (zD X) - 1 = nI (zD X - 1) from nI_sb (b := 1) hD1]
  refine p_putI 9 35 25 rfl dX9_closes_22 fl_X9_196 rfl rfl (Or.inl rfl) ?_
  have hF2 : Fj [34, 35] [] σ1 (sI (sI σ1 M0 34 (nI r.length)) M0 35 (nI (zD X - 1))) := (Fj.sI (by simp)).tr (Fj.sI (by simp))
  have hT2 : TpM (sI (sI σ1 M0 34 (nI r.length)) M0 35 (nI (zD X - 1))) tx z := (hT.fr hp1.2.1 rfl).fr hF2 rfl
  have h2 : RdM (sI (sI σ1 M0 34 (nI r.length)) M0 35 (nI (zD X - 1))) tx z (zS X) := (h.fr hp1.2.1 rfl (by rw [hp1.2.2])).fr hF2 rfl rfl
  have hc2 : CW (sI (sI σ1 M0 34 (nI r.length)) M0 35 (nI (zD X - 1))) (drp 0 (zO X) (zK X)).1 (drp 0 (zO X) (zK X)).2.tail := by
    have hc1 := hp1.1
    rw [hd2] at hc1 ⊢
    exact ⟨(hI_sIo (by decide)).trans ((hI_sIo (by decide)).trans hc1.1), hc1.2.1, (hI_sIo (by decide)).trans (hI_sI _ _ _ _), plk_tl hc1.2.2.2⟩
  refine p_aload_n 0 26 rfl rfl dX9_closes_25 rfl ?_
  refine p_cV0v 0 0 29 rfl dX9_closes_26 (c_goesR (hT2) h2 h0) ml_X9_165 vl_X9_goes rfl (by decide) rfl (Nat.le_of_ble_eq_true rfl) (Nat.le_of_ble_eq_true rfl) (Nat.le_of_ble_eq_true rfl) (Nat.le_of_ble_eq_true rfl) rfl ?_
  intro σ3 hp3
  have hFF : Fj [14, 15, 18, 19, 20, 21, 22, 23, 31, 34, 35] [rCd, mWt, mTs] σ σ3 := ((hp1.2.1.up (by decide) (by decide)).tr (hF2.up (by decide) (by decide))).tr (hp3.2.up (by decide) (by decide))
  exact p_vret dX9_closes_29 rfl ⟨rfl, by
     refine hX.good (Y := (adv tx z (zS X), (drp 0 (zO X) (zK X)).1, (drp 0 (zO X) (zK X)).2.tail, zD X - 1, zT X)) hFF hp3.1 (by show (adv tx z (zS X)).1 = 0; rw [adv_f]; exact h0) (hc2.fr hp3.2 rfl rfl rfl rfl) ⟨by rw [hp3.2.i (by decide)]; exact hI_sI _ _ _ _, by show zD X - 1 ≤ 6; have := hg.2.1.2; omega⟩ (fun i hi hj => by rw [hp3.2.2.2.2.2 mTs (by simp)]; show hA σ1 mTs i = _; rw [hp1.2.1.2.2.2.2 mTs (by decide)]; exact hg.2.2.1 i hi (by have : i ≤ zD X - 1 := hj; omega)) ?_
     have := adv_st (tx := tx) ho hk
     have h5 := hbd.1
     have h6 := hbd.2
     have h7 := drp_len 0 (zK X) (zO X)
     rw [hd2] at h7
     simp only [List.length_cons] at h7
     refine ⟨?_, ?_⟩
     · show (drp 0 (zO X) (zK X)).1.length + (drp 0 (zO X) (zK X)).2.tail.length + 8 ≤ 2 * (adv tx z (zS X)).2.2.2.1
       rw [hd2]; show _ + r.length + 8 ≤ _; omega
     · show (drp 0 (zO X) (zK X)).2.tail.length ≤ (adv tx z (zS X)).2.2.2.1
       rw [hd2]; show r.length ≤ _; omega, hFF⟩
set_option maxRecDepth 4000 in
theorem l_ex39f (hX : RX σ tx z w X) (hf : ¬ (zS X).1 = 0) {y1 y2 : Int32} {x4 : Option Value} {Q : PO → PH → Prop} (kk : Ok Γ 11 0 0 mX9_expression 340 [some (.ref M0), some (.int y1), some (.int y2), some (.int 1), x4] [] σ Q) : Ok Γ 11 0 0 mX9_expression 39 [some (.ref M0), some (.int y1), some (.int y2), some (.int 1), x4] [] σ Q := by
  refine p_iload_n 3 40 rfl rfl dX9_expression_39 rfl ?_
  refine p_if_eq 340 43 rfl rfl dX9_expression_40 (fun h40 => absurd h40 (by decide)) (fun h40 => ?_)
  refine p_aload_n 0 44 rfl rfl dX9_expression_43 rfl ?_
  refine p_cV0i 47 rfl dX9_expression_44 (c_isGood hX.2.1) ml_X9_161 vl_X9_isGood rfl (by decide) rfl (Nat.le_of_ble_eq_true rfl) (Nat.le_of_ble_eq_true rfl) rfl ?_
  refine p_if_eq 340 50 rfl rfl dX9_expression_47 (fun h47 => ?_) (fun h47 => absurd (b2i_t h47) (by simpa using hf))
  exact kk
set_option maxRecDepth 20000 in
theorem l_ex {F : MY} (hF3 : F.1 = 3) {y1 y2 : Int32} {Q : PO → PH → Prop} (kk : ∀ σ2 x3 x4, RX σ2 tx z w F.2 → Fj [14, 15, 18, 19, 20, 21, 22, 23, 31, 34, 35] [rCd, mWt, mTs] σ σ2 → Ok Γ 11 0 0 mX9_expression 340 [some (.ref M0), some (.int y1), some (.int y2), x3, x4] [] σ2 Q) : ∀ (B N : Nat) (X : MX) (σ1 : PH) (x4 : Option Value), N ≤ B → rnN tx z w N (2, X) = F → RX σ1 tx z w X → (zS X).1 = 0 → DI X → Fj [14, 15, 18, 19, 20, 21, 22, 23, 31, 34, 35] [rCd, mWt, mTs] σ σ1 → Ok Γ 11 0 0 mX9_expression 39 [some (.ref M0), some (.int y1), some (.int y2), some (.int 1), x4] [] σ1 Q := by
  intro B
  induction B with
  | zero =>
    intro N X σ1 x4 hn he hX h0 hDI hF
    have e : N = 0 := by omega
    subst e
    exact absurd hF3 (by rw [← he]; exact (show ¬ (2 : Nat) = 3 by decide))
  | succ B ih =>
    intro N X σ1 x4 hn he hX h0 hDI hF
    obtain ⟨n, rfl⟩ : ∃ n, N = n + 1 := by
      cases N with
      | zero => exact absurd hF3 (by rw [← he]; exact (show ¬ (2 : Nat) = 3 by decide))
      | succ n => exact ⟨n, rfl⟩
    have hsn : rnN tx z w (n + 1) (2, X) = rnN tx z w n (stL tx z X) := by show rnN tx z w n (stp tx z w (2, X)) = _; rw [stp_L h0]
    have hT := hX.1
    have h := hX.2.1
    have hz7 := hT.2.1
    have htx := hT.2.2.1
    have hr := hT.1
    have hg := hX.2.2.2.1 h0
    have ht := (h.2.2.2.1 h0).1
    have ho := (h.2.2.2.1 h0).2
    have hcw := hg.1
    have hb := hg.2.2.2.b hz7 ho
    have hbd := hg.2.2.2
    have hD1 : 1 ≤ zD X := by have := hDI h0; omega
    refine p_iload_n 3 40 rfl rfl dX9_expression_39 rfl ?_
    refine p_if_eq 340 43 rfl rfl dX9_expression_40 (fun h40 => absurd h40 (by decide)) (fun h40 => ?_)
    refine p_aload_n 0 44 rfl rfl dX9_expression_43 rfl ?_
    refine p_cV0i 47 rfl dX9_expression_44 (c_isGood h) ml_X9_161 vl_X9_isGood rfl (by decide) rfl (Nat.le_of_ble_eq_true rfl) (Nat.le_of_ble_eq_true rfl) rfl ?_
    refine p_if_eq 340 50 rfl rfl dX9_expression_47 (fun h47 => absurd (b2i_f h47) (by rw [h0]; decide)) (fun h47 => ?_)
    refine p_aload_n 0 51 rfl rfl dX9_expression_50 rfl ?_
    refine p_cV0i 54 rfl dX9_expression_51 (c_knownWord h h0 hz7) ml_X9_186 vl_X9_knownWord rfl (by decide) rfl (Nat.le_of_ble_eq_true rfl) (Nat.le_of_ble_eq_true rfl) rfl ?_
    refine p_ist_4 56 rfl dX9_expression_54 (Nat.le_of_ble_eq_true rfl) rfl ?_
    refine p_iload 4 58 rfl dX9_expression_56 rfl ?_
    refine p_bipush (14) 60 rfl dX9_expression_58 rfl ?_
    refine p_icmp_eq 70 63 rfl rfl dX9_expression_60 (fun h60 => ?_) (fun h60 => ?_)
    · have hand : spl tx (zS X) (swd 22) = true := kw14.mp h60
      have hk0 : ¬ (zS X).2.2.1 = 0 := by rw [spl_k hand]; decide
      have estL : stL tx z X = (0, psh tx z 2 4 X (upB (zT X) (zD X) false)) := if_pos hand
      refine p_aload_n 0 71 rfl rfl dX9_expression_70 rfl ?_
      refine p_iload 4 73 rfl dX9_expression_71 rfl ?_
      refine p_bipush (14) 75 rfl dX9_expression_73 rfl ?_
      refine p_icmp_ne 82 78 rfl rfl dX9_expression_75 (fun h75 => absurd h60 h75) (fun h75 => ?_)
      refine p_iconst (2) 79 rfl dX9_expression_78 rfl ?_
      refine p_goto 83 rfl dX9_expression_79 ?_
      refine p_cV1v 0 0 86 rfl dX9_expression_83 (c_drops hr hcw (by omega) (l := 2) (by decide)) ml_X9_211 vl_X9_drops rfl (by decide) rfl (Nat.le_of_ble_eq_true rfl) (Nat.le_of_ble_eq_true rfl) (Nat.le_of_ble_eq_true rfl) (Nat.le_of_ble_eq_true rfl) rfl ?_
      intro σ2 hp2
      have h2 : RdM σ2 tx z (zS X) := h.fr hp2.2.1 rfl (by rw [hp2.2.2])
      have hr2 : ∀ k, hR σ2 M0 k = mRef k := fun k => by rw [hp2.2.1.2.2.1]; exact hr k
      have hdl := drp_len 1 (zK X) (zO X)
      have hdl2 := drp_len 2 (zK X) (zO X)
      refine p_aload_n 0 87 rfl rfl dX9_expression_86 rfl ?_
      refine p_iload 4 89 rfl dX9_expression_87 rfl ?_
      refine p_bipush (14) 91 rfl dX9_expression_89 rfl ?_
      refine p_icmp_ne 98 94 rfl rfl dX9_expression_91 (fun h91 => absurd h60 h91) (fun h91 => ?_)
      refine p_iconst (4) 95 rfl dX9_expression_94 rfl ?_
      refine p_goto 99 rfl dX9_expression_95 ?_
      refine p_cV1v 0 0 102 rfl dX9_expression_99 (c_waitsFor hr2 hp2.1 (by omega) _) ml_X9_202 vl_X9_waitsFor rfl (by decide) rfl (Nat.le_of_ble_eq_true rfl) (Nat.le_of_ble_eq_true rfl) (Nat.le_of_ble_eq_true rfl) (Nat.le_of_ble_eq_true rfl) rfl ?_
      intro σ3 hp3
      have h3 : RdM σ3 tx z (zS X) := h2.fr hp3.2.1 rfl (by rw [hp3.2.2])
      have hr3 : ∀ k, hR σ3 M0 k = mRef k := fun k => by rw [hp3.2.1.2.2.1]; exact hr2 k
      have hT3 : TpM σ3 tx z := (hT.fr hp2.2.1 rfl).fr hp3.2.1 rfl
      have hD3 : hI σ3 M0 35 = nI (zD X) := (hp3.2.1.i (by decide)).trans ((hp2.2.1.i (by decide)).trans hg.2.1.1)
      have hts3 : hA σ3 mTs = hA σ1 mTs := (hp3.2.1.2.2.2.2 mTs (by decide)).trans (hp2.2.1.2.2.2.2 mTs (by decide))
      refine p_aload_n 0 103 rfl rfl dX9_expression_102 rfl ?_
      refine p_getR 9 43 106 rfl dX9_expression_103 fl_X9_62 rfl rfl (show hR _ M0 43 = mTs from hr3 43) (by decide) ?_
      refine p_aload_n 0 107 rfl rfl dX9_expression_106 rfl ?_
      refine p_getIE 9 35 110 rfl dX9_expression_107 fl_X9_196 rfl rfl hD3 ?_
      refine p_iconst (0) 111 rfl dX9_expression_110 rfl ?_
      refine p_zastE 112 rfl dX9_expression_111 (i := zD X) rfl (by show _ < 9; have := hg.2.1.2; omega) (Or.inl rfl) ?_
      have hF4 : Fj [] [mTs] σ3 (sA σ3 mTs (zD X) 0) := Fj.sA (by simp)
      have ht4 : ∀ i, 1 ≤ i → i ≤ zD X → hA (sA σ3 mTs (zD X) 0) mTs i = b2i (upB (zT X) (zD X) false i) := fun i hi hj => by
        rw [sA_s, hts3]
        show _ = b2i (if i = zD X then false else zT X i)
        by_cases e : i = zD X
        · rw [e, pk_us, if_pos rfl]; rfl
        · rw [pk_un e, if_neg e]; exact hg.2.2.1 i hi hj
      have h4 : RdM (sA σ3 mTs (zD X) 0) tx z (zS X) := h3.fr hF4 rfl rfl
      have hT4 : TpM (sA σ3 mTs (zD X) 0) tx z := hT3.fr hF4 rfl
      refine p_aload_n 0 113 rfl rfl dX9_expression_112 rfl ?_
      refine p_cV0v 0 0 116 rfl dX9_expression_113 (c_goesR hT4 h4 h0) ml_X9_165 vl_X9_goes rfl (by decide) rfl (Nat.le_of_ble_eq_true rfl) (Nat.le_of_ble_eq_true rfl) (Nat.le_of_ble_eq_true rfl) (Nat.le_of_ble_eq_true rfl) rfl ?_
      intro σ5 hp5
      have hps := hX.pu h0 hk0 hp2.2.1 hp3.1 hp3.2.1 hF4 ht4 hp5.1 hp5.2
      refine p_aload_n 0 117 rfl rfl dX9_expression_116 rfl ?_
      refine p_iconst (1) 118 rfl dX9_expression_117 rfl ?_
      refine p_cV1v 0 0 121 rfl dX9_expression_118 (c_mOperand hps.1 (hDI.ps h0 (by decide)) hF3 (N := n) true (by rw [← he, hsn, estL]; rfl)) ml_X9_214 vl_X9_operand rfl (by decide) rfl (Nat.le_of_ble_eq_true rfl) (Nat.le_of_ble_eq_true rfl) (Nat.le_of_ble_eq_true rfl) (Nat.le_of_ble_eq_true rfl) rfl ?_
      intro σ6 hp6
      refine p_goto 337 rfl dX9_expression_121 ?_
      refine p_goto 39 rfl dX9_expression_337 ?_
      rcases hp6.1 with ⟨N', X', hn', e', h', g', d'⟩ | ⟨hf', h'⟩
      · exact ih N' X' σ6 _ (by omega) e' h' g' d' ((hF.tr hps.2).tr hp6.2)
      · exact l_ex39f h' hf' (kk σ6 _ _ h' ((hF.tr hps.2).tr hp6.2))
    · refine p_iload 4 65 rfl dX9_expression_63 rfl ?_
      refine p_bipush (15) 67 rfl dX9_expression_65 rfl ?_
      refine p_icmp_ne 124 70 rfl rfl dX9_expression_67 (fun h67 => ?_) (fun h67 => ?_)
      · refine p_aload_n 0 125 rfl rfl dX9_expression_124 rfl ?_
        refine p_bipush (60) 127 rfl dX9_expression_125 rfl ?_
        refine p_cV1i 130 rfl dX9_expression_127 (c_isSign h h0 htx (c := 60) (by decide)) ml_X9_199 vl_X9_isSign rfl (by decide) rfl (Nat.le_of_ble_eq_true rfl) (Nat.le_of_ble_eq_true rfl) rfl ?_
        refine p_if_ne 142 133 rfl rfl dX9_expression_130 (fun h130 => ?_) (fun h130 => ?_)
        · refine p_aload_n 0 143 rfl rfl dX9_expression_142 rfl ?_
          refine p_getR 9 43 146 rfl dX9_expression_143 fl_X9_62 rfl rfl (show hR _ M0 43 = mTs from hr 43) (by decide) ?_
          refine p_aload_n 0 147 rfl rfl dX9_expression_146 rfl ?_
          refine p_getIE 9 35 150 rfl dX9_expression_147 fl_X9_196 rfl rfl hg.2.1.1 ?_
          refine p_zaldE 151 rfl dX9_expression_150 (i := zD X) rfl (by show _ < 9; have := hg.2.1.2; omega) (hg.2.2.1 (zD X) hD1 (Nat.le_refl _)) ?_
          refine p_if_ne 201 154 rfl rfl dX9_expression_151 (fun h151 => ?_) (fun h151 => ?_)
          · refine p_aload_n 0 202 rfl rfl dX9_expression_201 rfl ?_
            refine p_bipush (43) 204 rfl dX9_expression_202 rfl ?_
            refine p_cV1i 207 rfl dX9_expression_204 (c_isSign h h0 htx (c := 43) (by decide)) ml_X9_199 vl_X9_isSign rfl (by decide) rfl (Nat.le_of_ble_eq_true rfl) (Nat.le_of_ble_eq_true rfl) rfl ?_
            refine p_if_ne 219 210 rfl rfl dX9_expression_207 (fun h207 => ?_) (fun h207 => ?_)
            · have n22 : spl tx (zS X) (swd 22) = false := by
                cases q : spl tx (zS X) (swd 22) with
                | false => rfl
                | true => exact absurd (kw14.mpr q) h60
              have n21 : spl tx (zS X) (swd 21) = false := by
                cases q : spl tx (zS X) (swd 21) with
                | false => rfl
                | true => exact absurd (kw15.mpr q) h67
              have s60 : sta tx (zS X) 60 = true := b2i_t h130
              have s43 : sta tx (zS X) 43 = true := b2i_t h207
              have hk0 : ¬ (zS X).2.2.1 = 0 := by rw [(sta_k s43).1]; decide
              have estL : stL tx z X = (1, psh tx z 5 8 X (zT X)) := by unfold stL; rw [if_neg (nt n22), if_neg (nt n21), if_neg (fun q => absurd q.2 (by rw [b2i_t h151]; decide)), if_pos (Or.inl s43), if_pos s43]
              refine p_aload_n 0 220 rfl rfl dX9_expression_219 rfl ?_
              refine p_iconst (5) 221 rfl dX9_expression_220 rfl ?_
              refine p_cV1v 0 0 224 rfl dX9_expression_221 (c_drops hr hcw (by omega) (l := 5) (by decide)) ml_X9_211 vl_X9_drops rfl (by decide) rfl (Nat.le_of_ble_eq_true rfl) (Nat.le_of_ble_eq_true rfl) (Nat.le_of_ble_eq_true rfl) (Nat.le_of_ble_eq_true rfl) rfl ?_
              intro σ2 hp2
              have h2 : RdM σ2 tx z (zS X) := h.fr hp2.2.1 rfl (by rw [hp2.2.2])
              have hr2 : ∀ k, hR σ2 M0 k = mRef k := fun k => by rw [hp2.2.1.2.2.1]; exact hr k
              have hdl := drp_len 5 (zK X) (zO X)
              refine p_aload_n 0 225 rfl rfl dX9_expression_224 rfl ?_
              refine p_aload_n 0 226 rfl rfl dX9_expression_225 rfl ?_
              refine p_bipush (43) 228 rfl dX9_expression_226 rfl ?_
              refine p_cV1i 231 rfl dX9_expression_228 (c_isSign h2 h0 htx (c := 43) (by decide)) ml_X9_199 vl_X9_isSign rfl (by decide) rfl (Nat.le_of_ble_eq_true rfl) (Nat.le_of_ble_eq_true rfl) rfl ?_
              refine p_if_eq 239 234 rfl rfl dX9_expression_231 (fun h231 => absurd (b2i_f h231) (by rw [s43]; decide)) (fun h231 => ?_)
              refine p_bipush (8) 236 rfl dX9_expression_234 rfl ?_
              refine p_goto 241 rfl dX9_expression_236 ?_
              refine p_cV1v 0 0 244 rfl dX9_expression_241 (c_waitsFor hr2 hp2.1 (by omega) _) ml_X9_202 vl_X9_waitsFor rfl (by decide) rfl (Nat.le_of_ble_eq_true rfl) (Nat.le_of_ble_eq_true rfl) (Nat.le_of_ble_eq_true rfl) (Nat.le_of_ble_eq_true rfl) rfl ?_
              intro σ3 hp3
              have h3 : RdM σ3 tx z (zS X) := h2.fr hp3.2.1 rfl (by rw [hp3.2.2])
              have hr3 : ∀ k, hR σ3 M0 k = mRef k := fun k => by rw [hp3.2.1.2.2.1]; exact hr2 k
              have hT3 : TpM σ3 tx z := (hT.fr hp2.2.1 rfl).fr hp3.2.1 rfl
              have hD3 : hI σ3 M0 35 = nI (zD X) := (hp3.2.1.i (by decide)).trans ((hp2.2.1.i (by decide)).trans hg.2.1.1)
              have hts3 : hA σ3 mTs = hA σ1 mTs := (hp3.2.1.2.2.2.2 mTs (by decide)).trans (hp2.2.1.2.2.2.2 mTs (by decide))
              have hF4 : Fj [] [mTs] σ3 σ3 := Fj.rf
              have ht4 : ∀ i, 1 ≤ i → i ≤ zD X → hA σ3 mTs i = b2i (zT X i) := fun i hi hj => by rw [hts3]; exact hg.2.2.1 i hi hj
              refine p_aload_n 0 245 rfl rfl dX9_expression_244 rfl ?_
              refine p_cV0v 0 0 248 rfl dX9_expression_245 (c_goesR hT3 h3 h0) ml_X9_165 vl_X9_goes rfl (by decide) rfl (Nat.le_of_ble_eq_true rfl) (Nat.le_of_ble_eq_true rfl) (Nat.le_of_ble_eq_true rfl) (Nat.le_of_ble_eq_true rfl) rfl ?_
              intro σ5 hp5
              have hps := hX.pu h0 hk0 hp2.2.1 hp3.1 hp3.2.1 hF4 ht4 hp5.1 hp5.2
              refine p_aload_n 0 249 rfl rfl dX9_expression_248 rfl ?_
              refine p_iconst (0) 250 rfl dX9_expression_249 rfl ?_
              refine p_cV1v 0 0 253 rfl dX9_expression_250 (c_mOperand hps.1 (hDI.ps h0 (by decide)) hF3 (N := n) false (by rw [← he, hsn, estL]; rfl)) ml_X9_214 vl_X9_operand rfl (by decide) rfl (Nat.le_of_ble_eq_true rfl) (Nat.le_of_ble_eq_true rfl) (Nat.le_of_ble_eq_true rfl) (Nat.le_of_ble_eq_true rfl) rfl ?_
              intro σ6 hp6
              refine p_goto 337 rfl dX9_expression_253 ?_
              refine p_goto 39 rfl dX9_expression_337 ?_
              rcases hp6.1 with ⟨N', X', hn', e', h', g', d'⟩ | ⟨hf', h'⟩
              · exact ih N' X' σ6 _ (by omega) e' h' g' d' ((hF.tr hps.2).tr hp6.2)
              · exact l_ex39f h' hf' (kk σ6 _ _ h' ((hF.tr hps.2).tr hp6.2))
            · refine p_aload_n 0 211 rfl rfl dX9_expression_210 rfl ?_
              refine p_bipush (45) 213 rfl dX9_expression_211 rfl ?_
              refine p_cV1i 216 rfl dX9_expression_213 (c_isSign h h0 htx (c := 45) (by decide)) ml_X9_199 vl_X9_isSign rfl (by decide) rfl (Nat.le_of_ble_eq_true rfl) (Nat.le_of_ble_eq_true rfl) rfl ?_
              refine p_if_eq 256 219 rfl rfl dX9_expression_216 (fun h216 => ?_) (fun h216 => ?_)
              · refine p_aload_n 0 257 rfl rfl dX9_expression_256 rfl ?_
                refine p_bipush (42) 259 rfl dX9_expression_257 rfl ?_
                refine p_cV1i 262 rfl dX9_expression_259 (c_isSign h h0 htx (c := 42) (by decide)) ml_X9_199 vl_X9_isSign rfl (by decide) rfl (Nat.le_of_ble_eq_true rfl) (Nat.le_of_ble_eq_true rfl) rfl ?_
                refine p_if_ne 274 265 rfl rfl dX9_expression_262 (fun h262 => ?_) (fun h262 => ?_)
                · have n22 : spl tx (zS X) (swd 22) = false := by
                    cases q : spl tx (zS X) (swd 22) with
                    | false => rfl
                    | true => exact absurd (kw14.mpr q) h60
                  have n21 : spl tx (zS X) (swd 21) = false := by
                    cases q : spl tx (zS X) (swd 21) with
                    | false => rfl
                    | true => exact absurd (kw15.mpr q) h67
                  have s60 : sta tx (zS X) 60 = true := b2i_t h130
                  have s43 : sta tx (zS X) 43 = false := b2i_f h207
                  have s45 : sta tx (zS X) 45 = false := b2i_f h216
                  have s42 : sta tx (zS X) 42 = true := b2i_t h262
                  have hk0 : ¬ (zS X).2.2.1 = 0 := by rw [(sta_k s42).1]; decide
                  have estL : stL tx z X = (1, psh tx z 6 10 X (zT X)) := by unfold stL; rw [if_neg (nt n22), if_neg (nt n21), if_neg (fun q => absurd q.2 (by rw [b2i_t h151]; decide)), if_neg (fun q => q.elim (nt s43) (nt s45)), if_pos (Or.inl s42), if_pos s42]
                  refine p_aload_n 0 275 rfl rfl dX9_expression_274 rfl ?_
                  refine p_bipush (6) 277 rfl dX9_expression_275 rfl ?_
                  refine p_cV1v 0 0 280 rfl dX9_expression_277 (c_drops hr hcw (by omega) (l := 6) (by decide)) ml_X9_211 vl_X9_drops rfl (by decide) rfl (Nat.le_of_ble_eq_true rfl) (Nat.le_of_ble_eq_true rfl) (Nat.le_of_ble_eq_true rfl) (Nat.le_of_ble_eq_true rfl) rfl ?_
                  intro σ2 hp2
                  have h2 : RdM σ2 tx z (zS X) := h.fr hp2.2.1 rfl (by rw [hp2.2.2])
                  have hr2 : ∀ k, hR σ2 M0 k = mRef k := fun k => by rw [hp2.2.1.2.2.1]; exact hr k
                  have hdl := drp_len 6 (zK X) (zO X)
                  refine p_aload_n 0 281 rfl rfl dX9_expression_280 rfl ?_
                  refine p_aload_n 0 282 rfl rfl dX9_expression_281 rfl ?_
                  refine p_bipush (42) 284 rfl dX9_expression_282 rfl ?_
                  refine p_cV1i 287 rfl dX9_expression_284 (c_isSign h2 h0 htx (c := 42) (by decide)) ml_X9_199 vl_X9_isSign rfl (by decide) rfl (Nat.le_of_ble_eq_true rfl) (Nat.le_of_ble_eq_true rfl) rfl ?_
                  refine p_if_eq 295 290 rfl rfl dX9_expression_287 (fun h287 => absurd (b2i_f h287) (by rw [s42]; decide)) (fun h287 => ?_)
                  refine p_bipush (10) 292 rfl dX9_expression_290 rfl ?_
                  refine p_goto 297 rfl dX9_expression_292 ?_
                  refine p_cV1v 0 0 300 rfl dX9_expression_297 (c_waitsFor hr2 hp2.1 (by omega) _) ml_X9_202 vl_X9_waitsFor rfl (by decide) rfl (Nat.le_of_ble_eq_true rfl) (Nat.le_of_ble_eq_true rfl) (Nat.le_of_ble_eq_true rfl) (Nat.le_of_ble_eq_true rfl) rfl ?_
                  intro σ3 hp3
                  have h3 : RdM σ3 tx z (zS X) := h2.fr hp3.2.1 rfl (by rw [hp3.2.2])
                  have hr3 : ∀ k, hR σ3 M0 k = mRef k := fun k => by rw [hp3.2.1.2.2.1]; exact hr2 k
                  have hT3 : TpM σ3 tx z := (hT.fr hp2.2.1 rfl).fr hp3.2.1 rfl
                  have hD3 : hI σ3 M0 35 = nI (zD X) := (hp3.2.1.i (by decide)).trans ((hp2.2.1.i (by decide)).trans hg.2.1.1)
                  have hts3 : hA σ3 mTs = hA σ1 mTs := (hp3.2.1.2.2.2.2 mTs (by decide)).trans (hp2.2.1.2.2.2.2 mTs (by decide))
                  have hF4 : Fj [] [mTs] σ3 σ3 := Fj.rf
                  have ht4 : ∀ i, 1 ≤ i → i ≤ zD X → hA σ3 mTs i = b2i (zT X i) := fun i hi hj => by rw [hts3]; exact hg.2.2.1 i hi hj
                  refine p_aload_n 0 301 rfl rfl dX9_expression_300 rfl ?_
                  refine p_cV0v 0 0 304 rfl dX9_expression_301 (c_goesR hT3 h3 h0) ml_X9_165 vl_X9_goes rfl (by decide) rfl (Nat.le_of_ble_eq_true rfl) (Nat.le_of_ble_eq_true rfl) (Nat.le_of_ble_eq_true rfl) (Nat.le_of_ble_eq_true rfl) rfl ?_
                  intro σ5 hp5
                  have hps := hX.pu h0 hk0 hp2.2.1 hp3.1 hp3.2.1 hF4 ht4 hp5.1 hp5.2
                  refine p_aload_n 0 305 rfl rfl dX9_expression_304 rfl ?_
                  refine p_iconst (0) 306 rfl dX9_expression_305 rfl ?_
                  refine p_cV1v 0 0 309 rfl dX9_expression_306 (c_mOperand hps.1 (hDI.ps h0 (by decide)) hF3 (N := n) false (by rw [← he, hsn, estL]; rfl)) ml_X9_214 vl_X9_operand rfl (by decide) rfl (Nat.le_of_ble_eq_true rfl) (Nat.le_of_ble_eq_true rfl) (Nat.le_of_ble_eq_true rfl) (Nat.le_of_ble_eq_true rfl) rfl ?_
                  intro σ6 hp6
                  refine p_goto 337 rfl dX9_expression_309 ?_
                  refine p_goto 39 rfl dX9_expression_337 ?_
                  rcases hp6.1 with ⟨N', X', hn', e', h', g', d'⟩ | ⟨hf', h'⟩
                  · exact ih N' X' σ6 _ (by omega) e' h' g' d' ((hF.tr hps.2).tr hp6.2)
                  · exact l_ex39f h' hf' (kk σ6 _ _ h' ((hF.tr hps.2).tr hp6.2))
                · refine p_aload_n 0 266 rfl rfl dX9_expression_265 rfl ?_
                  refine p_bipush (47) 268 rfl dX9_expression_266 rfl ?_
                  refine p_cV1i 271 rfl dX9_expression_268 (c_isSign h h0 htx (c := 47) (by decide)) ml_X9_199 vl_X9_isSign rfl (by decide) rfl (Nat.le_of_ble_eq_true rfl) (Nat.le_of_ble_eq_true rfl) rfl ?_
                  refine p_if_eq 312 274 rfl rfl dX9_expression_271 (fun h271 => ?_) (fun h271 => ?_)
                  · refine p_aload_n 0 313 rfl rfl dX9_expression_312 rfl ?_
                    refine p_bipush (41) 315 rfl dX9_expression_313 rfl ?_
                    refine p_cV1i 318 rfl dX9_expression_315 (c_isSign h h0 htx (c := 41) (by decide)) ml_X9_199 vl_X9_isSign rfl (by decide) rfl (Nat.le_of_ble_eq_true rfl) (Nat.le_of_ble_eq_true rfl) rfl ?_
                    refine p_if_eq 335 321 rfl rfl dX9_expression_318 (fun h318 => ?_) (fun h318 => ?_)
                    · have n22 : spl tx (zS X) (swd 22) = false := by
                        cases q : spl tx (zS X) (swd 22) with
                        | false => rfl
                        | true => exact absurd (kw14.mpr q) h60
                      have n21 : spl tx (zS X) (swd 21) = false := by
                        cases q : spl tx (zS X) (swd 21) with
                        | false => rfl
                        | true => exact absurd (kw15.mpr q) h67
                      have s60 : sta tx (zS X) 60 = true := b2i_t h130
                      have s43 : sta tx (zS X) 43 = false := b2i_f h207
                      have s45 : sta tx (zS X) 45 = false := b2i_f h216
                      have s42 : sta tx (zS X) 42 = false := b2i_f h262
                      have s47 : sta tx (zS X) 47 = false := b2i_f h271
                      have estL : stL tx z X = (3, X) := by unfold stL; rw [if_neg (nt n22), if_neg (nt n21), if_neg (fun q => absurd q.2 (by rw [b2i_t h151]; decide)), if_neg (fun q => q.elim (nt s43) (nt s45)), if_neg (fun q => q.elim (nt s42) (nt s47)), if_neg (fun q => by rw [b2i_f h318] at q; exact absurd q.1 (by decide))]
                      refine p_iconst (0) 336 rfl dX9_expression_335 rfl ?_
                      refine p_ist_n3 337 rfl rfl dX9_expression_336 (Nat.le_of_ble_eq_true rfl) rfl ?_
                      refine p_goto 39 rfl dX9_expression_337 ?_
                      refine p_iload_n 3 40 rfl rfl dX9_expression_39 rfl ?_
                      refine p_if_eq 340 43 rfl rfl dX9_expression_40 (fun h40 => ?_) (fun h40 => absurd rfl h40)
                      have hFX : F = (3, X) := by rw [← he, hsn, estL]; exact rnN_3 tx z w X n
                      have e2 : F.2 = X := by rw [hFX]
                      exact kk σ1 _ _ (by rw [e2]; exact hX) hF
                    · refine p_aload_n 0 322 rfl rfl dX9_expression_321 rfl ?_
                      refine p_cV0i 325 rfl dX9_expression_322 (c_isOpened hr hcw (by omega)) ml_X9_218 vl_X9_isOpened rfl (by decide) rfl (Nat.le_of_ble_eq_true rfl) (Nat.le_of_ble_eq_true rfl) rfl ?_
                      refine p_if_eq 335 328 rfl rfl dX9_expression_325 (fun h325 => ?_) (fun h325 => ?_)
                      · have n22 : spl tx (zS X) (swd 22) = false := by
                          cases q : spl tx (zS X) (swd 22) with
                          | false => rfl
                          | true => exact absurd (kw14.mpr q) h60
                        have n21 : spl tx (zS X) (swd 21) = false := by
                          cases q : spl tx (zS X) (swd 21) with
                          | false => rfl
                          | true => exact absurd (kw15.mpr q) h67
                        have s60 : sta tx (zS X) 60 = true := b2i_t h130
                        have s43 : sta tx (zS X) 43 = false := b2i_f h207
                        have s45 : sta tx (zS X) 45 = false := b2i_f h216
                        have s42 : sta tx (zS X) 42 = false := b2i_f h262
                        have s47 : sta tx (zS X) 47 = false := b2i_f h271
                        have estL : stL tx z X = (3, X) := by unfold stL; rw [if_neg (nt n22), if_neg (nt n21), if_neg (fun q => absurd q.2 (by rw [b2i_t h151]; decide)), if_neg (fun q => q.elim (nt s43) (nt s45)), if_neg (fun q => q.elim (nt s42) (nt s47)), if_neg (fun q => by rw [b2i_f h325] at q; exact absurd q.2 (by decide))]
                        refine p_iconst (0) 336 rfl dX9_expression_335 rfl ?_
                        refine p_ist_n3 337 rfl rfl dX9_expression_336 (Nat.le_of_ble_eq_true rfl) rfl ?_
                        refine p_goto 39 rfl dX9_expression_337 ?_
                        refine p_iload_n 3 40 rfl rfl dX9_expression_39 rfl ?_
                        refine p_if_eq 340 43 rfl rfl dX9_expression_40 (fun h40 => ?_) (fun h40 => absurd rfl h40)
                        have hFX : F = (3, X) := by rw [← he, hsn, estL]; exact rnN_3 tx z w X n
                        have e2 : F.2 = X := by rw [hFX]
                        exact kk σ1 _ _ (by rw [e2]; exact hX) hF
                      · have n22 : spl tx (zS X) (swd 22) = false := by
                          cases q : spl tx (zS X) (swd 22) with
                          | false => rfl
                          | true => exact absurd (kw14.mpr q) h60
                        have n21 : spl tx (zS X) (swd 21) = false := by
                          cases q : spl tx (zS X) (swd 21) with
                          | false => rfl
                          | true => exact absurd (kw15.mpr q) h67
                        have s60 : sta tx (zS X) 60 = true := b2i_t h130
                        have s43 : sta tx (zS X) 43 = false := b2i_f h207
                        have s45 : sta tx (zS X) 45 = false := b2i_f h216
                        have s42 : sta tx (zS X) 42 = false := b2i_f h262
                        have s47 : sta tx (zS X) 47 = false := b2i_f h271
                        have s41 : sta tx (zS X) 41 = true := b2i_t h318
                        have hopn : opnd (zK X) = true := b2i_t h325
                        obtain ⟨a, r, hd2⟩ := drp_op 0 (zK X) (zO X) hopn
                        have hk0 : ¬ (zS X).2.2.1 = 0 := by rw [(sta_k s41).1]; decide
                        have estL : stL tx z X = (2, (adv tx z (zS X), (drp 0 (zO X) (zK X)).1, (drp 0 (zO X) (zK X)).2.tail, zD X - 1, zT X)) := by unfold stL; rw [if_neg (nt n22), if_neg (nt n21), if_neg (fun q => absurd q.2 (by rw [b2i_t h151]; decide)), if_neg (fun q => q.elim (nt s43) (nt s45)), if_neg (fun q => q.elim (nt s42) (nt s47)), if_pos ⟨s41, hopn⟩]
                        refine p_aload_n 0 329 rfl rfl dX9_expression_328 rfl ?_
                        refine p_cV0v 0 0 332 rfl dX9_expression_329 (c_closes hX h0 hk0 hopn hD1) ml_X9_221 vl_X9_closes rfl (by decide) rfl (Nat.le_of_ble_eq_true rfl) (Nat.le_of_ble_eq_true rfl) (Nat.le_of_ble_eq_true rfl) (Nat.le_of_ble_eq_true rfl) rfl ?_
                        intro σ2 hp2
                        refine p_goto 337 rfl dX9_expression_332 ?_
                        refine p_goto 39 rfl dX9_expression_337 ?_
                        exact ih n _ σ2 _ (by omega) (by rw [← he, hsn, estL]) hp2.1 (by show (adv tx z (zS X)).1 = 0; rw [adv_f]; exact h0) (hDI.cl h0 hd2) (hF.tr hp2.2)
                  · have n22 : spl tx (zS X) (swd 22) = false := by
                      cases q : spl tx (zS X) (swd 22) with
                      | false => rfl
                      | true => exact absurd (kw14.mpr q) h60
                    have n21 : spl tx (zS X) (swd 21) = false := by
                      cases q : spl tx (zS X) (swd 21) with
                      | false => rfl
                      | true => exact absurd (kw15.mpr q) h67
                    have s60 : sta tx (zS X) 60 = true := b2i_t h130
                    have s43 : sta tx (zS X) 43 = false := b2i_f h207
                    have s45 : sta tx (zS X) 45 = false := b2i_f h216
                    have s42 : sta tx (zS X) 42 = false := b2i_f h262
                    have s47 : sta tx (zS X) 47 = true := b2i_t h271
                    have hk0 : ¬ (zS X).2.2.1 = 0 := by rw [(sta_k s47).1]; decide
                    have estL : stL tx z X = (1, psh tx z 6 11 X (zT X)) := by unfold stL; rw [if_neg (nt n22), if_neg (nt n21), if_neg (fun q => absurd q.2 (by rw [b2i_t h151]; decide)), if_neg (fun q => q.elim (nt s43) (nt s45)), if_pos (Or.inr s47), if_neg (nt s42)]
                    refine p_aload_n 0 275 rfl rfl dX9_expression_274 rfl ?_
                    refine p_bipush (6) 277 rfl dX9_expression_275 rfl ?_
                    refine p_cV1v 0 0 280 rfl dX9_expression_277 (c_drops hr hcw (by omega) (l := 6) (by decide)) ml_X9_211 vl_X9_drops rfl (by decide) rfl (Nat.le_of_ble_eq_true rfl) (Nat.le_of_ble_eq_true rfl) (Nat.le_of_ble_eq_true rfl) (Nat.le_of_ble_eq_true rfl) rfl ?_
                    intro σ2 hp2
                    have h2 : RdM σ2 tx z (zS X) := h.fr hp2.2.1 rfl (by rw [hp2.2.2])
                    have hr2 : ∀ k, hR σ2 M0 k = mRef k := fun k => by rw [hp2.2.1.2.2.1]; exact hr k
                    have hdl := drp_len 6 (zK X) (zO X)
                    refine p_aload_n 0 281 rfl rfl dX9_expression_280 rfl ?_
                    refine p_aload_n 0 282 rfl rfl dX9_expression_281 rfl ?_
                    refine p_bipush (42) 284 rfl dX9_expression_282 rfl ?_
                    refine p_cV1i 287 rfl dX9_expression_284 (c_isSign h2 h0 htx (c := 42) (by decide)) ml_X9_199 vl_X9_isSign rfl (by decide) rfl (Nat.le_of_ble_eq_true rfl) (Nat.le_of_ble_eq_true rfl) rfl ?_
                    refine p_if_eq 295 290 rfl rfl dX9_expression_287 (fun h287 => ?_) (fun h287 => absurd (b2i_t h287) (by rw [s42]; decide))
                    refine p_bipush (11) 297 rfl dX9_expression_295 rfl ?_
                    refine p_cV1v 0 0 300 rfl dX9_expression_297 (c_waitsFor hr2 hp2.1 (by omega) _) ml_X9_202 vl_X9_waitsFor rfl (by decide) rfl (Nat.le_of_ble_eq_true rfl) (Nat.le_of_ble_eq_true rfl) (Nat.le_of_ble_eq_true rfl) (Nat.le_of_ble_eq_true rfl) rfl ?_
                    intro σ3 hp3
                    have h3 : RdM σ3 tx z (zS X) := h2.fr hp3.2.1 rfl (by rw [hp3.2.2])
                    have hr3 : ∀ k, hR σ3 M0 k = mRef k := fun k => by rw [hp3.2.1.2.2.1]; exact hr2 k
                    have hT3 : TpM σ3 tx z := (hT.fr hp2.2.1 rfl).fr hp3.2.1 rfl
                    have hD3 : hI σ3 M0 35 = nI (zD X) := (hp3.2.1.i (by decide)).trans ((hp2.2.1.i (by decide)).trans hg.2.1.1)
                    have hts3 : hA σ3 mTs = hA σ1 mTs := (hp3.2.1.2.2.2.2 mTs (by decide)).trans (hp2.2.1.2.2.2.2 mTs (by decide))
                    have hF4 : Fj [] [mTs] σ3 σ3 := Fj.rf
                    have ht4 : ∀ i, 1 ≤ i → i ≤ zD X → hA σ3 mTs i = b2i (zT X i) := fun i hi hj => by rw [hts3]; exact hg.2.2.1 i hi hj
                    refine p_aload_n 0 301 rfl rfl dX9_expression_300 rfl ?_
                    refine p_cV0v 0 0 304 rfl dX9_expression_301 (c_goesR hT3 h3 h0) ml_X9_165 vl_X9_goes rfl (by decide) rfl (Nat.le_of_ble_eq_true rfl) (Nat.le_of_ble_eq_true rfl) (Nat.le_of_ble_eq_true rfl) (Nat.le_of_ble_eq_true rfl) rfl ?_
                    intro σ5 hp5
                    have hps := hX.pu h0 hk0 hp2.2.1 hp3.1 hp3.2.1 hF4 ht4 hp5.1 hp5.2
                    refine p_aload_n 0 305 rfl rfl dX9_expression_304 rfl ?_
                    refine p_iconst (0) 306 rfl dX9_expression_305 rfl ?_
                    refine p_cV1v 0 0 309 rfl dX9_expression_306 (c_mOperand hps.1 (hDI.ps h0 (by decide)) hF3 (N := n) false (by rw [← he, hsn, estL]; rfl)) ml_X9_214 vl_X9_operand rfl (by decide) rfl (Nat.le_of_ble_eq_true rfl) (Nat.le_of_ble_eq_true rfl) (Nat.le_of_ble_eq_true rfl) (Nat.le_of_ble_eq_true rfl) rfl ?_
                    intro σ6 hp6
                    refine p_goto 337 rfl dX9_expression_309 ?_
                    refine p_goto 39 rfl dX9_expression_337 ?_
                    rcases hp6.1 with ⟨N', X', hn', e', h', g', d'⟩ | ⟨hf', h'⟩
                    · exact ih N' X' σ6 _ (by omega) e' h' g' d' ((hF.tr hps.2).tr hp6.2)
                    · exact l_ex39f h' hf' (kk σ6 _ _ h' ((hF.tr hps.2).tr hp6.2))
              · have n22 : spl tx (zS X) (swd 22) = false := by
                  cases q : spl tx (zS X) (swd 22) with
                  | false => rfl
                  | true => exact absurd (kw14.mpr q) h60
                have n21 : spl tx (zS X) (swd 21) = false := by
                  cases q : spl tx (zS X) (swd 21) with
                  | false => rfl
                  | true => exact absurd (kw15.mpr q) h67
                have s60 : sta tx (zS X) 60 = true := b2i_t h130
                have s43 : sta tx (zS X) 43 = false := b2i_f h207
                have s45 : sta tx (zS X) 45 = true := b2i_t h216
                have hk0 : ¬ (zS X).2.2.1 = 0 := by rw [(sta_k s45).1]; decide
                have estL : stL tx z X = (1, psh tx z 5 9 X (zT X)) := by unfold stL; rw [if_neg (nt n22), if_neg (nt n21), if_neg (fun q => absurd q.2 (by rw [b2i_t h151]; decide)), if_pos (Or.inr s45), if_neg (nt s43)]
                refine p_aload_n 0 220 rfl rfl dX9_expression_219 rfl ?_
                refine p_iconst (5) 221 rfl dX9_expression_220 rfl ?_
                refine p_cV1v 0 0 224 rfl dX9_expression_221 (c_drops hr hcw (by omega) (l := 5) (by decide)) ml_X9_211 vl_X9_drops rfl (by decide) rfl (Nat.le_of_ble_eq_true rfl) (Nat.le_of_ble_eq_true rfl) (Nat.le_of_ble_eq_true rfl) (Nat.le_of_ble_eq_true rfl) rfl ?_
                intro σ2 hp2
                have h2 : RdM σ2 tx z (zS X) := h.fr hp2.2.1 rfl (by rw [hp2.2.2])
                have hr2 : ∀ k, hR σ2 M0 k = mRef k := fun k => by rw [hp2.2.1.2.2.1]; exact hr k
                have hdl := drp_len 5 (zK X) (zO X)
                refine p_aload_n 0 225 rfl rfl dX9_expression_224 rfl ?_
                refine p_aload_n 0 226 rfl rfl dX9_expression_225 rfl ?_
                refine p_bipush (43) 228 rfl dX9_expression_226 rfl ?_
                refine p_cV1i 231 rfl dX9_expression_228 (c_isSign h2 h0 htx (c := 43) (by decide)) ml_X9_199 vl_X9_isSign rfl (by decide) rfl (Nat.le_of_ble_eq_true rfl) (Nat.le_of_ble_eq_true rfl) rfl ?_
                refine p_if_eq 239 234 rfl rfl dX9_expression_231 (fun h231 => ?_) (fun h231 => absurd (b2i_t h231) (by rw [s43]; decide))
                refine p_bipush (9) 241 rfl dX9_expression_239 rfl ?_
                refine p_cV1v 0 0 244 rfl dX9_expression_241 (c_waitsFor hr2 hp2.1 (by omega) _) ml_X9_202 vl_X9_waitsFor rfl (by decide) rfl (Nat.le_of_ble_eq_true rfl) (Nat.le_of_ble_eq_true rfl) (Nat.le_of_ble_eq_true rfl) (Nat.le_of_ble_eq_true rfl) rfl ?_
                intro σ3 hp3
                have h3 : RdM σ3 tx z (zS X) := h2.fr hp3.2.1 rfl (by rw [hp3.2.2])
                have hr3 : ∀ k, hR σ3 M0 k = mRef k := fun k => by rw [hp3.2.1.2.2.1]; exact hr2 k
                have hT3 : TpM σ3 tx z := (hT.fr hp2.2.1 rfl).fr hp3.2.1 rfl
                have hD3 : hI σ3 M0 35 = nI (zD X) := (hp3.2.1.i (by decide)).trans ((hp2.2.1.i (by decide)).trans hg.2.1.1)
                have hts3 : hA σ3 mTs = hA σ1 mTs := (hp3.2.1.2.2.2.2 mTs (by decide)).trans (hp2.2.1.2.2.2.2 mTs (by decide))
                have hF4 : Fj [] [mTs] σ3 σ3 := Fj.rf
                have ht4 : ∀ i, 1 ≤ i → i ≤ zD X → hA σ3 mTs i = b2i (zT X i) := fun i hi hj => by rw [hts3]; exact hg.2.2.1 i hi hj
                refine p_aload_n 0 245 rfl rfl dX9_expression_244 rfl ?_
                refine p_cV0v 0 0 248 rfl dX9_expression_245 (c_goesR hT3 h3 h0) ml_X9_165 vl_X9_goes rfl (by decide) rfl (Nat.le_of_ble_eq_true rfl) (Nat.le_of_ble_eq_true rfl) (Nat.le_of_ble_eq_true rfl) (Nat.le_of_ble_eq_true rfl) rfl ?_
                intro σ5 hp5
                have hps := hX.pu h0 hk0 hp2.2.1 hp3.1 hp3.2.1 hF4 ht4 hp5.1 hp5.2
                refine p_aload_n 0 249 rfl rfl dX9_expression_248 rfl ?_
                refine p_iconst (0) 250 rfl dX9_expression_249 rfl ?_
                refine p_cV1v 0 0 253 rfl dX9_expression_250 (c_mOperand hps.1 (hDI.ps h0 (by decide)) hF3 (N := n) false (by rw [← he, hsn, estL]; rfl)) ml_X9_214 vl_X9_operand rfl (by decide) rfl (Nat.le_of_ble_eq_true rfl) (Nat.le_of_ble_eq_true rfl) (Nat.le_of_ble_eq_true rfl) (Nat.le_of_ble_eq_true rfl) rfl ?_
                intro σ6 hp6
                refine p_goto 337 rfl dX9_expression_253 ?_
                refine p_goto 39 rfl dX9_expression_337 ?_
                rcases hp6.1 with ⟨N', X', hn', e', h', g', d'⟩ | ⟨hf', h'⟩
                · exact ih N' X' σ6 _ (by omega) e' h' g' d' ((hF.tr hps.2).tr hp6.2)
                · exact l_ex39f h' hf' (kk σ6 _ _ h' ((hF.tr hps.2).tr hp6.2))
          · have n22 : spl tx (zS X) (swd 22) = false := by
              cases q : spl tx (zS X) (swd 22) with
              | false => rfl
              | true => exact absurd (kw14.mpr q) h60
            have n21 : spl tx (zS X) (swd 21) = false := by
              cases q : spl tx (zS X) (swd 21) with
              | false => rfl
              | true => exact absurd (kw15.mpr q) h67
            have s60 : sta tx (zS X) 60 = true := b2i_t h130
            have hk0 : ¬ (zS X).2.2.1 = 0 := by rw [(sta_k s60).1]; decide
            have estL : stL tx z X = (1, psh tx z 4 6 X (upB (zT X) (zD X) true)) := by unfold stL; rw [if_neg (nt n22), if_neg (nt n21), if_pos ⟨Or.inl s60, b2i_f h151⟩, if_pos s60]
            refine p_aload_n 0 155 rfl rfl dX9_expression_154 rfl ?_
            refine p_iconst (4) 156 rfl dX9_expression_155 rfl ?_
            refine p_cV1v 0 0 159 rfl dX9_expression_156 (c_drops hr hcw (by omega) (l := 4) (by decide)) ml_X9_211 vl_X9_drops rfl (by decide) rfl (Nat.le_of_ble_eq_true rfl) (Nat.le_of_ble_eq_true rfl) (Nat.le_of_ble_eq_true rfl) (Nat.le_of_ble_eq_true rfl) rfl ?_
            intro σ2 hp2
            have h2 : RdM σ2 tx z (zS X) := h.fr hp2.2.1 rfl (by rw [hp2.2.2])
            have hr2 : ∀ k, hR σ2 M0 k = mRef k := fun k => by rw [hp2.2.1.2.2.1]; exact hr k
            have hdl := drp_len 4 (zK X) (zO X)
            refine p_aload_n 0 160 rfl rfl dX9_expression_159 rfl ?_
            refine p_aload_n 0 161 rfl rfl dX9_expression_160 rfl ?_
            refine p_bipush (60) 163 rfl dX9_expression_161 rfl ?_
            refine p_cV1i 166 rfl dX9_expression_163 (c_isSign h2 h0 htx (c := 60) (by decide)) ml_X9_199 vl_X9_isSign rfl (by decide) rfl (Nat.le_of_ble_eq_true rfl) (Nat.le_of_ble_eq_true rfl) rfl ?_
            refine p_if_eq 174 169 rfl rfl dX9_expression_166 (fun h166 => absurd (b2i_f h166) (by rw [s60]; decide)) (fun h166 => ?_)
            refine p_bipush (6) 171 rfl dX9_expression_169 rfl ?_
            refine p_goto 176 rfl dX9_expression_171 ?_
            refine p_cV1v 0 0 179 rfl dX9_expression_176 (c_waitsFor hr2 hp2.1 (by omega) _) ml_X9_202 vl_X9_waitsFor rfl (by decide) rfl (Nat.le_of_ble_eq_true rfl) (Nat.le_of_ble_eq_true rfl) (Nat.le_of_ble_eq_true rfl) (Nat.le_of_ble_eq_true rfl) rfl ?_
            intro σ3 hp3
            have h3 : RdM σ3 tx z (zS X) := h2.fr hp3.2.1 rfl (by rw [hp3.2.2])
            have hr3 : ∀ k, hR σ3 M0 k = mRef k := fun k => by rw [hp3.2.1.2.2.1]; exact hr2 k
            have hT3 : TpM σ3 tx z := (hT.fr hp2.2.1 rfl).fr hp3.2.1 rfl
            have hD3 : hI σ3 M0 35 = nI (zD X) := (hp3.2.1.i (by decide)).trans ((hp2.2.1.i (by decide)).trans hg.2.1.1)
            have hts3 : hA σ3 mTs = hA σ1 mTs := (hp3.2.1.2.2.2.2 mTs (by decide)).trans (hp2.2.1.2.2.2.2 mTs (by decide))
            refine p_aload_n 0 180 rfl rfl dX9_expression_179 rfl ?_
            refine p_getR 9 43 183 rfl dX9_expression_180 fl_X9_62 rfl rfl (show hR _ M0 43 = mTs from hr3 43) (by decide) ?_
            refine p_aload_n 0 184 rfl rfl dX9_expression_183 rfl ?_
            refine p_getIE 9 35 187 rfl dX9_expression_184 fl_X9_196 rfl rfl hD3 ?_
            refine p_iconst (1) 188 rfl dX9_expression_187 rfl ?_
            refine p_zastE 189 rfl dX9_expression_188 (i := zD X) rfl (by show _ < 9; have := hg.2.1.2; omega) (Or.inr rfl) ?_
            have hF4 : Fj [] [mTs] σ3 (sA σ3 mTs (zD X) 1) := Fj.sA (by simp)
            have ht4 : ∀ i, 1 ≤ i → i ≤ zD X → hA (sA σ3 mTs (zD X) 1) mTs i = b2i (upB (zT X) (zD X) true i) := fun i hi hj => by
              rw [sA_s, hts3]
              show _ = b2i (if i = zD X then true else zT X i)
              by_cases e : i = zD X
              · rw [e, pk_us, if_pos rfl]; rfl
              · rw [pk_un e, if_neg e]; exact hg.2.2.1 i hi hj
            have h4 : RdM (sA σ3 mTs (zD X) 1) tx z (zS X) := h3.fr hF4 rfl rfl
            have hT4 : TpM (sA σ3 mTs (zD X) 1) tx z := hT3.fr hF4 rfl
            refine p_aload_n 0 190 rfl rfl dX9_expression_189 rfl ?_
            refine p_cV0v 0 0 193 rfl dX9_expression_190 (c_goesR hT4 h4 h0) ml_X9_165 vl_X9_goes rfl (by decide) rfl (Nat.le_of_ble_eq_true rfl) (Nat.le_of_ble_eq_true rfl) (Nat.le_of_ble_eq_true rfl) (Nat.le_of_ble_eq_true rfl) rfl ?_
            intro σ5 hp5
            have hps := hX.pu h0 hk0 hp2.2.1 hp3.1 hp3.2.1 hF4 ht4 hp5.1 hp5.2
            refine p_aload_n 0 194 rfl rfl dX9_expression_193 rfl ?_
            refine p_iconst (0) 195 rfl dX9_expression_194 rfl ?_
            refine p_cV1v 0 0 198 rfl dX9_expression_195 (c_mOperand hps.1 (hDI.ps h0 (by decide)) hF3 (N := n) false (by rw [← he, hsn, estL]; rfl)) ml_X9_214 vl_X9_operand rfl (by decide) rfl (Nat.le_of_ble_eq_true rfl) (Nat.le_of_ble_eq_true rfl) (Nat.le_of_ble_eq_true rfl) (Nat.le_of_ble_eq_true rfl) rfl ?_
            intro σ6 hp6
            refine p_goto 337 rfl dX9_expression_198 ?_
            refine p_goto 39 rfl dX9_expression_337 ?_
            rcases hp6.1 with ⟨N', X', hn', e', h', g', d'⟩ | ⟨hf', h'⟩
            · exact ih N' X' σ6 _ (by omega) e' h' g' d' ((hF.tr hps.2).tr hp6.2)
            · exact l_ex39f h' hf' (kk σ6 _ _ h' ((hF.tr hps.2).tr hp6.2))
        · refine p_aload_n 0 134 rfl rfl dX9_expression_133 rfl ?_
          refine p_bipush (61) 136 rfl dX9_expression_134 rfl ?_
          refine p_cV1i 139 rfl dX9_expression_136 (c_isSign h h0 htx (c := 61) (by decide)) ml_X9_199 vl_X9_isSign rfl (by decide) rfl (Nat.le_of_ble_eq_true rfl) (Nat.le_of_ble_eq_true rfl) rfl ?_
          refine p_if_eq 201 142 rfl rfl dX9_expression_139 (fun h139 => ?_) (fun h139 => ?_)
          · refine p_aload_n 0 202 rfl rfl dX9_expression_201 rfl ?_
            refine p_bipush (43) 204 rfl dX9_expression_202 rfl ?_
            refine p_cV1i 207 rfl dX9_expression_204 (c_isSign h h0 htx (c := 43) (by decide)) ml_X9_199 vl_X9_isSign rfl (by decide) rfl (Nat.le_of_ble_eq_true rfl) (Nat.le_of_ble_eq_true rfl) rfl ?_
            refine p_if_ne 219 210 rfl rfl dX9_expression_207 (fun h207 => ?_) (fun h207 => ?_)
            · have n22 : spl tx (zS X) (swd 22) = false := by
                cases q : spl tx (zS X) (swd 22) with
                | false => rfl
                | true => exact absurd (kw14.mpr q) h60
              have n21 : spl tx (zS X) (swd 21) = false := by
                cases q : spl tx (zS X) (swd 21) with
                | false => rfl
                | true => exact absurd (kw15.mpr q) h67
              have s60 : sta tx (zS X) 60 = false := b2i_f h130
              have s61 : sta tx (zS X) 61 = false := b2i_f h139
              have s43 : sta tx (zS X) 43 = true := b2i_t h207
              have hk0 : ¬ (zS X).2.2.1 = 0 := by rw [(sta_k s43).1]; decide
              have estL : stL tx z X = (1, psh tx z 5 8 X (zT X)) := by unfold stL; rw [if_neg (nt n22), if_neg (nt n21), if_neg (fun q => q.1.elim (nt s60) (nt s61)), if_pos (Or.inl s43), if_pos s43]
              refine p_aload_n 0 220 rfl rfl dX9_expression_219 rfl ?_
              refine p_iconst (5) 221 rfl dX9_expression_220 rfl ?_
              refine p_cV1v 0 0 224 rfl dX9_expression_221 (c_drops hr hcw (by omega) (l := 5) (by decide)) ml_X9_211 vl_X9_drops rfl (by decide) rfl (Nat.le_of_ble_eq_true rfl) (Nat.le_of_ble_eq_true rfl) (Nat.le_of_ble_eq_true rfl) (Nat.le_of_ble_eq_true rfl) rfl ?_
              intro σ2 hp2
              have h2 : RdM σ2 tx z (zS X) := h.fr hp2.2.1 rfl (by rw [hp2.2.2])
              have hr2 : ∀ k, hR σ2 M0 k = mRef k := fun k => by rw [hp2.2.1.2.2.1]; exact hr k
              have hdl := drp_len 5 (zK X) (zO X)
              refine p_aload_n 0 225 rfl rfl dX9_expression_224 rfl ?_
              refine p_aload_n 0 226 rfl rfl dX9_expression_225 rfl ?_
              refine p_bipush (43) 228 rfl dX9_expression_226 rfl ?_
              refine p_cV1i 231 rfl dX9_expression_228 (c_isSign h2 h0 htx (c := 43) (by decide)) ml_X9_199 vl_X9_isSign rfl (by decide) rfl (Nat.le_of_ble_eq_true rfl) (Nat.le_of_ble_eq_true rfl) rfl ?_
              refine p_if_eq 239 234 rfl rfl dX9_expression_231 (fun h231 => absurd (b2i_f h231) (by rw [s43]; decide)) (fun h231 => ?_)
              refine p_bipush (8) 236 rfl dX9_expression_234 rfl ?_
              refine p_goto 241 rfl dX9_expression_236 ?_
              refine p_cV1v 0 0 244 rfl dX9_expression_241 (c_waitsFor hr2 hp2.1 (by omega) _) ml_X9_202 vl_X9_waitsFor rfl (by decide) rfl (Nat.le_of_ble_eq_true rfl) (Nat.le_of_ble_eq_true rfl) (Nat.le_of_ble_eq_true rfl) (Nat.le_of_ble_eq_true rfl) rfl ?_
              intro σ3 hp3
              have h3 : RdM σ3 tx z (zS X) := h2.fr hp3.2.1 rfl (by rw [hp3.2.2])
              have hr3 : ∀ k, hR σ3 M0 k = mRef k := fun k => by rw [hp3.2.1.2.2.1]; exact hr2 k
              have hT3 : TpM σ3 tx z := (hT.fr hp2.2.1 rfl).fr hp3.2.1 rfl
              have hD3 : hI σ3 M0 35 = nI (zD X) := (hp3.2.1.i (by decide)).trans ((hp2.2.1.i (by decide)).trans hg.2.1.1)
              have hts3 : hA σ3 mTs = hA σ1 mTs := (hp3.2.1.2.2.2.2 mTs (by decide)).trans (hp2.2.1.2.2.2.2 mTs (by decide))
              have hF4 : Fj [] [mTs] σ3 σ3 := Fj.rf
              have ht4 : ∀ i, 1 ≤ i → i ≤ zD X → hA σ3 mTs i = b2i (zT X i) := fun i hi hj => by rw [hts3]; exact hg.2.2.1 i hi hj
              refine p_aload_n 0 245 rfl rfl dX9_expression_244 rfl ?_
              refine p_cV0v 0 0 248 rfl dX9_expression_245 (c_goesR hT3 h3 h0) ml_X9_165 vl_X9_goes rfl (by decide) rfl (Nat.le_of_ble_eq_true rfl) (Nat.le_of_ble_eq_true rfl) (Nat.le_of_ble_eq_true rfl) (Nat.le_of_ble_eq_true rfl) rfl ?_
              intro σ5 hp5
              have hps := hX.pu h0 hk0 hp2.2.1 hp3.1 hp3.2.1 hF4 ht4 hp5.1 hp5.2
              refine p_aload_n 0 249 rfl rfl dX9_expression_248 rfl ?_
              refine p_iconst (0) 250 rfl dX9_expression_249 rfl ?_
              refine p_cV1v 0 0 253 rfl dX9_expression_250 (c_mOperand hps.1 (hDI.ps h0 (by decide)) hF3 (N := n) false (by rw [← he, hsn, estL]; rfl)) ml_X9_214 vl_X9_operand rfl (by decide) rfl (Nat.le_of_ble_eq_true rfl) (Nat.le_of_ble_eq_true rfl) (Nat.le_of_ble_eq_true rfl) (Nat.le_of_ble_eq_true rfl) rfl ?_
              intro σ6 hp6
              refine p_goto 337 rfl dX9_expression_253 ?_
              refine p_goto 39 rfl dX9_expression_337 ?_
              rcases hp6.1 with ⟨N', X', hn', e', h', g', d'⟩ | ⟨hf', h'⟩
              · exact ih N' X' σ6 _ (by omega) e' h' g' d' ((hF.tr hps.2).tr hp6.2)
              · exact l_ex39f h' hf' (kk σ6 _ _ h' ((hF.tr hps.2).tr hp6.2))
            · refine p_aload_n 0 211 rfl rfl dX9_expression_210 rfl ?_
              refine p_bipush (45) 213 rfl dX9_expression_211 rfl ?_
              refine p_cV1i 216 rfl dX9_expression_213 (c_isSign h h0 htx (c := 45) (by decide)) ml_X9_199 vl_X9_isSign rfl (by decide) rfl (Nat.le_of_ble_eq_true rfl) (Nat.le_of_ble_eq_true rfl) rfl ?_
              refine p_if_eq 256 219 rfl rfl dX9_expression_216 (fun h216 => ?_) (fun h216 => ?_)
              · refine p_aload_n 0 257 rfl rfl dX9_expression_256 rfl ?_
                refine p_bipush (42) 259 rfl dX9_expression_257 rfl ?_
                refine p_cV1i 262 rfl dX9_expression_259 (c_isSign h h0 htx (c := 42) (by decide)) ml_X9_199 vl_X9_isSign rfl (by decide) rfl (Nat.le_of_ble_eq_true rfl) (Nat.le_of_ble_eq_true rfl) rfl ?_
                refine p_if_ne 274 265 rfl rfl dX9_expression_262 (fun h262 => ?_) (fun h262 => ?_)
                · have n22 : spl tx (zS X) (swd 22) = false := by
                    cases q : spl tx (zS X) (swd 22) with
                    | false => rfl
                    | true => exact absurd (kw14.mpr q) h60
                  have n21 : spl tx (zS X) (swd 21) = false := by
                    cases q : spl tx (zS X) (swd 21) with
                    | false => rfl
                    | true => exact absurd (kw15.mpr q) h67
                  have s60 : sta tx (zS X) 60 = false := b2i_f h130
                  have s61 : sta tx (zS X) 61 = false := b2i_f h139
                  have s43 : sta tx (zS X) 43 = false := b2i_f h207
                  have s45 : sta tx (zS X) 45 = false := b2i_f h216
                  have s42 : sta tx (zS X) 42 = true := b2i_t h262
                  have hk0 : ¬ (zS X).2.2.1 = 0 := by rw [(sta_k s42).1]; decide
                  have estL : stL tx z X = (1, psh tx z 6 10 X (zT X)) := by unfold stL; rw [if_neg (nt n22), if_neg (nt n21), if_neg (fun q => q.1.elim (nt s60) (nt s61)), if_neg (fun q => q.elim (nt s43) (nt s45)), if_pos (Or.inl s42), if_pos s42]
                  refine p_aload_n 0 275 rfl rfl dX9_expression_274 rfl ?_
                  refine p_bipush (6) 277 rfl dX9_expression_275 rfl ?_
                  refine p_cV1v 0 0 280 rfl dX9_expression_277 (c_drops hr hcw (by omega) (l := 6) (by decide)) ml_X9_211 vl_X9_drops rfl (by decide) rfl (Nat.le_of_ble_eq_true rfl) (Nat.le_of_ble_eq_true rfl) (Nat.le_of_ble_eq_true rfl) (Nat.le_of_ble_eq_true rfl) rfl ?_
                  intro σ2 hp2
                  have h2 : RdM σ2 tx z (zS X) := h.fr hp2.2.1 rfl (by rw [hp2.2.2])
                  have hr2 : ∀ k, hR σ2 M0 k = mRef k := fun k => by rw [hp2.2.1.2.2.1]; exact hr k
                  have hdl := drp_len 6 (zK X) (zO X)
                  refine p_aload_n 0 281 rfl rfl dX9_expression_280 rfl ?_
                  refine p_aload_n 0 282 rfl rfl dX9_expression_281 rfl ?_
                  refine p_bipush (42) 284 rfl dX9_expression_282 rfl ?_
                  refine p_cV1i 287 rfl dX9_expression_284 (c_isSign h2 h0 htx (c := 42) (by decide)) ml_X9_199 vl_X9_isSign rfl (by decide) rfl (Nat.le_of_ble_eq_true rfl) (Nat.le_of_ble_eq_true rfl) rfl ?_
                  refine p_if_eq 295 290 rfl rfl dX9_expression_287 (fun h287 => absurd (b2i_f h287) (by rw [s42]; decide)) (fun h287 => ?_)
                  refine p_bipush (10) 292 rfl dX9_expression_290 rfl ?_
                  refine p_goto 297 rfl dX9_expression_292 ?_
                  refine p_cV1v 0 0 300 rfl dX9_expression_297 (c_waitsFor hr2 hp2.1 (by omega) _) ml_X9_202 vl_X9_waitsFor rfl (by decide) rfl (Nat.le_of_ble_eq_true rfl) (Nat.le_of_ble_eq_true rfl) (Nat.le_of_ble_eq_true rfl) (Nat.le_of_ble_eq_true rfl) rfl ?_
                  intro σ3 hp3
                  have h3 : RdM σ3 tx z (zS X) := h2.fr hp3.2.1 rfl (by rw [hp3.2.2])
                  have hr3 : ∀ k, hR σ3 M0 k = mRef k := fun k => by rw [hp3.2.1.2.2.1]; exact hr2 k
                  have hT3 : TpM σ3 tx z := (hT.fr hp2.2.1 rfl).fr hp3.2.1 rfl
                  have hD3 : hI σ3 M0 35 = nI (zD X) := (hp3.2.1.i (by decide)).trans ((hp2.2.1.i (by decide)).trans hg.2.1.1)
                  have hts3 : hA σ3 mTs = hA σ1 mTs := (hp3.2.1.2.2.2.2 mTs (by decide)).trans (hp2.2.1.2.2.2.2 mTs (by decide))
                  have hF4 : Fj [] [mTs] σ3 σ3 := Fj.rf
                  have ht4 : ∀ i, 1 ≤ i → i ≤ zD X → hA σ3 mTs i = b2i (zT X i) := fun i hi hj => by rw [hts3]; exact hg.2.2.1 i hi hj
                  refine p_aload_n 0 301 rfl rfl dX9_expression_300 rfl ?_
                  refine p_cV0v 0 0 304 rfl dX9_expression_301 (c_goesR hT3 h3 h0) ml_X9_165 vl_X9_goes rfl (by decide) rfl (Nat.le_of_ble_eq_true rfl) (Nat.le_of_ble_eq_true rfl) (Nat.le_of_ble_eq_true rfl) (Nat.le_of_ble_eq_true rfl) rfl ?_
                  intro σ5 hp5
                  have hps := hX.pu h0 hk0 hp2.2.1 hp3.1 hp3.2.1 hF4 ht4 hp5.1 hp5.2
                  refine p_aload_n 0 305 rfl rfl dX9_expression_304 rfl ?_
                  refine p_iconst (0) 306 rfl dX9_expression_305 rfl ?_
                  refine p_cV1v 0 0 309 rfl dX9_expression_306 (c_mOperand hps.1 (hDI.ps h0 (by decide)) hF3 (N := n) false (by rw [← he, hsn, estL]; rfl)) ml_X9_214 vl_X9_operand rfl (by decide) rfl (Nat.le_of_ble_eq_true rfl) (Nat.le_of_ble_eq_true rfl) (Nat.le_of_ble_eq_true rfl) (Nat.le_of_ble_eq_true rfl) rfl ?_
                  intro σ6 hp6
                  refine p_goto 337 rfl dX9_expression_309 ?_
                  refine p_goto 39 rfl dX9_expression_337 ?_
                  rcases hp6.1 with ⟨N', X', hn', e', h', g', d'⟩ | ⟨hf', h'⟩
                  · exact ih N' X' σ6 _ (by omega) e' h' g' d' ((hF.tr hps.2).tr hp6.2)
                  · exact l_ex39f h' hf' (kk σ6 _ _ h' ((hF.tr hps.2).tr hp6.2))
                · refine p_aload_n 0 266 rfl rfl dX9_expression_265 rfl ?_
                  refine p_bipush (47) 268 rfl dX9_expression_266 rfl ?_
                  refine p_cV1i 271 rfl dX9_expression_268 (c_isSign h h0 htx (c := 47) (by decide)) ml_X9_199 vl_X9_isSign rfl (by decide) rfl (Nat.le_of_ble_eq_true rfl) (Nat.le_of_ble_eq_true rfl) rfl ?_
                  refine p_if_eq 312 274 rfl rfl dX9_expression_271 (fun h271 => ?_) (fun h271 => ?_)
                  · refine p_aload_n 0 313 rfl rfl dX9_expression_312 rfl ?_
                    refine p_bipush (41) 315 rfl dX9_expression_313 rfl ?_
                    refine p_cV1i 318 rfl dX9_expression_315 (c_isSign h h0 htx (c := 41) (by decide)) ml_X9_199 vl_X9_isSign rfl (by decide) rfl (Nat.le_of_ble_eq_true rfl) (Nat.le_of_ble_eq_true rfl) rfl ?_
                    refine p_if_eq 335 321 rfl rfl dX9_expression_318 (fun h318 => ?_) (fun h318 => ?_)
                    · have n22 : spl tx (zS X) (swd 22) = false := by
                        cases q : spl tx (zS X) (swd 22) with
                        | false => rfl
                        | true => exact absurd (kw14.mpr q) h60
                      have n21 : spl tx (zS X) (swd 21) = false := by
                        cases q : spl tx (zS X) (swd 21) with
                        | false => rfl
                        | true => exact absurd (kw15.mpr q) h67
                      have s60 : sta tx (zS X) 60 = false := b2i_f h130
                      have s61 : sta tx (zS X) 61 = false := b2i_f h139
                      have s43 : sta tx (zS X) 43 = false := b2i_f h207
                      have s45 : sta tx (zS X) 45 = false := b2i_f h216
                      have s42 : sta tx (zS X) 42 = false := b2i_f h262
                      have s47 : sta tx (zS X) 47 = false := b2i_f h271
                      have estL : stL tx z X = (3, X) := by unfold stL; rw [if_neg (nt n22), if_neg (nt n21), if_neg (fun q => q.1.elim (nt s60) (nt s61)), if_neg (fun q => q.elim (nt s43) (nt s45)), if_neg (fun q => q.elim (nt s42) (nt s47)), if_neg (fun q => by rw [b2i_f h318] at q; exact absurd q.1 (by decide))]
                      refine p_iconst (0) 336 rfl dX9_expression_335 rfl ?_
                      refine p_ist_n3 337 rfl rfl dX9_expression_336 (Nat.le_of_ble_eq_true rfl) rfl ?_
                      refine p_goto 39 rfl dX9_expression_337 ?_
                      refine p_iload_n 3 40 rfl rfl dX9_expression_39 rfl ?_
                      refine p_if_eq 340 43 rfl rfl dX9_expression_40 (fun h40 => ?_) (fun h40 => absurd rfl h40)
                      have hFX : F = (3, X) := by rw [← he, hsn, estL]; exact rnN_3 tx z w X n
                      have e2 : F.2 = X := by rw [hFX]
                      exact kk σ1 _ _ (by rw [e2]; exact hX) hF
                    · refine p_aload_n 0 322 rfl rfl dX9_expression_321 rfl ?_
                      refine p_cV0i 325 rfl dX9_expression_322 (c_isOpened hr hcw (by omega)) ml_X9_218 vl_X9_isOpened rfl (by decide) rfl (Nat.le_of_ble_eq_true rfl) (Nat.le_of_ble_eq_true rfl) rfl ?_
                      refine p_if_eq 335 328 rfl rfl dX9_expression_325 (fun h325 => ?_) (fun h325 => ?_)
                      · have n22 : spl tx (zS X) (swd 22) = false := by
                          cases q : spl tx (zS X) (swd 22) with
                          | false => rfl
                          | true => exact absurd (kw14.mpr q) h60
                        have n21 : spl tx (zS X) (swd 21) = false := by
                          cases q : spl tx (zS X) (swd 21) with
                          | false => rfl
                          | true => exact absurd (kw15.mpr q) h67
                        have s60 : sta tx (zS X) 60 = false := b2i_f h130
                        have s61 : sta tx (zS X) 61 = false := b2i_f h139
                        have s43 : sta tx (zS X) 43 = false := b2i_f h207
                        have s45 : sta tx (zS X) 45 = false := b2i_f h216
                        have s42 : sta tx (zS X) 42 = false := b2i_f h262
                        have s47 : sta tx (zS X) 47 = false := b2i_f h271
                        have estL : stL tx z X = (3, X) := by unfold stL; rw [if_neg (nt n22), if_neg (nt n21), if_neg (fun q => q.1.elim (nt s60) (nt s61)), if_neg (fun q => q.elim (nt s43) (nt s45)), if_neg (fun q => q.elim (nt s42) (nt s47)), if_neg (fun q => by rw [b2i_f h325] at q; exact absurd q.2 (by decide))]
                        refine p_iconst (0) 336 rfl dX9_expression_335 rfl ?_
                        refine p_ist_n3 337 rfl rfl dX9_expression_336 (Nat.le_of_ble_eq_true rfl) rfl ?_
                        refine p_goto 39 rfl dX9_expression_337 ?_
                        refine p_iload_n 3 40 rfl rfl dX9_expression_39 rfl ?_
                        refine p_if_eq 340 43 rfl rfl dX9_expression_40 (fun h40 => ?_) (fun h40 => absurd rfl h40)
                        have hFX : F = (3, X) := by rw [← he, hsn, estL]; exact rnN_3 tx z w X n
                        have e2 : F.2 = X := by rw [hFX]
                        exact kk σ1 _ _ (by rw [e2]; exact hX) hF
                      · have n22 : spl tx (zS X) (swd 22) = false := by
                          cases q : spl tx (zS X) (swd 22) with
                          | false => rfl
                          | true => exact absurd (kw14.mpr q) h60
                        have n21 : spl tx (zS X) (swd 21) = false := by
                          cases q : spl tx (zS X) (swd 21) with
                          | false => rfl
                          | true => exact absurd (kw15.mpr q) h67
                        have s60 : sta tx (zS X) 60 = false := b2i_f h130
                        have s61 : sta tx (zS X) 61 = false := b2i_f h139
                        have s43 : sta tx (zS X) 43 = false := b2i_f h207
                        have s45 : sta tx (zS X) 45 = false := b2i_f h216
                        have s42 : sta tx (zS X) 42 = false := b2i_f h262
                        have s47 : sta tx (zS X) 47 = false := b2i_f h271
                        have s41 : sta tx (zS X) 41 = true := b2i_t h318
                        have hopn : opnd (zK X) = true := b2i_t h325
                        obtain ⟨a, r, hd2⟩ := drp_op 0 (zK X) (zO X) hopn
                        have hk0 : ¬ (zS X).2.2.1 = 0 := by rw [(sta_k s41).1]; decide
                        have estL : stL tx z X = (2, (adv tx z (zS X), (drp 0 (zO X) (zK X)).1, (drp 0 (zO X) (zK X)).2.tail, zD X - 1, zT X)) := by unfold stL; rw [if_neg (nt n22), if_neg (nt n21), if_neg (fun q => q.1.elim (nt s60) (nt s61)), if_neg (fun q => q.elim (nt s43) (nt s45)), if_neg (fun q => q.elim (nt s42) (nt s47)), if_pos ⟨s41, hopn⟩]
                        refine p_aload_n 0 329 rfl rfl dX9_expression_328 rfl ?_
                        refine p_cV0v 0 0 332 rfl dX9_expression_329 (c_closes hX h0 hk0 hopn hD1) ml_X9_221 vl_X9_closes rfl (by decide) rfl (Nat.le_of_ble_eq_true rfl) (Nat.le_of_ble_eq_true rfl) (Nat.le_of_ble_eq_true rfl) (Nat.le_of_ble_eq_true rfl) rfl ?_
                        intro σ2 hp2
                        refine p_goto 337 rfl dX9_expression_332 ?_
                        refine p_goto 39 rfl dX9_expression_337 ?_
                        exact ih n _ σ2 _ (by omega) (by rw [← he, hsn, estL]) hp2.1 (by show (adv tx z (zS X)).1 = 0; rw [adv_f]; exact h0) (hDI.cl h0 hd2) (hF.tr hp2.2)
                  · have n22 : spl tx (zS X) (swd 22) = false := by
                      cases q : spl tx (zS X) (swd 22) with
                      | false => rfl
                      | true => exact absurd (kw14.mpr q) h60
                    have n21 : spl tx (zS X) (swd 21) = false := by
                      cases q : spl tx (zS X) (swd 21) with
                      | false => rfl
                      | true => exact absurd (kw15.mpr q) h67
                    have s60 : sta tx (zS X) 60 = false := b2i_f h130
                    have s61 : sta tx (zS X) 61 = false := b2i_f h139
                    have s43 : sta tx (zS X) 43 = false := b2i_f h207
                    have s45 : sta tx (zS X) 45 = false := b2i_f h216
                    have s42 : sta tx (zS X) 42 = false := b2i_f h262
                    have s47 : sta tx (zS X) 47 = true := b2i_t h271
                    have hk0 : ¬ (zS X).2.2.1 = 0 := by rw [(sta_k s47).1]; decide
                    have estL : stL tx z X = (1, psh tx z 6 11 X (zT X)) := by unfold stL; rw [if_neg (nt n22), if_neg (nt n21), if_neg (fun q => q.1.elim (nt s60) (nt s61)), if_neg (fun q => q.elim (nt s43) (nt s45)), if_pos (Or.inr s47), if_neg (nt s42)]
                    refine p_aload_n 0 275 rfl rfl dX9_expression_274 rfl ?_
                    refine p_bipush (6) 277 rfl dX9_expression_275 rfl ?_
                    refine p_cV1v 0 0 280 rfl dX9_expression_277 (c_drops hr hcw (by omega) (l := 6) (by decide)) ml_X9_211 vl_X9_drops rfl (by decide) rfl (Nat.le_of_ble_eq_true rfl) (Nat.le_of_ble_eq_true rfl) (Nat.le_of_ble_eq_true rfl) (Nat.le_of_ble_eq_true rfl) rfl ?_
                    intro σ2 hp2
                    have h2 : RdM σ2 tx z (zS X) := h.fr hp2.2.1 rfl (by rw [hp2.2.2])
                    have hr2 : ∀ k, hR σ2 M0 k = mRef k := fun k => by rw [hp2.2.1.2.2.1]; exact hr k
                    have hdl := drp_len 6 (zK X) (zO X)
                    refine p_aload_n 0 281 rfl rfl dX9_expression_280 rfl ?_
                    refine p_aload_n 0 282 rfl rfl dX9_expression_281 rfl ?_
                    refine p_bipush (42) 284 rfl dX9_expression_282 rfl ?_
                    refine p_cV1i 287 rfl dX9_expression_284 (c_isSign h2 h0 htx (c := 42) (by decide)) ml_X9_199 vl_X9_isSign rfl (by decide) rfl (Nat.le_of_ble_eq_true rfl) (Nat.le_of_ble_eq_true rfl) rfl ?_
                    refine p_if_eq 295 290 rfl rfl dX9_expression_287 (fun h287 => ?_) (fun h287 => absurd (b2i_t h287) (by rw [s42]; decide))
                    refine p_bipush (11) 297 rfl dX9_expression_295 rfl ?_
                    refine p_cV1v 0 0 300 rfl dX9_expression_297 (c_waitsFor hr2 hp2.1 (by omega) _) ml_X9_202 vl_X9_waitsFor rfl (by decide) rfl (Nat.le_of_ble_eq_true rfl) (Nat.le_of_ble_eq_true rfl) (Nat.le_of_ble_eq_true rfl) (Nat.le_of_ble_eq_true rfl) rfl ?_
                    intro σ3 hp3
                    have h3 : RdM σ3 tx z (zS X) := h2.fr hp3.2.1 rfl (by rw [hp3.2.2])
                    have hr3 : ∀ k, hR σ3 M0 k = mRef k := fun k => by rw [hp3.2.1.2.2.1]; exact hr2 k
                    have hT3 : TpM σ3 tx z := (hT.fr hp2.2.1 rfl).fr hp3.2.1 rfl
                    have hD3 : hI σ3 M0 35 = nI (zD X) := (hp3.2.1.i (by decide)).trans ((hp2.2.1.i (by decide)).trans hg.2.1.1)
                    have hts3 : hA σ3 mTs = hA σ1 mTs := (hp3.2.1.2.2.2.2 mTs (by decide)).trans (hp2.2.1.2.2.2.2 mTs (by decide))
                    have hF4 : Fj [] [mTs] σ3 σ3 := Fj.rf
                    have ht4 : ∀ i, 1 ≤ i → i ≤ zD X → hA σ3 mTs i = b2i (zT X i) := fun i hi hj => by rw [hts3]; exact hg.2.2.1 i hi hj
                    refine p_aload_n 0 301 rfl rfl dX9_expression_300 rfl ?_
                    refine p_cV0v 0 0 304 rfl dX9_expression_301 (c_goesR hT3 h3 h0) ml_X9_165 vl_X9_goes rfl (by decide) rfl (Nat.le_of_ble_eq_true rfl) (Nat.le_of_ble_eq_true rfl) (Nat.le_of_ble_eq_true rfl) (Nat.le_of_ble_eq_true rfl) rfl ?_
                    intro σ5 hp5
                    have hps := hX.pu h0 hk0 hp2.2.1 hp3.1 hp3.2.1 hF4 ht4 hp5.1 hp5.2
                    refine p_aload_n 0 305 rfl rfl dX9_expression_304 rfl ?_
                    refine p_iconst (0) 306 rfl dX9_expression_305 rfl ?_
                    refine p_cV1v 0 0 309 rfl dX9_expression_306 (c_mOperand hps.1 (hDI.ps h0 (by decide)) hF3 (N := n) false (by rw [← he, hsn, estL]; rfl)) ml_X9_214 vl_X9_operand rfl (by decide) rfl (Nat.le_of_ble_eq_true rfl) (Nat.le_of_ble_eq_true rfl) (Nat.le_of_ble_eq_true rfl) (Nat.le_of_ble_eq_true rfl) rfl ?_
                    intro σ6 hp6
                    refine p_goto 337 rfl dX9_expression_309 ?_
                    refine p_goto 39 rfl dX9_expression_337 ?_
                    rcases hp6.1 with ⟨N', X', hn', e', h', g', d'⟩ | ⟨hf', h'⟩
                    · exact ih N' X' σ6 _ (by omega) e' h' g' d' ((hF.tr hps.2).tr hp6.2)
                    · exact l_ex39f h' hf' (kk σ6 _ _ h' ((hF.tr hps.2).tr hp6.2))
              · have n22 : spl tx (zS X) (swd 22) = false := by
                  cases q : spl tx (zS X) (swd 22) with
                  | false => rfl
                  | true => exact absurd (kw14.mpr q) h60
                have n21 : spl tx (zS X) (swd 21) = false := by
                  cases q : spl tx (zS X) (swd 21) with
                  | false => rfl
                  | true => exact absurd (kw15.mpr q) h67
                have s60 : sta tx (zS X) 60 = false := b2i_f h130
                have s61 : sta tx (zS X) 61 = false := b2i_f h139
                have s43 : sta tx (zS X) 43 = false := b2i_f h207
                have s45 : sta tx (zS X) 45 = true := b2i_t h216
                have hk0 : ¬ (zS X).2.2.1 = 0 := by rw [(sta_k s45).1]; decide
                have estL : stL tx z X = (1, psh tx z 5 9 X (zT X)) := by unfold stL; rw [if_neg (nt n22), if_neg (nt n21), if_neg (fun q => q.1.elim (nt s60) (nt s61)), if_pos (Or.inr s45), if_neg (nt s43)]
                refine p_aload_n 0 220 rfl rfl dX9_expression_219 rfl ?_
                refine p_iconst (5) 221 rfl dX9_expression_220 rfl ?_
                refine p_cV1v 0 0 224 rfl dX9_expression_221 (c_drops hr hcw (by omega) (l := 5) (by decide)) ml_X9_211 vl_X9_drops rfl (by decide) rfl (Nat.le_of_ble_eq_true rfl) (Nat.le_of_ble_eq_true rfl) (Nat.le_of_ble_eq_true rfl) (Nat.le_of_ble_eq_true rfl) rfl ?_
                intro σ2 hp2
                have h2 : RdM σ2 tx z (zS X) := h.fr hp2.2.1 rfl (by rw [hp2.2.2])
                have hr2 : ∀ k, hR σ2 M0 k = mRef k := fun k => by rw [hp2.2.1.2.2.1]; exact hr k
                have hdl := drp_len 5 (zK X) (zO X)
                refine p_aload_n 0 225 rfl rfl dX9_expression_224 rfl ?_
                refine p_aload_n 0 226 rfl rfl dX9_expression_225 rfl ?_
                refine p_bipush (43) 228 rfl dX9_expression_226 rfl ?_
                refine p_cV1i 231 rfl dX9_expression_228 (c_isSign h2 h0 htx (c := 43) (by decide)) ml_X9_199 vl_X9_isSign rfl (by decide) rfl (Nat.le_of_ble_eq_true rfl) (Nat.le_of_ble_eq_true rfl) rfl ?_
                refine p_if_eq 239 234 rfl rfl dX9_expression_231 (fun h231 => ?_) (fun h231 => absurd (b2i_t h231) (by rw [s43]; decide))
                refine p_bipush (9) 241 rfl dX9_expression_239 rfl ?_
                refine p_cV1v 0 0 244 rfl dX9_expression_241 (c_waitsFor hr2 hp2.1 (by omega) _) ml_X9_202 vl_X9_waitsFor rfl (by decide) rfl (Nat.le_of_ble_eq_true rfl) (Nat.le_of_ble_eq_true rfl) (Nat.le_of_ble_eq_true rfl) (Nat.le_of_ble_eq_true rfl) rfl ?_
                intro σ3 hp3
                have h3 : RdM σ3 tx z (zS X) := h2.fr hp3.2.1 rfl (by rw [hp3.2.2])
                have hr3 : ∀ k, hR σ3 M0 k = mRef k := fun k => by rw [hp3.2.1.2.2.1]; exact hr2 k
                have hT3 : TpM σ3 tx z := (hT.fr hp2.2.1 rfl).fr hp3.2.1 rfl
                have hD3 : hI σ3 M0 35 = nI (zD X) := (hp3.2.1.i (by decide)).trans ((hp2.2.1.i (by decide)).trans hg.2.1.1)
                have hts3 : hA σ3 mTs = hA σ1 mTs := (hp3.2.1.2.2.2.2 mTs (by decide)).trans (hp2.2.1.2.2.2.2 mTs (by decide))
                have hF4 : Fj [] [mTs] σ3 σ3 := Fj.rf
                have ht4 : ∀ i, 1 ≤ i → i ≤ zD X → hA σ3 mTs i = b2i (zT X i) := fun i hi hj => by rw [hts3]; exact hg.2.2.1 i hi hj
                refine p_aload_n 0 245 rfl rfl dX9_expression_244 rfl ?_
                refine p_cV0v 0 0 248 rfl dX9_expression_245 (c_goesR hT3 h3 h0) ml_X9_165 vl_X9_goes rfl (by decide) rfl (Nat.le_of_ble_eq_true rfl) (Nat.le_of_ble_eq_true rfl) (Nat.le_of_ble_eq_true rfl) (Nat.le_of_ble_eq_true rfl) rfl ?_
                intro σ5 hp5
                have hps := hX.pu h0 hk0 hp2.2.1 hp3.1 hp3.2.1 hF4 ht4 hp5.1 hp5.2
                refine p_aload_n 0 249 rfl rfl dX9_expression_248 rfl ?_
                refine p_iconst (0) 250 rfl dX9_expression_249 rfl ?_
                refine p_cV1v 0 0 253 rfl dX9_expression_250 (c_mOperand hps.1 (hDI.ps h0 (by decide)) hF3 (N := n) false (by rw [← he, hsn, estL]; rfl)) ml_X9_214 vl_X9_operand rfl (by decide) rfl (Nat.le_of_ble_eq_true rfl) (Nat.le_of_ble_eq_true rfl) (Nat.le_of_ble_eq_true rfl) (Nat.le_of_ble_eq_true rfl) rfl ?_
                intro σ6 hp6
                refine p_goto 337 rfl dX9_expression_253 ?_
                refine p_goto 39 rfl dX9_expression_337 ?_
                rcases hp6.1 with ⟨N', X', hn', e', h', g', d'⟩ | ⟨hf', h'⟩
                · exact ih N' X' σ6 _ (by omega) e' h' g' d' ((hF.tr hps.2).tr hp6.2)
                · exact l_ex39f h' hf' (kk σ6 _ _ h' ((hF.tr hps.2).tr hp6.2))
          · refine p_aload_n 0 143 rfl rfl dX9_expression_142 rfl ?_
            refine p_getR 9 43 146 rfl dX9_expression_143 fl_X9_62 rfl rfl (show hR _ M0 43 = mTs from hr 43) (by decide) ?_
            refine p_aload_n 0 147 rfl rfl dX9_expression_146 rfl ?_
            refine p_getIE 9 35 150 rfl dX9_expression_147 fl_X9_196 rfl rfl hg.2.1.1 ?_
            refine p_zaldE 151 rfl dX9_expression_150 (i := zD X) rfl (by show _ < 9; have := hg.2.1.2; omega) (hg.2.2.1 (zD X) hD1 (Nat.le_refl _)) ?_
            refine p_if_ne 201 154 rfl rfl dX9_expression_151 (fun h151 => ?_) (fun h151 => ?_)
            · refine p_aload_n 0 202 rfl rfl dX9_expression_201 rfl ?_
              refine p_bipush (43) 204 rfl dX9_expression_202 rfl ?_
              refine p_cV1i 207 rfl dX9_expression_204 (c_isSign h h0 htx (c := 43) (by decide)) ml_X9_199 vl_X9_isSign rfl (by decide) rfl (Nat.le_of_ble_eq_true rfl) (Nat.le_of_ble_eq_true rfl) rfl ?_
              refine p_if_ne 219 210 rfl rfl dX9_expression_207 (fun h207 => ?_) (fun h207 => ?_)
              · have n22 : spl tx (zS X) (swd 22) = false := by
                  cases q : spl tx (zS X) (swd 22) with
                  | false => rfl
                  | true => exact absurd (kw14.mpr q) h60
                have n21 : spl tx (zS X) (swd 21) = false := by
                  cases q : spl tx (zS X) (swd 21) with
                  | false => rfl
                  | true => exact absurd (kw15.mpr q) h67
                have s60 : sta tx (zS X) 60 = false := b2i_f h130
                have s61 : sta tx (zS X) 61 = true := b2i_t h139
                have s43 : sta tx (zS X) 43 = true := b2i_t h207
                have hk0 : ¬ (zS X).2.2.1 = 0 := by rw [(sta_k s43).1]; decide
                have estL : stL tx z X = (1, psh tx z 5 8 X (zT X)) := by unfold stL; rw [if_neg (nt n22), if_neg (nt n21), if_neg (fun q => absurd q.2 (by rw [b2i_t h151]; decide)), if_pos (Or.inl s43), if_pos s43]
                refine p_aload_n 0 220 rfl rfl dX9_expression_219 rfl ?_
                refine p_iconst (5) 221 rfl dX9_expression_220 rfl ?_
                refine p_cV1v 0 0 224 rfl dX9_expression_221 (c_drops hr hcw (by omega) (l := 5) (by decide)) ml_X9_211 vl_X9_drops rfl (by decide) rfl (Nat.le_of_ble_eq_true rfl) (Nat.le_of_ble_eq_true rfl) (Nat.le_of_ble_eq_true rfl) (Nat.le_of_ble_eq_true rfl) rfl ?_
                intro σ2 hp2
                have h2 : RdM σ2 tx z (zS X) := h.fr hp2.2.1 rfl (by rw [hp2.2.2])
                have hr2 : ∀ k, hR σ2 M0 k = mRef k := fun k => by rw [hp2.2.1.2.2.1]; exact hr k
                have hdl := drp_len 5 (zK X) (zO X)
                refine p_aload_n 0 225 rfl rfl dX9_expression_224 rfl ?_
                refine p_aload_n 0 226 rfl rfl dX9_expression_225 rfl ?_
                refine p_bipush (43) 228 rfl dX9_expression_226 rfl ?_
                refine p_cV1i 231 rfl dX9_expression_228 (c_isSign h2 h0 htx (c := 43) (by decide)) ml_X9_199 vl_X9_isSign rfl (by decide) rfl (Nat.le_of_ble_eq_true rfl) (Nat.le_of_ble_eq_true rfl) rfl ?_
                refine p_if_eq 239 234 rfl rfl dX9_expression_231 (fun h231 => absurd (b2i_f h231) (by rw [s43]; decide)) (fun h231 => ?_)
                refine p_bipush (8) 236 rfl dX9_expression_234 rfl ?_
                refine p_goto 241 rfl dX9_expression_236 ?_
                refine p_cV1v 0 0 244 rfl dX9_expression_241 (c_waitsFor hr2 hp2.1 (by omega) _) ml_X9_202 vl_X9_waitsFor rfl (by decide) rfl (Nat.le_of_ble_eq_true rfl) (Nat.le_of_ble_eq_true rfl) (Nat.le_of_ble_eq_true rfl) (Nat.le_of_ble_eq_true rfl) rfl ?_
                intro σ3 hp3
                have h3 : RdM σ3 tx z (zS X) := h2.fr hp3.2.1 rfl (by rw [hp3.2.2])
                have hr3 : ∀ k, hR σ3 M0 k = mRef k := fun k => by rw [hp3.2.1.2.2.1]; exact hr2 k
                have hT3 : TpM σ3 tx z := (hT.fr hp2.2.1 rfl).fr hp3.2.1 rfl
                have hD3 : hI σ3 M0 35 = nI (zD X) := (hp3.2.1.i (by decide)).trans ((hp2.2.1.i (by decide)).trans hg.2.1.1)
                have hts3 : hA σ3 mTs = hA σ1 mTs := (hp3.2.1.2.2.2.2 mTs (by decide)).trans (hp2.2.1.2.2.2.2 mTs (by decide))
                have hF4 : Fj [] [mTs] σ3 σ3 := Fj.rf
                have ht4 : ∀ i, 1 ≤ i → i ≤ zD X → hA σ3 mTs i = b2i (zT X i) := fun i hi hj => by rw [hts3]; exact hg.2.2.1 i hi hj
                refine p_aload_n 0 245 rfl rfl dX9_expression_244 rfl ?_
                refine p_cV0v 0 0 248 rfl dX9_expression_245 (c_goesR hT3 h3 h0) ml_X9_165 vl_X9_goes rfl (by decide) rfl (Nat.le_of_ble_eq_true rfl) (Nat.le_of_ble_eq_true rfl) (Nat.le_of_ble_eq_true rfl) (Nat.le_of_ble_eq_true rfl) rfl ?_
                intro σ5 hp5
                have hps := hX.pu h0 hk0 hp2.2.1 hp3.1 hp3.2.1 hF4 ht4 hp5.1 hp5.2
                refine p_aload_n 0 249 rfl rfl dX9_expression_248 rfl ?_
                refine p_iconst (0) 250 rfl dX9_expression_249 rfl ?_
                refine p_cV1v 0 0 253 rfl dX9_expression_250 (c_mOperand hps.1 (hDI.ps h0 (by decide)) hF3 (N := n) false (by rw [← he, hsn, estL]; rfl)) ml_X9_214 vl_X9_operand rfl (by decide) rfl (Nat.le_of_ble_eq_true rfl) (Nat.le_of_ble_eq_true rfl) (Nat.le_of_ble_eq_true rfl) (Nat.le_of_ble_eq_true rfl) rfl ?_
                intro σ6 hp6
                refine p_goto 337 rfl dX9_expression_253 ?_
                refine p_goto 39 rfl dX9_expression_337 ?_
                rcases hp6.1 with ⟨N', X', hn', e', h', g', d'⟩ | ⟨hf', h'⟩
                · exact ih N' X' σ6 _ (by omega) e' h' g' d' ((hF.tr hps.2).tr hp6.2)
                · exact l_ex39f h' hf' (kk σ6 _ _ h' ((hF.tr hps.2).tr hp6.2))
              · refine p_aload_n 0 211 rfl rfl dX9_expression_210 rfl ?_
                refine p_bipush (45) 213 rfl dX9_expression_211 rfl ?_
                refine p_cV1i 216 rfl dX9_expression_213 (c_isSign h h0 htx (c := 45) (by decide)) ml_X9_199 vl_X9_isSign rfl (by decide) rfl (Nat.le_of_ble_eq_true rfl) (Nat.le_of_ble_eq_true rfl) rfl ?_
                refine p_if_eq 256 219 rfl rfl dX9_expression_216 (fun h216 => ?_) (fun h216 => ?_)
                · refine p_aload_n 0 257 rfl rfl dX9_expression_256 rfl ?_
                  refine p_bipush (42) 259 rfl dX9_expression_257 rfl ?_
                  refine p_cV1i 262 rfl dX9_expression_259 (c_isSign h h0 htx (c := 42) (by decide)) ml_X9_199 vl_X9_isSign rfl (by decide) rfl (Nat.le_of_ble_eq_true rfl) (Nat.le_of_ble_eq_true rfl) rfl ?_
                  refine p_if_ne 274 265 rfl rfl dX9_expression_262 (fun h262 => ?_) (fun h262 => ?_)
                  · have n22 : spl tx (zS X) (swd 22) = false := by
                      cases q : spl tx (zS X) (swd 22) with
                      | false => rfl
                      | true => exact absurd (kw14.mpr q) h60
                    have n21 : spl tx (zS X) (swd 21) = false := by
                      cases q : spl tx (zS X) (swd 21) with
                      | false => rfl
                      | true => exact absurd (kw15.mpr q) h67
                    have s60 : sta tx (zS X) 60 = false := b2i_f h130
                    have s61 : sta tx (zS X) 61 = true := b2i_t h139
                    have s43 : sta tx (zS X) 43 = false := b2i_f h207
                    have s45 : sta tx (zS X) 45 = false := b2i_f h216
                    have s42 : sta tx (zS X) 42 = true := b2i_t h262
                    have hk0 : ¬ (zS X).2.2.1 = 0 := by rw [(sta_k s42).1]; decide
                    have estL : stL tx z X = (1, psh tx z 6 10 X (zT X)) := by unfold stL; rw [if_neg (nt n22), if_neg (nt n21), if_neg (fun q => absurd q.2 (by rw [b2i_t h151]; decide)), if_neg (fun q => q.elim (nt s43) (nt s45)), if_pos (Or.inl s42), if_pos s42]
                    refine p_aload_n 0 275 rfl rfl dX9_expression_274 rfl ?_
                    refine p_bipush (6) 277 rfl dX9_expression_275 rfl ?_
                    refine p_cV1v 0 0 280 rfl dX9_expression_277 (c_drops hr hcw (by omega) (l := 6) (by decide)) ml_X9_211 vl_X9_drops rfl (by decide) rfl (Nat.le_of_ble_eq_true rfl) (Nat.le_of_ble_eq_true rfl) (Nat.le_of_ble_eq_true rfl) (Nat.le_of_ble_eq_true rfl) rfl ?_
                    intro σ2 hp2
                    have h2 : RdM σ2 tx z (zS X) := h.fr hp2.2.1 rfl (by rw [hp2.2.2])
                    have hr2 : ∀ k, hR σ2 M0 k = mRef k := fun k => by rw [hp2.2.1.2.2.1]; exact hr k
                    have hdl := drp_len 6 (zK X) (zO X)
                    refine p_aload_n 0 281 rfl rfl dX9_expression_280 rfl ?_
                    refine p_aload_n 0 282 rfl rfl dX9_expression_281 rfl ?_
                    refine p_bipush (42) 284 rfl dX9_expression_282 rfl ?_
                    refine p_cV1i 287 rfl dX9_expression_284 (c_isSign h2 h0 htx (c := 42) (by decide)) ml_X9_199 vl_X9_isSign rfl (by decide) rfl (Nat.le_of_ble_eq_true rfl) (Nat.le_of_ble_eq_true rfl) rfl ?_
                    refine p_if_eq 295 290 rfl rfl dX9_expression_287 (fun h287 => absurd (b2i_f h287) (by rw [s42]; decide)) (fun h287 => ?_)
                    refine p_bipush (10) 292 rfl dX9_expression_290 rfl ?_
                    refine p_goto 297 rfl dX9_expression_292 ?_
                    refine p_cV1v 0 0 300 rfl dX9_expression_297 (c_waitsFor hr2 hp2.1 (by omega) _) ml_X9_202 vl_X9_waitsFor rfl (by decide) rfl (Nat.le_of_ble_eq_true rfl) (Nat.le_of_ble_eq_true rfl) (Nat.le_of_ble_eq_true rfl) (Nat.le_of_ble_eq_true rfl) rfl ?_
                    intro σ3 hp3
                    have h3 : RdM σ3 tx z (zS X) := h2.fr hp3.2.1 rfl (by rw [hp3.2.2])
                    have hr3 : ∀ k, hR σ3 M0 k = mRef k := fun k => by rw [hp3.2.1.2.2.1]; exact hr2 k
                    have hT3 : TpM σ3 tx z := (hT.fr hp2.2.1 rfl).fr hp3.2.1 rfl
                    have hD3 : hI σ3 M0 35 = nI (zD X) := (hp3.2.1.i (by decide)).trans ((hp2.2.1.i (by decide)).trans hg.2.1.1)
                    have hts3 : hA σ3 mTs = hA σ1 mTs := (hp3.2.1.2.2.2.2 mTs (by decide)).trans (hp2.2.1.2.2.2.2 mTs (by decide))
                    have hF4 : Fj [] [mTs] σ3 σ3 := Fj.rf
                    have ht4 : ∀ i, 1 ≤ i → i ≤ zD X → hA σ3 mTs i = b2i (zT X i) := fun i hi hj => by rw [hts3]; exact hg.2.2.1 i hi hj
                    refine p_aload_n 0 301 rfl rfl dX9_expression_300 rfl ?_
                    refine p_cV0v 0 0 304 rfl dX9_expression_301 (c_goesR hT3 h3 h0) ml_X9_165 vl_X9_goes rfl (by decide) rfl (Nat.le_of_ble_eq_true rfl) (Nat.le_of_ble_eq_true rfl) (Nat.le_of_ble_eq_true rfl) (Nat.le_of_ble_eq_true rfl) rfl ?_
                    intro σ5 hp5
                    have hps := hX.pu h0 hk0 hp2.2.1 hp3.1 hp3.2.1 hF4 ht4 hp5.1 hp5.2
                    refine p_aload_n 0 305 rfl rfl dX9_expression_304 rfl ?_
                    refine p_iconst (0) 306 rfl dX9_expression_305 rfl ?_
                    refine p_cV1v 0 0 309 rfl dX9_expression_306 (c_mOperand hps.1 (hDI.ps h0 (by decide)) hF3 (N := n) false (by rw [← he, hsn, estL]; rfl)) ml_X9_214 vl_X9_operand rfl (by decide) rfl (Nat.le_of_ble_eq_true rfl) (Nat.le_of_ble_eq_true rfl) (Nat.le_of_ble_eq_true rfl) (Nat.le_of_ble_eq_true rfl) rfl ?_
                    intro σ6 hp6
                    refine p_goto 337 rfl dX9_expression_309 ?_
                    refine p_goto 39 rfl dX9_expression_337 ?_
                    rcases hp6.1 with ⟨N', X', hn', e', h', g', d'⟩ | ⟨hf', h'⟩
                    · exact ih N' X' σ6 _ (by omega) e' h' g' d' ((hF.tr hps.2).tr hp6.2)
                    · exact l_ex39f h' hf' (kk σ6 _ _ h' ((hF.tr hps.2).tr hp6.2))
                  · refine p_aload_n 0 266 rfl rfl dX9_expression_265 rfl ?_
                    refine p_bipush (47) 268 rfl dX9_expression_266 rfl ?_
                    refine p_cV1i 271 rfl dX9_expression_268 (c_isSign h h0 htx (c := 47) (by decide)) ml_X9_199 vl_X9_isSign rfl (by decide) rfl (Nat.le_of_ble_eq_true rfl) (Nat.le_of_ble_eq_true rfl) rfl ?_
                    refine p_if_eq 312 274 rfl rfl dX9_expression_271 (fun h271 => ?_) (fun h271 => ?_)
                    · refine p_aload_n 0 313 rfl rfl dX9_expression_312 rfl ?_
                      refine p_bipush (41) 315 rfl dX9_expression_313 rfl ?_
                      refine p_cV1i 318 rfl dX9_expression_315 (c_isSign h h0 htx (c := 41) (by decide)) ml_X9_199 vl_X9_isSign rfl (by decide) rfl (Nat.le_of_ble_eq_true rfl) (Nat.le_of_ble_eq_true rfl) rfl ?_
                      refine p_if_eq 335 321 rfl rfl dX9_expression_318 (fun h318 => ?_) (fun h318 => ?_)
                      · have n22 : spl tx (zS X) (swd 22) = false := by
                          cases q : spl tx (zS X) (swd 22) with
                          | false => rfl
                          | true => exact absurd (kw14.mpr q) h60
                        have n21 : spl tx (zS X) (swd 21) = false := by
                          cases q : spl tx (zS X) (swd 21) with
                          | false => rfl
                          | true => exact absurd (kw15.mpr q) h67
                        have s60 : sta tx (zS X) 60 = false := b2i_f h130
                        have s61 : sta tx (zS X) 61 = true := b2i_t h139
                        have s43 : sta tx (zS X) 43 = false := b2i_f h207
                        have s45 : sta tx (zS X) 45 = false := b2i_f h216
                        have s42 : sta tx (zS X) 42 = false := b2i_f h262
                        have s47 : sta tx (zS X) 47 = false := b2i_f h271
                        have estL : stL tx z X = (3, X) := by unfold stL; rw [if_neg (nt n22), if_neg (nt n21), if_neg (fun q => absurd q.2 (by rw [b2i_t h151]; decide)), if_neg (fun q => q.elim (nt s43) (nt s45)), if_neg (fun q => q.elim (nt s42) (nt s47)), if_neg (fun q => by rw [b2i_f h318] at q; exact absurd q.1 (by decide))]
                        refine p_iconst (0) 336 rfl dX9_expression_335 rfl ?_
                        refine p_ist_n3 337 rfl rfl dX9_expression_336 (Nat.le_of_ble_eq_true rfl) rfl ?_
                        refine p_goto 39 rfl dX9_expression_337 ?_
                        refine p_iload_n 3 40 rfl rfl dX9_expression_39 rfl ?_
                        refine p_if_eq 340 43 rfl rfl dX9_expression_40 (fun h40 => ?_) (fun h40 => absurd rfl h40)
                        have hFX : F = (3, X) := by rw [← he, hsn, estL]; exact rnN_3 tx z w X n
                        have e2 : F.2 = X := by rw [hFX]
                        exact kk σ1 _ _ (by rw [e2]; exact hX) hF
                      · refine p_aload_n 0 322 rfl rfl dX9_expression_321 rfl ?_
                        refine p_cV0i 325 rfl dX9_expression_322 (c_isOpened hr hcw (by omega)) ml_X9_218 vl_X9_isOpened rfl (by decide) rfl (Nat.le_of_ble_eq_true rfl) (Nat.le_of_ble_eq_true rfl) rfl ?_
                        refine p_if_eq 335 328 rfl rfl dX9_expression_325 (fun h325 => ?_) (fun h325 => ?_)
                        · have n22 : spl tx (zS X) (swd 22) = false := by
                            cases q : spl tx (zS X) (swd 22) with
                            | false => rfl
                            | true => exact absurd (kw14.mpr q) h60
                          have n21 : spl tx (zS X) (swd 21) = false := by
                            cases q : spl tx (zS X) (swd 21) with
                            | false => rfl
                            | true => exact absurd (kw15.mpr q) h67
                          have s60 : sta tx (zS X) 60 = false := b2i_f h130
                          have s61 : sta tx (zS X) 61 = true := b2i_t h139
                          have s43 : sta tx (zS X) 43 = false := b2i_f h207
                          have s45 : sta tx (zS X) 45 = false := b2i_f h216
                          have s42 : sta tx (zS X) 42 = false := b2i_f h262
                          have s47 : sta tx (zS X) 47 = false := b2i_f h271
                          have estL : stL tx z X = (3, X) := by unfold stL; rw [if_neg (nt n22), if_neg (nt n21), if_neg (fun q => absurd q.2 (by rw [b2i_t h151]; decide)), if_neg (fun q => q.elim (nt s43) (nt s45)), if_neg (fun q => q.elim (nt s42) (nt s47)), if_neg (fun q => by rw [b2i_f h325] at q; exact absurd q.2 (by decide))]
                          refine p_iconst (0) 336 rfl dX9_expression_335 rfl ?_
                          refine p_ist_n3 337 rfl rfl dX9_expression_336 (Nat.le_of_ble_eq_true rfl) rfl ?_
                          refine p_goto 39 rfl dX9_expression_337 ?_
                          refine p_iload_n 3 40 rfl rfl dX9_expression_39 rfl ?_
                          refine p_if_eq 340 43 rfl rfl dX9_expression_40 (fun h40 => ?_) (fun h40 => absurd rfl h40)
                          have hFX : F = (3, X) := by rw [← he, hsn, estL]; exact rnN_3 tx z w X n
                          have e2 : F.2 = X := by rw [hFX]
                          exact kk σ1 _ _ (by rw [e2]; exact hX) hF
                        · have n22 : spl tx (zS X) (swd 22) = false := by
                            cases q : spl tx (zS X) (swd 22) with
                            | false => rfl
                            | true => exact absurd (kw14.mpr q) h60
                          have n21 : spl tx (zS X) (swd 21) = false := by
                            cases q : spl tx (zS X) (swd 21) with
                            | false => rfl
                            | true => exact absurd (kw15.mpr q) h67
                          have s60 : sta tx (zS X) 60 = false := b2i_f h130
                          have s61 : sta tx (zS X) 61 = true := b2i_t h139
                          have s43 : sta tx (zS X) 43 = false := b2i_f h207
                          have s45 : sta tx (zS X) 45 = false := b2i_f h216
                          have s42 : sta tx (zS X) 42 = false := b2i_f h262
                          have s47 : sta tx (zS X) 47 = false := b2i_f h271
                          have s41 : sta tx (zS X) 41 = true := b2i_t h318
                          have hopn : opnd (zK X) = true := b2i_t h325
                          obtain ⟨a, r, hd2⟩ := drp_op 0 (zK X) (zO X) hopn
                          have hk0 : ¬ (zS X).2.2.1 = 0 := by rw [(sta_k s41).1]; decide
                          have estL : stL tx z X = (2, (adv tx z (zS X), (drp 0 (zO X) (zK X)).1, (drp 0 (zO X) (zK X)).2.tail, zD X - 1, zT X)) := by unfold stL; rw [if_neg (nt n22), if_neg (nt n21), if_neg (fun q => absurd q.2 (by rw [b2i_t h151]; decide)), if_neg (fun q => q.elim (nt s43) (nt s45)), if_neg (fun q => q.elim (nt s42) (nt s47)), if_pos ⟨s41, hopn⟩]
                          refine p_aload_n 0 329 rfl rfl dX9_expression_328 rfl ?_
                          refine p_cV0v 0 0 332 rfl dX9_expression_329 (c_closes hX h0 hk0 hopn hD1) ml_X9_221 vl_X9_closes rfl (by decide) rfl (Nat.le_of_ble_eq_true rfl) (Nat.le_of_ble_eq_true rfl) (Nat.le_of_ble_eq_true rfl) (Nat.le_of_ble_eq_true rfl) rfl ?_
                          intro σ2 hp2
                          refine p_goto 337 rfl dX9_expression_332 ?_
                          refine p_goto 39 rfl dX9_expression_337 ?_
                          exact ih n _ σ2 _ (by omega) (by rw [← he, hsn, estL]) hp2.1 (by show (adv tx z (zS X)).1 = 0; rw [adv_f]; exact h0) (hDI.cl h0 hd2) (hF.tr hp2.2)
                    · have n22 : spl tx (zS X) (swd 22) = false := by
                        cases q : spl tx (zS X) (swd 22) with
                        | false => rfl
                        | true => exact absurd (kw14.mpr q) h60
                      have n21 : spl tx (zS X) (swd 21) = false := by
                        cases q : spl tx (zS X) (swd 21) with
                        | false => rfl
                        | true => exact absurd (kw15.mpr q) h67
                      have s60 : sta tx (zS X) 60 = false := b2i_f h130
                      have s61 : sta tx (zS X) 61 = true := b2i_t h139
                      have s43 : sta tx (zS X) 43 = false := b2i_f h207
                      have s45 : sta tx (zS X) 45 = false := b2i_f h216
                      have s42 : sta tx (zS X) 42 = false := b2i_f h262
                      have s47 : sta tx (zS X) 47 = true := b2i_t h271
                      have hk0 : ¬ (zS X).2.2.1 = 0 := by rw [(sta_k s47).1]; decide
                      have estL : stL tx z X = (1, psh tx z 6 11 X (zT X)) := by unfold stL; rw [if_neg (nt n22), if_neg (nt n21), if_neg (fun q => absurd q.2 (by rw [b2i_t h151]; decide)), if_neg (fun q => q.elim (nt s43) (nt s45)), if_pos (Or.inr s47), if_neg (nt s42)]
                      refine p_aload_n 0 275 rfl rfl dX9_expression_274 rfl ?_
                      refine p_bipush (6) 277 rfl dX9_expression_275 rfl ?_
                      refine p_cV1v 0 0 280 rfl dX9_expression_277 (c_drops hr hcw (by omega) (l := 6) (by decide)) ml_X9_211 vl_X9_drops rfl (by decide) rfl (Nat.le_of_ble_eq_true rfl) (Nat.le_of_ble_eq_true rfl) (Nat.le_of_ble_eq_true rfl) (Nat.le_of_ble_eq_true rfl) rfl ?_
                      intro σ2 hp2
                      have h2 : RdM σ2 tx z (zS X) := h.fr hp2.2.1 rfl (by rw [hp2.2.2])
                      have hr2 : ∀ k, hR σ2 M0 k = mRef k := fun k => by rw [hp2.2.1.2.2.1]; exact hr k
                      have hdl := drp_len 6 (zK X) (zO X)
                      refine p_aload_n 0 281 rfl rfl dX9_expression_280 rfl ?_
                      refine p_aload_n 0 282 rfl rfl dX9_expression_281 rfl ?_
                      refine p_bipush (42) 284 rfl dX9_expression_282 rfl ?_
                      refine p_cV1i 287 rfl dX9_expression_284 (c_isSign h2 h0 htx (c := 42) (by decide)) ml_X9_199 vl_X9_isSign rfl (by decide) rfl (Nat.le_of_ble_eq_true rfl) (Nat.le_of_ble_eq_true rfl) rfl ?_
                      refine p_if_eq 295 290 rfl rfl dX9_expression_287 (fun h287 => ?_) (fun h287 => absurd (b2i_t h287) (by rw [s42]; decide))
                      refine p_bipush (11) 297 rfl dX9_expression_295 rfl ?_
                      refine p_cV1v 0 0 300 rfl dX9_expression_297 (c_waitsFor hr2 hp2.1 (by omega) _) ml_X9_202 vl_X9_waitsFor rfl (by decide) rfl (Nat.le_of_ble_eq_true rfl) (Nat.le_of_ble_eq_true rfl) (Nat.le_of_ble_eq_true rfl) (Nat.le_of_ble_eq_true rfl) rfl ?_
                      intro σ3 hp3
                      have h3 : RdM σ3 tx z (zS X) := h2.fr hp3.2.1 rfl (by rw [hp3.2.2])
                      have hr3 : ∀ k, hR σ3 M0 k = mRef k := fun k => by rw [hp3.2.1.2.2.1]; exact hr2 k
                      have hT3 : TpM σ3 tx z := (hT.fr hp2.2.1 rfl).fr hp3.2.1 rfl
                      have hD3 : hI σ3 M0 35 = nI (zD X) := (hp3.2.1.i (by decide)).trans ((hp2.2.1.i (by decide)).trans hg.2.1.1)
                      have hts3 : hA σ3 mTs = hA σ1 mTs := (hp3.2.1.2.2.2.2 mTs (by decide)).trans (hp2.2.1.2.2.2.2 mTs (by decide))
                      have hF4 : Fj [] [mTs] σ3 σ3 := Fj.rf
                      have ht4 : ∀ i, 1 ≤ i → i ≤ zD X → hA σ3 mTs i = b2i (zT X i) := fun i hi hj => by rw [hts3]; exact hg.2.2.1 i hi hj
                      refine p_aload_n 0 301 rfl rfl dX9_expression_300 rfl ?_
                      refine p_cV0v 0 0 304 rfl dX9_expression_301 (c_goesR hT3 h3 h0) ml_X9_165 vl_X9_goes rfl (by decide) rfl (Nat.le_of_ble_eq_true rfl) (Nat.le_of_ble_eq_true rfl) (Nat.le_of_ble_eq_true rfl) (Nat.le_of_ble_eq_true rfl) rfl ?_
                      intro σ5 hp5
                      have hps := hX.pu h0 hk0 hp2.2.1 hp3.1 hp3.2.1 hF4 ht4 hp5.1 hp5.2
                      refine p_aload_n 0 305 rfl rfl dX9_expression_304 rfl ?_
                      refine p_iconst (0) 306 rfl dX9_expression_305 rfl ?_
                      refine p_cV1v 0 0 309 rfl dX9_expression_306 (c_mOperand hps.1 (hDI.ps h0 (by decide)) hF3 (N := n) false (by rw [← he, hsn, estL]; rfl)) ml_X9_214 vl_X9_operand rfl (by decide) rfl (Nat.le_of_ble_eq_true rfl) (Nat.le_of_ble_eq_true rfl) (Nat.le_of_ble_eq_true rfl) (Nat.le_of_ble_eq_true rfl) rfl ?_
                      intro σ6 hp6
                      refine p_goto 337 rfl dX9_expression_309 ?_
                      refine p_goto 39 rfl dX9_expression_337 ?_
                      rcases hp6.1 with ⟨N', X', hn', e', h', g', d'⟩ | ⟨hf', h'⟩
                      · exact ih N' X' σ6 _ (by omega) e' h' g' d' ((hF.tr hps.2).tr hp6.2)
                      · exact l_ex39f h' hf' (kk σ6 _ _ h' ((hF.tr hps.2).tr hp6.2))
                · have n22 : spl tx (zS X) (swd 22) = false := by
                    cases q : spl tx (zS X) (swd 22) with
                    | false => rfl
                    | true => exact absurd (kw14.mpr q) h60
                  have n21 : spl tx (zS X) (swd 21) = false := by
                    cases q : spl tx (zS X) (swd 21) with
                    | false => rfl
                    | true => exact absurd (kw15.mpr q) h67
                  have s60 : sta tx (zS X) 60 = false := b2i_f h130
                  have s61 : sta tx (zS X) 61 = true := b2i_t h139
                  have s43 : sta tx (zS X) 43 = false := b2i_f h207
                  have s45 : sta tx (zS X) 45 = true := b2i_t h216
                  have hk0 : ¬ (zS X).2.2.1 = 0 := by rw [(sta_k s45).1]; decide
                  have estL : stL tx z X = (1, psh tx z 5 9 X (zT X)) := by unfold stL; rw [if_neg (nt n22), if_neg (nt n21), if_neg (fun q => absurd q.2 (by rw [b2i_t h151]; decide)), if_pos (Or.inr s45), if_neg (nt s43)]
                  refine p_aload_n 0 220 rfl rfl dX9_expression_219 rfl ?_
                  refine p_iconst (5) 221 rfl dX9_expression_220 rfl ?_
                  refine p_cV1v 0 0 224 rfl dX9_expression_221 (c_drops hr hcw (by omega) (l := 5) (by decide)) ml_X9_211 vl_X9_drops rfl (by decide) rfl (Nat.le_of_ble_eq_true rfl) (Nat.le_of_ble_eq_true rfl) (Nat.le_of_ble_eq_true rfl) (Nat.le_of_ble_eq_true rfl) rfl ?_
                  intro σ2 hp2
                  have h2 : RdM σ2 tx z (zS X) := h.fr hp2.2.1 rfl (by rw [hp2.2.2])
                  have hr2 : ∀ k, hR σ2 M0 k = mRef k := fun k => by rw [hp2.2.1.2.2.1]; exact hr k
                  have hdl := drp_len 5 (zK X) (zO X)
                  refine p_aload_n 0 225 rfl rfl dX9_expression_224 rfl ?_
                  refine p_aload_n 0 226 rfl rfl dX9_expression_225 rfl ?_
                  refine p_bipush (43) 228 rfl dX9_expression_226 rfl ?_
                  refine p_cV1i 231 rfl dX9_expression_228 (c_isSign h2 h0 htx (c := 43) (by decide)) ml_X9_199 vl_X9_isSign rfl (by decide) rfl (Nat.le_of_ble_eq_true rfl) (Nat.le_of_ble_eq_true rfl) rfl ?_
                  refine p_if_eq 239 234 rfl rfl dX9_expression_231 (fun h231 => ?_) (fun h231 => absurd (b2i_t h231) (by rw [s43]; decide))
                  refine p_bipush (9) 241 rfl dX9_expression_239 rfl ?_
                  refine p_cV1v 0 0 244 rfl dX9_expression_241 (c_waitsFor hr2 hp2.1 (by omega) _) ml_X9_202 vl_X9_waitsFor rfl (by decide) rfl (Nat.le_of_ble_eq_true rfl) (Nat.le_of_ble_eq_true rfl) (Nat.le_of_ble_eq_true rfl) (Nat.le_of_ble_eq_true rfl) rfl ?_
                  intro σ3 hp3
                  have h3 : RdM σ3 tx z (zS X) := h2.fr hp3.2.1 rfl (by rw [hp3.2.2])
                  have hr3 : ∀ k, hR σ3 M0 k = mRef k := fun k => by rw [hp3.2.1.2.2.1]; exact hr2 k
                  have hT3 : TpM σ3 tx z := (hT.fr hp2.2.1 rfl).fr hp3.2.1 rfl
                  have hD3 : hI σ3 M0 35 = nI (zD X) := (hp3.2.1.i (by decide)).trans ((hp2.2.1.i (by decide)).trans hg.2.1.1)
                  have hts3 : hA σ3 mTs = hA σ1 mTs := (hp3.2.1.2.2.2.2 mTs (by decide)).trans (hp2.2.1.2.2.2.2 mTs (by decide))
                  have hF4 : Fj [] [mTs] σ3 σ3 := Fj.rf
                  have ht4 : ∀ i, 1 ≤ i → i ≤ zD X → hA σ3 mTs i = b2i (zT X i) := fun i hi hj => by rw [hts3]; exact hg.2.2.1 i hi hj
                  refine p_aload_n 0 245 rfl rfl dX9_expression_244 rfl ?_
                  refine p_cV0v 0 0 248 rfl dX9_expression_245 (c_goesR hT3 h3 h0) ml_X9_165 vl_X9_goes rfl (by decide) rfl (Nat.le_of_ble_eq_true rfl) (Nat.le_of_ble_eq_true rfl) (Nat.le_of_ble_eq_true rfl) (Nat.le_of_ble_eq_true rfl) rfl ?_
                  intro σ5 hp5
                  have hps := hX.pu h0 hk0 hp2.2.1 hp3.1 hp3.2.1 hF4 ht4 hp5.1 hp5.2
                  refine p_aload_n 0 249 rfl rfl dX9_expression_248 rfl ?_
                  refine p_iconst (0) 250 rfl dX9_expression_249 rfl ?_
                  refine p_cV1v 0 0 253 rfl dX9_expression_250 (c_mOperand hps.1 (hDI.ps h0 (by decide)) hF3 (N := n) false (by rw [← he, hsn, estL]; rfl)) ml_X9_214 vl_X9_operand rfl (by decide) rfl (Nat.le_of_ble_eq_true rfl) (Nat.le_of_ble_eq_true rfl) (Nat.le_of_ble_eq_true rfl) (Nat.le_of_ble_eq_true rfl) rfl ?_
                  intro σ6 hp6
                  refine p_goto 337 rfl dX9_expression_253 ?_
                  refine p_goto 39 rfl dX9_expression_337 ?_
                  rcases hp6.1 with ⟨N', X', hn', e', h', g', d'⟩ | ⟨hf', h'⟩
                  · exact ih N' X' σ6 _ (by omega) e' h' g' d' ((hF.tr hps.2).tr hp6.2)
                  · exact l_ex39f h' hf' (kk σ6 _ _ h' ((hF.tr hps.2).tr hp6.2))
            · have n22 : spl tx (zS X) (swd 22) = false := by
                cases q : spl tx (zS X) (swd 22) with
                | false => rfl
                | true => exact absurd (kw14.mpr q) h60
              have n21 : spl tx (zS X) (swd 21) = false := by
                cases q : spl tx (zS X) (swd 21) with
                | false => rfl
                | true => exact absurd (kw15.mpr q) h67
              have s60 : sta tx (zS X) 60 = false := b2i_f h130
              have s61 : sta tx (zS X) 61 = true := b2i_t h139
              have hk0 : ¬ (zS X).2.2.1 = 0 := by rw [(sta_k s61).1]; decide
              have estL : stL tx z X = (1, psh tx z 4 7 X (upB (zT X) (zD X) true)) := by unfold stL; rw [if_neg (nt n22), if_neg (nt n21), if_pos ⟨Or.inr s61, b2i_f h151⟩, if_neg (nt s60)]
              refine p_aload_n 0 155 rfl rfl dX9_expression_154 rfl ?_
              refine p_iconst (4) 156 rfl dX9_expression_155 rfl ?_
              refine p_cV1v 0 0 159 rfl dX9_expression_156 (c_drops hr hcw (by omega) (l := 4) (by decide)) ml_X9_211 vl_X9_drops rfl (by decide) rfl (Nat.le_of_ble_eq_true rfl) (Nat.le_of_ble_eq_true rfl) (Nat.le_of_ble_eq_true rfl) (Nat.le_of_ble_eq_true rfl) rfl ?_
              intro σ2 hp2
              have h2 : RdM σ2 tx z (zS X) := h.fr hp2.2.1 rfl (by rw [hp2.2.2])
              have hr2 : ∀ k, hR σ2 M0 k = mRef k := fun k => by rw [hp2.2.1.2.2.1]; exact hr k
              have hdl := drp_len 4 (zK X) (zO X)
              refine p_aload_n 0 160 rfl rfl dX9_expression_159 rfl ?_
              refine p_aload_n 0 161 rfl rfl dX9_expression_160 rfl ?_
              refine p_bipush (60) 163 rfl dX9_expression_161 rfl ?_
              refine p_cV1i 166 rfl dX9_expression_163 (c_isSign h2 h0 htx (c := 60) (by decide)) ml_X9_199 vl_X9_isSign rfl (by decide) rfl (Nat.le_of_ble_eq_true rfl) (Nat.le_of_ble_eq_true rfl) rfl ?_
              refine p_if_eq 174 169 rfl rfl dX9_expression_166 (fun h166 => ?_) (fun h166 => absurd (b2i_t h166) (by rw [s60]; decide))
              refine p_bipush (7) 176 rfl dX9_expression_174 rfl ?_
              refine p_cV1v 0 0 179 rfl dX9_expression_176 (c_waitsFor hr2 hp2.1 (by omega) _) ml_X9_202 vl_X9_waitsFor rfl (by decide) rfl (Nat.le_of_ble_eq_true rfl) (Nat.le_of_ble_eq_true rfl) (Nat.le_of_ble_eq_true rfl) (Nat.le_of_ble_eq_true rfl) rfl ?_
              intro σ3 hp3
              have h3 : RdM σ3 tx z (zS X) := h2.fr hp3.2.1 rfl (by rw [hp3.2.2])
              have hr3 : ∀ k, hR σ3 M0 k = mRef k := fun k => by rw [hp3.2.1.2.2.1]; exact hr2 k
              have hT3 : TpM σ3 tx z := (hT.fr hp2.2.1 rfl).fr hp3.2.1 rfl
              have hD3 : hI σ3 M0 35 = nI (zD X) := (hp3.2.1.i (by decide)).trans ((hp2.2.1.i (by decide)).trans hg.2.1.1)
              have hts3 : hA σ3 mTs = hA σ1 mTs := (hp3.2.1.2.2.2.2 mTs (by decide)).trans (hp2.2.1.2.2.2.2 mTs (by decide))
              refine p_aload_n 0 180 rfl rfl dX9_expression_179 rfl ?_
              refine p_getR 9 43 183 rfl dX9_expression_180 fl_X9_62 rfl rfl (show hR _ M0 43 = mTs from hr3 43) (by decide) ?_
              refine p_aload_n 0 184 rfl rfl dX9_expression_183 rfl ?_
              refine p_getIE 9 35 187 rfl dX9_expression_184 fl_X9_196 rfl rfl hD3 ?_
              refine p_iconst (1) 188 rfl dX9_expression_187 rfl ?_
              refine p_zastE 189 rfl dX9_expression_188 (i := zD X) rfl (by show _ < 9; have := hg.2.1.2; omega) (Or.inr rfl) ?_
              have hF4 : Fj [] [mTs] σ3 (sA σ3 mTs (zD X) 1) := Fj.sA (by simp)
              have ht4 : ∀ i, 1 ≤ i → i ≤ zD X → hA (sA σ3 mTs (zD X) 1) mTs i = b2i (upB (zT X) (zD X) true i) := fun i hi hj => by
                rw [sA_s, hts3]
                show _ = b2i (if i = zD X then true else zT X i)
                by_cases e : i = zD X
                · rw [e, pk_us, if_pos rfl]; rfl
                · rw [pk_un e, if_neg e]; exact hg.2.2.1 i hi hj
              have h4 : RdM (sA σ3 mTs (zD X) 1) tx z (zS X) := h3.fr hF4 rfl rfl
              have hT4 : TpM (sA σ3 mTs (zD X) 1) tx z := hT3.fr hF4 rfl
              refine p_aload_n 0 190 rfl rfl dX9_expression_189 rfl ?_
              refine p_cV0v 0 0 193 rfl dX9_expression_190 (c_goesR hT4 h4 h0) ml_X9_165 vl_X9_goes rfl (by decide) rfl (Nat.le_of_ble_eq_true rfl) (Nat.le_of_ble_eq_true rfl) (Nat.le_of_ble_eq_true rfl) (Nat.le_of_ble_eq_true rfl) rfl ?_
              intro σ5 hp5
              have hps := hX.pu h0 hk0 hp2.2.1 hp3.1 hp3.2.1 hF4 ht4 hp5.1 hp5.2
              refine p_aload_n 0 194 rfl rfl dX9_expression_193 rfl ?_
              refine p_iconst (0) 195 rfl dX9_expression_194 rfl ?_
              refine p_cV1v 0 0 198 rfl dX9_expression_195 (c_mOperand hps.1 (hDI.ps h0 (by decide)) hF3 (N := n) false (by rw [← he, hsn, estL]; rfl)) ml_X9_214 vl_X9_operand rfl (by decide) rfl (Nat.le_of_ble_eq_true rfl) (Nat.le_of_ble_eq_true rfl) (Nat.le_of_ble_eq_true rfl) (Nat.le_of_ble_eq_true rfl) rfl ?_
              intro σ6 hp6
              refine p_goto 337 rfl dX9_expression_198 ?_
              refine p_goto 39 rfl dX9_expression_337 ?_
              rcases hp6.1 with ⟨N', X', hn', e', h', g', d'⟩ | ⟨hf', h'⟩
              · exact ih N' X' σ6 _ (by omega) e' h' g' d' ((hF.tr hps.2).tr hp6.2)
              · exact l_ex39f h' hf' (kk σ6 _ _ h' ((hF.tr hps.2).tr hp6.2))
      · have n22 : spl tx (zS X) (swd 22) = false := by
          cases q : spl tx (zS X) (swd 22) with
          | false => rfl
          | true => exact absurd (kw14.mpr q) h60
        have hor : spl tx (zS X) (swd 21) = true := kw15.mp h67
        have hk0 : ¬ (zS X).2.2.1 = 0 := by rw [spl_k hor]; decide
        have estL : stL tx z X = (0, psh tx z 1 5 X (upB (zT X) (zD X) false)) := by unfold stL; rw [if_neg (nt n22), if_pos hor]
        refine p_aload_n 0 71 rfl rfl dX9_expression_70 rfl ?_
        refine p_iload 4 73 rfl dX9_expression_71 rfl ?_
        refine p_bipush (14) 75 rfl dX9_expression_73 rfl ?_
        refine p_icmp_ne 82 78 rfl rfl dX9_expression_75 (fun h75 => ?_) (fun h75 => absurd h75 h60)
        refine p_iconst (1) 83 rfl dX9_expression_82 rfl ?_
        refine p_cV1v 0 0 86 rfl dX9_expression_83 (c_drops hr hcw (by omega) (l := 1) (by decide)) ml_X9_211 vl_X9_drops rfl (by decide) rfl (Nat.le_of_ble_eq_true rfl) (Nat.le_of_ble_eq_true rfl) (Nat.le_of_ble_eq_true rfl) (Nat.le_of_ble_eq_true rfl) rfl ?_
        intro σ2 hp2
        have h2 : RdM σ2 tx z (zS X) := h.fr hp2.2.1 rfl (by rw [hp2.2.2])
        have hr2 : ∀ k, hR σ2 M0 k = mRef k := fun k => by rw [hp2.2.1.2.2.1]; exact hr k
        have hdl := drp_len 1 (zK X) (zO X)
        have hdl2 := drp_len 2 (zK X) (zO X)
        refine p_aload_n 0 87 rfl rfl dX9_expression_86 rfl ?_
        refine p_iload 4 89 rfl dX9_expression_87 rfl ?_
        refine p_bipush (14) 91 rfl dX9_expression_89 rfl ?_
        refine p_icmp_ne 98 94 rfl rfl dX9_expression_91 (fun h91 => ?_) (fun h91 => absurd h91 h60)
        refine p_iconst (5) 99 rfl dX9_expression_98 rfl ?_
        refine p_cV1v 0 0 102 rfl dX9_expression_99 (c_waitsFor hr2 hp2.1 (by omega) _) ml_X9_202 vl_X9_waitsFor rfl (by decide) rfl (Nat.le_of_ble_eq_true rfl) (Nat.le_of_ble_eq_true rfl) (Nat.le_of_ble_eq_true rfl) (Nat.le_of_ble_eq_true rfl) rfl ?_
        intro σ3 hp3
        have h3 : RdM σ3 tx z (zS X) := h2.fr hp3.2.1 rfl (by rw [hp3.2.2])
        have hr3 : ∀ k, hR σ3 M0 k = mRef k := fun k => by rw [hp3.2.1.2.2.1]; exact hr2 k
        have hT3 : TpM σ3 tx z := (hT.fr hp2.2.1 rfl).fr hp3.2.1 rfl
        have hD3 : hI σ3 M0 35 = nI (zD X) := (hp3.2.1.i (by decide)).trans ((hp2.2.1.i (by decide)).trans hg.2.1.1)
        have hts3 : hA σ3 mTs = hA σ1 mTs := (hp3.2.1.2.2.2.2 mTs (by decide)).trans (hp2.2.1.2.2.2.2 mTs (by decide))
        refine p_aload_n 0 103 rfl rfl dX9_expression_102 rfl ?_
        refine p_getR 9 43 106 rfl dX9_expression_103 fl_X9_62 rfl rfl (show hR _ M0 43 = mTs from hr3 43) (by decide) ?_
        refine p_aload_n 0 107 rfl rfl dX9_expression_106 rfl ?_
        refine p_getIE 9 35 110 rfl dX9_expression_107 fl_X9_196 rfl rfl hD3 ?_
        refine p_iconst (0) 111 rfl dX9_expression_110 rfl ?_
        refine p_zastE 112 rfl dX9_expression_111 (i := zD X) rfl (by show _ < 9; have := hg.2.1.2; omega) (Or.inl rfl) ?_
        have hF4 : Fj [] [mTs] σ3 (sA σ3 mTs (zD X) 0) := Fj.sA (by simp)
        have ht4 : ∀ i, 1 ≤ i → i ≤ zD X → hA (sA σ3 mTs (zD X) 0) mTs i = b2i (upB (zT X) (zD X) false i) := fun i hi hj => by
          rw [sA_s, hts3]
          show _ = b2i (if i = zD X then false else zT X i)
          by_cases e : i = zD X
          · rw [e, pk_us, if_pos rfl]; rfl
          · rw [pk_un e, if_neg e]; exact hg.2.2.1 i hi hj
        have h4 : RdM (sA σ3 mTs (zD X) 0) tx z (zS X) := h3.fr hF4 rfl rfl
        have hT4 : TpM (sA σ3 mTs (zD X) 0) tx z := hT3.fr hF4 rfl
        refine p_aload_n 0 113 rfl rfl dX9_expression_112 rfl ?_
        refine p_cV0v 0 0 116 rfl dX9_expression_113 (c_goesR hT4 h4 h0) ml_X9_165 vl_X9_goes rfl (by decide) rfl (Nat.le_of_ble_eq_true rfl) (Nat.le_of_ble_eq_true rfl) (Nat.le_of_ble_eq_true rfl) (Nat.le_of_ble_eq_true rfl) rfl ?_
        intro σ5 hp5
        have hps := hX.pu h0 hk0 hp2.2.1 hp3.1 hp3.2.1 hF4 ht4 hp5.1 hp5.2
        refine p_aload_n 0 117 rfl rfl dX9_expression_116 rfl ?_
        refine p_iconst (1) 118 rfl dX9_expression_117 rfl ?_
        refine p_cV1v 0 0 121 rfl dX9_expression_118 (c_mOperand hps.1 (hDI.ps h0 (by decide)) hF3 (N := n) true (by rw [← he, hsn, estL]; rfl)) ml_X9_214 vl_X9_operand rfl (by decide) rfl (Nat.le_of_ble_eq_true rfl) (Nat.le_of_ble_eq_true rfl) (Nat.le_of_ble_eq_true rfl) (Nat.le_of_ble_eq_true rfl) rfl ?_
        intro σ6 hp6
        refine p_goto 337 rfl dX9_expression_121 ?_
        refine p_goto 39 rfl dX9_expression_337 ?_
        rcases hp6.1 with ⟨N', X', hn', e', h', g', d'⟩ | ⟨hf', h'⟩
        · exact ih N' X' σ6 _ (by omega) e' h' g' d' ((hF.tr hps.2).tr hp6.2)
        · exact l_ex39f h' hf' (kk σ6 _ _ h' ((hF.tr hps.2).tr hp6.2))
end Caa
