/-! ===== the reference: operands, rules ===== -/
section Ca9
variable {Γ : Gm} {σ : PH} {tx : Nat → Nat} {z : Nat} {w : Bool} {X : MX}
set_option maxRecDepth 4000 in
theorem l_op4g (hX : RX σ tx z w X) (h0 : (zS X).1 = 0) {x1 x2 x4 : Option Value} {Q : PO → PH → Prop} (kg : ∀ σ3, RX σ3 tx z w (prM tx z w X) → Fj [14, 15, 18, 19, 20, 21, 22, 23, 31, 34, 35] [rCd, mWt, mTs] σ σ3 → Q (.inl none) σ3) : Ok Γ 9 0 0 mX9_operand 4 [some (.ref M0), x1, x2, some (.int 0), x4] [] σ Q := by
  refine p_iload_n 3 5 rfl rfl dX9_operand_4 rfl ?_
  refine p_if_eq 120 8 rfl rfl dX9_operand_5 (fun h5 => ?_) (fun h5 => absurd rfl h5)
  refine p_aload_n 0 121 rfl rfl dX9_operand_120 rfl ?_
  refine p_cV0v 0 0 124 rfl dX9_operand_121 (c_part hX h0) ml_X9_208 vl_X9_part rfl (by decide) rfl (Nat.le_of_ble_eq_true rfl) (Nat.le_of_ble_eq_true rfl) (Nat.le_of_ble_eq_true rfl) (Nat.le_of_ble_eq_true rfl) rfl ?_
  intro σ3 hp3
  exact p_vret dX9_operand_124 rfl (kg σ3 hp3.1 hp3.2)
set_option maxRecDepth 4000 in
theorem l_op4f (hX : RX σ tx z w X) (hf : ¬ (zS X).1 = 0) {x1 x2 x4 : Option Value} {Q : PO → PH → Prop} (kf : Q (.inl none) σ) : Ok Γ 9 0 0 mX9_operand 4 [some (.ref M0), x1, x2, some (.int 0), x4] [] σ Q := by
  refine p_iload_n 3 5 rfl rfl dX9_operand_4 rfl ?_
  refine p_if_eq 120 8 rfl rfl dX9_operand_5 (fun h5 => ?_) (fun h5 => absurd rfl h5)
  refine p_aload_n 0 121 rfl rfl dX9_operand_120 rfl ?_
  refine p_cV0v 0 0 124 rfl dX9_operand_121 (c_partF hX hf) ml_X9_208 vl_X9_part rfl (by decide) rfl (Nat.le_of_ble_eq_true rfl) (Nat.le_of_ble_eq_true rfl) (Nat.le_of_ble_eq_true rfl) (Nat.le_of_ble_eq_true rfl) rfl ?_
  intro σ3 hp3
  subst hp3
  exact p_vret dX9_operand_124 rfl kf
set_option maxRecDepth 8000 in
theorem l_op75 (hX : RX σ tx z w X) {y1 y2 : Int32} {x4 : Option Value} {Q : PO → PH → Prop} (kp : (zS X).1 = 0 → sta tx (zS X) 40 = true → ∀ σ3 x4, RX σ3 tx z w (dee tx z (adv tx z (zS X), zO X, 14 :: zK X, zD X, zT X)) → Fj [14, 15, 18, 19, 20, 21, 22, 23, 31, 34, 35] [rCd, mWt, mTs] σ σ3 → Ok Γ 9 0 0 mX9_operand 4 [some (.ref M0), some (.int y1), some (.int 1), some (.int 1), x4] [] σ3 Q) (kz : (¬ (zS X).1 = 0 ∨ ((zS X).1 = 0 ∧ sta tx (zS X) 40 = false)) → Ok Γ 9 0 0 mX9_operand 4 [some (.ref M0), some (.int y1), some (.int y2), some (.int 0), x4] [] σ Q) : Ok Γ 9 0 0 mX9_operand 75 [some (.ref M0), some (.int y1), some (.int y2), some (.int 1), x4] [] σ Q := by
  have hT := hX.1
  have h := hX.2.1
  have hz7 := hT.2.1
  have htx := hT.2.2.1
  have hr := hT.1
  refine p_aload_n 0 76 rfl rfl dX9_operand_75 rfl ?_
  refine p_cV0i 79 rfl dX9_operand_76 (c_isGood h) ml_X9_161 vl_X9_isGood rfl (by decide) rfl (Nat.le_of_ble_eq_true rfl) (Nat.le_of_ble_eq_true rfl) rfl ?_
  refine p_if_eq 95 82 rfl rfl dX9_operand_79 (fun h79 => ?_) (fun h79 => ?_)
  · refine p_iconst (0) 96 rfl dX9_operand_95 rfl ?_
    refine p_ist_n3 97 rfl rfl dX9_operand_96 (Nat.le_of_ble_eq_true rfl) rfl ?_
    refine p_iload_n 3 98 rfl rfl dX9_operand_97 rfl ?_
    refine p_if_eq 117 101 rfl rfl dX9_operand_98 (fun h98 => ?_) (fun h98 => absurd rfl h98)
    refine p_goto 4 rfl dX9_operand_117 ?_
    exact kz (Or.inl (by have := b2i_f h79; simpa using this))
  · have h0 : (zS X).1 = 0 := by have := b2i_t h79; simpa using this
    have hg := hX.2.2.2.1 h0
    have ht := (h.2.2.2.1 h0).1
    have ho := (h.2.2.2.1 h0).2
    have hcw := hg.1
    have hb := hg.2.2.2.b hz7 ho
    have hbd := hg.2.2.2
    refine p_aload_n 0 83 rfl rfl dX9_operand_82 rfl ?_
    refine p_bipush (40) 85 rfl dX9_operand_83 rfl ?_
    refine p_cV1i 88 rfl dX9_operand_85 (c_isSign h h0 htx (c := 40) (by decide)) ml_X9_199 vl_X9_isSign rfl (by decide) rfl (Nat.le_of_ble_eq_true rfl) (Nat.le_of_ble_eq_true rfl) rfl ?_
    refine p_if_eq 95 91 rfl rfl dX9_operand_88 (fun h88 => ?_) (fun h88 => ?_)
    · refine p_iconst (0) 96 rfl dX9_operand_95 rfl ?_
      refine p_ist_n3 97 rfl rfl dX9_operand_96 (Nat.le_of_ble_eq_true rfl) rfl ?_
      refine p_iload_n 3 98 rfl rfl dX9_operand_97 rfl ?_
      refine p_if_eq 117 101 rfl rfl dX9_operand_98 (fun h98 => ?_) (fun h98 => absurd rfl h98)
      refine p_goto 4 rfl dX9_operand_117 ?_
      exact kz (Or.inr ⟨h0, b2i_f h88⟩)
    · refine p_iconst (1) 92 rfl dX9_operand_91 rfl ?_
      refine p_goto 96 rfl dX9_operand_92 ?_
      refine p_ist_n3 97 rfl rfl dX9_operand_96 (Nat.le_of_ble_eq_true rfl) rfl ?_
      refine p_iload_n 3 98 rfl rfl dX9_operand_97 rfl ?_
      refine p_if_eq 117 101 rfl rfl dX9_operand_98 (fun h98 => absurd h98 (by decide)) (fun h98 => ?_)
      refine p_aload_n 0 102 rfl rfl dX9_operand_101 rfl ?_
      refine p_bipush (14) 104 rfl dX9_operand_102 rfl ?_
      refine p_cV1v 0 0 107 rfl dX9_operand_104 (c_waitsFor hr hcw (by omega) 14) ml_X9_202 vl_X9_waitsFor rfl (by decide) rfl (Nat.le_of_ble_eq_true rfl) (Nat.le_of_ble_eq_true rfl) (Nat.le_of_ble_eq_true rfl) (Nat.le_of_ble_eq_true rfl) rfl ?_
      intro σ2 hp2
      refine p_aload_n 0 108 rfl rfl dX9_operand_107 rfl ?_
      refine p_cV0v 0 0 111 rfl dX9_operand_108 (c_goesR (hT.fr hp2.2.1 rfl) (h.fr hp2.2.1 rfl (by rw [hp2.2.2])) h0) ml_X9_165 vl_X9_goes rfl (by decide) rfl (Nat.le_of_ble_eq_true rfl) (Nat.le_of_ble_eq_true rfl) (Nat.le_of_ble_eq_true rfl) (Nat.le_of_ble_eq_true rfl) rfl ?_
      intro σ3 hp3
      have hps := hX.push h0 (by rw [(sta_k (b2i_t h88)).1]; decide) hp2.1 hp2.2.1 hp3.1 hp3.2
      refine p_aload_n 0 112 rfl rfl dX9_operand_111 rfl ?_
      refine p_cV0v 0 0 115 rfl dX9_operand_112 (c_deeper hps.1 (by show (adv tx z (zS X)).1 = 0; rw [adv_f]; exact h0)) ml_X9_205 vl_X9_deeper rfl (by decide) rfl (Nat.le_of_ble_eq_true rfl) (Nat.le_of_ble_eq_true rfl) (Nat.le_of_ble_eq_true rfl) (Nat.le_of_ble_eq_true rfl) rfl ?_
      intro σ5 hp5
      refine p_iconst (1) 116 rfl dX9_operand_115 rfl ?_
      refine p_ist_n2 117 rfl rfl dX9_operand_116 (Nat.le_of_ble_eq_true rfl) rfl ?_
      refine p_goto 4 rfl dX9_operand_117 ?_
      exact kp h0 (b2i_t h88) σ5 _ hp5.1 ((hps.2).tr hp5.2)
/-- behind the nots: the rest of a step -/
theorem l_op75s {N : Nat} {σ0 : PH} (hX : RX σ tx z w X) (hDI : DI X) (hF : Fj [14, 15, 18, 19, 20, 21, 22, 23, 31, 34, 35] [rCd, mWt, mTs] σ0 σ) {y1 y2 : Int32} {x4 : Option Value} {Q : PO → PH → Prop} {F : MY} (hF3 : F.1 = 3) (he : rnN tx z w N (stO1 tx z w X) = F)
    (ih : ∀ σ3 x4 X3, rnN tx z w N (0, X3) = F → RX σ3 tx z w X3 → DI X3 → Fj [14, 15, 18, 19, 20, 21, 22, 23, 31, 34, 35] [rCd, mWt, mTs] σ0 σ3 → Ok Γ 9 0 0 mX9_operand 4 [some (.ref M0), some (.int y1), some (.int 1), some (.int 1), x4] [] σ3 Q)
    (kq : ∀ σ3, OPost tx z w (N + 1) F σ3 → Fj [14, 15, 18, 19, 20, 21, 22, 23, 31, 34, 35] [rCd, mWt, mTs] σ0 σ3 → Q (.inl none) σ3) : Ok Γ 9 0 0 mX9_operand 75 [some (.ref M0), some (.int y1), some (.int y2), some (.int 1), x4] [] σ Q := by
  refine l_op75 hX (fun h0 hs σ3 x4 h3 hF3' => ?_) (fun hz => ?_)
  · have e : stO1 tx z w X = (0, dee tx z (adv tx z (zS X), zO X, 14 :: zK X, zD X, zT X)) := by unfold stO1; rw [if_neg (fun q => q h0), if_pos hs]
    rw [e] at he
    exact ih σ3 x4 _ he h3 (hDI.de h0 (by rw [adv_f]; exact h0)) (hF.tr hF3')
  · rcases hz with hf | ⟨h0, hs⟩
    · have e : stO1 tx z w X = (3, X) := if_pos hf
      rw [e, rnN_3] at he
      refine l_op4f hX hf (kq σ (Or.inr ?_) hF)
      rw [← he]; exact ⟨hf, hX⟩
    · have e : stO1 tx z w X = (2, prM tx z w X) := by unfold stO1; rw [if_neg (fun q => q h0), if_neg (nt hs)]
      rw [e] at he
      refine l_op4g hX h0 (fun σ3 h3 hF3' => kq σ3 ?_ (hF.tr hF3'))
      rcases Classical.em ((zS (prM tx z w X)).1 = 0) with q | q
      · exact Or.inl ⟨N, _, Nat.lt_succ_self N, he, h3, q, hDI.pr h0⟩
      · have := rn_flt (tx := tx) (z := z) (w := w) (m := 2) (N := N) q (by decide) (by rw [he]; exact hF3)
        rw [this] at he
        refine Or.inr ?_
        rw [← he]; exact ⟨q, h3⟩
theorem OPost.mono {N N' : Nat} {F : MY} {σ' : PH} (h : OPost tx z w N F σ') (hn : N ≤ N') : OPost tx z w N' F σ' := by
  rcases h with ⟨M, X', h1, h2⟩ | h
  · exact Or.inl ⟨M, X', by omega, h2⟩
  · exact Or.inr h
set_option maxRecDepth 8000 in
theorem l_opd {F : MY} (hF3 : F.1 = 3) {N0 : Nat} {y1 : Int32} : ∀ (N : Nat) (nb : Bool) (X : MX) (σ1 : PH) (x4 : Option Value), N ≤ N0 → rnN tx z w N ((if nb = true then 0 else 1), X) = F → RX σ1 tx z w X → DI X → Fj [14, 15, 18, 19, 20, 21, 22, 23, 31, 34, 35] [rCd, mWt, mTs] σ σ1 → Ok Γ 9 0 0 mX9_operand 4 [some (.ref M0), some (.int y1), some (.int (b2i nb)), some (.int 1), x4] [] σ1 (rV (fun σ' => OPost tx z w N0 F σ' ∧ Fj [14, 15, 18, 19, 20, 21, 22, 23, 31, 34, 35] [rCd, mWt, mTs] σ σ')) := by
  intro N
  induction N with
  | zero =>
    intro nb X σ1 x4 hn he hX hDI hF
    exact absurd hF3 (by rw [← he]; cases nb; exact (show ¬ (1 : Nat) = 3 by decide); exact (show ¬ (0 : Nat) = 3 by decide))
  | succ N ih =>
    intro nb X σ1 x4 hn he hX hDI hF
    have hT := hX.1
    have h := hX.2.1
    have hz7 := hT.2.1
    have htx := hT.2.2.1
    have hr := hT.1
    cases nb with
    | true =>
      have he : rnN tx z w (N + 1) (0, X) = F := he
      refine p_iload_n 3 5 rfl rfl dX9_operand_4 rfl ?_
      refine p_if_eq 120 8 rfl rfl dX9_operand_5 (fun h5 => absurd h5 (by decide)) (fun h5 => ?_)
      refine p_aload_n 0 9 rfl rfl dX9_operand_8 rfl ?_
      refine p_cV0i 12 rfl dX9_operand_9 (c_isGood h) ml_X9_161 vl_X9_isGood rfl (by decide) rfl (Nat.le_of_ble_eq_true rfl) (Nat.le_of_ble_eq_true rfl) rfl ?_
      refine p_if_eq 120 15 rfl rfl dX9_operand_12 (fun h12 => ?_) (fun h12 => ?_)
      · have hf : ¬ (zS X).1 = 0 := by have := b2i_f h12; simpa using this
        have := rn_flt (tx := tx) (z := z) (w := w) (m := 0) (N := N + 1) hf (by decide) (by rw [he]; exact hF3)
        rw [this] at he
        refine p_aload_n 0 121 rfl rfl dX9_operand_120 rfl ?_
        refine p_cV0v 0 0 124 rfl dX9_operand_121 (c_partF hX hf) ml_X9_208 vl_X9_part rfl (by decide) rfl (Nat.le_of_ble_eq_true rfl) (Nat.le_of_ble_eq_true rfl) (Nat.le_of_ble_eq_true rfl) (Nat.le_of_ble_eq_true rfl) rfl ?_
        intro σ3 hp3
        subst hp3
        exact p_vret dX9_operand_124 rfl ⟨rfl, Or.inr (by rw [← he]; exact ⟨hf, hX⟩), hF⟩
      · have h0 : (zS X).1 = 0 := by have := b2i_t h12; simpa using this
        refine p_iconst (0) 16 rfl dX9_operand_15 rfl ?_
        refine p_ist_4 18 rfl dX9_operand_16 (Nat.le_of_ble_eq_true rfl) rfl ?_
        have hs0 : stp tx z w (0, X) = stO1 tx z w (ntX tx z X) := stp_0 h0
        have he2 : rnN tx z w N (stO1 tx z w (ntX tx z X)) = F := by rw [← hs0]; exact he
        refine Ok.sub (l_nts (X0 := X) (fun σ2 x4 h2 hF2 => ?_) 6 0 X σ1 (by omega) hX h0 rfl (Nat.zero_add _).symm rfl rfl rfl rfl hF) (by decide) (by decide) (by decide)
        refine Ok.sub (l_op75s (σ0 := σ) h2 (hDI.nt h0) hF2 hF3 he2 (fun σ3 x4 X3 e3 h3 hd3 hf3 => ?_) (fun σ3 hq hf3 => ⟨rfl, hq.mono (by omega), hf3⟩)) (by decide) (by decide) (by decide)
        exact ih true X3 σ3 x4 (by omega) e3 h3 hd3 hf3
    | false =>
      have he : rnN tx z w (N + 1) (1, X) = F := he
      refine p_iload_n 3 5 rfl rfl dX9_operand_4 rfl ?_
      refine p_if_eq 120 8 rfl rfl dX9_operand_5 (fun h5 => absurd h5 (by decide)) (fun h5 => ?_)
      refine p_aload_n 0 9 rfl rfl dX9_operand_8 rfl ?_
      refine p_cV0i 12 rfl dX9_operand_9 (c_isGood h) ml_X9_161 vl_X9_isGood rfl (by decide) rfl (Nat.le_of_ble_eq_true rfl) (Nat.le_of_ble_eq_true rfl) rfl ?_
      refine p_if_eq 120 15 rfl rfl dX9_operand_12 (fun h12 => ?_) (fun h12 => ?_)
      · have hf : ¬ (zS X).1 = 0 := by have := b2i_f h12; simpa using this
        have := rn_flt (tx := tx) (z := z) (w := w) (m := 1) (N := N + 1) hf (by decide) (by rw [he]; exact hF3)
        rw [this] at he
        refine p_aload_n 0 121 rfl rfl dX9_operand_120 rfl ?_
        refine p_cV0v 0 0 124 rfl dX9_operand_121 (c_partF hX hf) ml_X9_208 vl_X9_part rfl (by decide) rfl (Nat.le_of_ble_eq_true rfl) (Nat.le_of_ble_eq_true rfl) (Nat.le_of_ble_eq_true rfl) (Nat.le_of_ble_eq_true rfl) rfl ?_
        intro σ3 hp3
        subst hp3
        exact p_vret dX9_operand_124 rfl ⟨rfl, Or.inr (by rw [← he]; exact ⟨hf, hX⟩), hF⟩
      · have h0 : (zS X).1 = 0 := by have := b2i_t h12; simpa using this
        refine p_iconst (0) 16 rfl dX9_operand_15 rfl ?_
        refine p_ist_4 18 rfl dX9_operand_16 (Nat.le_of_ble_eq_true rfl) rfl ?_
        refine p_aload_n 0 19 rfl rfl dX9_operand_18 rfl ?_
        refine p_cV0i 22 rfl dX9_operand_19 (c_isGood h) ml_X9_161 vl_X9_isGood rfl (by decide) rfl (Nat.le_of_ble_eq_true rfl) (Nat.le_of_ble_eq_true rfl) rfl ?_
        refine p_if_eq 75 25 rfl rfl dX9_operand_22 (fun h22 => absurd (b2i_f h22) (by rw [h0]; decide)) (fun h22 => ?_)
        refine p_iload_n 2 26 rfl rfl dX9_operand_25 rfl ?_
        refine p_if_eq 75 29 rfl rfl dX9_operand_26 (fun h26 => ?_) (fun h26 => absurd rfl h26)
        have hs0 : stp tx z w (1, X) = stO1 tx z w X := stp_1 h0
        have he2 : rnN tx z w N (stO1 tx z w X) = F := by rw [← hs0]; exact he
        refine l_op75s (σ0 := σ) hX hDI hF hF3 he2 (fun σ3 x4 X3 e3 h3 hd3 hf3 => ?_) (fun σ3 hq hf3 => ⟨rfl, hq.mono (by omega), hf3⟩)
        exact ih true X3 σ3 x4 (by omega) e3 h3 hd3 hf3
set_option maxRecDepth 4000 in
theorem c_mOperand (hX : RX σ tx z w X) (hDI : DI X) {F : MY} (hF3 : F.1 = 3) {N : Nat} (nb : Bool) (he : rnN tx z w N ((if nb = true then 0 else 1), X) = F) : CallOk Γ 9 0 0 mX9_operand [.ref M0, .int (b2i nb)] σ (rV (fun σ' => OPost tx z w N F σ' ∧ Fj [14, 15, 18, 19, 20, 21, 22, 23, 31, 34, 35] [rCd, mWt, mTs] σ σ')) := by
  refine p_enter rfl rfl (Nat.le_of_ble_eq_true rfl) rfl ?_
  refine p_iload_n 1 1 rfl rfl dX9_operand_0 rfl ?_
  refine p_ist_n2 2 rfl rfl dX9_operand_1 (Nat.le_of_ble_eq_true rfl) rfl ?_
  refine p_iconst (1) 3 rfl dX9_operand_2 rfl ?_
  refine p_ist_n3 4 rfl rfl dX9_operand_3 (Nat.le_of_ble_eq_true rfl) rfl ?_
  exact l_opd hF3 N nb X σ _ (Nat.le_refl _) he hX hDI Fj.rf
end Ca9
