/-! ===== the reader begins; the world begins ===== -/
theorem nI_any (x : Int32) : ∃ k, x = nI k := ⟨x.toBitVec.toNat, by
  apply Int32.toBitVec_inj.1
  show x.toBitVec = BitVec.ofNat 32 x.toBitVec.toNat
  simp⟩
theorem mnn_nI {a b : Nat} (ha : a < 2 ^ 31) (hb : b < 2 ^ 31) : mnn (nI a) (nI b) = nI (min a b) := by
  unfold mnn
  by_cases h : b < a
  · rw [if_pos (nI_lt h ha), Nat.min_eq_right (by omega)]
  · rw [if_neg (nI_nlt (by omega) hb), Nat.min_eq_left (by omega)]
section C69
variable {Γ : Gm} {σ : PH}
set_option maxRecDepth 4000 in
theorem l_fill {r n : Nat} {v : Int32} (hk : kd r = 16) (hn : ln r = n) (hn9 : n < 8192) : ∀ (m i : Nat) (σ1 : PH), i + m = n → (∀ j, j < i → hA σ1 r j = v) → Fr [] [r] σ σ1 → Ok Γ 1 0 0 mJ7_fill_53178 5 [some (.ref r), some (.int v), some (.int (nI i)), some (.int (nI n))] [] σ1 (rV (fun σ' => (∀ j, j < n → hA σ' r j = v) ∧ Fr [] [r] σ σ')) := by
  intro m
  induction m with
  | zero =>
    intro i σ1 hi hv hF
    refine p_iload_n 2 6 rfl rfl dJ7_fill_53178_5 rfl ?_
    refine p_iload_n 3 7 rfl rfl dJ7_fill_53178_6 rfl ?_
    refine p_icmp_ge 20 10 rfl rfl dJ7_fill_53178_7 (fun h7 => ?_) (fun h7 => absurd (nI_le (a := n) (b := i) (by omega) (by omega)) h7)
    exact p_vret dJ7_fill_53178_20 rfl ⟨rfl, by rw [show i = n by omega] at hv; exact hv, hF⟩
  | succ m ih =>
    intro i σ1 hi hv hF
    refine p_iload_n 2 6 rfl rfl dJ7_fill_53178_5 rfl ?_
    refine p_iload_n 3 7 rfl rfl dJ7_fill_53178_6 rfl ?_
    refine p_icmp_ge 20 10 rfl rfl dJ7_fill_53178_7 (fun h7 => absurd h7 (nI_ge (a := i) (b := n) (by omega) (by omega))) (fun h7 => ?_)
    refine p_aload_n 0 11 rfl rfl dJ7_fill_53178_10 rfl ?_
    refine p_iload_n 2 12 rfl rfl dJ7_fill_53178_11 rfl ?_
    refine p_iload_n 1 13 rfl rfl dJ7_fill_53178_12 rfl ?_
    refine p_iastE 14 rfl dJ7_fill_53178_13 (i := i) hk (by omega) ?_
    refine p_inc_2 17 rfl dJ7_fill_53178_14 (1) rfl (Nat.le_of_ble_eq_true rfl) rfl ?_
    refine p_goto 5 rfl dJ7_fill_53178_17 ?_
    rw [nI_1]
    refine ih (i + 1) _ (by omega) (fun j hj => ?_) (hF.tr (Fr.sA (by simp)))
    rw [sA_s]
    rcases Nat.lt_or_ge j i with w | w
    · rw [pk_un (by omega)]; exact hv j w
    · rw [show j = i by omega, pk_us]
set_option maxRecDepth 4000 in
theorem c_fill {r n : Nat} {v : Int32} (hk : kd r = 16) (hn : ln r = n) (hn9 : n < 8192) : CallOk Γ 1 0 0 mJ7_fill_53178 [.ref r, .int v] σ (rV (fun σ' => (∀ j, j < n → hA σ' r j = v) ∧ Fr [] [r] σ σ')) := by
  refine p_enter rfl rfl (Nat.le_of_ble_eq_true rfl) rfl ?_
  refine p_iconst (0) 1 rfl dJ7_fill_53178_0 rfl ?_
  refine p_ist_n2 2 rfl rfl dJ7_fill_53178_1 (Nat.le_of_ble_eq_true rfl) rfl ?_
  refine p_aload_n 0 3 rfl rfl dJ7_fill_53178_2 rfl ?_
  refine p_alen 4 rfl dJ7_fill_53178_3 (Or.inl hk) ?_
  rw [hn]
  refine p_ist_n3 5 rfl rfl dJ7_fill_53178_4 (Nat.le_of_ble_eq_true rfl) rfl ?_
  exact l_fill hk hn hn9 n 0 σ (by omega) (fun j hj => absurd hj (Nat.not_lt_zero _)) Fr.rf
theorem Fr.toFx {XR XI : List (Nat × Nat)} {X : List Nat} {r : Nat} {σ σ' : PH} (h : Fr [] [r] σ σ') (hr : r ∈ X := by simp) : Fx XR XI X σ σ' := ⟨h.1, fun r k _ => h.2.1 r k (by simp), h.2.2.1, fun r k _ => by rw [h.2.2.2.1], h.2.2.2.2.1, fun q hq => h.2.2.2.2.2 q (fun e => hq (by rw [List.mem_singleton.mp e]; exact hr))⟩
set_option maxRecDepth 8000 in
theorem c_begW {o : Nat} {V : AW} (hst : StO σ o) (hw : StW σ wN) (hV : vD V = 0 ∧ (∀ s, s < 9 → hA σ (oL o) s = nI (vL V s) ∧ hA σ (oR o) s = nI (vR V s) ∧ hA σ (oH o) s = pI (vP V s)) ∧ ∀ c, c < 6 → vK V c = 0) : CallOk Γ 2 0 0 mX7_begin [.ref wN, .ref o] σ (rV (fun σ' => RpW σ' wN V ∧ hR σ' wN 0 = o ∧ Fx [(wN, 0)] [(wN, 1)] [wL wN, wR wN, wP wN, wK wN] σ σ')) := by
  refine p_enter rfl rfl (Nat.le_of_ble_eq_true rfl) rfl ?_
  refine p_aload_n 0 1 rfl rfl dX7_begin_0 rfl ?_
  refine p_aload_n 1 2 rfl rfl dX7_begin_1 rfl ?_
  refine p_putR 7 0 5 rfl dX7_begin_2 fl_X7_31 rfl rfl hst.1.ne0 (Or.inl rfl) ?_
  refine p_aload_n 0 6 rfl rfl dX7_begin_5 rfl ?_
  refine p_iconst (0) 7 rfl dX7_begin_6 rfl ?_
  refine p_putI 7 1 10 rfl dX7_begin_7 fl_X7_9 rfl rfl (Or.inl rfl) ?_
  refine p_aload_n 0 11 rfl rfl dX7_begin_10 rfl ?_
  refine p_getR 7 0 14 rfl dX7_begin_11 fl_X7_31 rfl rfl (hR_sR σ wN 0 o) hst.1.ne0 ?_
  refine p_getR 4 1 17 rfl dX7_begin_14 fl_X7_35 hst.1.kd rfl ((hR_sRo (σ := σ) (r := wN) (k := 0) (r' := o) (k' := 1) (v := o) (by intro e; cases e)).trans hst.2.1) (mk0 (Nat.succ_ne_zero _)) ?_
  refine p_iconst (0) 18 rfl dX7_begin_17 rfl ?_
  refine p_aload_n 0 19 rfl rfl dX7_begin_18 rfl ?_
  refine p_getR 7 2 22 rfl dX7_begin_19 fl_X7_15 rfl rfl ((hR_sRo (σ := σ) (r := wN) (k := 0) (r' := wN) (k' := 2) (v := o) (by intro e; cases e)).trans hw.2.1) (mk0 (Nat.succ_ne_zero _)) ?_
  refine p_iconst (0) 23 rfl dX7_begin_22 rfl ?_
  refine p_bipush (9) 25 rfl dX7_begin_23 rfl ?_
  refine p_copy 28 rfl dX7_begin_25 cl_X7_38 (kd16 _ _) (kd16 _ _) (by decide) (by decide) (by decide) (by rw [cl0, cl9]; exact Nat.le_of_eq (by rw [show ln (oL o) = 9 from ln9 _])) (by rw [cl0, cl9]; exact Nat.le_of_eq (by rw [show ln (wL wN) = 9 from ln9 _])) (Nat.le_of_ble_eq_true rfl) (Nat.le_of_ble_eq_true rfl) ?_
  refine p_aload_n 0 29 rfl rfl dX7_begin_28 rfl ?_
  refine p_getR 7 0 32 rfl dX7_begin_29 fl_X7_31 rfl rfl (hR_sR σ wN 0 o) hst.1.ne0 ?_
  refine p_getR 4 2 35 rfl dX7_begin_32 fl_X7_44 hst.1.kd rfl ((hR_sRo (σ := σ) (r := wN) (k := 0) (r' := o) (k' := 2) (v := o) (by intro e; cases e)).trans hst.2.2.1) (mk0 (Nat.succ_ne_zero _)) ?_
  refine p_iconst (0) 36 rfl dX7_begin_35 rfl ?_
  refine p_aload_n 0 37 rfl rfl dX7_begin_36 rfl ?_
  refine p_getR 7 3 40 rfl dX7_begin_37 fl_X7_19 rfl rfl ((hR_sRo (σ := σ) (r := wN) (k := 0) (r' := wN) (k' := 3) (v := o) (by intro e; cases e)).trans hw.2.2.1) (mk0 (Nat.succ_ne_zero _)) ?_
  refine p_iconst (0) 41 rfl dX7_begin_40 rfl ?_
  refine p_bipush (9) 43 rfl dX7_begin_41 rfl ?_
  refine p_copy 46 rfl dX7_begin_43 cl_X7_38 (kd16 _ _) (kd16 _ _) (by decide) (by decide) (by decide) (by rw [cl0, cl9]; exact Nat.le_of_eq (by rw [show ln (oR o) = 9 from ln9 _])) (by rw [cl0, cl9]; exact Nat.le_of_eq (by rw [show ln (wR wN) = 9 from ln9 _])) (Nat.le_of_ble_eq_true rfl) (Nat.le_of_ble_eq_true rfl) ?_
  refine p_aload_n 0 47 rfl rfl dX7_begin_46 rfl ?_
  refine p_getR 7 0 50 rfl dX7_begin_47 fl_X7_31 rfl rfl (hR_sR σ wN 0 o) hst.1.ne0 ?_
  refine p_getR 4 3 53 rfl dX7_begin_50 fl_X7_45 hst.1.kd rfl ((hR_sRo (σ := σ) (r := wN) (k := 0) (r' := o) (k' := 3) (v := o) (by intro e; cases e)).trans hst.2.2.2.1) (mk0 (Nat.succ_ne_zero _)) ?_
  refine p_iconst (0) 54 rfl dX7_begin_53 rfl ?_
  refine p_aload_n 0 55 rfl rfl dX7_begin_54 rfl ?_
  refine p_getR 7 4 58 rfl dX7_begin_55 fl_X7_22 rfl rfl ((hR_sRo (σ := σ) (r := wN) (k := 0) (r' := wN) (k' := 4) (v := o) (by intro e; cases e)).trans hw.2.2.2.1) (mk0 (Nat.succ_ne_zero _)) ?_
  refine p_iconst (0) 59 rfl dX7_begin_58 rfl ?_
  refine p_bipush (9) 61 rfl dX7_begin_59 rfl ?_
  refine p_copy 64 rfl dX7_begin_61 cl_X7_38 (kd16 _ _) (kd16 _ _) (by decide) (by decide) (by decide) (by rw [cl0, cl9]; exact Nat.le_of_eq (by rw [show ln (oH o) = 9 from ln9 _])) (by rw [cl0, cl9]; exact Nat.le_of_eq (by rw [show ln (wP wN) = 9 from ln9 _])) (Nat.le_of_ble_eq_true rfl) (Nat.le_of_ble_eq_true rfl) ?_
  refine p_aload_n 0 65 rfl rfl dX7_begin_64 rfl ?_
  refine p_getR 7 5 68 rfl dX7_begin_65 fl_X7_25 rfl rfl ((hR_sRo (σ := σ) (r := wN) (k := 0) (r' := wN) (k' := 5) (v := o) (by intro e; cases e)).trans hw.2.2.2.2.1) (mk0 (Nat.succ_ne_zero _)) ?_
  refine p_iconst (0) 69 rfl dX7_begin_68 rfl ?_
  refine p_cS2v 0 0 72 rfl dX7_begin_69 (c_fill (kd16 _ _) (ln6 _) (by decide)) ml_X7_48 sl_J7_fill_53178 (Nat.le_of_ble_eq_true rfl) (Nat.le_of_ble_eq_true rfl) (Nat.le_of_ble_eq_true rfl) (Nat.le_of_ble_eq_true rfl) rfl ?_
  intro σ1 hp1
  exact p_vret dX7_begin_72 rfl ⟨rfl, by
    rw [cl0, cl9] at hp1
    obtain ⟨hz, hF⟩ := hp1
    have hA1 : ∀ r, r ≠ wK wN → hA σ1 r = _ := fun r hr => hF.2.2.2.2.2 r (by simpa using hr)
    have hI1 : ∀ k, hI σ1 wN k = hI (sI (sR σ wN 0 o) wN 1 0) wN k := fun k => hF.2.1 wN k (by simp)
    have oo : ∀ r, r ∈ [oL o, oR o, oH o] → r ∉ [wL wN, wR wN, wP wN, wK wN] := by rcases hst.1 with rfl | rfl <;> decide
    have q1 := oo (oL o) (by simp)
    have q2 := oo (oR o) (by simp)
    have q3 := oo (oH o) (by simp)
    simp only [List.mem_cons, List.not_mem_nil, or_false, not_or] at q1 q2 q3
    have rr : hR σ1 = hR (sR σ wN 0 o) := hF.2.2.2.1
    refine ⟨⟨⟨hw.1, ?_, ?_, ?_, ?_, ?_⟩, ?_, fun s hs => ⟨?_, ?_, ?_⟩, fun c hc => ?_⟩, ?_, ?_⟩
    · rw [rr]; exact (hR_sRo (by intro e; cases e)).trans hw.2.1
    · rw [rr]; exact (hR_sRo (by intro e; cases e)).trans hw.2.2.1
    · rw [rr]; exact (hR_sRo (by intro e; cases e)).trans hw.2.2.2.1
    · rw [rr]; exact (hR_sRo (by intro e; cases e)).trans hw.2.2.2.2.1
    · rw [rr]; exact (hR_sRo (by intro e; cases e)).trans hw.2.2.2.2.2
    · rw [hI1, hI_sI, hV.1]; rfl
    · rw [hA1 _ (by decide), sF_o (show wL wN ≠ wP wN by decide), sF_o (show wL wN ≠ wR wN by decide), hA_sF, sb_cpy0 hs]; exact (hV.2.1 s hs).1
    · rw [hA1 _ (by decide), sF_o (show wR wN ≠ wP wN by decide), hA_sF, sb_cpy0 hs, sF_o q2.1]; exact (hV.2.1 s hs).2.1
    · rw [hA1 _ (by decide), hA_sF, sb_cpy0 hs, sF_o q3.2.1, sF_o q3.1]; exact (hV.2.1 s hs).2.2
    · rw [hz c hc, hV.2.2 c hc]; rfl
    · rw [rr]; exact hR_sR _ _ _ _
    · exact (Fx.sR (by simp)).tr ((Fx.sI (by simp)).tr ((Fx.sF (by simp)).tr ((Fx.sF (by simp)).tr ((Fx.sF (by simp)).tr (Fr.toFx hF)))))⟩
theorem adv_ks (tx : Nat → Nat) (z f : Nat) (p : Int32) (k s e n : Nat) : adv tx z (f, p, 0, 0, e, n) = adv tx z (f, p, k, s, e, n) := rfl
set_option maxRecDepth 8000 in
theorem c_begR {tx : Nat → Nat} {z o nn : Nat} (hX : TX σ tx z) (hst : StO σ o) (hb : BE σ o) (hnn : hI σ R0 10 = nI nn) : CallOk Γ 4 0 0 mX5_begin [.ref R0, .int (nI z), .ref o] σ (rL tx z o σ (adv tx z (0, -1, 0, 0, 0, nn), bNil)) := by
  have hz := hX.2.1
  refine p_enter rfl rfl (Nat.le_of_ble_eq_true rfl) rfl ?_
  refine p_aload_n 0 1 rfl rfl dX5_begin_0 rfl ?_
  refine p_iconst (0) 2 rfl dX5_begin_1 rfl ?_
  refine p_iload_n 1 3 rfl rfl dX5_begin_2 rfl ?_
  refine p_aload_n 0 4 rfl rfl dX5_begin_3 rfl ?_
  refine p_getR 5 2 7 rfl dX5_begin_4 fl_X5_37 rfl rfl hX.1 (by decide) ?_
  refine p_alen 8 rfl dX5_begin_7 (Or.inr rfl) ?_
  refine p_min 11 rfl dX5_begin_8 ml_X5_54 (Nat.le_of_ble_eq_true rfl) (Nat.le_of_ble_eq_true rfl) ?_
  rw [show Int32.ofNat (ln X0) = nI 700 from rfl, mnn_nI (by omega) (by omega), Nat.min_eq_left (by omega)]
  refine p_max 14 rfl dX5_begin_11 ml_X5_60 (Nat.le_of_ble_eq_true rfl) (Nat.le_of_ble_eq_true rfl) ?_
  rw [show (0 : Int32) = nI 0 from rfl, mx_nI (by omega) (by omega), Nat.max_eq_right (by omega)]
  refine p_putI 5 3 17 rfl dX5_begin_14 fl_X5_18 rfl rfl (Or.inl rfl) ?_
  refine p_aload_n 0 18 rfl rfl dX5_begin_17 rfl ?_
  refine p_aload_n 2 19 rfl rfl dX5_begin_18 rfl ?_
  refine p_putR 5 4 22 rfl dX5_begin_19 fl_X5_41 rfl rfl hst.1.ne0 (Or.inl rfl) ?_
  refine p_aload_n 0 23 rfl rfl dX5_begin_22 rfl ?_
  refine p_getR 5 4 26 rfl dX5_begin_23 fl_X5_41 rfl rfl (hR_sR _ _ _ _) hst.1.ne0 ?_
  have hst2 : StO (sR (sI σ R0 3 (nI z)) R0 4 o) o := hst.ch (p := inS [31]) (by
    refine ⟨rfl, rfl, rfl, fun r k hk => hR_sRo (fun e => hk (by rw [e]; decide)), fun r hr => ⟨hI_ne (fun e => ?_), rfl, va_upo (fun e => ?_)⟩⟩ <;> (rw [e] at hr; exact absurd hr (by decide)))
  have hb2 : BE (sR (sI σ R0 3 (nI z)) R0 4 o) o := hb
  refine p_cV0v 0 0 29 rfl dX5_begin_26 (c_clear hst2 hb2) ml_X5_63 vl_X4_clear hst.1.kd (by decide) rfl (Nat.le_of_ble_eq_true rfl) (Nat.le_of_ble_eq_true rfl) (Nat.le_of_ble_eq_true rfl) (Nat.le_of_ble_eq_true rfl) rfl ?_
  intro σ1 hp1
  refine p_aload_n 0 30 rfl rfl dX5_begin_29 rfl ?_
  refine p_iconst (0) 31 rfl dX5_begin_30 rfl ?_
  refine p_putI 5 0 34 rfl dX5_begin_31 fl_X5_9 rfl rfl (Or.inl rfl) ?_
  refine p_aload_n 0 35 rfl rfl dX5_begin_34 rfl ?_
  refine p_iconst (-1) 36 rfl dX5_begin_35 rfl ?_
  refine p_putI 5 1 39 rfl dX5_begin_36 fl_X5_15 rfl rfl (Or.inl rfl) ?_
  refine p_aload_n 0 40 rfl rfl dX5_begin_39 rfl ?_
  refine p_iconst (0) 41 rfl dX5_begin_40 rfl ?_
  refine p_putI 5 9 44 rfl dX5_begin_41 fl_X5_31 rfl rfl (Or.inl rfl) ?_
  refine p_aload_n 0 45 rfl rfl dX5_begin_44 rfl ?_
  obtain ⟨hb1, hcb, hrb⟩ := hp1
  obtain ⟨k0, hk0⟩ := nI_any (hI σ R0 7)
  obtain ⟨s0, hs0⟩ := nI_any (hI σ R0 8)
  have hO := hst.1
  have e31 : hI σ1 R0 = hI (sI σ R0 3 (nI z)) R0 := by rcases hO with rfl | rfl <;> exact (hcb.2.2.2.2 R0 rfl).1
  have hr2 : RpS (sI (sI (sI σ1 R0 0 (nI 0)) R0 1 (-1)) R0 9 (nI 0)) z (0, -1, k0, s0, 0, nn) := by
    have q0 : RpR σ1 z 0 (hI σ1 R0 1) k0 s0 0 nn ∨ True := Or.inr trivial
    refine ⟨?_, ?_, ?_, ?_, ?_, ?_, ?_⟩
    · rw [hI_sIo (by intro e; cases e), hI_sIo (by intro e; cases e), hI_sI]
    · rw [hI_sIo (by intro e; cases e), hI_sI]
    · rw [hI_sIo (by intro e; cases e), hI_sIo (by intro e; cases e), hI_sIo (by intro e; cases e), e31, hI_sI]
    · rw [hI_sIo (by intro e; cases e), hI_sIo (by intro e; cases e), hI_sIo (by intro e; cases e), e31, hI_sIo (by intro e; cases e)]; exact hk0
    · rw [hI_sIo (by intro e; cases e), hI_sIo (by intro e; cases e), hI_sIo (by intro e; cases e), e31, hI_sIo (by intro e; cases e)]; exact hs0
    · rw [hI_sI]
    · rw [hI_sIo (by intro e; cases e), hI_sIo (by intro e; cases e), hI_sIo (by intro e; cases e), e31, hI_sIo (by intro e; cases e)]; exact hnn
  have hcc : Ch (inS (sRd o)) σ (sI (sI (sI σ1 R0 0 (nI 0)) R0 1 (-1)) R0 9 (nI 0)) := by
    have c0 : Ch (inS (sRd o)) σ (sI σ R0 3 (nI z)) := (chR0 _ _ _).more (by unfold sRd; simp)
    have c1 : Ch (inS (sRd o)) (sI σ R0 3 (nI z)) (sR (sI σ R0 3 (nI z)) R0 4 o) := by
      refine ⟨rfl, rfl, rfl, fun r k hk => hR_sRo (fun e => hk (by rw [e]; decide)), fun r hr => ⟨rfl, rfl, va_upo (fun e => ?_)⟩⟩
      rw [e] at hr; exact absurd hr (by unfold sRd inS; rw [show sn R0 = 31 from rfl]; simp)
    exact ((((c0.tr c1).tr hcb.toL).tr ((chR0 _ _ _).more (by unfold sRd; simp))).tr ((chR0 _ _ _).more (by unfold sRd; simp))).tr ((chR0 _ _ _).more (by unfold sRd; simp))
  have hX2 := hX.ch hcc (by rcases hO with rfl | rfl <;> rfl)
  refine p_cV0v 0 0 48 rfl dX5_begin_45 (c_adv0 hX2 hr2 (Nat.zero_le _)) ml_X5_66 vl_X5_advance rfl (by decide) rfl (Nat.le_of_ble_eq_true rfl) (Nat.le_of_ble_eq_true rfl) (Nat.le_of_ble_eq_true rfl) (Nat.le_of_ble_eq_true rfl) rfl ?_
  intro σ2 hp2
  exact p_vret dX5_begin_48 rfl ⟨rfl, ⟨hX2.cr hp2.2, by rw [adv_ks _ _ _ _ k0 s0]; exact hp2.1, adv_ok2 (Nat.zero_le _) (Nat.zero_le _), by rw [hp2.2.2.2]; show hR σ1 R0 4 = o; rw [hrb]; exact hR_sR _ _ _ _, hb1.ch (S := [31]) (((chR0 σ1 _ _).tr (chR0 _ _ _)).tr ((chR0 _ _ _).tr hp2.2.1)) (by rcases hO with rfl | rfl <;> decide)⟩, hcc.tr hp2.2.toL⟩
end C69
