/-! ===== the reference: row ===== -/
theorem m10 (m : Nat) : (10 : Int32) * nI m = nI (10 * m) := nI_mu 10 m
theorem mxN_le {f : Nat → Nat} {B : Nat} : ∀ n, (∀ s, s < n → f s ≤ B) → mxN n f ≤ B := by
  intro n
  induction n with
  | zero => intro _; exact Nat.zero_le _
  | succ n ih => intro h; simp only [mxN]; have := ih (fun s hs => h s (by omega)); have := h n (by omega); omega
def mv (O : AO) (V : AW) (u l : Nat) : Nat := if (l < 9 ∧ u.testBit l = true) ∨ (u = 0 ∧ l = 9) then lc O V u l else 0
theorem mv_p {O : AO} {V : AW} {u l : Nat} (h : (l < 9 ∧ u.testBit l = true) ∨ (u = 0 ∧ l = 9)) : mv O V u l = lc O V u l := if_pos h
def TbM (σ : PH) (O : AO) (V : AW) (c : Nat) : Prop := ∀ u, c ≤ u → u < 2 ^ aS O → ∀ l, l ≤ 9 → hA σ mMo (10 * u + l) = nI (mv O V u l)
theorem FQ.mo {σ σ' : PH} (h : Fr [] [mMo] σ σ') : FQ σ σ' := ⟨h.1, h.2.2.2.2.1, h.2.2.2.1, fun r k _ => h.2.1 r k (by simp), fun r q => h.2.2.2.2.2 r (fun z => q (by simp only [List.mem_cons, List.not_mem_nil, or_false] at z; simp [z])), fun k _ => by rw [h.2.2.2.2.2 mRo (by decide)], by rw [h.2.2.2.2.2 mCo (by decide)]⟩
theorem pI_lt0 {c : Nat} (h : c < 100) : pI c < 0 ↔ c = 0 := by
  rw [Int32.lt_iff_toInt_lt, pI_toInt h]
  show (c : Int) - 1 < 0 ↔ _
  omega
theorem pI_lt0' {c : Nat} (h : c < 2 ^ 30) : pI c < 0 ↔ c = 0 := by
  rw [Int32.lt_iff_toInt_lt, show (pI c).toInt = (c : Int) - 1 from pk_sub_toInt (a := c) (b := 1) h (by decide)]
  show (c : Int) - 1 < 0 ↔ _
  omega
theorem pI_dn (c : Nat) : nI c + (-1) = pI c := (Int32.sub_eq_add_neg (nI c) 1).symm
theorem or_ltn {u s n : Nat} (hu : u < 2 ^ n) (hs : s < n) : u ||| 2 ^ s < 2 ^ n := Nat.or_lt_two_pow hu (Nat.pow_lt_pow_right (by decide) hs)
section C9c
variable {Γ : Gm} {σ : PH} {A : AT}
set_option maxRecDepth 4000 in
theorem c_canFollow {τ : PH} (hR0 : RM τ A) {u l s : Nat} (hu : u < 512) (hs : s < aS (tO A)) (hl : l = 9 ∨ l < aS (tO A)) : CallOk Γ 4 0 0 mX9_canFollow [.ref M0, .int (nI u), .int (nI l), .int (nI s)] τ (rI τ (b2i (cnF (tO A) (tV A) u l s))) := by
  have hK := hR0.2.1
  have hO := hK.2.2.1
  have hc6 := hO.2.1
  have hw12 := hO.2.2.1
  have hs9 := hO.1
  have hv := hK.2.2.2.2.1.1
  have hd9 := hK.2.2.2.2.1.2
  have hM := hR0.1
  have hw := hR0.2.2.1
  refine p_enter rfl rfl (Nat.le_of_ble_eq_true rfl) rfl ?_
  refine p_iload_n 1 1 rfl rfl dX9_canFollow_0 rfl ?_
  refine p_iload_n 3 2 rfl rfl dX9_canFollow_1 rfl ?_
  refine p_ishr 3 rfl dX9_canFollow_2 ?_
  refine p_iconst (1) 4 rfl dX9_canFollow_3 rfl ?_
  refine p_iand 5 rfl dX9_canFollow_4 ?_
  rw [sb1 (by omega) (by omega)]
  refine p_if_ne 37 8 rfl rfl dX9_canFollow_5 (fun h5 => ?_) (fun h5 => ?_)
  · refine p_iconst (0) 38 rfl dX9_canFollow_37 rfl ?_
    have hb : u.testBit s = true := b2i_t h5
    have e : cnF (tO A) (tV A) u l s = false := by unfold cnF; rw [hb]; rfl
    exact p_zret dX9_canFollow_38 rfl (by decide) ⟨by rw [e]; rfl, rfl⟩
  · refine p_aload_n 0 9 rfl rfl dX9_canFollow_8 rfl ?_
    refine p_iconst (0) 10 rfl dX9_canFollow_9 rfl ?_
    refine p_iload_n 3 11 rfl rfl dX9_canFollow_10 rfl ?_
    refine p_cV2i 14 rfl dX9_canFollow_11 (c_isBurnt hM hw hv (by decide) hs) ml_X9_319 vl_X9_isBurnt rfl (by decide) rfl (Nat.le_of_ble_eq_true rfl) (Nat.le_of_ble_eq_true rfl) rfl ?_
    refine p_if_ne 37 17 rfl rfl dX9_canFollow_14 (fun h14 => ?_) (fun h14 => ?_)
    · refine p_iconst (0) 38 rfl dX9_canFollow_37 rfl ?_
      have hb : (vP (tV A) s == 0) = true := b2i_t h14
      have e : cnF (tO A) (tV A) u l s = false := by unfold cnF; rw [hb, Bool.not_true, Bool.and_false]; rfl
      exact p_zret dX9_canFollow_38 rfl (by decide) ⟨by rw [e]; rfl, rfl⟩
    · refine p_iload_n 2 18 rfl rfl dX9_canFollow_17 rfl ?_
      refine p_bipush (9) 20 rfl dX9_canFollow_18 rfl ?_
      refine p_icmp_eq 33 23 rfl rfl dX9_canFollow_20 (fun h20 => ?_) (fun h20 => ?_)
      · refine p_iconst (1) 34 rfl dX9_canFollow_33 rfl ?_
        refine p_goto 38 rfl dX9_canFollow_34 ?_
        have g1 : u.testBit s = false := b2i_f h5
        have g2 : (vP (tV A) s == 0) = false := b2i_f h14
        have g3 : l = 9 := nI_eqI (show nI l = nI 9 from h20) (by omega) (by decide)
        have e : cnF (tO A) (tV A) u l s = true := by unfold cnF; rw [g1, g2, g3]; rfl
        exact p_zret dX9_canFollow_38 rfl (by decide) ⟨by rw [e]; rfl, rfl⟩
      · have hl9 : ¬ l = 9 := fun e => h20 (by rw [e]; rfl)
        have hla : l < aS (tO A) := by omega
        refine p_aload_n 0 24 rfl rfl dX9_canFollow_23 rfl ?_
        refine p_iconst (0) 25 rfl dX9_canFollow_24 rfl ?_
        refine p_iload_n 2 26 rfl rfl dX9_canFollow_25 rfl ?_
        refine p_iload_n 3 27 rfl rfl dX9_canFollow_26 rfl ?_
        refine p_cV3i 30 rfl dX9_canFollow_27 (c_doesFit hM hw hv (by decide) hla hs) ml_X9_331 vl_X9_doesFit rfl (by decide) rfl (Nat.le_of_ble_eq_true rfl) (Nat.le_of_ble_eq_true rfl) rfl ?_
        refine p_if_eq 37 33 rfl rfl dX9_canFollow_30 (fun h30 => ?_) (fun h30 => ?_)
        · refine p_iconst (0) 38 rfl dX9_canFollow_37 rfl ?_
          have g1 : u.testBit s = false := b2i_f h5
          have g2 : (vP (tV A) s == 0) = false := b2i_f h14
          have g3 : (l == 9) = false := by rw [beq_eq_false_iff_ne]; exact hl9
          have g4 : fitt (tO A) (tV A) l s = false := b2i_f h30
          have e : cnF (tO A) (tV A) u l s = false := by unfold cnF; rw [g1, g2, g3, g4]; rfl
          exact p_zret dX9_canFollow_38 rfl (by decide) ⟨by rw [e]; rfl, rfl⟩
        · refine p_iconst (1) 34 rfl dX9_canFollow_33 rfl ?_
          refine p_goto 38 rfl dX9_canFollow_34 ?_
          have g1 : u.testBit s = false := b2i_f h5
          have g2 : (vP (tV A) s == 0) = false := b2i_f h14
          have g3 : (l == 9) = false := by rw [beq_eq_false_iff_ne]; exact hl9
          have g4 : fitt (tO A) (tV A) l s = true := b2i_t h30
          have e : cnF (tO A) (tV A) u l s = true := by unfold cnF; rw [g1, g2, g3, g4]; rfl
          exact p_zret dX9_canFollow_38 rfl (by decide) ⟨by rw [e]; rfl, rfl⟩
set_option maxRecDepth 4000 in
theorem l_mostB {τ : PH} (hR0 : RM τ A) {u l : Nat} (hu : u < 2 ^ aS (tO A)) (hl : l = 9 ∨ l < aS (tO A)) (htb : TbM τ (tO A) (tV A) (u + 1)) : ∀ (n i : Nat), i + n = aS (tO A) → Ok Γ 5 0 0 mX9_mostBehind 5 [some (.ref M0), some (.int (nI u)), some (.int (nI l)), some (.int (nI (mxN i (fun s => if cnF (tO A) (tV A) u l s = true then 1 + lc (tO A) (tV A) (u ||| 2 ^ s) s else 0)))), some (.int (nI i))] [] τ (rI τ (nI (lc (tO A) (tV A) u l))) := by
  have hK := hR0.2.1
  have hO := hK.2.2.1
  have hc6 := hO.2.1
  have hw12 := hO.2.2.1
  have hs9 := hO.1
  have hv := hK.2.2.2.2.1.1
  have hd9 := hK.2.2.2.2.1.2
  have hM := hR0.1
  have hw := hR0.2.2.1
  have hp := p9 hs9
  intro n
  induction n with
  | zero =>
    intro i hi
    refine p_iload 4 7 rfl dX9_mostBehind_5 rfl ?_
    refine p_aload_n 0 8 rfl rfl dX9_mostBehind_7 rfl ?_
    refine p_getIE 9 1 11 rfl dX9_mostBehind_8 fl_X9_280 rfl rfl hM.2.2.1.1 ?_
    refine p_icmp_ge 55 14 rfl rfl dX9_mostBehind_11 (fun h11 => ?_) (fun h11 => absurd (nI_le (a := aS (tO A)) (b := i) (by omega) (by omega)) h11)
    refine p_iload_n 3 56 rfl rfl dX9_mostBehind_55 rfl ?_
    exact p_iret dX9_mostBehind_56 rfl ⟨by rw [lc_rec hs9 (by omega), show i = aS (tO A) by omega], rfl⟩
  | succ n ih =>
    intro i hi
    have hlt : i < aS (tO A) := by omega
    have hmb : mxN i (fun s => if cnF (tO A) (tV A) u l s = true then 1 + lc (tO A) (tV A) (u ||| 2 ^ s) s else 0) ≤ 513 := mxN_le i (fun s hs => by
      show (if _ then _ else _) ≤ 513
      split
      · have := lc_le (V := tV A) hs9 (u := u ||| 2 ^ s) (l := s) (by have := or_ltn hu (show s < aS (tO A) by omega); omega)
        exact Nat.le_trans (Nat.add_le_add_left this 1) (by omega)
      · exact Nat.zero_le _)
    refine p_iload 4 7 rfl dX9_mostBehind_5 rfl ?_
    refine p_aload_n 0 8 rfl rfl dX9_mostBehind_7 rfl ?_
    refine p_getIE 9 1 11 rfl dX9_mostBehind_8 fl_X9_280 rfl rfl hM.2.2.1.1 ?_
    refine p_icmp_ge 55 14 rfl rfl dX9_mostBehind_11 (fun h11 => absurd h11 (nI_ge (a := i) (b := aS (tO A)) (by omega) (by omega))) (fun h11 => ?_)
    refine p_aload_n 0 15 rfl rfl dX9_mostBehind_14 rfl ?_
    refine p_iload_n 1 16 rfl rfl dX9_mostBehind_15 rfl ?_
    refine p_iload_n 2 17 rfl rfl dX9_mostBehind_16 rfl ?_
    refine p_iload 4 19 rfl dX9_mostBehind_17 rfl ?_
    refine p_cV3i 22 rfl dX9_mostBehind_19 (c_canFollow hR0 (by omega) hlt hl) ml_X9_432 vl_X9_canFollow rfl (by decide) rfl (Nat.le_of_ble_eq_true rfl) (Nat.le_of_ble_eq_true rfl) rfl ?_
    refine p_if_eq 49 25 rfl rfl dX9_mostBehind_22 (fun h22 => ?_) (fun h22 => ?_)
    · refine p_inc_4 52 rfl dX9_mostBehind_49 (1) rfl (Nat.le_of_ble_eq_true rfl) rfl ?_
      refine p_goto 5 rfl dX9_mostBehind_52 ?_
      have hb : cnF (tO A) (tV A) u l i = false := b2i_f h22
      have e : mxN (i + 1) (fun s => if cnF (tO A) (tV A) u l s = true then 1 + lc (tO A) (tV A) (u ||| 2 ^ s) s else 0) = mxN i (fun s => if cnF (tO A) (tV A) u l s = true then 1 + lc (tO A) (tV A) (u ||| 2 ^ s) s else 0) := by simp only [mxN]; rw [hb]; simp
      rw [nI_1, ← e]
      exact ih (i + 1) (by omega)
    · have hb : cnF (tO A) (tV A) u l i = true := b2i_t h22
      have hg := or_gt (cnF_iff.mp hb).1.1
      have hol := or_ltn hu hlt
      have etb : hA τ mMo (10 * (u ||| 2 ^ i) + i) = nI (lc (tO A) (tV A) (u ||| 2 ^ i) i) := (htb _ (by omega) hol i (by omega)).trans (by rw [mv_p (Or.inl ⟨by omega, by rw [Nat.testBit_or, Nat.testBit_two_pow_self, Bool.or_true]⟩)])
      have hlb := lc_le (V := tV A) hs9 (u := u ||| 2 ^ i) (l := i) (by omega)
      refine p_iload_n 3 26 rfl rfl dX9_mostBehind_25 rfl ?_
      refine p_iconst (1) 27 rfl dX9_mostBehind_26 rfl ?_
      refine p_aload_n 0 28 rfl rfl dX9_mostBehind_27 rfl ?_
      refine p_getR 9 50 31 rfl dX9_mostBehind_28 fl_X9_81 rfl rfl (show hR _ M0 50 = mMo from hM.1 50) (by decide) ?_
      refine p_bipush (10) 33 rfl dX9_mostBehind_31 rfl ?_
      refine p_iload_n 1 34 rfl rfl dX9_mostBehind_33 rfl ?_
      refine p_iconst (1) 35 rfl dX9_mostBehind_34 rfl ?_
      refine p_iload 4 37 rfl dX9_mostBehind_35 rfl ?_
      refine p_ishl 38 rfl dX9_mostBehind_37 ?_
      rw [one_shl _ (by omega)]
      refine p_ior 39 rfl dX9_mostBehind_38 ?_
      rw [nx_or]
      refine p_imul 40 rfl dX9_mostBehind_39 ?_
      rw [m10]
      refine p_iload 4 42 rfl dX9_mostBehind_40 rfl ?_
      refine p_iadd 43 rfl dX9_mostBehind_42 ?_
      rw [nI_add]
      refine p_ialdE 44 rfl dX9_mostBehind_43 (i := 10 * (u ||| 2 ^ i) + i) rfl (by show _ < 5120; omega) etb ?_
      refine p_iadd 45 rfl dX9_mostBehind_44 ?_
      rw [show (1 : Int32) + nI (lc (tO A) (tV A) (u ||| 2 ^ i) i) = nI (1 + lc (tO A) (tV A) (u ||| 2 ^ i) i) from nI_add 1 _]
      refine p_cS2i 48 rfl dX9_mostBehind_45 (c_greater _ _) ml_X9_360 sl_X9_greater (Nat.le_of_ble_eq_true rfl) (Nat.le_of_ble_eq_true rfl) rfl ?_
      rw [gr_mx (by omega) (by omega)]
      refine p_ist_n3 49 rfl rfl dX9_mostBehind_48 (Nat.le_of_ble_eq_true rfl) rfl ?_
      refine p_inc_4 52 rfl dX9_mostBehind_49 (1) rfl (Nat.le_of_ble_eq_true rfl) rfl ?_
      refine p_goto 5 rfl dX9_mostBehind_52 ?_
      have e : mxN (i + 1) (fun s => if cnF (tO A) (tV A) u l s = true then 1 + lc (tO A) (tV A) (u ||| 2 ^ s) s else 0) = max (mxN i (fun s => if cnF (tO A) (tV A) u l s = true then 1 + lc (tO A) (tV A) (u ||| 2 ^ s) s else 0)) (1 + lc (tO A) (tV A) (u ||| 2 ^ i) i) := by simp only [mxN]; rw [if_pos hb]
      rw [nI_1, ← e]
      exact ih (i + 1) (by omega)
set_option maxRecDepth 4000 in
theorem c_mostB {τ : PH} (hR0 : RM τ A) {u l : Nat} (hu : u < 2 ^ aS (tO A)) (hl : l = 9 ∨ l < aS (tO A)) (htb : TbM τ (tO A) (tV A) (u + 1)) : CallOk Γ 5 0 0 mX9_mostBehind [.ref M0, .int (nI u), .int (nI l)] τ (rI τ (nI (lc (tO A) (tV A) u l))) := by
  refine p_enter rfl rfl (Nat.le_of_ble_eq_true rfl) rfl ?_
  refine p_iconst (0) 1 rfl dX9_mostBehind_0 rfl ?_
  refine p_ist_n3 2 rfl rfl dX9_mostBehind_1 (Nat.le_of_ble_eq_true rfl) rfl ?_
  refine p_iconst (0) 3 rfl dX9_mostBehind_2 rfl ?_
  refine p_ist_4 5 rfl dX9_mostBehind_3 (Nat.le_of_ble_eq_true rfl) rfl ?_
  exact l_mostB hR0 hu hl htb (aS (tO A)) 0 (by omega)
set_option maxRecDepth 4000 in
theorem l_rowR {τ : PH} (hR0 : RM τ A) {u : Nat} (hu : u < 2 ^ aS (tO A)) {x : Int32} {x4 x5 x6 x7 : Option Value} {Q : PO → PH → Prop} (kk : ∀ σ2 x3, TbM σ2 (tO A) (tV A) u → Fr [] [mMo] τ σ2 → Ok Γ 11 0 0 mX9_row 14 [some (.ref M0), some (.int x), some (.int (pI u)), x3, x4, x5, x6, x7] [] σ2 Q) : ∀ (n l : Nat) (σ1 : PH), l + n = 10 → TbM σ1 (tO A) (tV A) (u + 1) → (∀ l2, l2 < l → hA σ1 mMo (10 * u + l2) = nI (mv (tO A) (tV A) u l2)) → Fr [] [mMo] τ σ1 → Ok Γ 11 0 0 mX9_row 20 [some (.ref M0), some (.int x), some (.int (nI u)), some (.int (nI l)), x4, x5, x6, x7] [] σ1 Q := by
  have hK := hR0.2.1
  have hO := hK.2.2.1
  have hc6 := hO.2.1
  have hw12 := hO.2.2.1
  have hs9 := hO.1
  have hv := hK.2.2.2.2.1.1
  have hd9 := hK.2.2.2.2.1.2
  have hM := hR0.1
  have hw := hR0.2.2.1
  have hp := p9 hs9
  intro n
  induction n with
  | zero =>
    intro l σ1 hi htb hrw hF
    have hR1 := hR0.q (FQ.mo hF)
    have hM1 := hR1.1
    refine p_iload_n 3 21 rfl rfl dX9_row_20 rfl ?_
    refine p_bipush (9) 23 rfl dX9_row_21 rfl ?_
    refine p_icmp_gt 78 26 rfl rfl dX9_row_23 (fun h23 => ?_) (fun h23 => absurd (nI_lt (a := 9) (b := l) (by omega) (by omega)) h23)
    refine p_inc_2 81 rfl dX9_row_78 (-1) rfl (Nat.le_of_ble_eq_true rfl) rfl ?_
    refine p_goto 14 rfl dX9_row_81 ?_
    rw [pI_dn]
    exact kk σ1 _ (fun u2 h1 h2 l2 h3 => (Nat.lt_or_ge u u2).elim (fun z => htb u2 z h2 l2 h3) (fun z => by rw [show u2 = u by omega]; exact hrw l2 (by omega))) hF
  | succ n ih =>
    intro l σ1 hi htb hrw hF
    have hR1 := hR0.q (FQ.mo hF)
    have hM1 := hR1.1
    refine p_iload_n 3 21 rfl rfl dX9_row_20 rfl ?_
    refine p_bipush (9) 23 rfl dX9_row_21 rfl ?_
    refine p_icmp_gt 78 26 rfl rfl dX9_row_23 (fun h23 => absurd h23 (nI_nlt (a := 9) (b := l) (by omega) (by omega))) (fun h23 => ?_)
    refine p_aload_n 0 27 rfl rfl dX9_row_26 rfl ?_
    refine p_getR 9 50 30 rfl dX9_row_27 fl_X9_81 rfl rfl (show hR _ M0 50 = mMo from hM1.1 50) (by decide) ?_
    refine p_bipush (10) 32 rfl dX9_row_30 rfl ?_
    refine p_iload_n 2 33 rfl rfl dX9_row_32 rfl ?_
    refine p_imul 34 rfl dX9_row_33 ?_
    rw [m10]
    refine p_iload_n 3 35 rfl rfl dX9_row_34 rfl ?_
    refine p_iadd 36 rfl dX9_row_35 ?_
    rw [nI_add]
    refine p_iload_n 3 37 rfl rfl dX9_row_36 rfl ?_
    refine p_bipush (9) 39 rfl dX9_row_37 rfl ?_
    refine p_icmp_ge 51 42 rfl rfl dX9_row_39 (fun h39 => ?_) (fun h39 => ?_)
    · refine p_iload_n 2 52 rfl rfl dX9_row_51 rfl ?_
      refine p_if_ne 70 55 rfl rfl dX9_row_52 (fun h52 => ?_) (fun h52 => ?_)
      · have hno : ¬ ((l < 9 ∧ u.testBit l = true) ∨ (u = 0 ∧ l = 9)) := fun z => z.elim (fun z => absurd z.1 (by have : ¬ l < 9 := fun w => absurd h39 (nI_ge (a := l) (b := 9) w (by decide)); exact this)) (fun z => h52 (by rw [z.1]; rfl))
        refine p_iconst (0) 71 rfl dX9_row_70 rfl ?_
        refine p_iastE 72 rfl dX9_row_71 (i := 10 * u + l) rfl (by show _ < 5120; omega) ?_
        refine p_inc_3 75 rfl dX9_row_72 (1) rfl (Nat.le_of_ble_eq_true rfl) rfl ?_
        refine p_goto 20 rfl dX9_row_75 ?_
        rw [nI_1]
        refine ih (l + 1) _ (by omega) (fun u2 h1 h2 l2 h3 => ?_) (fun l2 h3 => ?_) (hF.tr (Fr.sA (by simp)))
        · rw [sA_s, pk_un (by omega)]; exact htb u2 h1 h2 l2 h3
        · rw [sA_s]
          rcases Nat.lt_or_ge l2 l with z | z
          · rw [pk_un (by omega)]; exact hrw l2 z
          · rw [show l2 = l by omega, pk_us]
            rw [show mv (tO A) (tV A) u l = 0 from if_neg hno]; rfl
      · refine p_iload_n 3 56 rfl rfl dX9_row_55 rfl ?_
        refine p_bipush (9) 58 rfl dX9_row_56 rfl ?_
        refine p_icmp_ne 70 61 rfl rfl dX9_row_58 (fun h58 => ?_) (fun h58 => ?_)
        · have hno : ¬ ((l < 9 ∧ u.testBit l = true) ∨ (u = 0 ∧ l = 9)) := fun z => z.elim (fun z => absurd z.1 (by have : ¬ l < 9 := fun w => absurd h39 (nI_ge (a := l) (b := 9) w (by decide)); exact this)) (fun z => h58 (by rw [z.2]; rfl))
          refine p_iconst (0) 71 rfl dX9_row_70 rfl ?_
          refine p_iastE 72 rfl dX9_row_71 (i := 10 * u + l) rfl (by show _ < 5120; omega) ?_
          refine p_inc_3 75 rfl dX9_row_72 (1) rfl (Nat.le_of_ble_eq_true rfl) rfl ?_
          refine p_goto 20 rfl dX9_row_75 ?_
          rw [nI_1]
          refine ih (l + 1) _ (by omega) (fun u2 h1 h2 l2 h3 => ?_) (fun l2 h3 => ?_) (hF.tr (Fr.sA (by simp)))
          · rw [sA_s, pk_un (by omega)]; exact htb u2 h1 h2 l2 h3
          · rw [sA_s]
            rcases Nat.lt_or_ge l2 l with z | z
            · rw [pk_un (by omega)]; exact hrw l2 z
            · rw [show l2 = l by omega, pk_us]
              rw [show mv (tO A) (tV A) u l = 0 from if_neg hno]; rfl
        · have hu0 : u = 0 := nI_eqI (show nI u = nI 0 from h52) (by omega) (by decide)
          have hl9 : l = 9 := nI_eqI (show nI l = nI 9 from h58) (by omega) (by decide)
          have hcond : (l < 9 ∧ u.testBit l = true) ∨ (u = 0 ∧ l = 9) := Or.inr ⟨hu0, hl9⟩
          have hla : l = 9 ∨ l < aS (tO A) := Or.inl hl9
          refine p_aload_n 0 62 rfl rfl dX9_row_61 rfl ?_
          refine p_iload_n 2 63 rfl rfl dX9_row_62 rfl ?_
          refine p_iload_n 3 64 rfl rfl dX9_row_63 rfl ?_
          refine p_cV2i 67 rfl dX9_row_64 (c_mostB hR1 hu hla (fun u2 h1 h2 l2 h3 => htb u2 (by omega) h2 l2 h3)) ml_X9_435 vl_X9_mostBehind rfl (by decide) rfl (Nat.le_of_ble_eq_true rfl) (Nat.le_of_ble_eq_true rfl) rfl ?_
          refine p_goto 71 rfl dX9_row_67 ?_
          refine p_iastE 72 rfl dX9_row_71 (i := 10 * u + l) rfl (by show _ < 5120; omega) ?_
          refine p_inc_3 75 rfl dX9_row_72 (1) rfl (Nat.le_of_ble_eq_true rfl) rfl ?_
          refine p_goto 20 rfl dX9_row_75 ?_
          rw [nI_1]
          refine ih (l + 1) _ (by omega) (fun u2 h1 h2 l2 h3 => ?_) (fun l2 h3 => ?_) (hF.tr (Fr.sA (by simp)))
          · rw [sA_s, pk_un (by omega)]; exact htb u2 h1 h2 l2 h3
          · rw [sA_s]
            rcases Nat.lt_or_ge l2 l with z | z
            · rw [pk_un (by omega)]; exact hrw l2 z
            · rw [show l2 = l by omega, pk_us]
              rw [mv_p hcond]
    · refine p_iload_n 2 43 rfl rfl dX9_row_42 rfl ?_
      refine p_iload_n 3 44 rfl rfl dX9_row_43 rfl ?_
      refine p_ishr 45 rfl dX9_row_44 ?_
      refine p_iconst (1) 46 rfl dX9_row_45 rfl ?_
      refine p_iand 47 rfl dX9_row_46 ?_
      refine p_iconst (1) 48 rfl dX9_row_47 rfl ?_
      rw [sb1 (by omega) (by omega)]
      refine p_icmp_eq 61 51 rfl rfl dX9_row_48 (fun h48 => ?_) (fun h48 => ?_)
      · have hl9 : l < 9 := (Nat.lt_or_ge l 9).elim id (fun z => absurd (nI_le z (by omega)) h39)
        have hbit : u.testBit l = true := b2i_1.mp h48
        have hcond : (l < 9 ∧ u.testBit l = true) ∨ (u = 0 ∧ l = 9) := Or.inl ⟨hl9, hbit⟩
        have hla : l = 9 ∨ l < aS (tO A) := Or.inr ((Nat.lt_or_ge l (aS (tO A))).elim id (fun z => by rw [Nat.testBit_lt_two_pow (Nat.lt_of_lt_of_le hu (Nat.pow_le_pow_right (by decide) z))] at hbit; cases hbit))
        refine p_aload_n 0 62 rfl rfl dX9_row_61 rfl ?_
        refine p_iload_n 2 63 rfl rfl dX9_row_62 rfl ?_
        refine p_iload_n 3 64 rfl rfl dX9_row_63 rfl ?_
        refine p_cV2i 67 rfl dX9_row_64 (c_mostB hR1 hu hla (fun u2 h1 h2 l2 h3 => htb u2 (by omega) h2 l2 h3)) ml_X9_435 vl_X9_mostBehind rfl (by decide) rfl (Nat.le_of_ble_eq_true rfl) (Nat.le_of_ble_eq_true rfl) rfl ?_
        refine p_goto 71 rfl dX9_row_67 ?_
        refine p_iastE 72 rfl dX9_row_71 (i := 10 * u + l) rfl (by show _ < 5120; omega) ?_
        refine p_inc_3 75 rfl dX9_row_72 (1) rfl (Nat.le_of_ble_eq_true rfl) rfl ?_
        refine p_goto 20 rfl dX9_row_75 ?_
        rw [nI_1]
        refine ih (l + 1) _ (by omega) (fun u2 h1 h2 l2 h3 => ?_) (fun l2 h3 => ?_) (hF.tr (Fr.sA (by simp)))
        · rw [sA_s, pk_un (by omega)]; exact htb u2 h1 h2 l2 h3
        · rw [sA_s]
          rcases Nat.lt_or_ge l2 l with z | z
          · rw [pk_un (by omega)]; exact hrw l2 z
          · rw [show l2 = l by omega, pk_us]
            rw [mv_p hcond]
      · refine p_iload_n 2 52 rfl rfl dX9_row_51 rfl ?_
        refine p_if_ne 70 55 rfl rfl dX9_row_52 (fun h52 => ?_) (fun h52 => ?_)
        · have hno : ¬ ((l < 9 ∧ u.testBit l = true) ∨ (u = 0 ∧ l = 9)) := fun z => z.elim (fun z => h48 (b2i_1.mpr z.2)) (fun z => h52 (by rw [z.1]; rfl))
          refine p_iconst (0) 71 rfl dX9_row_70 rfl ?_
          refine p_iastE 72 rfl dX9_row_71 (i := 10 * u + l) rfl (by show _ < 5120; omega) ?_
          refine p_inc_3 75 rfl dX9_row_72 (1) rfl (Nat.le_of_ble_eq_true rfl) rfl ?_
          refine p_goto 20 rfl dX9_row_75 ?_
          rw [nI_1]
          refine ih (l + 1) _ (by omega) (fun u2 h1 h2 l2 h3 => ?_) (fun l2 h3 => ?_) (hF.tr (Fr.sA (by simp)))
          · rw [sA_s, pk_un (by omega)]; exact htb u2 h1 h2 l2 h3
          · rw [sA_s]
            rcases Nat.lt_or_ge l2 l with z | z
            · rw [pk_un (by omega)]; exact hrw l2 z
            · rw [show l2 = l by omega, pk_us]
              rw [show mv (tO A) (tV A) u l = 0 from if_neg hno]; rfl
        · refine p_iload_n 3 56 rfl rfl dX9_row_55 rfl ?_
          refine p_bipush (9) 58 rfl dX9_row_56 rfl ?_
          refine p_icmp_ne 70 61 rfl rfl dX9_row_58 (fun h58 => ?_) (fun h58 => ?_)
          · have hno : ¬ ((l < 9 ∧ u.testBit l = true) ∨ (u = 0 ∧ l = 9)) := fun z => z.elim (fun z => h48 (b2i_1.mpr z.2)) (fun z => h58 (by rw [z.2]; rfl))
            refine p_iconst (0) 71 rfl dX9_row_70 rfl ?_
            refine p_iastE 72 rfl dX9_row_71 (i := 10 * u + l) rfl (by show _ < 5120; omega) ?_
            refine p_inc_3 75 rfl dX9_row_72 (1) rfl (Nat.le_of_ble_eq_true rfl) rfl ?_
            refine p_goto 20 rfl dX9_row_75 ?_
            rw [nI_1]
            refine ih (l + 1) _ (by omega) (fun u2 h1 h2 l2 h3 => ?_) (fun l2 h3 => ?_) (hF.tr (Fr.sA (by simp)))
            · rw [sA_s, pk_un (by omega)]; exact htb u2 h1 h2 l2 h3
            · rw [sA_s]
              rcases Nat.lt_or_ge l2 l with z | z
              · rw [pk_un (by omega)]; exact hrw l2 z
              · rw [show l2 = l by omega, pk_us]
                rw [show mv (tO A) (tV A) u l = 0 from if_neg hno]; rfl
          · have hu0 : u = 0 := nI_eqI (show nI u = nI 0 from h52) (by omega) (by decide)
            have hl9 : l = 9 := nI_eqI (show nI l = nI 9 from h58) (by omega) (by decide)
            have hcond : (l < 9 ∧ u.testBit l = true) ∨ (u = 0 ∧ l = 9) := Or.inr ⟨hu0, hl9⟩
            have hla : l = 9 ∨ l < aS (tO A) := Or.inl hl9
            refine p_aload_n 0 62 rfl rfl dX9_row_61 rfl ?_
            refine p_iload_n 2 63 rfl rfl dX9_row_62 rfl ?_
            refine p_iload_n 3 64 rfl rfl dX9_row_63 rfl ?_
            refine p_cV2i 67 rfl dX9_row_64 (c_mostB hR1 hu hla (fun u2 h1 h2 l2 h3 => htb u2 (by omega) h2 l2 h3)) ml_X9_435 vl_X9_mostBehind rfl (by decide) rfl (Nat.le_of_ble_eq_true rfl) (Nat.le_of_ble_eq_true rfl) rfl ?_
            refine p_goto 71 rfl dX9_row_67 ?_
            refine p_iastE 72 rfl dX9_row_71 (i := 10 * u + l) rfl (by show _ < 5120; omega) ?_
            refine p_inc_3 75 rfl dX9_row_72 (1) rfl (Nat.le_of_ble_eq_true rfl) rfl ?_
            refine p_goto 20 rfl dX9_row_75 ?_
            rw [nI_1]
            refine ih (l + 1) _ (by omega) (fun u2 h1 h2 l2 h3 => ?_) (fun l2 h3 => ?_) (hF.tr (Fr.sA (by simp)))
            · rw [sA_s, pk_un (by omega)]; exact htb u2 h1 h2 l2 h3
            · rw [sA_s]
              rcases Nat.lt_or_ge l2 l with z | z
              · rw [pk_un (by omega)]; exact hrw l2 z
              · rw [show l2 = l by omega, pk_us]
                rw [mv_p hcond]
set_option maxRecDepth 4000 in
theorem l_rowT {τ : PH} (hR0 : RM τ A) {x : Int32} {x4 x5 x6 x7 : Option Value} {Q : PO → PH → Prop} (kk : ∀ σ2 x3, TbM σ2 (tO A) (tV A) 0 → Fr [] [mMo] τ σ2 → Ok Γ 11 0 0 mX9_row 84 [some (.ref M0), some (.int x), some (.int (pI 0)), x3, x4, x5, x6, x7] [] σ2 Q) : ∀ (c : Nat) (σ1 : PH) (x3 : Option Value), c ≤ 2 ^ aS (tO A) → TbM σ1 (tO A) (tV A) c → Fr [] [mMo] τ σ1 → Ok Γ 11 0 0 mX9_row 14 [some (.ref M0), some (.int x), some (.int (pI c)), x3, x4, x5, x6, x7] [] σ1 Q := by
  have hK := hR0.2.1
  have hO := hK.2.2.1
  have hc6 := hO.2.1
  have hw12 := hO.2.2.1
  have hs9 := hO.1
  have hv := hK.2.2.2.2.1.1
  have hd9 := hK.2.2.2.2.1.2
  have hM := hR0.1
  have hw := hR0.2.2.1
  have hp := p9 hs9
  intro c
  induction c with
  | zero =>
    intro σ1 x3 hc htb hF
    refine p_iload_n 2 15 rfl rfl dX9_row_14 rfl ?_
    refine p_if_lt 84 18 rfl rfl dX9_row_15 (fun h15 => ?_) (fun h15 => absurd ((pI_lt0 (c := 0) (by decide)).mpr rfl) h15)
    exact kk σ1 _ htb hF
  | succ c ih =>
    intro σ1 x3 hc htb hF
    have hR1 := hR0.q (FQ.mo hF)
    refine p_iload_n 2 15 rfl rfl dX9_row_14 rfl ?_
    refine p_if_lt 84 18 rfl rfl dX9_row_15 (fun h15 => absurd ((pI_lt0' (c := c + 1) (by omega)).mp h15) (by omega)) (fun h15 => ?_)
    refine p_iconst (0) 19 rfl dX9_row_18 rfl ?_
    refine p_ist_n3 20 rfl rfl dX9_row_19 (Nat.le_of_ble_eq_true rfl) rfl ?_
    rw [pI_town]
    refine l_rowR hR1 (by omega) (fun σ2 x3 ht2 hF2 => ?_) 10 0 σ1 (by omega) htb (fun l2 h => absurd h (Nat.not_lt_zero _)) Fr.rf
    exact ih σ2 _ (by omega) ht2 (hF.tr hF2)
set_option maxRecDepth 4000 in
theorem l_rowP {τ : PH} (hR0 : RM τ A) (htb : TbM τ (tO A) (tV A) 0) {K u l i0 : Nat} {m2 : Int32} (hu : u < 2 ^ aS (tO A)) (hul : (l < 9 ∧ u.testBit l = true) ∨ (u = 0 ∧ l = 9)) (hl : l = 9 ∨ l < aS (tO A)) {Q : PO → PH → Prop} (kk : ∀ x7, Ok Γ 11 0 0 mX9_row 211 [some (.ref M0), some (.int (nI K)), some (.int m2), some (.int (nI u)), some (.int (nI l)), some (.int (nI i0)), some (.int (oI (fnd (aS (tO A)) 0 (pkF (tO A) (tV A) u l)))), x7] [] τ Q) : ∀ (i : Nat), i ≤ aS (tO A) → Ok Γ 11 0 0 mX9_row 150 [some (.ref M0), some (.int (nI K)), some (.int m2), some (.int (nI u)), some (.int (nI l)), some (.int (nI i0)), some (.int (oI (fnd (aS (tO A) - i) i (pkF (tO A) (tV A) u l)))), some (.int (pI i))] [] τ Q := by
  have hK := hR0.2.1
  have hO := hK.2.2.1
  have hc6 := hO.2.1
  have hw12 := hO.2.2.1
  have hs9 := hO.1
  have hv := hK.2.2.2.2.1.1
  have hd9 := hK.2.2.2.2.1.2
  have hM := hR0.1
  have hw := hR0.2.2.1
  have hp := p9 hs9
  intro i
  induction i with
  | zero =>
    intro hi
    refine p_iload 7 152 rfl dX9_row_150 rfl ?_
    refine p_if_lt 211 155 rfl rfl dX9_row_152 (fun h152 => ?_) (fun h152 => absurd ((pI_lt0 (c := 0) (by decide)).mpr rfl) h152)
    exact kk _
  | succ i ih =>
    intro hi
    have hlt : i < aS (tO A) := by omega
    refine p_iload 7 152 rfl dX9_row_150 rfl ?_
    refine p_if_lt 211 155 rfl rfl dX9_row_152 (fun h152 => absurd ((pI_lt0 (c := i + 1) (by omega)).mp h152) (by omega)) (fun h152 => ?_)
    rw [pI_town]
    refine p_aload_n 0 156 rfl rfl dX9_row_155 rfl ?_
    refine p_iload_n 3 157 rfl rfl dX9_row_156 rfl ?_
    refine p_iload 4 159 rfl dX9_row_157 rfl ?_
    refine p_iload 7 161 rfl dX9_row_159 rfl ?_
    refine p_cV3i 164 rfl dX9_row_161 (c_canFollow hR0 (by omega) hlt hl) ml_X9_432 vl_X9_canFollow rfl (by decide) rfl (Nat.le_of_ble_eq_true rfl) (Nat.le_of_ble_eq_true rfl) rfl ?_
    refine p_if_eq 205 167 rfl rfl dX9_row_164 (fun h164 => ?_) (fun h164 => ?_)
    · refine p_inc_7 208 rfl dX9_row_205 (-1) rfl (Nat.le_of_ble_eq_true rfl) rfl ?_
      refine p_goto 150 rfl dX9_row_208 ?_
      have hb : cnF (tO A) (tV A) u l i = false := b2i_f h164
      have hpk : pkF (tO A) (tV A) u l i = false := by unfold pkF; rw [hb]; rfl
      rw [pI_dn]
      have e : fnd (aS (tO A) - i) i (pkF (tO A) (tV A) u l) = fnd (aS (tO A) - (i + 1)) (i + 1) (pkF (tO A) (tV A) u l) := by rw [show aS (tO A) - i = (aS (tO A) - (i + 1)) + 1 by omega]; simp only [fnd]; rw [if_neg (nt hpk)]
      rw [← e]
      exact ih (by omega)
    · have hb : cnF (tO A) (tV A) u l i = true := b2i_t h164
      have hg := or_gt (cnF_iff.mp hb).1.1
      have hol := or_ltn hu hlt
      have etb : hA τ mMo (10 * (u ||| 2 ^ i) + i) = nI (lc (tO A) (tV A) (u ||| 2 ^ i) i) := (htb _ (Nat.zero_le _) hol i (by omega)).trans (by rw [mv_p (Or.inl ⟨by omega, by rw [Nat.testBit_or, Nat.testBit_two_pow_self, Bool.or_true]⟩)])
      have hlb := lc_le (V := tV A) hs9 (u := u ||| 2 ^ i) (l := i) (by omega)
      refine p_iconst (1) 168 rfl dX9_row_167 rfl ?_
      refine p_aload_n 0 169 rfl rfl dX9_row_168 rfl ?_
      refine p_getR 9 50 172 rfl dX9_row_169 fl_X9_81 rfl rfl (show hR _ M0 50 = mMo from hM.1 50) (by decide) ?_
      refine p_bipush (10) 174 rfl dX9_row_172 rfl ?_
      refine p_iload_n 3 175 rfl rfl dX9_row_174 rfl ?_
      refine p_iconst (1) 176 rfl dX9_row_175 rfl ?_
      refine p_iload 7 178 rfl dX9_row_176 rfl ?_
      refine p_ishl 179 rfl dX9_row_178 ?_
      rw [one_shl _ (by omega)]
      refine p_ior 180 rfl dX9_row_179 ?_
      rw [nx_or]
      refine p_imul 181 rfl dX9_row_180 ?_
      rw [m10]
      refine p_iload 7 183 rfl dX9_row_181 rfl ?_
      refine p_iadd 184 rfl dX9_row_183 ?_
      rw [nI_add]
      refine p_ialdE 185 rfl dX9_row_184 (i := 10 * (u ||| 2 ^ i) + i) rfl (by show _ < 5120; omega) etb ?_
      refine p_iadd 186 rfl dX9_row_185 ?_
      rw [show (1 : Int32) + nI (lc (tO A) (tV A) (u ||| 2 ^ i) i) = nI (1 + lc (tO A) (tV A) (u ||| 2 ^ i) i) from nI_add 1 _]
      refine p_aload_n 0 187 rfl rfl dX9_row_186 rfl ?_
      refine p_getR 9 50 190 rfl dX9_row_187 fl_X9_81 rfl rfl (show hR _ M0 50 = mMo from hM.1 50) (by decide) ?_
      refine p_bipush (10) 192 rfl dX9_row_190 rfl ?_
      refine p_iload_n 3 193 rfl rfl dX9_row_192 rfl ?_
      refine p_imul 194 rfl dX9_row_193 ?_
      rw [m10]
      refine p_iload 4 196 rfl dX9_row_194 rfl ?_
      refine p_iadd 197 rfl dX9_row_196 ?_
      rw [nI_add]
      have el : hA τ mMo (10 * u + l) = nI (lc (tO A) (tV A) u l) := (htb u (Nat.zero_le _) hu l (by omega)).trans (by rw [mv_p hul])
      have hlb2 := lc_le (V := tV A) hs9 (u := u) (l := l) (by omega)
      refine p_ialdE 198 rfl dX9_row_197 (i := 10 * u + l) rfl (by show _ < 5120; omega) el ?_
      refine p_icmp_ne 205 201 rfl rfl dX9_row_198 (fun h198 => ?_) (fun h198 => ?_)
      · refine p_inc_7 208 rfl dX9_row_205 (-1) rfl (Nat.le_of_ble_eq_true rfl) rfl ?_
        refine p_goto 150 rfl dX9_row_208 ?_
        have hpk : pkF (tO A) (tV A) u l i = false := by unfold pkF; rw [show (1 + lc (tO A) (tV A) (u ||| 2 ^ i) i == lc (tO A) (tV A) u l) = false by rw [beq_eq_false_iff_ne]; exact fun z => h198 (by rw [z]), Bool.and_false]
        rw [pI_dn]
        have e : fnd (aS (tO A) - i) i (pkF (tO A) (tV A) u l) = fnd (aS (tO A) - (i + 1)) (i + 1) (pkF (tO A) (tV A) u l) := by rw [show aS (tO A) - i = (aS (tO A) - (i + 1)) + 1 by omega]; simp only [fnd]; rw [if_neg (nt hpk)]
        rw [← e]
        exact ih (by omega)
      · refine p_iload 7 203 rfl dX9_row_201 rfl ?_
        refine p_ist_6 205 rfl dX9_row_203 (Nat.le_of_ble_eq_true rfl) rfl ?_
        refine p_inc_7 208 rfl dX9_row_205 (-1) rfl (Nat.le_of_ble_eq_true rfl) rfl ?_
        refine p_goto 150 rfl dX9_row_208 ?_
        have hpk : pkF (tO A) (tV A) u l i = true := by unfold pkF; rw [hb, show (1 + lc (tO A) (tV A) (u ||| 2 ^ i) i == lc (tO A) (tV A) u l) = true by rw [beq_iff_eq]; exact nI_eqI h198 (by omega) (by omega)]; rfl
        rw [pI_dn]
        have e : fnd (aS (tO A) - i) i (pkF (tO A) (tV A) u l) = some i := by rw [show aS (tO A) - i = (aS (tO A) - (i + 1)) + 1 by omega]; simp only [fnd]; rw [if_pos hpk]
        have this := ih (by omega)
        rw [e] at this
        exact this
set_option maxRecDepth 8000 in
theorem l_rowW {τ : PH} (hR0 : RM τ A) (h0 : hI τ M0 0 = 0) (hc1 : ChM σ τ) (htb : TbM τ (tO A) (tV A) 0) {K m : Nat} (hK9 : K < 1000) {m2 : Int32} : ∀ (r i0 u l x f : Nat) (x6 x7 : Option Value), i0 + r = K → r < f + 1 → i0 + (f + 1) = m → u < 2 ^ aS (tO A) → ((l < 9 ∧ u.testBit l = true) ∨ (u = 0 ∧ l = 9)) → (l = 9 ∨ l < aS (tO A)) → lc (tO A) (tV A) u l = f + 1 → (∀ s, s < aS (tO A) → ¬ vP (tV A) s = 0 → (Nat.testBit x s = true ↔ (l = 9 ∨ fitt (tO A) (tV A) l s = true))) → Ok Γ 11 0 0 mX9_row 133 [some (.ref M0), some (.int (nI K)), some (.int m2), some (.int (nI u)), some (.int (nI l)), some (.int (nI i0)), x6, x7] [] τ (rM (0, nI ((rwL (ftg (tO A) (tV A)) (rT (tO A) (tV A)) (2 ^ aS (tO A) - 1) m (f + 1) i0 u x).getD r 0)) (fun σ' => RM σ' A ∧ ChM σ σ')) := by
  have hK := hR0.2.1
  have hO := hK.2.2.1
  have hc6 := hO.2.1
  have hw12 := hO.2.2.1
  have hs9 := hO.1
  have hv := hK.2.2.2.2.1.1
  have hd9 := hK.2.2.2.2.1.2
  have hM := hR0.1
  have hw := hR0.2.2.1
  have hp := p9 hs9
  intro r
  induction r with
  | zero =>
    intro i0 u l x f x6 x7 hK0 hr hm hu hul hl hf hx
    refine p_iload 5 135 rfl dX9_row_133 rfl ?_
    refine p_iload_n 1 136 rfl rfl dX9_row_135 rfl ?_
    refine p_icmp_gt 228 139 rfl rfl dX9_row_136 (fun h136 => absurd h136 (nI_nlt (a := K) (b := i0) (by omega) (by omega))) (fun h136 => ?_)
    refine p_iconst (-1) 140 rfl dX9_row_139 rfl ?_
    refine p_ist_6 142 rfl dX9_row_140 (Nat.le_of_ble_eq_true rfl) rfl ?_
    refine p_aload_n 0 143 rfl rfl dX9_row_142 rfl ?_
    refine p_getIE 9 1 146 rfl dX9_row_143 fl_X9_280 rfl rfl hM.2.2.1.1 ?_
    refine p_iconst (1) 147 rfl dX9_row_146 rfl ?_
    refine p_isub 148 rfl dX9_row_147 ?_
    refine p_ist_7 150 rfl dX9_row_148 (Nat.le_of_ble_eq_true rfl) rfl ?_
    rw [show nI (aS (tO A)) - 1 = pI (aS (tO A)) from rfl]
    have e0 : (-1 : Int32) = oI (fnd (aS (tO A) - aS (tO A)) (aS (tO A)) (pkF (tO A) (tV A) u l)) := by rw [Nat.sub_self]; rfl
    rw [e0]
    obtain ⟨s, hs, e1, e2, e3, e4⟩ := rwL_c hs9 (i := i0) (f := f) hm (show u < 512 by omega) hf hx
    refine l_rowP hR0 htb hu hul hl (fun x7 => ?_) (aS (tO A)) (Nat.le_refl _)
    rw [e2]
    show Ok Γ 11 0 0 mX9_row 211 [some (.ref M0), some (.int (nI K)), some (.int m2), some (.int (nI u)), some (.int (nI l)), some (.int (nI i0)), some (.int (nI s)), x7] [] τ _
    refine p_iload_n 3 212 rfl rfl dX9_row_211 rfl ?_
    refine p_iconst (1) 213 rfl dX9_row_212 rfl ?_
    refine p_iload 6 215 rfl dX9_row_213 rfl ?_
    refine p_ishl 216 rfl dX9_row_215 ?_
    rw [one_shl _ (by omega)]
    refine p_ior 217 rfl dX9_row_216 ?_
    rw [nx_or]
    refine p_ist_n3 218 rfl rfl dX9_row_217 (Nat.le_of_ble_eq_true rfl) rfl ?_
    refine p_iload 6 220 rfl dX9_row_218 rfl ?_
    refine p_ist_4 222 rfl dX9_row_220 (Nat.le_of_ble_eq_true rfl) rfl ?_
    refine p_inc_5 225 rfl dX9_row_222 (1) rfl (Nat.le_of_ble_eq_true rfl) rfl ?_
    refine p_goto 133 rfl dX9_row_225 ?_
    rw [nI_1]
    refine p_iload 5 135 rfl dX9_row_133 rfl ?_
    refine p_iload_n 1 136 rfl rfl dX9_row_135 rfl ?_
    refine p_icmp_gt 228 139 rfl rfl dX9_row_136 (fun h136 => ?_) (fun h136 => absurd (nI_lt (a := K) (b := i0 + 1) (by omega) (by omega)) h136)
    refine p_iload 4 230 rfl dX9_row_228 rfl ?_
    exact p_iret dX9_row_230 rfl ⟨_, rfl, h0, fun _ => by rw [e1]; rfl, hR0, hc1⟩
  | succ r ih =>
    intro i0 u l x f x6 x7 hK0 hr hm hu hul hl hf hx
    refine p_iload 5 135 rfl dX9_row_133 rfl ?_
    refine p_iload_n 1 136 rfl rfl dX9_row_135 rfl ?_
    refine p_icmp_gt 228 139 rfl rfl dX9_row_136 (fun h136 => absurd h136 (nI_nlt (a := K) (b := i0) (by omega) (by omega))) (fun h136 => ?_)
    refine p_iconst (-1) 140 rfl dX9_row_139 rfl ?_
    refine p_ist_6 142 rfl dX9_row_140 (Nat.le_of_ble_eq_true rfl) rfl ?_
    refine p_aload_n 0 143 rfl rfl dX9_row_142 rfl ?_
    refine p_getIE 9 1 146 rfl dX9_row_143 fl_X9_280 rfl rfl hM.2.2.1.1 ?_
    refine p_iconst (1) 147 rfl dX9_row_146 rfl ?_
    refine p_isub 148 rfl dX9_row_147 ?_
    refine p_ist_7 150 rfl dX9_row_148 (Nat.le_of_ble_eq_true rfl) rfl ?_
    rw [show nI (aS (tO A)) - 1 = pI (aS (tO A)) from rfl]
    have e0 : (-1 : Int32) = oI (fnd (aS (tO A) - aS (tO A)) (aS (tO A)) (pkF (tO A) (tV A) u l)) := by rw [Nat.sub_self]; rfl
    rw [e0]
    obtain ⟨s, hs, e1, e2, e3, e4⟩ := rwL_c hs9 (i := i0) (f := f) hm (show u < 512 by omega) hf hx
    refine l_rowP hR0 htb hu hul hl (fun x7 => ?_) (aS (tO A)) (Nat.le_refl _)
    rw [e2]
    show Ok Γ 11 0 0 mX9_row 211 [some (.ref M0), some (.int (nI K)), some (.int m2), some (.int (nI u)), some (.int (nI l)), some (.int (nI i0)), some (.int (nI s)), x7] [] τ _
    refine p_iload_n 3 212 rfl rfl dX9_row_211 rfl ?_
    refine p_iconst (1) 213 rfl dX9_row_212 rfl ?_
    refine p_iload 6 215 rfl dX9_row_213 rfl ?_
    refine p_ishl 216 rfl dX9_row_215 ?_
    rw [one_shl _ (by omega)]
    refine p_ior 217 rfl dX9_row_216 ?_
    rw [nx_or]
    refine p_ist_n3 218 rfl rfl dX9_row_217 (Nat.le_of_ble_eq_true rfl) rfl ?_
    refine p_iload 6 220 rfl dX9_row_218 rfl ?_
    refine p_ist_4 222 rfl dX9_row_220 (Nat.le_of_ble_eq_true rfl) rfl ?_
    refine p_inc_5 225 rfl dX9_row_222 (1) rfl (Nat.le_of_ble_eq_true rfl) rfl ?_
    refine p_goto 133 rfl dX9_row_225 ?_
    rw [nI_1]
    refine Ok.mono (ih (i0 + 1) (u ||| 2 ^ s) s (ftg (tO A) (tV A) s) (f - 1) _ _ (by omega) (by omega) (by omega) (or_ltn hu hs) (Or.inl ⟨by omega, by rw [Nat.testBit_or, Nat.testBit_two_pow_self, Bool.or_true]⟩) (Or.inr hs) (by rw [show f - 1 + 1 = f by omega]; exact e3) e4) ?_
    rintro o1 σ1 ⟨v, q1, q2, q3, q4⟩
    refine ⟨v, q1, q2, fun z => ?_, q4⟩
    rw [q3 z, e1, show f - 1 + 1 = f by omega]
    rfl
theorem m1_lt {n : Nat} (h : n < 1000) : ¬ nI n ≤ -1 := by
  rw [Int32.le_iff_toInt_le, nI_toInt (by omega)]
  show ¬ (n : Int) ≤ -1
  omega
theorem ge_0 {x : Int32} (h1 : ¬ x < -1) (h2 : ¬ x = -1) : 0 ≤ x := by
  rw [Int32.lt_iff_toInt_lt] at h1
  have h3 : ¬ x.toInt = -1 := fun z => h2 (Int32.toInt_inj.mp z)
  rw [Int32.le_iff_toInt_le]
  have : (-1 : Int32).toInt = -1 := rfl
  rw [this] at h1
  show (0 : Int) ≤ x.toInt
  omega
set_option maxRecDepth 10000 in
theorem q_row (hRM : RM σ A) (x : Int32) : CallOk Γ 12 0 0 mX9_row [.ref M0, .int x] σ (rM (fRow A x) (fun σ' => RM σ' A ∧ ChM σ σ')) := by
  have hK := hRM.2.1
  have hO := hK.2.2.1
  have hs9 := hO.1
  have hc6 := hO.2.1
  have hw12 := hO.2.2.1
  have hk8 := hO.2.2.2.1
  have hv := hK.2.2.2.2.1.1
  have hd9 := hK.2.2.2.2.1.2
  refine p_enter rfl rfl (Nat.le_of_ble_eq_true rfl) rfl ?_
  refine p_aload_n 0 1 rfl rfl dX9_row_0 rfl ?_
  refine p_iconst (0) 2 rfl dX9_row_1 rfl ?_
  refine p_putI 9 0 5 rfl dX9_row_2 fl_X9_102 rfl rfl (Or.inl rfl) ?_
  have hQ : FQ σ (sI σ M0 0 0) := FQ.th
  have hR0 := hRM.q hQ
  have h0 : hI (sI σ M0 0 0) M0 0 = 0 := hI_sI _ _ _ _
  generalize sI σ M0 0 0 = τ at hQ hR0 h0 ⊢
  have hM := hR0.1
  have hw := hR0.2.2.1
  have hp := p9 hs9
  refine p_iconst (1) 6 rfl dX9_row_5 rfl ?_
  refine p_aload_n 0 7 rfl rfl dX9_row_6 rfl ?_
  refine p_getIE 9 1 10 rfl dX9_row_7 fl_X9_280 rfl rfl hM.2.2.1.1 ?_
  refine p_ishl 11 rfl dX9_row_10 ?_
  rw [one_shl _ (by omega)]
  refine p_iconst (1) 12 rfl dX9_row_11 rfl ?_
  refine p_isub 13 rfl dX9_row_12 ?_
  refine p_ist_n2 14 rfl rfl dX9_row_13 (Nat.le_of_ble_eq_true rfl) rfl ?_
  rw [show nI (2 ^ aS (tO A)) - 1 = pI (2 ^ aS (tO A)) from rfl]
  refine Ok.sub (l_rowT hR0 (fun σ2 x3 ht2 hF2 => ?_) (2 ^ aS (tO A)) τ _ (Nat.le_refl _) (fun u h1 h2 => absurd h2 (by omega)) Fr.rf) (d' := 12) (by decide) (by decide) (by decide)
  have hR2 := hR0.q (FQ.mo hF2)
  have hM2 := hR2.1
  have h02 : hI σ2 M0 0 = 0 := (hF2.2.1 M0 0 (by simp)).trans h0
  have em : hA σ2 mMo 9 = nI (lc (tO A) (tV A) 0 9) := (ht2 0 (Nat.le_refl _) (by omega) 9 (by omega)).trans (by rw [mv_p (Or.inr ⟨rfl, rfl⟩)])
  have elen : (rwA (tO A) (tV A)).length = lc (tO A) (tV A) 0 9 := rwA_len hs9
  have hlen : (rwA (tO A) (tV A)).length ≤ 512 := by rw [elen]; exact lc_le hs9 (by decide)
  have hx0' := hx0 (O := tO A) (V := tV A)
  refine p_aload_n 0 85 rfl rfl dX9_row_84 rfl ?_
  refine p_getR 9 50 88 rfl dX9_row_85 fl_X9_81 rfl rfl (show hR _ M0 50 = mMo from hM2.1 50) (by decide) ?_
  refine p_bipush (9) 90 rfl dX9_row_88 rfl ?_
  refine p_ialdE 91 rfl dX9_row_90 (i := 9) rfl (by decide) em ?_
  refine p_ist_n2 92 rfl rfl dX9_row_91 (Nat.le_of_ble_eq_true rfl) rfl ?_
  refine p_aload_n 0 93 rfl rfl dX9_row_92 rfl ?_
  refine p_iload_n 1 94 rfl rfl dX9_row_93 rfl ?_
  refine p_iconst (-1) 95 rfl dX9_row_94 rfl ?_
  refine p_icmp_lt 107 98 rfl rfl dX9_row_95 (fun h95 => ?_) (fun h95 => ?_)
  · have hno : ¬ x = -1 := fun z => absurd h95 (by rw [z]; decide)
    have hin : inR x (rwA (tO A) (tV A)).length = false := by unfold inR; rw [decide_eq_false (fun z : 0 ≤ x => absurd (Int32.lt_of_le_of_lt z h95) (by decide))]; rfl
    refine p_iconst (0) 108 rfl dX9_row_107 rfl ?_
    refine p_iconst (1) 109 rfl dX9_row_108 rfl ?_
    refine p_cV2x 0 0 112 rfl dX9_row_109 (c_right h02 false (by decide)) ml_X9_273 vl_X9_right rfl (by decide) rfl (Nat.le_of_ble_eq_true rfl) (Nat.le_of_ble_eq_true rfl) (Nat.le_of_ble_eq_true rfl) (Nat.le_of_ble_eq_true rfl) rfl ?_
    rintro v3 τ3 ⟨hv3, ht3, hf3⟩
    subst hv3
    refine p_if_ne 117 115 rfl rfl dX9_row_112 (fun h112 => absurd rfl h112) (fun h112 => ?_)
    have ee := hf3 rfl
    subst ee
    refine p_iconst (0) 116 rfl dX9_row_115 rfl ?_
    exact p_iret dX9_row_116 rfl ⟨_, rfl, by rw [fRow, if_neg hno, gd_f hin]; exact hI_sI _ _ _ _, fun q => absurd q (by rw [fRow, if_neg hno, gd_f hin]; decide), hR2.q FQ.th, (hQ.ch.tr (FQ.mo hF2).ch).tr FQ.th.ch⟩
  · refine p_iload_n 1 99 rfl rfl dX9_row_98 rfl ?_
    refine p_iload_n 2 100 rfl rfl dX9_row_99 rfl ?_
    refine p_icmp_ge 107 103 rfl rfl dX9_row_100 (fun h100 => ?_) (fun h100 => ?_)
    · have hno : ¬ x = -1 := fun z => absurd h100 (by rw [z]; exact m1_lt (by omega))
      have hin : inR x (rwA (tO A) (tV A)).length = false := by unfold inR; rw [elen, decide_eq_false (Int32.not_lt.mpr h100), Bool.and_false]
      refine p_iconst (0) 108 rfl dX9_row_107 rfl ?_
      refine p_iconst (1) 109 rfl dX9_row_108 rfl ?_
      refine p_cV2x 0 0 112 rfl dX9_row_109 (c_right h02 false (by decide)) ml_X9_273 vl_X9_right rfl (by decide) rfl (Nat.le_of_ble_eq_true rfl) (Nat.le_of_ble_eq_true rfl) (Nat.le_of_ble_eq_true rfl) (Nat.le_of_ble_eq_true rfl) rfl ?_
      rintro v3 τ3 ⟨hv3, ht3, hf3⟩
      subst hv3
      refine p_if_ne 117 115 rfl rfl dX9_row_112 (fun h112 => absurd rfl h112) (fun h112 => ?_)
      have ee := hf3 rfl
      subst ee
      refine p_iconst (0) 116 rfl dX9_row_115 rfl ?_
      exact p_iret dX9_row_116 rfl ⟨_, rfl, by rw [fRow, if_neg hno, gd_f hin]; exact hI_sI _ _ _ _, fun q => absurd q (by rw [fRow, if_neg hno, gd_f hin]; decide), hR2.q FQ.th, (hQ.ch.tr (FQ.mo hF2).ch).tr FQ.th.ch⟩
    · refine p_iconst (1) 104 rfl dX9_row_103 rfl ?_
      refine p_goto 108 rfl dX9_row_104 ?_
      refine p_iconst (1) 109 rfl dX9_row_108 rfl ?_
      refine p_cV2x 0 0 112 rfl dX9_row_109 (c_right h02 true (by decide)) ml_X9_273 vl_X9_right rfl (by decide) rfl (Nat.le_of_ble_eq_true rfl) (Nat.le_of_ble_eq_true rfl) (Nat.le_of_ble_eq_true rfl) (Nat.le_of_ble_eq_true rfl) rfl ?_
      rintro v3 τ3 ⟨hv3, ht3, hf3⟩
      subst hv3
      refine p_if_ne 117 115 rfl rfl dX9_row_112 (fun h112 => ?_) (fun h112 => absurd h112 (by decide))
      have ee := ht3 rfl
      subst ee
      refine p_iload_n 1 118 rfl rfl dX9_row_117 rfl ?_
      refine p_iconst (-1) 119 rfl dX9_row_118 rfl ?_
      refine p_icmp_ne 124 122 rfl rfl dX9_row_119 (fun h119 => ?_) (fun h119 => ?_)
      · refine p_iconst (0) 125 rfl dX9_row_124 rfl ?_
        refine p_ist_n3 126 rfl rfl dX9_row_125 (Nat.le_of_ble_eq_true rfl) rfl ?_
        refine p_bipush (9) 128 rfl dX9_row_126 rfl ?_
        refine p_ist_4 130 rfl dX9_row_128 (Nat.le_of_ble_eq_true rfl) rfl ?_
        refine p_iconst (0) 131 rfl dX9_row_130 rfl ?_
        refine p_ist_5 133 rfl dX9_row_131 (Nat.le_of_ble_eq_true rfl) rfl ?_
        have hx0 : inR x (rwA (tO A) (tV A)).length = true := by
          unfold inR
          rw [elen, decide_eq_true (Int32.not_le.mp h100), Bool.and_true, decide_eq_true_eq]
          exact ge_0 h95 h119
        obtain ⟨K, rfl, hKl⟩ := asN hx0 (by omega)
        have hKL : K < 2147483648 := by omega
        obtain ⟨f, hff⟩ : ∃ f, lc (tO A) (tV A) 0 9 = f + 1 := ⟨lc (tO A) (tV A) 0 9 - 1, by omega⟩
        have e : fRow A (nI K) = (0, nI ((rwL (ftg (tO A) (tV A)) (rT (tO A) (tV A)) (2 ^ aS (tO A) - 1) (f + 1) (f + 1) 0 0 (unb (tO A) (tV A))).getD K 0)) := by
          rw [fRow, if_neg h119, gd_t hx0, iN_nI hKL, ← hff, ← rM_lc hs9]; rfl
        rw [e]
        exact Ok.sub (l_rowW hR2 h02 (hQ.ch.tr (FQ.mo hF2).ch) ht2 (m := f + 1) (by omega) K 0 0 9 (unb (tO A) (tV A)) f _ _ (by omega) (by omega) (by omega) (by omega) (Or.inr ⟨rfl, rfl⟩) (Or.inl rfl) hff hx0') (by decide) (by decide) (by decide)
      · refine p_iload_n 2 123 rfl rfl dX9_row_122 rfl ?_
        exact p_iret dX9_row_123 rfl ⟨_, rfl, by rw [fRow, if_pos h119]; exact h02, fun _ => by rw [fRow, if_pos h119, elen], hR2, hQ.ch.tr (FQ.mo hF2).ch⟩
end C9c
