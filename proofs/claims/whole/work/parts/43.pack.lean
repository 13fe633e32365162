/-! ===== worlds packed ===== -/
/-- bounds that packing needs -/
def OkB (V : AW) : Prop := (∀ s, s < 9 → vL V s < 256 ∧ vR V s < 256 ∧ vP V s < 11)
def pkN (V : AW) (s : Nat) : Nat := vL V s + 256 * vR V s + 65536 * vP V s
def PkA (f : Nat → Int32) (b : Nat) (V : AW) : Prop := f b = nI (vD V) ∧ (∀ s, s < 9 → f (b + 1 + s) = nI (pkN V s)) ∧ ∀ c, c < 6 → f (b + 10 + c) = nI (vK V c)
theorem sm8 : (((8 : Int32) &&& 31).toBitVec.smod 32).toNat = 8 := by decide
theorem sm16 : (((16 : Int32) &&& 31).toBitVec.smod 32).toNat = 16 := by decide
theorem pI_p1 (p : Nat) : pI p - (-1) = nI p := by
  unfold pI
  show nI p - 1 - (-1) = nI p
  rw [Int32.sub_eq_add_neg (nI p - 1), Int32.neg_neg, Int32.sub_add_cancel]
theorem packE {l r p : Nat} (hl : l < 256) (hr : r < 256) (hp : p < 11) : (nI l ||| (nI r <<< ((8 : Int32) &&& 31))) ||| ((pI p - (-1)) <<< ((16 : Int32) &&& 31)) = nI (l + 256 * r + 65536 * p) := by
  rw [pI_p1, pk_shlN (n := r) _ 8 sm8 (by omega), pk_shlN (n := p) _ 16 sm16 (by omega), nx_or, nx_or]
  congr 1
  have e1 : l ||| r * 2 ^ 8 = 2 ^ 8 * r + l := by
    rw [Nat.two_pow_add_eq_or_of_lt (i := 8) hl, Nat.or_comm, Nat.mul_comm]
  rw [e1]
  have e2 : (2 ^ 8 * r + l) ||| p * 2 ^ 16 = 2 ^ 16 * p + (2 ^ 8 * r + l) := by
    rw [Nat.two_pow_add_eq_or_of_lt (i := 16) (by omega), Nat.or_comm, Nat.mul_comm p]
  rw [e2]
  omega
theorem up_l {l r p : Nat} (hl : l < 256) (hr : r < 256) (hp : p < 11) : nI (l + 256 * r + 65536 * p) &&& 255 = nI l := by
  rw [pk_andN (by omega) 8 (by decide)]
  congr 1; omega
theorem up_r {l r p : Nat} (hl : l < 256) (hr : r < 256) (hp : p < 11) : (nI (l + 256 * r + 65536 * p) >>> ((8 : Int32) &&& 31)) &&& 255 = nI r := by
  rw [pk_shrN (by omega) _ 8 sm8, pk_andN (by omega) 8 (by decide)]
  congr 1; omega
theorem up_p {l r p : Nat} (hl : l < 256) (hr : r < 256) (hp : p < 11) : (nI (l + 256 * r + 65536 * p) >>> ((16 : Int32) &&& 31)) + (-1) = pI p := by
  rw [pk_shrN (by omega) _ 16 sm16, show (l + 256 * r + 65536 * p) / 2 ^ 16 = p by omega]
  unfold pI
  exact (Int32.sub_eq_add_neg _ _).symm
section C43
variable {Γ : Gm} {σ : PH} {w r b : Nat} {V : AW}
theorem RpW.oth {σ : PH} {w r : Nat} {f : Nat → Int32} {V : AW} (h : RpW σ w V) (hr : r ∉ [wL w, wR w, wP w, wK w, wV w]) : RpW (sF σ r f) w V := by
  simp only [List.mem_cons, List.not_mem_nil, or_false, not_or] at hr
  obtain ⟨h1, h2, h3, h4⟩ := h
  refine ⟨h1, h2, fun s hs => ?_, fun c hc => ?_⟩
  · rw [sF_o (Ne.symm hr.1), sF_o (Ne.symm hr.2.1), sF_o (Ne.symm hr.2.2.1)]; exact h3 s hs
  · rw [sF_o (Ne.symm hr.2.2.2.1)]; exact h4 c hc
set_option maxRecDepth 4000 in
theorem l_packInto (hw0 : RpW σ w V) (hb : b + 16 ≤ 640) (hk : kd r = 16) (hl : ln r = 640) (hB : OkB V) (hr : r ∉ [wL w, wR w, wP w, wK w, wV w]) : ∀ (n i : Nat) (f : Nat → Int32), i + n = 9 → RpW (sF σ r f) w V → (∀ s, s < i → f (b + 1 + s) = nI (pkN V s)) → f b = nI (vD V) → (∀ j, (j < b ∨ b + 16 ≤ j) → f j = hA σ r j) → Ok Γ 1 0 0 mX7_packInto 9 [some (.ref w), some (.ref r), some (.int (nI b)), some (.int (nI i))] [] (sF σ r f) (rV (fun σ' => ∃ f, σ' = sF σ r f ∧ PkA f b V ∧ ∀ j, (j < b ∨ b + 16 ≤ j) → f j = hA σ r j)) := by
  intro n
  induction n with
  | zero =>
    intro i f hi hw h1 h2 h3
    have hi9 : i = 9 := by omega
    refine p_iload_n 3 10 rfl rfl dX7_packInto_9 rfl ?_
    refine p_bipush (9) 12 rfl dX7_packInto_10 rfl ?_
    refine p_icmp_ge 56 15 rfl rfl dX7_packInto_12 (fun h12 => ?_) (fun h12 => absurd (nI_le (a := 9) (b := i) (by omega) (by omega)) h12)
    refine p_aload_n 0 57 rfl rfl dX7_packInto_56 rfl ?_
    refine p_getR 7 5 60 rfl dX7_packInto_57 fl_X7_25 hw.1.1.kd rfl hw.1.2.2.2.2.1 (mk0 (Nat.succ_ne_zero _)) ?_
    refine p_iconst (0) 61 rfl dX7_packInto_60 rfl ?_
    refine p_aload_n 1 62 rfl rfl dX7_packInto_61 rfl ?_
    refine p_iload_n 2 63 rfl rfl dX7_packInto_62 rfl ?_
    refine p_iconst (1) 64 rfl dX7_packInto_63 rfl ?_
    refine p_iadd 65 rfl dX7_packInto_64 ?_
    refine p_bipush (9) 67 rfl dX7_packInto_65 rfl ?_
    refine p_iadd 68 rfl dX7_packInto_67 ?_
    refine p_bipush (6) 70 rfl dX7_packInto_68 rfl ?_
    rw [nI_1, show (9 : Int32) = nI 9 from rfl, nI_add]
    refine p_copy 73 rfl dX7_packInto_70 cl_X7_38 (r := wK w) (kd16 _ _) hk (by decide) (fun z => nI_pos (by omega) z) (by decide) (by rw [cl0, cl6]; exact Nat.le_of_eq (by rw [show ln (wK w) = 6 from ln6 _])) (by rw [nI_clamp (by omega), cl6, hl]; omega) (Nat.le_of_ble_eq_true rfl) (Nat.le_of_ble_eq_true rfl) ?_
    exact p_vret dX7_packInto_73 rfl ⟨rfl, by
      rw [nI_clamp (by omega), cl0, cl6, sF_sF, hA_sF]
      refine ⟨_, rfl, ⟨?_, fun s hs => ?_, fun c hc => ?_⟩, fun j hj => ?_⟩
      · rw [pk_cpy_out (by omega)]; exact h2
      · rw [pk_cpy_out (by omega)]; exact h1 s (by omega)
      · rw [pk_cpy_in (by omega) (by omega), show 0 + (b + 10 + c - (b + 1 + 9)) = c by omega]; exact hw.2.2.2 c hc
      · rw [pk_cpy_out (by omega)]; exact h3 j hj⟩
  | succ n ih =>
    intro i f hi hw h1 h2 h3
    have hlt : i < 9 := by omega
    refine p_iload_n 3 10 rfl rfl dX7_packInto_9 rfl ?_
    refine p_bipush (9) 12 rfl dX7_packInto_10 rfl ?_
    refine p_icmp_ge 56 15 rfl rfl dX7_packInto_12 (fun h12 => absurd h12 (nI_ge (a := i) (b := 9) hlt (by omega))) (fun h12 => ?_)
    refine p_aload_n 1 16 rfl rfl dX7_packInto_15 rfl ?_
    refine p_iload_n 2 17 rfl rfl dX7_packInto_16 rfl ?_
    refine p_iconst (1) 18 rfl dX7_packInto_17 rfl ?_
    refine p_iadd 19 rfl dX7_packInto_18 ?_
    refine p_iload_n 3 20 rfl rfl dX7_packInto_19 rfl ?_
    refine p_iadd 21 rfl dX7_packInto_20 ?_
    refine p_aload_n 0 22 rfl rfl dX7_packInto_21 rfl ?_
    refine p_getR 7 2 25 rfl dX7_packInto_22 fl_X7_15 hw.1.1.kd rfl hw.1.2.1 (mk0 (Nat.succ_ne_zero _)) ?_
    refine p_iload_n 3 26 rfl rfl dX7_packInto_25 rfl ?_
    refine p_ialdE 27 rfl dX7_packInto_26 (kd16 _ _) (lt9 (by omega)) (hw.2.2.1 i (by omega)).1 ?_
    refine p_aload_n 0 28 rfl rfl dX7_packInto_27 rfl ?_
    refine p_getR 7 3 31 rfl dX7_packInto_28 fl_X7_19 hw.1.1.kd rfl hw.1.2.2.1 (mk0 (Nat.succ_ne_zero _)) ?_
    refine p_iload_n 3 32 rfl rfl dX7_packInto_31 rfl ?_
    refine p_ialdE 33 rfl dX7_packInto_32 (kd16 _ _) (lt9 (by omega)) (hw.2.2.1 i (by omega)).2.1 ?_
    refine p_bipush (8) 35 rfl dX7_packInto_33 rfl ?_
    refine p_ishl 36 rfl dX7_packInto_35 ?_
    refine p_ior 37 rfl dX7_packInto_36 ?_
    refine p_aload_n 0 38 rfl rfl dX7_packInto_37 rfl ?_
    refine p_getR 7 4 41 rfl dX7_packInto_38 fl_X7_22 hw.1.1.kd rfl hw.1.2.2.2.1 (mk0 (Nat.succ_ne_zero _)) ?_
    refine p_iload_n 3 42 rfl rfl dX7_packInto_41 rfl ?_
    refine p_ialdE 43 rfl dX7_packInto_42 (kd16 _ _) (lt9 (by omega)) (hw.2.2.1 i (by omega)).2.2 ?_
    refine p_iconst (-1) 44 rfl dX7_packInto_43 rfl ?_
    refine p_isub 45 rfl dX7_packInto_44 ?_
    refine p_bipush (16) 47 rfl dX7_packInto_45 rfl ?_
    refine p_ishl 48 rfl dX7_packInto_47 ?_
    refine p_ior 49 rfl dX7_packInto_48 ?_
    rw [packE (hB i hlt).1 (hB i hlt).2.1 (hB i hlt).2.2, nI_1, nI_add]
    refine p_iastE 50 rfl dX7_packInto_49 (i := b + 1 + i) hk (by rw [hl]; omega) ?_
    refine p_inc_3 53 rfl dX7_packInto_50 (1) rfl (Nat.le_of_ble_eq_true rfl) rfl ?_
    refine p_goto 9 rfl dX7_packInto_53 ?_
    rw [nI_1, sA_sF]
    refine ih (i + 1) _ (by omega) (hw0.oth hr) (fun s hs => ?_) ?_ (fun j hj => ?_)
    · by_cases e : s = i
      · subst e; rw [pk_us]; rfl
      · rw [pk_un (by omega)]; exact h1 s (by omega)
    · rw [pk_un (by omega)]; exact h2
    · rw [pk_un (by omega)]; exact h3 j hj
set_option maxRecDepth 4000 in
theorem c_packInto (hw : RpW σ w V) (hb : b + 16 ≤ 640) (hk : kd r = 16) (hl : ln r = 640) (hB : OkB V) (hr : r ∉ [wL w, wR w, wP w, wK w, wV w]) : CallOk Γ 1 0 0 mX7_packInto [.ref w, .ref r, .int (nI b)] σ (rV (fun σ' => ∃ f, σ' = sF σ r f ∧ PkA f b V ∧ ∀ j, (j < b ∨ b + 16 ≤ j) → f j = hA σ r j)) := by
  refine p_enter rfl rfl (Nat.le_of_ble_eq_true rfl) rfl ?_
  refine p_aload_n 1 1 rfl rfl dX7_packInto_0 rfl ?_
  refine p_iload_n 2 2 rfl rfl dX7_packInto_1 rfl ?_
  refine p_aload_n 0 3 rfl rfl dX7_packInto_2 rfl ?_
  refine p_getIE 7 1 6 rfl dX7_packInto_3 fl_X7_9 hw.1.1.kd rfl hw.2.1 ?_
  refine p_iastE 7 rfl dX7_packInto_6 hk (by rw [hl]; omega) ?_
  refine p_iconst (0) 8 rfl dX7_packInto_7 rfl ?_
  refine p_ist_n3 9 rfl rfl dX7_packInto_8 (Nat.le_of_ble_eq_true rfl) rfl ?_
  refine l_packInto hw hb hk hl hB hr 9 0 _ (by omega) (hw.oth hr) (fun s hs => absurd hs (by omega)) (pk_us) (fun j hj => pk_un (by omega))
set_option maxRecDepth 4000 in
theorem l_unpackFrom (hb : b + 16 ≤ 640) (hk : kd r = 16) (hl : ln r = 640) (hB : OkB V) (hr : r ∉ [wL w, wR w, wP w, wK w, wV w]) (hP : PkA (hA σ r) b V) : ∀ (n i : Nat) (σ1 : PH) (V1 : AW) (x4 : Option Value), i + n = 9 → RpW σ1 w V1 → vD V1 = vD V → (∀ s, s < i → vL V1 s = vL V s ∧ vR V1 s = vR V s ∧ vP V1 s = vP V s) → hA σ1 r = hA σ r → Fr [(w, 1)] [wL w, wR w, wP w, wK w] σ σ1 → Ok Γ 1 0 0 mX7_unpackFrom 9 [some (.ref w), some (.ref r), some (.int (nI b)), some (.int (nI i)), x4] [] σ1 (rV (fun σ' => (∃ V', RpW σ' w V' ∧ vD V' = vD V ∧ (∀ s, s < 9 → vL V' s = vL V s ∧ vR V' s = vR V s ∧ vP V' s = vP V s) ∧ ∀ c, c < 6 → vK V' c = vK V c) ∧ Fr [(w, 1)] [wL w, wR w, wP w, wK w] σ σ')) := by
  intro n
  induction n with
  | zero =>
    intro i σ1 V1 x4 hi hw hD h1 hAr hF
    have hi9 : i = 9 := by omega
    refine p_iload_n 3 10 rfl rfl dX7_unpackFrom_9 rfl ?_
    refine p_bipush (9) 12 rfl dX7_unpackFrom_10 rfl ?_
    refine p_icmp_ge 70 15 rfl rfl dX7_unpackFrom_12 (fun h12 => ?_) (fun h12 => absurd (nI_le (a := 9) (b := i) (by omega) (by omega)) h12)
    refine p_aload_n 1 71 rfl rfl dX7_unpackFrom_70 rfl ?_
    refine p_iload_n 2 72 rfl rfl dX7_unpackFrom_71 rfl ?_
    refine p_iconst (1) 73 rfl dX7_unpackFrom_72 rfl ?_
    refine p_iadd 74 rfl dX7_unpackFrom_73 ?_
    refine p_bipush (9) 76 rfl dX7_unpackFrom_74 rfl ?_
    refine p_iadd 77 rfl dX7_unpackFrom_76 ?_
    refine p_aload_n 0 78 rfl rfl dX7_unpackFrom_77 rfl ?_
    refine p_getR 7 5 81 rfl dX7_unpackFrom_78 fl_X7_25 hw.1.1.kd rfl hw.1.2.2.2.2.1 (mk0 (Nat.succ_ne_zero _)) ?_
    refine p_iconst (0) 82 rfl dX7_unpackFrom_81 rfl ?_
    refine p_bipush (6) 84 rfl dX7_unpackFrom_82 rfl ?_
    rw [nI_1, show (9 : Int32) = nI 9 from rfl, nI_add]
    refine p_copy 87 rfl dX7_unpackFrom_84 cl_X7_38 (r := r) (r' := wK w) hk (kd16 _ _) (fun z => nI_pos (by omega) z) (by decide) (by decide) (by rw [nI_clamp (by omega), cl6, hl]; omega) (by rw [cl0, cl6]; exact Nat.le_of_eq (by rw [show ln (wK w) = 6 from ln6 _])) (Nat.le_of_ble_eq_true rfl) (Nat.le_of_ble_eq_true rfl) ?_
    exact p_vret dX7_unpackFrom_87 rfl ⟨rfl, by
      rw [nI_clamp (by omega), cl0, cl6]
      refine ⟨⟨wKn V1 (fun c => if c < 6 then vK V c else vK V1 c), ⟨hw.1, hw.2.1, fun s hs => ?_, fun c hc => ?_⟩, hD, fun s hs => h1 s (by omega), fun c hc => by show (if c < 6 then _ else _) = _; rw [if_pos hc]⟩, hF.tr (Fr.sF (by simp))⟩
      · rw [sF_o (wne w).2.2.1, sF_o (wne w).2.2.2.2.2.1, sF_o (wne w).2.2.2.2.2.2.2.1]; exact hw.2.2.1 s hs
      · rw [hA_sF, pk_cpy_in (by omega) (by omega), hAr, show b + 1 + 9 + (c - 0) = b + 10 + c by omega]
        show _ = nI (if c < 6 then vK V c else vK V1 c)
        rw [if_pos hc]; exact hP.2.2 c hc⟩
  | succ n ih =>
    intro i σ1 V1 x4 hi hw hD h1 hAr hF
    have hlt : i < 9 := by omega
    refine p_iload_n 3 10 rfl rfl dX7_unpackFrom_9 rfl ?_
    refine p_bipush (9) 12 rfl dX7_unpackFrom_10 rfl ?_
    refine p_icmp_ge 70 15 rfl rfl dX7_unpackFrom_12 (fun h12 => absurd h12 (nI_ge (a := i) (b := 9) hlt (by omega))) (fun h12 => ?_)
    refine p_aload_n 1 16 rfl rfl dX7_unpackFrom_15 rfl ?_
    refine p_iload_n 2 17 rfl rfl dX7_unpackFrom_16 rfl ?_
    refine p_iconst (1) 18 rfl dX7_unpackFrom_17 rfl ?_
    refine p_iadd 19 rfl dX7_unpackFrom_18 ?_
    refine p_iload_n 3 20 rfl rfl dX7_unpackFrom_19 rfl ?_
    refine p_iadd 21 rfl dX7_unpackFrom_20 ?_
    rw [nI_1, nI_add]
    refine p_ialdE 22 rfl dX7_unpackFrom_21 (i := b + 1 + i) hk (by rw [hl]; omega) ((congrFun hAr _).trans (hP.2.1 i hlt)) ?_
    refine p_ist_4 24 rfl dX7_unpackFrom_22 (Nat.le_of_ble_eq_true rfl) rfl ?_
    have b0 := hB i hlt
    unfold pkN
    refine p_aload_n 0 25 rfl rfl dX7_unpackFrom_24 rfl ?_
    refine p_getR 7 2 28 rfl dX7_unpackFrom_25 fl_X7_15 hw.1.1.kd rfl hw.1.2.1 (mk0 (Nat.succ_ne_zero _)) ?_
    refine p_iload_n 3 29 rfl rfl dX7_unpackFrom_28 rfl ?_
    refine p_iload 4 31 rfl dX7_unpackFrom_29 rfl ?_
    refine p_sipush (255) 34 rfl dX7_unpackFrom_31 rfl ?_
    refine p_iand 35 rfl dX7_unpackFrom_34 ?_
    rw [up_l b0.1 b0.2.1 b0.2.2]
    refine p_iastE 36 rfl dX7_unpackFrom_35 (kd16 _ _) (lt9 hlt) ?_
    refine p_aload_n 0 37 rfl rfl dX7_unpackFrom_36 rfl ?_
    refine p_getR 7 3 40 rfl dX7_unpackFrom_37 fl_X7_19 hw.1.1.kd rfl hw.1.2.2.1 (mk0 (Nat.succ_ne_zero _)) ?_
    refine p_iload_n 3 41 rfl rfl dX7_unpackFrom_40 rfl ?_
    refine p_iload 4 43 rfl dX7_unpackFrom_41 rfl ?_
    refine p_bipush (8) 45 rfl dX7_unpackFrom_43 rfl ?_
    refine p_ishr 46 rfl dX7_unpackFrom_45 ?_
    refine p_sipush (255) 49 rfl dX7_unpackFrom_46 rfl ?_
    refine p_iand 50 rfl dX7_unpackFrom_49 ?_
    rw [up_r b0.1 b0.2.1 b0.2.2]
    refine p_iastE 51 rfl dX7_unpackFrom_50 (kd16 _ _) (lt9 hlt) ?_
    refine p_aload_n 0 52 rfl rfl dX7_unpackFrom_51 rfl ?_
    refine p_getR 7 4 55 rfl dX7_unpackFrom_52 fl_X7_22 hw.1.1.kd rfl hw.1.2.2.2.1 (mk0 (Nat.succ_ne_zero _)) ?_
    refine p_iload_n 3 56 rfl rfl dX7_unpackFrom_55 rfl ?_
    refine p_iload 4 58 rfl dX7_unpackFrom_56 rfl ?_
    refine p_bipush (16) 60 rfl dX7_unpackFrom_58 rfl ?_
    refine p_ishr 61 rfl dX7_unpackFrom_60 ?_
    refine p_iconst (-1) 62 rfl dX7_unpackFrom_61 rfl ?_
    refine p_iadd 63 rfl dX7_unpackFrom_62 ?_
    rw [up_p b0.1 b0.2.1 b0.2.2]
    refine p_iastE 64 rfl dX7_unpackFrom_63 (kd16 _ _) (lt9 hlt) ?_
    refine p_inc_3 67 rfl dX7_unpackFrom_64 (1) rfl (Nat.le_of_ble_eq_true rfl) rfl ?_
    refine p_goto 9 rfl dX7_unpackFrom_67 ?_
    rw [nI_1]
    simp only [List.mem_cons, List.not_mem_nil, or_false, not_or] at hr
    refine ih (i + 1) _ _ _ (by omega) (((hw.setL (i := i) (x := vL V i)).setR (i := i) (x := vR V i)).setP (i := i) (x := vP V i)) hD (fun s hs => ?_) ?_ (((hF.tr (Fr.sA (by simp))).tr (Fr.sA (by simp))).tr (Fr.sA (by simp)))
    · show va_up (vL V1) i (vL V i) s = _ ∧ va_up (vR V1) i (vR V i) s = _ ∧ va_up (vP V1) i (vP V i) s = _
      by_cases e : s = i
      · subst e; rw [va_ups, va_ups, va_ups]; exact ⟨rfl, rfl, rfl⟩
      · rw [va_upo e, va_upo e, va_upo e]; exact h1 s (by omega)
    · unfold sA; rw [sF_o hr.2.2.1, sF_o hr.2.1, sF_o hr.1]; exact hAr
set_option maxRecDepth 4000 in
theorem c_unpackFrom {V0 : AW} (hw : RpW σ w V0) (hb : b + 16 ≤ 640) (hk : kd r = 16) (hl : ln r = 640) (hB : OkB V) (hr : r ∉ [wL w, wR w, wP w, wK w, wV w]) (hP : PkA (hA σ r) b V) : CallOk Γ 1 0 0 mX7_unpackFrom [.ref w, .ref r, .int (nI b)] σ (rV (fun σ' => (∃ V', RpW σ' w V' ∧ vD V' = vD V ∧ (∀ s, s < 9 → vL V' s = vL V s ∧ vR V' s = vR V s ∧ vP V' s = vP V s) ∧ ∀ c, c < 6 → vK V' c = vK V c) ∧ Fr [(w, 1)] [wL w, wR w, wP w, wK w] σ σ')) := by
  refine p_enter rfl rfl (Nat.le_of_ble_eq_true rfl) rfl ?_
  refine p_aload_n 0 1 rfl rfl dX7_unpackFrom_0 rfl ?_
  refine p_aload_n 1 2 rfl rfl dX7_unpackFrom_1 rfl ?_
  refine p_iload_n 2 3 rfl rfl dX7_unpackFrom_2 rfl ?_
  refine p_ialdE 4 rfl dX7_unpackFrom_3 hk (by rw [hl]; omega) hP.1 ?_
  refine p_putI 7 1 7 rfl dX7_unpackFrom_4 fl_X7_9 hw.1.1.kd rfl (Or.inl rfl) ?_
  refine p_iconst (0) 8 rfl dX7_unpackFrom_7 rfl ?_
  refine p_ist_n3 9 rfl rfl dX7_unpackFrom_8 (Nat.le_of_ble_eq_true rfl) rfl ?_
  exact l_unpackFrom hb hk hl hB hr hP 9 0 _ _ none (by omega) (hw.setD) rfl (fun s hs => absurd hs (by omega)) rfl (Fr.sI (by simp))
end C43
