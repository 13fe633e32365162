/-! ===== the image; feeding ===== -/
def shf (j : Nat) : Int32 := 24 - nI (8 * j)
theorem shf_ok : ∀ j, j < 4 → shf j + (-8) = shf (j + 1) ∧ (¬ shf j < 0) ∧ (shf j).toUInt32 &&& Int32.toUInt32 31 = UInt32.ofNat (24 - 8 * j) := by decide
theorem byt_i8 (x : Int32) {j : Nat} (hj : j < 4) : (ush x (shf j)).toInt8 = Int8.ofNat (byt x j) := by
  unfold ush
  rw [(shf_ok j hj).2.2]
  apply Int8.toBitVec_inj.1
  apply BitVec.eq_of_toNat_eq
  rw [Int32.toBitVec_toInt8, BitVec.signExtend_eq_setWidth_of_le _ (by decide), BitVec.toNat_setWidth]
  show (x.toUInt32 >>> UInt32.ofNat (24 - 8 * j)).toNat % 2 ^ 8 = (byt x j) % 2 ^ 8
  rw [UInt32.toNat_shiftRight, Nat.shiftRight_eq_div_pow]
  unfold byt
  have h4 : (UInt32.ofNat (24 - 8 * j)).toNat % 32 = 24 - 8 * j := by
    rw [UInt32.toNat_ofNat_of_lt' (by show _ < 4294967296; omega)]; omega
  rw [h4]
  omega
theorem byt_tb (x : Int32) {j : Nat} (hj : j < 4) : (ush x (shf j)).toInt8.toInt32.toInt8.toInt32 = tb (byt x j) := by
  rw [show (ush x (shf j)).toInt8.toInt32.toInt8 = (ush x (shf j)).toInt8 from Int8.toInt8_toInt32 _, byt_i8 x hj]; rfl
def TP (σ : PH) (b : Nat → Nat) (n : Nat) : Prop := hI σ T0 1 = nI n ∧ ∀ i, i < n → hA σ 546705 i = tb (b i)
theorem putB_s (b : Nat → Nat) (n : Nat) (x : Int32) (j : Nat) : ∀ i, i < n + (j + 1) → putB b n x (j + 1) i = if i = n + j then byt x j else putB b n x j i := by
  intro i hi
  unfold putB
  by_cases e : i = n + j
  · subst e; rw [if_pos ⟨by omega, by omega⟩, if_pos rfl, show n + j - n = j by omega]
  · rw [if_neg e]
    by_cases q : n ≤ i
    · rw [if_pos ⟨q, hi⟩, if_pos ⟨q, by omega⟩]
    · rw [if_neg (fun z => q z.1), if_neg (fun z => q z.1)]
theorem feedB_ok : ∀ (xs : List Int32) (b : Nat → Nat) (n : Nat), (∀ i, b i < 256) → ∀ i, feedB b n xs i < 256 := by
  intro xs
  induction xs with
  | nil => intro b n h; exact h
  | cons x r ih => intro b n h; exact ih _ _ (putB_ok h n x 4)
section C54
variable {Γ : Gm} {σ : PH} {o o' : Nat} {A : AT} {b : Nat → Nat}
set_option maxRecDepth 4000 in
theorem t_image (hT : IT σ o o' A) : CallOk Γ 14 8 48 mX8_image [.ref T0] σ (rV (fun σ' => IT σ' o o' (nImage A) ∧ Ch cls σ σ')) := by
  have hS := hT.1
  have hK := hT.2.1
  have hto : hR σ T0 3 = o := hT.2.2.1.2.2.1
  have hQ := hT.2.2.2.1
  have ho := hQ.1
  have hw := hT.2.2.2.2.1.1
  have hwo := hT.2.2.2.2.1.2
  have hv := hK.2.2.2.2.1.1
  have hd9 := hK.2.2.2.2.1.2
  have hY := hK.2.2.2.1
  have hO := hK.2.2.1
  have hs9 := hO.1
  have hc6 := hO.2.1
  have hw12 := hO.2.2.1
  have hk8 := hO.2.2.2.1
  refine p_enter rfl rfl (Nat.le_of_ble_eq_true rfl) rfl ?_
  refine p_aload_n 0 1 rfl rfl dX8_image_0 rfl ?_
  refine p_getR 8 11 4 rfl dX8_image_1 fl_X8_69 rfl rfl hS.2.2.2.2.2.2.1 (by decide) ?_
  refine p_aload_n 0 5 rfl rfl dX8_image_4 rfl ?_
  refine p_getR 8 6 8 rfl dX8_image_5 fl_X8_44 rfl rfl hS.2.2.1 (by decide) ?_
  refine p_cV1v 0 0 11 rfl dX8_image_8 (c_copyW hT.2.2.2.2.2.1.2 hw (by decide) hwo ho.1.1.ne0) ml_X8_345 vl_X7_copyFrom rfl (by decide) rfl (Nat.le_of_ble_eq_true rfl) (Nat.le_of_ble_eq_true rfl) (Nat.le_of_ble_eq_true rfl) (Nat.le_of_ble_eq_true rfl) rfl ?_
  rintro σ1 ⟨hw1, hwo1, hF1⟩
  have hc1 : Ch (inS [51, 52, 53, 54, 55, 56]) σ σ1 := hF1.ch (by decide) (by decide) (by decide) (by decide)
  have hS1 := hS.ch hc1
  obtain ⟨l0, hi0⟩ := hT.2.2.2.2.2.2.2.2.2.1.1
  have hi1 := hi0.ch hc1 (by decide)
  have hA1 := hT.2.2.2.2.2.2.1.ch hc1 (by decide)
  refine p_aload_n 0 12 rfl rfl dX8_image_11 rfl ?_
  refine p_getR 8 12 15 rfl dX8_image_12 fl_X8_72 rfl rfl hS1.2.2.2.2.2.2.2.1 (by decide) ?_
  refine p_aload_n 0 16 rfl rfl dX8_image_15 rfl ?_
  refine p_getR 8 8 19 rfl dX8_image_16 fl_X8_54 rfl rfl hS1.2.2.2.2.1 (by decide) ?_
  refine p_cV1v 0 0 22 rfl dX8_image_19 (c_Acopy hi1 hA1 (by decide)) ml_X8_376 vl_X0_copyFrom rfl (by decide) rfl (Nat.le_of_ble_eq_true rfl) (Nat.le_of_ble_eq_true rfl) (Nat.le_of_ble_eq_true rfl) (Nat.le_of_ble_eq_true rfl) rfl ?_
  rintro σ2 ⟨hA2, hF2⟩
  have hc2 : Ch (inS [57, 58]) σ1 σ2 := hF2.ch (by decide) (by decide)
  have hS2 := hS1.ch hc2
  have hh2 := (hT.2.2.2.2.2.2.2.2.2.1.2.ch hc1).ch hc2
  have hH2 := (hT.2.2.2.2.2.2.2.1.ch hc1 (by decide)).ch hc2 (by decide)
  refine p_aload_n 0 23 rfl rfl dX8_image_22 rfl ?_
  refine p_getR 8 13 26 rfl dX8_image_23 fl_X8_75 rfl rfl hS2.2.2.2.2.2.2.2.2.1 (by decide) ?_
  refine p_aload_n 0 27 rfl rfl dX8_image_26 rfl ?_
  refine p_getR 8 9 30 rfl dX8_image_27 fl_X8_61 rfl rfl hS2.2.2.2.2.2.1 (by decide) ?_
  refine p_cV1v 0 0 33 rfl dX8_image_30 (c_Hcopy hh2 hH2 (by decide)) ml_X8_379 vl_X3_copyFrom rfl (by decide) rfl (Nat.le_of_ble_eq_true rfl) (Nat.le_of_ble_eq_true rfl) (Nat.le_of_ble_eq_true rfl) (Nat.le_of_ble_eq_true rfl) rfl ?_
  rintro σ3 ⟨hH3, hF3⟩
  have hc3 : Ch (inS [59, 60, 61, 62, 63]) σ2 σ3 := hF3.ch (by decide) (by decide)
  have hc4 : Ch (inS [1]) σ3 (sI σ3 T0 10 1) := Fr.ch (XI := [(T0, 10)]) (X := []) (Fr.sI (by simp)) (by decide) rfl
  have hcA : Ch (inS [1, 51, 52, 53, 54, 55, 56, 57, 58, 59, 60, 61, 62, 63]) σ (sI σ3 T0 10 1) := (((hc1.more (by decide)).tr (hc2.more (by decide))).tr (hc3.more (by decide))).tr (hc4.more (by decide))
  have hcB : Ch (inS [51, 52, 53, 54, 55, 56, 57, 58, 59, 60, 61, 62, 63]) σ σ3 := ((hc1.more (by decide)).tr (hc2.more (by decide))).tr (hc3.more (by decide))
  have t0 := hcB.2.2.2.2 T0 rfl
  have tp := hcA.2.2.2.2 546705 rfl
  have rf := hcA.2.2.2.2 18350192 rfl
  have n0 := hcA.2.2.2.2 wN rfl
  have i2 := hc2.2.2.2.2 wI rfl
  have i3 := hc3.2.2.2.2 wI rfl
  have hT4 : IT (sI σ3 T0 10 1) o o' (nImage A) := by
    refine hT.chg hcA (by decide) ⟨by show hR σ3 T0 3 = o; rw [t0.2.2]; exact hto, by show hR σ3 T0 4 = o'; rw [t0.2.2]; exact hT.2.2.1.2.2.2.1⟩ ⟨hK.1, hK.2.1, hK.2.2.1, hK.2.2.2.1, hK.2.2.2.2.1, hK.2.2.2.2.2.1, hK.2.2.2.2.2.2.1, hK.2.2.2.2.2.2.2.1, hK.2.2.2.2.1, hK.2.2.2.2.2.1, hK.2.2.2.2.2.2.1, hK.2.2.2.2.2.2.2.1⟩ rfl ⟨hw.ch hcA (by decide), by rw [n0.2.2]; exact hwo⟩ (hT.2.2.2.2.2.2.1.ch hcA (by decide)) (hT.2.2.2.2.2.2.2.1.ch hcA (by decide)) ?_ ⟨_, (hA2.ch hc3 (by decide)).ch hc4 (by decide)⟩ ?_ (by rw [rf.2.1]; exact hT.2.2.2.2.2.2.2.2.2.2.2)
    · exact ⟨hI_sI _ _ _ _, ((hw1.ch hc2 (by decide)).ch hc3 (by decide)).ch hc4 (by decide), by show hR σ3 wI 0 = o; rw [i3.2.2, i2.2.2]; exact hwo1, (hA2.ch hc3 (by decide)).ch hc4 (by decide), hH3.ch hc4 (by decide)⟩
    · have ht := hT.2.2.2.2.2.2.2.2.2.2.1
      rw [tp.2.1, hI_sIo (by decide), hI_sIo (by decide), t0.1]; exact ht
  refine p_aload_n 0 34 rfl rfl dX8_image_33 rfl ?_
  refine p_iconst (1) 35 rfl dX8_image_34 rfl ?_
  refine p_putZ 8 10 38 rfl dX8_image_35 fl_X8_65 rfl rfl (by first | exact Or.inl rfl | exact Or.inr rfl | assumption) (Or.inl rfl) ?_
  exact p_vret dX8_image_38 rfl ⟨rfl, hT4, hcA.toC (by decide)⟩
set_option maxRecDepth 6000 in
theorem t_restore (hT : IT σ o o' A)  : CallOk Γ 14 8 48 mX8_restore [.ref T0] σ (rS (((0, if (tI A).isSome = true then 1 else 0) : Nat × Int32)) false (fun σ' => IT σ' o o' (nRestore A) ∧ Ch cls σ σ')) := by
  have hS := hT.1
  have hK := hT.2.1
  have hto : hR σ T0 3 = o := hT.2.2.1.2.2.1
  have hQ := hT.2.2.2.1
  have ho := hQ.1
  have hw := hT.2.2.2.2.1.1
  have hwo := hT.2.2.2.2.1.2
  have hv := hK.2.2.2.2.1.1
  have hd9 := hK.2.2.2.2.1.2
  have hY := hK.2.2.2.1
  have hO := hK.2.2.1
  have hs9 := hO.1
  have hc6 := hO.2.1
  have hw12 := hO.2.2.1
  have hk8 := hO.2.2.2.1
  refine p_enter rfl rfl (Nat.le_of_ble_eq_true rfl) rfl ?_
  refine p_aload_n 0 1 rfl rfl dX8_restore_0 rfl ?_
  refine p_getI 8 10 4 rfl dX8_restore_1 fl_X8_65 rfl rfl ?_
  refine p_if_ne 9 7 rfl rfl dX8_restore_4 (fun h4 => ?_) (fun h4 => ?_)
  · obtain ⟨q, hq⟩ : ∃ q, tI A = some q := by
      have h2 := hT.2.2.2.2.2.2.2.2.1
      cases hy : tI A with
      | none => rw [hy] at h2; exact absurd h2 h4
      | some q => exact ⟨q, rfl⟩
    have hI0 : hI σ T0 10 = 1 ∧ RpW σ wI q.1 ∧ hR σ wI 0 = o ∧ RpA σ 14942208 q.2.1 ∧ RpH σ 15466499 q.2.2 := by
      have h2 := hT.2.2.2.2.2.2.2.2.1
      rw [hq] at h2; exact h2
    have hkI : OkU (tO A) q.1 ∧ q.2.1.length ≤ 40 ∧ (∀ V ∈ q.2.1, OkU (tO A) V) ∧ OkH (tO A) q.2.2 := by
      have h2 := hK.2.2.2.2.2.2.2.2
      rw [hq] at h2; exact h2
    refine p_aload_n 0 10 rfl rfl dX8_restore_9 rfl ?_
    refine p_getR 8 6 13 rfl dX8_restore_10 fl_X8_44 rfl rfl hS.2.2.1 (by decide) ?_
    refine p_aload_n 0 14 rfl rfl dX8_restore_13 rfl ?_
    refine p_getR 8 11 17 rfl dX8_restore_14 fl_X8_69 rfl rfl hS.2.2.2.2.2.2.1 (by decide) ?_
    refine p_cV1v 0 0 20 rfl dX8_restore_17 (c_copyW hw.1 hI0.2.1 (by decide) hI0.2.2.1 ho.1.1.ne0) ml_X8_345 vl_X7_copyFrom rfl (by decide) rfl (Nat.le_of_ble_eq_true rfl) (Nat.le_of_ble_eq_true rfl) (Nat.le_of_ble_eq_true rfl) (Nat.le_of_ble_eq_true rfl) rfl ?_
    rintro σ1 ⟨hw1, hwo1, hF1⟩
    have hc1 : Ch (inS [32, 33, 34, 35, 36, 37]) σ σ1 := hF1.ch (by decide) (by decide) (by decide) (by decide)
    have hS1 := hS.ch hc1
    have hA1 := hT.2.2.2.2.2.2.1.ch hc1 (by decide)
    have hi1 := hI0.2.2.2.1.ch hc1 (by decide)
    refine p_aload_n 0 21 rfl rfl dX8_restore_20 rfl ?_
    refine p_getR 8 8 24 rfl dX8_restore_21 fl_X8_54 rfl rfl hS1.2.2.2.2.1 (by decide) ?_
    refine p_aload_n 0 25 rfl rfl dX8_restore_24 rfl ?_
    refine p_getR 8 12 28 rfl dX8_restore_25 fl_X8_72 rfl rfl hS1.2.2.2.2.2.2.2.1 (by decide) ?_
    refine p_cV1v 0 0 31 rfl dX8_restore_28 (c_Acopy hA1 hi1 (by decide)) ml_X8_376 vl_X0_copyFrom rfl (by decide) rfl (Nat.le_of_ble_eq_true rfl) (Nat.le_of_ble_eq_true rfl) (Nat.le_of_ble_eq_true rfl) (Nat.le_of_ble_eq_true rfl) rfl ?_
    rintro σ2 ⟨hA2, hF2⟩
    have hc2 : Ch (inS [44, 45]) σ1 σ2 := hF2.ch (by decide) (by decide)
    have hS2 := hS1.ch hc2
    have hh2 := (hT.2.2.2.2.2.2.2.1.1.ch hc1).ch hc2
    have hH2 := (hI0.2.2.2.2.ch hc1 (by decide)).ch hc2 (by decide)
    refine p_aload_n 0 32 rfl rfl dX8_restore_31 rfl ?_
    refine p_getR 8 9 35 rfl dX8_restore_32 fl_X8_61 rfl rfl hS2.2.2.2.2.2.1 (by decide) ?_
    refine p_aload_n 0 36 rfl rfl dX8_restore_35 rfl ?_
    refine p_getR 8 13 39 rfl dX8_restore_36 fl_X8_75 rfl rfl hS2.2.2.2.2.2.2.2.2.1 (by decide) ?_
    refine p_cV1v 0 0 42 rfl dX8_restore_39 (c_Hcopy hh2 hH2 (by decide)) ml_X8_379 vl_X3_copyFrom rfl (by decide) rfl (Nat.le_of_ble_eq_true rfl) (Nat.le_of_ble_eq_true rfl) (Nat.le_of_ble_eq_true rfl) (Nat.le_of_ble_eq_true rfl) rfl ?_
    rintro σ3 ⟨hH3, hF3⟩
    have hc3 : Ch (inS [46, 47, 48, 49, 50]) σ2 σ3 := hF3.ch (by decide) (by decide)
    have hcB : Ch (inS [32, 33, 34, 35, 36, 37, 44, 45, 46, 47, 48, 49, 50]) σ σ3 := ((hc1.more (by decide)).tr (hc2.more (by decide))).tr (hc3.more (by decide))
    have rf := hcB.2.2.2.2 18350192 rfl
    have n2 := hc2.2.2.2.2 wN rfl
    have n3 := hc3.2.2.2.2 wN rfl
    have hT3 : IT σ3 o o' (nRestore A) := by
      have e : nRestore A = (tB A, tN A, tF A, tO A, q.1, q.2.1, q.2.2, tI A, tX A, tY A, tZ A) := by unfold nRestore; rw [hq]
      rw [e]
      exact hT.act (hcB.more (by decide)) ⟨hK.1, hK.2.1, hK.2.2.1, hK.2.2.2.1, hkI.1, hkI.2.1, hkI.2.2.1, hkI.2.2.2, hK.2.2.2.2.2.2.2.2⟩ rfl rfl rfl rfl rfl ⟨(hw1.ch hc2 (by decide)).ch hc3 (by decide), by rw [n3.2.2, n2.2.2]; exact hwo1⟩ (hA2.ch hc3 (by decide)) hH3 (by rw [rf.2.1]; exact hT.2.2.2.2.2.2.2.2.2.2.2)
    refine p_iconst (1) 43 rfl dX8_restore_42 rfl ?_
    exact p_zret dX8_restore_43 rfl rfl ⟨by simp [hq], hT3, hcB.toC (by decide)⟩
  · refine p_iconst (0) 8 rfl dX8_restore_7 rfl ?_
    exact p_zret dX8_restore_8 rfl rfl (by
      have e : tI A = none := by
        have h2 := hT.2.2.2.2.2.2.2.2.1
        cases hy : tI A with
        | none => rfl
        | some q => rw [hy] at h2; exact absurd (h2.1.symm.trans h4) (by decide)
      exact ⟨by simp [e], by rw [nRestore, e]; exact hT, Ch.rf⟩)
set_option maxRecDepth 4000 in
theorem l_putNumber {n0 : Nat} (hn : n0 + 4 ≤ 700) (x : Int32) : ∀ (n i : Nat) (σ1 : PH), i + n = 4 → hR σ1 T0 0 = 546705 → TP σ1 (putB b n0 x i) (n0 + i) → Fr [(T0, 1)] [546705] σ σ1 → Ok Γ 1 0 0 mX8_putNumber 3 [some (.ref T0), some (.int x), some (.int (shf i))] [] σ1 (rV (fun σ' => TP σ' (putB b n0 x 4) (n0 + 4) ∧ Fr [(T0, 1)] [546705] σ σ')) := by
  intro n
  induction n with
  | zero =>
    intro i σ1 hi hp0 hp hF
    refine p_iload_n 2 4 rfl rfl dX8_putNumber_3 rfl ?_
    refine p_if_lt 46 7 rfl rfl dX8_putNumber_4 (fun h4 => ?_) (fun h4 => absurd (show shf i < 0 by rw [show i = 4 by omega]; decide) h4)
    exact p_vret dX8_putNumber_46 rfl ⟨rfl, by rw [show i = 4 by omega] at hp; exact hp, hF⟩
  | succ n ih =>
    intro i σ1 hi hp0 hp hF
    have hi4 : i < 4 := by omega
    refine p_iload_n 2 4 rfl rfl dX8_putNumber_3 rfl ?_
    refine p_if_lt 46 7 rfl rfl dX8_putNumber_4 (fun h4 => absurd h4 (shf_ok i hi4).2.1) (fun h4 => ?_)
    refine p_aload_n 0 8 rfl rfl dX8_putNumber_7 rfl ?_
    refine p_getIE 8 1 11 rfl dX8_putNumber_8 fl_X8_13 rfl rfl hp.1 ?_
    refine p_sipush (700) 14 rfl dX8_putNumber_11 rfl ?_
    refine p_icmp_ge 46 17 rfl rfl dX8_putNumber_14 (fun h14 => absurd h14 (nI_ge (a := n0 + i) (b := 700) (by omega) (by decide))) (fun h14 => ?_)
    refine p_aload_n 0 18 rfl rfl dX8_putNumber_17 rfl ?_
    refine p_getR 8 0 21 rfl dX8_putNumber_18 fl_X8_9 rfl rfl hp0 (by decide) ?_
    refine p_aload_n 0 22 rfl rfl dX8_putNumber_21 rfl ?_
    refine p_getIE 8 1 25 rfl dX8_putNumber_22 fl_X8_13 rfl rfl hp.1 ?_
    refine p_iload_n 1 26 rfl rfl dX8_putNumber_25 rfl ?_
    refine p_iload_n 2 27 rfl rfl dX8_putNumber_26 rfl ?_
    refine p_iushr 28 rfl dX8_putNumber_27 ?_
    refine p_i2b 29 rfl dX8_putNumber_28 ?_
    refine p_bastE 30 rfl dX8_putNumber_29 (i := n0 + i) rfl (by show n0 + i < 700; omega) ?_
    refine p_aload_n 0 31 rfl rfl dX8_putNumber_30 rfl ?_
    refine p_dup 32 rfl dX8_putNumber_31 rfl ?_
    refine p_getIE 8 1 35 rfl dX8_putNumber_32 fl_X8_13 rfl rfl hp.1 ?_
    refine p_iconst (1) 36 rfl dX8_putNumber_35 rfl ?_
    refine p_iadd 37 rfl dX8_putNumber_36 ?_
    rw [nI_1]
    refine p_putI 8 1 40 rfl dX8_putNumber_37 fl_X8_13 rfl rfl (Or.inl rfl) ?_
    refine p_inc_2 43 rfl dX8_putNumber_40 (-8) rfl (Nat.le_of_ble_eq_true rfl) rfl ?_
    refine p_goto 3 rfl dX8_putNumber_43 ?_
    rw [(shf_ok i hi4).1]
    refine ih (i + 1) _ (by omega) hp0 ⟨hI_sI _ _ _ _, fun k hk => ?_⟩ (hF.tr ((Fr.sA (by simp)).tr (Fr.sI (by simp))))
    rw [hA_sI, sA_s, putB_s _ _ _ _ k hk]
    by_cases e : k = n0 + i
    · subst e; rw [pk_us, if_pos rfl]; exact byt_tb x hi4
    · rw [pk_un e, if_neg e]; exact hp.2 k (by omega)
set_option maxRecDepth 4000 in
theorem c_putNumber {n0 : Nat} (hn : n0 + 4 ≤ 700) (x : Int32) (hp0 : hR σ T0 0 = 546705) (hp : TP σ b n0) : CallOk Γ 1 0 0 mX8_putNumber [.ref T0, .int x] σ (rV (fun σ' => TP σ' (putB b n0 x 4) (n0 + 4) ∧ Fr [(T0, 1)] [546705] σ σ')) := by
  refine p_enter rfl rfl (Nat.le_of_ble_eq_true rfl) rfl ?_
  refine p_bipush (24) 2 rfl dX8_putNumber_0 rfl ?_
  refine p_ist_n2 3 rfl rfl dX8_putNumber_2 (Nat.le_of_ble_eq_true rfl) rfl ?_
  exact l_putNumber hn x 4 0 σ rfl hp0 (by rw [putB_0]; exact hp) Fr.rf
set_option maxRecDepth 4000 in
theorem t_feed (hT : IT σ o o' A) (x y z v w : Int32) : CallOk Γ 14 8 48 mX8_feed [.ref T0, .int x, .int y, .int z, .int v, .int w] σ (rS (fFeed A) false (fun σ' => IT σ' o o' (nFeed A x y z v w) ∧ Ch cls σ σ')) := by
  have hS := hT.1
  have hK := hT.2.1
  have hto : hR σ T0 3 = o := hT.2.2.1.2.2.1
  have hQ := hT.2.2.2.1
  have ho := hQ.1
  have hw := hT.2.2.2.2.1.1
  have hwo := hT.2.2.2.2.1.2
  have hv := hK.2.2.2.2.1.1
  have hd9 := hK.2.2.2.2.1.2
  have hY := hK.2.2.2.1
  have hO := hK.2.2.1
  have hs9 := hO.1
  have hc6 := hO.2.1
  have hw12 := hO.2.2.1
  have hk8 := hO.2.2.2.1
  have ht := hT.2.2.2.2.2.2.2.2.2.2.1
  have h700 := hK.1
  refine p_enter rfl rfl (Nat.le_of_ble_eq_true rfl) rfl ?_
  refine p_aload_n 0 1 rfl rfl dX8_feed_0 rfl ?_
  refine p_getIE 8 1 4 rfl dX8_feed_1 fl_X8_13 rfl rfl ht.1 ?_
  refine p_bipush (20) 6 rfl dX8_feed_4 rfl ?_
  refine p_iadd 7 rfl dX8_feed_6 ?_
  refine p_sipush (700) 10 rfl dX8_feed_7 rfl ?_
  rw [show (20 : Int32) = nI 20 from rfl, nI_add]
  refine p_icmp_le 15 13 rfl rfl dX8_feed_10 (fun h10 => ?_) (fun h10 => ?_)
  · have hle : tN A + 20 ≤ 700 := (nI_leI (b := 700) (by omega) (by decide)).mp h10
    have hp0 : TP σ (tB A) (tN A) := ⟨ht.1, ht.2.2⟩
    have hr0 := hS.1
    refine p_aload_n 0 16 rfl rfl dX8_feed_15 rfl ?_
    refine p_iload_n 1 17 rfl rfl dX8_feed_16 rfl ?_
    refine p_cV1v 0 0 20 rfl dX8_feed_17 (c_putNumber (n0 := tN A) (by omega) x hr0 hp0) ml_X8_99 vl_X8_putNumber rfl (by decide) rfl (Nat.le_of_ble_eq_true rfl) (Nat.le_of_ble_eq_true rfl) (Nat.le_of_ble_eq_true rfl) (Nat.le_of_ble_eq_true rfl) rfl ?_
    rintro σ1 ⟨hp1, hF1⟩
    have hr1 : hR σ1 T0 0 = 546705 := by rw [hF1.2.2.2.1]; exact hr0
    refine p_aload_n 0 21 rfl rfl dX8_feed_20 rfl ?_
    refine p_iload_n 2 22 rfl rfl dX8_feed_21 rfl ?_
    refine p_cV1v 0 0 25 rfl dX8_feed_22 (c_putNumber (by omega) y hr1 hp1) ml_X8_99 vl_X8_putNumber rfl (by decide) rfl (Nat.le_of_ble_eq_true rfl) (Nat.le_of_ble_eq_true rfl) (Nat.le_of_ble_eq_true rfl) (Nat.le_of_ble_eq_true rfl) rfl ?_
    rintro σ2 ⟨hp2, hF2⟩
    have hr2 : hR σ2 T0 0 = 546705 := by rw [hF2.2.2.2.1]; exact hr1
    refine p_aload_n 0 26 rfl rfl dX8_feed_25 rfl ?_
    refine p_iload_n 3 27 rfl rfl dX8_feed_26 rfl ?_
    refine p_cV1v 0 0 30 rfl dX8_feed_27 (c_putNumber (by omega) z hr2 hp2) ml_X8_99 vl_X8_putNumber rfl (by decide) rfl (Nat.le_of_ble_eq_true rfl) (Nat.le_of_ble_eq_true rfl) (Nat.le_of_ble_eq_true rfl) (Nat.le_of_ble_eq_true rfl) rfl ?_
    rintro σ3 ⟨hp3, hF3⟩
    have hr3 : hR σ3 T0 0 = 546705 := by rw [hF3.2.2.2.1]; exact hr2
    refine p_aload_n 0 31 rfl rfl dX8_feed_30 rfl ?_
    refine p_iload 4 33 rfl dX8_feed_31 rfl ?_
    refine p_cV1v 0 0 36 rfl dX8_feed_33 (c_putNumber (by omega) v hr3 hp3) ml_X8_99 vl_X8_putNumber rfl (by decide) rfl (Nat.le_of_ble_eq_true rfl) (Nat.le_of_ble_eq_true rfl) (Nat.le_of_ble_eq_true rfl) (Nat.le_of_ble_eq_true rfl) rfl ?_
    rintro σ4 ⟨hp4, hF4⟩
    have hr4 : hR σ4 T0 0 = 546705 := by rw [hF4.2.2.2.1]; exact hr3
    refine p_aload_n 0 37 rfl rfl dX8_feed_36 rfl ?_
    refine p_iload 5 39 rfl dX8_feed_37 rfl ?_
    refine p_cV1v 0 0 42 rfl dX8_feed_39 (c_putNumber (by omega) w hr4 hp4) ml_X8_99 vl_X8_putNumber rfl (by decide) rfl (Nat.le_of_ble_eq_true rfl) (Nat.le_of_ble_eq_true rfl) (Nat.le_of_ble_eq_true rfl) (Nat.le_of_ble_eq_true rfl) rfl ?_
    rintro σ5 ⟨hp5, hF5⟩
    have hr5 : hR σ5 T0 0 = 546705 := by rw [hF5.2.2.2.1]; exact hr4
    have hFA : Fr [(T0, 1)] [546705] σ σ5 := (((hF1.tr hF2).tr hF3).tr hF4).tr hF5
    have hcA : Ch (inS [1, 2]) σ σ5 := hFA.ch (by decide) (by decide)
    have rf := hcA.2.2.2.2 18350192 rfl
    have n0 := hcA.2.2.2.2 wN rfl
    obtain ⟨l0, hi0⟩ := hT.2.2.2.2.2.2.2.2.2.1.1
    have hT5 : IT σ5 o o' (uT A (feedB (tB A) (tN A) [x, y, z, v, w]) (tN A + 20)) := by
      refine hT.chg hcA (by decide) ⟨by rw [hFA.2.2.2.1]; exact hto, by rw [hFA.2.2.2.1]; exact hT.2.2.1.2.2.2.1⟩ ⟨hle, feedB_ok _ _ _ hK.2.1, hK.2.2⟩ rfl ⟨hw.ch hcA (by decide), by rw [n0.2.2]; exact hwo⟩ (hT.2.2.2.2.2.2.1.ch hcA (by decide)) (hT.2.2.2.2.2.2.2.1.ch hcA (by decide)) ?_ ⟨_, hi0.ch hcA (by decide)⟩ ⟨hp5.1, by rw [hFA.2.1 T0 2 (by decide)]; exact ht.2.1, hp5.2⟩ (by rw [rf.2.1]; exact hT.2.2.2.2.2.2.2.2.2.2.2)
      have h9 := hT.2.2.2.2.2.2.2.2.1
      have i0 := hcA.2.2.2.2 wI rfl
      have e10 : hI σ5 T0 10 = hI σ T0 10 := hFA.2.1 T0 10 (by decide)
      show RpI σ5 o (tI A)
      unfold RpI at h9 ⊢
      cases hi : tI A with
      | none => rw [hi] at h9; show hI σ5 T0 10 = 0; rw [e10]; exact h9
      | some q =>
        rw [hi] at h9
        show hI σ5 T0 10 = 1 ∧ RpW σ5 wI q.1 ∧ hR σ5 wI 0 = o ∧ RpA σ5 14942208 q.2.1 ∧ RpH σ5 15466499 q.2.2
        rw [e10, i0.2.2]
        exact ⟨h9.1, h9.2.1.ch hcA (by decide), h9.2.2.1, h9.2.2.2.1.ch hcA (by decide), h9.2.2.2.2.ch hcA (by decide)⟩
    refine p_aload_n 0 43 rfl rfl dX8_feed_42 rfl ?_
    refine p_getIE 8 1 46 rfl dX8_feed_43 fl_X8_13 rfl rfl hp5.1 ?_
    exact p_iret dX8_feed_46 rfl ⟨by simp [fFeed, hle], by rw [nFeed, if_pos hle]; exact hT5, hcA.toC (by decide)⟩
  · refine p_iconst (-1) 14 rfl dX8_feed_13 rfl ?_
    exact p_iret dX8_feed_14 rfl (by
      have hle : ¬ tN A + 20 ≤ 700 := fun z => h10 (nI_le (b := 700) z (by decide))
      exact ⟨by simp [fFeed, hle], by rw [nFeed, if_neg hle]; exact hT, Ch.rf⟩)
end C54
