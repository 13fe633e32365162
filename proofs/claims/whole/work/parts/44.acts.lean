/-! ===== acts that are kept ===== -/
def isA (a : Nat) : Prop := a = 11534336 ∨ a = 14942208
def aWd (a : Nat) : Nat := mkr (sn a + 1) 640 16
theorem isA.kd {a : Nat} (h : isA a) : kd a = 0 := by rcases h with rfl | rfl <;> rfl
theorem ln640 (s : Nat) : ln (mkr s 640 16) = 640 := ln_mkr (by decide) (by decide)
theorem aWd_w {a w : Nat} (h : isA a) (hw : isW w) : aWd a ∉ [wL w, wR w, wP w, wK w, wV w] := by
  rcases h with rfl | rfl <;> rcases hw with rfl | rfl | rfl <;> decide
theorem isA_w {a w : Nat} (h : isA a) (hw : isW w) : a ≠ w := by
  rcases h with rfl | rfl <;> rcases hw with rfl | rfl | rfl <;> decide
def RpA (σ : PH) (a : Nat) (Ls : List AW) : Prop := isA a ∧ hR σ a 2 = aWd a ∧ Ls.length ≤ 40 ∧ hI σ a 0 = nI Ls.length ∧ ∃ q, q < 40 ∧ hI σ a 1 = nI q ∧ ∀ k V, Ls[k]? = some V → PkA (hA σ (aWd a)) (16 * ((q + k) % 40)) V ∧ OkB V
def kp (Ls : List AW) (V : AW) : List AW := if Ls.length < 40 then Ls ++ [V] else Ls.tail ++ [V]
theorem RpW.congr {σ : PH} {w : Nat} {V V' : AW} (h : RpW σ w V') (hd : vD V' = vD V) (hs : ∀ s, s < 9 → vL V' s = vL V s ∧ vR V' s = vR V s ∧ vP V' s = vP V s) (hc : ∀ c, c < 6 → vK V' c = vK V c) : RpW σ w V := by
  obtain ⟨h1, h2, h3, h4⟩ := h
  refine ⟨h1, by rw [← hd]; exact h2, fun s q => ?_, fun c q => by rw [← hc c q]; exact h4 c q⟩
  have := hs s q
  rw [← this.1, ← this.2.1, ← this.2.2]; exact h3 s q
theorem PkA.out {f g : Nat → Int32} {b c : Nat} {V : AW} (h : PkA f c V) (hfg : ∀ j, (j < b ∨ b + 16 ≤ j) → g j = f j) (hbc : c + 16 ≤ b ∨ b + 16 ≤ c) : PkA g c V :=
  ⟨by rw [hfg c (by omega)]; exact h.1, fun s hs => by rw [hfg _ (by omega)]; exact h.2.1 s hs, fun q hq => by rw [hfg _ (by omega)]; exact h.2.2 q hq⟩
section C44
variable {Γ : Gm} {σ : PH} {a w : Nat} {V : AW} {Ls : List AW}
set_option maxRecDepth 4000 in
theorem c_Aclear (ha : RpA σ a Ls) : CallOk Γ 1 0 0 mX0_clear [.ref a] σ (rV (fun σ' => RpA σ' a [] ∧ Fr [(a, 0), (a, 1)] [] σ σ')) := by
  refine p_enter rfl rfl (Nat.le_of_ble_eq_true rfl) rfl ?_
  refine p_aload_n 0 1 rfl rfl dX0_clear_0 rfl ?_
  refine p_iconst (0) 2 rfl dX0_clear_1 rfl ?_
  refine p_putI 0 0 5 rfl dX0_clear_2 fl_X0_9 ha.1.kd rfl (Or.inl rfl) ?_
  refine p_aload_n 0 6 rfl rfl dX0_clear_5 rfl ?_
  refine p_iconst (0) 7 rfl dX0_clear_6 rfl ?_
  refine p_putI 0 1 10 rfl dX0_clear_7 fl_X0_15 ha.1.kd rfl (Or.inl rfl) ?_
  exact p_vret dX0_clear_10 rfl ⟨rfl, ⟨ha.1, ha.2.1, by decide, (hI_sIo (by intro e; cases e)).trans (hI_sI _ _ _ _), 0, by decide, hI_sI _ _ _ _, fun k V h => by simp at h⟩, (Fr.sI (by simp)).tr (Fr.sI (by simp))⟩
set_option maxRecDepth 4000 in
theorem c_keep (ha : RpA σ a Ls) (hw : RpW σ w V) (hB : OkB V) : CallOk Γ 2 0 0 mX0_keep [.ref a, .ref w] σ (rV (fun σ' => RpA σ' a (kp Ls V) ∧ Fr [(a, 0), (a, 1)] [aWd a] σ σ')) := by
  obtain ⟨q, hq, hi1, hp⟩ := ha.2.2.2.2
  have hl40 := ha.2.2.1
  refine p_enter rfl rfl (Nat.le_of_ble_eq_true rfl) rfl ?_
  refine p_aload_n 1 1 rfl rfl dX0_keep_0 rfl ?_
  refine p_aload_n 0 2 rfl rfl dX0_keep_1 rfl ?_
  refine p_getR 0 2 5 rfl dX0_keep_2 fl_X0_20 ha.1.kd rfl ha.2.1 (mk0 (Nat.succ_ne_zero _)) ?_
  refine p_aload_n 0 6 rfl rfl dX0_keep_5 rfl ?_
  refine p_getIE 0 1 9 rfl dX0_keep_6 fl_X0_15 ha.1.kd rfl hi1 ?_
  refine p_aload_n 0 10 rfl rfl dX0_keep_9 rfl ?_
  refine p_getIE 0 0 13 rfl dX0_keep_10 fl_X0_9 ha.1.kd rfl ha.2.2.2.1 ?_
  refine p_iadd 14 rfl dX0_keep_13 ?_
  refine p_bipush (40) 16 rfl dX0_keep_14 rfl ?_
  refine p_irem 17 rfl dX0_keep_16 (by decide) ?_
  refine p_bipush (16) 19 rfl dX0_keep_17 rfl ?_
  refine p_imul 20 rfl dX0_keep_19 ?_
  rw [nI_add, show (40 : Int32) = nI 40 from rfl, pk_rem (by omega) (by decide) (by decide), show (16 : Int32) = nI 16 from rfl, pk_mul, Nat.mul_comm]
  refine p_cV2v 0 0 23 rfl dX0_keep_20 (c_packInto (b := 16 * ((q + Ls.length) % 40)) hw (by omega) (kd16 _ _) (ln640 _) hB (aWd_w ha.1 hw.1.1)) ml_X0_24 vl_X7_packInto hw.1.1.kd (by decide) rfl (Nat.le_of_ble_eq_true rfl) (Nat.le_of_ble_eq_true rfl) (Nat.le_of_ble_eq_true rfl) (Nat.le_of_ble_eq_true rfl) rfl ?_
  rintro σ1 ⟨f, rfl, hfP, hfo⟩
  refine p_aload_n 0 24 rfl rfl dX0_keep_23 rfl ?_
  refine p_getIE 0 0 27 rfl dX0_keep_24 fl_X0_9 ha.1.kd rfl ha.2.2.2.1 ?_
  refine p_bipush (40) 29 rfl dX0_keep_27 rfl ?_
  refine p_icmp_ge 45 32 rfl rfl dX0_keep_29 (fun h29 => ?_) (fun h29 => ?_)
  · refine p_aload_n 0 46 rfl rfl dX0_keep_45 rfl ?_
    refine p_aload_n 0 47 rfl rfl dX0_keep_46 rfl ?_
    refine p_getIE 0 1 50 rfl dX0_keep_47 fl_X0_15 ha.1.kd rfl hi1 ?_
    refine p_iconst (1) 51 rfl dX0_keep_50 rfl ?_
    refine p_iadd 52 rfl dX0_keep_51 ?_
    refine p_bipush (40) 54 rfl dX0_keep_52 rfl ?_
    refine p_irem 55 rfl dX0_keep_54 (by decide) ?_
    refine p_putI 0 1 58 rfl dX0_keep_55 fl_X0_15 ha.1.kd rfl (Or.inl rfl) ?_
    exact p_vret dX0_keep_58 rfl ⟨rfl, by
      have hge : ¬ Ls.length < 40 := fun z => absurd h29 (nI_ge (a := Ls.length) (b := 40) z (by decide))
      have h40 : Ls.length = 40 := by omega
      rw [nI_1, show (40 : Int32) = nI 40 from rfl, pk_rem (by omega) (by decide) (by decide)]
      refine ⟨⟨ha.1, ha.2.1, ?_, ?_, (q + 1) % 40, by omega, hI_sI _ _ _ _, fun k V' hk => ?_⟩, (Fr.sF (by simp)).tr (Fr.sI (by simp))⟩
      · unfold kp; rw [if_neg hge]; simp; omega
      · unfold kp; rw [if_neg hge]; refine (hI_sIo (by intro e; cases e)).trans ?_; refine Eq.trans (show hI (sF σ (aWd a) f) a 0 = hI σ a 0 from rfl) ?_; rw [ha.2.2.2.1]; congr 1; simp; omega
      · show PkA (hA (sF σ (aWd a) f) (aWd a)) _ V' ∧ _
        rw [hA_sF]
        unfold kp at hk; rw [if_neg hge] at hk
        have hl39 : Ls.tail.length = 39 := by simp [h40]
        rcases Nat.lt_or_ge k 39 with z | z
        · rw [List.getElem?_append_left (by omega), List.getElem?_tail] at hk
          have hp2 := hp (k + 1) V' hk
          rw [h40] at hfo
          refine ⟨?_, hp2.2⟩
          have e1 : 16 * (((q + 1) % 40 + k) % 40) = 16 * ((q + (k + 1)) % 40) := by omega
          rw [e1]
          exact hp2.1.out hfo (by omega)
        · rw [List.getElem?_append_right (by omega)] at hk
          have hk0 : k - Ls.tail.length = 0 := by
            rcases Nat.eq_zero_or_pos (k - Ls.tail.length) with y | y
            · exact y
            · rw [List.getElem?_eq_none (by simp; omega)] at hk; cases hk
          rw [hk0] at hk
          cases hk
          have e1 : 16 * (((q + 1) % 40 + k) % 40) = 16 * ((q + Ls.length) % 40) := by omega
          rw [e1]
          exact ⟨hfP, hB⟩⟩
  · refine p_aload_n 0 33 rfl rfl dX0_keep_32 rfl ?_
    refine p_dup 34 rfl dX0_keep_33 rfl ?_
    refine p_getIE 0 0 37 rfl dX0_keep_34 fl_X0_9 ha.1.kd rfl ha.2.2.2.1 ?_
    refine p_iconst (1) 38 rfl dX0_keep_37 rfl ?_
    refine p_iadd 39 rfl dX0_keep_38 ?_
    refine p_putI 0 0 42 rfl dX0_keep_39 fl_X0_9 ha.1.kd rfl (Or.inl rfl) ?_
    refine p_goto 58 rfl dX0_keep_42 ?_
    exact p_vret dX0_keep_58 rfl ⟨rfl, by
      have hlt : Ls.length < 40 := by
        rcases Nat.lt_or_ge Ls.length 40 with z | z
        · exact z
        · exact absurd (nI_le (a := 40) z (by omega)) h29
      rw [nI_1]
      refine ⟨⟨ha.1, ha.2.1, ?_, ?_, q, hq, (hI_sIo (by intro e; cases e)).trans hi1, fun k V' hk => ?_⟩, (Fr.sF (by simp)).tr (Fr.sI (by simp))⟩
      · unfold kp; rw [if_pos hlt]; simp; omega
      · unfold kp; rw [if_pos hlt, List.length_append]; exact hI_sI _ _ _ _
      · show PkA (hA (sF σ (aWd a) f) (aWd a)) _ V' ∧ _
        rw [hA_sF]
        unfold kp at hk; rw [if_pos hlt] at hk
        rcases Nat.lt_or_ge k Ls.length with z | z
        · rw [List.getElem?_append_left z] at hk
          exact ⟨(hp k V' hk).1.out hfo (by omega), (hp k V' hk).2⟩
        · rw [List.getElem?_append_right z] at hk
          have hk0 : k - Ls.length = 0 := by
            rcases Nat.eq_zero_or_pos (k - Ls.length) with y | y
            · exact y
            · rw [List.getElem?_eq_none (by simp; omega)] at hk; cases hk
          rw [hk0] at hk
          cases hk
          rw [show k = Ls.length by omega]
          exact ⟨hfP, hB⟩⟩
set_option maxRecDepth 4000 in
theorem c_takeBack (ha : RpA σ a (Ls ++ [V])) {V0 : AW} (hw : RpW σ w V0) : CallOk Γ 2 0 0 mX0_takeBack [.ref a, .ref w] σ (rV (fun σ' => RpA σ' a Ls ∧ RpW σ' w V ∧ Fr [(a, 0), (w, 1)] [wL w, wR w, wP w, wK w] σ σ')) := by
  obtain ⟨q, hq, hi1, hp⟩ := ha.2.2.2.2
  have hl40 := ha.2.2.1
  simp only [List.length_append, List.length_cons, List.length_nil] at hl40
  have hi0 := ha.2.2.2.1
  simp only [List.length_append, List.length_cons, List.length_nil] at hi0
  have hpV := hp Ls.length V (by simp)
  have haw := aWd_w ha.1 hw.1.1
  have hne := isA_w ha.1 hw.1.1
  refine p_enter rfl rfl (Nat.le_of_ble_eq_true rfl) rfl ?_
  refine p_aload_n 0 1 rfl rfl dX0_takeBack_0 rfl ?_
  refine p_getIE 0 0 4 rfl dX0_takeBack_1 fl_X0_9 ha.1.kd rfl hi0 ?_
  refine p_if_le 40 7 rfl rfl dX0_takeBack_4 (fun h4 => absurd h4 (nI_nle (by omega) (by omega))) (fun h4 => ?_)
  refine p_aload_n 0 8 rfl rfl dX0_takeBack_7 rfl ?_
  refine p_dup 9 rfl dX0_takeBack_8 rfl ?_
  refine p_getIE 0 0 12 rfl dX0_takeBack_9 fl_X0_9 ha.1.kd rfl hi0 ?_
  refine p_iconst (1) 13 rfl dX0_takeBack_12 rfl ?_
  refine p_isub 14 rfl dX0_takeBack_13 ?_
  rw [nI_pred]
  refine p_putI 0 0 17 rfl dX0_takeBack_14 fl_X0_9 ha.1.kd rfl (Or.inl rfl) ?_
  refine p_aload_n 1 18 rfl rfl dX0_takeBack_17 rfl ?_
  refine p_aload_n 0 19 rfl rfl dX0_takeBack_18 rfl ?_
  refine p_getR 0 2 22 rfl dX0_takeBack_19 fl_X0_20 ha.1.kd rfl ha.2.1 (mk0 (Nat.succ_ne_zero _)) ?_
  refine p_aload_n 0 23 rfl rfl dX0_takeBack_22 rfl ?_
  refine p_getIE 0 1 26 rfl dX0_takeBack_23 fl_X0_15 ha.1.kd rfl ((hI_sIo (by intro e; cases e)).trans hi1) ?_
  refine p_aload_n 0 27 rfl rfl dX0_takeBack_26 rfl ?_
  refine p_getIE 0 0 30 rfl dX0_takeBack_27 fl_X0_9 ha.1.kd rfl (hI_sI _ _ _ _) ?_
  refine p_iadd 31 rfl dX0_takeBack_30 ?_
  refine p_bipush (40) 33 rfl dX0_takeBack_31 rfl ?_
  refine p_irem 34 rfl dX0_takeBack_33 (by decide) ?_
  refine p_bipush (16) 36 rfl dX0_takeBack_34 rfl ?_
  refine p_imul 37 rfl dX0_takeBack_36 ?_
  rw [nI_add, show (40 : Int32) = nI 40 from rfl, pk_rem (by omega) (by decide) (by decide), show (16 : Int32) = nI 16 from rfl, pk_mul, Nat.mul_comm]
  refine p_cV2v 0 0 40 rfl dX0_takeBack_37 (c_unpackFrom (σ := sI σ a 0 (nI Ls.length)) (V0 := V0) (V := V) (b := 16 * ((q + Ls.length) % 40)) ⟨hw.1, (hI_sIo (by intro e; cases e <;> exact absurd rfl hne)).trans hw.2.1, hw.2.2⟩ (by omega) (kd16 _ _) (ln640 _) hpV.2 haw hpV.1) ml_X0_28 vl_X7_unpackFrom hw.1.1.kd (by decide) rfl (Nat.le_of_ble_eq_true rfl) (Nat.le_of_ble_eq_true rfl) (Nat.le_of_ble_eq_true rfl) (Nat.le_of_ble_eq_true rfl) rfl ?_
  rintro σ1 ⟨⟨V1, hw1, e1, e2, e3⟩, hF1⟩
  exact p_vret dX0_takeBack_40 rfl ⟨rfl, ⟨ha.1, by rw [hF1.2.2.2.1]; exact ha.2.1, by omega, (hF1.2.1 a 0 (by simp [hne])).trans (hI_sI _ _ _ _), q, hq, (hF1.2.1 a 1 (by simp [hne])).trans ((hI_sIo (by intro e; cases e)).trans hi1), fun k V' hk => by
      have hx : aWd a ∉ [wL w, wR w, wP w, wK w] := fun z => haw (by simp only [List.mem_cons, List.not_mem_nil, or_false] at z ⊢; rcases z with z | z | z | z <;> simp [z])
      rw [hF1.2.2.2.2.2 _ hx]
      exact hp k V' (by rw [List.getElem?_append_left (List.getElem?_eq_some_iff.mp hk).1]; exact hk)⟩, hw1.congr e1 e2 e3, (Fr.sI (by simp)).tr (hF1.mono (by simp) (by simp))⟩
set_option maxRecDepth 4000 in
theorem c_Acopy {a' : Nat} {Ls0 : List AW} (ha : RpA σ a Ls0) (ha' : RpA σ a' Ls) (hne : a' ≠ a) : CallOk Γ 1 0 0 mX0_copyFrom [.ref a, .ref a'] σ (rV (fun σ' => RpA σ' a Ls ∧ Fr [(a, 0), (a, 1)] [aWd a] σ σ')) := by
  obtain ⟨q, hq, hi1, hp⟩ := ha'.2.2.2.2
  refine p_enter rfl rfl (Nat.le_of_ble_eq_true rfl) rfl ?_
  refine p_aload_n 0 1 rfl rfl dX0_copyFrom_0 rfl ?_
  refine p_aload_n 1 2 rfl rfl dX0_copyFrom_1 rfl ?_
  refine p_getIE 0 0 5 rfl dX0_copyFrom_2 fl_X0_9 ha'.1.kd rfl ha'.2.2.2.1 ?_
  refine p_putI 0 0 8 rfl dX0_copyFrom_5 fl_X0_9 ha.1.kd rfl (Or.inl rfl) ?_
  refine p_aload_n 0 9 rfl rfl dX0_copyFrom_8 rfl ?_
  refine p_aload_n 1 10 rfl rfl dX0_copyFrom_9 rfl ?_
  refine p_getIE 0 1 13 rfl dX0_copyFrom_10 fl_X0_15 ha'.1.kd rfl ((hI_sIo (by intro e; cases e <;> exact absurd rfl hne)).trans hi1) ?_
  refine p_putI 0 1 16 rfl dX0_copyFrom_13 fl_X0_15 ha.1.kd rfl (Or.inl rfl) ?_
  refine p_aload_n 1 17 rfl rfl dX0_copyFrom_16 rfl ?_
  refine p_getR 0 2 20 rfl dX0_copyFrom_17 fl_X0_20 ha'.1.kd rfl ha'.2.1 (mk0 (Nat.succ_ne_zero _)) ?_
  refine p_iconst (0) 21 rfl dX0_copyFrom_20 rfl ?_
  refine p_aload_n 0 22 rfl rfl dX0_copyFrom_21 rfl ?_
  refine p_getR 0 2 25 rfl dX0_copyFrom_22 fl_X0_20 ha.1.kd rfl ha.2.1 (mk0 (Nat.succ_ne_zero _)) ?_
  refine p_iconst (0) 26 rfl dX0_copyFrom_25 rfl ?_
  refine p_aload_n 0 27 rfl rfl dX0_copyFrom_26 rfl ?_
  refine p_getR 0 2 30 rfl dX0_copyFrom_27 fl_X0_20 ha.1.kd rfl ha.2.1 (mk0 (Nat.succ_ne_zero _)) ?_
  refine p_alen 31 rfl dX0_copyFrom_30 (Or.inl (kd16 _ _)) ?_
  rw [show ln (aWd a) = 640 from ln640 _]
  refine p_copy 34 rfl dX0_copyFrom_31 cl_X0_31 (kd16 _ _) (kd16 _ _) (by decide) (by decide) (by decide) (by rw [show ln (aWd a') = 640 from ln640 _]; decide) (by rw [show ln (aWd a) = 640 from ln640 _]; decide) (Nat.le_of_ble_eq_true rfl) (Nat.le_of_ble_eq_true rfl) ?_
  exact p_vret dX0_copyFrom_34 rfl ⟨rfl, ⟨ha.1, ha.2.1, ha'.2.2.1, (hI_sIo (by intro e; cases e)).trans (hI_sI _ _ _ _), q, hq, hI_sI _ _ _ _, fun k V' hk => by
      rw [hA_sF]
      have g := (hp k V' hk).1
      refine ⟨⟨?_, fun s hs => ?_, fun c hc => ?_⟩, (hp k V' hk).2⟩
      · rw [show (0 : Int32).toNatClampNeg = 0 by decide, show (Int32.ofNat 640).toNatClampNeg = 640 by decide, pk_cpy_in (by omega) (by omega), show ∀ z, 0 + (z - 0) = z by omega]; exact g.1
      · rw [show (0 : Int32).toNatClampNeg = 0 by decide, show (Int32.ofNat 640).toNatClampNeg = 640 by decide, pk_cpy_in (by omega) (by omega), show ∀ z, 0 + (z - 0) = z by omega]; exact g.2.1 s hs
      · rw [show (0 : Int32).toNatClampNeg = 0 by decide, show (Int32.ofNat 640).toNatClampNeg = 640 by decide, pk_cpy_in (by omega) (by omega), show ∀ z, 0 + (z - 0) = z by omega]; exact g.2.2 c hc⟩, ((Fr.sI (by simp)).tr (Fr.sI (by simp))).tr (Fr.sF (by simp))⟩
end C44
