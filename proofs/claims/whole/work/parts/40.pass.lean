/-! ===== a day: mould, passing ===== -/
def vlM (O : AO) (V : AW) (s : Nat) : Nat → Int32 := fun j => if j = 0 then pI (tOf O V s 0) else if j = 1 then nI (vD V) else if j = 2 then nI (vL V s) else if j = 3 then nI (vR V s) else if j = 4 then nI s else if 5 ≤ vP V s then 1 else 0
def stpB (v : Int32) : Nat := 2 ^ ((v.toNatClampNeg - 1) % 8)
def mldP (O : AO) (V : AW) (ps : List Int32) (s : Nat) : AW := if vP V s = 0 then V else if 0 < evP ps (vlM O V s) then wRt V (va_up (vR V) s (vR V s ^^^ stpB (evP ps (vlM O V s)))) else V
def mldF (O : AO) (ps : List Int32) : Nat → AW → AW
  | 0, V => V
  | n + 1, V => mldP O (mldF O ps n V) ps n
def layF (O : AO) : Nat → AW → AW
  | 0, V => V
  | n + 1, V => layT O (layF O n V) n
def lrnF (O : AO) (V : AW) : Nat → Bool
  | 0 => false
  | n + 1 => lrnF O V n || lrnT O (layF O n V) n
def mldA (O : AO) (V : AW) : AW := match aM O with
  | none => V
  | some ps => mldF O ps (aS O) V
def dayF (O : AO) (V : AW) : AW := wDy (mldA O (layF O 4 V)) (vD V + 1)
def daysF (O : AO) : Nat → AW → AW
  | 0, V => V
  | n + 1, V => dayF O (daysF O n V)
theorem stpB_lt (v : Int32) : stpB v < 256 := Nat.lt_of_lt_of_le (Nat.pow_lt_pow_right (by decide) (Nat.mod_lt _ (by decide))) (by decide)
theorem stp_eq {v : Int32} (h : 0 < v) : (1 : Int32) <<< (((v - 1) - (v - 1) / 8 * 8) &&& 31) = nI (stpB v) := by
  obtain ⟨j, hj, rfl⟩ := nI_of (x := v) (fun z => Int32.lt_irrefl (Int32.lt_trans h z))
  have hj0 : 1 ≤ j := by
    rcases Nat.eq_zero_or_pos j with z | z
    · subst z; exact absurd h (by decide)
    · exact z
  unfold stpB
  rw [nI_clamp hj]
  have e1 : nI j - 1 = nI (j - 1) := pk_sub (b := 1) hj0
  rw [e1]
  have e2 : nI (j - 1) - nI (j - 1) / 8 * 8 = nI ((j - 1) % 8) := pk_rem (d := 8) (by omega) (by decide) (by decide)
  rw [e2, one_shl _ (Nat.lt_trans (Nat.mod_lt _ (by decide)) (by decide))]
theorem mldP_ok {O : AO} {V : AW} {ps : List Int32} {s : Nat} (hv : OkV O V) : OkV O (mldP O V ps s) := by
  unfold mldP
  split
  · exact hv
  · split
    · refine ⟨hv.1, fun q hq => ⟨(hv.2.1 q hq).1, ?_, (hv.2.1 q hq).2.2⟩, hv.2.2.1, hv.2.2.2⟩
      show va_up (vR V) s _ q < 256
      by_cases e : q = s
      · subst e; rw [va_ups]; exact Nat.xor_lt_two_pow (n := 8) (hv.2.1 q hq).2.1 (stpB_lt _)
      · rw [va_upo e]; exact (hv.2.1 q hq).2.1
    · exact hv
theorem mldP_day (O : AO) (V : AW) (ps : List Int32) (s : Nat) : vD (mldP O V ps s) = vD V := by
  unfold mldP; split
  · rfl
  · split <;> rfl
theorem mldF_ok {O : AO} {V : AW} {ps : List Int32} (hv : OkV O V) : ∀ n, OkV O (mldF O ps n V) := by
  intro n
  induction n with
  | zero => exact hv
  | succ n ih => exact mldP_ok ih
theorem mldF_day (O : AO) (V : AW) (ps : List Int32) : ∀ n, vD (mldF O ps n V) = vD V := by
  intro n
  induction n with
  | zero => rfl
  | succ n ih => exact (mldP_day _ _ _ _).trans ih
theorem layF_ok {O : AO} {V : AW} (h : OkO O) (hv : OkV O V) : ∀ n, OkV O (layF O n V) := by
  intro n
  induction n with
  | zero => exact hv
  | succ n ih => exact layT_ok h ih
theorem layF_day (O : AO) (V : AW) : ∀ n, vD (layF O n V) = vD V := by
  intro n
  induction n with
  | zero => rfl
  | succ n ih => exact (layT_day _ _ _).trans ih
theorem mldA_ok {O : AO} {V : AW} (hv : OkV O V) : OkV O (mldA O V) := by
  unfold mldA; split
  · exact hv
  · exact mldF_ok hv _
theorem mldA_day (O : AO) (V : AW) : vD (mldA O V) = vD V := by
  unfold mldA; split
  · rfl
  · exact mldF_day _ _ _ _
theorem dayF_ok {O : AO} {V : AW} (h : OkO O) (hv : OkV O V) (hd : vD V < 100000) : OkV O (dayF O V) := by
  have := mldA_ok (layF_ok h hv 4)
  exact ⟨by show vD V + 1 ≤ 100000; omega, this.2⟩
theorem dayF_day (O : AO) (V : AW) : vD (dayF O V) = vD V + 1 := rfl
theorem daysF_day (O : AO) (V : AW) : ∀ n, vD (daysF O n V) = vD V + n := by
  intro n
  induction n with
  | zero => rfl
  | succ n ih => show vD (daysF O n V) + 1 = _; rw [ih]; omega
theorem daysF_ok {O : AO} {V : AW} (h : OkO O) (hv : OkV O V) : ∀ n, vD V + n ≤ 100000 → OkV O (daysF O n V) := by
  intro n
  induction n with
  | zero => intro _; exact hv
  | succ n ih => intro hd; exact dayF_ok h (ih (by omega)) (by rw [daysF_day]; omega)
section C40
variable {Γ : Gm} {σ : PH} {o w : Nat} {O : AO} {V : AW} {ps : List Int32}
set_option maxRecDepth 10000 in
theorem c_mouldOn (hQ : RpQ σ o O) (hY : OkY O) (hw : RpW σ w V) (hv : OkV O V) (hwo : hR σ w 0 = o) {s : Nat} (hs : s < aS O) (hps : aM O = some ps) : CallOk Γ 3 0 0 mX7_mouldOn [.ref w, .int (nI s)] σ (rV (fun σ' => RpW σ' w (mldP O V ps s) ∧ WF w o σ σ')) := by
  have ho := hQ.1
  have hs9 := ho.2.1.1
  have hp := hv.2.2.1 s hs
  have hc6 := ho.2.1.2.1
  refine p_enter rfl rfl (Nat.le_of_ble_eq_true rfl) rfl ?_
  refine p_aload_n 0 1 rfl rfl dX7_mouldOn_0 rfl ?_
  refine p_getR 7 4 4 rfl dX7_mouldOn_1 fl_X7_22 hw.1.1.kd rfl hw.1.2.2.2.1 (mk0 (Nat.succ_ne_zero _)) ?_
  refine p_iload_n 1 5 rfl rfl dX7_mouldOn_4 rfl ?_
  refine p_ialdE 6 rfl dX7_mouldOn_5 (kd16 _ _) (lt9 (by omega)) (hw.2.2.1 s (by omega)).2.2 ?_
  refine p_iconst (-1) 7 rfl dX7_mouldOn_6 rfl ?_
  refine p_icmp_ne 11 10 rfl rfl dX7_mouldOn_7 (fun h7 => ?_) (fun h7 => ?_)
  · have h7n : ¬ vP V s = 0 := fun z => h7 ((pI_m1 (by omega)).mpr z)
    refine p_aload_n 0 12 rfl rfl dX7_mouldOn_11 rfl ?_
    refine p_getR 7 6 15 rfl dX7_mouldOn_12 fl_X7_28 hw.1.1.kd rfl hw.1.2.2.2.2.2 (mk0 (Nat.succ_ne_zero _)) ?_
    refine p_iconst (0) 16 rfl dX7_mouldOn_15 rfl ?_
    refine p_aload_n 0 17 rfl rfl dX7_mouldOn_16 rfl ?_
    refine p_iload_n 1 18 rfl rfl dX7_mouldOn_17 rfl ?_
    refine p_iconst (0) 19 rfl dX7_mouldOn_18 rfl ?_
    refine p_cV2i 22 rfl dX7_mouldOn_19 (c_townOf (k := 0) ho hw hv hwo hs (by omega)) ml_X7_61 vl_X7_townOf hw.1.1.kd (by decide) rfl (Nat.le_of_ble_eq_true rfl) (Nat.le_of_ble_eq_true rfl) rfl ?_
    refine p_iastE 23 rfl dX7_mouldOn_22 (i := 0) (kd16 _ _) (lt6 (by decide)) ?_
    refine p_aload_n 0 24 rfl rfl dX7_mouldOn_23 rfl ?_
    refine p_getR 7 6 27 rfl dX7_mouldOn_24 fl_X7_28 hw.1.1.kd rfl hw.1.2.2.2.2.2 (mk0 (Nat.succ_ne_zero _)) ?_
    refine p_iconst (1) 28 rfl dX7_mouldOn_27 rfl ?_
    refine p_aload_n 0 29 rfl rfl dX7_mouldOn_28 rfl ?_
    refine p_getIE 7 1 32 rfl dX7_mouldOn_29 fl_X7_9 hw.1.1.kd rfl hw.2.1 ?_
    refine p_iastE 33 rfl dX7_mouldOn_32 (i := 1) (kd16 _ _) (lt6 (by decide)) ?_
    refine p_aload_n 0 34 rfl rfl dX7_mouldOn_33 rfl ?_
    refine p_getR 7 6 37 rfl dX7_mouldOn_34 fl_X7_28 hw.1.1.kd rfl hw.1.2.2.2.2.2 (mk0 (Nat.succ_ne_zero _)) ?_
    refine p_iconst (2) 38 rfl dX7_mouldOn_37 rfl ?_
    refine p_aload_n 0 39 rfl rfl dX7_mouldOn_38 rfl ?_
    refine p_getR 7 2 42 rfl dX7_mouldOn_39 fl_X7_15 hw.1.1.kd rfl hw.1.2.1 (mk0 (Nat.succ_ne_zero _)) ?_
    refine p_iload_n 1 43 rfl rfl dX7_mouldOn_42 rfl ?_
    have hw2 : RpW (sA (sA σ (wV w) 0 (pI (tOf O V s 0))) (wV w) 1 (nI (vD V))) w V := (hw.setV).setV
    refine p_ialdE 44 rfl dX7_mouldOn_43 (kd16 _ _) (lt9 (by omega)) (hw2.2.2.1 s (by omega)).1 ?_
    refine p_iastE 45 rfl dX7_mouldOn_44 (i := 2) (kd16 _ _) (lt6 (by decide)) ?_
    refine p_aload_n 0 46 rfl rfl dX7_mouldOn_45 rfl ?_
    refine p_getR 7 6 49 rfl dX7_mouldOn_46 fl_X7_28 hw.1.1.kd rfl hw.1.2.2.2.2.2 (mk0 (Nat.succ_ne_zero _)) ?_
    refine p_iconst (3) 50 rfl dX7_mouldOn_49 rfl ?_
    refine p_aload_n 0 51 rfl rfl dX7_mouldOn_50 rfl ?_
    refine p_getR 7 3 54 rfl dX7_mouldOn_51 fl_X7_19 hw.1.1.kd rfl hw.1.2.2.1 (mk0 (Nat.succ_ne_zero _)) ?_
    refine p_iload_n 1 55 rfl rfl dX7_mouldOn_54 rfl ?_
    have hw3 : RpW (sA (sA (sA σ (wV w) 0 (pI (tOf O V s 0))) (wV w) 1 (nI (vD V))) (wV w) 2 (nI (vL V s))) w V := hw2.setV
    refine p_ialdE 56 rfl dX7_mouldOn_55 (kd16 _ _) (lt9 (by omega)) (hw3.2.2.1 s (by omega)).2.1 ?_
    refine p_iastE 57 rfl dX7_mouldOn_56 (i := 3) (kd16 _ _) (lt6 (by decide)) ?_
    refine p_aload_n 0 58 rfl rfl dX7_mouldOn_57 rfl ?_
    refine p_getR 7 6 61 rfl dX7_mouldOn_58 fl_X7_28 hw.1.1.kd rfl hw.1.2.2.2.2.2 (mk0 (Nat.succ_ne_zero _)) ?_
    refine p_iconst (4) 62 rfl dX7_mouldOn_61 rfl ?_
    refine p_iload_n 1 63 rfl rfl dX7_mouldOn_62 rfl ?_
    refine p_iastE 64 rfl dX7_mouldOn_63 (i := 4) (kd16 _ _) (lt6 (by decide)) ?_
    refine p_aload_n 0 65 rfl rfl dX7_mouldOn_64 rfl ?_
    refine p_getR 7 6 68 rfl dX7_mouldOn_65 fl_X7_28 hw.1.1.kd rfl hw.1.2.2.2.2.2 (mk0 (Nat.succ_ne_zero _)) ?_
    refine p_iconst (5) 69 rfl dX7_mouldOn_68 rfl ?_
    refine p_aload_n 0 70 rfl rfl dX7_mouldOn_69 rfl ?_
    refine p_getR 7 4 73 rfl dX7_mouldOn_70 fl_X7_22 hw.1.1.kd rfl hw.1.2.2.2.1 (mk0 (Nat.succ_ne_zero _)) ?_
    refine p_iload_n 1 74 rfl rfl dX7_mouldOn_73 rfl ?_
    have hw4 : RpW (sA (sA (sA (sA (sA σ (wV w) 0 (pI (tOf O V s 0))) (wV w) 1 (nI (vD V))) (wV w) 2 (nI (vL V s))) (wV w) 3 (nI (vR V s))) (wV w) 4 (nI s)) w V := (hw3.setV).setV
    refine p_ialdE 75 rfl dX7_mouldOn_74 (kd16 _ _) (lt9 (by omega)) (hw4.2.2.1 s (by omega)).2.2 ?_
    refine p_iconst (4) 76 rfl dX7_mouldOn_75 rfl ?_
    refine p_icmp_lt 83 79 rfl rfl dX7_mouldOn_76 (fun h76 => ?_) (fun h76 => ?_)
    · refine p_iconst (0) 84 rfl dX7_mouldOn_83 rfl ?_
      refine p_iastE 85 rfl dX7_mouldOn_84 (i := 5) (kd16 _ _) (lt6 (by decide)) ?_
      have hb : ¬ 5 ≤ vP V s := fun z => absurd h76 (Int32.not_lt.mpr ((pI_ge4 (by omega)).mpr z))
      have hw5 : RpW (sA (sA (sA (sA (sA (sA σ (wV w) 0 (pI (tOf O V s 0))) (wV w) 1 (nI (vD V))) (wV w) 2 (nI (vL V s))) (wV w) 3 (nI (vR V s))) (wV w) 4 (nI s)) (wV w) 5 0) w V := (((((hw.setV).setV).setV).setV).setV).setV
      have hF5 : WF w o σ (sA (sA (sA (sA (sA (sA σ (wV w) 0 (pI (tOf O V s 0))) (wV w) 1 (nI (vD V))) (wV w) 2 (nI (vL V s))) (wV w) 3 (nI (vR V s))) (wV w) 4 (nI s)) (wV w) 5 0) := (((((Fr.sA (by simp [wX])).tr (Fr.sA (by simp [wX]))).tr (Fr.sA (by simp [wX]))).tr (Fr.sA (by simp [wX]))).tr (Fr.sA (by simp [wX]))).tr (Fr.sA (by simp [wX]))
      have hQ5 := hQ.wf hw.1.1 hF5
      have hu : RpU (sA (sA (sA (sA (sA (sA σ (wV w) 0 (pI (tOf O V s 0))) (wV w) 1 (nI (vD V))) (wV w) 2 (nI (vL V s))) (wV w) 3 (nI (vR V s))) (wV w) 4 (nI s)) (wV w) 5 0) (oM o) (some ps) := by have := hQ5.2.2; rw [hps] at this; exact this
      have hne : wV w ≠ uP (oM o) := (worldly_r hw.1.1 ho.1.1 (by simp)).2
      have hval : evP ps (hA (sA (sA (sA (sA (sA (sA σ (wV w) 0 (pI (tOf O V s 0))) (wV w) 1 (nI (vD V))) (wV w) 2 (nI (vL V s))) (wV w) 3 (nI (vR V s))) (wV w) 4 (nI s)) (wV w) 5 0) (wV w)) = evP ps (vlM O V s) := by
        refine evP_congr (fun q hq => ?_)
        by_cases hq6 : q < Int32.ofInt (10000 + (6 : Nat))
        · refine opd_congr (n := 6) (by omega) (fun j hj => ?_) hq6
          have hj5 : j = 0 ∨ j = 1 ∨ j = 2 ∨ j = 3 ∨ j = 4 ∨ j = 5 := by omega
          simp only [sA, hA_sF]
          rcases hj5 with rfl | rfl | rfl | rfl | rfl | rfl <;> simp [upd, vlM, hb]
        · have h1 : ¬ q < 10000 := fun z => hq6 (Int32.lt_trans z (by decide))
          have h2 : ¬ q < 10006 := hq6
          simp [opd, h1, h2]
      have hwo5 : hR (sA (sA (sA (sA (sA (sA σ (wV w) 0 (pI (tOf O V s 0))) (wV w) 1 (nI (vD V))) (wV w) 2 (nI (vL V s))) (wV w) 3 (nI (vR V s))) (wV w) 4 (nI s)) (wV w) 5 0) w 0 = o := hwo
      have hs5 : hR (sA (sA (sA (sA (sA (sA σ (wV w) 0 (pI (tOf O V s 0))) (wV w) 1 (nI (vD V))) (wV w) 2 (nI (vL V s))) (wV w) 3 (nI (vR V s))) (wV w) 4 (nI s)) (wV w) 5 0) o 13 = oM o := ho.1.2.2.2.2.2.2.2.2.2.1
      generalize hσ5 : sA (sA (sA (sA (sA (sA σ (wV w) 0 (pI (tOf O V s 0))) (wV w) 1 (nI (vD V))) (wV w) 2 (nI (vL V s))) (wV w) 3 (nI (vR V s))) (wV w) 4 (nI s)) (wV w) 5 0 = σ5 at hw5 hF5 hQ5 hu hval hwo5 hs5 ⊢
      refine p_aload_n 0 86 rfl rfl dX7_mouldOn_85 rfl ?_
      refine p_getR 7 0 89 rfl dX7_mouldOn_86 fl_X7_31 hw.1.1.kd rfl hwo5 ho.1.1.ne0 ?_
      refine p_getR 4 13 92 rfl dX7_mouldOn_89 fl_X7_109 ho.1.1.kd rfl hs5 (mk0 (Nat.succ_ne_zero _)) ?_
      refine p_aload_n 0 93 rfl rfl dX7_mouldOn_92 rfl ?_
      refine p_getR 7 6 96 rfl dX7_mouldOn_93 fl_X7_28 hw.1.1.kd rfl hw5.1.2.2.2.2.2 (mk0 (Nat.succ_ne_zero _)) ?_
      refine p_cV1x 0 0 99 rfl dX7_mouldOn_96 (c_valueFor hu (kd16 _ _) (ln6 _) hne) ml_X7_135 vl_X6_valueFor hQ.2.2.1 (by decide) rfl (Nat.le_of_ble_eq_true rfl) (Nat.le_of_ble_eq_true rfl) (Nat.le_of_ble_eq_true rfl) (Nat.le_of_ble_eq_true rfl) rfl ?_
      rintro x6 σ6 ⟨hx6, g6, hσ6⟩
      subst hσ6
      rw [hval] at hx6
      have hF6 : WF w o σ (sF σ5 (uP (oM o)) g6) := hF5.tr (Fr.sF (by simp [wX]))
      have hw6 : RpW (sF σ5 (uP (oM o)) g6) w V := hw5.pile ho.1.1 (Or.inr rfl)
      refine p_ist_n2 100 rfl rfl dX7_mouldOn_99 (Nat.le_of_ble_eq_true rfl) rfl ?_
      refine p_iload_n 2 101 rfl rfl dX7_mouldOn_100 rfl ?_
      refine p_if_le 121 104 rfl rfl dX7_mouldOn_101 (fun h101 => ?_) (fun h101 => ?_)
      · exact p_vret dX7_mouldOn_121 rfl ⟨rfl, by
        have h101n : ¬ 0 < evP ps (vlM O V s) := by rw [← hx6]; exact Int32.not_lt.mpr h101
        rw [mldP, if_neg h7n, if_neg h101n]; exact hw6, hF6⟩
      · have h101n : 0 < evP ps (vlM O V s) := by rw [← hx6]; exact Int32.not_le.mp h101
        rw [hx6]
        refine p_aload_n 0 105 rfl rfl dX7_mouldOn_104 rfl ?_
        refine p_getR 7 3 108 rfl dX7_mouldOn_105 fl_X7_19 hw.1.1.kd rfl hw6.1.2.2.1 (mk0 (Nat.succ_ne_zero _)) ?_
        refine p_iload_n 1 109 rfl rfl dX7_mouldOn_108 rfl ?_
        refine p_dup2 110 rfl dX7_mouldOn_109 rfl rfl ?_
        refine p_ialdE 111 rfl dX7_mouldOn_110 (kd16 _ _) (lt9 (by omega)) (hw6.2.2.1 s (by omega)).2.1 ?_
        refine p_iconst (1) 112 rfl dX7_mouldOn_111 rfl ?_
        refine p_iload_n 2 113 rfl rfl dX7_mouldOn_112 rfl ?_
        refine p_iconst (1) 114 rfl dX7_mouldOn_113 rfl ?_
        refine p_isub 115 rfl dX7_mouldOn_114 ?_
        refine p_bipush (8) 117 rfl dX7_mouldOn_115 rfl ?_
        refine p_irem 118 rfl dX7_mouldOn_117 (by decide) ?_
        refine p_ishl 119 rfl dX7_mouldOn_118 ?_
        refine p_ixor 120 rfl dX7_mouldOn_119 ?_
        rw [stp_eq h101n, nx_xor]
        refine p_iastE 121 rfl dX7_mouldOn_120 (kd16 _ _) (lt9 (by omega)) ?_
        exact p_vret dX7_mouldOn_121 rfl ⟨rfl, by rw [mldP, if_neg h7n, if_pos h101n]; exact hw6.setR, hF6.tr (Fr.sA (by simp [wX]))⟩
    · refine p_iconst (1) 80 rfl dX7_mouldOn_79 rfl ?_
      refine p_goto 84 rfl dX7_mouldOn_80 ?_
      refine p_iastE 85 rfl dX7_mouldOn_84 (i := 5) (kd16 _ _) (lt6 (by decide)) ?_
      have hb : 5 ≤ vP V s := by
        by_cases hh : 5 ≤ vP V s
        · exact hh
        · exact absurd (Int32.not_le.mp (fun q => hh ((pI_ge4 (by omega)).mp q))) h76
      have hw5 : RpW (sA (sA (sA (sA (sA (sA σ (wV w) 0 (pI (tOf O V s 0))) (wV w) 1 (nI (vD V))) (wV w) 2 (nI (vL V s))) (wV w) 3 (nI (vR V s))) (wV w) 4 (nI s)) (wV w) 5 1) w V := (((((hw.setV).setV).setV).setV).setV).setV
      have hF5 : WF w o σ (sA (sA (sA (sA (sA (sA σ (wV w) 0 (pI (tOf O V s 0))) (wV w) 1 (nI (vD V))) (wV w) 2 (nI (vL V s))) (wV w) 3 (nI (vR V s))) (wV w) 4 (nI s)) (wV w) 5 1) := (((((Fr.sA (by simp [wX])).tr (Fr.sA (by simp [wX]))).tr (Fr.sA (by simp [wX]))).tr (Fr.sA (by simp [wX]))).tr (Fr.sA (by simp [wX]))).tr (Fr.sA (by simp [wX]))
      have hQ5 := hQ.wf hw.1.1 hF5
      have hu : RpU (sA (sA (sA (sA (sA (sA σ (wV w) 0 (pI (tOf O V s 0))) (wV w) 1 (nI (vD V))) (wV w) 2 (nI (vL V s))) (wV w) 3 (nI (vR V s))) (wV w) 4 (nI s)) (wV w) 5 1) (oM o) (some ps) := by have := hQ5.2.2; rw [hps] at this; exact this
      have hne : wV w ≠ uP (oM o) := (worldly_r hw.1.1 ho.1.1 (by simp)).2
      have hval : evP ps (hA (sA (sA (sA (sA (sA (sA σ (wV w) 0 (pI (tOf O V s 0))) (wV w) 1 (nI (vD V))) (wV w) 2 (nI (vL V s))) (wV w) 3 (nI (vR V s))) (wV w) 4 (nI s)) (wV w) 5 1) (wV w)) = evP ps (vlM O V s) := by
        refine evP_congr (fun q hq => ?_)
        by_cases hq6 : q < Int32.ofInt (10000 + (6 : Nat))
        · refine opd_congr (n := 6) (by omega) (fun j hj => ?_) hq6
          have hj5 : j = 0 ∨ j = 1 ∨ j = 2 ∨ j = 3 ∨ j = 4 ∨ j = 5 := by omega
          simp only [sA, hA_sF]
          rcases hj5 with rfl | rfl | rfl | rfl | rfl | rfl <;> simp [upd, vlM, hb]
        · have h1 : ¬ q < 10000 := fun z => hq6 (Int32.lt_trans z (by decide))
          have h2 : ¬ q < 10006 := hq6
          simp [opd, h1, h2]
      have hwo5 : hR (sA (sA (sA (sA (sA (sA σ (wV w) 0 (pI (tOf O V s 0))) (wV w) 1 (nI (vD V))) (wV w) 2 (nI (vL V s))) (wV w) 3 (nI (vR V s))) (wV w) 4 (nI s)) (wV w) 5 1) w 0 = o := hwo
      have hs5 : hR (sA (sA (sA (sA (sA (sA σ (wV w) 0 (pI (tOf O V s 0))) (wV w) 1 (nI (vD V))) (wV w) 2 (nI (vL V s))) (wV w) 3 (nI (vR V s))) (wV w) 4 (nI s)) (wV w) 5 1) o 13 = oM o := ho.1.2.2.2.2.2.2.2.2.2.1
      generalize hσ5 : sA (sA (sA (sA (sA (sA σ (wV w) 0 (pI (tOf O V s 0))) (wV w) 1 (nI (vD V))) (wV w) 2 (nI (vL V s))) (wV w) 3 (nI (vR V s))) (wV w) 4 (nI s)) (wV w) 5 1 = σ5 at hw5 hF5 hQ5 hu hval hwo5 hs5 ⊢
      refine p_aload_n 0 86 rfl rfl dX7_mouldOn_85 rfl ?_
      refine p_getR 7 0 89 rfl dX7_mouldOn_86 fl_X7_31 hw.1.1.kd rfl hwo5 ho.1.1.ne0 ?_
      refine p_getR 4 13 92 rfl dX7_mouldOn_89 fl_X7_109 ho.1.1.kd rfl hs5 (mk0 (Nat.succ_ne_zero _)) ?_
      refine p_aload_n 0 93 rfl rfl dX7_mouldOn_92 rfl ?_
      refine p_getR 7 6 96 rfl dX7_mouldOn_93 fl_X7_28 hw.1.1.kd rfl hw5.1.2.2.2.2.2 (mk0 (Nat.succ_ne_zero _)) ?_
      refine p_cV1x 0 0 99 rfl dX7_mouldOn_96 (c_valueFor hu (kd16 _ _) (ln6 _) hne) ml_X7_135 vl_X6_valueFor hQ.2.2.1 (by decide) rfl (Nat.le_of_ble_eq_true rfl) (Nat.le_of_ble_eq_true rfl) (Nat.le_of_ble_eq_true rfl) (Nat.le_of_ble_eq_true rfl) rfl ?_
      rintro x6 σ6 ⟨hx6, g6, hσ6⟩
      subst hσ6
      rw [hval] at hx6
      have hF6 : WF w o σ (sF σ5 (uP (oM o)) g6) := hF5.tr (Fr.sF (by simp [wX]))
      have hw6 : RpW (sF σ5 (uP (oM o)) g6) w V := hw5.pile ho.1.1 (Or.inr rfl)
      refine p_ist_n2 100 rfl rfl dX7_mouldOn_99 (Nat.le_of_ble_eq_true rfl) rfl ?_
      refine p_iload_n 2 101 rfl rfl dX7_mouldOn_100 rfl ?_
      refine p_if_le 121 104 rfl rfl dX7_mouldOn_101 (fun h101 => ?_) (fun h101 => ?_)
      · exact p_vret dX7_mouldOn_121 rfl ⟨rfl, by
        have h101n : ¬ 0 < evP ps (vlM O V s) := by rw [← hx6]; exact Int32.not_lt.mpr h101
        rw [mldP, if_neg h7n, if_neg h101n]; exact hw6, hF6⟩
      · have h101n : 0 < evP ps (vlM O V s) := by rw [← hx6]; exact Int32.not_le.mp h101
        rw [hx6]
        refine p_aload_n 0 105 rfl rfl dX7_mouldOn_104 rfl ?_
        refine p_getR 7 3 108 rfl dX7_mouldOn_105 fl_X7_19 hw.1.1.kd rfl hw6.1.2.2.1 (mk0 (Nat.succ_ne_zero _)) ?_
        refine p_iload_n 1 109 rfl rfl dX7_mouldOn_108 rfl ?_
        refine p_dup2 110 rfl dX7_mouldOn_109 rfl rfl ?_
        refine p_ialdE 111 rfl dX7_mouldOn_110 (kd16 _ _) (lt9 (by omega)) (hw6.2.2.1 s (by omega)).2.1 ?_
        refine p_iconst (1) 112 rfl dX7_mouldOn_111 rfl ?_
        refine p_iload_n 2 113 rfl rfl dX7_mouldOn_112 rfl ?_
        refine p_iconst (1) 114 rfl dX7_mouldOn_113 rfl ?_
        refine p_isub 115 rfl dX7_mouldOn_114 ?_
        refine p_bipush (8) 117 rfl dX7_mouldOn_115 rfl ?_
        refine p_irem 118 rfl dX7_mouldOn_117 (by decide) ?_
        refine p_ishl 119 rfl dX7_mouldOn_118 ?_
        refine p_ixor 120 rfl dX7_mouldOn_119 ?_
        rw [stp_eq h101n, nx_xor]
        refine p_iastE 121 rfl dX7_mouldOn_120 (kd16 _ _) (lt9 (by omega)) ?_
        exact p_vret dX7_mouldOn_121 rfl ⟨rfl, by rw [mldP, if_neg h7n, if_pos h101n]; exact hw6.setR, hF6.tr (Fr.sA (by simp [wX]))⟩
  · exact p_vret dX7_mouldOn_10 rfl ⟨rfl, by rw [mldP, if_pos ((pI_m1 (by omega)).mp h7)]; exact hw, Fr.rf⟩
end C40
