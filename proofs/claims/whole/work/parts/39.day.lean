/-! ===== a day: laying ===== -/
theorem ev1_congr {f g : Nat → Int32} {t : Int32} (h : opd f t = opd g t) (stk : List Int32) : ev1 f stk t = ev1 g stk t := by
  unfold ev1; rw [h]
theorem evL_congr {f g : Nat → Int32} : ∀ (ps stk : List Int32), (∀ t ∈ ps, opd f t = opd g t) → evL f stk ps = evL g stk ps := by
  intro ps
  induction ps with
  | nil => intro stk _; rfl
  | cons t ts ih =>
    intro stk h
    simp only [evL]
    rw [ev1_congr (h t List.mem_cons_self), ih _ (fun q hq => h q (List.mem_cons_of_mem _ hq))]
theorem evP_congr {f g : Nat → Int32} {ps : List Int32} (h : ∀ t ∈ ps, opd f t = opd g t) : evP ps f = evP ps g := by
  unfold evP; rw [evL_congr ps [] h]
theorem opd_congr {f g : Nat → Int32} {n : Nat} (hn : n ≤ 6) (hfg : ∀ j, j < n → f j = g j) {t : Int32} (ht : t < Int32.ofInt (10000 + n)) : opd f t = opd g t := by
  unfold opd
  split
  · rfl
  · rename_i h1
    split
    · rename_i h2
      have e1 : (10000 : Int) ≤ t.toInt := Int32.le_iff_toInt_le.mp (Int32.not_lt.mp h1)
      have e2 : t.toInt < 2147483648 := Int32.toInt_lt t
      have e3 : (t - 10000).toInt = t.toInt - 10000 := by
        rw [Int32.toInt_sub]
        show (t.toInt - 10000).bmod (2 ^ 32) = _
        exact Int.bmod_eq_of_le (by omega) (by omega)
      have e4 : t.toInt < 10000 + n := by
        have := Int32.lt_iff_toInt_lt.mp ht
        rw [Int32.toInt_ofInt_of_le (by omega) (by omega)] at this
        exact this
      refine hfg _ ?_
      show (t - 10000).toInt.toNat < n
      omega
    · rfl
/-- what a rule on towns sees -/
def vlL (O : AO) (V : AW) (t : Nat) : Nat → Int32 := fun j => if j = 0 then nI t else if j = 1 then nI (vD V) else if j = 2 then nI (pop (shIn O V t 0)) else if j = 3 then nI (pop (clIn O V t)) else if j = 4 then nI (pop (kBy O V (clIn O V t))) else 0
def lays (O : AO) (V : AW) (t : Nat) : Bool := match aY O with
  | none => true
  | some ps => decide (0 < evP ps (vlL O V t))
def layT (O : AO) (V : AW) (t : Nat) : AW := if clIn O V t ≠ 0 ∧ lays O V t = true then tch O V (clIn O V t) (wOf O V (shIn O V t 0)) else V
def lrnT (O : AO) (V : AW) (t : Nat) : Bool := decide (clIn O V t ≠ 0) && lays O V t && lrn O V (clIn O V t) (wOf O V (shIn O V t 0))
def OkY (O : AO) : Prop := ∀ ps, aY O = some ps → ∀ t ∈ ps, t < 10005
theorem tch_0 (O : AO) (V : AW) (m : Nat) : tch O V m 0 = V := by
  unfold tch
  have : tK V m 0 (aC O) = vK V := by funext c; simp [tK]
  rw [this]; rfl
theorem anyN_f {p : Nat → Bool} : ∀ n, (∀ c, c < n → p c = false) → anyN n p = false := by
  intro n
  induction n with
  | zero => intro _; rfl
  | succ n ih => intro h; simp [anyN, ih (fun c hc => h c (by omega)), h n (by omega)]
theorem lrn_0 (O : AO) (V : AW) (m : Nat) : lrn O V m 0 = false := by
  unfold lrn
  exact anyN_f _ (fun c _ => by simp)
theorem shIn_lt {O : AO} (h : OkO O) (V : AW) (t k : Nat) : shIn O V t k < 512 := Nat.lt_of_lt_of_le (setN_lt _ _) (Nat.pow_le_pow_right (by decide) h.1)
theorem clIn_lt {O : AO} (h : OkO O) (V : AW) (t : Nat) : clIn O V t < 64 := Nat.lt_of_lt_of_le (setN_lt _ _) (Nat.pow_le_pow_right (by decide) h.2.1)
theorem wOf_lt {O : AO} (h : OkO O) (V : AW) (m : Nat) : wOf O V m < 4096 := Nat.lt_of_lt_of_le (setN_lt _ _) (Nat.pow_le_pow_right (by decide) h.2.2.1)
theorem kBy_lt {O : AO} {V : AW} (h : OkO O) (hv : OkV O V) (m : Nat) : kBy O V m < 4096 := orK_lt _ (fun c hc => hv.2.2.2 c (by have := h.2.1; omega))
theorem tch_ok {O : AO} {V : AW} {m x : Nat} (hv : OkV O V) (hx : x < 4096) : OkV O (tch O V m x) := hv.kn (tK_lt hx hv.2.2.2)
theorem layT_ok {O : AO} {V : AW} {t : Nat} (h : OkO O) (hv : OkV O V) : OkV O (layT O V t) := by
  unfold layT; split
  · exact tch_ok hv (wOf_lt h _ _)
  · exact hv
theorem layT_day (O : AO) (V : AW) (t : Nat) : vD (layT O V t) = vD V := by unfold layT; split <;> rfl
section C39
variable {Γ : Gm} {σ : PH} {o w : Nat} {O : AO} {V : AW}
set_option maxRecDepth 10000 in
theorem c_layIn (hQ : RpQ σ o O) (hY : OkY O) (hw : RpW σ w V) (hv : OkV O V) (hwo : hR σ w 0 = o) {t : Nat} (ht : t < 4) : CallOk Γ 4 0 0 mX7_layIn [.ref w, .int (nI t)] σ (rX (fun y σ' => y = b2i (lrnT O V t) ∧ RpW σ' w (layT O V t) ∧ WF w o σ σ')) := by
  have ho := hQ.1
  refine p_enter rfl rfl (Nat.le_of_ble_eq_true rfl) rfl ?_
  refine p_aload_n 0 1 rfl rfl dX7_layIn_0 rfl ?_
  refine p_iload_n 1 2 rfl rfl dX7_layIn_1 rfl ?_
  have hcl := clIn_lt ho.2.1 V t
  have hsh := shIn_lt ho.2.1 V t 0
  have hwf := wOf_lt ho.2.1 V (shIn O V t 0)
  have hkb := kBy_lt ho.2.1 hv (clIn O V t)
  refine p_cV1i 5 rfl dX7_layIn_2 (c_clerksIn ho hw hv hwo (by omega)) ml_X7_123 vl_X7_clerksIn hw.1.1.kd (by decide) rfl (Nat.le_of_ble_eq_true rfl) (Nat.le_of_ble_eq_true rfl) rfl ?_
  refine p_ist_n2 6 rfl rfl dX7_layIn_5 (Nat.le_of_ble_eq_true rfl) rfl ?_
  refine p_iload_n 2 7 rfl rfl dX7_layIn_6 rfl ?_
  refine p_if_ne 12 10 rfl rfl dX7_layIn_7 (fun h7 => ?_) (fun h7 => ?_)
  · have h7n : clIn O V t ≠ 0 := fun z => h7 (by rw [z]; rfl)
    refine p_aload_n 0 13 rfl rfl dX7_layIn_12 rfl ?_
    refine p_iload_n 1 14 rfl rfl dX7_layIn_13 rfl ?_
    refine p_iconst (0) 15 rfl dX7_layIn_14 rfl ?_
    refine p_cV2i 18 rfl dX7_layIn_15 (c_sheetsIn (k := 0) ho hw hv hwo (by omega) (by omega)) ml_X7_126 vl_X7_sheetsIn hw.1.1.kd (by decide) rfl (Nat.le_of_ble_eq_true rfl) (Nat.le_of_ble_eq_true rfl) rfl ?_
    refine p_ist_n3 19 rfl rfl dX7_layIn_18 (Nat.le_of_ble_eq_true rfl) rfl ?_
    refine p_aload_n 0 20 rfl rfl dX7_layIn_19 rfl ?_
    refine p_iload_n 3 21 rfl rfl dX7_layIn_20 rfl ?_
    refine p_cV1i 24 rfl dX7_layIn_21 (c_wordsOf ho hw hv hwo (by omega)) ml_X7_129 vl_X7_wordsOf hw.1.1.kd (by decide) rfl (Nat.le_of_ble_eq_true rfl) (Nat.le_of_ble_eq_true rfl) rfl ?_
    refine p_ist_4 26 rfl dX7_layIn_24 (Nat.le_of_ble_eq_true rfl) rfl ?_
    refine p_iload 4 28 rfl dX7_layIn_26 rfl ?_
    refine p_if_ne 33 31 rfl rfl dX7_layIn_28 (fun h28 => ?_) (fun h28 => ?_)
    · refine p_aload_n 0 34 rfl rfl dX7_layIn_33 rfl ?_
      refine p_getR 7 0 37 rfl dX7_layIn_34 fl_X7_31 hw.1.1.kd rfl hwo ho.1.1.ne0 ?_
      refine p_getR 4 12 40 rfl dX7_layIn_37 fl_X7_132 ho.1.1.kd rfl ho.1.2.2.2.2.2.2.2.2.1 (mk0 (Nat.succ_ne_zero _)) ?_
      refine p_getI 6 0 43 rfl dX7_layIn_40 fl_X7_113 hQ.2.1.1 rfl ?_
      refine p_if_eq 116 46 rfl rfl dX7_layIn_43 (fun h43 => ?_) (fun h43 => ?_)
      · have hly : lays O V t = true := by
          have h2 := hQ.2.1
          cases hy : aY O with
          | none => simp [lays, hy]
          | some ps => rw [hy] at h2; exact absurd (h2.2.2.2.1.symm.trans h43) (by decide)
        refine p_aload_n 0 117 rfl rfl dX7_layIn_116 rfl ?_
        refine p_iload_n 2 118 rfl rfl dX7_layIn_117 rfl ?_
        refine p_iload 4 120 rfl dX7_layIn_118 rfl ?_
        refine p_cV2x 0 0 123 rfl dX7_layIn_120 (c_teach ho hw hv hwo (by omega) hwf) ml_X7_139 vl_X7_teach hw.1.1.kd (by decide) rfl (Nat.le_of_ble_eq_true rfl) (Nat.le_of_ble_eq_true rfl) (Nat.le_of_ble_eq_true rfl) (Nat.le_of_ble_eq_true rfl) rfl ?_
        rintro x7 σ7 ⟨hx7, hw7, hF7⟩
        subst hx7
        exact p_zret dX7_layIn_123 rfl (by first | rfl | (cases lrn O V (clIn O V t) (wOf O V (shIn O V t 0)) <;> rfl)) ⟨_, rfl, by simp [lrnT, h7n, hly], by rw [layT, if_pos ⟨h7n, hly⟩]; exact hw7, hF7⟩
      · obtain ⟨ps, hps, hu0⟩ : ∃ ps, aY O = some ps ∧ RpU σ (oY o) (some ps) := by
          have h2 := hQ.2.1
          cases hy : aY O with
          | none => rw [hy] at h2; exact absurd h2.2.2.2 h43
          | some ps => rw [hy] at h2; exact ⟨ps, rfl, h2⟩
        refine p_aload_n 0 47 rfl rfl dX7_layIn_46 rfl ?_
        refine p_getR 7 6 50 rfl dX7_layIn_47 fl_X7_28 hw.1.1.kd rfl hw.1.2.2.2.2.2 (mk0 (Nat.succ_ne_zero _)) ?_
        refine p_iconst (0) 51 rfl dX7_layIn_50 rfl ?_
        refine p_iload_n 1 52 rfl rfl dX7_layIn_51 rfl ?_
        refine p_iastE 53 rfl dX7_layIn_52 (i := 0) (kd16 _ _) (lt6 (by decide)) ?_
        refine p_aload_n 0 54 rfl rfl dX7_layIn_53 rfl ?_
        refine p_getR 7 6 57 rfl dX7_layIn_54 fl_X7_28 hw.1.1.kd rfl hw.1.2.2.2.2.2 (mk0 (Nat.succ_ne_zero _)) ?_
        refine p_iconst (1) 58 rfl dX7_layIn_57 rfl ?_
        refine p_aload_n 0 59 rfl rfl dX7_layIn_58 rfl ?_
        refine p_getIE 7 1 62 rfl dX7_layIn_59 fl_X7_9 hw.1.1.kd rfl hw.2.1 ?_
        refine p_iastE 63 rfl dX7_layIn_62 (i := 1) (kd16 _ _) (lt6 (by decide)) ?_
        refine p_aload_n 0 64 rfl rfl dX7_layIn_63 rfl ?_
        refine p_getR 7 6 67 rfl dX7_layIn_64 fl_X7_28 hw.1.1.kd rfl hw.1.2.2.2.2.2 (mk0 (Nat.succ_ne_zero _)) ?_
        refine p_iconst (2) 68 rfl dX7_layIn_67 rfl ?_
        refine p_iload_n 3 69 rfl rfl dX7_layIn_68 rfl ?_
        refine p_cS1i 72 rfl dX7_layIn_69 (c_bitCountN (by omega)) ml_X7_71 sl_J6_bitCount_0f7a4 (Nat.le_of_ble_eq_true rfl) (Nat.le_of_ble_eq_true rfl) rfl ?_
        refine p_iastE 73 rfl dX7_layIn_72 (i := 2) (kd16 _ _) (lt6 (by decide)) ?_
        refine p_aload_n 0 74 rfl rfl dX7_layIn_73 rfl ?_
        refine p_getR 7 6 77 rfl dX7_layIn_74 fl_X7_28 hw.1.1.kd rfl hw.1.2.2.2.2.2 (mk0 (Nat.succ_ne_zero _)) ?_
        refine p_iconst (3) 78 rfl dX7_layIn_77 rfl ?_
        refine p_iload_n 2 79 rfl rfl dX7_layIn_78 rfl ?_
        refine p_cS1i 82 rfl dX7_layIn_79 (c_bitCountN (by omega)) ml_X7_71 sl_J6_bitCount_0f7a4 (Nat.le_of_ble_eq_true rfl) (Nat.le_of_ble_eq_true rfl) rfl ?_
        refine p_iastE 83 rfl dX7_layIn_82 (i := 3) (kd16 _ _) (lt6 (by decide)) ?_
        refine p_aload_n 0 84 rfl rfl dX7_layIn_83 rfl ?_
        refine p_getR 7 6 87 rfl dX7_layIn_84 fl_X7_28 hw.1.1.kd rfl hw.1.2.2.2.2.2 (mk0 (Nat.succ_ne_zero _)) ?_
        refine p_iconst (4) 88 rfl dX7_layIn_87 rfl ?_
        refine p_aload_n 0 89 rfl rfl dX7_layIn_88 rfl ?_
        refine p_iload_n 2 90 rfl rfl dX7_layIn_89 rfl ?_
        have hw4 : RpW (sA (sA (sA (sA σ (wV w) 0 (nI t)) (wV w) 1 (nI (vD V))) (wV w) 2 (nI (pop (shIn O V t 0)))) (wV w) 3 (nI (pop (clIn O V t)))) w V := (((hw.setV).setV).setV).setV
        have hF4 : WF w o σ (sA (sA (sA (sA σ (wV w) 0 (nI t)) (wV w) 1 (nI (vD V))) (wV w) 2 (nI (pop (shIn O V t 0)))) (wV w) 3 (nI (pop (clIn O V t)))) := (((Fr.sA (by simp [wX])).tr (Fr.sA (by simp [wX]))).tr (Fr.sA (by simp [wX]))).tr (Fr.sA (by simp [wX]))
        have ho4 := hQ.1.wf hw.1.1 hF4
        refine p_cV1i 93 rfl dX7_layIn_90 (c_wordsKnownBy ho4 hw4 hv hwo (by omega)) ml_X7_99 vl_X7_wordsKnownBy hw.1.1.kd (by decide) rfl (Nat.le_of_ble_eq_true rfl) (Nat.le_of_ble_eq_true rfl) rfl ?_
        refine p_cS1i 96 rfl dX7_layIn_93 (c_bitCountN hkb) ml_X7_71 sl_J6_bitCount_0f7a4 (Nat.le_of_ble_eq_true rfl) (Nat.le_of_ble_eq_true rfl) rfl ?_
        refine p_iastE 97 rfl dX7_layIn_96 (i := 4) (kd16 _ _) (lt6 (by decide)) ?_
        have hw5 : RpW (sA (sA (sA (sA (sA σ (wV w) 0 (nI t)) (wV w) 1 (nI (vD V))) (wV w) 2 (nI (pop (shIn O V t 0)))) (wV w) 3 (nI (pop (clIn O V t)))) (wV w) 4 (nI (pop (kBy O V (clIn O V t))))) w V := hw4.setV
        have hF5 : WF w o σ (sA (sA (sA (sA (sA σ (wV w) 0 (nI t)) (wV w) 1 (nI (vD V))) (wV w) 2 (nI (pop (shIn O V t 0)))) (wV w) 3 (nI (pop (clIn O V t)))) (wV w) 4 (nI (pop (kBy O V (clIn O V t))))) := hF4.tr (Fr.sA (by simp [wX]))
        have hQ5 := hQ.wf hw.1.1 hF5
        have hu : RpU (sA (sA (sA (sA (sA σ (wV w) 0 (nI t)) (wV w) 1 (nI (vD V))) (wV w) 2 (nI (pop (shIn O V t 0)))) (wV w) 3 (nI (pop (clIn O V t)))) (wV w) 4 (nI (pop (kBy O V (clIn O V t))))) (oY o) (some ps) := by have := hQ5.2.1; rw [hps] at this; exact this
        have hne : wV w ≠ uP (oY o) := (worldly_r hw.1.1 ho.1.1 (by simp)).1
        have hval : evP ps (hA (sA (sA (sA (sA (sA σ (wV w) 0 (nI t)) (wV w) 1 (nI (vD V))) (wV w) 2 (nI (pop (shIn O V t 0)))) (wV w) 3 (nI (pop (clIn O V t)))) (wV w) 4 (nI (pop (kBy O V (clIn O V t))))) (wV w)) = evP ps (vlL O V t) := by
          refine evP_congr (fun q hq => opd_congr (n := 5) (by omega) (fun j hj => ?_) (hY ps hps q hq))
          have hj5 : j = 0 ∨ j = 1 ∨ j = 2 ∨ j = 3 ∨ j = 4 := by omega
          simp only [sA, hA_sF]
          rcases hj5 with rfl | rfl | rfl | rfl | rfl <;> simp [upd, vlL]
        have hwo5 : hR (sA (sA (sA (sA (sA σ (wV w) 0 (nI t)) (wV w) 1 (nI (vD V))) (wV w) 2 (nI (pop (shIn O V t 0)))) (wV w) 3 (nI (pop (clIn O V t)))) (wV w) 4 (nI (pop (kBy O V (clIn O V t))))) w 0 = o := hwo
        have hs5 : hR (sA (sA (sA (sA (sA σ (wV w) 0 (nI t)) (wV w) 1 (nI (vD V))) (wV w) 2 (nI (pop (shIn O V t 0)))) (wV w) 3 (nI (pop (clIn O V t)))) (wV w) 4 (nI (pop (kBy O V (clIn O V t))))) o 12 = oY o := ho.1.2.2.2.2.2.2.2.2.1
        generalize hσ5 : sA (sA (sA (sA (sA σ (wV w) 0 (nI t)) (wV w) 1 (nI (vD V))) (wV w) 2 (nI (pop (shIn O V t 0)))) (wV w) 3 (nI (pop (clIn O V t)))) (wV w) 4 (nI (pop (kBy O V (clIn O V t)))) = σ5 at hw5 hF5 hQ5 hu hval hwo5 hs5 ⊢
        refine p_aload_n 0 98 rfl rfl dX7_layIn_97 rfl ?_
        refine p_getR 7 0 101 rfl dX7_layIn_98 fl_X7_31 hw.1.1.kd rfl hwo5 ho.1.1.ne0 ?_
        refine p_getR 4 12 104 rfl dX7_layIn_101 fl_X7_132 ho.1.1.kd rfl hs5 (mk0 (Nat.succ_ne_zero _)) ?_
        refine p_aload_n 0 105 rfl rfl dX7_layIn_104 rfl ?_
        refine p_getR 7 6 108 rfl dX7_layIn_105 fl_X7_28 hw.1.1.kd rfl hw5.1.2.2.2.2.2 (mk0 (Nat.succ_ne_zero _)) ?_
        refine p_cV1x 0 0 111 rfl dX7_layIn_108 (c_valueFor hu (kd16 _ _) (ln6 _) hne) ml_X7_135 vl_X6_valueFor hQ.2.1.1 (by decide) rfl (Nat.le_of_ble_eq_true rfl) (Nat.le_of_ble_eq_true rfl) (Nat.le_of_ble_eq_true rfl) (Nat.le_of_ble_eq_true rfl) rfl ?_
        rintro x6 σ6 ⟨hx6, g6, hσ6⟩
        subst hσ6
        rw [hval] at hx6
        have hF6 : WF w o σ (sF σ5 (uP (oY o)) g6) := hF5.tr (Fr.sF (by simp [wX]))
        have hw6 : RpW (sF σ5 (uP (oY o)) g6) w V := hw5.pile ho.1.1 (Or.inl rfl)
        have ho6 := hQ.1.wf hw.1.1 hF6
        have hwo6 : hR (sF σ5 (uP (oY o)) g6) w 0 = o := by rw [hF6.2.2.2.1]; exact hwo
        refine p_if_gt 116 114 rfl rfl dX7_layIn_111 (fun h111 => ?_) (fun h111 => ?_)
        · have hly : lays O V t = true := by
            have : 0 < evP ps (vlL O V t) := by rw [← hx6]; exact h111
            simp [lays, hps, this]
          refine p_aload_n 0 117 rfl rfl dX7_layIn_116 rfl ?_
          refine p_iload_n 2 118 rfl rfl dX7_layIn_117 rfl ?_
          refine p_iload 4 120 rfl dX7_layIn_118 rfl ?_
          refine p_cV2x 0 0 123 rfl dX7_layIn_120 (c_teach ho6 hw6 hv hwo6 (by omega) hwf) ml_X7_139 vl_X7_teach hw.1.1.kd (by decide) rfl (Nat.le_of_ble_eq_true rfl) (Nat.le_of_ble_eq_true rfl) (Nat.le_of_ble_eq_true rfl) (Nat.le_of_ble_eq_true rfl) rfl ?_
          rintro x7 σ7 ⟨hx7, hw7, hF7⟩
          subst hx7
          exact p_zret dX7_layIn_123 rfl (by first | rfl | (cases lrn O V (clIn O V t) (wOf O V (shIn O V t 0)) <;> rfl)) ⟨_, rfl, by simp [lrnT, h7n, hly], by rw [layT, if_pos ⟨h7n, hly⟩]; exact hw7, hF6.tr hF7⟩
        · have h111n : ¬ 0 < evP ps (vlL O V t) := by rw [← hx6]; exact h111
          refine p_iconst (0) 115 rfl dX7_layIn_114 rfl ?_
          exact p_zret dX7_layIn_115 rfl (by first | rfl | (cases lrn O V (clIn O V t) (wOf O V (shIn O V t 0)) <;> rfl)) ⟨_, rfl, by simp [lrnT, lays, hps, h111n, b2i], by rw [layT, if_neg (by simp [lays, hps, h111n])]; exact hw6, hF6⟩
    · have h28n : wOf O V (shIn O V t 0) = 0 := by
        rcases Nat.eq_zero_or_pos (wOf O V (shIn O V t 0)) with z | z
        · exact z
        · exact absurd h28 (nI_ne0 z (by omega))
      refine p_iconst (0) 32 rfl dX7_layIn_31 rfl ?_
      exact p_zret dX7_layIn_32 rfl (by first | rfl | (cases lrn O V (clIn O V t) (wOf O V (shIn O V t 0)) <;> rfl)) ⟨_, rfl, by simp [lrnT, h28n, lrn_0, b2i], by
        have e : layT O V t = V := by unfold layT; rw [h28n, tch_0]; simp
        rw [e]; exact hw, Fr.rf⟩
  · have h7n : clIn O V t = 0 := by
      rcases Nat.eq_zero_or_pos (clIn O V t) with z | z
      · exact z
      · exact absurd h7 (nI_ne0 z (by omega))
    refine p_iconst (0) 11 rfl dX7_layIn_10 rfl ?_
    exact p_zret dX7_layIn_11 rfl (by first | rfl | (cases lrn O V (clIn O V t) (wOf O V (shIn O V t 0)) <;> rfl)) ⟨_, rfl, by simp [lrnT, h7n, b2i], by rw [layT, if_neg (by simp [h7n])]; exact hw, Fr.rf⟩
end C39
