/-! ===== teaching ===== -/
def anyN : Nat → (Nat → Bool) → Bool
  | 0, _ => false
  | n + 1, p => anyN n p || p n
def tK (V : AW) (m x i : Nat) : Nat → Nat := fun c => if c < i ∧ m.testBit c = true then vK V c ||| x else vK V c
def tch (O : AO) (V : AW) (m x : Nat) : AW := wKn V (tK V m x (aC O))
def lrn (O : AO) (V : AW) (m x : Nat) : Bool := anyN (aC O) (fun c => m.testBit c && decide (¬ vK V c ||| x = vK V c))
theorem tK_0 (V : AW) (m x : Nat) : tK V m x 0 = vK V := by funext c; simp [tK]
theorem tK_i (V : AW) (m x i : Nat) : tK V m x i i = vK V i := by simp [tK]
theorem tK_t {V : AW} {m x i : Nat} (h : m.testBit i = true) : va_up (tK V m x i) i (vK V i ||| x) = tK V m x (i + 1) := by
  funext c
  by_cases e : c = i
  · subst e; rw [va_ups]; simp [tK, h]
  · rw [va_upo e]
    unfold tK
    have : (c < i + 1) = (c < i) := by apply propext; omega
    simp only [this]
theorem tK_f {V : AW} {m x i : Nat} (h : ¬ m.testBit i = true ∨ vK V i ||| x = vK V i) : tK V m x (i + 1) = tK V m x i := by
  funext c
  by_cases e : c = i
  · subst e
    unfold tK
    rcases h with h | h
    · simp [h]
    · simp [h]
  · unfold tK
    have : (c < i + 1) = (c < i) := by apply propext; omega
    simp only [this]
theorem wKn_wKn (V : AW) (f g : Nat → Nat) : wKn (wKn V f) g = wKn V g := rfl
theorem OkV.kn {O : AO} {V : AW} {f : Nat → Nat} (h : OkV O V) (hf : ∀ c, c < 6 → f c < 4096) : OkV O (wKn V f) := ⟨h.1, h.2.1, h.2.2.1, hf⟩
theorem tK_lt {V : AW} {m x i : Nat} (hx : x < 4096) (h : ∀ c, c < 6 → vK V c < 4096) : ∀ c, c < 6 → tK V m x i c < 4096 := by
  intro c hc
  unfold tK
  split
  · exact Nat.or_lt_two_pow (n := 12) (h c hc) hx
  · exact h c hc
section C38
variable {Γ : Gm} {σ : PH} {o w : Nat} {O : AO} {V : AW} {m x : Nat}
set_option maxRecDepth 4000 in
theorem l_teach (hm : m < 2 ^ 31) (hx : x < 4096) (hk : ∀ c, c < 6 → vK V c < 4096) : ∀ (n i : Nat) (σ1 : PH), i + n = aC O → RpO σ1 o O → RpW σ1 w (wKn V (tK V m x i)) → hR σ1 w 0 = o → WF w o σ σ1 → Ok Γ 2 0 0 mX7_teach 5 [some (.ref w), some (.int (nI m)), some (.int (nI x)), some (.int (b2i (anyN i (fun c => m.testBit c && decide (¬ vK V c ||| x = vK V c))))), some (.int (nI i))] [] σ1 (rX (fun y σ' => y = b2i (lrn O V m x) ∧ RpW σ' w (tch O V m x) ∧ WF w o σ σ')) := by
  intro n
  induction n with
  | zero =>
    intro i σ1 hi ho hw hwo hF
    have hc6 := ho.2.1.2.1
    have hiN : i = aC O := by omega
    subst hiN
    refine p_iload 4 7 rfl dX7_teach_5 rfl ?_
    refine p_aload_n 0 8 rfl rfl dX7_teach_7 rfl ?_
    refine p_getR 7 0 11 rfl dX7_teach_8 fl_X7_31 hw.1.1.kd rfl hwo ho.1.1.ne0 ?_
    refine p_getIE 4 4 14 rfl dX7_teach_11 fl_X7_64 ho.1.1.kd rfl ho.2.2.2.1 ?_
    refine p_icmp_ge 59 17 rfl rfl dX7_teach_14 (fun h14 => ?_) (fun h14 => absurd (nI_le (Nat.le_refl _) (by omega)) h14)
    refine p_iload_n 3 60 rfl rfl dX7_teach_59 rfl ?_
    exact p_zret dX7_teach_60 rfl (by cases anyN (aC O) (fun c => m.testBit c && decide (¬ vK V c ||| x = vK V c)) <;> rfl) ⟨_, rfl, rfl, hw, hF⟩
  | succ n ih =>
    intro i σ1 hi ho hw hwo hF
    have hc6 := ho.2.1.2.1
    have hlt : i < aC O := by omega
    refine p_iload 4 7 rfl dX7_teach_5 rfl ?_
    refine p_aload_n 0 8 rfl rfl dX7_teach_7 rfl ?_
    refine p_getR 7 0 11 rfl dX7_teach_8 fl_X7_31 hw.1.1.kd rfl hwo ho.1.1.ne0 ?_
    refine p_getIE 4 4 14 rfl dX7_teach_11 fl_X7_64 ho.1.1.kd rfl ho.2.2.2.1 ?_
    refine p_icmp_ge 59 17 rfl rfl dX7_teach_14 (fun h14 => absurd h14 (nI_ge hlt (by omega))) (fun h14 => ?_)
    have hki := hk i (by omega)
    refine p_iload_n 1 18 rfl rfl dX7_teach_17 rfl ?_
    refine p_iload 4 20 rfl dX7_teach_18 rfl ?_
    refine p_cN2i 23 rfl dX7_teach_20 (c_hasBitN hm (by omega)) mn_X7_92 sl_X8_hasBit (Nat.le_of_ble_eq_true rfl) (Nat.le_of_ble_eq_true rfl) ?_
    refine p_if_eq 53 26 rfl rfl dX7_teach_23 (fun h23 => ?_) (fun h23 => ?_)
    · refine p_inc_4 56 rfl dX7_teach_53 (1) rfl (Nat.le_of_ble_eq_true rfl) rfl ?_
      refine p_goto 5 rfl dX7_teach_56 ?_
      simp only [b2i_eq0, Bool.not_eq_true] at h23
      rw [nI_1]
      have e1 : anyN (i + 1) (fun c => m.testBit c && decide (¬ vK V c ||| x = vK V c)) = anyN i (fun c => m.testBit c && decide (¬ vK V c ||| x = vK V c)) := by simp [anyN, h23]
      rw [← e1]
      exact ih (i + 1) σ1 (by omega) ho (by rw [tK_f (Or.inl (by simp [h23]))]; exact hw) hwo hF
    · refine p_iload_n 2 27 rfl rfl dX7_teach_26 rfl ?_
      refine p_aload_n 0 28 rfl rfl dX7_teach_27 rfl ?_
      refine p_getR 7 5 31 rfl dX7_teach_28 fl_X7_25 hw.1.1.kd rfl hw.1.2.2.2.2.1 (mk0 (Nat.succ_ne_zero _)) ?_
      refine p_iload 4 33 rfl dX7_teach_31 rfl ?_
      refine p_ialdE 34 rfl dX7_teach_33 (kd16 _ _) (lt6 (by omega)) ((hw.2.2.2 i (by omega)).trans (by show nI (tK V m x i i) = nI (vK V i); rw [tK_i])) ?_
      refine p_iconst (-1) 35 rfl dX7_teach_34 rfl ?_
      refine p_ixor 36 rfl dX7_teach_35 ?_
      refine p_iand 37 rfl dX7_teach_36 ?_
      refine p_if_eq 53 40 rfl rfl dX7_teach_37 (fun h37 => ?_) (fun h37 => ?_)
      · refine p_inc_4 56 rfl dX7_teach_53 (1) rfl (Nat.le_of_ble_eq_true rfl) rfl ?_
        refine p_goto 5 rfl dX7_teach_56 ?_
        simp only [b2i_eq0, Decidable.not_not] at h23
        rw [andn hx hki] at h37
        rw [nI_1]
        have e1 : anyN (i + 1) (fun c => m.testBit c && decide (¬ vK V c ||| x = vK V c)) = anyN i (fun c => m.testBit c && decide (¬ vK V c ||| x = vK V c)) := by simp [anyN, h37]
        rw [← e1]
        exact ih (i + 1) σ1 (by omega) ho (by rw [tK_f (Or.inr h37)]; exact hw) hwo hF
      · refine p_aload_n 0 41 rfl rfl dX7_teach_40 rfl ?_
        refine p_getR 7 5 44 rfl dX7_teach_41 fl_X7_25 hw.1.1.kd rfl hw.1.2.2.2.2.1 (mk0 (Nat.succ_ne_zero _)) ?_
        refine p_iload 4 46 rfl dX7_teach_44 rfl ?_
        refine p_dup2 47 rfl dX7_teach_46 rfl rfl ?_
        refine p_ialdE 48 rfl dX7_teach_47 (kd16 _ _) (lt6 (by omega)) ((hw.2.2.2 i (by omega)).trans (by show nI (tK V m x i i) = nI (vK V i); rw [tK_i])) ?_
        refine p_iload_n 2 49 rfl rfl dX7_teach_48 rfl ?_
        refine p_ior 50 rfl dX7_teach_49 ?_
        rw [nx_or]
        refine p_iastE 51 rfl dX7_teach_50 (kd16 _ _) (lt6 (by omega)) ?_
        refine p_iconst (1) 52 rfl dX7_teach_51 rfl ?_
        refine p_ist_n3 53 rfl rfl dX7_teach_52 (Nat.le_of_ble_eq_true rfl) rfl ?_
        refine p_inc_4 56 rfl dX7_teach_53 (1) rfl (Nat.le_of_ble_eq_true rfl) rfl ?_
        refine p_goto 5 rfl dX7_teach_56 ?_
        simp only [b2i_eq0, Decidable.not_not] at h23
        rw [andn hx hki] at h37
        rw [nI_1]
        have e1 : b2i (anyN (i + 1) (fun c => m.testBit c && decide (¬ vK V c ||| x = vK V c))) = 1 := by simp [anyN, h23, h37, b2i]
        rw [← e1]
        have hF2 : WF w o σ1 (sA σ1 (wK w) i (nI (vK V i ||| x))) := Fr.sA (by simp [wX])
        have hw2 := hw.setK (i := i) (x := vK V i ||| x)
        rw [wKn_wKn, show vK (wKn V (tK V m x i)) = tK V m x i from rfl, tK_t h23] at hw2
        exact ih (i + 1) _ (by omega) (ho.wf hw.1.1 hF2) hw2 hwo (hF.tr hF2)
set_option maxRecDepth 4000 in
theorem c_teach (ho : RpO σ o O) (hw : RpW σ w V) (hv : OkV O V) (hwo : hR σ w 0 = o) (hm : m < 2 ^ 31) (hx : x < 4096) : CallOk Γ 2 0 0 mX7_teach [.ref w, .int (nI m), .int (nI x)] σ (rX (fun y σ' => y = b2i (lrn O V m x) ∧ RpW σ' w (tch O V m x) ∧ WF w o σ σ')) := by
  refine p_enter rfl rfl (Nat.le_of_ble_eq_true rfl) rfl ?_
  refine p_iconst (0) 1 rfl dX7_teach_0 rfl ?_
  refine p_ist_n3 2 rfl rfl dX7_teach_1 (Nat.le_of_ble_eq_true rfl) rfl ?_
  refine p_iconst (0) 3 rfl dX7_teach_2 rfl ?_
  refine p_ist_4 5 rfl dX7_teach_3 (Nat.le_of_ble_eq_true rfl) rfl ?_
  exact l_teach hm hx hv.2.2.2 (aC O) 0 σ (by omega) ho (by rw [tK_0]; exact hw) hwo Fr.rf
end C38
