/-! ===== fires, taking, copies of worlds ===== -/
/-- the general frame: reference fields, int fields, arrays that may have changed -/
def Fx (XR XI : List (Nat × Nat)) (X : List Nat) (σ σ' : PH) : Prop := hn σ' = hn σ ∧ (∀ r k, (r, k) ∉ XI → hI σ' r k = hI σ r k) ∧ hJ σ' = hJ σ ∧ (∀ r k, (r, k) ∉ XR → hR σ' r k = hR σ r k) ∧ hL σ' = hL σ ∧ ∀ r, r ∉ X → hA σ' r = hA σ r
theorem Fx.rf {XR XI : List (Nat × Nat)} {X : List Nat} {σ : PH} : Fx XR XI X σ σ := ⟨rfl, fun _ _ _ => rfl, rfl, fun _ _ _ => rfl, rfl, fun _ _ => rfl⟩
theorem Fx.tr {XR XI : List (Nat × Nat)} {X : List Nat} {σ σ1 σ2 : PH} (h : Fx XR XI X σ σ1) (g : Fx XR XI X σ1 σ2) : Fx XR XI X σ σ2 :=
  ⟨g.1.trans h.1, fun r k hk => (g.2.1 r k hk).trans (h.2.1 r k hk), g.2.2.1.trans h.2.2.1, fun r k hk => (g.2.2.2.1 r k hk).trans (h.2.2.2.1 r k hk), g.2.2.2.2.1.trans h.2.2.2.2.1, fun r hr => (g.2.2.2.2.2 r hr).trans (h.2.2.2.2.2 r hr)⟩
theorem Fx.mono {XR XR' XI XI' : List (Nat × Nat)} {X X' : List Nat} {σ σ' : PH} (h : Fx XR XI X σ σ') (h0 : ∀ q, q ∈ XR → q ∈ XR') (h1 : ∀ q, q ∈ XI → q ∈ XI') (h2 : ∀ q, q ∈ X → q ∈ X') : Fx XR' XI' X' σ σ' :=
  ⟨h.1, fun r k hk => h.2.1 r k (fun z => hk (h1 _ z)), h.2.2.1, fun r k hk => h.2.2.2.1 r k (fun z => hk (h0 _ z)), h.2.2.2.2.1, fun r hr => h.2.2.2.2.2 r (fun z => hr (h2 _ z))⟩
theorem Fr.fx {XR XI : List (Nat × Nat)} {X : List Nat} {σ σ' : PH} (h : Fr XI X σ σ') : Fx XR XI X σ σ' := ⟨h.1, h.2.1, h.2.2.1, fun r k _ => by rw [h.2.2.2.1], h.2.2.2.2.1, h.2.2.2.2.2⟩
theorem Fx.sF {XR XI : List (Nat × Nat)} {X : List Nat} {σ : PH} {r : Nat} {f : Nat → Int32} (h : r ∈ X) : Fx XR XI X σ (sF σ r f) := Fr.fx (Fr.sF h)
theorem Fx.sA {XR XI : List (Nat × Nat)} {X : List Nat} {σ : PH} {r i : Nat} {x : Int32} (h : r ∈ X) : Fx XR XI X σ (sA σ r i x) := Fx.sF h
theorem Fx.sI {XR XI : List (Nat × Nat)} {X : List Nat} {σ : PH} {r k : Nat} {v : Int32} (h : (r, k) ∈ XI) : Fx XR XI X σ (sI σ r k v) := Fr.fx (Fr.sI h)
theorem hR_sR (σ : PH) (r k v : Nat) : hR (sR σ r k v) r k = v := by
  show va_up (hR σ) r (va_up (hR σ r) k v) r k = v
  rw [va_ups, va_ups]
theorem hR_sRo {σ : PH} {r k r' k' v : Nat} (h : (r', k') ≠ (r, k)) : hR (sR σ r k v) r' k' = hR σ r' k' := by
  show va_up (hR σ) r (va_up (hR σ r) k v) r' k' = _
  by_cases e : r' = r
  · subst e
    rw [va_ups]
    exact va_upo (fun e2 => h (by rw [e2]))
  · rw [va_upo e]
theorem Fx.sR {XR XI : List (Nat × Nat)} {X : List Nat} {σ : PH} {r k v : Nat} (h : (r, k) ∈ XR) : Fx XR XI X σ (sR σ r k v) :=
  ⟨rfl, fun _ _ _ => rfl, rfl, fun r' k' hq => hR_sRo (fun e => hq (e ▸ h)), rfl, fun _ _ => rfl⟩
def bP (V : AW) (t i : Nat) : Nat → Nat := fun s => if s < i ∧ vP V s = t + 1 then 0 else vP V s
def brn (O : AO) (V : AW) (t : Nat) : AW := wPl V (bP V t (aS O))
theorem bP_0 (V : AW) (t : Nat) : bP V t 0 = vP V := by funext s; simp [bP]
theorem bP_i (V : AW) (t i : Nat) : bP V t i i = vP V i := by simp [bP]
theorem bP_t {V : AW} {t i : Nat} (h : vP V i = t + 1) : va_up (bP V t i) i 0 = bP V t (i + 1) := by
  funext s
  by_cases e : s = i
  · subst e; rw [va_ups]; simp [bP, h]
  · rw [va_upo e]
    unfold bP
    have : (s < i + 1) = (s < i) := by apply propext; omega
    simp only [this]
theorem bP_f {V : AW} {t i : Nat} (h : ¬ vP V i = t + 1) : bP V t (i + 1) = bP V t i := by
  funext s
  by_cases e : s = i
  · subst e; simp [bP, h]
  · unfold bP
    have : (s < i + 1) = (s < i) := by apply propext; omega
    simp only [this]
def lowF (m : Nat) : Nat → Nat → Option Nat
  | 0, _ => none
  | n + 1, i => if m.testBit i = true then some i else lowF m n (i + 1)
def low (m : Nat) : Option Nat := lowF m 32 0
def oI : Option Nat → Int32
  | none => -1
  | some j => nI j
theorem lb_low {m : Nat} (hm : m < 2 ^ 31) : ∀ n i, i + n = 32 → lbF (nI m) n i = oI (lowF m n i) := by
  intro n
  induction n with
  | zero => intro i _; rfl
  | succ n ih =>
    intro i hi
    simp only [lbF, lowF]
    rw [bit_nI hm (by omega)]
    split
    · rfl
    · exact ih (i + 1) (by omega)
theorem lowF_lt {m k : Nat} (hm : m < 2 ^ k) : ∀ n i j, lowF m n i = some j → j < k ∧ m.testBit j = true := by
  intro n
  induction n with
  | zero => intro i j h; cases h
  | succ n ih =>
    intro i j h
    simp only [lowF] at h
    split at h
    · rename_i hb
      cases h
      refine ⟨?_, hb⟩
      rcases Nat.lt_or_ge i k with z | z
      · exact z
      · rw [Nat.testBit_lt_two_pow (Nat.lt_of_lt_of_le hm (Nat.pow_le_pow_right (by decide) z))] at hb
        cases hb
    · exact ih _ _ h
def tkl (O : AO) (V : AW) (c : Nat) : AW := match low (shAt O V (tOn O c (vD V) + 1)) with
  | none => V
  | some s => wPl V (va_up (vP V) s (c + 5))
theorem shAt_lt {O : AO} (h : OkO O) (V : AW) (q : Nat) : shAt O V q < 512 := Nat.lt_of_lt_of_le (setN_lt _ _) (Nat.pow_le_pow_right (by decide) h.1)
section C42
variable {Γ : Gm} {σ : PH} {o w : Nat} {O : AO} {V : AW}
theorem c_leastBitN {m : Nat} (hm : m < 2 ^ 31) : CallOk Γ 2 0 0 mX8_leastBit [.int (nI m)] σ (rI σ (oI (low m))) := by
  rw [← show lb (nI m) = oI (low m) from lb_low hm 32 0 rfl]; exact c_leastBit _
set_option maxRecDepth 4000 in
theorem l_burn {t : Nat} (ht : t < 4) (hp : ∀ s, s < aS O → vP V s < 11) : ∀ (n i : Nat) (σ1 : PH), i + n = aS O → RpO σ1 o O → RpW σ1 w (wPl V (bP V t i)) → hR σ1 w 0 = o → WF w o σ σ1 → Ok Γ 1 0 0 mX7_burn 2 [some (.ref w), some (.int (nI t)), some (.int (nI i))] [] σ1 (rV (fun σ' => RpW σ' w (brn O V t) ∧ WF w o σ σ')) := by
  intro n
  induction n with
  | zero =>
    intro i σ1 hi ho hw hwo hF
    have hs9 := ho.2.1.1
    have hiN : i = aS O := by omega
    subst hiN
    refine p_iload_n 2 3 rfl rfl dX7_burn_2 rfl ?_
    refine p_aload_n 0 4 rfl rfl dX7_burn_3 rfl ?_
    refine p_getR 7 0 7 rfl dX7_burn_4 fl_X7_31 hw.1.1.kd rfl hwo ho.1.1.ne0 ?_
    refine p_getIE 4 0 10 rfl dX7_burn_7 fl_X7_58 ho.1.1.kd rfl ho.2.2.1 ?_
    refine p_icmp_ge 36 13 rfl rfl dX7_burn_10 (fun h10 => ?_) (fun h10 => absurd (nI_le (Nat.le_refl _) (by omega)) h10)
    exact p_vret dX7_burn_36 rfl ⟨rfl, hw, hF⟩
  | succ n ih =>
    intro i σ1 hi ho hw hwo hF
    have hs9 := ho.2.1.1
    have hlt : i < aS O := by omega
    have hpi := hp i hlt
    refine p_iload_n 2 3 rfl rfl dX7_burn_2 rfl ?_
    refine p_aload_n 0 4 rfl rfl dX7_burn_3 rfl ?_
    refine p_getR 7 0 7 rfl dX7_burn_4 fl_X7_31 hw.1.1.kd rfl hwo ho.1.1.ne0 ?_
    refine p_getIE 4 0 10 rfl dX7_burn_7 fl_X7_58 ho.1.1.kd rfl ho.2.2.1 ?_
    refine p_icmp_ge 36 13 rfl rfl dX7_burn_10 (fun h10 => absurd h10 (nI_ge hlt (by omega))) (fun h10 => ?_)
    refine p_aload_n 0 14 rfl rfl dX7_burn_13 rfl ?_
    refine p_getR 7 4 17 rfl dX7_burn_14 fl_X7_22 hw.1.1.kd rfl hw.1.2.2.2.1 (mk0 (Nat.succ_ne_zero _)) ?_
    refine p_iload_n 2 18 rfl rfl dX7_burn_17 rfl ?_
    refine p_ialdE 19 rfl dX7_burn_18 (kd16 _ _) (lt9 (by omega)) ((hw.2.2.1 i (by omega)).2.2.trans (by show pI (bP V t i i) = pI (vP V i); rw [bP_i])) ?_
    refine p_iload_n 1 20 rfl rfl dX7_burn_19 rfl ?_
    refine p_icmp_ne 30 23 rfl rfl dX7_burn_20 (fun h20 => ?_) (fun h20 => ?_)
    · refine p_inc_2 33 rfl dX7_burn_30 (1) rfl (Nat.le_of_ble_eq_true rfl) rfl ?_
      refine p_goto 2 rfl dX7_burn_33 ?_
      rw [pI_nI (by omega) (by omega)] at h20
      rw [nI_1]
      exact ih (i + 1) σ1 (by omega) ho (by rw [bP_f h20]; exact hw) hwo hF
    · refine p_aload_n 0 24 rfl rfl dX7_burn_23 rfl ?_
      refine p_getR 7 4 27 rfl dX7_burn_24 fl_X7_22 hw.1.1.kd rfl hw.1.2.2.2.1 (mk0 (Nat.succ_ne_zero _)) ?_
      refine p_iload_n 2 28 rfl rfl dX7_burn_27 rfl ?_
      refine p_iconst (-1) 29 rfl dX7_burn_28 rfl ?_
      refine p_iastE 30 rfl dX7_burn_29 (kd16 _ _) (lt9 (by omega)) ?_
      refine p_inc_2 33 rfl dX7_burn_30 (1) rfl (Nat.le_of_ble_eq_true rfl) rfl ?_
      refine p_goto 2 rfl dX7_burn_33 ?_
      rw [pI_nI (by omega) (by omega)] at h20
      rw [nI_1]
      have hF2 : WF w o σ1 (sA σ1 (wP w) i (pI 0)) := Fr.sA (by simp [wX])
      have hw2 := hw.setP (i := i) (x := 0)
      rw [show wPl (wPl V (bP V t i)) (va_up (vP (wPl V (bP V t i))) i 0) = wPl V (va_up (bP V t i) i 0) from rfl, bP_t h20] at hw2
      exact ih (i + 1) _ (by omega) (ho.wf hw.1.1 hF2) hw2 hwo (hF.tr hF2)
set_option maxRecDepth 4000 in
theorem c_burn (ho : RpO σ o O) (hw : RpW σ w V) (hv : OkV O V) (hwo : hR σ w 0 = o) {t : Nat} (ht : t < 4) : CallOk Γ 1 0 0 mX7_burn [.ref w, .int (nI t)] σ (rV (fun σ' => RpW σ' w (brn O V t) ∧ WF w o σ σ')) := by
  have hc6 := ho.2.1.2.1
  refine p_enter rfl rfl (Nat.le_of_ble_eq_true rfl) rfl ?_
  refine p_iconst (0) 1 rfl dX7_burn_0 rfl ?_
  refine p_ist_n2 2 rfl rfl dX7_burn_1 (Nat.le_of_ble_eq_true rfl) rfl ?_
  exact l_burn ht (fun s hs => by have := hv.2.2.1 s hs; omega) (aS O) 0 σ (by omega) ho (by rw [bP_0]; exact hw) hwo Fr.rf
set_option maxRecDepth 4000 in
theorem c_takeLeast (ho : RpO σ o O) (hw : RpW σ w V) (hv : OkV O V) (hwo : hR σ w 0 = o) {c : Nat} (hc : c < aC O) : CallOk Γ 3 0 0 mX7_takeLeast [.ref w, .int (nI c)] σ (rV (fun σ' => RpW σ' w (tkl O V c) ∧ WF w o σ σ')) := by
  have hO := ho.2.1
  have hc6 := hO.2.1
  have hs9 := hO.1
  have hd := hv.1
  have ht := tOn_lt hO (d := vD V) hc
  have hsh := shAt_lt hO V (tOn O c (vD V) + 1)
  refine p_enter rfl rfl (Nat.le_of_ble_eq_true rfl) rfl ?_
  refine p_aload_n 0 1 rfl rfl dX7_takeLeast_0 rfl ?_
  refine p_aload_n 0 2 rfl rfl dX7_takeLeast_1 rfl ?_
  refine p_getR 7 0 5 rfl dX7_takeLeast_2 fl_X7_31 hw.1.1.kd rfl hwo ho.1.1.ne0 ?_
  refine p_iload_n 1 6 rfl rfl dX7_takeLeast_5 rfl ?_
  refine p_aload_n 0 7 rfl rfl dX7_takeLeast_6 rfl ?_
  refine p_getIE 7 1 10 rfl dX7_takeLeast_7 fl_X7_9 hw.1.1.kd rfl hw.2.1 ?_
  refine p_cV2i 13 rfl dX7_takeLeast_10 (c_townOn ho hc (by omega)) ml_X7_54 vl_X4_townOn ho.1.1.kd (by decide) rfl (Nat.le_of_ble_eq_true rfl) (Nat.le_of_ble_eq_true rfl) rfl ?_
  refine p_cV1i 16 rfl dX7_takeLeast_13 (c_archive ho hw hv hwo (by omega)) ml_X7_142 vl_X7_archive hw.1.1.kd (by decide) rfl (Nat.le_of_ble_eq_true rfl) (Nat.le_of_ble_eq_true rfl) rfl ?_
  refine p_cN1i 19 rfl dX7_takeLeast_16 (c_leastBitN (by omega)) mn_X7_145 sl_X8_leastBit (Nat.le_of_ble_eq_true rfl) (Nat.le_of_ble_eq_true rfl) ?_
  refine p_ist_n2 20 rfl rfl dX7_takeLeast_19 (Nat.le_of_ble_eq_true rfl) rfl ?_
  refine p_iload_n 2 21 rfl rfl dX7_takeLeast_20 rfl ?_
  refine p_iconst (-1) 22 rfl dX7_takeLeast_21 rfl ?_
  refine p_icmp_eq 34 25 rfl rfl dX7_takeLeast_22 (fun h22 => ?_) (fun h22 => ?_)
  · exact p_vret dX7_takeLeast_34 rfl ⟨rfl, by
      have hn : low (shAt O V (tOn O c (vD V) + 1)) = none := by
        cases hl : low (shAt O V (tOn O c (vD V) + 1)) with
        | none => rfl
        | some s =>
          have hs9b := (lowF_lt (k := 9) hsh 32 0 s hl).1
          rw [hl] at h22
          exact absurd h22 (fun z => by
            have h1 := congrArg Int32.toInt z
            rw [show oI (some s) = nI s from rfl, nI_toInt (by omega)] at h1
            have h2 : (-1 : Int32).toInt = -1 := by decide
            omega)
      unfold tkl; rw [hn]; exact hw, Fr.rf⟩
  · obtain ⟨s, hs⟩ : ∃ s, low (shAt O V (tOn O c (vD V) + 1)) = some s := by
      cases hl : low (shAt O V (tOn O c (vD V) + 1)) with
      | none => rw [hl] at h22; exact absurd rfl h22
      | some s => exact ⟨s, rfl⟩
    have hs9b := (lowF_lt (k := 9) hsh 32 0 s hs).1
    rw [hs]
    refine p_aload_n 0 26 rfl rfl dX7_takeLeast_25 rfl ?_
    refine p_getR 7 4 29 rfl dX7_takeLeast_26 fl_X7_22 hw.1.1.kd rfl hw.1.2.2.2.1 (mk0 (Nat.succ_ne_zero _)) ?_
    refine p_iload_n 2 30 rfl rfl dX7_takeLeast_29 rfl ?_
    refine p_iconst (4) 31 rfl dX7_takeLeast_30 rfl ?_
    refine p_iload_n 1 32 rfl rfl dX7_takeLeast_31 rfl ?_
    refine p_iadd 33 rfl dX7_takeLeast_32 ?_
    rw [show (4 : Int32) = nI 4 from rfl, nI_add, show 4 + c = c + 4 by omega, ← pI_town (c + 4)]
    show Ok _ _ _ _ _ _ _ [.int (pI (c + 5)), .int (nI s), .ref (wP w)] _ _
    refine p_iastE 34 rfl dX7_takeLeast_33 (kd16 _ _) (lt9 hs9b) ?_
    exact p_vret dX7_takeLeast_34 rfl ⟨rfl, by unfold tkl; rw [hs]; exact hw.setP, Fr.sA (by simp [wX])⟩
theorem wne2 {w w' : Nat} (hw : isW w) (hw' : isW w') (h : w' ≠ w) : ∀ r, r ∈ [wL w', wR w', wP w', wK w', wV w'] → r ∉ [wL w, wR w, wP w, wK w, wV w] := by
  rcases hw with rfl | rfl | rfl <;> rcases hw' with rfl | rfl | rfl <;> first | exact absurd rfl h | decide
theorem cl0 : (0 : Int32).toNatClampNeg = 0 := by decide
theorem cl9 : (9 : Int32).toNatClampNeg = 9 := by decide
theorem cl6 : (6 : Int32).toNatClampNeg = 6 := by decide
set_option maxRecDepth 4000 in
theorem c_copyW {w' : Nat} (hw : StW σ w) (hw' : RpW σ w' V) (hne : w' ≠ w) (hwo : hR σ w' 0 = o) (ho : o ≠ 0) : CallOk Γ 1 0 0 mX7_copyFrom [.ref w, .ref w'] σ (rV (fun σ' => RpW σ' w V ∧ hR σ' w 0 = o ∧ Fx [(w, 0)] [(w, 1)] [wL w, wR w, wP w, wK w] σ σ')) := by
  have hx := wne2 hw.1 hw'.1.1 hne
  have hn := wne w
  have hkw := hw.1.kd
  have hkw' := hw'.1.1.kd
  refine p_enter rfl rfl (Nat.le_of_ble_eq_true rfl) rfl ?_
  refine p_aload_n 0 1 rfl rfl dX7_copyFrom_0 rfl ?_
  refine p_aload_n 1 2 rfl rfl dX7_copyFrom_1 rfl ?_
  refine p_getR 7 0 5 rfl dX7_copyFrom_2 fl_X7_31 (by assumption) rfl hwo ho ?_
  refine p_putR 7 0 8 rfl dX7_copyFrom_5 fl_X7_31 (by assumption) rfl ho (Or.inl rfl) ?_
  refine p_aload_n 0 9 rfl rfl dX7_copyFrom_8 rfl ?_
  refine p_aload_n 1 10 rfl rfl dX7_copyFrom_9 rfl ?_
  refine p_getIE 7 1 13 rfl dX7_copyFrom_10 fl_X7_9 (by assumption) rfl hw'.2.1 ?_
  refine p_putI 7 1 16 rfl dX7_copyFrom_13 fl_X7_9 (by assumption) rfl (Or.inl rfl) ?_
  refine p_aload_n 1 17 rfl rfl dX7_copyFrom_16 rfl ?_
  refine p_getR 7 2 20 rfl dX7_copyFrom_17 fl_X7_15 (by assumption) rfl ((hR_sRo (by intro e; cases e)).trans hw'.1.2.1) (mk0 (Nat.succ_ne_zero _)) ?_
  refine p_iconst (0) 21 rfl dX7_copyFrom_20 rfl ?_
  refine p_aload_n 0 22 rfl rfl dX7_copyFrom_21 rfl ?_
  refine p_getR 7 2 25 rfl dX7_copyFrom_22 fl_X7_15 (by assumption) rfl ((hR_sRo (by intro e; cases e)).trans hw.2.1) (mk0 (Nat.succ_ne_zero _)) ?_
  refine p_iconst (0) 26 rfl dX7_copyFrom_25 rfl ?_
  refine p_bipush (9) 28 rfl dX7_copyFrom_26 rfl ?_
  refine p_copy 31 rfl dX7_copyFrom_28 cl_X7_38 (kd16 _ _) (kd16 _ _) (by decide) (by decide) (by decide) (by rw [cl0, cl9]; exact Nat.le_of_eq (by rw [show ln (wL w') = 9 from ln9 _])) (by rw [cl0, cl9]; exact Nat.le_of_eq (by rw [show ln (wL w) = 9 from ln9 _])) (Nat.le_of_ble_eq_true rfl) (Nat.le_of_ble_eq_true rfl) ?_
  refine p_aload_n 1 32 rfl rfl dX7_copyFrom_31 rfl ?_
  refine p_getR 7 3 35 rfl dX7_copyFrom_32 fl_X7_19 (by assumption) rfl ((hR_sRo (by intro e; cases e)).trans hw'.1.2.2.1) (mk0 (Nat.succ_ne_zero _)) ?_
  refine p_iconst (0) 36 rfl dX7_copyFrom_35 rfl ?_
  refine p_aload_n 0 37 rfl rfl dX7_copyFrom_36 rfl ?_
  refine p_getR 7 3 40 rfl dX7_copyFrom_37 fl_X7_19 (by assumption) rfl ((hR_sRo (by intro e; cases e)).trans hw.2.2.1) (mk0 (Nat.succ_ne_zero _)) ?_
  refine p_iconst (0) 41 rfl dX7_copyFrom_40 rfl ?_
  refine p_bipush (9) 43 rfl dX7_copyFrom_41 rfl ?_
  refine p_copy 46 rfl dX7_copyFrom_43 cl_X7_38 (kd16 _ _) (kd16 _ _) (by decide) (by decide) (by decide) (by rw [cl0, cl9]; exact Nat.le_of_eq (by rw [show ln (wR w') = 9 from ln9 _])) (by rw [cl0, cl9]; exact Nat.le_of_eq (by rw [show ln (wR w) = 9 from ln9 _])) (Nat.le_of_ble_eq_true rfl) (Nat.le_of_ble_eq_true rfl) ?_
  refine p_aload_n 1 47 rfl rfl dX7_copyFrom_46 rfl ?_
  refine p_getR 7 4 50 rfl dX7_copyFrom_47 fl_X7_22 (by assumption) rfl ((hR_sRo (by intro e; cases e)).trans hw'.1.2.2.2.1) (mk0 (Nat.succ_ne_zero _)) ?_
  refine p_iconst (0) 51 rfl dX7_copyFrom_50 rfl ?_
  refine p_aload_n 0 52 rfl rfl dX7_copyFrom_51 rfl ?_
  refine p_getR 7 4 55 rfl dX7_copyFrom_52 fl_X7_22 (by assumption) rfl ((hR_sRo (by intro e; cases e)).trans hw.2.2.2.1) (mk0 (Nat.succ_ne_zero _)) ?_
  refine p_iconst (0) 56 rfl dX7_copyFrom_55 rfl ?_
  refine p_bipush (9) 58 rfl dX7_copyFrom_56 rfl ?_
  refine p_copy 61 rfl dX7_copyFrom_58 cl_X7_38 (kd16 _ _) (kd16 _ _) (by decide) (by decide) (by decide) (by rw [cl0, cl9]; exact Nat.le_of_eq (by rw [show ln (wP w') = 9 from ln9 _])) (by rw [cl0, cl9]; exact Nat.le_of_eq (by rw [show ln (wP w) = 9 from ln9 _])) (Nat.le_of_ble_eq_true rfl) (Nat.le_of_ble_eq_true rfl) ?_
  refine p_aload_n 1 62 rfl rfl dX7_copyFrom_61 rfl ?_
  refine p_getR 7 5 65 rfl dX7_copyFrom_62 fl_X7_25 (by assumption) rfl ((hR_sRo (by intro e; cases e)).trans hw'.1.2.2.2.2.1) (mk0 (Nat.succ_ne_zero _)) ?_
  refine p_iconst (0) 66 rfl dX7_copyFrom_65 rfl ?_
  refine p_aload_n 0 67 rfl rfl dX7_copyFrom_66 rfl ?_
  refine p_getR 7 5 70 rfl dX7_copyFrom_67 fl_X7_25 (by assumption) rfl ((hR_sRo (by intro e; cases e)).trans hw.2.2.2.2.1) (mk0 (Nat.succ_ne_zero _)) ?_
  refine p_iconst (0) 71 rfl dX7_copyFrom_70 rfl ?_
  refine p_bipush (6) 73 rfl dX7_copyFrom_71 rfl ?_
  refine p_copy 76 rfl dX7_copyFrom_73 cl_X7_38 (kd16 _ _) (kd16 _ _) (by decide) (by decide) (by decide) (by rw [cl0, cl6]; exact Nat.le_of_eq (by rw [show ln (wK w') = 6 from ln6 _])) (by rw [cl0, cl6]; exact Nat.le_of_eq (by rw [show ln (wK w) = 6 from ln6 _])) (Nat.le_of_ble_eq_true rfl) (Nat.le_of_ble_eq_true rfl) ?_
  exact p_vret dX7_copyFrom_76 rfl ⟨rfl, by
    rw [cl0, cl9, cl6]
    refine ⟨⟨⟨hw.1, ?_, ?_, ?_, ?_, ?_⟩, hI_sI _ _ _ _, fun s hs => ?_, fun c hc => ?_⟩, ?_, ?_⟩
    · exact (hR_sRo (by intro e; cases e)).trans hw.2.1
    · exact (hR_sRo (by intro e; cases e)).trans hw.2.2.1
    · exact (hR_sRo (by intro e; cases e)).trans hw.2.2.2.1
    · exact (hR_sRo (by intro e; cases e)).trans hw.2.2.2.2.1
    · exact (hR_sRo (by intro e; cases e)).trans hw.2.2.2.2.2
    · have g := hw'.2.2.1 s hs
      have q1 := hx (wL w') (by simp)
      have q2 := hx (wR w') (by simp)
      have q3 := hx (wP w') (by simp)
      simp only [List.mem_cons, List.not_mem_nil, or_false, not_or] at q1 q2 q3
      refine ⟨?_, ?_, ?_⟩
      · rw [sF_o hn.2.2.1, sF_o hn.2.1, sF_o hn.1, hA_sF, pk_cpy_in (by omega) (by omega), show 0 + (s - 0) = s by omega]; exact g.1
      · rw [sF_o hn.2.2.2.2.2.1, sF_o hn.2.2.2.2.1, hA_sF, pk_cpy_in (by omega) (by omega), show 0 + (s - 0) = s by omega, sF_o q2.1]; exact g.2.1
      · rw [sF_o hn.2.2.2.2.2.2.2.1, hA_sF, pk_cpy_in (by omega) (by omega), show 0 + (s - 0) = s by omega, sF_o q3.2.1, sF_o q3.1]; exact g.2.2
    · have q1 := hx (wK w') (by simp)
      simp only [List.mem_cons, List.not_mem_nil, or_false, not_or] at q1
      rw [hA_sF, pk_cpy_in (by omega) (by omega), show 0 + (c - 0) = c by omega, sF_o q1.2.2.1, sF_o q1.2.1, sF_o q1.1]
      exact hw'.2.2.2 c hc
    · exact hR_sR _ _ _ _
    · exact (((((Fx.sR (by simp)).tr (Fx.sI (by simp))).tr (Fx.sF (by simp))).tr (Fx.sF (by simp))).tr (Fx.sF (by simp))).tr (Fx.sF (by simp))⟩
end C42
