/-! ===== the reference: operand, expression ===== -/
theorem drp_len (l : Nat) : ∀ k o, (drp l o k).1.length + (drp l o k).2.length = o.length + k.length ∧ (drp l o k).2.length ≤ k.length := by
  intro k
  induction k with
  | nil => intro o; exact ⟨rfl, Nat.le_refl _⟩
  | cons a r ih =>
    intro o
    simp only [drp]
    split
    · have := ih (o ++ [a])
      rw [List.length_append] at this
      simp only [List.length_cons, List.length_nil] at this ⊢
      omega
    · exact ⟨rfl, Nat.le_refl _⟩
theorem kw_is {tx : Nat → Nat} {S : RS} {k : Nat} (hk : k < 17) : oI (kwF tx S) = nI k ↔ kwF tx S = some k := by
  constructor
  · intro h
    cases hkw : kwF tx S with
    | none => rw [hkw] at h; exact absurd h.symm (nI_m1 (by omega))
    | some j => rw [hkw] at h; rw [nI_eqI (show nI j = nI k from h) (by have := kwF_lt hkw; omega) (by omega)]
  · intro h; rw [h]; rfl
theorem kw_n (i : Nat) {tx : Nat → Nat} {S : RS} {k : Nat} (hk : k < 17) (he : kwl k = i) : oI (kwF tx S) = nI k ↔ spl tx S (swd i) = true := by
  rw [kw_is hk, kwF_iff hk, he]
theorem kw16 {tx : Nat → Nat} {S : RS} : oI (kwF tx S) = 16 ↔ spl tx S (swd 20) = true := kw_n 20 (k := 16) (by decide) rfl
theorem kw14 {tx : Nat → Nat} {S : RS} : oI (kwF tx S) = 14 ↔ spl tx S (swd 22) = true := kw_n 22 (k := 14) (by decide) rfl
theorem kw15 {tx : Nat → Nat} {S : RS} : oI (kwF tx S) = 15 ↔ spl tx S (swd 21) = true := kw_n 21 (k := 15) (by decide) rfl
def opn : List Int32 → Nat
  | [] => 0
  | a :: r => opn r + (if 14 ≤ a then 1 else 0)
def DI (X : MX) : Prop := (zS X).1 = 0 → opn (zK X) + 1 = zD X
theorem opn_drp (l : Nat) : ∀ k o, opn (drp l o k).2 = opn k := by
  intro k
  induction k with
  | nil => intro o; rfl
  | cons a r ih =>
    intro o
    simp only [drp]
    split
    · rename_i hh
      rw [ih]; simp only [opn]; rw [if_neg (Int32.not_le.mpr hh.1)]; rfl
    · rfl
theorem opn_rep : ∀ j k, opn (List.replicate j 3 ++ k) = opn k := by
  intro j
  induction j with
  | zero => intro k; rfl
  | succ j ih => intro k; rw [List.replicate_succ]; show opn (List.replicate j 3 ++ k) + _ = _; rw [ih, if_neg (by decide)]; rfl
theorem DI.nt {tx : Nat → Nat} {z : Nat} {X : MX} (h : DI X) (h0 : (zS X).1 = 0) : DI (ntX tx z X) := fun _ => by
  show opn (List.replicate _ 3 ++ zK X) + 1 = zD X
  rw [opn_rep]; exact h h0
theorem DI.pr {tx : Nat → Nat} {z : Nat} {w : Bool} {X : MX} (h : DI X) (h0 : (zS X).1 = 0) : DI (prM tx z w X) := fun _ => by
  have e1 : zK (prM tx z w X) = zK X := by unfold prM; split; split <;> rfl; split; split <;> rfl; rfl
  have e2 : zD (prM tx z w X) = zD X := by unfold prM; split; split <;> rfl; split; split <;> rfl; rfl
  rw [e1, e2]; exact h h0
theorem DI.de {tx : Nat → Nat} {z : Nat} {X : MX} {S : RS} {o : List Int32} (h : DI X) (h0 : (zS X).1 = 0) (hs : S.1 = 0) : DI (dee tx z (S, o, 14 :: zK X, zD X, zT X)) := fun hq => by
  by_cases hd : zD X < 6
  · have e : dee tx z (S, o, 14 :: zK X, zD X, zT X) = (S, o, 14 :: zK X, zD X + 1, upB (zT X) (zD X + 1) false) := if_pos hd
    rw [e]
    show opn (zK X) + (if (14 : Int32) ≤ 14 then 1 else 0) + 1 = zD X + 1
    rw [if_pos (by decide), h h0]
  · have e : dee tx z (S, o, 14 :: zK X, zD X, zT X) = (deep tx z S, o, 14 :: zK X, zD X, zT X) := if_neg hd
    rw [e] at hq
    have : ¬ (deep tx z S).1 = 0 := fai_n (by split <;> decide)
    exact absurd hq this
theorem DI.ps {tx : Nat → Nat} {z l : Nat} {c : Int32} {X : MX} {T : Nat → Bool} (h : DI X) (h0 : (zS X).1 = 0) (hc : c < 14) : DI (psh tx z l c X T) := fun _ => by
  show opn (drp l (zO X) (zK X)).2 + (if 14 ≤ c then 1 else 0) + 1 = zD X
  rw [opn_drp, if_neg (Int32.not_le.mpr hc)]; exact h h0
theorem opn_hd : ∀ k o a r, (drp 0 o k).2 = a :: r → 14 ≤ a := by
  intro k
  induction k with
  | nil => intro o a r h; cases h
  | cons b t ih =>
    intro o a r h
    simp only [drp] at h
    split at h
    · exact ih _ a r h
    · rename_i hh
      cases h
      exact Int32.not_lt.mp (fun q => hh ⟨q, Nat.zero_le _⟩)
theorem DI.cl {tx : Nat → Nat} {z : Nat} {X : MX} {a : Int32} {r : List Int32} (h : DI X) (h0 : (zS X).1 = 0) (hd : (drp 0 (zO X) (zK X)).2 = a :: r) : DI (adv tx z (zS X), (drp 0 (zO X) (zK X)).1, (drp 0 (zO X) (zK X)).2.tail, zD X - 1, zT X) := fun _ => by
  have h1 := opn_drp 0 (zK X) (zO X)
  rw [hd] at h1
  show opn (drp 0 (zO X) (zK X)).2.tail + 1 = zD X - 1
  rw [hd]
  show opn r + 1 = zD X - 1
  have h2 : opn (a :: r) = opn r + 1 := by show opn r + (if 14 ≤ a then 1 else 0) = _; rw [if_pos (opn_hd _ _ _ _ hd)]
  have h3 := h h0
  omega
def OPost (tx : Nat → Nat) (z : Nat) (w : Bool) (N : Nat) (F : MY) (σ' : PH) : Prop := (∃ N' X', N' < N ∧ rnN tx z w N' (2, X') = F ∧ RX σ' tx z w X' ∧ (zS X').1 = 0 ∧ DI X') ∨ (¬ (zS F.2).1 = 0 ∧ RX σ' tx z w F.2)
theorem rn_flt {tx : Nat → Nat} {z : Nat} {w : Bool} {m N : Nat} {X : MX} (hf : ¬ (zS X).1 = 0) (hm : ¬ m = 3) (h3 : (rnN tx z w N (m, X)).1 = 3) : rnN tx z w N (m, X) = (3, X) := by
  cases N with
  | zero => exact absurd h3 hm
  | succ N =>
    show rnN tx z w N (stp tx z w (m, X)) = _
    have : stp tx z w (m, X) = (3, X) := by
      show (if m = 3 then (m, X) else if ¬ (zS X).1 = 0 then (3, X) else _) = _
      rw [if_neg hm, if_pos hf]
    rw [this]; exact rnN_3 tx z w X N
section Ca8
variable {Γ : Gm} {σ : PH} {tx : Nat → Nat} {z : Nat} {w : Bool} {X : MX}
set_option maxRecDepth 4000 in
theorem c_partF (hX : RX σ tx z w X) (hf : ¬ (zS X).1 = 0) : CallOk Γ 6 0 0 mX9_part [.ref M0] σ (rV (fun σ' => σ' = σ)) := by
  refine p_enter rfl rfl (Nat.le_of_ble_eq_true rfl) rfl ?_
  refine p_aload_n 0 1 rfl rfl dX9_part_0 rfl ?_
  refine p_cV0i 4 rfl dX9_part_1 (c_isGood hX.2.1) ml_X9_161 vl_X9_isGood rfl (by decide) rfl (Nat.le_of_ble_eq_true rfl) (Nat.le_of_ble_eq_true rfl) rfl ?_
  refine p_if_ne 8 7 rfl rfl dX9_part_4 (fun h4 => absurd (b2i_t h4) (by simpa using hf)) (fun h4 => ?_)
  exact p_vret dX9_part_7 rfl ⟨rfl, rfl⟩
theorem RX.push {σ1 σ2 : PH} {a : Int32} (hX : RX σ tx z w X) (h0 : (zS X).1 = 0) (hk : ¬ (zS X).2.2.1 = 0) (h1 : CW σ1 (zO X) (a :: zK X)) (hF1 : Fj [34] [mWt] σ σ1) (h2 : RdM σ2 tx z (adv tx z (zS X))) (hF2 : Fj [18, 19, 20, 21, 22, 23] [] σ1 σ2) : RX σ2 tx z w (adv tx z (zS X), zO X, a :: zK X, zD X, zT X) ∧ Fj [14, 15, 18, 19, 20, 21, 22, 23, 31, 34, 35] [rCd, mWt, mTs] σ σ2 := by
  have hFF : Fj [14, 15, 18, 19, 20, 21, 22, 23, 31, 34, 35] [rCd, mWt, mTs] σ σ2 := (hF1.up (by decide) (by decide)).tr (hF2.up (by decide) (by decide))
  have hg := hX.2.2.2.1 h0
  have ho := (hX.2.1.2.2.2.1 h0).2
  refine ⟨hX.good hFF h2 (by show (adv tx z (zS X)).1 = 0; rw [adv_f]; exact h0) (h1.fr hF2 rfl rfl rfl rfl) ⟨by rw [hF2.i (by decide), hF1.i (by decide)]; exact hg.2.1.1, hg.2.1.2⟩ (fun i hi hj => by rw [hF2.2.2.2.2 mTs (by simp), hF1.2.2.2.2 mTs (by decide)]; exact hg.2.2.1 i hi hj) ?_, hFF⟩
  have := adv_st (tx := tx) ho hk
  have h3 := hg.2.2.2.1
  have h4 := hg.2.2.2.2
  refine ⟨?_, ?_⟩
  · show (zO X).length + (a :: zK X).length + 8 ≤ 2 * (adv tx z (zS X)).2.2.2.1
    rw [List.length_cons]; omega
  · show (a :: zK X).length ≤ (adv tx z (zS X)).2.2.2.1
    rw [List.length_cons]; omega
set_option maxRecDepth 8000 in
theorem l_nts {X0 : MX} {x1 : Option Value} {Q : PO → PH → Prop} (kk : ∀ σ2 x4, RX σ2 tx z w (ntX tx z X0) → Fj [14, 15, 18, 19, 20, 21, 22, 23, 31, 34, 35] [rCd, mWt, mTs] σ σ2 → Ok Γ 9 0 0 mX9_operand 75 [some (.ref M0), x1, some (.int 1), some (.int 1), x4] [] σ2 Q) : ∀ (m j : Nat) (X : MX) (σ1 : PH), j + m = 6 → RX σ1 tx z w X → (zS X).1 = 0 → (nots tx z 6 (zS X0)).2 = (nots tx z m (zS X)).2 → (nots tx z 6 (zS X0)).1 = j + (nots tx z m (zS X)).1 → zO X = zO X0 → zK X = List.replicate j 3 ++ zK X0 → zD X = zD X0 → zT X = zT X0 → Fj [14, 15, 18, 19, 20, 21, 22, 23, 31, 34, 35] [rCd, mWt, mTs] σ σ1 → Ok Γ 9 0 0 mX9_operand 18 [some (.ref M0), x1, some (.int 1), some (.int 1), some (.int (nI j))] [] σ1 Q := by
  intro m
  induction m with
  | zero =>
    intro j X σ1 hj hX h0 e1 e2 eo ek ed et hF
    have hT := hX.1
    have h := hX.2.1
    have hz7 := hT.2.1
    have htx := hT.2.2.1
    have hr := hT.1
    have hg := hX.2.2.2.1 h0
    have ht := (h.2.2.2.1 h0).1
    have ho := (h.2.2.2.1 h0).2
    have hcw := hg.1
    have hb := hg.2.2.2.b hz7 ho
    have hbd := hg.2.2.2
    refine p_aload_n 0 19 rfl rfl dX9_operand_18 rfl ?_
    refine p_cV0i 22 rfl dX9_operand_19 (c_isGood h) ml_X9_161 vl_X9_isGood rfl (by decide) rfl (Nat.le_of_ble_eq_true rfl) (Nat.le_of_ble_eq_true rfl) rfl ?_
    refine p_if_eq 75 25 rfl rfl dX9_operand_22 (fun h22 => absurd (b2i_f h22) (by rw [h0]; decide)) (fun h22 => ?_)
    refine p_iload_n 2 26 rfl rfl dX9_operand_25 rfl ?_
    refine p_if_eq 75 29 rfl rfl dX9_operand_26 (fun h26 => absurd h26 (by decide)) (fun h26 => ?_)
    refine p_aload_n 0 30 rfl rfl dX9_operand_29 rfl ?_
    refine p_cV0i 33 rfl dX9_operand_30 (c_knownWord h h0 hz7) ml_X9_186 vl_X9_knownWord rfl (by decide) rfl (Nat.le_of_ble_eq_true rfl) (Nat.le_of_ble_eq_true rfl) rfl ?_
    refine p_bipush (16) 35 rfl dX9_operand_33 rfl ?_
    refine p_icmp_ne 75 38 rfl rfl dX9_operand_35 (fun h35 => ?_) (fun h35 => ?_)
    · have hs : spl tx (zS X) (swd 20) = false := by
        cases q : spl tx (zS X) (swd 20) with
        | false => rfl
        | true => exact absurd (kw16.mpr q) h35
      have en : nots tx z 0 (zS X) = (0, zS X) := rfl
      have enx : ntX tx z X0 = X := by
        unfold ntX rdNots
        rw [e2, en, e1, en, ntE_f hs, ← eo, ← ed, ← et, Nat.add_zero, ← ek]
        rfl
      exact kk σ1 _ (by rw [enx]; exact hX) hF
    · have hs : spl tx (zS X) (swd 20) = true := kw16.mp h35
      refine p_iload 4 40 rfl dX9_operand_38 rfl ?_
      refine p_bipush (6) 42 rfl dX9_operand_40 rfl ?_
      refine p_icmp_ne 50 45 rfl rfl dX9_operand_42 (fun h42 => absurd (show nI j = 6 by rw [show j = 6 by omega]; rfl) h42) (fun h42 => ?_)
      refine p_aload_n 0 46 rfl rfl dX9_operand_45 rfl ?_
      refine p_iconst (2) 47 rfl dX9_operand_46 rfl ?_
      refine p_cV1v 0 0 50 rfl dX9_operand_47 (c_wrong h (w := 2) (by decide) (by decide)) ml_X9_168 vl_X9_wrong rfl (by decide) rfl (Nat.le_of_ble_eq_true rfl) (Nat.le_of_ble_eq_true rfl) (Nat.le_of_ble_eq_true rfl) (Nat.le_of_ble_eq_true rfl) rfl ?_
      intro σ2 hp2
      refine p_inc_4 53 rfl dX9_operand_50 (1) rfl (Nat.le_of_ble_eq_true rfl) rfl ?_
      refine p_aload_n 0 54 rfl rfl dX9_operand_53 rfl ?_
      refine p_cV0i 57 rfl dX9_operand_54 (c_isGood hp2.1) ml_X9_161 vl_X9_isGood rfl (by decide) rfl (Nat.le_of_ble_eq_true rfl) (Nat.le_of_ble_eq_true rfl) rfl ?_
      refine p_if_ne 63 60 rfl rfl dX9_operand_57 (fun h57 => absurd (b2i_t h57) (by rw [(fai_k h0).2.1]; decide)) (fun h57 => ?_)
      refine p_goto 18 rfl dX9_operand_60 ?_
      rw [nI_1]
      refine p_aload_n 0 19 rfl rfl dX9_operand_18 rfl ?_
      refine p_cV0i 22 rfl dX9_operand_19 (c_isGood hp2.1) ml_X9_161 vl_X9_isGood rfl (by decide) rfl (Nat.le_of_ble_eq_true rfl) (Nat.le_of_ble_eq_true rfl) rfl ?_
      refine p_if_eq 75 25 rfl rfl dX9_operand_22 (fun h22 => ?_) (fun h22 => absurd (b2i_t h22) (by rw [(fai_k h0).2.1]; decide))
      have enx : ntX tx z X0 = (fai z 2 (zS X), zO X0, List.replicate 6 3 ++ zK X0, zD X0, zT X0) := by
        unfold ntX rdNots
        rw [e2, e1, show nots tx z 0 (zS X) = (0, zS X) from rfl, ntE_t hs, show j + 0 = 6 by omega]
      refine kk σ2 _ (by rw [enx]; exact hX.flt h0 hz7 hp2.1 (by rw [(fai_k h0).2.1]; decide) (hp2.2.1.up (by decide) (by decide)) _ _ (hcw.fr hp2.2.1 rfl rfl rfl rfl) (by omega)) (hF.tr (hp2.2.1.up (by decide) (by decide)))
  | succ m ih =>
    intro j X σ1 hj hX h0 e1 e2 eo ek ed et hF
    have hT := hX.1
    have h := hX.2.1
    have hz7 := hT.2.1
    have htx := hT.2.2.1
    have hr := hT.1
    have hg := hX.2.2.2.1 h0
    have ht := (h.2.2.2.1 h0).1
    have ho := (h.2.2.2.1 h0).2
    have hcw := hg.1
    have hb := hg.2.2.2.b hz7 ho
    have hbd := hg.2.2.2
    refine p_aload_n 0 19 rfl rfl dX9_operand_18 rfl ?_
    refine p_cV0i 22 rfl dX9_operand_19 (c_isGood h) ml_X9_161 vl_X9_isGood rfl (by decide) rfl (Nat.le_of_ble_eq_true rfl) (Nat.le_of_ble_eq_true rfl) rfl ?_
    refine p_if_eq 75 25 rfl rfl dX9_operand_22 (fun h22 => absurd (b2i_f h22) (by rw [h0]; decide)) (fun h22 => ?_)
    refine p_iload_n 2 26 rfl rfl dX9_operand_25 rfl ?_
    refine p_if_eq 75 29 rfl rfl dX9_operand_26 (fun h26 => absurd h26 (by decide)) (fun h26 => ?_)
    refine p_aload_n 0 30 rfl rfl dX9_operand_29 rfl ?_
    refine p_cV0i 33 rfl dX9_operand_30 (c_knownWord h h0 hz7) ml_X9_186 vl_X9_knownWord rfl (by decide) rfl (Nat.le_of_ble_eq_true rfl) (Nat.le_of_ble_eq_true rfl) rfl ?_
    refine p_bipush (16) 35 rfl dX9_operand_33 rfl ?_
    refine p_icmp_ne 75 38 rfl rfl dX9_operand_35 (fun h35 => ?_) (fun h35 => ?_)
    · have hs : spl tx (zS X) (swd 20) = false := by
        cases q : spl tx (zS X) (swd 20) with
        | false => rfl
        | true => exact absurd (kw16.mpr q) h35
      have en : nots tx z (m + 1) (zS X) = (0, zS X) := nots_f hs
      have enx : ntX tx z X0 = X := by
        unfold ntX rdNots
        rw [e2, en, e1, en, ntE_f hs, ← eo, ← ed, ← et, Nat.add_zero, ← ek]
        rfl
      exact kk σ1 _ (by rw [enx]; exact hX) hF
    · have hs : spl tx (zS X) (swd 20) = true := kw16.mp h35
      refine p_iload 4 40 rfl dX9_operand_38 rfl ?_
      refine p_bipush (6) 42 rfl dX9_operand_40 rfl ?_
      refine p_icmp_ne 50 45 rfl rfl dX9_operand_42 (fun h42 => ?_) (fun h42 => absurd (nI_eqI (show nI j = nI 6 from h42) (by omega) (by decide)) (by omega))
      refine p_inc_4 53 rfl dX9_operand_50 (1) rfl (Nat.le_of_ble_eq_true rfl) rfl ?_
      refine p_aload_n 0 54 rfl rfl dX9_operand_53 rfl ?_
      refine p_cV0i 57 rfl dX9_operand_54 (c_isGood h) ml_X9_161 vl_X9_isGood rfl (by decide) rfl (Nat.le_of_ble_eq_true rfl) (Nat.le_of_ble_eq_true rfl) rfl ?_
      refine p_if_ne 63 60 rfl rfl dX9_operand_57 (fun h57 => ?_) (fun h57 => absurd (b2i_f h57) (by rw [h0]; decide))
      refine p_aload_n 0 64 rfl rfl dX9_operand_63 rfl ?_
      refine p_iconst (3) 65 rfl dX9_operand_64 rfl ?_
      refine p_cV1v 0 0 68 rfl dX9_operand_65 (c_waitsFor hr hcw (by omega) 3) ml_X9_202 vl_X9_waitsFor rfl (by decide) rfl (Nat.le_of_ble_eq_true rfl) (Nat.le_of_ble_eq_true rfl) (Nat.le_of_ble_eq_true rfl) (Nat.le_of_ble_eq_true rfl) rfl ?_
      intro σ2 hp2
      refine p_aload_n 0 69 rfl rfl dX9_operand_68 rfl ?_
      refine p_cV0v 0 0 72 rfl dX9_operand_69 (c_goesR (hT.fr hp2.2.1 rfl) (h.fr hp2.2.1 rfl (by rw [hp2.2.2])) h0) ml_X9_165 vl_X9_goes rfl (by decide) rfl (Nat.le_of_ble_eq_true rfl) (Nat.le_of_ble_eq_true rfl) (Nat.le_of_ble_eq_true rfl) (Nat.le_of_ble_eq_true rfl) rfl ?_
      intro σ3 hp3
      refine p_goto 18 rfl dX9_operand_72 ?_
      have hps := hX.push h0 (by rw [spl_k hs]; decide) hp2.1 hp2.2.1 hp3.1 hp3.2
      rw [nots_t hs] at e1 e2
      rw [nI_1]
      exact ih (j + 1) _ σ3 (by omega) hps.1 (by show (adv tx z (zS X)).1 = 0; rw [adv_f]; exact h0) e1 (e2.trans (by show j + ((nots tx z m (adv tx z (zS X))).1 + 1) = j + 1 + (nots tx z m (adv tx z (zS X))).1; omega)) eo (by show 3 :: zK X = _; rw [ek]; rfl) ed et (hF.tr hps.2)
end Ca8
