/-! ===== what is made: logs of the constructors ===== -/
abbrev Ev : Type := Nat ⊕ ((Nat × Nat × Int32) ⊕ (Nat × Nat × Nat))
def evA : Ev → PH → PH
  | .inl r, σ => sN σ r
  | .inr (.inl (r, k, v)), σ => sI σ r k v
  | .inr (.inr (r, k, v)), σ => sR σ r k v
def evl : List Ev → PH → PH
  | [], σ => σ
  | e :: l, σ => evA e (evl l σ)
theorem evl_app (l l' : List Ev) (σ : PH) : evl (l ++ l') σ = evl l (evl l' σ) := by
  induction l with
  | nil => rfl
  | cons e l ih => show evA e (evl (l ++ l') σ) = evA e (evl l (evl l' σ)); rw [ih]
def cn : List Ev → Nat
  | [] => 0
  | .inl _ :: l => cn l + 1
  | .inr _ :: l => cn l
theorem hn_evl (l : List Ev) (σ : PH) : hn (evl l σ) = hn σ + cn l := by
  induction l with
  | nil => rfl
  | cons e l ih =>
    rcases e with r | ⟨r, k, v⟩ | ⟨r, k, v⟩
    · show hn (evl l σ) + 1 = hn σ + (cn l + 1); rw [ih]; rfl
    · exact ih
    · exact ih
theorem hn_e {l : List Ev} {σ : PH} {n0 n : Nat} (hσ : hn σ = n0) (h : n0 + cn l = n) : hn (evl l σ) = n := by rw [hn_evl, hσ, h]
def lkI (r k : Nat) : List Ev → Option Int32
  | [] => none
  | .inl q :: l => cond (Nat.beq q r) (some 0) (lkI r k l)
  | .inr (.inl (q, j, v)) :: l => cond (Nat.beq q r && Nat.beq j k) (some v) (lkI r k l)
  | .inr (.inr _) :: l => lkI r k l
def lkR (r k : Nat) : List Ev → Option Nat
  | [] => none
  | .inl q :: l => cond (Nat.beq q r) (some 0) (lkR r k l)
  | .inr (.inr (q, j, v)) :: l => cond (Nat.beq q r && Nat.beq j k) (some v) (lkR r k l)
  | .inr (.inl _) :: l => lkR r k l
def lkA (r : Nat) : List Ev → Bool
  | [] => false
  | .inl q :: l => cond (Nat.beq q r) true (lkA r l)
  | .inr _ :: l => lkA r l
theorem lkI_q {r k : Nat} {σ : PH} : ∀ l, (∀ v, lkI r k l = some v → hI (evl l σ) r k = v) ∧ (lkI r k l = none → hI (evl l σ) r k = hI σ r k) := by
  intro l
  induction l with
  | nil => exact ⟨(fun v h => by cases h), fun _ => rfl⟩
  | cons e l ih =>
    rcases e with q | ⟨q, j, v0⟩ | ⟨q, j, v0⟩
    · show (∀ v, cond (Nat.beq q r) (some 0) (lkI r k l) = some v → hI (sN (evl l σ) q) r k = v) ∧ (cond (Nat.beq q r) (some 0) (lkI r k l) = none → hI (sN (evl l σ) q) r k = hI σ r k)
      cases hb : Nat.beq q r with
      | true =>
        have e := Nat.eq_of_beq_eq_true hb
        subst e
        refine ⟨fun v h => ?_, fun h => by cases h⟩
        injection h with h
        rw [← h]
        show va_up (hI (evl l σ)) q (fun _ => 0) q k = 0
        rw [va_ups]
      | false =>
        have e : r ≠ q := fun e => by rw [e] at hb; exact absurd (Nat.beq_refl q ▸ hb) (by simp)
        have ee : hI (sN (evl l σ) q) r k = hI (evl l σ) r k := by show va_up (hI (evl l σ)) q (fun _ => 0) r k = _; rw [va_upo e]
        rw [ee]; exact ih
    · show (∀ v, cond (Nat.beq q r && Nat.beq j k) (some v0) (lkI r k l) = some v → hI (sI (evl l σ) q j v0) r k = v) ∧ (cond (Nat.beq q r && Nat.beq j k) (some v0) (lkI r k l) = none → hI (sI (evl l σ) q j v0) r k = hI σ r k)
      cases hb : (Nat.beq q r && Nat.beq j k) with
      | true =>
        have e := Bool.and_eq_true_iff.mp hb
        have e1 := Nat.eq_of_beq_eq_true e.1
        have e2 := Nat.eq_of_beq_eq_true e.2
        subst e1; subst e2
        refine ⟨fun v h => ?_, fun h => by cases h⟩
        injection h with h
        rw [← h]; exact hI_sI _ _ _ _
      | false =>
        have e : (r, k) ≠ (q, j) := fun e => by cases e; rw [Nat.beq_refl, Nat.beq_refl] at hb; cases hb
        rw [hI_sIo e]; exact ih
    · exact ih
theorem lkR_q {r k : Nat} {σ : PH} : ∀ l, (∀ v, lkR r k l = some v → hR (evl l σ) r k = v) ∧ (lkR r k l = none → hR (evl l σ) r k = hR σ r k) := by
  intro l
  induction l with
  | nil => exact ⟨(fun v h => by cases h), fun _ => rfl⟩
  | cons e l ih =>
    rcases e with q | ⟨q, j, v0⟩ | ⟨q, j, v0⟩
    · show (∀ v, cond (Nat.beq q r) (some 0) (lkR r k l) = some v → hR (sN (evl l σ) q) r k = v) ∧ (cond (Nat.beq q r) (some 0) (lkR r k l) = none → hR (sN (evl l σ) q) r k = hR σ r k)
      cases hb : Nat.beq q r with
      | true =>
        have e := Nat.eq_of_beq_eq_true hb
        subst e
        refine ⟨fun v h => ?_, fun h => by cases h⟩
        injection h with h
        rw [← h]
        show va_up (hR (evl l σ)) q (fun _ => 0) q k = 0
        rw [va_ups]
      | false =>
        have e : r ≠ q := fun e => by rw [e] at hb; exact absurd (Nat.beq_refl q ▸ hb) (by simp)
        have ee : hR (sN (evl l σ) q) r k = hR (evl l σ) r k := by show va_up (hR (evl l σ)) q (fun _ => 0) r k = _; rw [va_upo e]
        rw [ee]; exact ih
    · exact ih
    · show (∀ v, cond (Nat.beq q r && Nat.beq j k) (some v0) (lkR r k l) = some v → hR (sR (evl l σ) q j v0) r k = v) ∧ (cond (Nat.beq q r && Nat.beq j k) (some v0) (lkR r k l) = none → hR (sR (evl l σ) q j v0) r k = hR σ r k)
      cases hb : (Nat.beq q r && Nat.beq j k) with
      | true =>
        have e := Bool.and_eq_true_iff.mp hb
        have e1 := Nat.eq_of_beq_eq_true e.1
        have e2 := Nat.eq_of_beq_eq_true e.2
        subst e1; subst e2
        refine ⟨fun v h => ?_, fun h => by cases h⟩
        injection h with h
        rw [← h]; exact hR_sR _ _ _ _
      | false =>
        have e : (r, k) ≠ (q, j) := fun e => by cases e; rw [Nat.beq_refl, Nat.beq_refl] at hb; cases hb
        rw [hR_sRo e]; exact ih
theorem lkI_ok {r k : Nat} {σ : PH} {l : List Ev} {v : Int32} (h : lkI r k l = some v) : hI (evl l σ) r k = v := (lkI_q l).1 v h
theorem lkR_ok {r k : Nat} {σ : PH} {l : List Ev} {v : Nat} (h : lkR r k l = some v) : hR (evl l σ) r k = v := (lkR_q l).1 v h
theorem lkR_no {r k : Nat} {σ : PH} {l : List Ev} (h : lkR r k l = none) : hR (evl l σ) r k = hR σ r k := (lkR_q l).2 h
theorem lkA_ok {r : Nat} {σ : PH} : ∀ {l : List Ev}, lkA r l = true → ∀ i, hA (evl l σ) r i = 0 := by
  intro l
  induction l with
  | nil => intro h; cases h
  | cons e l ih =>
    rcases e with q | ⟨q, j, v0⟩ | ⟨q, j, v0⟩
    · intro h i
      have h' : cond (Nat.beq q r) true (lkA r l) = true := h
      show va_up (hA (evl l σ)) q (fun _ => 0) r i = 0
      cases hb : Nat.beq q r with
      | true => have e := Nat.eq_of_beq_eq_true hb; subst e; rw [va_ups]
      | false =>
        have e : r ≠ q := fun e => by rw [e] at hb; exact absurd (Nat.beq_refl q ▸ hb) (by simp)
        rw [va_upo e]; rw [hb] at h'; exact ih h' i
    · intro h i; exact ih h i
    · intro h i; exact ih h i
theorem mkr_ne {n N c : Nat} (h : 0 < c) : mkr n N c ≠ 0 := by unfold mkr; omega
section Cb0
variable {Γ : Gm} {d mc ms : Nat} {mi : MI} {pc : Nat} {L : List (Option Value)} {st : List Value} {σ : PH} {Q : PO → PH → Prop}
theorem e_0 (h : Ok Γ d mc ms mi pc L st (evl [] σ) Q) : Ok Γ d mc ms mi pc L st σ Q := h
theorem e_pi {l : List Ev} {r k : Nat} {v : Int32} (h : Ok Γ d mc ms mi pc L st (evl (.inr (.inl (r, k, v)) :: l) σ) Q) : Ok Γ d mc ms mi pc L st (sI (evl l σ) r k v) Q := h
theorem e_pr {l : List Ev} {r k v : Nat} (h : Ok Γ d mc ms mi pc L st (evl (.inr (.inr (r, k, v)) :: l) σ) Q) : Ok Γ d mc ms mi pc L st (sR (evl l σ) r k v) Q := h
theorem q_new {idx : Nat} {l : List Ev} (c q mc' ms' n r : Nat) (hq : pc + 3 = q) (hd : decode (mC mi) pc = .ok (.new idx, 3)) (hf : NL (mO mi) idx c) (hm : mc' + 1 ≤ mc) (hs : ms' + nf c ≤ ms) (hnn : hn (evl l σ) = n) (hr : mkr n 0 c = r)
    (kk : Ok Γ d mc' ms' mi q L (.ref r :: st) (evl (.inl r :: l) σ) Q) : Ok Γ d mc ms mi pc L st (evl l σ) Q := p_new c q mc' ms' hq hd hf hm hs (by rw [hnn, hr]; exact kk)
theorem q_newarr {n : Int32} {atype : ArrayType} {l : List Ev} (c N q mc' ms' m r : Nat) (hq : pc + 2 = q) (hd : decode (mC mi) pc = .ok (.newarray atype, 2)) (ht : newarray.typeOf atype = aty c) (h1 : 16 ≤ c) (h2 : c < 19) (hwd : Cond.arrayClass (aty c) ∈ TB) (hn0 : ¬ n < 0) (hN : n.toNatClampNeg = N) (hNl : N < 8192) (hm : mc' + 1 ≤ mc) (hs : ms' + N ≤ ms) (hnn : hn (evl l σ) = m) (hr : mkr m N c = r)
    (kk : Ok Γ d mc' ms' mi q L (.ref r :: st) (evl (.inl r :: l) σ) Q) : Ok Γ d mc ms mi pc L (.int n :: st) (evl l σ) Q := p_newarr c N q mc' ms' hq hd ht h1 h2 hwd hn0 hN hNl hm hs (by rw [hnn, hr]; exact kk)
theorem q_cIN0 {idx d1 mc1 ms1 r : Nat} {mi1 : MI} {l lg : List Ev} (mc2 ms2 q : Nat) (hq : pc + 3 = q) (hd : decode (mC mi) pc = .ok (.invokespecial idx, 3)) (hM : CallOk Γ d1 mc1 ms1 mi1 [.ref r] (evl l σ) (rV (fun σ' => σ' = evl lg (evl l σ)))) (hm : MN (mO mi) idx mi1 0) (hv : IL mi1) (hw8 : (st.map fun v => v.category).sum ≤ 8) (hdd : d1 + 1 ≤ d) (hm1 : mc1 + mc2 ≤ mc) (hm2 : ms1 + ms2 ≤ ms) (kk : Ok Γ d mc2 ms2 mi q L st (evl (lg ++ l) σ) Q) : Ok Γ d mc ms mi pc L (.ref r :: st) (evl l σ) Q :=
  p_callIN (as := []) (st := st) q hq hd hM (fun x σ' h => by cases h.1) hm hv rfl rfl hw8 hdd hm1 hm2 (fun v0 σ1 h => by cases h.1; rw [h.2, ← evl_app]; exact kk)
theorem q_cI0 {idx d1 mc1 ms1 r : Nat} {mi1 : MI} {l lg : List Ev} (mc2 ms2 q : Nat) (hq : pc + 3 = q) (hd : decode (mC mi) pc = .ok (.invokespecial idx, 3)) (hM : CallOk Γ d1 mc1 ms1 mi1 [.ref r] (evl l σ) (rV (fun σ' => σ' = evl lg (evl l σ)))) (hm : ML (mO mi) idx mi1 0) (hv : IL mi1) (hw8 : (st.map fun v => v.category).sum ≤ 8) (hdd : d1 + 1 ≤ d) (hm1 : mc1 + mc2 ≤ mc) (hm2 : ms1 + ms2 ≤ ms) (kk : Ok Γ d mc2 ms2 mi q L st (evl (lg ++ l) σ) Q) : Ok Γ d mc ms mi pc L (.ref r :: st) (evl l σ) Q :=
  p_callI (as := []) (st := st) q hq hd hM (fun x σ' h => by cases h.1) hm hv rfl rfl hw8 hdd hm1 hm2 (fun v0 σ1 h => by cases h.1; rw [h.2, ← evl_app]; exact kk)
theorem q_cI1 {idx d1 mc1 ms1 r : Nat} {u0 : Value} {mi1 : MI} {l lg : List Ev} (mc2 ms2 q : Nat) (hq : pc + 3 = q) (hd : decode (mC mi) pc = .ok (.invokespecial idx, 3)) (hM : CallOk Γ d1 mc1 ms1 mi1 [.ref r, u0] (evl l σ) (rV (fun σ' => σ' = evl lg (evl l σ)))) (hm : ML (mO mi) idx mi1 1) (hv : IL mi1) (hw8 : (st.map fun v => v.category).sum ≤ 8) (hdd : d1 + 1 ≤ d) (hm1 : mc1 + mc2 ≤ mc) (hm2 : ms1 + ms2 ≤ ms) (kk : Ok Γ d mc2 ms2 mi q L st (evl (lg ++ l) σ) Q) : Ok Γ d mc ms mi pc L (u0 :: .ref r :: st) (evl l σ) Q :=
  p_callI (as := [u0]) (st := st) q hq hd hM (fun x σ' h => by cases h.1) hm hv rfl rfl hw8 hdd hm1 hm2 (fun v0 σ1 h => by cases h.1; rw [h.2, ← evl_app]; exact kk)
theorem q_cI2 {idx d1 mc1 ms1 r : Nat} {u0 u1 : Value} {mi1 : MI} {l lg : List Ev} (mc2 ms2 q : Nat) (hq : pc + 3 = q) (hd : decode (mC mi) pc = .ok (.invokespecial idx, 3)) (hM : CallOk Γ d1 mc1 ms1 mi1 [.ref r, u0, u1] (evl l σ) (rV (fun σ' => σ' = evl lg (evl l σ)))) (hm : ML (mO mi) idx mi1 2) (hv : IL mi1) (hw8 : (st.map fun v => v.category).sum ≤ 8) (hdd : d1 + 1 ≤ d) (hm1 : mc1 + mc2 ≤ mc) (hm2 : ms1 + ms2 ≤ ms) (kk : Ok Γ d mc2 ms2 mi q L st (evl (lg ++ l) σ) Q) : Ok Γ d mc ms mi pc L (u1 :: u0 :: .ref r :: st) (evl l σ) Q :=
  p_callI (as := [u0, u1]) (st := st) q hq hd hM (fun x σ' h => by cases h.1) hm hv rfl rfl hw8 hdd hm1 hm2 (fun v0 σ1 h => by cases h.1; rw [h.2, ← evl_app]; exact kk)
end Cb0
section Cb1
variable {Γ : Gm} {σ : PH}
def lg6 (r n : Nat) : List Ev := .inr (.inr (r, 3, (mkr (n + 1) 40 16))) :: (.inl (mkr (n + 1) 40 16) :: (.inr (.inr (r, 2, (mkr (n + 0) 700 16))) :: (.inl (mkr (n + 0) 700 16) :: (.inr (.inl (r, 1, 0)) :: (.inr (.inl (r, 0, 0)) :: ([]))))))
set_option maxRecDepth 12000 in
theorem c_iX6 {r n : Nat} (hk : kd r = 6) (hσ : hn σ = n) : CallOk Γ 1 2 740 mX6_init [.ref r] σ (rV (fun σ' => σ' = evl (lg6 r n) σ)) := by
  refine p_enter rfl rfl (Nat.le_of_ble_eq_true rfl) rfl ?_
  refine e_0 ?_
  refine p_aload_n 0 1 rfl rfl dX6_init_0 rfl ?_
  refine p_objInit 4 rfl dX6_init_1 ol_X6_3 (Nat.le_of_ble_eq_true rfl) (Nat.le_of_ble_eq_true rfl) ?_
  refine p_aload_n 0 5 rfl rfl dX6_init_4 rfl ?_
  refine p_iconst (0) 6 rfl dX6_init_5 rfl ?_
  refine p_putZ 6 0 9 rfl dX6_init_6 fl_X6_9 hk rfl (by first | exact Or.inl rfl | exact Or.inr rfl) (Or.inl rfl) (e_pi ?_)
  refine p_aload_n 0 10 rfl rfl dX6_init_9 rfl ?_
  refine p_iconst (0) 11 rfl dX6_init_10 rfl ?_
  refine p_putI 6 1 14 rfl dX6_init_11 fl_X6_15 hk rfl (Or.inl rfl) (e_pi ?_)
  refine p_aload_n 0 15 rfl rfl dX6_init_14 rfl ?_
  refine p_sipush (700) 18 rfl dX6_init_15 rfl ?_
  refine q_newarr 16 700 20 1 40 (n + 0) (mkr (n + 0) 700 16) rfl dX6_init_18 rfl (Nat.le_of_ble_eq_true rfl) (Nat.le_of_ble_eq_true rfl) ac_16 (by decide) (by decide) (Nat.le_of_ble_eq_true rfl) (Nat.le_of_ble_eq_true rfl) (Nat.le_of_ble_eq_true rfl) (hn_e hσ rfl) rfl ?_
  refine p_putR 6 2 23 rfl dX6_init_20 fl_X6_19 hk rfl (mkr_ne (by decide)) (Or.inr ⟨rfl, rfl, rfl⟩) (e_pr ?_)
  refine p_aload_n 0 24 rfl rfl dX6_init_23 rfl ?_
  refine p_bipush (40) 26 rfl dX6_init_24 rfl ?_
  refine q_newarr 16 40 28 0 0 (n + 1) (mkr (n + 1) 40 16) rfl dX6_init_26 rfl (Nat.le_of_ble_eq_true rfl) (Nat.le_of_ble_eq_true rfl) ac_16 (by decide) (by decide) (Nat.le_of_ble_eq_true rfl) (Nat.le_of_ble_eq_true rfl) (Nat.le_of_ble_eq_true rfl) (hn_e hσ rfl) rfl ?_
  refine p_putR 6 3 31 rfl dX6_init_28 fl_X6_23 hk rfl (mkr_ne (by decide)) (Or.inr ⟨rfl, rfl, rfl⟩) (e_pr ?_)
  exact p_vret dX6_init_31 rfl ⟨rfl, rfl⟩
def lg4 (r n : Nat) : List Ev := .inr (.inr (r, 13, (mkr (n + 10) 0 6))) :: ((lg6 (mkr (n + 10) 0 6) (n + 11)) ++ (.inl (mkr (n + 10) 0 6) :: (.inr (.inr (r, 12, (mkr (n + 7) 0 6))) :: ((lg6 (mkr (n + 7) 0 6) (n + 8)) ++ (.inl (mkr (n + 7) 0 6) :: (.inr (.inl (r, 11, 0)) :: (.inr (.inl (r, 10, 0)) :: (.inr (.inr (r, 9, (mkr (n + 6) 12 16))) :: (.inl (mkr (n + 6) 12 16) :: (.inr (.inr (r, 8, (mkr (n + 5) 12 16))) :: (.inl (mkr (n + 5) 12 16) :: (.inr (.inl (r, 7, 0)) :: (.inr (.inr (r, 6, (mkr (n + 4) 36 16))) :: (.inl (mkr (n + 4) 36 16) :: (.inr (.inr (r, 5, (mkr (n + 3) 6 16))) :: (.inl (mkr (n + 3) 6 16) :: (.inr (.inl (r, 4, 0)) :: (.inr (.inr (r, 3, (mkr (n + 2) 9 16))) :: (.inl (mkr (n + 2) 9 16) :: (.inr (.inr (r, 2, (mkr (n + 1) 9 16))) :: (.inl (mkr (n + 1) 9 16) :: (.inr (.inr (r, 1, (mkr (n + 0) 9 16))) :: (.inl (mkr (n + 0) 9 16) :: (.inr (.inl (r, 0, 0)) :: ([])))))))))))))))))))))))))
set_option maxRecDepth 12000 in
theorem c_iX4 {r n : Nat} (hk : kd r = 4) (hσ : hn σ = n) : CallOk Γ 2 13 1581 mX4_init [.ref r] σ (rV (fun σ' => σ' = evl (lg4 r n) σ)) := by
  refine p_enter rfl rfl (Nat.le_of_ble_eq_true rfl) rfl ?_
  refine e_0 ?_
  refine p_aload_n 0 1 rfl rfl dX4_init_0 rfl ?_
  refine p_objInit 4 rfl dX4_init_1 ol_X4_3 (Nat.le_of_ble_eq_true rfl) (Nat.le_of_ble_eq_true rfl) ?_
  refine p_aload_n 0 5 rfl rfl dX4_init_4 rfl ?_
  refine p_iconst (0) 6 rfl dX4_init_5 rfl ?_
  refine p_putI 4 0 9 rfl dX4_init_6 fl_X4_9 hk rfl (Or.inl rfl) (e_pi ?_)
  refine p_aload_n 0 10 rfl rfl dX4_init_9 rfl ?_
  refine p_bipush (9) 12 rfl dX4_init_10 rfl ?_
  refine q_newarr 16 9 14 12 1572 (n + 0) (mkr (n + 0) 9 16) rfl dX4_init_12 rfl (Nat.le_of_ble_eq_true rfl) (Nat.le_of_ble_eq_true rfl) ac_16 (by decide) (by decide) (Nat.le_of_ble_eq_true rfl) (Nat.le_of_ble_eq_true rfl) (Nat.le_of_ble_eq_true rfl) (hn_e hσ rfl) rfl ?_
  refine p_putR 4 1 17 rfl dX4_init_14 fl_X4_15 hk rfl (mkr_ne (by decide)) (Or.inr ⟨rfl, rfl, rfl⟩) (e_pr ?_)
  refine p_aload_n 0 18 rfl rfl dX4_init_17 rfl ?_
  refine p_bipush (9) 20 rfl dX4_init_18 rfl ?_
  refine q_newarr 16 9 22 11 1563 (n + 1) (mkr (n + 1) 9 16) rfl dX4_init_20 rfl (Nat.le_of_ble_eq_true rfl) (Nat.le_of_ble_eq_true rfl) ac_16 (by decide) (by decide) (Nat.le_of_ble_eq_true rfl) (Nat.le_of_ble_eq_true rfl) (Nat.le_of_ble_eq_true rfl) (hn_e hσ rfl) rfl ?_
  refine p_putR 4 2 25 rfl dX4_init_22 fl_X4_19 hk rfl (mkr_ne (by decide)) (Or.inr ⟨rfl, rfl, rfl⟩) (e_pr ?_)
  refine p_aload_n 0 26 rfl rfl dX4_init_25 rfl ?_
  refine p_bipush (9) 28 rfl dX4_init_26 rfl ?_
  refine q_newarr 16 9 30 10 1554 (n + 2) (mkr (n + 2) 9 16) rfl dX4_init_28 rfl (Nat.le_of_ble_eq_true rfl) (Nat.le_of_ble_eq_true rfl) ac_16 (by decide) (by decide) (Nat.le_of_ble_eq_true rfl) (Nat.le_of_ble_eq_true rfl) (Nat.le_of_ble_eq_true rfl) (hn_e hσ rfl) rfl ?_
  refine p_putR 4 3 33 rfl dX4_init_30 fl_X4_22 hk rfl (mkr_ne (by decide)) (Or.inr ⟨rfl, rfl, rfl⟩) (e_pr ?_)
  refine p_aload_n 0 34 rfl rfl dX4_init_33 rfl ?_
  refine p_iconst (0) 35 rfl dX4_init_34 rfl ?_
  refine p_putI 4 4 38 rfl dX4_init_35 fl_X4_25 hk rfl (Or.inl rfl) (e_pi ?_)
  refine p_aload_n 0 39 rfl rfl dX4_init_38 rfl ?_
  refine p_bipush (6) 41 rfl dX4_init_39 rfl ?_
  refine q_newarr 16 6 43 9 1548 (n + 3) (mkr (n + 3) 6 16) rfl dX4_init_41 rfl (Nat.le_of_ble_eq_true rfl) (Nat.le_of_ble_eq_true rfl) ac_16 (by decide) (by decide) (Nat.le_of_ble_eq_true rfl) (Nat.le_of_ble_eq_true rfl) (Nat.le_of_ble_eq_true rfl) (hn_e hσ rfl) rfl ?_
  refine p_putR 4 5 46 rfl dX4_init_43 fl_X4_28 hk rfl (mkr_ne (by decide)) (Or.inr ⟨rfl, rfl, rfl⟩) (e_pr ?_)
  refine p_aload_n 0 47 rfl rfl dX4_init_46 rfl ?_
  refine p_bipush (36) 49 rfl dX4_init_47 rfl ?_
  refine q_newarr 16 36 51 8 1512 (n + 4) (mkr (n + 4) 36 16) rfl dX4_init_49 rfl (Nat.le_of_ble_eq_true rfl) (Nat.le_of_ble_eq_true rfl) ac_16 (by decide) (by decide) (Nat.le_of_ble_eq_true rfl) (Nat.le_of_ble_eq_true rfl) (Nat.le_of_ble_eq_true rfl) (hn_e hσ rfl) rfl ?_
  refine p_putR 4 6 54 rfl dX4_init_51 fl_X4_31 hk rfl (mkr_ne (by decide)) (Or.inr ⟨rfl, rfl, rfl⟩) (e_pr ?_)
  refine p_aload_n 0 55 rfl rfl dX4_init_54 rfl ?_
  refine p_iconst (0) 56 rfl dX4_init_55 rfl ?_
  refine p_putI 4 7 59 rfl dX4_init_56 fl_X4_34 hk rfl (Or.inl rfl) (e_pi ?_)
  refine p_aload_n 0 60 rfl rfl dX4_init_59 rfl ?_
  refine p_bipush (12) 62 rfl dX4_init_60 rfl ?_
  refine q_newarr 16 12 64 7 1500 (n + 5) (mkr (n + 5) 12 16) rfl dX4_init_62 rfl (Nat.le_of_ble_eq_true rfl) (Nat.le_of_ble_eq_true rfl) ac_16 (by decide) (by decide) (Nat.le_of_ble_eq_true rfl) (Nat.le_of_ble_eq_true rfl) (Nat.le_of_ble_eq_true rfl) (hn_e hσ rfl) rfl ?_
  refine p_putR 4 8 67 rfl dX4_init_64 fl_X4_37 hk rfl (mkr_ne (by decide)) (Or.inr ⟨rfl, rfl, rfl⟩) (e_pr ?_)
  refine p_aload_n 0 68 rfl rfl dX4_init_67 rfl ?_
  refine p_bipush (12) 70 rfl dX4_init_68 rfl ?_
  refine q_newarr 16 12 72 6 1488 (n + 6) (mkr (n + 6) 12 16) rfl dX4_init_70 rfl (Nat.le_of_ble_eq_true rfl) (Nat.le_of_ble_eq_true rfl) ac_16 (by decide) (by decide) (Nat.le_of_ble_eq_true rfl) (Nat.le_of_ble_eq_true rfl) (Nat.le_of_ble_eq_true rfl) (hn_e hσ rfl) rfl ?_
  refine p_putR 4 9 75 rfl dX4_init_72 fl_X4_40 hk rfl (mkr_ne (by decide)) (Or.inr ⟨rfl, rfl, rfl⟩) (e_pr ?_)
  refine p_aload_n 0 76 rfl rfl dX4_init_75 rfl ?_
  refine p_iconst (0) 77 rfl dX4_init_76 rfl ?_
  refine p_putI 4 10 80 rfl dX4_init_77 fl_X4_43 hk rfl (Or.inl rfl) (e_pi ?_)
  refine p_aload_n 0 81 rfl rfl dX4_init_80 rfl ?_
  refine p_iconst (0) 82 rfl dX4_init_81 rfl ?_
  refine p_putZ 4 11 85 rfl dX4_init_82 fl_X4_46 hk rfl (by first | exact Or.inl rfl | exact Or.inr rfl) (Or.inl rfl) (e_pi ?_)
  refine p_aload_n 0 86 rfl rfl dX4_init_85 rfl ?_
  refine q_new 6 89 5 1484 (n + 7) (mkr (n + 7) 0 6) rfl dX4_init_86 nl_X4_50 (Nat.le_of_ble_eq_true rfl) (Nat.le_of_ble_eq_true rfl) (hn_e hσ rfl) rfl ?_
  refine p_dup 90 rfl dX4_init_89 rfl ?_
  refine q_cIN0 3 744 93 rfl dX4_init_90 (c_iX6 (r := (mkr (n + 7) 0 6)) (n := (n + 8)) (kd_mkr (by decide)) (hn_e hσ rfl)) mn_X4_52 il_X6_init (Nat.le_of_ble_eq_true rfl) (Nat.le_of_ble_eq_true rfl) (Nat.le_of_ble_eq_true rfl) (Nat.le_of_ble_eq_true rfl) ?_
  refine p_putR 4 12 96 rfl dX4_init_93 fl_X4_53 hk rfl (mkr_ne (by decide)) (Or.inr ⟨rfl, rfl, rfl⟩) (e_pr ?_)
  refine p_aload_n 0 97 rfl rfl dX4_init_96 rfl ?_
  refine q_new 6 100 2 740 (n + 10) (mkr (n + 10) 0 6) rfl dX4_init_97 nl_X4_50 (Nat.le_of_ble_eq_true rfl) (Nat.le_of_ble_eq_true rfl) (hn_e hσ rfl) rfl ?_
  refine p_dup 101 rfl dX4_init_100 rfl ?_
  refine q_cIN0 0 0 104 rfl dX4_init_101 (c_iX6 (r := (mkr (n + 10) 0 6)) (n := (n + 11)) (kd_mkr (by decide)) (hn_e hσ rfl)) mn_X4_52 il_X6_init (Nat.le_of_ble_eq_true rfl) (Nat.le_of_ble_eq_true rfl) (Nat.le_of_ble_eq_true rfl) (Nat.le_of_ble_eq_true rfl) ?_
  refine p_putR 4 13 107 rfl dX4_init_104 fl_X4_57 hk rfl (mkr_ne (by decide)) (Or.inr ⟨rfl, rfl, rfl⟩) (e_pr ?_)
  exact p_vret dX4_init_107 rfl ⟨rfl, rfl⟩
def lg7 (r n o : Nat) : List Ev := .inr (.inr (r, 0, o)) :: (.inr (.inr (r, 6, (mkr (n + 4) 6 16))) :: (.inl (mkr (n + 4) 6 16) :: (.inr (.inr (r, 5, (mkr (n + 3) 6 16))) :: (.inl (mkr (n + 3) 6 16) :: (.inr (.inr (r, 4, (mkr (n + 2) 9 16))) :: (.inl (mkr (n + 2) 9 16) :: (.inr (.inr (r, 3, (mkr (n + 1) 9 16))) :: (.inl (mkr (n + 1) 9 16) :: (.inr (.inr (r, 2, (mkr (n + 0) 9 16))) :: (.inl (mkr (n + 0) 9 16) :: (.inr (.inl (r, 1, 0)) :: ([]))))))))))))
set_option maxRecDepth 12000 in
theorem c_iX7 {r n o : Nat} (hk : kd r = 7) (hv : o ≠ 0) (hσ : hn σ = n) : CallOk Γ 1 5 39 mX7_init [.ref r, .ref o] σ (rV (fun σ' => σ' = evl (lg7 r n o) σ)) := by
  refine p_enter rfl rfl (Nat.le_of_ble_eq_true rfl) rfl ?_
  refine e_0 ?_
  refine p_aload_n 0 1 rfl rfl dX7_init_0 rfl ?_
  refine p_objInit 4 rfl dX7_init_1 ol_X7_3 (Nat.le_of_ble_eq_true rfl) (Nat.le_of_ble_eq_true rfl) ?_
  refine p_aload_n 0 5 rfl rfl dX7_init_4 rfl ?_
  refine p_iconst (0) 6 rfl dX7_init_5 rfl ?_
  refine p_putI 7 1 9 rfl dX7_init_6 fl_X7_9 hk rfl (Or.inl rfl) (e_pi ?_)
  refine p_aload_n 0 10 rfl rfl dX7_init_9 rfl ?_
  refine p_bipush (9) 12 rfl dX7_init_10 rfl ?_
  refine q_newarr 16 9 14 4 30 (n + 0) (mkr (n + 0) 9 16) rfl dX7_init_12 rfl (Nat.le_of_ble_eq_true rfl) (Nat.le_of_ble_eq_true rfl) ac_16 (by decide) (by decide) (Nat.le_of_ble_eq_true rfl) (Nat.le_of_ble_eq_true rfl) (Nat.le_of_ble_eq_true rfl) (hn_e hσ rfl) rfl ?_
  refine p_putR 7 2 17 rfl dX7_init_14 fl_X7_15 hk rfl (mkr_ne (by decide)) (Or.inr ⟨rfl, rfl, rfl⟩) (e_pr ?_)
  refine p_aload_n 0 18 rfl rfl dX7_init_17 rfl ?_
  refine p_bipush (9) 20 rfl dX7_init_18 rfl ?_
  refine q_newarr 16 9 22 3 21 (n + 1) (mkr (n + 1) 9 16) rfl dX7_init_20 rfl (Nat.le_of_ble_eq_true rfl) (Nat.le_of_ble_eq_true rfl) ac_16 (by decide) (by decide) (Nat.le_of_ble_eq_true rfl) (Nat.le_of_ble_eq_true rfl) (Nat.le_of_ble_eq_true rfl) (hn_e hσ rfl) rfl ?_
  refine p_putR 7 3 25 rfl dX7_init_22 fl_X7_19 hk rfl (mkr_ne (by decide)) (Or.inr ⟨rfl, rfl, rfl⟩) (e_pr ?_)
  refine p_aload_n 0 26 rfl rfl dX7_init_25 rfl ?_
  refine p_bipush (9) 28 rfl dX7_init_26 rfl ?_
  refine q_newarr 16 9 30 2 12 (n + 2) (mkr (n + 2) 9 16) rfl dX7_init_28 rfl (Nat.le_of_ble_eq_true rfl) (Nat.le_of_ble_eq_true rfl) ac_16 (by decide) (by decide) (Nat.le_of_ble_eq_true rfl) (Nat.le_of_ble_eq_true rfl) (Nat.le_of_ble_eq_true rfl) (hn_e hσ rfl) rfl ?_
  refine p_putR 7 4 33 rfl dX7_init_30 fl_X7_22 hk rfl (mkr_ne (by decide)) (Or.inr ⟨rfl, rfl, rfl⟩) (e_pr ?_)
  refine p_aload_n 0 34 rfl rfl dX7_init_33 rfl ?_
  refine p_bipush (6) 36 rfl dX7_init_34 rfl ?_
  refine q_newarr 16 6 38 1 6 (n + 3) (mkr (n + 3) 6 16) rfl dX7_init_36 rfl (Nat.le_of_ble_eq_true rfl) (Nat.le_of_ble_eq_true rfl) ac_16 (by decide) (by decide) (Nat.le_of_ble_eq_true rfl) (Nat.le_of_ble_eq_true rfl) (Nat.le_of_ble_eq_true rfl) (hn_e hσ rfl) rfl ?_
  refine p_putR 7 5 41 rfl dX7_init_38 fl_X7_25 hk rfl (mkr_ne (by decide)) (Or.inr ⟨rfl, rfl, rfl⟩) (e_pr ?_)
  refine p_aload_n 0 42 rfl rfl dX7_init_41 rfl ?_
  refine p_bipush (6) 44 rfl dX7_init_42 rfl ?_
  refine q_newarr 16 6 46 0 0 (n + 4) (mkr (n + 4) 6 16) rfl dX7_init_44 rfl (Nat.le_of_ble_eq_true rfl) (Nat.le_of_ble_eq_true rfl) ac_16 (by decide) (by decide) (Nat.le_of_ble_eq_true rfl) (Nat.le_of_ble_eq_true rfl) (Nat.le_of_ble_eq_true rfl) (hn_e hσ rfl) rfl ?_
  refine p_putR 7 6 49 rfl dX7_init_46 fl_X7_28 hk rfl (mkr_ne (by decide)) (Or.inr ⟨rfl, rfl, rfl⟩) (e_pr ?_)
  refine p_aload_n 0 50 rfl rfl dX7_init_49 rfl ?_
  refine p_aload_n 1 51 rfl rfl dX7_init_50 rfl ?_
  refine p_putR 7 0 54 rfl dX7_init_51 fl_X7_31 hk rfl hv (Or.inl rfl) (e_pr ?_)
  exact p_vret dX7_init_54 rfl ⟨rfl, rfl⟩
def lg0 (r n : Nat) : List Ev := .inr (.inr (r, 2, (mkr (n + 0) 640 16))) :: (.inl (mkr (n + 0) 640 16) :: (.inr (.inl (r, 1, 0)) :: (.inr (.inl (r, 0, 0)) :: ([]))))
set_option maxRecDepth 12000 in
theorem c_iX0 {r n : Nat} (hk : kd r = 0) (hσ : hn σ = n) : CallOk Γ 1 1 640 mX0_init [.ref r] σ (rV (fun σ' => σ' = evl (lg0 r n) σ)) := by
  refine p_enter rfl rfl (Nat.le_of_ble_eq_true rfl) rfl ?_
  refine e_0 ?_
  refine p_aload_n 0 1 rfl rfl dX0_init_0 rfl ?_
  refine p_objInit 4 rfl dX0_init_1 ol_X0_3 (Nat.le_of_ble_eq_true rfl) (Nat.le_of_ble_eq_true rfl) ?_
  refine p_aload_n 0 5 rfl rfl dX0_init_4 rfl ?_
  refine p_iconst (0) 6 rfl dX0_init_5 rfl ?_
  refine p_putI 0 0 9 rfl dX0_init_6 fl_X0_9 hk rfl (Or.inl rfl) (e_pi ?_)
  refine p_aload_n 0 10 rfl rfl dX0_init_9 rfl ?_
  refine p_iconst (0) 11 rfl dX0_init_10 rfl ?_
  refine p_putI 0 1 14 rfl dX0_init_11 fl_X0_15 hk rfl (Or.inl rfl) (e_pi ?_)
  refine p_aload_n 0 15 rfl rfl dX0_init_14 rfl ?_
  refine p_sipush (640) 18 rfl dX0_init_15 rfl ?_
  refine q_newarr 16 640 20 0 0 (n + 0) (mkr (n + 0) 640 16) rfl dX0_init_18 rfl (Nat.le_of_ble_eq_true rfl) (Nat.le_of_ble_eq_true rfl) ac_16 (by decide) (by decide) (Nat.le_of_ble_eq_true rfl) (Nat.le_of_ble_eq_true rfl) (Nat.le_of_ble_eq_true rfl) (hn_e hσ rfl) rfl ?_
  refine p_putR 0 2 23 rfl dX0_init_20 fl_X0_20 hk rfl (mkr_ne (by decide)) (Or.inr ⟨rfl, rfl, rfl⟩) (e_pr ?_)
  exact p_vret dX0_init_23 rfl ⟨rfl, rfl⟩
def lg3 (r n : Nat) : List Ev := .inr (.inr (r, 4, (mkr (n + 3) 8 18))) :: (.inl (mkr (n + 3) 8 18) :: (.inr (.inr (r, 3, (mkr (n + 2) 8 16))) :: (.inl (mkr (n + 2) 8 16) :: (.inr (.inr (r, 2, (mkr (n + 1) 8 16))) :: (.inl (mkr (n + 1) 8 16) :: (.inr (.inr (r, 1, (mkr (n + 0) 8 16))) :: (.inl (mkr (n + 0) 8 16) :: (.inr (.inl (r, 0, 0)) :: ([])))))))))
set_option maxRecDepth 12000 in
theorem c_iX3 {r n : Nat} (hk : kd r = 3) (hσ : hn σ = n) : CallOk Γ 1 4 32 mX3_init [.ref r] σ (rV (fun σ' => σ' = evl (lg3 r n) σ)) := by
  refine p_enter rfl rfl (Nat.le_of_ble_eq_true rfl) rfl ?_
  refine e_0 ?_
  refine p_aload_n 0 1 rfl rfl dX3_init_0 rfl ?_
  refine p_objInit 4 rfl dX3_init_1 ol_X3_3 (Nat.le_of_ble_eq_true rfl) (Nat.le_of_ble_eq_true rfl) ?_
  refine p_aload_n 0 5 rfl rfl dX3_init_4 rfl ?_
  refine p_iconst (0) 6 rfl dX3_init_5 rfl ?_
  refine p_putI 3 0 9 rfl dX3_init_6 fl_X3_9 hk rfl (Or.inl rfl) (e_pi ?_)
  refine p_aload_n 0 10 rfl rfl dX3_init_9 rfl ?_
  refine p_bipush (8) 12 rfl dX3_init_10 rfl ?_
  refine q_newarr 16 8 14 3 24 (n + 0) (mkr (n + 0) 8 16) rfl dX3_init_12 rfl (Nat.le_of_ble_eq_true rfl) (Nat.le_of_ble_eq_true rfl) ac_16 (by decide) (by decide) (Nat.le_of_ble_eq_true rfl) (Nat.le_of_ble_eq_true rfl) (Nat.le_of_ble_eq_true rfl) (hn_e hσ rfl) rfl ?_
  refine p_putR 3 1 17 rfl dX3_init_14 fl_X3_15 hk rfl (mkr_ne (by decide)) (Or.inr ⟨rfl, rfl, rfl⟩) (e_pr ?_)
  refine p_aload_n 0 18 rfl rfl dX3_init_17 rfl ?_
  refine p_bipush (8) 20 rfl dX3_init_18 rfl ?_
  refine q_newarr 16 8 22 2 16 (n + 1) (mkr (n + 1) 8 16) rfl dX3_init_20 rfl (Nat.le_of_ble_eq_true rfl) (Nat.le_of_ble_eq_true rfl) ac_16 (by decide) (by decide) (Nat.le_of_ble_eq_true rfl) (Nat.le_of_ble_eq_true rfl) (Nat.le_of_ble_eq_true rfl) (hn_e hσ rfl) rfl ?_
  refine p_putR 3 2 25 rfl dX3_init_22 fl_X3_19 hk rfl (mkr_ne (by decide)) (Or.inr ⟨rfl, rfl, rfl⟩) (e_pr ?_)
  refine p_aload_n 0 26 rfl rfl dX3_init_25 rfl ?_
  refine p_bipush (8) 28 rfl dX3_init_26 rfl ?_
  refine q_newarr 16 8 30 1 8 (n + 2) (mkr (n + 2) 8 16) rfl dX3_init_28 rfl (Nat.le_of_ble_eq_true rfl) (Nat.le_of_ble_eq_true rfl) ac_16 (by decide) (by decide) (Nat.le_of_ble_eq_true rfl) (Nat.le_of_ble_eq_true rfl) (Nat.le_of_ble_eq_true rfl) (hn_e hσ rfl) rfl ?_
  refine p_putR 3 3 33 rfl dX3_init_30 fl_X3_22 hk rfl (mkr_ne (by decide)) (Or.inr ⟨rfl, rfl, rfl⟩) (e_pr ?_)
  refine p_aload_n 0 34 rfl rfl dX3_init_33 rfl ?_
  refine p_bipush (8) 36 rfl dX3_init_34 rfl ?_
  refine q_newarr 18 8 38 0 0 (n + 3) (mkr (n + 3) 8 18) rfl dX3_init_36 rfl (Nat.le_of_ble_eq_true rfl) (Nat.le_of_ble_eq_true rfl) ac_18 (by decide) (by decide) (Nat.le_of_ble_eq_true rfl) (Nat.le_of_ble_eq_true rfl) (Nat.le_of_ble_eq_true rfl) (hn_e hσ rfl) rfl ?_
  refine p_putR 3 4 41 rfl dX3_init_38 fl_X3_25 hk rfl (mkr_ne (by decide)) (Or.inr ⟨rfl, rfl, rfl⟩) (e_pr ?_)
  exact p_vret dX3_init_41 rfl ⟨rfl, rfl⟩
def lg2 (r n : Nat) : List Ev := .inr (.inr (r, 5, (mkr (n + 3) 512 16))) :: (.inl (mkr (n + 3) 512 16) :: (.inr (.inr (r, 4, (mkr (n + 2) 9 16))) :: (.inl (mkr (n + 2) 9 16) :: (.inr (.inr (r, 3, (mkr (n + 1) 9 16))) :: (.inl (mkr (n + 1) 9 16) :: (.inr (.inl (r, 2, 0)) :: (.inr (.inl (r, 1, 0)) :: (.inr (.inr (r, 0, (mkr (n + 0) 9 16))) :: (.inl (mkr (n + 0) 9 16) :: ([]))))))))))
set_option maxRecDepth 12000 in
theorem c_iX2 {r n : Nat} (hk : kd r = 2) (hσ : hn σ = n) : CallOk Γ 1 4 539 mX2_init [.ref r] σ (rV (fun σ' => σ' = evl (lg2 r n) σ)) := by
  refine p_enter rfl rfl (Nat.le_of_ble_eq_true rfl) rfl ?_
  refine e_0 ?_
  refine p_aload_n 0 1 rfl rfl dX2_init_0 rfl ?_
  refine p_objInit 4 rfl dX2_init_1 ol_X2_3 (Nat.le_of_ble_eq_true rfl) (Nat.le_of_ble_eq_true rfl) ?_
  refine p_aload_n 0 5 rfl rfl dX2_init_4 rfl ?_
  refine p_bipush (9) 7 rfl dX2_init_5 rfl ?_
  refine q_newarr 16 9 9 3 530 (n + 0) (mkr (n + 0) 9 16) rfl dX2_init_7 rfl (Nat.le_of_ble_eq_true rfl) (Nat.le_of_ble_eq_true rfl) ac_16 (by decide) (by decide) (Nat.le_of_ble_eq_true rfl) (Nat.le_of_ble_eq_true rfl) (Nat.le_of_ble_eq_true rfl) (hn_e hσ rfl) rfl ?_
  refine p_putR 2 0 12 rfl dX2_init_9 fl_X2_9 hk rfl (mkr_ne (by decide)) (Or.inr ⟨rfl, rfl, rfl⟩) (e_pr ?_)
  refine p_aload_n 0 13 rfl rfl dX2_init_12 rfl ?_
  refine p_iconst (0) 14 rfl dX2_init_13 rfl ?_
  refine p_putI 2 1 17 rfl dX2_init_14 fl_X2_15 hk rfl (Or.inl rfl) (e_pi ?_)
  refine p_aload_n 0 18 rfl rfl dX2_init_17 rfl ?_
  refine p_iconst (0) 19 rfl dX2_init_18 rfl ?_
  refine p_putI 2 2 22 rfl dX2_init_19 fl_X2_19 hk rfl (Or.inl rfl) (e_pi ?_)
  refine p_aload_n 0 23 rfl rfl dX2_init_22 rfl ?_
  refine p_bipush (9) 25 rfl dX2_init_23 rfl ?_
  refine q_newarr 16 9 27 2 521 (n + 1) (mkr (n + 1) 9 16) rfl dX2_init_25 rfl (Nat.le_of_ble_eq_true rfl) (Nat.le_of_ble_eq_true rfl) ac_16 (by decide) (by decide) (Nat.le_of_ble_eq_true rfl) (Nat.le_of_ble_eq_true rfl) (Nat.le_of_ble_eq_true rfl) (hn_e hσ rfl) rfl ?_
  refine p_putR 2 3 30 rfl dX2_init_27 fl_X2_22 hk rfl (mkr_ne (by decide)) (Or.inr ⟨rfl, rfl, rfl⟩) (e_pr ?_)
  refine p_aload_n 0 31 rfl rfl dX2_init_30 rfl ?_
  refine p_bipush (9) 33 rfl dX2_init_31 rfl ?_
  refine q_newarr 16 9 35 1 512 (n + 2) (mkr (n + 2) 9 16) rfl dX2_init_33 rfl (Nat.le_of_ble_eq_true rfl) (Nat.le_of_ble_eq_true rfl) ac_16 (by decide) (by decide) (Nat.le_of_ble_eq_true rfl) (Nat.le_of_ble_eq_true rfl) (Nat.le_of_ble_eq_true rfl) (hn_e hσ rfl) rfl ?_
  refine p_putR 2 4 38 rfl dX2_init_35 fl_X2_25 hk rfl (mkr_ne (by decide)) (Or.inr ⟨rfl, rfl, rfl⟩) (e_pr ?_)
  refine p_aload_n 0 39 rfl rfl dX2_init_38 rfl ?_
  refine p_sipush (512) 42 rfl dX2_init_39 rfl ?_
  refine q_newarr 16 512 44 0 0 (n + 3) (mkr (n + 3) 512 16) rfl dX2_init_42 rfl (Nat.le_of_ble_eq_true rfl) (Nat.le_of_ble_eq_true rfl) ac_16 (by decide) (by decide) (Nat.le_of_ble_eq_true rfl) (Nat.le_of_ble_eq_true rfl) (Nat.le_of_ble_eq_true rfl) (hn_e hσ rfl) rfl ?_
  refine p_putR 2 5 47 rfl dX2_init_44 fl_X2_28 hk rfl (mkr_ne (by decide)) (Or.inr ⟨rfl, rfl, rfl⟩) (e_pr ?_)
  exact p_vret dX2_init_47 rfl ⟨rfl, rfl⟩
def lg1 (r n : Nat) : List Ev := .inr (.inl (r, 0, 0)) :: ([])
set_option maxRecDepth 12000 in
theorem c_iX1 {r n : Nat} (hk : kd r = 1) (hσ : hn σ = n) : CallOk Γ 1 0 0 mX1_init [.ref r] σ (rV (fun σ' => σ' = evl (lg1 r n) σ)) := by
  refine p_enter rfl rfl (Nat.le_of_ble_eq_true rfl) rfl ?_
  refine e_0 ?_
  refine p_aload_n 0 1 rfl rfl dX1_init_0 rfl ?_
  refine p_objInit 4 rfl dX1_init_1 ol_X1_1 (Nat.le_of_ble_eq_true rfl) (Nat.le_of_ble_eq_true rfl) ?_
  refine p_aload_n 0 5 rfl rfl dX1_init_4 rfl ?_
  refine p_iconst (0) 6 rfl dX1_init_5 rfl ?_
  refine p_putI 1 0 9 rfl dX1_init_6 fl_X1_7 hk rfl (Or.inl rfl) (e_pi ?_)
  exact p_vret dX1_init_9 rfl ⟨rfl, rfl⟩
def lg5 : List Ev := .inr (.inr (8126469, 5, 6553606)) :: (.inr (.inr (8126469, 4, 4456452)) :: (.inr (.inr (8126469, 2, 546705)) :: (.inr (.inl (8126469, 10, 0)) :: (.inr (.inl (8126469, 9, 0)) :: (.inr (.inl (8126469, 8, 0)) :: (.inr (.inl (8126469, 7, 0)) :: (.inr (.inl (8126469, 6, 1)) :: (.inr (.inl (8126469, 3, 0)) :: (.inr (.inl (8126469, 1, -1)) :: (.inr (.inl (8126469, 0, 0)) :: ([])))))))))))
set_option maxRecDepth 12000 in
theorem c_iX5 (hσ : hn σ = 32) (h12 : hR σ 4456452 12 = 6553606) : CallOk Γ 1 0 0 mX5_init [.ref 8126469, .ref 546705, .ref 4456452] σ (rV (fun σ' => σ' = evl lg5 σ)) := by
  refine p_enter rfl rfl (Nat.le_of_ble_eq_true rfl) rfl ?_
  refine e_0 ?_
  refine p_aload_n 0 1 rfl rfl dX5_init_0 rfl ?_
  refine p_objInit 4 rfl dX5_init_1 ol_X5_3 (Nat.le_of_ble_eq_true rfl) (Nat.le_of_ble_eq_true rfl) ?_
  refine p_aload_n 0 5 rfl rfl dX5_init_4 rfl ?_
  refine p_iconst (0) 6 rfl dX5_init_5 rfl ?_
  refine p_putI 5 0 9 rfl dX5_init_6 fl_X5_9 rfl rfl (Or.inl rfl) (e_pi ?_)
  refine p_aload_n 0 10 rfl rfl dX5_init_9 rfl ?_
  refine p_iconst (-1) 11 rfl dX5_init_10 rfl ?_
  refine p_putI 5 1 14 rfl dX5_init_11 fl_X5_15 rfl rfl (Or.inl rfl) (e_pi ?_)
  refine p_aload_n 0 15 rfl rfl dX5_init_14 rfl ?_
  refine p_iconst (0) 16 rfl dX5_init_15 rfl ?_
  refine p_putI 5 3 19 rfl dX5_init_16 fl_X5_18 rfl rfl (Or.inl rfl) (e_pi ?_)
  refine p_aload_n 0 20 rfl rfl dX5_init_19 rfl ?_
  refine p_iconst (1) 21 rfl dX5_init_20 rfl ?_
  refine p_putZ 5 6 24 rfl dX5_init_21 fl_X5_21 rfl rfl (by first | exact Or.inl rfl | exact Or.inr rfl) (Or.inl rfl) (e_pi ?_)
  refine p_aload_n 0 25 rfl rfl dX5_init_24 rfl ?_
  refine p_iconst (0) 26 rfl dX5_init_25 rfl ?_
  refine p_putI 5 7 29 rfl dX5_init_26 fl_X5_25 rfl rfl (Or.inl rfl) (e_pi ?_)
  refine p_aload_n 0 30 rfl rfl dX5_init_29 rfl ?_
  refine p_iconst (0) 31 rfl dX5_init_30 rfl ?_
  refine p_putI 5 8 34 rfl dX5_init_31 fl_X5_28 rfl rfl (Or.inl rfl) (e_pi ?_)
  refine p_aload_n 0 35 rfl rfl dX5_init_34 rfl ?_
  refine p_iconst (0) 36 rfl dX5_init_35 rfl ?_
  refine p_putI 5 9 39 rfl dX5_init_36 fl_X5_31 rfl rfl (Or.inl rfl) (e_pi ?_)
  refine p_aload_n 0 40 rfl rfl dX5_init_39 rfl ?_
  refine p_iconst (0) 41 rfl dX5_init_40 rfl ?_
  refine p_putI 5 10 44 rfl dX5_init_41 fl_X5_34 rfl rfl (Or.inl rfl) (e_pi ?_)
  refine p_aload_n 0 45 rfl rfl dX5_init_44 rfl ?_
  refine p_aload_n 1 46 rfl rfl dX5_init_45 rfl ?_
  refine p_putR 5 2 49 rfl dX5_init_46 fl_X5_37 rfl rfl (by decide) (Or.inr ⟨rfl, rfl, rfl⟩) (e_pr ?_)
  refine p_aload_n 0 50 rfl rfl dX5_init_49 rfl ?_
  refine p_aload_n 2 51 rfl rfl dX5_init_50 rfl ?_
  refine p_putR 5 4 54 rfl dX5_init_51 fl_X5_41 rfl rfl (by decide) (Or.inl rfl) (e_pr ?_)
  refine p_aload_n 0 55 rfl rfl dX5_init_54 rfl ?_
  refine p_aload_n 2 56 rfl rfl dX5_init_55 rfl ?_
  refine p_getR 4 12 59 rfl dX5_init_56 fl_X5_45 rfl rfl ((lkR_no (by decide +kernel)).trans h12) (by decide) ?_
  refine p_putR 5 5 62 rfl dX5_init_59 fl_X5_51 rfl rfl (by decide) (Or.inl rfl) (e_pr ?_)
  exact p_vret dX5_init_62 rfl ⟨rfl, rfl⟩
def lg8 : List Ev := .inr (.inr (262152, 17, 18622608)) :: (.inl 18622608 :: (.inr (.inr (262152, 16, 18350192)) :: (.inl 18350192 :: (.inr (.inr (262152, 15, 18087937)) :: ((lg1 18087937 70) ++ (.inl 18087937 :: (.inr (.inr (262152, 14, 16777218)) :: ((lg2 16777218 65) ++ (.inl 16777218 :: (.inr (.inr (262152, 13, 15466499)) :: ((lg3 15466499 60) ++ (.inl 15466499 :: (.inr (.inr (262152, 12, 14942208)) :: ((lg0 14942208 58) ++ (.inl 14942208 :: (.inr (.inr (262152, 11, 13369351)) :: ((lg7 13369351 52 786436) ++ (.inl 13369351 :: (.inr (.inl (262152, 10, 0)) :: (.inr (.inr (262152, 9, 12058627)) :: ((lg3 12058627 47) ++ (.inl 12058627 :: (.inr (.inr (262152, 8, 11534336)) :: ((lg0 11534336 45) ++ (.inl 11534336 :: (.inr (.inr (262152, 7, 9961479)) :: ((lg7 9961479 39 786436) ++ (.inl 9961479 :: (.inr (.inr (262152, 6, 8388615)) :: ((lg7 8388615 33 786436) ++ (.inl 8388615 :: (.inr (.inr (262152, 5, 8126469)) :: ((lg5) ++ (.inl 8126469 :: (.inr (.inr (262152, 4, 4456452)) :: ((lg4 4456452 18) ++ (.inl 4456452 :: (.inr (.inr (262152, 3, 786436)) :: ((lg4 786436 4) ++ (.inl 786436 :: (.inr (.inl (262152, 2, -1)) :: (.inr (.inl (262152, 1, 0)) :: (.inr (.inr (262152, 0, 546705)) :: (.inl 546705 :: ([])))))))))))))))))))))))))))))))))))))))))))))
set_option maxRecDepth 12000 in
theorem c_iX8 (hσ : hn σ = 2) : CallOk Γ 3 70 6272 mX8_init [.ref 262152] σ (rV (fun σ' => σ' = evl lg8 σ)) := by
  refine p_enter rfl rfl (Nat.le_of_ble_eq_true rfl) rfl ?_
  refine e_0 ?_
  refine p_aload_n 0 1 rfl rfl dX8_init_0 rfl ?_
  refine p_objInit 4 rfl dX8_init_1 ol_X8_3 (Nat.le_of_ble_eq_true rfl) (Nat.le_of_ble_eq_true rfl) ?_
  refine p_aload_n 0 5 rfl rfl dX8_init_4 rfl ?_
  refine p_sipush (700) 8 rfl dX8_init_5 rfl ?_
  refine q_newarr 17 700 10 69 5572 2 546705 rfl dX8_init_8 rfl (Nat.le_of_ble_eq_true rfl) (Nat.le_of_ble_eq_true rfl) ac_17 (by decide) (by decide) (Nat.le_of_ble_eq_true rfl) (Nat.le_of_ble_eq_true rfl) (Nat.le_of_ble_eq_true rfl) (hn_e hσ rfl) rfl ?_
  refine p_putR 8 0 13 rfl dX8_init_10 fl_X8_9 rfl rfl (by decide) (Or.inr ⟨rfl, rfl, rfl⟩) (e_pr ?_)
  refine p_aload_n 0 14 rfl rfl dX8_init_13 rfl ?_
  refine p_iconst (0) 15 rfl dX8_init_14 rfl ?_
  refine p_putI 8 1 18 rfl dX8_init_15 fl_X8_13 rfl rfl (Or.inl rfl) (e_pi ?_)
  refine p_aload_n 0 19 rfl rfl dX8_init_18 rfl ?_
  refine p_iconst (-1) 20 rfl dX8_init_19 rfl ?_
  refine p_putI 8 2 23 rfl dX8_init_20 fl_X8_17 rfl rfl (Or.inl rfl) (e_pi ?_)
  refine p_aload_n 0 24 rfl rfl dX8_init_23 rfl ?_
  refine q_new 4 27 68 5558 3 786436 rfl dX8_init_24 nl_X8_20 (Nat.le_of_ble_eq_true rfl) (Nat.le_of_ble_eq_true rfl) (hn_e hσ rfl) rfl ?_
  refine p_dup 28 rfl dX8_init_27 rfl ?_
  refine q_cIN0 55 3977 31 rfl dX8_init_28 (c_iX4 (r := 786436) (n := 4) rfl (hn_e hσ rfl)) mn_X8_22 il_X4_init (Nat.le_of_ble_eq_true rfl) (Nat.le_of_ble_eq_true rfl) (Nat.le_of_ble_eq_true rfl) (Nat.le_of_ble_eq_true rfl) ?_
  refine p_putR 8 3 34 rfl dX8_init_31 fl_X8_23 rfl rfl (by decide) (Or.inl rfl) (e_pr ?_)
  refine p_aload_n 0 35 rfl rfl dX8_init_34 rfl ?_
  refine q_new 4 38 54 3963 17 4456452 rfl dX8_init_35 nl_X8_20 (Nat.le_of_ble_eq_true rfl) (Nat.le_of_ble_eq_true rfl) (hn_e hσ rfl) rfl ?_
  refine p_dup 39 rfl dX8_init_38 rfl ?_
  refine q_cIN0 41 2382 42 rfl dX8_init_39 (c_iX4 (r := 4456452) (n := 18) rfl (hn_e hσ rfl)) mn_X8_22 il_X4_init (Nat.le_of_ble_eq_true rfl) (Nat.le_of_ble_eq_true rfl) (Nat.le_of_ble_eq_true rfl) (Nat.le_of_ble_eq_true rfl) ?_
  refine p_putR 8 4 45 rfl dX8_init_42 fl_X8_27 rfl rfl (by decide) (Or.inl rfl) (e_pr ?_)
  refine p_aload_n 0 46 rfl rfl dX8_init_45 rfl ?_
  refine q_new 5 49 40 2371 31 8126469 rfl dX8_init_46 nl_X8_30 (Nat.le_of_ble_eq_true rfl) (Nat.le_of_ble_eq_true rfl) (hn_e hσ rfl) rfl ?_
  refine p_dup 50 rfl dX8_init_49 rfl ?_
  refine p_aload_n 0 51 rfl rfl dX8_init_50 rfl ?_
  refine p_getR 8 0 54 rfl dX8_init_51 fl_X8_9 rfl rfl (show hR _ 262152 0 = 546705 from lkR_ok (by decide +kernel)) (by decide) ?_
  refine p_aload_n 0 55 rfl rfl dX8_init_54 rfl ?_
  refine p_getR 8 4 58 rfl dX8_init_55 fl_X8_27 rfl rfl (show hR _ 262152 4 = 4456452 from lkR_ok (by decide +kernel)) (by decide) ?_
  refine q_cI2 40 2371 61 rfl dX8_init_58 (c_iX5 (hn_e hσ (n := 32) rfl) (lkR_ok (by decide +kernel))) ml_X8_32 il_X5_init (Nat.le_of_ble_eq_true rfl) (Nat.le_of_ble_eq_true rfl) (Nat.le_of_ble_eq_true rfl) (Nat.le_of_ble_eq_true rfl) ?_
  refine p_putR 8 5 64 rfl dX8_init_61 fl_X8_35 rfl rfl (by decide) (Or.inr ⟨rfl, rfl, rfl⟩) (e_pr ?_)
  refine p_aload_n 0 65 rfl rfl dX8_init_64 rfl ?_
  refine q_new 7 68 39 2364 32 8388615 rfl dX8_init_65 nl_X8_39 (Nat.le_of_ble_eq_true rfl) (Nat.le_of_ble_eq_true rfl) (hn_e hσ rfl) rfl ?_
  refine p_dup 69 rfl dX8_init_68 rfl ?_
  refine p_aload_n 0 70 rfl rfl dX8_init_69 rfl ?_
  refine p_getR 8 3 73 rfl dX8_init_70 fl_X8_23 rfl rfl (show hR _ 262152 3 = 786436 from lkR_ok (by decide +kernel)) (by decide) ?_
  refine q_cI1 34 2325 76 rfl dX8_init_73 (c_iX7 (r := 8388615) (n := 33) rfl (by decide) (hn_e hσ rfl)) ml_X8_41 il_X7_init (Nat.le_of_ble_eq_true rfl) (Nat.le_of_ble_eq_true rfl) (Nat.le_of_ble_eq_true rfl) (Nat.le_of_ble_eq_true rfl) ?_
  refine p_putR 8 6 79 rfl dX8_init_76 fl_X8_44 rfl rfl (by decide) (Or.inr ⟨rfl, rfl, rfl⟩) (e_pr ?_)
  refine p_aload_n 0 80 rfl rfl dX8_init_79 rfl ?_
  refine q_new 7 83 33 2318 38 9961479 rfl dX8_init_80 nl_X8_39 (Nat.le_of_ble_eq_true rfl) (Nat.le_of_ble_eq_true rfl) (hn_e hσ rfl) rfl ?_
  refine p_dup 84 rfl dX8_init_83 rfl ?_
  refine p_aload_n 0 85 rfl rfl dX8_init_84 rfl ?_
  refine p_getR 8 3 88 rfl dX8_init_85 fl_X8_23 rfl rfl (show hR _ 262152 3 = 786436 from lkR_ok (by decide +kernel)) (by decide) ?_
  refine q_cI1 28 2279 91 rfl dX8_init_88 (c_iX7 (r := 9961479) (n := 39) rfl (by decide) (hn_e hσ rfl)) ml_X8_41 il_X7_init (Nat.le_of_ble_eq_true rfl) (Nat.le_of_ble_eq_true rfl) (Nat.le_of_ble_eq_true rfl) (Nat.le_of_ble_eq_true rfl) ?_
  refine p_putR 8 7 94 rfl dX8_init_91 fl_X8_48 rfl rfl (by decide) (Or.inr ⟨rfl, rfl, rfl⟩) (e_pr ?_)
  refine p_aload_n 0 95 rfl rfl dX8_init_94 rfl ?_
  refine q_new 0 98 27 2276 44 11534336 rfl dX8_init_95 nl_X8_51 (Nat.le_of_ble_eq_true rfl) (Nat.le_of_ble_eq_true rfl) (hn_e hσ rfl) rfl ?_
  refine p_dup 99 rfl dX8_init_98 rfl ?_
  refine q_cIN0 26 1636 102 rfl dX8_init_99 (c_iX0 (r := 11534336) (n := 45) rfl (hn_e hσ rfl)) mn_X8_53 il_X0_init (Nat.le_of_ble_eq_true rfl) (Nat.le_of_ble_eq_true rfl) (Nat.le_of_ble_eq_true rfl) (Nat.le_of_ble_eq_true rfl) ?_
  refine p_putR 8 8 105 rfl dX8_init_102 fl_X8_54 rfl rfl (by decide) (Or.inr ⟨rfl, rfl, rfl⟩) (e_pr ?_)
  refine p_aload_n 0 106 rfl rfl dX8_init_105 rfl ?_
  refine q_new 3 109 25 1631 46 12058627 rfl dX8_init_106 nl_X8_58 (Nat.le_of_ble_eq_true rfl) (Nat.le_of_ble_eq_true rfl) (hn_e hσ rfl) rfl ?_
  refine p_dup 110 rfl dX8_init_109 rfl ?_
  refine q_cIN0 21 1599 113 rfl dX8_init_110 (c_iX3 (r := 12058627) (n := 47) rfl (hn_e hσ rfl)) mn_X8_60 il_X3_init (Nat.le_of_ble_eq_true rfl) (Nat.le_of_ble_eq_true rfl) (Nat.le_of_ble_eq_true rfl) (Nat.le_of_ble_eq_true rfl) ?_
  refine p_putR 8 9 116 rfl dX8_init_113 fl_X8_61 rfl rfl (by decide) (Or.inr ⟨rfl, rfl, rfl⟩) (e_pr ?_)
  refine p_aload_n 0 117 rfl rfl dX8_init_116 rfl ?_
  refine p_iconst (0) 118 rfl dX8_init_117 rfl ?_
  refine p_putZ 8 10 121 rfl dX8_init_118 fl_X8_65 rfl rfl (by first | exact Or.inl rfl | exact Or.inr rfl) (Or.inl rfl) (e_pi ?_)
  refine p_aload_n 0 122 rfl rfl dX8_init_121 rfl ?_
  refine q_new 7 125 20 1592 51 13369351 rfl dX8_init_122 nl_X8_39 (Nat.le_of_ble_eq_true rfl) (Nat.le_of_ble_eq_true rfl) (hn_e hσ rfl) rfl ?_
  refine p_dup 126 rfl dX8_init_125 rfl ?_
  refine p_aload_n 0 127 rfl rfl dX8_init_126 rfl ?_
  refine p_getR 8 3 130 rfl dX8_init_127 fl_X8_23 rfl rfl (show hR _ 262152 3 = 786436 from lkR_ok (by decide +kernel)) (by decide) ?_
  refine q_cI1 15 1553 133 rfl dX8_init_130 (c_iX7 (r := 13369351) (n := 52) rfl (by decide) (hn_e hσ rfl)) ml_X8_41 il_X7_init (Nat.le_of_ble_eq_true rfl) (Nat.le_of_ble_eq_true rfl) (Nat.le_of_ble_eq_true rfl) (Nat.le_of_ble_eq_true rfl) ?_
  refine p_putR 8 11 136 rfl dX8_init_133 fl_X8_69 rfl rfl (by decide) (Or.inr ⟨rfl, rfl, rfl⟩) (e_pr ?_)
  refine p_aload_n 0 137 rfl rfl dX8_init_136 rfl ?_
  refine q_new 0 140 14 1550 57 14942208 rfl dX8_init_137 nl_X8_51 (Nat.le_of_ble_eq_true rfl) (Nat.le_of_ble_eq_true rfl) (hn_e hσ rfl) rfl ?_
  refine p_dup 141 rfl dX8_init_140 rfl ?_
  refine q_cIN0 13 910 144 rfl dX8_init_141 (c_iX0 (r := 14942208) (n := 58) rfl (hn_e hσ rfl)) mn_X8_53 il_X0_init (Nat.le_of_ble_eq_true rfl) (Nat.le_of_ble_eq_true rfl) (Nat.le_of_ble_eq_true rfl) (Nat.le_of_ble_eq_true rfl) ?_
  refine p_putR 8 12 147 rfl dX8_init_144 fl_X8_72 rfl rfl (by decide) (Or.inr ⟨rfl, rfl, rfl⟩) (e_pr ?_)
  refine p_aload_n 0 148 rfl rfl dX8_init_147 rfl ?_
  refine q_new 3 151 12 905 59 15466499 rfl dX8_init_148 nl_X8_58 (Nat.le_of_ble_eq_true rfl) (Nat.le_of_ble_eq_true rfl) (hn_e hσ rfl) rfl ?_
  refine p_dup 152 rfl dX8_init_151 rfl ?_
  refine q_cIN0 8 873 155 rfl dX8_init_152 (c_iX3 (r := 15466499) (n := 60) rfl (hn_e hσ rfl)) mn_X8_60 il_X3_init (Nat.le_of_ble_eq_true rfl) (Nat.le_of_ble_eq_true rfl) (Nat.le_of_ble_eq_true rfl) (Nat.le_of_ble_eq_true rfl) ?_
  refine p_putR 8 13 158 rfl dX8_init_155 fl_X8_75 rfl rfl (by decide) (Or.inr ⟨rfl, rfl, rfl⟩) (e_pr ?_)
  refine p_aload_n 0 159 rfl rfl dX8_init_158 rfl ?_
  refine q_new 2 162 7 867 64 16777218 rfl dX8_init_159 nl_X8_78 (Nat.le_of_ble_eq_true rfl) (Nat.le_of_ble_eq_true rfl) (hn_e hσ rfl) rfl ?_
  refine p_dup 163 rfl dX8_init_162 rfl ?_
  refine q_cIN0 3 328 166 rfl dX8_init_163 (c_iX2 (r := 16777218) (n := 65) rfl (hn_e hσ rfl)) mn_X8_80 il_X2_init (Nat.le_of_ble_eq_true rfl) (Nat.le_of_ble_eq_true rfl) (Nat.le_of_ble_eq_true rfl) (Nat.le_of_ble_eq_true rfl) ?_
  refine p_putR 8 14 169 rfl dX8_init_166 fl_X8_81 rfl rfl (by decide) (Or.inr ⟨rfl, rfl, rfl⟩) (e_pr ?_)
  refine p_aload_n 0 170 rfl rfl dX8_init_169 rfl ?_
  refine q_new 1 173 2 327 69 18087937 rfl dX8_init_170 nl_X8_85 (Nat.le_of_ble_eq_true rfl) (Nat.le_of_ble_eq_true rfl) (hn_e hσ rfl) rfl ?_
  refine p_dup 174 rfl dX8_init_173 rfl ?_
  refine q_cIN0 2 327 177 rfl dX8_init_174 (c_iX1 (r := 18087937) (n := 70) rfl (hn_e hσ rfl)) mn_X8_87 il_X1_init (Nat.le_of_ble_eq_true rfl) (Nat.le_of_ble_eq_true rfl) (Nat.le_of_ble_eq_true rfl) (Nat.le_of_ble_eq_true rfl) ?_
  refine p_putR 8 15 180 rfl dX8_init_177 fl_X8_88 rfl rfl (by decide) (Or.inr ⟨rfl, rfl, rfl⟩) (e_pr ?_)
  refine p_aload_n 0 181 rfl rfl dX8_init_180 rfl ?_
  refine p_iconst (3) 182 rfl dX8_init_181 rfl ?_
  refine q_newarr 16 3 184 1 324 70 18350192 rfl dX8_init_182 rfl (Nat.le_of_ble_eq_true rfl) (Nat.le_of_ble_eq_true rfl) ac_16 (by decide) (by decide) (Nat.le_of_ble_eq_true rfl) (Nat.le_of_ble_eq_true rfl) (Nat.le_of_ble_eq_true rfl) (hn_e hσ rfl) rfl ?_
  refine p_putR 8 16 187 rfl dX8_init_184 fl_X8_92 rfl rfl (by decide) (Or.inr ⟨rfl, rfl, rfl⟩) (e_pr ?_)
  refine p_aload_n 0 188 rfl rfl dX8_init_187 rfl ?_
  refine p_sipush (324) 191 rfl dX8_init_188 rfl ?_
  refine q_newarr 16 324 193 0 0 71 18622608 rfl dX8_init_191 rfl (Nat.le_of_ble_eq_true rfl) (Nat.le_of_ble_eq_true rfl) ac_16 (by decide) (by decide) (Nat.le_of_ble_eq_true rfl) (Nat.le_of_ble_eq_true rfl) (Nat.le_of_ble_eq_true rfl) (hn_e hσ rfl) rfl ?_
  refine p_putR 8 17 196 rfl dX8_init_193 fl_X8_96 rfl rfl (by decide) (Or.inr ⟨rfl, rfl, rfl⟩) (e_pr ?_)
  exact p_vret dX8_init_196 rfl ⟨rfl, rfl⟩
def lg9 : List Ev := .inr (.inr (18874377, 61, 25953296)) :: (.inl 25953296 :: (.inr (.inr (18874377, 60, 25733648)) :: (.inl 25733648 :: (.inr (.inr (18874377, 59, 25429072)) :: (.inl 25429072 :: (.inr (.inr (18874377, 54, 25176208)) :: (.inl 25176208 :: (.inr (.inr (18874377, 53, 24903888)) :: (.inl 24903888 :: (.inr (.inr (18874377, 52, 24642576)) :: (.inl 24642576 :: (.inr (.inr (18874377, 50, 24543248)) :: (.inl 24543248 :: (.inr (.inr (18874377, 49, 24133648)) :: (.inl 24133648 :: (.inr (.inr (18874377, 48, 23885520)) :: (.inl 23885520 :: (.inr (.inr (18874377, 47, 23593264)) :: (.inl 23593264 :: (.inr (.inr (18874377, 45, 23374352)) :: (.inl 23374352 :: (.inr (.inr (18874377, 44, 23070864)) :: (.inl 23070864 :: (.inr (.inr (18874377, 43, 22806834)) :: (.inl 22806834 :: (.inr (.inr (18874377, 42, 22574800)) :: (.inl 22574800 :: (.inr (.inr (18874377, 41, 22327056)) :: (.inl 22327056 :: (.inr (.inr (18874377, 40, 22021200)) :: (.inl 22021200 :: (.inr (.inr (18874377, 39, 21758352)) :: (.inl 21758352 :: (.inr (.inr (18874377, 38, 21496208)) :: (.inl 21496208 :: (.inr (.inr (18874377, 37, 21233872)) :: (.inl 21233872 :: (.inr (.inr (18874377, 36, 20972688)) :: (.inl 20972688 :: (.inr (.inr (18874377, 16, 20709488)) :: (.inl 20709488 :: (.inr (.inl (18874377, 15, -1)) :: (.inr (.inr (18874377, 12, 20469648)) :: (.inl 20469648 :: (.inr (.inr (18874377, 11, 20229904)) :: (.inl 20229904 :: (.inr (.inr (18874377, 10, 19923344)) :: (.inl 19923344 :: (.inr (.inr (18874377, 9, 19661200)) :: (.inl 19661200 :: (.inr (.inr (18874377, 8, 19398864)) :: (.inl 19398864 :: (.inr (.inr (18874377, 7, 19137680)) :: (.inl 19137680 :: (.inr (.inl (18874377, 6, -1)) :: (.inr (.inl (18874377, 5, -1)) :: ([])))))))))))))))))))))))))))))))))))))))))))))))))))))))))
set_option maxRecDepth 12000 in
theorem c_iX9 (hσ : hn σ = 73) : CallOk Γ 1 27 14435 mX9_init [.ref 18874377] σ (rV (fun σ' => σ' = evl lg9 σ)) := by
  refine p_enter rfl rfl (Nat.le_of_ble_eq_true rfl) rfl ?_
  refine e_0 ?_
  refine p_aload_n 0 1 rfl rfl dX9_init_0 rfl ?_
  refine p_objInit 4 rfl dX9_init_1 ol_X9_1 (Nat.le_of_ble_eq_true rfl) (Nat.le_of_ble_eq_true rfl) ?_
  refine p_aload_n 0 5 rfl rfl dX9_init_4 rfl ?_
  refine p_iconst (-1) 6 rfl dX9_init_5 rfl ?_
  refine p_putI 9 5 9 rfl dX9_init_6 fl_X9_9 rfl rfl (Or.inl rfl) (e_pi ?_)
  refine p_aload_n 0 10 rfl rfl dX9_init_9 rfl ?_
  refine p_iconst (-1) 11 rfl dX9_init_10 rfl ?_
  refine p_putI 9 6 14 rfl dX9_init_11 fl_X9_13 rfl rfl (Or.inl rfl) (e_pi ?_)
  refine p_aload_n 0 15 rfl rfl dX9_init_14 rfl ?_
  refine p_bipush (36) 17 rfl dX9_init_15 rfl ?_
  refine q_newarr 16 36 19 26 14399 73 19137680 rfl dX9_init_17 rfl (Nat.le_of_ble_eq_true rfl) (Nat.le_of_ble_eq_true rfl) ac_16 (by decide) (by decide) (Nat.le_of_ble_eq_true rfl) (Nat.le_of_ble_eq_true rfl) (Nat.le_of_ble_eq_true rfl) (hn_e hσ rfl) rfl ?_
  refine p_putR 9 7 22 rfl dX9_init_19 fl_X9_16 rfl rfl (by decide) (Or.inr ⟨rfl, rfl, rfl⟩) (e_pr ?_)
  refine p_aload_n 0 23 rfl rfl dX9_init_22 rfl ?_
  refine p_bipush (6) 25 rfl dX9_init_23 rfl ?_
  refine q_newarr 16 6 27 25 14393 74 19398864 rfl dX9_init_25 rfl (Nat.le_of_ble_eq_true rfl) (Nat.le_of_ble_eq_true rfl) ac_16 (by decide) (by decide) (Nat.le_of_ble_eq_true rfl) (Nat.le_of_ble_eq_true rfl) (Nat.le_of_ble_eq_true rfl) (hn_e hσ rfl) rfl ?_
  refine p_putR 9 8 30 rfl dX9_init_27 fl_X9_20 rfl rfl (by decide) (Or.inr ⟨rfl, rfl, rfl⟩) (e_pr ?_)
  refine p_aload_n 0 31 rfl rfl dX9_init_30 rfl ?_
  refine p_bipush (12) 33 rfl dX9_init_31 rfl ?_
  refine q_newarr 16 12 35 24 14381 75 19661200 rfl dX9_init_33 rfl (Nat.le_of_ble_eq_true rfl) (Nat.le_of_ble_eq_true rfl) ac_16 (by decide) (by decide) (Nat.le_of_ble_eq_true rfl) (Nat.le_of_ble_eq_true rfl) (Nat.le_of_ble_eq_true rfl) (hn_e hσ rfl) rfl ?_
  refine p_putR 9 9 38 rfl dX9_init_35 fl_X9_23 rfl rfl (by decide) (Or.inr ⟨rfl, rfl, rfl⟩) (e_pr ?_)
  refine p_aload_n 0 39 rfl rfl dX9_init_38 rfl ?_
  refine p_bipush (12) 41 rfl dX9_init_39 rfl ?_
  refine q_newarr 16 12 43 23 14369 76 19923344 rfl dX9_init_41 rfl (Nat.le_of_ble_eq_true rfl) (Nat.le_of_ble_eq_true rfl) ac_16 (by decide) (by decide) (Nat.le_of_ble_eq_true rfl) (Nat.le_of_ble_eq_true rfl) (Nat.le_of_ble_eq_true rfl) (hn_e hσ rfl) rfl ?_
  refine p_putR 9 10 46 rfl dX9_init_43 fl_X9_26 rfl rfl (by decide) (Or.inr ⟨rfl, rfl, rfl⟩) (e_pr ?_)
  refine p_aload_n 0 47 rfl rfl dX9_init_46 rfl ?_
  refine p_sipush (1400) 50 rfl dX9_init_47 rfl ?_
  refine q_newarr 16 1400 52 22 12969 77 20229904 rfl dX9_init_50 rfl (Nat.le_of_ble_eq_true rfl) (Nat.le_of_ble_eq_true rfl) ac_16 (by decide) (by decide) (Nat.le_of_ble_eq_true rfl) (Nat.le_of_ble_eq_true rfl) (Nat.le_of_ble_eq_true rfl) (hn_e hσ rfl) rfl ?_
  refine p_putR 9 11 55 rfl dX9_init_52 fl_X9_29 rfl rfl (by decide) (Or.inr ⟨rfl, rfl, rfl⟩) (e_pr ?_)
  refine p_aload_n 0 56 rfl rfl dX9_init_55 rfl ?_
  refine p_sipush (700) 59 rfl dX9_init_56 rfl ?_
  refine q_newarr 16 700 61 21 12269 78 20469648 rfl dX9_init_59 rfl (Nat.le_of_ble_eq_true rfl) (Nat.le_of_ble_eq_true rfl) ac_16 (by decide) (by decide) (Nat.le_of_ble_eq_true rfl) (Nat.le_of_ble_eq_true rfl) (Nat.le_of_ble_eq_true rfl) (hn_e hσ rfl) rfl ?_
  refine p_putR 9 12 64 rfl dX9_init_61 fl_X9_32 rfl rfl (by decide) (Or.inr ⟨rfl, rfl, rfl⟩) (e_pr ?_)
  refine p_aload_n 0 65 rfl rfl dX9_init_64 rfl ?_
  refine p_iconst (-1) 66 rfl dX9_init_65 rfl ?_
  refine p_putI 9 15 69 rfl dX9_init_66 fl_X9_35 rfl rfl (Or.inl rfl) (e_pi ?_)
  refine p_aload_n 0 70 rfl rfl dX9_init_69 rfl ?_
  refine p_iconst (3) 71 rfl dX9_init_70 rfl ?_
  refine q_newarr 16 3 73 20 12266 79 20709488 rfl dX9_init_71 rfl (Nat.le_of_ble_eq_true rfl) (Nat.le_of_ble_eq_true rfl) ac_16 (by decide) (by decide) (Nat.le_of_ble_eq_true rfl) (Nat.le_of_ble_eq_true rfl) (Nat.le_of_ble_eq_true rfl) (hn_e hσ rfl) rfl ?_
  refine p_putR 9 16 76 rfl dX9_init_73 fl_X9_38 rfl rfl (by decide) (Or.inr ⟨rfl, rfl, rfl⟩) (e_pr ?_)
  refine p_aload_n 0 77 rfl rfl dX9_init_76 rfl ?_
  refine p_bipush (36) 79 rfl dX9_init_77 rfl ?_
  refine q_newarr 16 36 81 19 12230 80 20972688 rfl dX9_init_79 rfl (Nat.le_of_ble_eq_true rfl) (Nat.le_of_ble_eq_true rfl) ac_16 (by decide) (by decide) (Nat.le_of_ble_eq_true rfl) (Nat.le_of_ble_eq_true rfl) (Nat.le_of_ble_eq_true rfl) (hn_e hσ rfl) rfl ?_
  refine p_putR 9 36 84 rfl dX9_init_81 fl_X9_41 rfl rfl (by decide) (Or.inr ⟨rfl, rfl, rfl⟩) (e_pr ?_)
  refine p_aload_n 0 85 rfl rfl dX9_init_84 rfl ?_
  refine p_bipush (6) 87 rfl dX9_init_85 rfl ?_
  refine q_newarr 16 6 89 18 12224 81 21233872 rfl dX9_init_87 rfl (Nat.le_of_ble_eq_true rfl) (Nat.le_of_ble_eq_true rfl) ac_16 (by decide) (by decide) (Nat.le_of_ble_eq_true rfl) (Nat.le_of_ble_eq_true rfl) (Nat.le_of_ble_eq_true rfl) (hn_e hσ rfl) rfl ?_
  refine p_putR 9 37 92 rfl dX9_init_89 fl_X9_44 rfl rfl (by decide) (Or.inr ⟨rfl, rfl, rfl⟩) (e_pr ?_)
  refine p_aload_n 0 93 rfl rfl dX9_init_92 rfl ?_
  refine p_bipush (12) 95 rfl dX9_init_93 rfl ?_
  refine q_newarr 16 12 97 17 12212 82 21496208 rfl dX9_init_95 rfl (Nat.le_of_ble_eq_true rfl) (Nat.le_of_ble_eq_true rfl) ac_16 (by decide) (by decide) (Nat.le_of_ble_eq_true rfl) (Nat.le_of_ble_eq_true rfl) (Nat.le_of_ble_eq_true rfl) (hn_e hσ rfl) rfl ?_
  refine p_putR 9 38 100 rfl dX9_init_97 fl_X9_47 rfl rfl (by decide) (Or.inr ⟨rfl, rfl, rfl⟩) (e_pr ?_)
  refine p_aload_n 0 101 rfl rfl dX9_init_100 rfl ?_
  refine p_bipush (12) 103 rfl dX9_init_101 rfl ?_
  refine q_newarr 16 12 105 16 12200 83 21758352 rfl dX9_init_103 rfl (Nat.le_of_ble_eq_true rfl) (Nat.le_of_ble_eq_true rfl) ac_16 (by decide) (by decide) (Nat.le_of_ble_eq_true rfl) (Nat.le_of_ble_eq_true rfl) (Nat.le_of_ble_eq_true rfl) (hn_e hσ rfl) rfl ?_
  refine p_putR 9 39 108 rfl dX9_init_105 fl_X9_50 rfl rfl (by decide) (Or.inr ⟨rfl, rfl, rfl⟩) (e_pr ?_)
  refine p_aload_n 0 109 rfl rfl dX9_init_108 rfl ?_
  refine p_bipush (34) 111 rfl dX9_init_109 rfl ?_
  refine q_newarr 16 34 113 15 12166 84 22021200 rfl dX9_init_111 rfl (Nat.le_of_ble_eq_true rfl) (Nat.le_of_ble_eq_true rfl) ac_16 (by decide) (by decide) (Nat.le_of_ble_eq_true rfl) (Nat.le_of_ble_eq_true rfl) (Nat.le_of_ble_eq_true rfl) (hn_e hσ rfl) rfl ?_
  refine p_putR 9 40 116 rfl dX9_init_113 fl_X9_53 rfl rfl (by decide) (Or.inr ⟨rfl, rfl, rfl⟩) (e_pr ?_)
  refine p_aload_n 0 117 rfl rfl dX9_init_116 rfl ?_
  refine p_sipush (1400) 120 rfl dX9_init_117 rfl ?_
  refine q_newarr 16 1400 122 14 10766 85 22327056 rfl dX9_init_120 rfl (Nat.le_of_ble_eq_true rfl) (Nat.le_of_ble_eq_true rfl) ac_16 (by decide) (by decide) (Nat.le_of_ble_eq_true rfl) (Nat.le_of_ble_eq_true rfl) (Nat.le_of_ble_eq_true rfl) (hn_e hσ rfl) rfl ?_
  refine p_putR 9 41 125 rfl dX9_init_122 fl_X9_56 rfl rfl (by decide) (Or.inr ⟨rfl, rfl, rfl⟩) (e_pr ?_)
  refine p_aload_n 0 126 rfl rfl dX9_init_125 rfl ?_
  refine p_sipush (950) 129 rfl dX9_init_126 rfl ?_
  refine q_newarr 16 950 131 13 9816 86 22574800 rfl dX9_init_129 rfl (Nat.le_of_ble_eq_true rfl) (Nat.le_of_ble_eq_true rfl) ac_16 (by decide) (by decide) (Nat.le_of_ble_eq_true rfl) (Nat.le_of_ble_eq_true rfl) (Nat.le_of_ble_eq_true rfl) (hn_e hσ rfl) rfl ?_
  refine p_putR 9 42 134 rfl dX9_init_131 fl_X9_59 rfl rfl (by decide) (Or.inr ⟨rfl, rfl, rfl⟩) (e_pr ?_)
  refine p_aload_n 0 135 rfl rfl dX9_init_134 rfl ?_
  refine p_bipush (9) 137 rfl dX9_init_135 rfl ?_
  refine q_newarr 18 9 139 12 9807 87 22806834 rfl dX9_init_137 rfl (Nat.le_of_ble_eq_true rfl) (Nat.le_of_ble_eq_true rfl) ac_18 (by decide) (by decide) (Nat.le_of_ble_eq_true rfl) (Nat.le_of_ble_eq_true rfl) (Nat.le_of_ble_eq_true rfl) (hn_e hσ rfl) rfl ?_
  refine p_putR 9 43 142 rfl dX9_init_139 fl_X9_62 rfl rfl (by decide) (Or.inr ⟨rfl, rfl, rfl⟩) (e_pr ?_)
  refine p_aload_n 0 143 rfl rfl dX9_init_142 rfl ?_
  refine p_bipush (68) 145 rfl dX9_init_143 rfl ?_
  refine q_newarr 16 68 147 11 9739 88 23070864 rfl dX9_init_145 rfl (Nat.le_of_ble_eq_true rfl) (Nat.le_of_ble_eq_true rfl) ac_16 (by decide) (by decide) (Nat.le_of_ble_eq_true rfl) (Nat.le_of_ble_eq_true rfl) (Nat.le_of_ble_eq_true rfl) (hn_e hσ rfl) rfl ?_
  refine p_putR 9 44 150 rfl dX9_init_147 fl_X9_66 rfl rfl (by decide) (Or.inr ⟨rfl, rfl, rfl⟩) (e_pr ?_)
  refine p_aload_n 0 151 rfl rfl dX9_init_150 rfl ?_
  refine p_sipush (1360) 154 rfl dX9_init_151 rfl ?_
  refine q_newarr 16 1360 156 10 8379 89 23374352 rfl dX9_init_154 rfl (Nat.le_of_ble_eq_true rfl) (Nat.le_of_ble_eq_true rfl) ac_16 (by decide) (by decide) (Nat.le_of_ble_eq_true rfl) (Nat.le_of_ble_eq_true rfl) (Nat.le_of_ble_eq_true rfl) (hn_e hσ rfl) rfl ?_
  refine p_putR 9 45 159 rfl dX9_init_156 fl_X9_69 rfl rfl (by decide) (Or.inr ⟨rfl, rfl, rfl⟩) (e_pr ?_)
  refine p_aload_n 0 160 rfl rfl dX9_init_159 rfl ?_
  refine p_bipush (9) 162 rfl dX9_init_160 rfl ?_
  refine q_newarr 16 9 164 9 8370 90 23593264 rfl dX9_init_162 rfl (Nat.le_of_ble_eq_true rfl) (Nat.le_of_ble_eq_true rfl) ac_16 (by decide) (by decide) (Nat.le_of_ble_eq_true rfl) (Nat.le_of_ble_eq_true rfl) (Nat.le_of_ble_eq_true rfl) (hn_e hσ rfl) rfl ?_
  refine p_putR 9 47 167 rfl dX9_init_164 fl_X9_72 rfl rfl (by decide) (Or.inr ⟨rfl, rfl, rfl⟩) (e_pr ?_)
  refine p_aload_n 0 168 rfl rfl dX9_init_167 rfl ?_
  refine p_sipush (950) 171 rfl dX9_init_168 rfl ?_
  refine q_newarr 16 950 173 8 7420 91 23885520 rfl dX9_init_171 rfl (Nat.le_of_ble_eq_true rfl) (Nat.le_of_ble_eq_true rfl) ac_16 (by decide) (by decide) (Nat.le_of_ble_eq_true rfl) (Nat.le_of_ble_eq_true rfl) (Nat.le_of_ble_eq_true rfl) (hn_e hσ rfl) rfl ?_
  refine p_putR 9 48 176 rfl dX9_init_173 fl_X9_75 rfl rfl (by decide) (Or.inr ⟨rfl, rfl, rfl⟩) (e_pr ?_)
  refine p_aload_n 0 177 rfl rfl dX9_init_176 rfl ?_
  refine p_sipush (512) 180 rfl dX9_init_177 rfl ?_
  refine q_newarr 16 512 182 7 6908 92 24133648 rfl dX9_init_180 rfl (Nat.le_of_ble_eq_true rfl) (Nat.le_of_ble_eq_true rfl) ac_16 (by decide) (by decide) (Nat.le_of_ble_eq_true rfl) (Nat.le_of_ble_eq_true rfl) (Nat.le_of_ble_eq_true rfl) (hn_e hσ rfl) rfl ?_
  refine p_putR 9 49 185 rfl dX9_init_182 fl_X9_78 rfl rfl (by decide) (Or.inr ⟨rfl, rfl, rfl⟩) (e_pr ?_)
  refine p_aload_n 0 186 rfl rfl dX9_init_185 rfl ?_
  refine p_sipush (5120) 189 rfl dX9_init_186 rfl ?_
  refine q_newarr 16 5120 191 6 1788 93 24543248 rfl dX9_init_189 rfl (Nat.le_of_ble_eq_true rfl) (Nat.le_of_ble_eq_true rfl) ac_16 (by decide) (by decide) (Nat.le_of_ble_eq_true rfl) (Nat.le_of_ble_eq_true rfl) (Nat.le_of_ble_eq_true rfl) (hn_e hσ rfl) rfl ?_
  refine p_putR 9 50 194 rfl dX9_init_191 fl_X9_81 rfl rfl (by decide) (Or.inr ⟨rfl, rfl, rfl⟩) (e_pr ?_)
  refine p_aload_n 0 195 rfl rfl dX9_init_194 rfl ?_
  refine p_bipush (32) 197 rfl dX9_init_195 rfl ?_
  refine q_newarr 16 32 199 5 1756 94 24642576 rfl dX9_init_197 rfl (Nat.le_of_ble_eq_true rfl) (Nat.le_of_ble_eq_true rfl) ac_16 (by decide) (by decide) (Nat.le_of_ble_eq_true rfl) (Nat.le_of_ble_eq_true rfl) (Nat.le_of_ble_eq_true rfl) (hn_e hσ rfl) rfl ?_
  refine p_putR 9 52 202 rfl dX9_init_199 fl_X9_84 rfl rfl (by decide) (Or.inr ⟨rfl, rfl, rfl⟩) (e_pr ?_)
  refine p_aload_n 0 203 rfl rfl dX9_init_202 rfl ?_
  refine p_bipush (6) 205 rfl dX9_init_203 rfl ?_
  refine q_newarr 16 6 207 4 1750 95 24903888 rfl dX9_init_205 rfl (Nat.le_of_ble_eq_true rfl) (Nat.le_of_ble_eq_true rfl) ac_16 (by decide) (by decide) (Nat.le_of_ble_eq_true rfl) (Nat.le_of_ble_eq_true rfl) (Nat.le_of_ble_eq_true rfl) (hn_e hσ rfl) rfl ?_
  refine p_putR 9 53 210 rfl dX9_init_207 fl_X9_87 rfl rfl (by decide) (Or.inr ⟨rfl, rfl, rfl⟩) (e_pr ?_)
  refine p_aload_n 0 211 rfl rfl dX9_init_210 rfl ?_
  refine p_sipush (324) 214 rfl dX9_init_211 rfl ?_
  refine q_newarr 16 324 216 3 1426 96 25176208 rfl dX9_init_214 rfl (Nat.le_of_ble_eq_true rfl) (Nat.le_of_ble_eq_true rfl) ac_16 (by decide) (by decide) (Nat.le_of_ble_eq_true rfl) (Nat.le_of_ble_eq_true rfl) (Nat.le_of_ble_eq_true rfl) (hn_e hσ rfl) rfl ?_
  refine p_putR 9 54 219 rfl dX9_init_216 fl_X9_90 rfl rfl (by decide) (Or.inr ⟨rfl, rfl, rfl⟩) (e_pr ?_)
  refine p_aload_n 0 220 rfl rfl dX9_init_219 rfl ?_
  refine p_bipush (34) 222 rfl dX9_init_220 rfl ?_
  refine q_newarr 16 34 224 2 1392 97 25429072 rfl dX9_init_222 rfl (Nat.le_of_ble_eq_true rfl) (Nat.le_of_ble_eq_true rfl) ac_16 (by decide) (by decide) (Nat.le_of_ble_eq_true rfl) (Nat.le_of_ble_eq_true rfl) (Nat.le_of_ble_eq_true rfl) (hn_e hσ rfl) rfl ?_
  refine p_putR 9 59 227 rfl dX9_init_224 fl_X9_93 rfl rfl (by decide) (Or.inr ⟨rfl, rfl, rfl⟩) (e_pr ?_)
  refine p_aload_n 0 228 rfl rfl dX9_init_227 rfl ?_
  refine p_sipush (1360) 231 rfl dX9_init_228 rfl ?_
  refine q_newarr 16 1360 233 1 32 98 25733648 rfl dX9_init_231 rfl (Nat.le_of_ble_eq_true rfl) (Nat.le_of_ble_eq_true rfl) ac_16 (by decide) (by decide) (Nat.le_of_ble_eq_true rfl) (Nat.le_of_ble_eq_true rfl) (Nat.le_of_ble_eq_true rfl) (hn_e hσ rfl) rfl ?_
  refine p_putR 9 60 236 rfl dX9_init_233 fl_X9_96 rfl rfl (by decide) (Or.inr ⟨rfl, rfl, rfl⟩) (e_pr ?_)
  refine p_aload_n 0 237 rfl rfl dX9_init_236 rfl ?_
  refine p_bipush (32) 239 rfl dX9_init_237 rfl ?_
  refine q_newarr 16 32 241 0 0 99 25953296 rfl dX9_init_239 rfl (Nat.le_of_ble_eq_true rfl) (Nat.le_of_ble_eq_true rfl) ac_16 (by decide) (by decide) (Nat.le_of_ble_eq_true rfl) (Nat.le_of_ble_eq_true rfl) (Nat.le_of_ble_eq_true rfl) (hn_e hσ rfl) rfl ?_
  refine p_putR 9 61 244 rfl dX9_init_241 fl_X9_99 rfl rfl (by decide) (Or.inr ⟨rfl, rfl, rfl⟩) (e_pr ?_)
  exact p_vret dX9_init_244 rfl ⟨rfl, rfl⟩
end Cb1
