/-! ===== puts, arrays ===== -/
theorem put_o {σ σ' : PH} {r' : Nat} (a : hI σ' r' = hI σ r') (b : hJ σ' r' = hJ σ r') (c : hR σ' r' = hR σ r') (d : hA σ' r' = hA σ r') (e : hL σ' r' = hL σ r') (cy : Nat → ClassId) (ρ : Nat → Nat) : cE cy ρ σ' r' = cE cy ρ σ r' ∧ ∀ c j, fvc σ' c r' j = fvc σ c r' j := by
  have h : ∀ c j, fvc σ' c r' j = fvc σ c r' j := fun cc j => by simp only [fvc, a, b, c]
  refine ⟨?_, h⟩
  simp [cE, h, d, e]
theorem va_upo {α : Type} {f : Nat → α} {k j : Nat} {v : α} (h : j ≠ k) : va_up f k v j = f j := by simp [va_up, h]
theorem va_ups {α : Type} {f : Nat → α} {k : Nat} {v : α} : va_up f k v k = v := by simp [va_up]
theorem sI_o {σ : PH} {r k r' : Nat} {x : Int32} (h : r' ≠ r) : hI (sI σ r k x) r' = hI σ r' := by
  show va_up (hI σ) r _ r' = _
  exact va_upo h
theorem sJ_o {σ : PH} {r k r' : Nat} {x : Int64} (h : r' ≠ r) : hJ (sJ σ r k x) r' = hJ σ r' := by
  show va_up (hJ σ) r _ r' = _
  exact va_upo h
theorem sR_o {σ : PH} {r k r' x : Nat} (h : r' ≠ r) : hR (sR σ r k x) r' = hR σ r' := by
  show va_up (hR σ) r _ r' = _
  exact va_upo h
theorem sF_o {σ : PH} {r r' : Nat} {f : Nat → Int32} (h : r' ≠ r) : hA (sF σ r f) r' = hA σ r' := by
  show va_up (hA σ) r _ r' = _
  exact va_upo h
theorem sG_o {σ : PH} {r r' : Nat} {f : Nat → Int64} (h : r' ≠ r) : hL (sG σ r f) r' = hL σ r' := by
  show va_up (hL σ) r _ r' = _
  exact va_upo h
section PRI
variable {Γ : Gm} {d mc ms : Nat} {mi : MI} {pc : Nat} {L : List (Option Value)} {st : List Value} {σ : PH} {Q : PO → PH → Prop}
theorem p_putI {idx r : Nat} {x : Int32} (c k q : Nat) (hq : pc + 3 = q) (hd : decode (mC mi) pc = .ok (.putfield idx, 3)) (hf : FL (mO mi) idx c k) (hk : kd r = c) (ht : ft c k = .int)
    (hfin : (TT c k).2.2.2 = false ∨ ((TT c k).2.2.2 = true ∧ mN mi = "<init>" ∧ (TT c k).1 = mO mi)) (kk : Ok Γ d mc ms mi q L st (sI σ r k x) Q) : Ok Γ d mc ms mi pc L (.int x :: .ref r :: st) σ Q := by
  have hI0 : isI c k = true := by simp [isI, ht, isR, isJ]
  refine p_putG (σ' := sI σ r k x) q hq hd hf hk hfin (fun ρ => by rw [ht]; exact ⟨rfl, rfl⟩) (fun cy ρ r' h => put_o (sI_o h) rfl rfl rfl rfl cy ρ) (fun j hj => ?_) rfl kk
  by_cases hjk : j = k
  · subst hjk
    rw [if_pos rfl, fvc_I hI0]
    show Value.int (va_up (hI σ) r (va_up (hI σ r) j x) r j) = _
    rw [va_ups, va_ups]
  · rw [if_neg hjk]
    have : hI (sI σ r k x) r j = hI σ r j := by
      show va_up (hI σ) r (va_up (hI σ r) k x) r j = _
      rw [va_ups, va_upo hjk]
    unfold fvc
    rw [this]; rfl
theorem p_putZ {idx r : Nat} {x : Int32} (c k q : Nat) (hq : pc + 3 = q) (hd : decode (mC mi) pc = .ok (.putfield idx, 3)) (hf : FL (mO mi) idx c k) (hk : kd r = c) (ht : ft c k = .boolean) (hx : x = 0 ∨ x = 1)
    (hfin : (TT c k).2.2.2 = false ∨ ((TT c k).2.2.2 = true ∧ mN mi = "<init>" ∧ (TT c k).1 = mO mi)) (kk : Ok Γ d mc ms mi q L st (sI σ r k x) Q) : Ok Γ d mc ms mi pc L (.int x :: .ref r :: st) σ Q := by
  have hI0 : isI c k = true := by simp [isI, ht, isR, isJ]
  refine p_putG (σ' := sI σ r k x) q hq hd hf hk hfin (fun ρ => by rw [ht]; rcases hx with rfl | rfl <;> exact ⟨rfl, rfl⟩) (fun cy ρ r' h => put_o (sI_o h) rfl rfl rfl rfl cy ρ) (fun j hj => ?_) rfl kk
  by_cases hjk : j = k
  · subst hjk
    rw [if_pos rfl, fvc_I hI0]
    show Value.int (va_up (hI σ) r (va_up (hI σ r) j x) r j) = _
    rw [va_ups, va_ups]
  · rw [if_neg hjk]
    have : hI (sI σ r k x) r j = hI σ r j := by
      show va_up (hI σ) r (va_up (hI σ r) k x) r j = _
      rw [va_ups, va_upo hjk]
    unfold fvc
    rw [this]; rfl
theorem p_putJ {idx r : Nat} {x : Int64} (c k q : Nat) (hq : pc + 3 = q) (hd : decode (mC mi) pc = .ok (.putfield idx, 3)) (hf : FL (mO mi) idx c k) (hk : kd r = c) (ht : ft c k = .long)
    (hfin : (TT c k).2.2.2 = false ∨ ((TT c k).2.2.2 = true ∧ mN mi = "<init>" ∧ (TT c k).1 = mO mi)) (kk : Ok Γ d mc ms mi q L st (sJ σ r k x) Q) : Ok Γ d mc ms mi pc L (.long x :: .ref r :: st) σ Q := by
  refine p_putG (σ' := sJ σ r k x) q hq hd hf hk hfin (fun ρ => by rw [ht]; exact ⟨rfl, rfl⟩) (fun cy ρ r' h => put_o (σ := σ) (σ' := sJ σ r k x) rfl (sJ_o h) rfl rfl rfl cy ρ) (fun j hj => ?_) rfl kk
  by_cases hjk : j = k
  · subst hjk
    rw [if_pos rfl, fvc_J (by rw [ht]; rfl)]
    show Value.long (va_up (hJ σ) r (va_up (hJ σ r) j x) r j) = _
    rw [va_ups, va_ups]
  · rw [if_neg hjk]
    have : hJ (sJ σ r k x) r j = hJ σ r j := by
      show va_up (hJ σ) r (va_up (hJ σ r) k x) r j = _
      rw [va_ups, va_upo hjk]
    unfold fvc
    rw [this]; rfl
theorem p_putR {idx r x : Nat} (c k q : Nat) (hq : pc + 3 = q) (hd : decode (mC mi) pc = .ok (.putfield idx, 3)) (hf : FL (mO mi) idx c k) (hk : kd r = c) (ht : isR (ft c k) = true) (h0 : x ≠ 0)
    (hfin : (TT c k).2.2.2 = false ∨ ((TT c k).2.2.2 = true ∧ mN mi = "<init>" ∧ (TT c k).1 = mO mi)) (kk : Ok Γ d mc ms mi q L st (sR σ r k x) Q) : Ok Γ d mc ms mi pc L (.ref x :: .ref r :: st) σ Q := by
  refine p_putG (σ' := sR σ r k x) q hq hd hf hk hfin (fun ρ => by cases hty : ft c k <;> simp_all [isR] <;> exact ⟨rfl, rfl⟩) (fun cy ρ r' h => put_o (σ := σ) (σ' := sR σ r k x) rfl rfl (sR_o h) rfl rfl cy ρ) (fun j hj => ?_) rfl kk
  by_cases hjk : j = k
  · subst hjk
    rw [if_pos rfl, fvc_R ht]
    show vref (va_up (hR σ) r (va_up (hR σ r) j x) r j) = _
    rw [va_ups, va_ups, vref, if_neg h0]
  · rw [if_neg hjk]
    have : hR (sR σ r k x) r j = hR σ r j := by
      show va_up (hR σ) r (va_up (hR σ r) k x) r j = _
      rw [va_ups, va_upo hjk]
    unfold fvc
    rw [this]; rfl
theorem p_iald {r : Nat} {i : Int32} (q : Nat) (hq : pc + 1 = q) (hd : decode (mC mi) pc = .ok (.iaload, 1)) (hk : kd r = 16) (hin : vp_in i (ln r)) (kk : Ok Γ d mc ms mi q L (.int (hA σ r i.toNatClampNeg) :: st) σ Q) : Ok Γ d mc ms mi pc L (.int i :: .ref r :: st) σ Q := by
  subst hq
  intro p e R s m args below meth c' H locs cells slots ls ρ al ρ0 al0 MC MS C hH hS hl hst hE a1 a2 a3 a4
  obtain ⟨j, hj, he⟩ := hw_get (cy := gc Γ) (ρ := ρ) (σ := σ) (live_al (lhd (ltl hst)) (by omega))
  rw [cE_arr hk (by omega) (by omega)] at he
  exact va_iald C.1 C.2.1 C.2.2.2.2.2.2.2.2.2.2.1 hH.1 j 0 he rfl hin hd (kk p e R s m args below meth c' H locs cells slots ls ρ al ρ0 al0 MC MS C hH hS hl (lcs (lv_i _ _) (ltl (ltl hst))) hE a1 a2 a3 a4)
theorem p_bald {r : Nat} {i : Int32} (q : Nat) (hq : pc + 1 = q) (hd : decode (mC mi) pc = .ok (.baload, 1)) (hk : kd r = 17) (hin : vp_in i (ln r)) (kk : Ok Γ d mc ms mi q L (.int (hA σ r i.toNatClampNeg) :: st) σ Q) : Ok Γ d mc ms mi pc L (.int i :: .ref r :: st) σ Q := by
  subst hq
  intro p e R s m args below meth c' H locs cells slots ls ρ al ρ0 al0 MC MS C hH hS hl hst hE a1 a2 a3 a4
  obtain ⟨j, hj, he⟩ := hw_get (cy := gc Γ) (ρ := ρ) (σ := σ) (live_al (lhd (ltl hst)) (by omega))
  rw [cE_arr hk (by omega) (by omega)] at he
  exact va_bald C.1 C.2.1 C.2.2.2.2.2.2.2.2.2.2.1 hH.1 j 1 he rfl hin hd (kk p e R s m args below meth c' H locs cells slots ls ρ al ρ0 al0 MC MS C hH hS hl (lcs (lv_i _ _) (ltl (ltl hst))) hE a1 a2 a3 a4)
theorem p_zald {r : Nat} {i : Int32} (q : Nat) (hq : pc + 1 = q) (hd : decode (mC mi) pc = .ok (.baload, 1)) (hk : kd r = 18) (hin : vp_in i (ln r)) (kk : Ok Γ d mc ms mi q L (.int (hA σ r i.toNatClampNeg) :: st) σ Q) : Ok Γ d mc ms mi pc L (.int i :: .ref r :: st) σ Q := by
  subst hq
  intro p e R s m args below meth c' H locs cells slots ls ρ al ρ0 al0 MC MS C hH hS hl hst hE a1 a2 a3 a4
  obtain ⟨j, hj, he⟩ := hw_get (cy := gc Γ) (ρ := ρ) (σ := σ) (live_al (lhd (ltl hst)) (by omega))
  rw [cE_arr hk (by omega) (by omega)] at he
  exact va_zald C.1 C.2.1 C.2.2.2.2.2.2.2.2.2.2.1 hH.1 j 2 he rfl hin hd (kk p e R s m args below meth c' H locs cells slots ls ρ al ρ0 al0 MC MS C hH hS hl (lcs (lv_i _ _) (ltl (ltl hst))) hE a1 a2 a3 a4)
theorem p_lald {r : Nat} {i : Int32} (q : Nat) (hq : pc + 1 = q) (hd : decode (mC mi) pc = .ok (.laload, 1)) (hk : kd r = 19) (hin : vp_in i (ln r)) (kk : Ok Γ d mc ms mi q L (.long (hL σ r i.toNatClampNeg) :: st) σ Q) : Ok Γ d mc ms mi pc L (.int i :: .ref r :: st) σ Q := by
  subst hq
  intro p e R s m args below meth c' H locs cells slots ls ρ al ρ0 al0 MC MS C hH hS hl hst hE a1 a2 a3 a4
  obtain ⟨j, hj, he⟩ := hw_get (cy := gc Γ) (ρ := ρ) (σ := σ) (live_al (lhd (ltl hst)) (by omega))
  rw [cE_lng hk] at he
  exact va_lald C.1 C.2.1 C.2.2.2.2.2.2.2.2.2.2.1 hH.1 j 3 he rfl hin hd (kk p e R s m args below meth c' H locs cells slots ls ρ al ρ0 al0 MC MS C hH hS hl (lcs (lv_l _ _) (ltl (ltl hst))) hE a1 a2 a3 a4)
theorem p_alen {r : Nat} (q : Nat) (hq : pc + 1 = q) (hd : decode (mC mi) pc = .ok (.arraylength, 1)) (hk : kd r = 16 ∨ kd r = 17) (kk : Ok Γ d mc ms mi q L (.int (Int32.ofNat (ln r)) :: st) σ Q) : Ok Γ d mc ms mi pc L (.ref r :: st) σ Q := by
  subst hq
  intro p e R s m args below meth c' H locs cells slots ls ρ al ρ0 al0 MC MS C hH hS hl hst hE a1 a2 a3 a4
  obtain ⟨j, hj, he⟩ := hw_get (cy := gc Γ) (ρ := ρ) (σ := σ) (live_al (lhd hst) (by omega))
  have go := kk p e R s m args below meth c' H locs cells slots ls ρ al ρ0 al0 MC MS C hH hS hl (lcs (lv_i _ _) (ltl hst)) hE a1 a2 a3 a4
  rcases hk with hk | hk
  · rw [cE_arr hk (by omega) (by omega)] at he
    exact va_alen C.1 C.2.1 C.2.2.2.2.2.2.2.2.2.2.1 hH.1 j 0 he rfl rfl hd go
  · rw [cE_arr hk (by omega) (by omega)] at he
    exact va_alen C.1 C.2.1 C.2.2.2.2.2.2.2.2.2.2.1 hH.1 j 1 he rfl rfl hd go
/-- an array changed -/
theorem HR.arr {ρ : Nat → Nat} {al : List Nat} {H1 : Heap} {r j : Nat} {f : Nat → Int32} {H : Heap} (hH : HR Γ ρ al σ H) (hj : al[j]? = some r) (h1 : 16 ≤ kd r) (h2 : kd r < 19)
    (g1 : va_P (gD Γ) vwCl ((hw (gc Γ) ρ al σ).set j (ρ r, .inl (gc Γ (kd r), ln r, .inl f))) H1) (g2 : va_D (fA Γ) ((hw (gc Γ) ρ al σ).set j (ρ r, .inl (gc Γ (kd r), ln r, .inl f)))) : HR Γ ρ al (sF σ r f) H1 := by
  have e : (Sum.inl (gc Γ (kd r), ln r, .inl f) : va_E) = cE (gc Γ) ρ (sF σ r f) r := by
    rw [cE_arr rfl h1 h2]
    rw [show hA (sF σ r f) r = f from va_ups]
  have ho : ∀ r', r' ≠ r → ∀ c j, fvc (sF σ r f) c r' j = fvc σ c r' j := fun r' _ c j => rfl
  rw [e, hw_set hH.2.2.1 hj (fun r' _ hne => (put_o (σ := σ) (σ' := sF σ r f) rfl rfl rfl (sF_o hne) rfl _ _).1)] at g1 g2
  exact ⟨g1, g2, hH.2.2.1, hH.2.2.2.1, fun r' hm hk' i hi => hH.2.2.2.2.1 r' hm hk' i hi, hH.2.2.2.2.2⟩
theorem HR.lng {ρ : Nat → Nat} {al : List Nat} {H1 : Heap} {r j : Nat} {f : Nat → Int64} {H : Heap} (hH : HR Γ ρ al σ H) (hj : al[j]? = some r) (h1 : kd r = 19)
    (g1 : va_P (gD Γ) vwCl ((hw (gc Γ) ρ al σ).set j (ρ r, .inl (gc Γ 19, ln r, .inr (.inl f)))) H1) (g2 : va_D (fA Γ) ((hw (gc Γ) ρ al σ).set j (ρ r, .inl (gc Γ 19, ln r, .inr (.inl f))))) : HR Γ ρ al (sG σ r f) H1 := by
  have e : (Sum.inl (gc Γ 19, ln r, .inr (.inl f)) : va_E) = cE (gc Γ) ρ (sG σ r f) r := by
    rw [cE_lng h1]
    rw [show hL (sG σ r f) r = f from va_ups]
  rw [e, hw_set hH.2.2.1 hj (fun r' _ hne => (put_o (σ := σ) (σ' := sG σ r f) rfl rfl rfl rfl (sG_o hne) _ _).1)] at g1 g2
  exact ⟨g1, g2, hH.2.2.1, hH.2.2.2.1, fun r' hm hk' i hi => hH.2.2.2.2.1 r' hm hk' i hi, hH.2.2.2.2.2⟩
theorem p_iast {r : Nat} {i x : Int32} (q : Nat) (hq : pc + 1 = q) (hd : decode (mC mi) pc = .ok (.iastore, 1)) (hk : kd r = 16) (hin : vp_in i (ln r)) (kk : Ok Γ d mc ms mi q L st (sA σ r i.toNatClampNeg x) Q) : Ok Γ d mc ms mi pc L (.int x :: .int i :: .ref r :: st) σ Q := by
  subst hq
  intro p e R s m args below meth c' H locs cells slots ls ρ al ρ0 al0 MC MS C hH hS hl hst hE a1 a2 a3 a4
  obtain ⟨j, hj, he⟩ := hw_get (cy := gc Γ) (ρ := ρ) (σ := σ) (live_al (lhd (ltl (ltl hst))) (by omega))
  rw [cE_arr hk (by omega) (by omega)] at he
  exact va_iast C.1 C.2.1 C.2.2.2.2.2.2.2.2.2.2.1 hH.1 hH.2.1 hS j 0 he rfl hin hd (fun H1 locs1 g1 g2 g3 => kk p e R s m args below meth c' H1 locs1 cells slots ls ρ al ρ0 al0 MC MS C (hH.arr hj (by omega) (by omega) (by rw [hk]; exact g1) (by rw [hk]; exact g2)) g3 hl (ltl (ltl (ltl hst))) hE a1 a2 a3 a4)
theorem p_bast {r : Nat} {i x : Int32} (q : Nat) (hq : pc + 1 = q) (hd : decode (mC mi) pc = .ok (.bastore, 1)) (hk : kd r = 17) (hin : vp_in i (ln r)) (kk : Ok Γ d mc ms mi q L st (sA σ r i.toNatClampNeg x.toInt8.toInt32) Q) : Ok Γ d mc ms mi pc L (.int x :: .int i :: .ref r :: st) σ Q := by
  subst hq
  intro p e R s m args below meth c' H locs cells slots ls ρ al ρ0 al0 MC MS C hH hS hl hst hE a1 a2 a3 a4
  obtain ⟨j, hj, he⟩ := hw_get (cy := gc Γ) (ρ := ρ) (σ := σ) (live_al (lhd (ltl (ltl hst))) (by omega))
  rw [cE_arr hk (by omega) (by omega)] at he
  refine va_bast C.1 C.2.1 C.2.2.2.2.2.2.2.2.2.2.1 hH.1 hH.2.1 hS j 1 he rfl hin hd (fun H1 locs1 g1 g2 g3 => ?_)
  rw [vp_nar_byte] at g1 g2
  exact kk p e R s m args below meth c' H1 locs1 cells slots ls ρ al ρ0 al0 MC MS C (hH.arr hj (by omega) (by omega) (by rw [hk]; exact g1) (by rw [hk]; exact g2)) g3 hl (ltl (ltl (ltl hst))) hE a1 a2 a3 a4
theorem p_zast {r : Nat} {i x : Int32} (q : Nat) (hq : pc + 1 = q) (hd : decode (mC mi) pc = .ok (.bastore, 1)) (hk : kd r = 18) (hin : vp_in i (ln r)) (hx : x = 0 ∨ x = 1) (kk : Ok Γ d mc ms mi q L st (sA σ r i.toNatClampNeg x) Q) : Ok Γ d mc ms mi pc L (.int x :: .int i :: .ref r :: st) σ Q := by
  subst hq
  intro p e R s m args below meth c' H locs cells slots ls ρ al ρ0 al0 MC MS C hH hS hl hst hE a1 a2 a3 a4
  obtain ⟨j, hj, he⟩ := hw_get (cy := gc Γ) (ρ := ρ) (σ := σ) (live_al (lhd (ltl (ltl hst))) (by omega))
  rw [cE_arr hk (by omega) (by omega)] at he
  refine va_zast C.1 C.2.1 C.2.2.2.2.2.2.2.2.2.2.1 hH.1 hH.2.1 hS j 2 he rfl hin hd (fun H1 locs1 g1 g2 g3 => ?_)
  have hnx : vp_nar .boolean x = x := by rcases hx with rfl | rfl <;> rfl
  rw [hnx] at g1 g2
  exact kk p e R s m args below meth c' H1 locs1 cells slots ls ρ al ρ0 al0 MC MS C (hH.arr hj (by omega) (by omega) (by rw [hk]; exact g1) (by rw [hk]; exact g2)) g3 hl (ltl (ltl (ltl hst))) hE a1 a2 a3 a4
theorem p_last {r : Nat} {i : Int32} {x : Int64} (q : Nat) (hq : pc + 1 = q) (hd : decode (mC mi) pc = .ok (.lastore, 1)) (hk : kd r = 19) (hin : vp_in i (ln r)) (kk : Ok Γ d mc ms mi q L st (sL σ r i.toNatClampNeg x) Q) : Ok Γ d mc ms mi pc L (.long x :: .int i :: .ref r :: st) σ Q := by
  subst hq
  intro p e R s m args below meth c' H locs cells slots ls ρ al ρ0 al0 MC MS C hH hS hl hst hE a1 a2 a3 a4
  obtain ⟨j, hj, he⟩ := hw_get (cy := gc Γ) (ρ := ρ) (σ := σ) (live_al (lhd (ltl (ltl hst))) (by omega))
  rw [cE_lng hk] at he
  exact va_last C.1 C.2.1 C.2.2.2.2.2.2.2.2.2.2.1 hH.1 hH.2.1 hS j 3 he rfl hin hd (fun H1 locs1 g1 g2 g3 => kk p e R s m args below meth c' H1 locs1 cells slots ls ρ al ρ0 al0 MC MS C (hH.lng hj hk g1 g2) g3 hl (ltl (ltl (ltl hst))) hE a1 a2 a3 a4)
end PRI
