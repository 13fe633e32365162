/-! ===== rows of the pure machine: fields, arrays, new ===== -/
def RR (c : Nat) : String := [RX0, RX1, RX2, RX3, RX4, RX5, RX6, RX7, RX8, RX9].getD c RX0
def TT (c : Nat) : u_T := [TX0, TX1, TX2, TX3, TX4, TX5, TX6, TX7, TX8, TX9].getD c TX0
theorem vwCl_at : ∀ c, c < 10 → vwCl[c]? = some (RR c, TT c, nf c)
  | 0, _ => rfl | 1, _ => rfl | 2, _ => rfl | 3, _ => rfl | 4, _ => rfl | 5, _ => rfl | 6, _ => rfl | 7, _ => rfl | 8, _ => rfl | 9, _ => rfl
  | _ + 10, h => absurd h (by omega)
theorem ft_ok : ∀ c, c < 10 → ∀ k, k < nf c → parseFieldDescriptor (TT c k).2.2.1 = some (ft c k)
  | 0, _ => tyX0_ok | 1, _ => tyX1_ok | 2, _ => tyX2_ok | 3, _ => tyX3_ok | 4, _ => tyX4_ok | 5, _ => tyX5_ok | 6, _ => tyX6_ok | 7, _ => tyX7_ok | 8, _ => tyX8_ok | 9, _ => tyX9_ok
  | _ + 10, h => absurd h (by omega)
theorem nm_ok : ∀ c, c < 10 → ∀ a, a < nf c → ∀ b, b < nf c → a ≠ b → (TT c a).2.1 ≠ (TT c b).2.1
  | 0, _ => nmX0 | 1, _ => nmX1 | 2, _ => nmX2 | 3, _ => nmX3 | 4, _ => nmX4 | 5, _ => nmX5 | 6, _ => nmX6 | 7, _ => nmX7 | 8, _ => nmX8 | 9, _ => nmX9
  | _ + 10, h => absurd h (by omega)
def ok_ws (c : Nat) : Bool := (u_ws (RR c) (TT c) (nf c)).all (fun w => decide (w ∈ lw_tbl) && goodWord w)
theorem ok_ws0 : ok_ws 0 = true := by decide +kernel
theorem ok_ws1 : ok_ws 1 = true := by decide +kernel
theorem ok_ws2 : ok_ws 2 = true := by decide +kernel
theorem ok_ws3 : ok_ws 3 = true := by decide +kernel
theorem ok_ws4 : ok_ws 4 = true := by decide +kernel
theorem ok_ws5 : ok_ws 5 = true := by decide +kernel
theorem ok_ws6 : ok_ws 6 = true := by decide +kernel
theorem ok_ws7 : ok_ws 7 = true := by decide +kernel
theorem ok_ws8 : ok_ws 8 = true := by decide +kernel
theorem ok_ws9 : ok_ws 9 = true := by decide +kernel
theorem ws_ok (c : Nat) (h : c < 10) : ∀ w ∈ u_ws (RR c) (TT c) (nf c), w ∈ TB := by
  have e : ok_ws c = true := match c, h with
    | 0, _ => ok_ws0 | 1, _ => ok_ws1 | 2, _ => ok_ws2 | 3, _ => ok_ws3 | 4, _ => ok_ws4 | 5, _ => ok_ws5 | 6, _ => ok_ws6 | 7, _ => ok_ws7 | 8, _ => ok_ws8 | 9, _ => ok_ws9
    | _ + 10, h => absurd h (by omega)
  intro w hw
  have h1 := List.all_eq_true.mp e w hw
  simp only [Bool.and_eq_true, decide_eq_true_eq] at h1
  exact TB_in h1.1 h1.2
/-- a field by its place in an own pool -/
def FL (own : String) (idx c k : Nat) : Prop := c < 10 ∧ k < nf c ∧ Cond.fieldLink own idx (TT c k).1 (TT c k).2.1 (TT c k).2.2.1 ∈ TB
theorem hw_get {cy : Nat → ClassId} {ρ : Nat → Nat} {al : List Nat} {σ : PH} {r : Nat} (h : r ∈ al) : ∃ k : Nat, al[k]? = some r ∧ (hw cy ρ al σ)[k]? = some (ρ r, cE cy ρ σ r) := by
  obtain ⟨k, hk⟩ := List.mem_iff_getElem?.mp h
  exact ⟨k, hk, by simp [hw, hk]⟩
theorem hw_set {cy : Nat → ClassId} {ρ : Nat → Nat} {al : List Nat} {σ σ' : PH} {r k : Nat} (hN : al.Nodup) (hk : al[k]? = some r) (ho : ∀ r', r' ∈ al → r' ≠ r → cE cy ρ σ' r' = cE cy ρ σ r') : (hw cy ρ al σ).set k (ρ r, cE cy ρ σ' r) = hw cy ρ al σ' := by
  apply List.ext_getElem?
  intro j
  by_cases hj : j = k
  · subst hj
    have hlt : j < al.length := (List.getElem?_eq_some_iff.mp hk).1
    rw [List.getElem?_set_self (by simpa [hw] using hlt)]
    simp [hw, hk]
  · rw [List.getElem?_set_ne (Ne.symm hj)]
    simp only [hw, List.getElem?_map]
    cases hr : al[j]? with
    | none => rfl
    | some r' =>
      have hne : r' ≠ r := fun e => hj (by
        subst e
        exact (List.getElem?_inj (List.getElem?_eq_some_iff.mp hr).1 hN).mp (hr.trans hk.symm))
      simp only [Option.map_some]
      rw [ho r' (List.mem_of_getElem? hr) hne]
theorem cE_obj {cy : Nat → ClassId} {ρ : Nat → Nat} {σ : PH} {r c : Nat} (h : kd r = c) (hc : c < 10) : cE cy ρ σ r = .inr (c, (List.range (nf c)).map (fun k => cv ρ (fvc σ c r k))) := by
  subst h; simp [cE, hc]
theorem cE_arr {cy : Nat → ClassId} {ρ : Nat → Nat} {σ : PH} {r c : Nat} (h : kd r = c) (h1 : 16 ≤ c) (h2 : c < 19) : cE cy ρ σ r = .inl (cy c, ln r, .inl (hA σ r)) := by
  subst h; simp [cE, show ¬ kd r < 10 by omega, show ¬ kd r = 19 by omega]
theorem cE_lng {cy : Nat → ClassId} {ρ : Nat → Nat} {σ : PH} {r : Nat} (h : kd r = 19) : cE cy ρ σ r = .inl (cy 19, ln r, .inr (.inl (hL σ r))) := by
  simp [cE, h]
theorem live_al {al : List Nat} {r : Nat} (h : lvv al (.ref r)) (hk : kd r < 26) : r ∈ al := by
  rcases h r rfl with h | h
  · exact h
  · omega
theorem fs_at {σ : PH} {ρ : Nat → Nat} {c r k : Nat} (hk : k < nf c) : ((List.range (nf c)).map (fun k => cv ρ (fvc σ c r k)))[k]? = some (cv ρ (fvc σ c r k)) := by
  simp [hk]
section PRH
variable {Γ : Gm} {d mc ms : Nat} {mi : MI} {pc : Nat} {L : List (Option Value)} {st : List Value} {σ : PH} {Q : PO → PH → Prop}
theorem p_getG {idx c k r : Nat} (q : Nat) (hq : pc + 3 = q) (hd : decode (mC mi) pc = .ok (.getfield idx, 3)) (hf : FL (mO mi) idx c k) (hk : kd r = c) (kk : Ok Γ d mc ms mi q L (fvc σ c r k :: st) σ Q) : Ok Γ d mc ms mi pc L (.ref r :: st) σ Q := by
  subst hq
  intro p e R s m args below meth c' H locs cells slots ls ρ al ρ0 al0 MC MS C hH hS hl hst hE a1 a2 a3 a4
  obtain ⟨f1, f2, f3⟩ := hf
  have hr : r ∈ al := live_al (lhd hst) (by omega)
  obtain ⟨j, hj, he⟩ := hw_get (cy := gc Γ) (ρ := ρ) (σ := σ) hr
  rw [cE_obj hk f1] at he
  refine va_get (Ts := TB) C.1 C.2.1 C.2.2.2.2.2.1 (ws_ok c f1) C.2.2.2.2.1 C.2.2.2.2.2.2.2.2.2.2.1 hH.1 j he (vwCl_at c f1) k f2 (C.2.2.2.2.2.1 _ f3) (fun _ h => h) (fs_at f2) hd ?_
  have hlv : lvv al (fvc σ c r k) := by
    have := hH.2.2.2.2.1 r hr (by omega) k (by rw [hk]; exact f2)
    rw [hk] at this; exact this
  exact kk p e R s m args below meth c' H locs cells slots ls ρ al ρ0 al0 MC MS C hH hS hl (lcs hlv (ltl hst)) hE a1 a2 a3 a4
def isI (c k : Nat) : Bool := !isR (ft c k) && !isJ (ft c k)
theorem fvc_I {σ : PH} {c r k : Nat} (h : isI c k = true) : fvc σ c r k = .int (hI σ r k) := by
  simp only [isI, Bool.and_eq_true, Bool.not_eq_true'] at h
  simp [fvc, h.1, h.2]
theorem fvc_R {σ : PH} {c r k : Nat} (h : isR (ft c k) = true) : fvc σ c r k = vref (hR σ r k) := by simp [fvc, h]
theorem fvc_J {σ : PH} {c r k : Nat} (h : isJ (ft c k) = true) : fvc σ c r k = .long (hJ σ r k) := by
  have : isR (ft c k) = false := by
    cases hh : ft c k <;> simp_all [isR, isJ]
  simp [fvc, h, this]
theorem p_getI {idx r : Nat} (c k q : Nat) (hq : pc + 3 = q) (hd : decode (mC mi) pc = .ok (.getfield idx, 3)) (hf : FL (mO mi) idx c k) (hk : kd r = c) (ht : isI c k = true) (kk : Ok Γ d mc ms mi q L (.int (hI σ r k) :: st) σ Q) : Ok Γ d mc ms mi pc L (.ref r :: st) σ Q :=
  p_getG q hq hd hf hk (by rw [fvc_I ht]; exact kk)
theorem p_getJ {idx r : Nat} (c k q : Nat) (hq : pc + 3 = q) (hd : decode (mC mi) pc = .ok (.getfield idx, 3)) (hf : FL (mO mi) idx c k) (hk : kd r = c) (ht : isJ (ft c k) = true) (kk : Ok Γ d mc ms mi q L (.long (hJ σ r k) :: st) σ Q) : Ok Γ d mc ms mi pc L (.ref r :: st) σ Q :=
  p_getG q hq hd hf hk (by rw [fvc_J ht]; exact kk)
theorem p_getR {idx r r' : Nat} (c k q : Nat) (hq : pc + 3 = q) (hd : decode (mC mi) pc = .ok (.getfield idx, 3)) (hf : FL (mO mi) idx c k) (hk : kd r = c) (ht : isR (ft c k) = true) (hr : hR σ r k = r') (h0 : r' ≠ 0) (kk : Ok Γ d mc ms mi q L (.ref r' :: st) σ Q) : Ok Γ d mc ms mi pc L (.ref r :: st) σ Q :=
  p_getG q hq hd hf hk (by rw [fvc_R ht, hr, vref, if_neg h0]; exact kk)
/-- what a put leaves: the heap with the value at its place -/
theorem p_putG {idx c k r : Nat} {v : Value} {σ' : PH} (q : Nat) (hq : pc + 3 = q) (hd : decode (mC mi) pc = .ok (.putfield idx, 3)) (hf : FL (mO mi) idx c k) (hk : kd r = c)
    (hfin : (TT c k).2.2.2 = false ∨ ((TT c k).2.2.2 = true ∧ mN mi = "<init>" ∧ (TT c k).1 = mO mi)) (hv : ∀ ρ : Nat → Nat, narrow (ft c k) (cv ρ v) = cv ρ v ∧ fits (ft c k) (cv ρ v) = true)
    (h1 : ∀ (cy : Nat → ClassId) (ρ : Nat → Nat) (r' : Nat), r' ≠ r → cE cy ρ σ' r' = cE cy ρ σ r' ∧ ∀ c j, fvc σ' c r' j = fvc σ c r' j) (h2 : ∀ j, j < nf c → fvc σ' c r j = if j = k then v else fvc σ c r j) (h3 : hn σ' = hn σ)
    (kk : Ok Γ d mc ms mi q L st σ' Q) : Ok Γ d mc ms mi pc L (v :: .ref r :: st) σ Q := by
  subst hq
  intro p e R s m args below meth c' H locs cells slots ls ρ al ρ0 al0 MC MS C hH hS hl hst hE a1 a2 a3 a4
  obtain ⟨f1, f2, f3⟩ := hf
  have hr : r ∈ al := live_al (lhd (ltl hst)) (by omega)
  obtain ⟨j, hj, he⟩ := hw_get (cy := gc Γ) (ρ := ρ) (σ := σ) hr
  rw [cE_obj hk f1] at he
  have hset : ((List.range (nf c)).map (fun k => cv ρ (fvc σ c r k))).set k (cv ρ v) = (List.range (nf c)).map (fun k => cv ρ (fvc σ' c r k)) := by
    apply List.ext_getElem?
    intro i
    by_cases hi : i = k
    · subst hi
      rw [List.getElem?_set_self (by simpa using f2)]
      simp [f2, h2 i f2]
    · rw [List.getElem?_set_ne (Ne.symm hi)]
      by_cases hin : i < nf c
      · simp [hin, h2 i hin, hi]
      · simp [hin]
  have hend : ∀ (H1 : Heap) (locs1 : List Loc), va_P (gD Γ) vwCl ((hw (gc Γ) ρ al σ).set j (ρ r, .inr (c, ((List.range (nf c)).map (fun k => cv ρ (fvc σ c r k))).set k (cv ρ v)))) H1 → va_D (fA Γ) ((hw (gc Γ) ρ al σ).set j (ρ r, .inr (c, ((List.range (nf c)).map (fun k => cv ρ (fvc σ c r k))).set k (cv ρ v)))) → va_S (fA Γ) s.heap H1 locs1 →
      W p (gl Γ) e R s m args below meth c' H1 locs1 cells slots (vx_MQ below (QR Γ ρ0 al0 Q) (QX Γ ρ0 al0 Q) args s MC MS (fA Γ)) (F0 m (pc + 3) ls (st.map (cv ρ))) := by
    intro H1 locs1 g1 g2 g3
    rw [hset, ← cE_obj (cy := gc Γ) hk f1, hw_set hH.2.2.1 hj (fun r' _ hne => (h1 _ _ r' hne).1)] at g1 g2
    refine kk p e R s m args below meth c' H1 locs1 cells slots ls ρ al ρ0 al0 MC MS C ⟨g1, g2, hH.2.2.1, fun r' h => by rw [h3]; exact hH.2.2.2.1 r' h, fun r' hm hk' i hi => ?_, hH.2.2.2.2.2⟩ g3 hl (ltl (ltl hst)) hE a1 a2 a3 a4
    by_cases hrr : r' = r
    · subst hrr
      rw [hk] at hi ⊢
      rw [h2 i hi]
      by_cases hik : i = k
      · rw [if_pos hik]; exact lhd hst
      · rw [if_neg hik]
        have := hH.2.2.2.2.1 r' hm hk' i (by rw [hk]; exact hi)
        rw [hk] at this; exact this
    · rw [(h1 (gc Γ) ρ r' hrr).2]
      exact hH.2.2.2.2.1 r' hm hk' i hi
  rcases hfin with hfin | ⟨hfin, hin, hown⟩
  · exact va_put (Ts := TB) C.1 C.2.1 C.2.2.2.2.2.1 (ws_ok c f1) (ft c) (ft_ok c f1) (nm_ok c f1) C.2.2.2.2.1 C.2.2.2.2.2.2.2.2.2.2.1 hH.1 hH.2.1 hS j he (vwCl_at c f1) k f2 (C.2.2.2.2.2.1 _ f3) (fun _ h => h) hfin (ft_ok c f1 k f2) (hv ρ).1 (hv ρ).2 (by simpa using f2) hd hend
  · exact va_putF (Ts := TB) C.1 C.2.1 C.2.2.2.2.2.1 (ws_ok c f1) (ft c) (ft_ok c f1) (nm_ok c f1) C.2.2.2.2.1 C.2.2.2.2.2.2.2.2.2.2.1 hH.1 hH.2.1 hS j he (vwCl_at c f1) k f2 (C.2.2.2.2.2.1 _ f3) (fun _ h => h) hfin (C.2.2.2.2.2.2.2.2.1.trans hin) hown (ft_ok c f1 k f2) (hv ρ).1 (hv ρ).2 (by simpa using f2) hd hend
end PRH
