/-! ===== what a callee starts with; new cells; copies; constants of text; the script ===== -/
theorem NB_warm {s U : State} (hW : s.WarmedH U.vm) {w : Cond} (hw : w ∈ NB) (h : va_Nw w s) : va_Nw w U := by
  have hb := (List.mem_filter.mp hw).2
  cases w <;> first | exact va_Nw.warmM hW h | exact va_Nw.warmD hW h | exact va_Nw.warmC hW h | (simp [nbw] at hb)
theorem OF.next {Γ : Gm} {s U : State} {H : Heap} {locs : List Loc} (h : OF Γ s) (hS : va_S (fA Γ) s.heap H locs) (hU : U.heap = H) (hW : s.WarmedH U.vm) : OF Γ U := by
  obtain ⟨h1, h2, h3, h4, h5, h6, h7, h8, h9, h10, h11⟩ := h
  have hvm := hW.alike
  subst hU
  refine ⟨h1, Nat.le_trans h2 hS.1, h3, ?_, (h5.moved hvm).kept hS.2.1, fun i hi => (h6 i hi).warm hW, (h7.moved hvm).kept hS.2.1, (h8.moved hvm).kept hS.2.1, ⟨(h9.1.moved hvm).kept hS.2.1, (h9.2.moved hvm).kept hS.2.1⟩, ?_, fun w hw => NB_warm hW hw (h11 w hw)⟩
  · obtain ⟨scr, g1, g2, g3⟩ := h4
    refine ⟨scr, ?_, State.isArrayOf_alike hvm g2, g3⟩
    rw [hS.2.1 (gs Γ) (Nat.lt_of_lt_of_le h3 h2) (fun hh : gb Γ ≤ gs Γ => by omega)]
    exact g1
  · exact h10.moved hvm
theorem OF.same {Γ : Gm} {s U : State} (h : OF Γ s) (hU : U.heap = s.heap) (hV : U.vm = s.vm) : OF Γ U := by
  obtain ⟨h1, h2, h3, h4, h5, h6, h7, h8, h9, h10, h11⟩ := h
  have hvm : s.vm.Alike U.vm := by rw [hV]; exact Vm.Alike.refl _
  unfold OF
  rw [hU]
  refine ⟨h1, h2, h3, ?_, h5.moved hvm, fun i hi => (h6 i hi).same hV, h7.moved hvm, h8.moved hvm, ⟨h9.1.moved hvm, h9.2.moved hvm⟩, h10.moved hvm, fun w hw => ?_⟩
  · obtain ⟨scr, g1, g2, g3⟩ := h4
    exact ⟨scr, g1, State.isArrayOf_alike hvm g2, g3⟩
  · have hb := (List.mem_filter.mp hw).2
    refine va_Nw.same ?_ hV.symm (h11 w hw)
    cases w <;> first | rfl | (simp [nbw] at hb)
theorem cv_ext {al : List Nat} {ρ ρ' : Nat → Nat} {v : Value} (h : lvv al v) (he : ∀ r, live al r → ρ' r = ρ r) : cv ρ' v = cv ρ v := by
  cases v <;> first | rfl | skip
  rename_i r
  show Value.ref (ρ' r) = Value.ref (ρ r)
  rw [he r (h r rfl)]
theorem map_ext {al : List Nat} {ρ ρ' : Nat → Nat} {st : List Value} (h : ∀ v ∈ st, lvv al v) (he : ∀ r, live al r → ρ' r = ρ r) : st.map (cv ρ') = st.map (cv ρ) := List.map_congr_left fun v hv => cv_ext (h v hv) he
theorem lvv.up {al al' : List Nat} {v : Value} (h : lvv al v) (he : ∀ r, r ∈ al → r ∈ al') : lvv al' v := fun r hr => (h r hr).elim (fun q => Or.inl (he r q)) Or.inr
theorem LR.up {al al' : List Nat} {ρ ρ' : Nat → Nat} {nL : Nat} {ls : Array Slot} {L : List (Option Value)} (h : LR ρ al nL ls L) (hE : Ext ρ al ρ' al') : LR ρ' al' nL ls L :=
  ⟨h.1, h.2.1, fun i v hv => ⟨by rw [cv_ext (h.2.2 i v hv).2 hE.2]; exact (h.2.2 i v hv).1, (h.2.2 i v hv).2.up hE.1⟩⟩
theorem Ext.rf {ρ : Nat → Nat} {al : List Nat} : Ext ρ al ρ al := ⟨fun _ h => h, fun _ _ => rfl⟩
theorem Ext.tr {ρ0 ρ ρ' : Nat → Nat} {al0 al al' : List Nat} (h : Ext ρ0 al0 ρ al) (h' : Ext ρ al ρ' al') : Ext ρ0 al0 ρ' al' :=
  ⟨fun r hr => h'.1 r (h.1 r hr), fun r hr => (h'.2 r (hr.elim (fun q => Or.inl (h.1 r q)) Or.inr)).trans (h.2 r hr)⟩
theorem HR.new {Γ : Gm} {ρ : Nat → Nat} {al : List Nat} {σ : PH} {H H1 : Heap} {q N c : Nat} (hH : HR Γ ρ al σ H) (hN : N < 8192) (hc : c < 10 ∨ (16 ≤ c ∧ c < 20))
    (g1 : va_P (gD Γ) vwCl (hw (gc Γ) ρ al σ ++ [(q, cE (gc Γ) (va_up ρ (mkr (hn σ) N c) q) (sN σ (mkr (hn σ) N c)) (mkr (hn σ) N c))]) H1) (g2 : va_D (fA Γ) (hw (gc Γ) ρ al σ ++ [(q, cE (gc Γ) (va_up ρ (mkr (hn σ) N c) q) (sN σ (mkr (hn σ) N c)) (mkr (hn σ) N c))])) :
    HR Γ (va_up ρ (mkr (hn σ) N c) q) (al ++ [mkr (hn σ) N c]) (sN σ (mkr (hn σ) N c)) H1 ∧ Ext ρ al (va_up ρ (mkr (hn σ) N c) q) (al ++ [mkr (hn σ) N c]) := by
  have hc32 : c < 32 := by omega
  obtain ⟨k1, k2, k3, k4, k5, k6, k7⟩ := hH
  have hkd : kd (mkr (hn σ) N c) = c := kd_mkr hc32
  have hsn : sn (mkr (hn σ) N c) = hn σ := sn_mkr hc32 hN
  have hfr : ∀ r, live al r → r ≠ mkr (hn σ) N c := by
    intro r hr e
    subst e
    rcases hr with hr | hr
    · have := (k4 _ hr).1; omega
    · omega
  generalize mkr (hn σ) N c = rn at g1 g2 hkd hsn hfr ⊢
  have hE : Ext ρ al (va_up ρ rn q) (al ++ [rn]) := ⟨fun r hr => List.mem_append_left _ hr, fun r hr => va_upo (hfr r hr)⟩
  have hcE : ∀ r, r ∈ al → cE (gc Γ) (va_up ρ rn q) (sN σ rn) r = cE (gc Γ) ρ σ r := by
    intro r hr
    have hne := hfr r (Or.inl hr)
    have e1 := put_o (σ := σ) (σ' := sN σ rn) (r' := r) (va_upo hne) (va_upo hne) (va_upo hne) (va_upo hne) (va_upo hne) (gc Γ) (va_up ρ rn q)
    rw [e1.1]
    rcases (k4 r hr).2 with hk | hk
    · rw [cE_obj rfl hk, cE_obj rfl hk]
      congr 2
      refine List.map_congr_left fun k hkm => ?_
      exact cv_ext (k5 r hr hk k (List.mem_range.mp hkm)) hE.2
    · by_cases h19 : kd r = 19
      · rw [cE_lng h19, cE_lng h19]
      · rw [cE_arr rfl (by omega) (by omega), cE_arr rfl (by omega) (by omega)]
  have hwe : hw (gc Γ) (va_up ρ rn q) (al ++ [rn]) (sN σ rn) = hw (gc Γ) ρ al σ ++ [(q, cE (gc Γ) (va_up ρ rn q) (sN σ rn) rn)] := by
    unfold hw
    rw [List.map_append]
    congr 1
    · refine List.map_congr_left fun r hr => ?_
      rw [hcE r hr, hE.2 r (Or.inl hr)]
    · simp [va_ups]
  refine ⟨⟨by rw [hwe]; exact g1, by rw [hwe]; exact g2, ?_, ?_, ?_, ?_, ?_⟩, hE⟩
  · refine List.nodup_append.mpr ⟨k3, by simp, fun a ha b hb => ?_⟩
    have : b = rn := by simpa using hb
    rw [this]
    exact hfr a (Or.inl ha)
  · intro r hr
    rcases List.mem_append.mp hr with hr | hr
    · exact ⟨Nat.lt_succ_of_lt (k4 r hr).1, (k4 r hr).2⟩
    · have : r = rn := by simpa using hr
      rw [this, hsn, hkd]
      exact ⟨Nat.lt_succ_self _, hc⟩
  · intro r hr hk k hkn
    rcases List.mem_append.mp hr with hr | hr
    · have hne := hfr r (Or.inl hr)
      have e1 := put_o (σ := σ) (σ' := sN σ rn) (r' := r) (va_upo hne) (va_upo hne) (va_upo hne) (va_upo hne) (va_upo hne) (gc Γ) ρ
      rw [e1.2]
      exact (k5 r hr hk k hkn).up hE.1
    · have : r = rn := by simpa using hr
      subst this
      intro r' hr'
      unfold fvc at hr'
      rw [show hR (sN σ r) r k = 0 from by show va_up (hR σ) r _ r k = 0; rw [va_ups]] at hr'
      split at hr' <;> first | (simp [vref] at hr'; done) | (split at hr' <;> cases hr')
  · refine ⟨fun i hi => ?_, fun i hi => ?_⟩
    · rw [va_upo (hfr _ (Or.inr (by unfold kd; omega)))]
      exact k6.1 i hi
    · rw [va_upo (hfr _ (Or.inr (by unfold kd; omega)))]
      exact k6.2 i hi
  · rw [va_upo (hfr _ (Or.inr (by decide)))]
    exact k7
def okT : FieldType → Bool
  | .int => true
  | .boolean => true
  | .long => true
  | .object _ => true
  | .array _ => true
  | _ => false
theorem okT_all : ∀ c, c < 10 → ∀ k, k < nf c → okT (ft c k) = true := by decide +kernel
def NL (own : String) (idx c : Nat) : Prop := c < 10 ∧ Cond.classLink own idx (RR c) ∈ TB ∧ Cond.instantiable (RR c) (nf c) ∈ TB ∧ Cond.initialized (RR c) ∈ TB
section PRN
variable {Γ : Gm} {d mc ms : Nat} {mi : MI} {pc : Nat} {L : List (Option Value)} {st : List Value} {σ : PH} {Q : PO → PH → Prop}
theorem p_new {idx : Nat} (c q mc' ms' : Nat) (hq : pc + 3 = q) (hd : decode (mC mi) pc = .ok (.new idx, 3)) (hf : NL (mO mi) idx c) (hm : mc' + 1 ≤ mc) (hs : ms' + nf c ≤ ms)
    (kk : Ok Γ d mc' ms' mi q L (.ref (mkr (hn σ) 0 c) :: st) (sN σ (mkr (hn σ) 0 c)) Q) : Ok Γ d mc ms mi pc L st σ Q := by
  subst hq
  intro p e R s m args below meth c' H locs cells slots ls ρ al ρ0 al0 MC MS C hH hS hl hst hE a1 a2 a3 a4
  obtain ⟨f1, f2, f3, f4⟩ := hf
  have hOF := C.2.2.2.2.2.2.2.2.2.1
  have hkd : kd (mkr (hn σ) 0 c) = c := kd_mkr (by omega)
  refine va_new (Ts := TB) (fs := (List.range (nf c)).map (fun k => cv ρ (fvc (sN σ (mkr (hn σ) 0 c)) c (mkr (hn σ) 0 c) k))) C.1 C.2.1 C.2.2.2.2.2.1 (ws_ok c f1) (ft c) (ft_ok c f1) C.2.2.2.2.1 (C.2.2.2.2.2.1 _ f2) (C.2.2.2.2.2.1 _ f3) (C.2.2.2.2.2.1 _ f4) C.2.2.2.2.2.2.2.2.2.2.1 hH.1 hH.2.1 hS (fun q hq => Nat.le_trans hOF.2.1 hq) (vwCl_at c f1) ?_ (by omega) (by omega) hd (fun qa H1 g1 g2 g3 => ?_)
  · intro j hj
    have ht := okT_all c f1 j hj
    have e : vp_V ((List.range (nf c)).map (fun k => cv ρ (fvc (sN σ (mkr (hn σ) 0 c)) c (mkr (hn σ) 0 c) k))) j = cv ρ (fvc (sN σ (mkr (hn σ) 0 c)) c (mkr (hn σ) 0 c) j) := by
      simp [vp_V, hj]
    rw [e]
    unfold fvc
    rw [show hR (sN σ (mkr (hn σ) 0 c)) (mkr (hn σ) 0 c) j = 0 from by show va_up (hR σ) _ _ _ j = 0; rw [va_ups], show hJ (sN σ (mkr (hn σ) 0 c)) (mkr (hn σ) 0 c) j = 0 from by show va_up (hJ σ) _ _ _ j = 0; rw [va_ups], show hI (sN σ (mkr (hn σ) 0 c)) (mkr (hn σ) 0 c) j = 0 from by show va_up (hI σ) _ _ _ j = 0; rw [va_ups]]
    cases hty : ft c j <;> simp_all [okT, isR, isJ, vref, cv, defaultValue]
  · have hfs : (Sum.inr (c, (List.range (nf c)).map (fun k => cv ρ (fvc (sN σ (mkr (hn σ) 0 c)) c (mkr (hn σ) 0 c) k))) : va_E) = cE (gc Γ) (va_up ρ (mkr (hn σ) 0 c) qa) (sN σ (mkr (hn σ) 0 c)) (mkr (hn σ) 0 c) := by
      rw [cE_obj hkd f1]
      congr 2
      refine List.map_congr_left fun k _ => ?_
      unfold fvc
      rw [show hR (sN σ (mkr (hn σ) 0 c)) (mkr (hn σ) 0 c) k = 0 from by show va_up (hR σ) _ _ _ k = 0; rw [va_ups]]
      split <;> first | rfl | (split <;> rfl)
    rw [hfs] at g1 g2
    obtain ⟨n1, n2⟩ := hH.new (N := 0) (c := c) (by omega) (Or.inl f1) g1 g2
    have go := kk p e R s m args below meth c' H1 locs (cells + 1) (slots + nf c) ls _ _ ρ0 al0 MC MS C n1 g3 (hl.up n2) (lcs (fun r hr => by cases hr; exact Or.inl (List.mem_append_right _ (by simp))) (fun v hv => (hst v hv).up n2.1)) (hE.tr n2) (by omega) (by omega) a3 a4
    rw [List.map_cons, map_ext hst n2.2] at go
    have e0 : cv (va_up ρ (mkr (hn σ) 0 c) qa) (.ref (mkr (hn σ) 0 c)) = .ref qa := by show Value.ref _ = _; rw [va_ups]
    rw [e0] at go
    exact go
end PRN
