/-! ===== new arrays, copies, constants of text, the script, Object's constructor ===== -/
def aty (c : Nat) : FieldType := if c = 16 then .int else if c = 17 then .byte else if c = 18 then .boolean else .long
theorem aty_cls {Γ : Gm} {s : State} {c : Nat} {cA : ClassId} (h1 : 16 ≤ c) (h2 : c < 20) (hK : va_K (gD Γ) vwCl (gtys (gc Γ) ++ [(cA, aty c)]) s) : cA = gc Γ c := by
  have e1 := (hK.2 4 (cA, aty c) rfl).2
  have hc : c = 16 ∨ c = 17 ∨ c = 18 ∨ c = 19 := by omega
  rcases hc with rfl | rfl | rfl | rfl
  · exact Option.some.inj (Eq.trans (Eq.symm e1) (hK.2 0 (gc Γ 16, .int) rfl).2)
  · exact Option.some.inj (Eq.trans (Eq.symm e1) (hK.2 1 (gc Γ 17, .byte) rfl).2)
  · exact Option.some.inj (Eq.trans (Eq.symm e1) (hK.2 2 (gc Γ 18, .boolean) rfl).2)
  · exact Option.some.inj (Eq.trans (Eq.symm e1) (hK.2 3 (gc Γ 19, .long) rfl).2)
section PRM
variable {Γ : Gm} {d mc ms : Nat} {mi : MI} {pc : Nat} {L : List (Option Value)} {st : List Value} {σ : PH} {Q : PO → PH → Prop}
theorem p_newarr {n : Int32} {atype : ArrayType} (c N q mc' ms' : Nat) (hq : pc + 2 = q) (hd : decode (mC mi) pc = .ok (.newarray atype, 2)) (ht : newarray.typeOf atype = aty c) (h1 : 16 ≤ c) (h2 : c < 19) (hwd : Cond.arrayClass (aty c) ∈ TB) (hn0 : ¬ n < 0) (hN : n.toNatClampNeg = N) (hNl : N < 8192) (hm : mc' + 1 ≤ mc) (hs : ms' + N ≤ ms)
    (kk : Ok Γ d mc' ms' mi q L (.ref (mkr (hn σ) N c) :: st) (sN σ (mkr (hn σ) N c)) Q) : Ok Γ d mc ms mi pc L (.int n :: st) σ Q := by
  subst hq
  intro p e R s m args below meth c' H locs cells slots ls ρ al ρ0 al0 MC MS C hH hS hl hst hE a1 a2 a3 a4
  have hOF := C.2.2.2.2.2.2.2.2.2.1
  have hkd : kd (mkr (hn σ) N c) = c := kd_mkr (by omega)
  have hln : ln (mkr (hn σ) N c) = N := ln_mkr (by omega) hNl
  have hc3 : c = 16 ∨ c = 17 ∨ c = 18 := by omega
  have hbytes : N * componentBytes (aty c) ≤ 536870912 := by
    have : componentBytes (aty c) ≤ 8 := by rcases hc3 with rfl | rfl | rfl <;> decide
    calc N * componentBytes (aty c) ≤ 8192 * 8 := Nat.mul_le_mul (by omega) this
      _ ≤ 536870912 := by decide
  refine va_newa (a0 := (N, .inl (fun _ => 0))) C.1 C.2.1 (by rw [ht]; exact C.2.2.2.2.2.1 _ hwd) ht C.2.2.2.2.2.2.2.2.2.2.1 hH.1 hH.2.1 hS (fun q hq => Nat.le_trans hOF.2.1 hq) (fun cA => by rcases hc3 with rfl | rfl | rfl <;> rfl) hn0 hN hbytes (by omega) (by omega) hd (fun qa cA H1 gK g1 g2 g3 => ?_)
  have ecA := aty_cls h1 (by omega) gK
  subst ecA
  have hfs : (Sum.inl (gc Γ c, N, .inl (fun _ => 0)) : va_E) = cE (gc Γ) (va_up ρ (mkr (hn σ) N c) qa) (sN σ (mkr (hn σ) N c)) (mkr (hn σ) N c) := by
    rw [cE_arr hkd h1 h2, hln, show hA (sN σ (mkr (hn σ) N c)) (mkr (hn σ) N c) = (fun _ => 0) from va_ups]
  rw [hfs] at g1 g2
  obtain ⟨n1, n2⟩ := hH.new (N := N) (c := c) hNl (Or.inr ⟨h1, by omega⟩) g1 g2
  have go := kk p e R s m args below meth c' H1 locs (cells + 1) (slots + N) ls _ _ ρ0 al0 MC MS C n1 g3 (hl.up n2) (lcs (fun r hr => by cases hr; exact Or.inl (List.mem_append_right _ (by simp))) (fun v hv => ((ltl hst) v hv).up n2.1)) (hE.tr n2) (by omega) (by omega) a3 a4
  rw [List.map_cons, map_ext (ltl hst) n2.2] at go
  have e0 : cv (va_up ρ (mkr (hn σ) N c) qa) (.ref (mkr (hn σ) N c)) = .ref qa := by show Value.ref _ = _; rw [va_ups]
  rw [e0] at go
  exact go
theorem p_newarrL {n : Int32} {atype : ArrayType} (N q mc' ms' : Nat) (hq : pc + 2 = q) (hd : decode (mC mi) pc = .ok (.newarray atype, 2)) (ht : newarray.typeOf atype = .long) (hwd : Cond.arrayClass .long ∈ TB) (hn0 : ¬ n < 0) (hN : n.toNatClampNeg = N) (hNl : N < 8192) (hm : mc' + 1 ≤ mc) (hs : ms' + N ≤ ms)
    (kk : Ok Γ d mc' ms' mi q L (.ref (mkr (hn σ) N 19) :: st) (sN σ (mkr (hn σ) N 19)) Q) : Ok Γ d mc ms mi pc L (.int n :: st) σ Q := by
  subst hq
  intro p e R s m args below meth c' H locs cells slots ls ρ al ρ0 al0 MC MS C hH hS hl hst hE a1 a2 a3 a4
  have hOF := C.2.2.2.2.2.2.2.2.2.1
  have hkd : kd (mkr (hn σ) N 19) = 19 := kd_mkr (by omega)
  have hln : ln (mkr (hn σ) N 19) = N := ln_mkr (by omega) hNl
  have hbytes : N * componentBytes .long ≤ 536870912 := by
    have : componentBytes .long ≤ 8 := by decide
    calc N * componentBytes .long ≤ 8192 * 8 := Nat.mul_le_mul (by omega) this
      _ ≤ 536870912 := by decide
  refine va_newa (a0 := (N, .inr (.inl (fun _ => 0)))) C.1 C.2.1 (by rw [ht]; exact C.2.2.2.2.2.1 _ hwd) ht C.2.2.2.2.2.2.2.2.2.2.1 hH.1 hH.2.1 hS (fun q hq => Nat.le_trans hOF.2.1 hq) (fun cA => rfl) hn0 hN hbytes (by omega) (by omega) hd (fun qa cA H1 gK g1 g2 g3 => ?_)
  have ecA := aty_cls (c := 19) (by omega) (by omega) gK
  subst ecA
  have hfs : (Sum.inl (gc Γ 19, N, .inr (.inl (fun _ => 0))) : va_E) = cE (gc Γ) (va_up ρ (mkr (hn σ) N 19) qa) (sN σ (mkr (hn σ) N 19)) (mkr (hn σ) N 19) := by
    rw [cE_lng hkd, hln, show hL (sN σ (mkr (hn σ) N 19)) (mkr (hn σ) N 19) = (fun _ => 0) from va_ups]
  rw [hfs] at g1 g2
  obtain ⟨n1, n2⟩ := hH.new (N := N) (c := 19) hNl (Or.inr ⟨by omega, by omega⟩) g1 g2
  have go := kk p e R s m args below meth c' H1 locs (cells + 1) (slots + N) ls _ _ ρ0 al0 MC MS C n1 g3 (hl.up n2) (lcs (fun r hr => by cases hr; exact Or.inl (List.mem_append_right _ (by simp))) (fun v hv => ((ltl hst) v hv).up n2.1)) (hE.tr n2) (by omega) (by omega) a3 a4
  rw [List.map_cons, map_ext (ltl hst) n2.2] at go
  have e0 : cv (va_up ρ (mkr (hn σ) N 19) qa) (.ref (mkr (hn σ) N 19)) = .ref qa := by show Value.ref _ = _; rw [va_ups]
  rw [e0] at go
  exact go
theorem cat_map (ρ : Nat → Nat) (st : List Value) : ((st.map (cv ρ)).map fun v => v.category) = st.map fun v => v.category := by
  rw [List.map_map]
  exact List.map_congr_left fun v _ => cv_cat ρ v
def CPL (own : String) (idx : Nat) : Prop := Cond.methodLink own idx arraycopyName ∈ TB ∧ Cond.native arraycopyName ∈ TB ∧ Cond.static arraycopyName ∈ TB ∧ Cond.initialized "java/lang/System" ∈ TB
/-- System.arraycopy of ints -/
theorem p_copy {idx r r' : Nat} {sp dp n : Int32} (q : Nat) (hq : pc + 3 = q) (hd : decode (mC mi) pc = .ok (.invokestatic idx, 3)) (hf : CPL (mO mi) idx) (hk : kd r = 16) (hk' : kd r' = 16) (h1 : ¬ sp < 0) (h2 : ¬ dp < 0) (h3 : ¬ n < 0) (h4 : sp.toNatClampNeg + n.toNatClampNeg ≤ ln r) (h5 : dp.toNatClampNeg + n.toNatClampNeg ≤ ln r') (hdp : 1 ≤ d) (hroom : (st.map fun v => v.category).sum + (nativeFrameWords "java/lang/System" "arraycopy" 5 + 11) ≤ 100)
    (kk : Ok Γ d mc ms mi q L st (sF σ r' (va_cpy (hA σ r) (hA σ r') sp.toNatClampNeg dp.toNatClampNeg n.toNatClampNeg)) Q) : Ok Γ d mc ms mi pc L (.int n :: .int dp :: .ref r' :: .int sp :: .ref r :: st) σ Q := by
  subst hq
  intro p e R s m args below meth c' H locs cells slots ls ρ al ρ0 al0 MC MS C hH hS hl hst hE a1 a2 a3 a4
  obtain ⟨f1, f2, f3, f4⟩ := hf
  have hC12 := C.2.2.2.2.2.2.2.2.2.2.2.1
  have hC13 := C.2.2.2.2.2.2.2.2.2.2.2.2
  obtain ⟨j', hj', he'⟩ := hw_get (cy := gc Γ) (ρ := ρ) (σ := σ) (live_al (lhd (ltl (ltl hst))) (by omega))
  obtain ⟨j, hj, he⟩ := hw_get (cy := gc Γ) (ρ := ρ) (σ := σ) (live_al (lhd (ltl (ltl (ltl (ltl hst))))) (by omega))
  rw [cE_arr hk' (by omega) (by omega)] at he'
  rw [cE_arr hk (by omega) (by omega)] at he
  refine va_copyi (ty := .int) C.1 C.2.1 (C.2.2.2.1.trans hl.1.symm) C.2.2.2.2.1 (C.2.2.2.2.2.1 _ f1) (C.2.2.2.2.2.1 _ f2) (C.2.2.2.2.2.1 _ f3) (C.2.2.2.2.2.1 _ f4) C.2.2.2.2.2.2.2.2.2.2.1 hH.1 hH.2.1 hS j j' 0 0 he he' rfl rfl rfl h1 h2 h3 h4 h5 (fun i _ => rfl) (by omega) (by rw [cat_map]; omega) hd (fun H1 locs1 g1 g2 g3 => ?_)
  exact kk p e R s m args below meth c' H1 locs1 cells slots ls ρ al ρ0 al0 MC MS C (hH.arr hj' (by omega) (by omega) (by rw [hk']; exact g1) (by rw [hk']; exact g2)) g3 hl (ltl (ltl (ltl (ltl (ltl hst))))) hE a1 a2 a3 a4
theorem p_ldcS {idx : Nat} (i q : Nat) (hq : pc + 2 = q) (hd : decode (mC mi) pc = .ok (.ldc idx, 2)) (hi : i < 31) (ho : mO mi = sow i) (hx : idx = six i) (kk : Ok Γ d mc ms mi q L (.ref (i * 32 + 26) :: st) σ Q) : Ok Γ d mc ms mi pc L st σ Q := by
  subst hq
  intro p e R s m args below meth c' H locs cells slots ls ρ al ρ0 al0 MC MS C hH hS hl hst hE a1 a2 a3 a4
  have hOF := C.2.2.2.2.2.2.2.2.2.1
  have hZ := hOF.2.2.2.2.2.1 i hi
  rw [← ho, ← hx] at hZ
  refine va_ldcS C.1 C.2.1 C.2.2.2.2.1 hZ hd ?_
  have go := kk p e R s m args below meth c' H locs cells slots ls ρ al ρ0 al0 MC MS C hH hS hl (lcs (fun r hr => by cases hr; exact Or.inr (by unfold kd; omega)) hst) hE a1 a2 a3 a4
  have e0 : cv ρ (.ref (i * 32 + 26)) = .ref (gK Γ i) := by show Value.ref _ = _; rw [hH.2.2.2.2.2.1.1 i hi]
  rw [List.map_cons, e0] at go
  exact go
theorem p_sld {i : Int32} (q : Nat) (hq : pc + 1 = q) (hd : decode (mC mi) pc = .ok (.iaload, 1)) (hin : vp_in i (gL Γ)) (kk : Ok Γ d mc ms mi q L (.int (gx Γ i.toNatClampNeg) :: st) σ Q) : Ok Γ d mc ms mi pc L (.int i :: .ref 27 :: st) σ Q := by
  subst hq
  intro p e R s m args below meth c' H locs cells slots ls ρ al ρ0 al0 MC MS C hH hS hl hst hE a1 a2 a3 a4
  have hOF := C.2.2.2.2.2.2.2.2.2.1
  have go := va_sld C.1 C.2.1 (b := gs Γ) (L := gL Γ) (xs := gx Γ) hOF.2.2.2.1 (Nat.lt_of_lt_of_le hOF.2.2.1 hOF.2.1) (A := fA Γ) (fun hh : gb Γ ≤ gs Γ => by have := hOF.2.2.1; omega) hS hin hd (kk p e R s m args below meth c' H locs cells slots ls ρ al ρ0 al0 MC MS C hH hS hl (lcs (lv_i _ _) (ltl (ltl hst))) hE a1 a2 a3 a4)
  have e0 : cv ρ (.ref 27) = .ref (gs Γ) := by show Value.ref _ = _; rw [hH.2.2.2.2.2.2]
  rw [List.map_cons, List.map_cons, e0]
  exact go
theorem p_slen (q : Nat) (hq : pc + 1 = q) (hd : decode (mC mi) pc = .ok (.arraylength, 1)) (kk : Ok Γ d mc ms mi q L (.int (Int32.ofNat (gL Γ)) :: st) σ Q) : Ok Γ d mc ms mi pc L (.ref 27 :: st) σ Q := by
  subst hq
  intro p e R s m args below meth c' H locs cells slots ls ρ al ρ0 al0 MC MS C hH hS hl hst hE a1 a2 a3 a4
  have hOF := C.2.2.2.2.2.2.2.2.2.1
  have go := va_slen C.1 C.2.1 (b := gs Γ) (L := gL Γ) (xs := gx Γ) hOF.2.2.2.1 (Nat.lt_of_lt_of_le hOF.2.2.1 hOF.2.1) (A := fA Γ) (fun hh : gb Γ ≤ gs Γ => by have := hOF.2.2.1; omega) hS hd (kk p e R s m args below meth c' H locs cells slots ls ρ al ρ0 al0 MC MS C hH hS hl (lcs (lv_i _ _) (ltl hst)) hE a1 a2 a3 a4)
  have e0 : cv ρ (.ref 27) = .ref (gs Γ) := by show Value.ref _ = _; rw [hH.2.2.2.2.2.2]
  rw [List.map_cons, e0]
  exact go
def OIL (own : String) (idx : Nat) : Prop := Cond.methodLink own idx Lib.objectInit ∈ TB ∧ Cond.instanceMethod Lib.objectInit ∈ TB ∧ Cond.code Lib.objectInit ⟨#[0xb1]⟩ 1 none ∈ TB
theorem p_objInit {idx r : Nat} (q : Nat) (hq : pc + 3 = q) (hd : decode (mC mi) pc = .ok (.invokespecial idx, 3)) (hf : OIL (mO mi) idx) (hdp : 1 ≤ d) (hroom : (st.map fun v => v.category).sum + 12 ≤ 100) (kk : Ok Γ d mc ms mi q L st σ Q) : Ok Γ d mc ms mi pc L (.ref r :: st) σ Q := by
  subst hq
  intro p e R s m args below meth c' H locs cells slots ls ρ al ρ0 al0 MC MS C hH hS hl hst hE a1 a2 a3 a4
  have hC12 := C.2.2.2.2.2.2.2.2.2.2.2.1
  have hC13 := C.2.2.2.2.2.2.2.2.2.2.2.2
  refine W.objInit C.1 C.2.1 C.2.2.2.2.1 (C.2.2.2.2.2.1 _ hf.1) (C.2.2.2.2.2.1 _ hf.2.1) (C.2.2.2.2.2.1 _ hf.2.2) rfl (hl.1.trans C.2.2.2.1.symm) rfl hd (by omega) ?_ ?_
  · show 2 * 0 + ((st.map (cv ρ)).map fun v => v.category).sum + 12 ≤ R.locals
    rw [cat_map]; omega
  · exact kk p e R s m args below meth c' H locs cells slots ls ρ al ρ0 al0 MC MS C hH hS hl (ltl hst) hE a1 a2 a3 a4
end PRM
