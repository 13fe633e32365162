/-! ===== what is heard; forged edges; taken back ===== -/
section E52
variable {Γ : Gm} {d mc ms : Nat} {mi : MI} {pc : Nat} {L : List (Option Value)} {st : List Value} {σ : PH} {Q : PO → PH → Prop}
theorem p_bastE {r i : Nat} {x : Int32} (q : Nat) (hq : pc + 1 = q) (hd : decode (mC mi) pc = .ok (.bastore, 1)) (hk : kd r = 17) (hi : i < ln r) (kk : Ok Γ d mc ms mi q L st (sA σ r i x.toInt8.toInt32) Q) : Ok Γ d mc ms mi pc L (.int x :: .int (nI i) :: .ref r :: st) σ Q := by
  refine p_bast q hq hd hk (vp_in_nI hi (by have := ln_lt r; omega)) ?_
  rw [nI_clamp (by have := ln_lt r; omega)]; exact kk
theorem p_zastE {r i : Nat} {x : Int32} (q : Nat) (hq : pc + 1 = q) (hd : decode (mC mi) pc = .ok (.bastore, 1)) (hk : kd r = 18) (hi : i < ln r) (hx : x = 0 ∨ x = 1) (kk : Ok Γ d mc ms mi q L st (sA σ r i x) Q) : Ok Γ d mc ms mi pc L (.int x :: .int (nI i) :: .ref r :: st) σ Q := by
  refine p_zast q hq hd hk (vp_in_nI hi (by have := ln_lt r; omega)) hx ?_
  rw [nI_clamp (by have := ln_lt r; omega)]; exact kk
end E52
theorem b2i01 (b : Bool) : b2i b = 0 ∨ b2i b = 1 := by cases b; exact Or.inl rfl; exact Or.inr rfl
theorem ln8 (s : Nat) : ln (mkr s 8 16) = 8 := ln_mkr (by decide) (by decide)
theorem ln8z (s : Nat) : ln (mkr s 8 18) = 8 := ln_mkr (by decide) (by decide)
theorem lt8 {i s : Nat} (h : i < 8) : i < ln (mkr s 8 16) := by rw [ln8]; exact h
theorem lt8z {i s : Nat} (h : i < 8) : i < ln (mkr s 8 18) := by rw [ln8z]; exact h
theorem kd18 (s n : Nat) : kd (mkr s n 18) = 18 := kd_mkr (by decide)
theorem isH.kd {h : Nat} (g : isH h) : kd h = 3 := by rcases g with rfl | rfl <;> rfl
theorem hne (h : Nat) : hC h ≠ hW h ∧ hC h ≠ hD h ∧ hC h ≠ hZ h ∧ hW h ≠ hD h ∧ hW h ≠ hZ h ∧ hD h ≠ hZ h := by
  unfold hC hW hD hZ mkr; refine ⟨?_, ?_, ?_, ?_, ?_, ?_⟩ <;> omega
theorem hne2 {h h' : Nat} (g : isH h) (g' : isH h') (e : h' ≠ h) : ∀ r, r ∈ [hC h', hW h', hD h', hZ h'] → r ∉ [hC h, hW h, hD h, hZ h] := by
  rcases g with rfl | rfl <;> rcases g' with rfl | rfl
  · exact absurd rfl e
  · decide
  · decide
  · exact absurd rfl e
/-- one more entry, or one written over -/
def pH (σ : PH) (h i : Nat) (q : Hr) : PH := sA (sA (sA (sA σ (hC h) i (nI q.1)) (hW h) i (nI q.2.1)) (hD h) i (nI q.2.2.1)) (hZ h) i (b2i q.2.2.2)
theorem hA_sI (σ : PH) (r k : Nat) (v : Int32) : hA (sI σ r k v) = hA σ := rfl
theorem sA_o {σ : PH} {r r' i : Nat} {x : Int32} (h : r' ≠ r) : hA (sA σ r i x) r' = hA σ r' := sF_o h
theorem sA_s (σ : PH) (r i : Nat) (x : Int32) : hA (sA σ r i x) r = upd (hA σ r) i x := hA_sF _ _ _
theorem pH_e (σ : PH) (h i : Nat) (q : Hr) : hA (pH σ h i q) (hC h) = upd (hA σ (hC h)) i (nI q.1) ∧ hA (pH σ h i q) (hW h) = upd (hA σ (hW h)) i (nI q.2.1) ∧ hA (pH σ h i q) (hD h) = upd (hA σ (hD h)) i (nI q.2.2.1) ∧ hA (pH σ h i q) (hZ h) = upd (hA σ (hZ h)) i (b2i q.2.2.2) := by
  obtain ⟨n1, n2, n3, n4, n5, n6⟩ := hne h
  unfold pH
  refine ⟨?_, ?_, ?_, ?_⟩
  · rw [sA_o n3, sA_o n2, sA_o n1, sA_s]
  · rw [sA_o n5, sA_o n4, sA_s, sA_o n1.symm]
  · rw [sA_o n6, sA_s, sA_o n4.symm, sA_o n2.symm]
  · rw [sA_s, sA_o n6.symm, sA_o n5.symm, sA_o n3.symm]
theorem pH_fr (σ : PH) (h i : Nat) (q : Hr) : Fr [(h, 0)] [hC h, hW h, hD h, hZ h] σ (pH σ h i q) :=
  (((Fr.sA (by simp)).tr (Fr.sA (by simp))).tr (Fr.sA (by simp))).tr (Fr.sA (by simp))
section C52
variable {Γ : Gm} {σ : PH} {o o' : Nat} {A : AT} {h h' : Nat} {Hs : List Hr}
set_option maxRecDepth 4000 in
theorem c_Hclear (hh : StH σ h) : CallOk Γ 1 0 0 mX3_clear [.ref h] σ (rV (fun σ' => RpH σ' h [] ∧ Fr [(h, 0)] [] σ σ')) := by
  refine p_enter rfl rfl (Nat.le_of_ble_eq_true rfl) rfl ?_
  refine p_aload_n 0 1 rfl rfl dX3_clear_0 rfl ?_
  refine p_iconst (0) 2 rfl dX3_clear_1 rfl ?_
  refine p_putI 3 0 5 rfl dX3_clear_2 fl_X3_9 hh.1.kd rfl (Or.inl rfl) ?_
  exact p_vret dX3_clear_5 rfl ⟨rfl, ⟨hh, by decide, hI_sI _ _ _ _, fun i q hq => by simp at hq⟩, Fr.sI (by simp)⟩
set_option maxRecDepth 4000 in
theorem c_Hadd (hg : RpH σ h Hs) (hl8 : Hs.length < 8) (x y z : Nat) (b : Bool) : CallOk Γ 1 0 0 mX3_add [.ref h, .int (nI x), .int (nI y), .int (nI z), .int (b2i b)] σ (rV (fun σ' => RpH σ' h (Hs ++ [(x, y, z, b)]) ∧ Fr [(h, 0)] [hC h, hW h, hD h, hZ h] σ σ')) := by
  refine p_enter rfl rfl (Nat.le_of_ble_eq_true rfl) rfl ?_
  refine p_aload_n 0 1 rfl rfl dX3_add_0 rfl ?_
  refine p_getIE 3 0 4 rfl dX3_add_1 fl_X3_9 hg.1.1.kd rfl hg.2.2.1 ?_
  refine p_bipush (8) 6 rfl dX3_add_4 rfl ?_
  refine p_icmp_ge 60 9 rfl rfl dX3_add_6 (fun h6 => absurd h6 (nI_ge (a := Hs.length) (b := 8) hl8 (by decide))) (fun h6 => ?_)
  refine p_aload_n 0 10 rfl rfl dX3_add_9 rfl ?_
  refine p_getR 3 1 13 rfl dX3_add_10 fl_X3_15 hg.1.1.kd rfl hg.1.2.1 (mk0 (Nat.succ_ne_zero _)) ?_
  refine p_aload_n 0 14 rfl rfl dX3_add_13 rfl ?_
  refine p_getIE 3 0 17 rfl dX3_add_14 fl_X3_9 hg.1.1.kd rfl hg.2.2.1 ?_
  refine p_iload_n 1 18 rfl rfl dX3_add_17 rfl ?_
  refine p_iastE 19 rfl dX3_add_18 (kd16 _ _) (lt8 hl8) ?_
  refine p_aload_n 0 20 rfl rfl dX3_add_19 rfl ?_
  refine p_getR 3 2 23 rfl dX3_add_20 fl_X3_19 hg.1.1.kd rfl hg.1.2.2.1 (mk0 (Nat.succ_ne_zero _)) ?_
  refine p_aload_n 0 24 rfl rfl dX3_add_23 rfl ?_
  refine p_getIE 3 0 27 rfl dX3_add_24 fl_X3_9 hg.1.1.kd rfl hg.2.2.1 ?_
  refine p_iload_n 2 28 rfl rfl dX3_add_27 rfl ?_
  refine p_iastE 29 rfl dX3_add_28 (kd16 _ _) (lt8 hl8) ?_
  refine p_aload_n 0 30 rfl rfl dX3_add_29 rfl ?_
  refine p_getR 3 3 33 rfl dX3_add_30 fl_X3_22 hg.1.1.kd rfl hg.1.2.2.2.1 (mk0 (Nat.succ_ne_zero _)) ?_
  refine p_aload_n 0 34 rfl rfl dX3_add_33 rfl ?_
  refine p_getIE 3 0 37 rfl dX3_add_34 fl_X3_9 hg.1.1.kd rfl hg.2.2.1 ?_
  refine p_iload_n 3 38 rfl rfl dX3_add_37 rfl ?_
  refine p_iastE 39 rfl dX3_add_38 (kd16 _ _) (lt8 hl8) ?_
  refine p_aload_n 0 40 rfl rfl dX3_add_39 rfl ?_
  refine p_getR 3 4 43 rfl dX3_add_40 fl_X3_25 hg.1.1.kd rfl hg.1.2.2.2.2 (mk0 (Nat.succ_ne_zero _)) ?_
  refine p_aload_n 0 44 rfl rfl dX3_add_43 rfl ?_
  refine p_getIE 3 0 47 rfl dX3_add_44 fl_X3_9 hg.1.1.kd rfl hg.2.2.1 ?_
  refine p_iload 4 49 rfl dX3_add_47 rfl ?_
  refine p_zastE 50 rfl dX3_add_49 (kd18 _ _) (lt8z hl8) (b2i01 _) ?_
  change Ok _ _ _ _ _ _ _ _ (pH σ h Hs.length (x, y, z, b)) _
  refine p_aload_n 0 51 rfl rfl dX3_add_50 rfl ?_
  refine p_dup 52 rfl dX3_add_51 rfl ?_
  refine p_getIE 3 0 55 rfl dX3_add_52 fl_X3_9 hg.1.1.kd rfl (show hI (pH σ h Hs.length (x, y, z, b)) h 0 = nI Hs.length from hg.2.2.1) ?_
  refine p_iconst (1) 56 rfl dX3_add_55 rfl ?_
  refine p_iadd 57 rfl dX3_add_56 ?_
  rw [nI_1]
  refine p_putI 3 0 60 rfl dX3_add_57 fl_X3_9 hg.1.1.kd rfl (Or.inl rfl) ?_
  exact p_vret dX3_add_60 rfl ⟨rfl, by
    refine ⟨⟨hg.1, by simp; omega, (hI_sI _ _ _ _).trans (by simp), fun i q hq => ?_⟩, (pH_fr σ h Hs.length (x, y, z, b)).tr (Fr.sI (by simp))⟩
    have e := pH_e σ h Hs.length (x, y, z, b)
    rw [hA_sI]
    rw [e.1, e.2.1, e.2.2.1, e.2.2.2]
    by_cases hi : i = Hs.length
    · subst hi
      rw [List.getElem?_append_right (Nat.le_refl _)] at hq
      simp at hq
      subst hq
      rw [pk_us, pk_us, pk_us, pk_us]; exact ⟨rfl, rfl, rfl, rfl⟩
    · have hlt : i < Hs.length := by
        have := (List.getElem?_eq_some_iff.mp hq).1
        simp at this; omega
      rw [List.getElem?_append_left hlt] at hq
      rw [pk_un hi, pk_un hi, pk_un hi, pk_un hi]; exact hg.2.2.2 i q hq⟩
set_option maxRecDepth 4000 in
theorem l_Hcopy (hn : h' ≠ h) : ∀ (n i : Nat) (σ1 : PH), i + n = Hs.length → StH σ1 h → RpH σ1 h' Hs → hI σ1 h 0 = nI Hs.length → (∀ (j : Nat) (q : Hr), j < i → Hs[j]? = some q → hA σ1 (hC h) j = nI q.1 ∧ hA σ1 (hW h) j = nI q.2.1 ∧ hA σ1 (hD h) j = nI q.2.2.1 ∧ hA σ1 (hZ h) j = b2i q.2.2.2) → Fr [(h, 0)] [hC h, hW h, hD h, hZ h] σ σ1 → Ok Γ 1 0 0 mX3_copyFrom 10 [some (.ref h), some (.ref h'), some (.int (nI i))] [] σ1 (rV (fun σ' => RpH σ' h Hs ∧ Fr [(h, 0)] [hC h, hW h, hD h, hZ h] σ σ')) := by
  intro n
  induction n with
  | zero =>
    intro i σ1 hi hh hg hc hd hF
    have hl := hg.2.1
    refine p_iload_n 2 11 rfl rfl dX3_copyFrom_10 rfl ?_
    refine p_aload_n 0 12 rfl rfl dX3_copyFrom_11 rfl ?_
    refine p_getIE 3 0 15 rfl dX3_copyFrom_12 fl_X3_9 hh.1.kd rfl hc ?_
    refine p_icmp_ge 72 18 rfl rfl dX3_copyFrom_15 (fun h15 => ?_) (fun h15 => absurd (nI_le (a := Hs.length) (b := i) (by omega) (by omega)) h15)
    exact p_vret dX3_copyFrom_72 rfl ⟨rfl, ⟨hh, hg.2.1, hc, fun j q hj => hd j q (by have := (List.getElem?_eq_some_iff.mp hj).1; omega) hj⟩, hF⟩
  | succ n ih =>
    intro i σ1 hi hh hg hc hd hF
    have hl := hg.2.1
    obtain ⟨q, hq⟩ : ∃ q, Hs[i]? = some q := ⟨Hs[i]'(by omega), List.getElem?_eq_getElem (by omega)⟩
    have he := hg.2.2.2 i q hq
    have hx : ∀ r, r ∈ [hC h', hW h', hD h', hZ h'] → ∀ {r'}, r' ∈ [hC h, hW h, hD h, hZ h] → r ≠ r' := fun r hr r' hr' e => hne2 hh.1 hg.1.1 hn r hr (e ▸ hr')
    refine p_iload_n 2 11 rfl rfl dX3_copyFrom_10 rfl ?_
    refine p_aload_n 0 12 rfl rfl dX3_copyFrom_11 rfl ?_
    refine p_getIE 3 0 15 rfl dX3_copyFrom_12 fl_X3_9 hh.1.kd rfl hc ?_
    refine p_icmp_ge 72 18 rfl rfl dX3_copyFrom_15 (fun h15 => absurd h15 (nI_ge (a := i) (b := Hs.length) (by omega) (by omega))) (fun h15 => ?_)
    refine p_aload_n 0 19 rfl rfl dX3_copyFrom_18 rfl ?_
    refine p_getR 3 1 22 rfl dX3_copyFrom_19 fl_X3_15 hh.1.kd rfl hh.2.1 (mk0 (Nat.succ_ne_zero _)) ?_
    refine p_iload_n 2 23 rfl rfl dX3_copyFrom_22 rfl ?_
    refine p_aload_n 1 24 rfl rfl dX3_copyFrom_23 rfl ?_
    refine p_getR 3 1 27 rfl dX3_copyFrom_24 fl_X3_15 hg.1.1.kd rfl hg.1.2.1 (mk0 (Nat.succ_ne_zero _)) ?_
    refine p_iload_n 2 28 rfl rfl dX3_copyFrom_27 rfl ?_
    refine p_ialdE 29 rfl dX3_copyFrom_28 (kd16 _ _) (lt8 (by omega)) he.1 ?_
    refine p_iastE 30 rfl dX3_copyFrom_29 (kd16 _ _) (lt8 (by omega)) ?_
    refine p_aload_n 0 31 rfl rfl dX3_copyFrom_30 rfl ?_
    refine p_getR 3 2 34 rfl dX3_copyFrom_31 fl_X3_19 hh.1.kd rfl hh.2.2.1 (mk0 (Nat.succ_ne_zero _)) ?_
    refine p_iload_n 2 35 rfl rfl dX3_copyFrom_34 rfl ?_
    refine p_aload_n 1 36 rfl rfl dX3_copyFrom_35 rfl ?_
    refine p_getR 3 2 39 rfl dX3_copyFrom_36 fl_X3_19 hg.1.1.kd rfl hg.1.2.2.1 (mk0 (Nat.succ_ne_zero _)) ?_
    refine p_iload_n 2 40 rfl rfl dX3_copyFrom_39 rfl ?_
    refine p_ialdE 41 rfl dX3_copyFrom_40 (kd16 _ _) (lt8 (by omega)) ((congrFun (sA_o (hx _ (by simp) (by simp))) i).trans he.2.1) ?_
    refine p_iastE 42 rfl dX3_copyFrom_41 (kd16 _ _) (lt8 (by omega)) ?_
    refine p_aload_n 0 43 rfl rfl dX3_copyFrom_42 rfl ?_
    refine p_getR 3 3 46 rfl dX3_copyFrom_43 fl_X3_22 hh.1.kd rfl hh.2.2.2.1 (mk0 (Nat.succ_ne_zero _)) ?_
    refine p_iload_n 2 47 rfl rfl dX3_copyFrom_46 rfl ?_
    refine p_aload_n 1 48 rfl rfl dX3_copyFrom_47 rfl ?_
    refine p_getR 3 3 51 rfl dX3_copyFrom_48 fl_X3_22 hg.1.1.kd rfl hg.1.2.2.2.1 (mk0 (Nat.succ_ne_zero _)) ?_
    refine p_iload_n 2 52 rfl rfl dX3_copyFrom_51 rfl ?_
    refine p_ialdE 53 rfl dX3_copyFrom_52 (kd16 _ _) (lt8 (by omega)) ((congrFun ((sA_o (hx _ (by simp) (by simp))).trans (sA_o (hx _ (by simp) (by simp)))) i).trans he.2.2.1) ?_
    refine p_iastE 54 rfl dX3_copyFrom_53 (kd16 _ _) (lt8 (by omega)) ?_
    refine p_aload_n 0 55 rfl rfl dX3_copyFrom_54 rfl ?_
    refine p_getR 3 4 58 rfl dX3_copyFrom_55 fl_X3_25 hh.1.kd rfl hh.2.2.2.2 (mk0 (Nat.succ_ne_zero _)) ?_
    refine p_iload_n 2 59 rfl rfl dX3_copyFrom_58 rfl ?_
    refine p_aload_n 1 60 rfl rfl dX3_copyFrom_59 rfl ?_
    refine p_getR 3 4 63 rfl dX3_copyFrom_60 fl_X3_25 hg.1.1.kd rfl hg.1.2.2.2.2 (mk0 (Nat.succ_ne_zero _)) ?_
    refine p_iload_n 2 64 rfl rfl dX3_copyFrom_63 rfl ?_
    refine p_zaldE 65 rfl dX3_copyFrom_64 (kd18 _ _) (lt8z (by omega)) ((congrFun (((sA_o (hx _ (by simp) (by simp))).trans (sA_o (hx _ (by simp) (by simp)))).trans (sA_o (hx _ (by simp) (by simp)))) i).trans he.2.2.2) ?_
    refine p_zastE 66 rfl dX3_copyFrom_65 (kd18 _ _) (lt8z (by omega)) (b2i01 _) ?_
    refine p_inc_2 69 rfl dX3_copyFrom_66 (1) rfl (Nat.le_of_ble_eq_true rfl) rfl ?_
    refine p_goto 10 rfl dX3_copyFrom_69 ?_
    rw [nI_1]
    refine ih (i + 1) (pH σ1 h i q) (by omega) ⟨hh.1, hh.2⟩ ?_ hc (fun j q' hj hq' => ?_) (hF.tr (pH_fr σ1 h i q))
    · refine ⟨hg.1, hg.2.1, hg.2.2.1, fun j q' hq' => ?_⟩
      have F := (pH_fr σ1 h i q).2.2.2.2.2
      rw [F _ (hne2 hh.1 hg.1.1 hn _ (by simp)), F _ (hne2 hh.1 hg.1.1 hn _ (by simp)), F _ (hne2 hh.1 hg.1.1 hn _ (by simp)), F _ (hne2 hh.1 hg.1.1 hn _ (by simp))]
      exact hg.2.2.2 j q' hq'
    · have e := pH_e σ1 h i q
      rw [e.1, e.2.1, e.2.2.1, e.2.2.2]
      by_cases hj2 : j = i
      · subst hj2
        rw [hq] at hq'; cases hq'
        rw [pk_us, pk_us, pk_us, pk_us]; exact ⟨rfl, rfl, rfl, rfl⟩
      · rw [pk_un hj2, pk_un hj2, pk_un hj2, pk_un hj2]; exact hd j q' (by omega) hq'
set_option maxRecDepth 4000 in
theorem c_Hcopy (hh : StH σ h) (hg : RpH σ h' Hs) (hn : h' ≠ h) : CallOk Γ 1 0 0 mX3_copyFrom [.ref h, .ref h'] σ (rV (fun σ' => RpH σ' h Hs ∧ Fr [(h, 0)] [hC h, hW h, hD h, hZ h] σ σ')) := by
  refine p_enter rfl rfl (Nat.le_of_ble_eq_true rfl) rfl ?_
  refine p_aload_n 0 1 rfl rfl dX3_copyFrom_0 rfl ?_
  refine p_aload_n 1 2 rfl rfl dX3_copyFrom_1 rfl ?_
  refine p_getIE 3 0 5 rfl dX3_copyFrom_2 fl_X3_9 hg.1.1.kd rfl hg.2.2.1 ?_
  refine p_putI 3 0 8 rfl dX3_copyFrom_5 fl_X3_9 hh.1.kd rfl (Or.inl rfl) ?_
  refine p_iconst (0) 9 rfl dX3_copyFrom_8 rfl ?_
  refine p_ist_n2 10 rfl rfl dX3_copyFrom_9 (Nat.le_of_ble_eq_true rfl) rfl ?_
  exact l_Hcopy hn Hs.length 0 _ (by omega) hh ⟨hg.1, hg.2.1, (hI_sIo (by intro e; cases e <;> exact absurd rfl hn)).trans hg.2.2.1, hg.2.2.2⟩ (hI_sI _ _ _ _) (fun j q hj => absurd hj (Nat.not_lt_zero _)) (Fr.sI (by simp))
end C52
