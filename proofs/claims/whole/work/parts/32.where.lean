/-! ===== office and world: who is where, what fits ===== -/
theorem lt9 {i s : Nat} (h : i < 9) : i < ln (mkr s 9 16) := by rw [ln9]; exact h
theorem lt6 {i s : Nat} (h : i < 6) : i < ln (mkr s 6 16) := by rw [ln6]; exact h
theorem lt12 {i s : Nat} (h : i < 12) : i < ln (mkr s 12 16) := by rw [ln12]; exact h
theorem lt36 {i s : Nat} (h : i < 36) : i < ln (mkr s 36 16) := by rw [ln36]; exact h
theorem ln_lt (r : Nat) : ln r < 8192 := Nat.mod_lt _ (by decide)
section R32
variable {Γ : Gm} {d mc ms : Nat} {mi : MI} {pc : Nat} {L : List (Option Value)} {st : List Value} {σ : PH} {Q : PO → PH → Prop}
theorem p_getIE {idx r : Nat} {v : Int32} (c k q : Nat) (hq : pc + 3 = q) (hd : decode (mC mi) pc = .ok (.getfield idx, 3)) (hf : FL (mO mi) idx c k) (hk : kd r = c) (ht : isI c k = true) (hv : hI σ r k = v) (kk : Ok Γ d mc ms mi q L (.int v :: st) σ Q) : Ok Γ d mc ms mi pc L (.ref r :: st) σ Q :=
  p_getI c k q hq hd hf hk ht (by rw [hv]; exact kk)
theorem p_ialdE {r i : Nat} {v : Int32} (q : Nat) (hq : pc + 1 = q) (hd : decode (mC mi) pc = .ok (.iaload, 1)) (hk : kd r = 16) (hi : i < ln r) (hv : hA σ r i = v) (kk : Ok Γ d mc ms mi q L (.int v :: st) σ Q) : Ok Γ d mc ms mi pc L (.int (nI i) :: .ref r :: st) σ Q := by
  have := ln_lt r
  exact p_iald q hq hd hk (vp_in_nI hi (by omega)) (by rw [nI_clamp (by omega), hv]; exact kk)
theorem p_baldE {r i : Nat} {v : Int32} (q : Nat) (hq : pc + 1 = q) (hd : decode (mC mi) pc = .ok (.baload, 1)) (hk : kd r = 17) (hi : i < ln r) (hv : hA σ r i = v) (kk : Ok Γ d mc ms mi q L (.int v :: st) σ Q) : Ok Γ d mc ms mi pc L (.int (nI i) :: .ref r :: st) σ Q := by
  have := ln_lt r
  exact p_bald q hq hd hk (vp_in_nI hi (by omega)) (by rw [nI_clamp (by omega), hv]; exact kk)
theorem p_zaldE {r i : Nat} {v : Int32} (q : Nat) (hq : pc + 1 = q) (hd : decode (mC mi) pc = .ok (.baload, 1)) (hk : kd r = 18) (hi : i < ln r) (hv : hA σ r i = v) (kk : Ok Γ d mc ms mi q L (.int v :: st) σ Q) : Ok Γ d mc ms mi pc L (.int (nI i) :: .ref r :: st) σ Q := by
  have := ln_lt r
  exact p_zald q hq hd hk (vp_in_nI hi (by omega)) (by rw [nI_clamp (by omega), hv]; exact kk)
theorem p_iastE {r i : Nat} {x : Int32} (q : Nat) (hq : pc + 1 = q) (hd : decode (mC mi) pc = .ok (.iastore, 1)) (hk : kd r = 16) (hi : i < ln r) (kk : Ok Γ d mc ms mi q L st (sA σ r i x) Q) : Ok Γ d mc ms mi pc L (.int x :: .int (nI i) :: .ref r :: st) σ Q := by
  have := ln_lt r
  exact p_iast q hq hd hk (vp_in_nI hi (by omega)) (by rw [nI_clamp (by omega)]; exact kk)
end R32
theorem pI_nI {x t : Nat} (hx : x < 100) (ht : t < 50) : pI x = nI t ↔ x = t + 1 := by
  rw [← pI_town t]; exact pI_inj hx (by omega)
theorem tOn_lt {O : AO} (h : OkO O) {c d : Nat} (hc : c < aC O) : tOn O c d < 4 := by
  obtain ⟨-, -, -, -, h5, -⟩ := h
  exact (h5 c hc).2.2 _ (Nat.mod_lt _ (h5 c hc).1)
theorem tOf_lt {O : AO} {V : AW} (h : OkO O) (hv : OkV O V) {s k : Nat} (hs : s < aS O) : tOf O V s k < 5 := by
  unfold tOf
  have h3 := hv.2.2.1 s hs
  split
  · have := tOn_lt h (c := vP V s - 5) (d := vD V + k) (by omega)
    omega
  · omega
section C32
variable {Γ : Gm} {σ : PH} {o w : Nat} {O : AO} {V : AW}
set_option maxRecDepth 4000 in
theorem c_townOn (ho : RpO σ o O) {c d : Nat} (hc : c < aC O) (hd : d ≤ 200000) : CallOk Γ 1 0 0 mX4_townOn [.ref o, .int (nI c), .int (nI d)] σ (rI σ (nI (tOn O c d))) := by
  have hO := ho.2.1
  have hT := hO.2.2.2.2.1 c hc
  have hs := ho.2.2.2.2.2.2.1 c hc
  have hm : d % aT O c < aT O c := Nat.mod_lt _ hT.1
  have hc6 := hO.2.1
  refine p_enter rfl rfl (Nat.le_of_ble_eq_true rfl) rfl ?_
  refine p_aload_n 0 1 rfl rfl dX4_townOn_0 rfl ?_
  refine p_getR 4 5 4 rfl dX4_townOn_1 fl_X4_28 ho.1.1.kd rfl ho.1.2.2.2.2.1 (mk0 (Nat.succ_ne_zero _)) ?_
  refine p_iload_n 1 5 rfl rfl dX4_townOn_4 rfl ?_
  refine p_ialdE 6 rfl dX4_townOn_5 (kd16 _ _) (lt6 (by omega)) hs.1 ?_
  refine p_ist_n3 7 rfl rfl dX4_townOn_6 (Nat.le_of_ble_eq_true rfl) rfl ?_
  refine p_iload_n 3 8 rfl rfl dX4_townOn_7 rfl ?_
  refine p_if_le 27 11 rfl rfl dX4_townOn_8 (fun h8 => absurd h8 (nI_nle hT.1 (by omega))) (fun h8 => ?_)
  refine p_aload_n 0 12 rfl rfl dX4_townOn_11 rfl ?_
  refine p_getR 4 6 15 rfl dX4_townOn_12 fl_X4_31 ho.1.1.kd rfl ho.1.2.2.2.2.2.1 (mk0 (Nat.succ_ne_zero _)) ?_
  refine p_iload_n 1 16 rfl rfl dX4_townOn_15 rfl ?_
  refine p_bipush (6) 18 rfl dX4_townOn_16 rfl ?_
  refine p_imul 19 rfl dX4_townOn_18 ?_
  refine p_iload_n 2 20 rfl rfl dX4_townOn_19 rfl ?_
  refine p_iload_n 3 21 rfl rfl dX4_townOn_20 rfl ?_
  refine p_irem 22 rfl dX4_townOn_21 (nI_ne0 hT.1 (by omega)) ?_
  refine p_iadd 23 rfl dX4_townOn_22 ?_
  rw [pk_rem (by omega) hT.1 (by omega), show (6 : Int32) = nI 6 from rfl, pk_mul, nI_add, Nat.mul_comm c 6]
  refine p_ialdE 24 rfl dX4_townOn_23 (kd16 _ _) (lt36 (by omega)) (hs.2 _ hm) ?_
  refine p_goto 28 rfl dX4_townOn_24 ?_
  exact p_iret dX4_townOn_28 rfl ⟨rfl, rfl⟩
set_option maxRecDepth 4000 in
theorem c_townOf (ho : RpO σ o O) (hw : RpW σ w V) (hv : OkV O V) (hwo : hR σ w 0 = o) {s k : Nat} (hs : s < aS O) (hk : k ≤ 100) : CallOk Γ 2 0 0 mX7_townOf [.ref w, .int (nI s), .int (nI k)] σ (rI σ (pI (tOf O V s k))) := by
  have hs9 := ho.2.1.1
  have hp := hv.2.2.1 s hs
  have hc6 := ho.2.1.2.1
  have hd := hv.1
  refine p_enter rfl rfl (Nat.le_of_ble_eq_true rfl) rfl ?_
  refine p_aload_n 0 1 rfl rfl dX7_townOf_0 rfl ?_
  refine p_getR 7 4 4 rfl dX7_townOf_1 fl_X7_22 hw.1.1.kd rfl hw.1.2.2.2.1 (mk0 (Nat.succ_ne_zero _)) ?_
  refine p_iload_n 1 5 rfl rfl dX7_townOf_4 rfl ?_
  refine p_ialdE 6 rfl dX7_townOf_5 (kd16 _ _) (lt9 (by omega)) (hw.2.2.1 s (by omega)).2.2 ?_
  refine p_iconst (4) 7 rfl dX7_townOf_6 rfl ?_
  refine p_icmp_lt 32 10 rfl rfl dX7_townOf_7 (fun h7 => ?_) (fun h7 => ?_)
  · refine p_aload_n 0 33 rfl rfl dX7_townOf_32 rfl ?_
    refine p_getR 7 4 36 rfl dX7_townOf_33 fl_X7_22 hw.1.1.kd rfl hw.1.2.2.2.1 (mk0 (Nat.succ_ne_zero _)) ?_
    refine p_iload_n 1 37 rfl rfl dX7_townOf_36 rfl ?_
    refine p_ialdE 38 rfl dX7_townOf_37 (kd16 _ _) (lt9 (by omega)) (hw.2.2.1 s (by omega)).2.2 ?_
    refine p_iconst (-1) 39 rfl dX7_townOf_38 rfl ?_
    refine p_icmp_ne 46 42 rfl rfl dX7_townOf_39 (fun h39 => ?_) (fun h39 => ?_)
    · refine p_aload_n 0 47 rfl rfl dX7_townOf_46 rfl ?_
      refine p_getR 7 4 50 rfl dX7_townOf_47 fl_X7_22 hw.1.1.kd rfl hw.1.2.2.2.1 (mk0 (Nat.succ_ne_zero _)) ?_
      refine p_iload_n 1 51 rfl rfl dX7_townOf_50 rfl ?_
      refine p_ialdE 52 rfl dX7_townOf_51 (kd16 _ _) (lt9 (by omega)) (hw.2.2.1 s (by omega)).2.2 ?_
      exact p_iret dX7_townOf_52 rfl ⟨by
        have h5 : ¬ 5 ≤ vP V s := fun q => absurd h7 (Int32.not_lt.mpr ((pI_ge4 (by omega)).mpr q))
        rw [tOf, if_neg h5], rfl⟩
    · refine p_iconst (-1) 43 rfl dX7_townOf_42 rfl ?_
      refine p_goto 52 rfl dX7_townOf_43 ?_
      exact p_iret dX7_townOf_52 rfl ⟨by
        have h0 : vP V s = 0 := (pI_m1 (by omega)).mp h39
        rw [tOf, if_neg (by omega), h0]; rfl, rfl⟩
  · refine p_aload_n 0 11 rfl rfl dX7_townOf_10 rfl ?_
    refine p_getR 7 0 14 rfl dX7_townOf_11 fl_X7_31 hw.1.1.kd rfl hwo ho.1.1.ne0 ?_
    refine p_aload_n 0 15 rfl rfl dX7_townOf_14 rfl ?_
    refine p_getR 7 4 18 rfl dX7_townOf_15 fl_X7_22 hw.1.1.kd rfl hw.1.2.2.2.1 (mk0 (Nat.succ_ne_zero _)) ?_
    refine p_iload_n 1 19 rfl rfl dX7_townOf_18 rfl ?_
    refine p_ialdE 20 rfl dX7_townOf_19 (kd16 _ _) (lt9 (by omega)) (hw.2.2.1 s (by omega)).2.2 ?_
    refine p_iconst (4) 21 rfl dX7_townOf_20 rfl ?_
    refine p_isub 22 rfl dX7_townOf_21 ?_
    refine p_aload_n 0 23 rfl rfl dX7_townOf_22 rfl ?_
    refine p_getIE 7 1 26 rfl dX7_townOf_23 fl_X7_9 hw.1.1.kd rfl hw.2.1 ?_
    refine p_iload_n 2 27 rfl rfl dX7_townOf_26 rfl ?_
    refine p_iadd 28 rfl dX7_townOf_27 ?_
    have hp5 : 5 ≤ vP V s := by
      by_cases hh : 5 ≤ vP V s
      · exact hh
      · exact absurd (Int32.not_le.mp (fun q => hh ((pI_ge4 (by omega)).mp q))) h7
    rw [pI_sub4 hp5, nI_add]
    have hc1 : vP V s - 5 < aC O := by omega
    have hd1 : vD V + k ≤ 200000 := by omega
    refine p_cV2i 31 rfl dX7_townOf_28 (c_townOn ho hc1 hd1) ml_X7_54 vl_X4_townOn ho.1.1.kd (by decide) rfl (Nat.le_of_ble_eq_true rfl) (Nat.le_of_ble_eq_true rfl) rfl ?_
    exact p_iret dX7_townOf_31 rfl ⟨by rw [tOf, if_pos hp5, pI_town], rfl⟩
set_option maxRecDepth 4000 in
theorem c_bearerOf (ho : RpO σ o O) (hw : RpW σ w V) (hv : OkV O V) (hwo : hR σ w 0 = o) {s : Nat} (hs : s < aS O) : CallOk Γ 1 0 0 mX7_bearerOf [.ref w, .int (nI s)] σ (rI σ (if 5 ≤ vP V s then nI (vP V s - 5) else -1)) := by
  have hs9 := ho.2.1.1
  have hp := hv.2.2.1 s hs
  have hc6 := ho.2.1.2.1
  refine p_enter rfl rfl (Nat.le_of_ble_eq_true rfl) rfl ?_
  refine p_aload_n 0 1 rfl rfl dX7_bearerOf_0 rfl ?_
  refine p_getR 7 4 4 rfl dX7_bearerOf_1 fl_X7_22 hw.1.1.kd rfl hw.1.2.2.2.1 (mk0 (Nat.succ_ne_zero _)) ?_
  refine p_iload_n 1 5 rfl rfl dX7_bearerOf_4 rfl ?_
  refine p_ialdE 6 rfl dX7_bearerOf_5 (kd16 _ _) (lt9 (by omega)) (hw.2.2.1 s (by omega)).2.2 ?_
  refine p_iconst (4) 7 rfl dX7_bearerOf_6 rfl ?_
  refine p_icmp_lt 21 10 rfl rfl dX7_bearerOf_7 (fun h7 => ?_) (fun h7 => ?_)
  · refine p_iconst (-1) 22 rfl dX7_bearerOf_21 rfl ?_
    exact p_iret dX7_bearerOf_22 rfl ⟨by
      have h5 : ¬ 5 ≤ vP V s := fun q => absurd h7 (Int32.not_lt.mpr ((pI_ge4 (by omega)).mpr q))
      rw [if_neg h5], rfl⟩
  · refine p_aload_n 0 11 rfl rfl dX7_bearerOf_10 rfl ?_
    refine p_getR 7 4 14 rfl dX7_bearerOf_11 fl_X7_22 hw.1.1.kd rfl hw.1.2.2.2.1 (mk0 (Nat.succ_ne_zero _)) ?_
    refine p_iload_n 1 15 rfl rfl dX7_bearerOf_14 rfl ?_
    refine p_ialdE 16 rfl dX7_bearerOf_15 (kd16 _ _) (lt9 (by omega)) (hw.2.2.1 s (by omega)).2.2 ?_
    refine p_iconst (4) 17 rfl dX7_bearerOf_16 rfl ?_
    refine p_isub 18 rfl dX7_bearerOf_17 ?_
    refine p_goto 22 rfl dX7_bearerOf_18 ?_
    exact p_iret dX7_bearerOf_22 rfl ⟨by
      have h5 : 5 ≤ vP V s := by
        by_cases hh : 5 ≤ vP V s
        · exact hh
        · exact absurd (Int32.not_le.mp (fun q => hh ((pI_ge4 (by omega)).mp q))) h7
      rw [if_pos h5, pI_sub4 h5], rfl⟩
end C32
