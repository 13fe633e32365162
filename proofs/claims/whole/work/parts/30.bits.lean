/-! ===== small methods: bits, greater, less ===== -/
def b2i (b : Bool) : Int32 := if b = true then 1 else 0
def bit (b i : Int32) : Bool := decide (¬ ((b >>> (i &&& 31)) &&& 1) = 0)
def ush (x k : Int32) : Int32 := (x.toUInt32 >>> (k.toUInt32 &&& Int32.toUInt32 31)).toInt32
def bc (x : Int32) : Int32 :=
  let a := x - (ush x 1 &&& 1431655765)
  let b := (a &&& 858993459) + (ush a 2 &&& 858993459)
  let c := (b + ush b 4) &&& 252645135
  let d := c + ush c 8
  let e := d + ush d 16
  e &&& 63
def lbF (b : Int32) : Nat → Nat → Int32
  | 0, _ => -1
  | n + 1, i => if bit b (nI i) = true then nI i else lbF b n (i + 1)
def lb (b : Int32) : Int32 := lbF b 32 0
def mx (a b : Int32) : Int32 := if a < b then b else a
def mnn (a b : Int32) : Int32 := if b < a then b else a
section C30
variable {Γ : Gm} {σ : PH}
theorem p_max {d mc ms : Nat} {mi : MI} {pc : Nat} {L : List (Option Value)} {st : List Value} {Q : PO → PH → Prop} {idx : Nat} {x y : Int32} (q : Nat) (hq : pc + 3 = q) (hd : decode (mC mi) pc = .ok (.invokestatic idx, 3)) (hm : ML (mO mi) idx mJ9_max_7cf53 2) (hdp : 1 ≤ d) (hroom : (st.map fun v => v.category).sum + 13 ≤ 100) (kk : Ok Γ d mc ms mi q L (.int (mx x y) :: st) σ Q) : Ok Γ d mc ms mi pc L (.int y :: .int x :: st) σ Q := by
  subst hq
  intro p e R s m args below meth c' H locs cells slots ls ρ al ρ0 al0 MC MS C hH hS hl hst hE a1 a2 a3 a4
  have hC12 := C.2.2.2.2.2.2.2.2.2.2.2.1
  have hC13 := C.2.2.2.2.2.2.2.2.2.2.2.2
  exact va_mmax C.1 C.2.1 (C.2.2.2.1.trans hl.1.symm) C.2.2.2.2.1 (C.2.2.2.2.2.1 _ hm.1) (C.2.2.2.2.2.1 _ sl_J9_max_7cf53) (C.2.2.2.2.2.1 _ hm.2.1) (C.2.2.2.2.2.1 _ hm.2.2.1) (by omega) (by rw [cat_map]; omega) (by omega) (by omega) hd (kk p e R s m args below meth c' H locs cells slots ls ρ al ρ0 al0 MC MS C hH hS hl (lcs (lv_i _ _) (ltl (ltl hst))) hE a1 a2 a3 a4)
theorem p_min {d mc ms : Nat} {mi : MI} {pc : Nat} {L : List (Option Value)} {st : List Value} {Q : PO → PH → Prop} {idx : Nat} {x y : Int32} (q : Nat) (hq : pc + 3 = q) (hd : decode (mC mi) pc = .ok (.invokestatic idx, 3)) (hm : ML (mO mi) idx mJ9_min_7cf53 2) (hdp : 1 ≤ d) (hroom : (st.map fun v => v.category).sum + 13 ≤ 100) (kk : Ok Γ d mc ms mi q L (.int (mnn x y) :: st) σ Q) : Ok Γ d mc ms mi pc L (.int y :: .int x :: st) σ Q := by
  subst hq
  intro p e R s m args below meth c' H locs cells slots ls ρ al ρ0 al0 MC MS C hH hS hl hst hE a1 a2 a3 a4
  have hC12 := C.2.2.2.2.2.2.2.2.2.2.2.1
  have hC13 := C.2.2.2.2.2.2.2.2.2.2.2.2
  exact va_mmin C.1 C.2.1 (C.2.2.2.1.trans hl.1.symm) C.2.2.2.2.1 (C.2.2.2.2.2.1 _ hm.1) (C.2.2.2.2.2.1 _ sl_J9_min_7cf53) (C.2.2.2.2.2.1 _ hm.2.1) (C.2.2.2.2.2.1 _ hm.2.2.1) (by omega) (by rw [cat_map]; omega) (by omega) (by omega) hd (kk p e R s m args below meth c' H locs cells slots ls ρ al ρ0 al0 MC MS C hH hS hl (lcs (lv_i _ _) (ltl (ltl hst))) hE a1 a2 a3 a4)
set_option maxRecDepth 4000 in
theorem c_hasBit (b i : Int32) : CallOk Γ 1 0 0 mX8_hasBit [.int b, .int i] σ (rI σ (b2i (bit b i))) := by
  refine p_enter rfl rfl (Nat.le_of_ble_eq_true rfl) rfl ?_
  refine p_iload_n 0 1 rfl rfl dX8_hasBit_0 rfl ?_
  refine p_iload_n 1 2 rfl rfl dX8_hasBit_1 rfl ?_
  refine p_ishr 3 rfl dX8_hasBit_2 ?_
  refine p_iconst (1) 4 rfl dX8_hasBit_3 rfl ?_
  refine p_iand 5 rfl dX8_hasBit_4 ?_
  refine p_if_eq 12 8 rfl rfl dX8_hasBit_5 (fun h5 => ?_) (fun h5 => ?_)
  · refine p_iconst (0) 13 rfl dX8_hasBit_12 rfl ?_
    exact p_zret dX8_hasBit_13 rfl rfl ⟨by simp [b2i, bit, h5], rfl⟩
  · refine p_iconst (1) 9 rfl dX8_hasBit_8 rfl ?_
    refine p_goto 13 rfl dX8_hasBit_9 ?_
    exact p_zret dX8_hasBit_13 rfl rfl ⟨by simp [b2i, bit, h5], rfl⟩
set_option maxRecDepth 4000 in
theorem c_bitCount (x : Int32) : CallOk Γ 1 0 0 mJ6_bitCount_0f7a4 [.int x] σ (rI σ (bc x)) := by
  refine p_enter rfl rfl (Nat.le_of_ble_eq_true rfl) rfl ?_
  refine p_iload_n 0 1 rfl rfl dJ6_bitCount_0f7a4_0 rfl ?_
  refine p_iload_n 0 2 rfl rfl dJ6_bitCount_0f7a4_1 rfl ?_
  refine p_iconst (1) 3 rfl dJ6_bitCount_0f7a4_2 rfl ?_
  refine p_iushr 4 rfl dJ6_bitCount_0f7a4_3 ?_
  refine p_ldcw 7 rfl dJ6_bitCount_0f7a4_4 kc_J6_265 ?_
  refine p_iand 8 rfl dJ6_bitCount_0f7a4_7 ?_
  refine p_isub 9 rfl dJ6_bitCount_0f7a4_8 ?_
  refine p_ist_n0 10 rfl rfl dJ6_bitCount_0f7a4_9 (Nat.le_of_ble_eq_true rfl) ?_
  refine p_iload_n 0 11 rfl rfl dJ6_bitCount_0f7a4_10 rfl ?_
  refine p_ldcw 14 rfl dJ6_bitCount_0f7a4_11 kc_J6_266 ?_
  refine p_iand 15 rfl dJ6_bitCount_0f7a4_14 ?_
  refine p_iload_n 0 16 rfl rfl dJ6_bitCount_0f7a4_15 rfl ?_
  refine p_iconst (2) 17 rfl dJ6_bitCount_0f7a4_16 rfl ?_
  refine p_iushr 18 rfl dJ6_bitCount_0f7a4_17 ?_
  refine p_ldcw 21 rfl dJ6_bitCount_0f7a4_18 kc_J6_266 ?_
  refine p_iand 22 rfl dJ6_bitCount_0f7a4_21 ?_
  refine p_iadd 23 rfl dJ6_bitCount_0f7a4_22 ?_
  refine p_ist_n0 24 rfl rfl dJ6_bitCount_0f7a4_23 (Nat.le_of_ble_eq_true rfl) ?_
  refine p_iload_n 0 25 rfl rfl dJ6_bitCount_0f7a4_24 rfl ?_
  refine p_iload_n 0 26 rfl rfl dJ6_bitCount_0f7a4_25 rfl ?_
  refine p_iconst (4) 27 rfl dJ6_bitCount_0f7a4_26 rfl ?_
  refine p_iushr 28 rfl dJ6_bitCount_0f7a4_27 ?_
  refine p_iadd 29 rfl dJ6_bitCount_0f7a4_28 ?_
  refine p_ldcw 32 rfl dJ6_bitCount_0f7a4_29 kc_J6_267 ?_
  refine p_iand 33 rfl dJ6_bitCount_0f7a4_32 ?_
  refine p_ist_n0 34 rfl rfl dJ6_bitCount_0f7a4_33 (Nat.le_of_ble_eq_true rfl) ?_
  refine p_iload_n 0 35 rfl rfl dJ6_bitCount_0f7a4_34 rfl ?_
  refine p_iload_n 0 36 rfl rfl dJ6_bitCount_0f7a4_35 rfl ?_
  refine p_bipush (8) 38 rfl dJ6_bitCount_0f7a4_36 rfl ?_
  refine p_iushr 39 rfl dJ6_bitCount_0f7a4_38 ?_
  refine p_iadd 40 rfl dJ6_bitCount_0f7a4_39 ?_
  refine p_ist_n0 41 rfl rfl dJ6_bitCount_0f7a4_40 (Nat.le_of_ble_eq_true rfl) ?_
  refine p_iload_n 0 42 rfl rfl dJ6_bitCount_0f7a4_41 rfl ?_
  refine p_iload_n 0 43 rfl rfl dJ6_bitCount_0f7a4_42 rfl ?_
  refine p_bipush (16) 45 rfl dJ6_bitCount_0f7a4_43 rfl ?_
  refine p_iushr 46 rfl dJ6_bitCount_0f7a4_45 ?_
  refine p_iadd 47 rfl dJ6_bitCount_0f7a4_46 ?_
  refine p_ist_n0 48 rfl rfl dJ6_bitCount_0f7a4_47 (Nat.le_of_ble_eq_true rfl) ?_
  refine p_iload_n 0 49 rfl rfl dJ6_bitCount_0f7a4_48 rfl ?_
  refine p_bipush (63) 51 rfl dJ6_bitCount_0f7a4_49 rfl ?_
  refine p_iand 52 rfl dJ6_bitCount_0f7a4_51 ?_
  exact p_iret dJ6_bitCount_0f7a4_52 rfl ⟨rfl, rfl⟩
set_option maxRecDepth 4000 in
theorem l_leastBit (b : Int32) : ∀ (n i : Nat), i + n = 32 → Ok Γ 2 0 0 mX8_leastBit 2 [some (.int b), some (.int (nI i))] [] σ (rI σ (lbF b n i)) := by
  intro n
  induction n with
  | zero =>
    intro i hi
    refine p_iload_n 1 3 rfl rfl dX8_leastBit_2 rfl ?_
    refine p_bipush (32) 5 rfl dX8_leastBit_3 rfl ?_
    refine p_icmp_ge 24 8 rfl rfl dX8_leastBit_5 (fun h5 => ?_) (fun h5 => absurd (nI_le (a := 32) (b := i) (by omega) (by omega)) h5)
    refine p_iconst (-1) 25 rfl dX8_leastBit_24 rfl ?_
    exact p_iret dX8_leastBit_25 rfl ⟨rfl, rfl⟩
  | succ n ih =>
    intro i hi
    refine p_iload_n 1 3 rfl rfl dX8_leastBit_2 rfl ?_
    refine p_bipush (32) 5 rfl dX8_leastBit_3 rfl ?_
    refine p_icmp_ge 24 8 rfl rfl dX8_leastBit_5 (fun h5 => absurd h5 (nI_ge (a := i) (b := 32) (by omega) (by omega))) (fun h5 => ?_)
    refine p_iload_n 0 9 rfl rfl dX8_leastBit_8 rfl ?_
    refine p_iload_n 1 10 rfl rfl dX8_leastBit_9 rfl ?_
    refine p_cS2i 13 rfl dX8_leastBit_10 (c_hasBit _ _) ml_X8_274 sl_X8_hasBit (Nat.le_of_ble_eq_true rfl) (Nat.le_of_ble_eq_true rfl) rfl ?_
    refine p_if_eq 18 16 rfl rfl dX8_leastBit_13 (fun h13 => ?_) (fun h13 => ?_)
    · refine p_inc_1 21 rfl dX8_leastBit_18 (1) rfl (Nat.le_of_ble_eq_true rfl) rfl ?_
      refine p_goto 2 rfl dX8_leastBit_21 ?_
      have hb : ¬ bit b (nI i) = true := fun hh => by simp [b2i, hh] at h13
      rw [nI_1]
      have := ih (i + 1) (by omega)
      simp only [lbF, if_neg hb]
      exact this
    · refine p_iload_n 1 17 rfl rfl dX8_leastBit_16 rfl ?_
      exact p_iret dX8_leastBit_17 rfl ⟨by
        have hb : bit b (nI i) = true := by
          by_cases hh : bit b (nI i) = true
          · exact hh
          · exact absurd (by simp [b2i, hh]) h13
        simp [lbF, hb], rfl⟩
set_option maxRecDepth 4000 in
theorem c_leastBit (b : Int32) : CallOk Γ 2 0 0 mX8_leastBit [.int b] σ (rI σ (lb b)) := by
  refine p_enter rfl rfl (Nat.le_of_ble_eq_true rfl) rfl ?_
  refine p_iconst (0) 1 rfl dX8_leastBit_0 rfl ?_
  refine p_ist_n1 2 rfl rfl dX8_leastBit_1 (Nat.le_of_ble_eq_true rfl) rfl ?_
  exact l_leastBit b 32 0 rfl
end C30
