/-! ===== the reference: tokens ===== -/
def rJ (σ : PH) (v : Int64) : PO → PH → Prop := fun o σ' => o = .inl (some (.long v)) ∧ σ' = σ
section CJ
variable {Γ : Gm} {d mc ms : Nat} {mi : MI} {pc : Nat} {L : List (Option Value)} {st : List Value} {σ : PH} {Q : PO → PH → Prop}
theorem p_cS1j {idx d1 : Nat} {mi1 : MI} {u0 : Value} {v : Int64} (q : Nat) (hq : pc + 3 = q) (hd : decode (mC mi) pc = .ok (.invokestatic idx, 3)) (hM : CallOk Γ d1 0 0 mi1 [u0] σ (rJ σ v)) (hm : ML (mO mi) idx mi1 1) (hv : SL mi1) (hw8 : (st.map fun v => v.category).sum ≤ 8) (hdd : d1 + 1 ≤ d) (hh : mH mi = []) (k : Ok Γ d mc ms mi q L (.long v :: st) σ Q) : Ok Γ d mc ms mi pc L (u0 :: st) σ Q :=
  p_callS (as := [u0]) (st := st) q hq hd hM hm hv rfl rfl hw8 hdd (mc2 := mc) (ms2 := ms) (by omega) (by omega) hh (fun v0 σ1 h => by cases h.1; cases h.2; exact k) (fun x σ1 h => by cases h.1)
theorem p_cS6j {idx d1 : Nat} {mi1 : MI} {u0 u1 u2 u3 u4 u5 : Value} {v : Int64} (q : Nat) (hq : pc + 3 = q) (hd : decode (mC mi) pc = .ok (.invokestatic idx, 3)) (hM : CallOk Γ d1 0 0 mi1 [u0, u1, u2, u3, u4, u5] σ (rJ σ v)) (hm : ML (mO mi) idx mi1 6) (hv : SL mi1) (hw8 : (st.map fun v => v.category).sum ≤ 8) (hdd : d1 + 1 ≤ d) (hh : mH mi = []) (k : Ok Γ d mc ms mi q L (.long v :: st) σ Q) : Ok Γ d mc ms mi pc L (u5 :: u4 :: u3 :: u2 :: u1 :: u0 :: st) σ Q :=
  p_callS (as := [u0, u1, u2, u3, u4, u5]) (st := st) q hq hd hM hm hv rfl rfl hw8 hdd (mc2 := mc) (ms2 := ms) (by omega) (by omega) hh (fun v0 σ1 h => by cases h.1; cases h.2; exact k) (fun x σ1 h => by cases h.1)
end CJ
def Fj (XI X : List Nat) (σ σ' : PH) : Prop := hn σ' = hn σ ∧ hL σ' = hL σ ∧ hR σ' = hR σ ∧ (∀ r k, (r = M0 → k ∉ XI) → hI σ' r k = hI σ r k) ∧ ∀ r, r ∉ X → hA σ' r = hA σ r
theorem Fj.rf {XI X : List Nat} {σ : PH} : Fj XI X σ σ := ⟨rfl, rfl, rfl, fun _ _ _ => rfl, fun _ _ => rfl⟩
theorem Fj.tr {XI X : List Nat} {σ σ1 σ2 : PH} (h : Fj XI X σ σ1) (g : Fj XI X σ1 σ2) : Fj XI X σ σ2 := ⟨g.1.trans h.1, g.2.1.trans h.2.1, g.2.2.1.trans h.2.2.1, fun r k q => (g.2.2.2.1 r k q).trans (h.2.2.2.1 r k q), fun r q => (g.2.2.2.2 r q).trans (h.2.2.2.2 r q)⟩
theorem Fj.sI {XI X : List Nat} {σ : PH} {k : Nat} {v : Int32} (h : k ∈ XI) : Fj XI X σ (sI σ M0 k v) := ⟨rfl, rfl, rfl, fun r j q => hI_sIo (fun e => by cases e; exact q rfl h), fun _ _ => rfl⟩
theorem Fj.sJ {XI X : List Nat} {σ : PH} {k : Nat} {v : Int64} : Fj XI X σ (sJ σ M0 k v) := ⟨rfl, rfl, rfl, fun _ _ _ => rfl, fun _ _ => rfl⟩
theorem Fj.sA {XI X : List Nat} {σ : PH} {r i : Nat} {x : Int32} (h : r ∈ X) : Fj XI X σ (sA σ r i x) := ⟨rfl, rfl, rfl, fun _ _ _ => rfl, fun q hq => sA_o (fun e => hq (by rw [e]; exact h))⟩
theorem Fj.up {XI X YI Y : List Nat} {σ σ' : PH} (h : Fj XI X σ σ') (h1 : XI.all (fun k => YI.contains k) = true) (h2 : X.all (fun r => Y.contains r) = true) : Fj YI Y σ σ' :=
  ⟨h.1, h.2.1, h.2.2.1, fun r k q => h.2.2.2.1 r k (fun e z => q e (by have := List.all_eq_true.mp h1 _ z; simpa using this)), fun r hr => h.2.2.2.2 r (fun z => hr (by have := List.all_eq_true.mp h2 _ z; simpa using this))⟩
theorem Fj.i {XI X : List Nat} {σ σ' : PH} (h : Fj XI X σ σ') {k : Nat} (hk : k ∉ XI) : hI σ' M0 k = hI σ M0 k := h.2.2.2.1 M0 k (fun _ => hk)
theorem hJ_sJ (σ : PH) (r k : Nat) (v : Int64) : hJ (sJ σ r k v) r k = v := by show va_up (hJ σ) r (va_up (hJ σ r) k v) r k = v; rw [va_ups, va_ups]
theorem hJ_sI (σ : PH) (r k : Nat) (v : Int32) : hJ (sI σ r k v) = hJ σ := rfl
theorem hI_sJ (σ : PH) (r k : Nat) (v : Int64) : hI (sJ σ r k v) = hI σ := rfl
def sh5 (v : Int64) (c : Int32) : Int64 := v <<< ((5 : Int32).toInt64 &&& 63) ||| (c - 96).toInt64
def spV (a b c d e f : Int32) : Int64 :=
  let v0 := sh5 (a.toInt64 - 96) b
  let v1 := if c = 0 then v0 else sh5 v0 c
  let v2 := if d = 0 then v1 else sh5 v1 d
  let v3 := if e = 0 then v2 else sh5 v2 e
  if f = 0 then v3 else sh5 v3 f
def kwl (k : Nat) : Nat := [28, 29, 14, 30, 23, 24, 25, 26, 27, 15, 16, 17, 18, 19, 22, 21, 20].getD k 0
def wvL : List Nat → Nat := fun w => w.foldl (fun a c => a * 32 + (c - 96)) 0
def lwJ (k : Nat) : Int64 := Int64.ofNat (wvL (swd (kwl k)))
def wvF (tx : Nat → Nat) (s : Nat) : Nat → Nat
  | 0 => 0
  | j + 1 => wvF tx s j * 32 + (tx (s + j) - 96)
def bAt (tx : Nat → Nat) (z k : Nat) : Nat := if k < z then tx k else 0
def TpM (σ : PH) (tx : Nat → Nat) (z : Nat) : Prop := (∀ k, hR σ M0 k = mRef k) ∧ z ≤ 700 ∧ (∀ i, tx i < 256) ∧ ∀ i, i < z → hA σ mTp i = nI (tx i)
def TkM (σ : PH) (tx : Nat → Nat) (z k s e n : Nat) : Prop := (hI σ M0 17 = nI z ∧ hI σ M0 18 = nI e ∧ hI σ M0 19 = nI k ∧ hI σ M0 20 = nI s ∧ hI σ M0 21 = nI (e - s)) ∧ (k = 2 → (e - s ≤ 4 → hI σ M0 22 = nI n) ∧ n = num tx s e) ∧ (k ≠ 0 → hI σ M0 23 = nI (tx s)) ∧ (k = 1 → e - s ≤ 6 → hJ σ M0 24 = Int64.ofNat (wvF tx s (e - s))) ∧ (s ≤ e ∧ e ≤ z) ∧ (k = 1 ∨ k = 2 → ∀ j, s ≤ j → j < e → kOf (tx j) = k)
def TkS (σ : PH) (tx : Nat → Nat) (z : Nat) (S : RS) : Prop := TkM σ tx z S.2.2.1 S.2.2.2.1 S.2.2.2.2.1 S.2.2.2.2.2
theorem TpM.fr {σ σ' : PH} {tx : Nat → Nat} {z : Nat} {XI X : List Nat} (h : TpM σ tx z) (hf : Fj XI X σ σ') (hx : X.contains mTp = false) : TpM σ' tx z := ⟨fun k => by rw [hf.2.2.1]; exact h.1 k, h.2.1, h.2.2.1, fun i hi => by rw [hf.2.2.2.2 mTp (by simpa using hx)]; exact h.2.2.2 i hi⟩
theorem nI64 : ∀ d, d < 32 → (nI d).toInt64 = Int64.ofNat d := by decide +kernel
theorem sh5_n {a b : Nat} (h1 : 96 ≤ b) (h2 : b < 128) : sh5 (Int64.ofNat a) (nI b) = Int64.ofNat (a * 32 + (b - 96)) := by
  unfold sh5
  rw [show nI b - 96 = nI (b - 96) from nI_sb (b := 96) h1, nI64 _ (by omega), show (5 : Int32).toInt64 &&& 63 = 5 by decide]
  apply Int64.toBitVec_inj.1
  rw [Int64.toBitVec_or, Int64.toBitVec_shiftLeft]
  show (BitVec.ofNat 64 a) <<< (5#64).smod 64#64 ||| BitVec.ofNat 64 (b - 96) = BitVec.ofNat 64 (a * 32 + (b - 96))
  rw [show (5#64).smod 64#64 = 5#64 by decide]
  apply BitVec.eq_of_getLsbD_eq
  intro i hi
  rw [BitVec.getLsbD_or, BitVec.shiftLeft_eq', BitVec.getLsbD_shiftLeft, BitVec.getLsbD_ofNat, BitVec.getLsbD_ofNat, BitVec.getLsbD_ofNat, show (5#64).toNat = 5 from rfl, show a * 32 + (b - 96) = 2 ^ 5 * a + (b - 96) by omega, Nat.testBit_two_pow_mul_add _ (show b - 96 < 2 ^ 5 by omega)]
  by_cases h5 : i < 5
  · rw [if_pos h5, decide_eq_true h5]; simp
  · rw [if_neg h5, decide_eq_false h5, Nat.testBit_lt_two_pow (Nat.lt_of_lt_of_le (show b - 96 < 2 ^ 5 by omega) (Nat.pow_le_pow_right (by decide) (by omega)))]
    simp [show i - 5 < 64 by omega]
section Ca0
variable {Γ : Gm} {σ : PH} {tx : Nat → Nat} {z : Nat}
set_option maxRecDepth 4000 in
theorem c_spelled (a b c d e f : Int32) : CallOk Γ 1 0 0 mX9_spelled [.int a, .int b, .int c, .int d, .int e, .int f] σ (rJ σ (spV a b c d e f)) := by
  refine p_enter rfl rfl (Nat.le_of_ble_eq_true rfl) rfl ?_
  refine p_iload_n 0 1 rfl rfl dX9_spelled_0 rfl ?_
  refine p_i2l 2 rfl dX9_spelled_1 ?_
  refine p_ldc2 5 rfl dX9_spelled_2 kl_X9_148 ?_
  refine p_lsub 6 rfl dX9_spelled_5 ?_
  refine p_iconst (5) 7 rfl dX9_spelled_6 rfl ?_
  refine p_lshl 8 rfl dX9_spelled_7 ?_
  refine p_iload_n 1 9 rfl rfl dX9_spelled_8 rfl ?_
  refine p_bipush (96) 11 rfl dX9_spelled_9 rfl ?_
  refine p_isub 12 rfl dX9_spelled_11 ?_
  refine p_i2l 13 rfl dX9_spelled_12 ?_
  refine p_lor 14 rfl dX9_spelled_13 ?_
  refine p_lst_6 16 rfl dX9_spelled_14 (Nat.le_of_ble_eq_true rfl) rfl ?_
  refine p_iload_n 2 17 rfl rfl dX9_spelled_16 rfl ?_
  refine p_if_eq 32 20 rfl rfl dX9_spelled_17 (fun h17 => ?_) (fun h17 => ?_)
  · refine p_iload_n 3 33 rfl rfl dX9_spelled_32 rfl ?_
    refine p_if_eq 48 36 rfl rfl dX9_spelled_33 (fun h33 => ?_) (fun h33 => ?_)
    · refine p_iload 4 50 rfl dX9_spelled_48 rfl ?_
      refine p_if_eq 66 53 rfl rfl dX9_spelled_50 (fun h50 => ?_) (fun h50 => ?_)
      · refine p_iload 5 68 rfl dX9_spelled_66 rfl ?_
        refine p_if_eq 84 71 rfl rfl dX9_spelled_68 (fun h68 => ?_) (fun h68 => ?_)
        · refine p_lload 6 86 rfl dX9_spelled_84 rfl ?_
          exact p_lret dX9_spelled_86 rfl ⟨by simp [spV, sh5, h17, h33, h50, h68], rfl⟩
        · refine p_lload 6 73 rfl dX9_spelled_71 rfl ?_
          refine p_iconst (5) 74 rfl dX9_spelled_73 rfl ?_
          refine p_lshl 75 rfl dX9_spelled_74 ?_
          refine p_iload 5 77 rfl dX9_spelled_75 rfl ?_
          refine p_bipush (96) 79 rfl dX9_spelled_77 rfl ?_
          refine p_isub 80 rfl dX9_spelled_79 ?_
          refine p_i2l 81 rfl dX9_spelled_80 ?_
          refine p_lor 82 rfl dX9_spelled_81 ?_
          refine p_lst_6 84 rfl dX9_spelled_82 (Nat.le_of_ble_eq_true rfl) rfl ?_
          refine p_lload 6 86 rfl dX9_spelled_84 rfl ?_
          exact p_lret dX9_spelled_86 rfl ⟨by simp [spV, sh5, h17, h33, h50, h68], rfl⟩
      · refine p_lload 6 55 rfl dX9_spelled_53 rfl ?_
        refine p_iconst (5) 56 rfl dX9_spelled_55 rfl ?_
        refine p_lshl 57 rfl dX9_spelled_56 ?_
        refine p_iload 4 59 rfl dX9_spelled_57 rfl ?_
        refine p_bipush (96) 61 rfl dX9_spelled_59 rfl ?_
        refine p_isub 62 rfl dX9_spelled_61 ?_
        refine p_i2l 63 rfl dX9_spelled_62 ?_
        refine p_lor 64 rfl dX9_spelled_63 ?_
        refine p_lst_6 66 rfl dX9_spelled_64 (Nat.le_of_ble_eq_true rfl) rfl ?_
        refine p_iload 5 68 rfl dX9_spelled_66 rfl ?_
        refine p_if_eq 84 71 rfl rfl dX9_spelled_68 (fun h68 => ?_) (fun h68 => ?_)
        · refine p_lload 6 86 rfl dX9_spelled_84 rfl ?_
          exact p_lret dX9_spelled_86 rfl ⟨by simp [spV, sh5, h17, h33, h50, h68], rfl⟩
        · refine p_lload 6 73 rfl dX9_spelled_71 rfl ?_
          refine p_iconst (5) 74 rfl dX9_spelled_73 rfl ?_
          refine p_lshl 75 rfl dX9_spelled_74 ?_
          refine p_iload 5 77 rfl dX9_spelled_75 rfl ?_
          refine p_bipush (96) 79 rfl dX9_spelled_77 rfl ?_
          refine p_isub 80 rfl dX9_spelled_79 ?_
          refine p_i2l 81 rfl dX9_spelled_80 ?_
          refine p_lor 82 rfl dX9_spelled_81 ?_
          refine p_lst_6 84 rfl dX9_spelled_82 (Nat.le_of_ble_eq_true rfl) rfl ?_
          refine p_lload 6 86 rfl dX9_spelled_84 rfl ?_
          exact p_lret dX9_spelled_86 rfl ⟨by simp [spV, sh5, h17, h33, h50, h68], rfl⟩
    · refine p_lload 6 38 rfl dX9_spelled_36 rfl ?_
      refine p_iconst (5) 39 rfl dX9_spelled_38 rfl ?_
      refine p_lshl 40 rfl dX9_spelled_39 ?_
      refine p_iload_n 3 41 rfl rfl dX9_spelled_40 rfl ?_
      refine p_bipush (96) 43 rfl dX9_spelled_41 rfl ?_
      refine p_isub 44 rfl dX9_spelled_43 ?_
      refine p_i2l 45 rfl dX9_spelled_44 ?_
      refine p_lor 46 rfl dX9_spelled_45 ?_
      refine p_lst_6 48 rfl dX9_spelled_46 (Nat.le_of_ble_eq_true rfl) rfl ?_
      refine p_iload 4 50 rfl dX9_spelled_48 rfl ?_
      refine p_if_eq 66 53 rfl rfl dX9_spelled_50 (fun h50 => ?_) (fun h50 => ?_)
      · refine p_iload 5 68 rfl dX9_spelled_66 rfl ?_
        refine p_if_eq 84 71 rfl rfl dX9_spelled_68 (fun h68 => ?_) (fun h68 => ?_)
        · refine p_lload 6 86 rfl dX9_spelled_84 rfl ?_
          exact p_lret dX9_spelled_86 rfl ⟨by simp [spV, sh5, h17, h33, h50, h68], rfl⟩
        · refine p_lload 6 73 rfl dX9_spelled_71 rfl ?_
          refine p_iconst (5) 74 rfl dX9_spelled_73 rfl ?_
          refine p_lshl 75 rfl dX9_spelled_74 ?_
          refine p_iload 5 77 rfl dX9_spelled_75 rfl ?_
          refine p_bipush (96) 79 rfl dX9_spelled_77 rfl ?_
          refine p_isub 80 rfl dX9_spelled_79 ?_
          refine p_i2l 81 rfl dX9_spelled_80 ?_
          refine p_lor 82 rfl dX9_spelled_81 ?_
          refine p_lst_6 84 rfl dX9_spelled_82 (Nat.le_of_ble_eq_true rfl) rfl ?_
          refine p_lload 6 86 rfl dX9_spelled_84 rfl ?_
          exact p_lret dX9_spelled_86 rfl ⟨by simp [spV, sh5, h17, h33, h50, h68], rfl⟩
      · refine p_lload 6 55 rfl dX9_spelled_53 rfl ?_
        refine p_iconst (5) 56 rfl dX9_spelled_55 rfl ?_
        refine p_lshl 57 rfl dX9_spelled_56 ?_
        refine p_iload 4 59 rfl dX9_spelled_57 rfl ?_
        refine p_bipush (96) 61 rfl dX9_spelled_59 rfl ?_
        refine p_isub 62 rfl dX9_spelled_61 ?_
        refine p_i2l 63 rfl dX9_spelled_62 ?_
        refine p_lor 64 rfl dX9_spelled_63 ?_
        refine p_lst_6 66 rfl dX9_spelled_64 (Nat.le_of_ble_eq_true rfl) rfl ?_
        refine p_iload 5 68 rfl dX9_spelled_66 rfl ?_
        refine p_if_eq 84 71 rfl rfl dX9_spelled_68 (fun h68 => ?_) (fun h68 => ?_)
        · refine p_lload 6 86 rfl dX9_spelled_84 rfl ?_
          exact p_lret dX9_spelled_86 rfl ⟨by simp [spV, sh5, h17, h33, h50, h68], rfl⟩
        · refine p_lload 6 73 rfl dX9_spelled_71 rfl ?_
          refine p_iconst (5) 74 rfl dX9_spelled_73 rfl ?_
          refine p_lshl 75 rfl dX9_spelled_74 ?_
          refine p_iload 5 77 rfl dX9_spelled_75 rfl ?_
          refine p_bipush (96) 79 rfl dX9_spelled_77 rfl ?_
          refine p_isub 80 rfl dX9_spelled_79 ?_
          refine p_i2l 81 rfl dX9_spelled_80 ?_
          refine p_lor 82 rfl dX9_spelled_81 ?_
          refine p_lst_6 84 rfl dX9_spelled_82 (Nat.le_of_ble_eq_true rfl) rfl ?_
          refine p_lload 6 86 rfl dX9_spelled_84 rfl ?_
          exact p_lret dX9_spelled_86 rfl ⟨by simp [spV, sh5, h17, h33, h50, h68], rfl⟩
  · refine p_lload 6 22 rfl dX9_spelled_20 rfl ?_
    refine p_iconst (5) 23 rfl dX9_spelled_22 rfl ?_
    refine p_lshl 24 rfl dX9_spelled_23 ?_
    refine p_iload_n 2 25 rfl rfl dX9_spelled_24 rfl ?_
    refine p_bipush (96) 27 rfl dX9_spelled_25 rfl ?_
    refine p_isub 28 rfl dX9_spelled_27 ?_
    refine p_i2l 29 rfl dX9_spelled_28 ?_
    refine p_lor 30 rfl dX9_spelled_29 ?_
    refine p_lst_6 32 rfl dX9_spelled_30 (Nat.le_of_ble_eq_true rfl) rfl ?_
    refine p_iload_n 3 33 rfl rfl dX9_spelled_32 rfl ?_
    refine p_if_eq 48 36 rfl rfl dX9_spelled_33 (fun h33 => ?_) (fun h33 => ?_)
    · refine p_iload 4 50 rfl dX9_spelled_48 rfl ?_
      refine p_if_eq 66 53 rfl rfl dX9_spelled_50 (fun h50 => ?_) (fun h50 => ?_)
      · refine p_iload 5 68 rfl dX9_spelled_66 rfl ?_
        refine p_if_eq 84 71 rfl rfl dX9_spelled_68 (fun h68 => ?_) (fun h68 => ?_)
        · refine p_lload 6 86 rfl dX9_spelled_84 rfl ?_
          exact p_lret dX9_spelled_86 rfl ⟨by simp [spV, sh5, h17, h33, h50, h68], rfl⟩
        · refine p_lload 6 73 rfl dX9_spelled_71 rfl ?_
          refine p_iconst (5) 74 rfl dX9_spelled_73 rfl ?_
          refine p_lshl 75 rfl dX9_spelled_74 ?_
          refine p_iload 5 77 rfl dX9_spelled_75 rfl ?_
          refine p_bipush (96) 79 rfl dX9_spelled_77 rfl ?_
          refine p_isub 80 rfl dX9_spelled_79 ?_
          refine p_i2l 81 rfl dX9_spelled_80 ?_
          refine p_lor 82 rfl dX9_spelled_81 ?_
          refine p_lst_6 84 rfl dX9_spelled_82 (Nat.le_of_ble_eq_true rfl) rfl ?_
          refine p_lload 6 86 rfl dX9_spelled_84 rfl ?_
          exact p_lret dX9_spelled_86 rfl ⟨by simp [spV, sh5, h17, h33, h50, h68], rfl⟩
      · refine p_lload 6 55 rfl dX9_spelled_53 rfl ?_
        refine p_iconst (5) 56 rfl dX9_spelled_55 rfl ?_
        refine p_lshl 57 rfl dX9_spelled_56 ?_
        refine p_iload 4 59 rfl dX9_spelled_57 rfl ?_
        refine p_bipush (96) 61 rfl dX9_spelled_59 rfl ?_
        refine p_isub 62 rfl dX9_spelled_61 ?_
        refine p_i2l 63 rfl dX9_spelled_62 ?_
        refine p_lor 64 rfl dX9_spelled_63 ?_
        refine p_lst_6 66 rfl dX9_spelled_64 (Nat.le_of_ble_eq_true rfl) rfl ?_
        refine p_iload 5 68 rfl dX9_spelled_66 rfl ?_
        refine p_if_eq 84 71 rfl rfl dX9_spelled_68 (fun h68 => ?_) (fun h68 => ?_)
        · refine p_lload 6 86 rfl dX9_spelled_84 rfl ?_
          exact p_lret dX9_spelled_86 rfl ⟨by simp [spV, sh5, h17, h33, h50, h68], rfl⟩
        · refine p_lload 6 73 rfl dX9_spelled_71 rfl ?_
          refine p_iconst (5) 74 rfl dX9_spelled_73 rfl ?_
          refine p_lshl 75 rfl dX9_spelled_74 ?_
          refine p_iload 5 77 rfl dX9_spelled_75 rfl ?_
          refine p_bipush (96) 79 rfl dX9_spelled_77 rfl ?_
          refine p_isub 80 rfl dX9_spelled_79 ?_
          refine p_i2l 81 rfl dX9_spelled_80 ?_
          refine p_lor 82 rfl dX9_spelled_81 ?_
          refine p_lst_6 84 rfl dX9_spelled_82 (Nat.le_of_ble_eq_true rfl) rfl ?_
          refine p_lload 6 86 rfl dX9_spelled_84 rfl ?_
          exact p_lret dX9_spelled_86 rfl ⟨by simp [spV, sh5, h17, h33, h50, h68], rfl⟩
    · refine p_lload 6 38 rfl dX9_spelled_36 rfl ?_
      refine p_iconst (5) 39 rfl dX9_spelled_38 rfl ?_
      refine p_lshl 40 rfl dX9_spelled_39 ?_
      refine p_iload_n 3 41 rfl rfl dX9_spelled_40 rfl ?_
      refine p_bipush (96) 43 rfl dX9_spelled_41 rfl ?_
      refine p_isub 44 rfl dX9_spelled_43 ?_
      refine p_i2l 45 rfl dX9_spelled_44 ?_
      refine p_lor 46 rfl dX9_spelled_45 ?_
      refine p_lst_6 48 rfl dX9_spelled_46 (Nat.le_of_ble_eq_true rfl) rfl ?_
      refine p_iload 4 50 rfl dX9_spelled_48 rfl ?_
      refine p_if_eq 66 53 rfl rfl dX9_spelled_50 (fun h50 => ?_) (fun h50 => ?_)
      · refine p_iload 5 68 rfl dX9_spelled_66 rfl ?_
        refine p_if_eq 84 71 rfl rfl dX9_spelled_68 (fun h68 => ?_) (fun h68 => ?_)
        · refine p_lload 6 86 rfl dX9_spelled_84 rfl ?_
          exact p_lret dX9_spelled_86 rfl ⟨by simp [spV, sh5, h17, h33, h50, h68], rfl⟩
        · refine p_lload 6 73 rfl dX9_spelled_71 rfl ?_
          refine p_iconst (5) 74 rfl dX9_spelled_73 rfl ?_
          refine p_lshl 75 rfl dX9_spelled_74 ?_
          refine p_iload 5 77 rfl dX9_spelled_75 rfl ?_
          refine p_bipush (96) 79 rfl dX9_spelled_77 rfl ?_
          refine p_isub 80 rfl dX9_spelled_79 ?_
          refine p_i2l 81 rfl dX9_spelled_80 ?_
          refine p_lor 82 rfl dX9_spelled_81 ?_
          refine p_lst_6 84 rfl dX9_spelled_82 (Nat.le_of_ble_eq_true rfl) rfl ?_
          refine p_lload 6 86 rfl dX9_spelled_84 rfl ?_
          exact p_lret dX9_spelled_86 rfl ⟨by simp [spV, sh5, h17, h33, h50, h68], rfl⟩
      · refine p_lload 6 55 rfl dX9_spelled_53 rfl ?_
        refine p_iconst (5) 56 rfl dX9_spelled_55 rfl ?_
        refine p_lshl 57 rfl dX9_spelled_56 ?_
        refine p_iload 4 59 rfl dX9_spelled_57 rfl ?_
        refine p_bipush (96) 61 rfl dX9_spelled_59 rfl ?_
        refine p_isub 62 rfl dX9_spelled_61 ?_
        refine p_i2l 63 rfl dX9_spelled_62 ?_
        refine p_lor 64 rfl dX9_spelled_63 ?_
        refine p_lst_6 66 rfl dX9_spelled_64 (Nat.le_of_ble_eq_true rfl) rfl ?_
        refine p_iload 5 68 rfl dX9_spelled_66 rfl ?_
        refine p_if_eq 84 71 rfl rfl dX9_spelled_68 (fun h68 => ?_) (fun h68 => ?_)
        · refine p_lload 6 86 rfl dX9_spelled_84 rfl ?_
          exact p_lret dX9_spelled_86 rfl ⟨by simp [spV, sh5, h17, h33, h50, h68], rfl⟩
        · refine p_lload 6 73 rfl dX9_spelled_71 rfl ?_
          refine p_iconst (5) 74 rfl dX9_spelled_73 rfl ?_
          refine p_lshl 75 rfl dX9_spelled_74 ?_
          refine p_iload 5 77 rfl dX9_spelled_75 rfl ?_
          refine p_bipush (96) 79 rfl dX9_spelled_77 rfl ?_
          refine p_isub 80 rfl dX9_spelled_79 ?_
          refine p_i2l 81 rfl dX9_spelled_80 ?_
          refine p_lor 82 rfl dX9_spelled_81 ?_
          refine p_lst_6 84 rfl dX9_spelled_82 (Nat.le_of_ble_eq_true rfl) rfl ?_
          refine p_lload 6 86 rfl dX9_spelled_84 rfl ?_
          exact p_lret dX9_spelled_86 rfl ⟨by simp [spV, sh5, h17, h33, h50, h68], rfl⟩
set_option maxRecDepth 4000 in
theorem c_let0  : CallOk Γ 2 0 0 mX9_letters [.int (nI 0)] σ (rJ σ (lwJ 0)) := by
  refine p_enter rfl rfl (Nat.le_of_ble_eq_true rfl) rfl ?_
  refine p_iload_n 0 1 rfl rfl dX9_letters_0 rfl ?_
  refine p_tswIn (off := 79) 80 rfl dX9_letters_1 (by decide) (by decide) rfl ?_
  refine p_bipush (108) 82 rfl dX9_letters_80 rfl ?_
  refine p_bipush (101) 84 rfl dX9_letters_82 rfl ?_
  refine p_bipush (102) 86 rfl dX9_letters_84 rfl ?_
  refine p_bipush (116) 88 rfl dX9_letters_86 rfl ?_
  refine p_iconst (0) 89 rfl dX9_letters_88 rfl ?_
  refine p_iconst (0) 90 rfl dX9_letters_89 rfl ?_
  refine p_cS6j 93 rfl dX9_letters_90 (c_spelled _ _ _ _ _ _) ml_X9_150 sl_X9_spelled (Nat.le_of_ble_eq_true rfl) (Nat.le_of_ble_eq_true rfl) rfl ?_
  exact p_lret dX9_letters_93 rfl ⟨congrArg (fun v => Sum.inl (some (Value.long v))) (by decide +kernel), rfl⟩
set_option maxRecDepth 4000 in
theorem c_let1  : CallOk Γ 2 0 0 mX9_letters [.int (nI 1)] σ (rJ σ (lwJ 1)) := by
  refine p_enter rfl rfl (Nat.le_of_ble_eq_true rfl) rfl ?_
  refine p_iload_n 0 1 rfl rfl dX9_letters_0 rfl ?_
  refine p_tswIn (off := 93) 94 rfl dX9_letters_1 (by decide) (by decide) rfl ?_
  refine p_bipush (114) 96 rfl dX9_letters_94 rfl ?_
  refine p_bipush (105) 98 rfl dX9_letters_96 rfl ?_
  refine p_bipush (103) 100 rfl dX9_letters_98 rfl ?_
  refine p_bipush (104) 102 rfl dX9_letters_100 rfl ?_
  refine p_bipush (116) 104 rfl dX9_letters_102 rfl ?_
  refine p_iconst (0) 105 rfl dX9_letters_104 rfl ?_
  refine p_cS6j 108 rfl dX9_letters_105 (c_spelled _ _ _ _ _ _) ml_X9_150 sl_X9_spelled (Nat.le_of_ble_eq_true rfl) (Nat.le_of_ble_eq_true rfl) rfl ?_
  exact p_lret dX9_letters_108 rfl ⟨congrArg (fun v => Sum.inl (some (Value.long v))) (by decide +kernel), rfl⟩
set_option maxRecDepth 4000 in
theorem c_let2  : CallOk Γ 2 0 0 mX9_letters [.int (nI 2)] σ (rJ σ (lwJ 2)) := by
  refine p_enter rfl rfl (Nat.le_of_ble_eq_true rfl) rfl ?_
  refine p_iload_n 0 1 rfl rfl dX9_letters_0 rfl ?_
  refine p_tswIn (off := 108) 109 rfl dX9_letters_1 (by decide) (by decide) rfl ?_
  refine p_bipush (115) 111 rfl dX9_letters_109 rfl ?_
  refine p_bipush (104) 113 rfl dX9_letters_111 rfl ?_
  refine p_bipush (101) 115 rfl dX9_letters_113 rfl ?_
  refine p_bipush (101) 117 rfl dX9_letters_115 rfl ?_
  refine p_bipush (116) 119 rfl dX9_letters_117 rfl ?_
  refine p_iconst (0) 120 rfl dX9_letters_119 rfl ?_
  refine p_cS6j 123 rfl dX9_letters_120 (c_spelled _ _ _ _ _ _) ml_X9_150 sl_X9_spelled (Nat.le_of_ble_eq_true rfl) (Nat.le_of_ble_eq_true rfl) rfl ?_
  exact p_lret dX9_letters_123 rfl ⟨congrArg (fun v => Sum.inl (some (Value.long v))) (by decide +kernel), rfl⟩
set_option maxRecDepth 4000 in
theorem c_let3  : CallOk Γ 2 0 0 mX9_letters [.int (nI 3)] σ (rJ σ (lwJ 3)) := by
  refine p_enter rfl rfl (Nat.le_of_ble_eq_true rfl) rfl ?_
  refine p_iload_n 0 1 rfl rfl dX9_letters_0 rfl ?_
  refine p_tswIn (off := 123) 124 rfl dX9_letters_1 (by decide) (by decide) rfl ?_
  refine p_bipush (98) 126 rfl dX9_letters_124 rfl ?_
  refine p_bipush (111) 128 rfl dX9_letters_126 rfl ?_
  refine p_bipush (114) 130 rfl dX9_letters_128 rfl ?_
  refine p_bipush (110) 132 rfl dX9_letters_130 rfl ?_
  refine p_bipush (101) 134 rfl dX9_letters_132 rfl ?_
  refine p_iconst (0) 135 rfl dX9_letters_134 rfl ?_
  refine p_cS6j 138 rfl dX9_letters_135 (c_spelled _ _ _ _ _ _) ml_X9_150 sl_X9_spelled (Nat.le_of_ble_eq_true rfl) (Nat.le_of_ble_eq_true rfl) rfl ?_
  exact p_lret dX9_letters_138 rfl ⟨congrArg (fun v => Sum.inl (some (Value.long v))) (by decide +kernel), rfl⟩
set_option maxRecDepth 4000 in
theorem c_let4  : CallOk Γ 2 0 0 mX9_letters [.int (nI 4)] σ (rJ σ (lwJ 4)) := by
  refine p_enter rfl rfl (Nat.le_of_ble_eq_true rfl) rfl ?_
  refine p_iload_n 0 1 rfl rfl dX9_letters_0 rfl ?_
  refine p_tswIn (off := 138) 139 rfl dX9_letters_1 (by decide) (by decide) rfl ?_
  refine p_bipush (116) 141 rfl dX9_letters_139 rfl ?_
  refine p_bipush (111) 143 rfl dX9_letters_141 rfl ?_
  refine p_bipush (119) 145 rfl dX9_letters_143 rfl ?_
  refine p_bipush (110) 147 rfl dX9_letters_145 rfl ?_
  refine p_iconst (0) 148 rfl dX9_letters_147 rfl ?_
  refine p_iconst (0) 149 rfl dX9_letters_148 rfl ?_
  refine p_cS6j 152 rfl dX9_letters_149 (c_spelled _ _ _ _ _ _) ml_X9_150 sl_X9_spelled (Nat.le_of_ble_eq_true rfl) (Nat.le_of_ble_eq_true rfl) rfl ?_
  exact p_lret dX9_letters_152 rfl ⟨congrArg (fun v => Sum.inl (some (Value.long v))) (by decide +kernel), rfl⟩
set_option maxRecDepth 4000 in
theorem c_let5  : CallOk Γ 2 0 0 mX9_letters [.int (nI 5)] σ (rJ σ (lwJ 5)) := by
  refine p_enter rfl rfl (Nat.le_of_ble_eq_true rfl) rfl ?_
  refine p_iload_n 0 1 rfl rfl dX9_letters_0 rfl ?_
  refine p_tswIn (off := 152) 153 rfl dX9_letters_1 (by decide) (by decide) rfl ?_
  refine p_bipush (100) 155 rfl dX9_letters_153 rfl ?_
  refine p_bipush (97) 157 rfl dX9_letters_155 rfl ?_
  refine p_bipush (121) 159 rfl dX9_letters_157 rfl ?_
  refine p_iconst (0) 160 rfl dX9_letters_159 rfl ?_
  refine p_iconst (0) 161 rfl dX9_letters_160 rfl ?_
  refine p_iconst (0) 162 rfl dX9_letters_161 rfl ?_
  refine p_cS6j 165 rfl dX9_letters_162 (c_spelled _ _ _ _ _ _) ml_X9_150 sl_X9_spelled (Nat.le_of_ble_eq_true rfl) (Nat.le_of_ble_eq_true rfl) rfl ?_
  exact p_lret dX9_letters_165 rfl ⟨congrArg (fun v => Sum.inl (some (Value.long v))) (by decide +kernel), rfl⟩
set_option maxRecDepth 4000 in
theorem c_let6  : CallOk Γ 2 0 0 mX9_letters [.int (nI 6)] σ (rJ σ (lwJ 6)) := by
  refine p_enter rfl rfl (Nat.le_of_ble_eq_true rfl) rfl ?_
  refine p_iload_n 0 1 rfl rfl dX9_letters_0 rfl ?_
  refine p_tswIn (off := 165) 166 rfl dX9_letters_1 (by decide) (by decide) rfl ?_
  refine p_bipush (115) 168 rfl dX9_letters_166 rfl ?_
  refine p_bipush (104) 170 rfl dX9_letters_168 rfl ?_
  refine p_bipush (101) 172 rfl dX9_letters_170 rfl ?_
  refine p_bipush (101) 174 rfl dX9_letters_172 rfl ?_
  refine p_bipush (116) 176 rfl dX9_letters_174 rfl ?_
  refine p_bipush (115) 178 rfl dX9_letters_176 rfl ?_
  refine p_cS6j 181 rfl dX9_letters_178 (c_spelled _ _ _ _ _ _) ml_X9_150 sl_X9_spelled (Nat.le_of_ble_eq_true rfl) (Nat.le_of_ble_eq_true rfl) rfl ?_
  exact p_lret dX9_letters_181 rfl ⟨congrArg (fun v => Sum.inl (some (Value.long v))) (by decide +kernel), rfl⟩
set_option maxRecDepth 4000 in
theorem c_let7  : CallOk Γ 2 0 0 mX9_letters [.int (nI 7)] σ (rJ σ (lwJ 7)) := by
  refine p_enter rfl rfl (Nat.le_of_ble_eq_true rfl) rfl ?_
  refine p_iload_n 0 1 rfl rfl dX9_letters_0 rfl ?_
  refine p_tswIn (off := 181) 182 rfl dX9_letters_1 (by decide) (by decide) rfl ?_
  refine p_bipush (99) 184 rfl dX9_letters_182 rfl ?_
  refine p_bipush (108) 186 rfl dX9_letters_184 rfl ?_
  refine p_bipush (101) 188 rfl dX9_letters_186 rfl ?_
  refine p_bipush (114) 190 rfl dX9_letters_188 rfl ?_
  refine p_bipush (107) 192 rfl dX9_letters_190 rfl ?_
  refine p_bipush (115) 194 rfl dX9_letters_192 rfl ?_
  refine p_cS6j 197 rfl dX9_letters_194 (c_spelled _ _ _ _ _ _) ml_X9_150 sl_X9_spelled (Nat.le_of_ble_eq_true rfl) (Nat.le_of_ble_eq_true rfl) rfl ?_
  exact p_lret dX9_letters_197 rfl ⟨congrArg (fun v => Sum.inl (some (Value.long v))) (by decide +kernel), rfl⟩
set_option maxRecDepth 4000 in
theorem c_let8  : CallOk Γ 2 0 0 mX9_letters [.int (nI 8)] σ (rJ σ (lwJ 8)) := by
  refine p_enter rfl rfl (Nat.le_of_ble_eq_true rfl) rfl ?_
  refine p_iload_n 0 1 rfl rfl dX9_letters_0 rfl ?_
  refine p_tswIn (off := 197) 198 rfl dX9_letters_1 (by decide) (by decide) rfl ?_
  refine p_bipush (107) 200 rfl dX9_letters_198 rfl ?_
  refine p_bipush (110) 202 rfl dX9_letters_200 rfl ?_
  refine p_bipush (111) 204 rfl dX9_letters_202 rfl ?_
  refine p_bipush (119) 206 rfl dX9_letters_204 rfl ?_
  refine p_bipush (110) 208 rfl dX9_letters_206 rfl ?_
  refine p_iconst (0) 209 rfl dX9_letters_208 rfl ?_
  refine p_cS6j 212 rfl dX9_letters_209 (c_spelled _ _ _ _ _ _) ml_X9_150 sl_X9_spelled (Nat.le_of_ble_eq_true rfl) (Nat.le_of_ble_eq_true rfl) rfl ?_
  exact p_lret dX9_letters_212 rfl ⟨congrArg (fun v => Sum.inl (some (Value.long v))) (by decide +kernel), rfl⟩
set_option maxRecDepth 4000 in
theorem c_let9  : CallOk Γ 2 0 0 mX9_letters [.int (nI 9)] σ (rJ σ (lwJ 9)) := by
  refine p_enter rfl rfl (Nat.le_of_ble_eq_true rfl) rfl ?_
  refine p_iload_n 0 1 rfl rfl dX9_letters_0 rfl ?_
  refine p_tswIn (off := 212) 213 rfl dX9_letters_1 (by decide) (by decide) rfl ?_
  refine p_bipush (99) 215 rfl dX9_letters_213 rfl ?_
  refine p_bipush (108) 217 rfl dX9_letters_215 rfl ?_
  refine p_bipush (101) 219 rfl dX9_letters_217 rfl ?_
  refine p_bipush (114) 221 rfl dX9_letters_219 rfl ?_
  refine p_bipush (107) 223 rfl dX9_letters_221 rfl ?_
  refine p_iconst (0) 224 rfl dX9_letters_223 rfl ?_
  refine p_cS6j 227 rfl dX9_letters_224 (c_spelled _ _ _ _ _ _) ml_X9_150 sl_X9_spelled (Nat.le_of_ble_eq_true rfl) (Nat.le_of_ble_eq_true rfl) rfl ?_
  exact p_lret dX9_letters_227 rfl ⟨congrArg (fun v => Sum.inl (some (Value.long v))) (by decide +kernel), rfl⟩
set_option maxRecDepth 4000 in
theorem c_let10  : CallOk Γ 2 0 0 mX9_letters [.int (nI 10)] σ (rJ σ (lwJ 10)) := by
  refine p_enter rfl rfl (Nat.le_of_ble_eq_true rfl) rfl ?_
  refine p_iload_n 0 1 rfl rfl dX9_letters_0 rfl ?_
  refine p_tswIn (off := 227) 228 rfl dX9_letters_1 (by decide) (by decide) rfl ?_
  refine p_bipush (119) 230 rfl dX9_letters_228 rfl ?_
  refine p_bipush (111) 232 rfl dX9_letters_230 rfl ?_
  refine p_bipush (114) 234 rfl dX9_letters_232 rfl ?_
  refine p_bipush (100) 236 rfl dX9_letters_234 rfl ?_
  refine p_iconst (0) 237 rfl dX9_letters_236 rfl ?_
  refine p_iconst (0) 238 rfl dX9_letters_237 rfl ?_
  refine p_cS6j 241 rfl dX9_letters_238 (c_spelled _ _ _ _ _ _) ml_X9_150 sl_X9_spelled (Nat.le_of_ble_eq_true rfl) (Nat.le_of_ble_eq_true rfl) rfl ?_
  exact p_lret dX9_letters_241 rfl ⟨congrArg (fun v => Sum.inl (some (Value.long v))) (by decide +kernel), rfl⟩
set_option maxRecDepth 4000 in
theorem c_let11  : CallOk Γ 2 0 0 mX9_letters [.int (nI 11)] σ (rJ σ (lwJ 11)) := by
  refine p_enter rfl rfl (Nat.le_of_ble_eq_true rfl) rfl ?_
  refine p_iload_n 0 1 rfl rfl dX9_letters_0 rfl ?_
  refine p_tswIn (off := 241) 242 rfl dX9_letters_1 (by decide) (by decide) rfl ?_
  refine p_bipush (115) 244 rfl dX9_letters_242 rfl ?_
  refine p_bipush (108) 246 rfl dX9_letters_244 rfl ?_
  refine p_bipush (97) 248 rfl dX9_letters_246 rfl ?_
  refine p_bipush (99) 250 rfl dX9_letters_248 rfl ?_
  refine p_bipush (107) 252 rfl dX9_letters_250 rfl ?_
  refine p_iconst (0) 253 rfl dX9_letters_252 rfl ?_
  refine p_cS6j 256 rfl dX9_letters_253 (c_spelled _ _ _ _ _ _) ml_X9_150 sl_X9_spelled (Nat.le_of_ble_eq_true rfl) (Nat.le_of_ble_eq_true rfl) rfl ?_
  exact p_lret dX9_letters_256 rfl ⟨congrArg (fun v => Sum.inl (some (Value.long v))) (by decide +kernel), rfl⟩
set_option maxRecDepth 4000 in
theorem c_let12  : CallOk Γ 2 0 0 mX9_letters [.int (nI 12)] σ (rJ σ (lwJ 12)) := by
  refine p_enter rfl rfl (Nat.le_of_ble_eq_true rfl) rfl ?_
  refine p_iload_n 0 1 rfl rfl dX9_letters_0 rfl ?_
  refine p_tswIn (off := 256) 257 rfl dX9_letters_1 (by decide) (by decide) rfl ?_
  refine p_bipush (108) 259 rfl dX9_letters_257 rfl ?_
  refine p_bipush (97) 261 rfl dX9_letters_259 rfl ?_
  refine p_bipush (121) 263 rfl dX9_letters_261 rfl ?_
  refine p_bipush (115) 265 rfl dX9_letters_263 rfl ?_
  refine p_iconst (0) 266 rfl dX9_letters_265 rfl ?_
  refine p_iconst (0) 267 rfl dX9_letters_266 rfl ?_
  refine p_cS6j 270 rfl dX9_letters_267 (c_spelled _ _ _ _ _ _) ml_X9_150 sl_X9_spelled (Nat.le_of_ble_eq_true rfl) (Nat.le_of_ble_eq_true rfl) rfl ?_
  exact p_lret dX9_letters_270 rfl ⟨congrArg (fun v => Sum.inl (some (Value.long v))) (by decide +kernel), rfl⟩
set_option maxRecDepth 4000 in
theorem c_let13  : CallOk Γ 2 0 0 mX9_letters [.int (nI 13)] σ (rJ σ (lwJ 13)) := by
  refine p_enter rfl rfl (Nat.le_of_ble_eq_true rfl) rfl ?_
  refine p_iload_n 0 1 rfl rfl dX9_letters_0 rfl ?_
  refine p_tswIn (off := 270) 271 rfl dX9_letters_1 (by decide) (by decide) rfl ?_
  refine p_bipush (109) 273 rfl dX9_letters_271 rfl ?_
  refine p_bipush (111) 275 rfl dX9_letters_273 rfl ?_
  refine p_bipush (117) 277 rfl dX9_letters_275 rfl ?_
  refine p_bipush (108) 279 rfl dX9_letters_277 rfl ?_
  refine p_bipush (100) 281 rfl dX9_letters_279 rfl ?_
  refine p_bipush (115) 283 rfl dX9_letters_281 rfl ?_
  refine p_cS6j 286 rfl dX9_letters_283 (c_spelled _ _ _ _ _ _) ml_X9_150 sl_X9_spelled (Nat.le_of_ble_eq_true rfl) (Nat.le_of_ble_eq_true rfl) rfl ?_
  exact p_lret dX9_letters_286 rfl ⟨congrArg (fun v => Sum.inl (some (Value.long v))) (by decide +kernel), rfl⟩
set_option maxRecDepth 4000 in
theorem c_let14  : CallOk Γ 2 0 0 mX9_letters [.int (nI 14)] σ (rJ σ (lwJ 14)) := by
  refine p_enter rfl rfl (Nat.le_of_ble_eq_true rfl) rfl ?_
  refine p_iload_n 0 1 rfl rfl dX9_letters_0 rfl ?_
  refine p_tswIn (off := 286) 287 rfl dX9_letters_1 (by decide) (by decide) rfl ?_
  refine p_bipush (97) 289 rfl dX9_letters_287 rfl ?_
  refine p_bipush (110) 291 rfl dX9_letters_289 rfl ?_
  refine p_bipush (100) 293 rfl dX9_letters_291 rfl ?_
  refine p_iconst (0) 294 rfl dX9_letters_293 rfl ?_
  refine p_iconst (0) 295 rfl dX9_letters_294 rfl ?_
  refine p_iconst (0) 296 rfl dX9_letters_295 rfl ?_
  refine p_cS6j 299 rfl dX9_letters_296 (c_spelled _ _ _ _ _ _) ml_X9_150 sl_X9_spelled (Nat.le_of_ble_eq_true rfl) (Nat.le_of_ble_eq_true rfl) rfl ?_
  exact p_lret dX9_letters_299 rfl ⟨congrArg (fun v => Sum.inl (some (Value.long v))) (by decide +kernel), rfl⟩
set_option maxRecDepth 4000 in
theorem c_let15  : CallOk Γ 2 0 0 mX9_letters [.int (nI 15)] σ (rJ σ (lwJ 15)) := by
  refine p_enter rfl rfl (Nat.le_of_ble_eq_true rfl) rfl ?_
  refine p_iload_n 0 1 rfl rfl dX9_letters_0 rfl ?_
  refine p_tswIn (off := 299) 300 rfl dX9_letters_1 (by decide) (by decide) rfl ?_
  refine p_bipush (111) 302 rfl dX9_letters_300 rfl ?_
  refine p_bipush (114) 304 rfl dX9_letters_302 rfl ?_
  refine p_iconst (0) 305 rfl dX9_letters_304 rfl ?_
  refine p_iconst (0) 306 rfl dX9_letters_305 rfl ?_
  refine p_iconst (0) 307 rfl dX9_letters_306 rfl ?_
  refine p_iconst (0) 308 rfl dX9_letters_307 rfl ?_
  refine p_cS6j 311 rfl dX9_letters_308 (c_spelled _ _ _ _ _ _) ml_X9_150 sl_X9_spelled (Nat.le_of_ble_eq_true rfl) (Nat.le_of_ble_eq_true rfl) rfl ?_
  exact p_lret dX9_letters_311 rfl ⟨congrArg (fun v => Sum.inl (some (Value.long v))) (by decide +kernel), rfl⟩
set_option maxRecDepth 4000 in
theorem c_let16  : CallOk Γ 2 0 0 mX9_letters [.int (nI 16)] σ (rJ σ (lwJ 16)) := by
  refine p_enter rfl rfl (Nat.le_of_ble_eq_true rfl) rfl ?_
  refine p_iload_n 0 1 rfl rfl dX9_letters_0 rfl ?_
  refine p_tswOut 312 rfl dX9_letters_1 (by decide) ?_
  refine p_bipush (110) 314 rfl dX9_letters_312 rfl ?_
  refine p_bipush (111) 316 rfl dX9_letters_314 rfl ?_
  refine p_bipush (116) 318 rfl dX9_letters_316 rfl ?_
  refine p_iconst (0) 319 rfl dX9_letters_318 rfl ?_
  refine p_iconst (0) 320 rfl dX9_letters_319 rfl ?_
  refine p_iconst (0) 321 rfl dX9_letters_320 rfl ?_
  refine p_cS6j 324 rfl dX9_letters_321 (c_spelled _ _ _ _ _ _) ml_X9_150 sl_X9_spelled (Nat.le_of_ble_eq_true rfl) (Nat.le_of_ble_eq_true rfl) rfl ?_
  exact p_lret dX9_letters_324 rfl ⟨congrArg (fun v => Sum.inl (some (Value.long v))) (by decide +kernel), rfl⟩
theorem c_letters {k : Nat} (hk : k < 17) : CallOk Γ 2 0 0 mX9_letters [.int (nI k)] σ (rJ σ (lwJ k)) := by
  have h : k = 0 ∨ k = 1 ∨ k = 2 ∨ k = 3 ∨ k = 4 ∨ k = 5 ∨ k = 6 ∨ k = 7 ∨ k = 8 ∨ k = 9 ∨ k = 10 ∨ k = 11 ∨ k = 12 ∨ k = 13 ∨ k = 14 ∨ k = 15 ∨ k = 16 := by omega
  rcases h with rfl | rfl | rfl | rfl | rfl | rfl | rfl | rfl | rfl | rfl | rfl | rfl | rfl | rfl | rfl | rfl | rfl
  · exact c_let0
  · exact c_let1
  · exact c_let2
  · exact c_let3
  · exact c_let4
  · exact c_let5
  · exact c_let6
  · exact c_let7
  · exact c_let8
  · exact c_let9
  · exact c_let10
  · exact c_let11
  · exact c_let12
  · exact c_let13
  · exact c_let14
  · exact c_let15
  · exact c_let16
set_option maxRecDepth 4000 in
theorem c_byteAt (hT : TpM σ tx z) {k : Nat} (h17 : hI σ M0 17 = nI z) (hk : k < 2000) : CallOk Γ 1 0 0 mX9_byteAt [.ref M0, .int (nI k)] σ (rI σ (nI (bAt tx z k))) := by
  have hz7 := hT.2.1
  refine p_enter rfl rfl (Nat.le_of_ble_eq_true rfl) rfl ?_
  refine p_iload_n 1 1 rfl rfl dX9_byteAt_0 rfl ?_
  refine p_aload_n 0 2 rfl rfl dX9_byteAt_1 rfl ?_
  refine p_getIE 9 17 5 rfl dX9_byteAt_2 fl_X9_112 rfl rfl h17 ?_
  refine p_icmp_ge 17 8 rfl rfl dX9_byteAt_5 (fun h5 => ?_) (fun h5 => ?_)
  · have e : bAt tx z k = 0 := if_neg (fun q => absurd h5 (nI_ge q (by have := hT.2.1; omega)))
    refine p_iconst (0) 18 rfl dX9_byteAt_17 rfl ?_
    exact p_iret dX9_byteAt_18 rfl ⟨by rw [e]; rfl, rfl⟩
  · have hkz : k < z := (Nat.lt_or_ge k z).elim id (fun q => absurd (nI_le q (by omega)) h5)
    have e : bAt tx z k = tx k := if_pos hkz
    refine p_aload_n 0 9 rfl rfl dX9_byteAt_8 rfl ?_
    refine p_getR 9 12 12 rfl dX9_byteAt_9 fl_X9_32 rfl rfl (show hR _ M0 12 = mTp from hT.1 12) (by decide) ?_
    refine p_iload_n 1 13 rfl rfl dX9_byteAt_12 rfl ?_
    refine p_ialdE 14 rfl dX9_byteAt_13 (i := k) rfl (by show k < 700; have := hT.2.1; omega) (hT.2.2.2 k hkz) ?_
    refine p_goto 18 rfl dX9_byteAt_14 ?_
    exact p_iret dX9_byteAt_18 rfl ⟨by rw [e], rfl⟩
set_option maxRecDepth 4000 in
theorem c_isLetter {b : Nat} (hb : b < 256) : CallOk Γ 1 0 0 mX9_isLetter [.int (nI b)] σ (rI σ (b2i (decide (97 ≤ b ∧ b ≤ 122)))) := by
  refine p_enter rfl rfl (Nat.le_of_ble_eq_true rfl) rfl ?_
  refine p_iload_n 0 1 rfl rfl dX9_isLetter_0 rfl ?_
  refine p_bipush (97) 3 rfl dX9_isLetter_1 rfl ?_
  refine p_icmp_lt 16 6 rfl rfl dX9_isLetter_3 (fun h3 => ?_) (fun h3 => ?_)
  · refine p_iconst (0) 17 rfl dX9_isLetter_16 rfl ?_
    exact p_zret dX9_isLetter_17 rfl (by decide) ⟨by rw [decide_eq_false (fun q : 97 ≤ b ∧ b ≤ 122 => absurd h3 (nI_nlt (a := b) (b := 97) q.1 (by omega)))]; rfl, rfl⟩
  · refine p_iload_n 0 7 rfl rfl dX9_isLetter_6 rfl ?_
    refine p_bipush (122) 9 rfl dX9_isLetter_7 rfl ?_
    refine p_icmp_gt 16 12 rfl rfl dX9_isLetter_9 (fun h9 => ?_) (fun h9 => ?_)
    · refine p_iconst (0) 17 rfl dX9_isLetter_16 rfl ?_
      exact p_zret dX9_isLetter_17 rfl (by decide) ⟨by rw [decide_eq_false (fun q : 97 ≤ b ∧ b ≤ 122 => absurd h9 (nI_nlt (a := 122) (b := b) q.2 (by omega)))]; rfl, rfl⟩
    · refine p_iconst (1) 13 rfl dX9_isLetter_12 rfl ?_
      refine p_goto 17 rfl dX9_isLetter_13 ?_
      exact p_zret dX9_isLetter_17 rfl (by decide) ⟨by rw [decide_eq_true (show 97 ≤ b ∧ b ≤ 122 from ⟨(Nat.lt_or_ge b 97).elim (fun q => absurd (nI_lt q (by omega)) h3) id, (Nat.lt_or_ge 122 b).elim (fun q => absurd (nI_lt q (by omega)) h9) id⟩)]; rfl, rfl⟩
set_option maxRecDepth 4000 in
theorem c_isDigit {b : Nat} (hb : b < 256) : CallOk Γ 1 0 0 mX9_isDigit [.int (nI b)] σ (rI σ (b2i (decide (48 ≤ b ∧ b ≤ 57)))) := by
  refine p_enter rfl rfl (Nat.le_of_ble_eq_true rfl) rfl ?_
  refine p_iload_n 0 1 rfl rfl dX9_isDigit_0 rfl ?_
  refine p_bipush (48) 3 rfl dX9_isDigit_1 rfl ?_
  refine p_icmp_lt 16 6 rfl rfl dX9_isDigit_3 (fun h3 => ?_) (fun h3 => ?_)
  · refine p_iconst (0) 17 rfl dX9_isDigit_16 rfl ?_
    exact p_zret dX9_isDigit_17 rfl (by decide) ⟨by rw [decide_eq_false (fun q : 48 ≤ b ∧ b ≤ 57 => absurd h3 (nI_nlt (a := b) (b := 48) q.1 (by omega)))]; rfl, rfl⟩
  · refine p_iload_n 0 7 rfl rfl dX9_isDigit_6 rfl ?_
    refine p_bipush (57) 9 rfl dX9_isDigit_7 rfl ?_
    refine p_icmp_gt 16 12 rfl rfl dX9_isDigit_9 (fun h9 => ?_) (fun h9 => ?_)
    · refine p_iconst (0) 17 rfl dX9_isDigit_16 rfl ?_
      exact p_zret dX9_isDigit_17 rfl (by decide) ⟨by rw [decide_eq_false (fun q : 48 ≤ b ∧ b ≤ 57 => absurd h9 (nI_nlt (a := 57) (b := b) q.2 (by omega)))]; rfl, rfl⟩
    · refine p_iconst (1) 13 rfl dX9_isDigit_12 rfl ?_
      refine p_goto 17 rfl dX9_isDigit_13 ?_
      exact p_zret dX9_isDigit_17 rfl (by decide) ⟨by rw [decide_eq_true (show 48 ≤ b ∧ b ≤ 57 from ⟨(Nat.lt_or_ge b 48).elim (fun q => absurd (nI_lt q (by omega)) h3) id, (Nat.lt_or_ge 57 b).elim (fun q => absurd (nI_lt q (by omega)) h9) id⟩)]; rfl, rfl⟩
end Ca0
