/-! ===== fires, a game of two, years by a seed ===== -/
theorem nI_sb {a b : Nat} (h : b ≤ a) : nI a - nI b = nI (a - b) := by
  obtain ⟨c, rfl⟩ : ∃ c, a = c + b := ⟨a - b, by omega⟩
  rw [← nI_add, Nat.add_sub_cancel]
  exact Int32.add_sub_cancel _ _
def frS (l r t : Nat) : Nat := if r < 5 ∧ r ≠ l then (if l < 5 then 100 * (10 - t) / 10 else 100) * (10 - t) / 10 else (if l < 5 then 100 * (10 - t) / 10 else 100)
def fFires (A : AT) (x y : Int32) : Nat × Int32 := gd (inR x (aW (tO A))) 1 (gd (btw y 0 10) 2 (0, if dead (tO A) (tV A) (iN x) = true then -1 else nI ((100 - frS (vP (tV A) (aL (tO A) (iN x))) (vP (tV A) (aB (tO A) (iN x))) (iN y)) * 100)))
def nws (A : AT) (c m : Nat) : Nat := pop (wOf (tO A) (tV A) m ^^^ (wOf (tO A) (tV A) m &&& vK (tV A) c))
def gn (A : AT) (c q s t : Nat) : Int32 := 3 * nI (nws A c (if t = 1 then shAt (tO A) (tV A) (c + 5) ||| shAt (tO A) (tV A) (q + 5) else shAt (tO A) (tV A) (c + 5))) - 2 * nI (nws A q (if s = 1 then shAt (tO A) (tV A) (c + 5) ||| shAt (tO A) (tV A) (q + 5) else shAt (tO A) (tV A) (q + 5)))
def isB (A : AT) (c q s t : Nat) : Bool := decide (gn A c q (1 - s) t ≤ gn A c q s t)
def cpl (A : AT) (c q k : Nat) : Bool := isB A c q (k / 2) (k % 2) && isB A q c (k % 2) (k / 2)
def fstG (l : List Nat) : Int32 := match l with
  | [] => -1
  | k :: _ => nI (k / 2 * 10 + k % 2)
def fGame (A : AT) (x y z : Int32) : Nat × Int32 := gd (inR x (aC (tO A))) 1 (gd (inR y (aC (tO A))) 1 (gd (inR z 2) 1 (gd (decide (iN x ≠ iN y)) 2 (0, if iN z = 0 then nI (prL (cpl A (iN x) (iN y)) 4).length else fstG (prL (cpl A (iN x) (iN y)) 4)))))
def lcg (s : Int32) : Int32 := s * 1103515245 + 12345
def drw (s : Int32) (m : Nat) : Nat := ((s >>> ((16 : Int32) &&& 31)) &&& 32767).toNatClampNeg % m
theorem and15 (y : Int32) : ∃ j, j < 32768 ∧ y &&& 32767 = nI j := by
  have h1 : (y &&& 32767).toBitVec.toNat ≤ 32767 := by
    show (y.toBitVec &&& (32767 : Int32).toBitVec).toNat ≤ 32767
    rw [BitVec.toNat_and]
    exact Nat.and_le_right
  refine ⟨(y &&& 32767).toBitVec.toNat, by omega, ?_⟩
  apply Int32.toBitVec_inj.1
  show _ = BitVec.ofNat 32 _
  rw [BitVec.ofNat_toNat, BitVec.setWidth_eq]
def drwA (O : AO) (q : Int32 × AW) : Int32 × AW :=
  if drw (lcg q.1) 6 = 0 then (lcg (lcg q.1), brn O q.2 (drw (lcg (lcg q.1)) 4))
  else if drw (lcg q.1) 6 = 1 ∧ 0 < aC O then (lcg (lcg q.1), tkl O q.2 (drw (lcg (lcg q.1)) (aC O)))
  else if drw (lcg q.1) 6 = 2 ∧ 0 < aS O then (lcg (lcg (lcg q.1)), wLf q.2 (va_up (vL q.2) (drw (lcg (lcg q.1)) (aS O)) (vL q.2 (drw (lcg (lcg q.1)) (aS O)) ^^^ 2 ^ drw (lcg (lcg (lcg q.1))) 8)))
  else (lcg q.1, q.2)
def stepZ (O : AO) (z : Int32 × AW) : Int32 × AW := (z.1, dayF O z.2)
theorem stepZ1 (O : AO) (z : Int32 × AW) : (stepZ O z).1 = z.1 := rfl
theorem stepZ2 (O : AO) (z : Int32 × AW) : (stepZ O z).2 = dayF O z.2 := rfl
def yrs (O : AO) (n : Nat) (q : Int32 × AW) : Int32 × AW := Nat.rec q (fun _ p => stepZ O (drwA O p)) n
theorem yrs_1 (O : AO) (n : Nat) (q : Int32 × AW) : yrs O (n + 1) q = stepZ O (drwA O (yrs O n q)) := rfl
def fYears (A : AT) (x y z : Int32) : Nat × Int32 := gd (inR z 3) 1 (gd (btw y 0 40) 2 (0, if iN z = 0 then nI (pop (kAll (tO A) (yrs (tO A) (iN y) (x, tV A)).2)) else if iN z = 1 then nI (aS (tO A)) - nI (pop (shAt (tO A) (yrs (tO A) (iN y) (x, tV A)).2 0)) else nI (pop (inHd (tO A) (yrs (tO A) (iN y) (x, tV A)).2))))
theorem drw_lt {s : Int32} {m : Nat} (h : 0 < m) : drw s m < m := Nat.mod_lt _ h
theorem tkl_ok {O : AO} {V : AW} {c : Nat} (h : OkV O V) (hO : OkO O) (hc : c < aC O) : OkV O (tkl O V c) := by
  have h6 := hO.2.1
  unfold tkl
  split
  · exact h
  · obtain ⟨h1, h2, h3, h4⟩ := h
    rename_i s _
    refine ⟨h1, fun r hr => ⟨(h2 r hr).1, (h2 r hr).2.1, ?_⟩, fun r hr => ?_, h4⟩
    · show va_up (vP V) s (c + 5) r < 11
      by_cases e : r = s
      · subst e; rw [va_ups]; omega
      · rw [va_upo e]; exact (h2 r hr).2.2
    · show va_up (vP V) s (c + 5) r < 5 + aC O
      by_cases e : r = s
      · subst e; rw [va_ups]; omega
      · rw [va_upo e]; exact h3 r hr
theorem wLf_ok {O : AO} {V : AW} {s st : Nat} (h : OkV O V) (hst : st < 8) : OkV O (wLf V (va_up (vL V) s (vL V s ^^^ 2 ^ st))) ∨ 9 ≤ s := by
  by_cases hs : s < 9
  · refine Or.inl ?_
    obtain ⟨h1, h2, h3, h4⟩ := h
    have hp : 2 ^ st < 256 := Nat.lt_of_lt_of_le (Nat.pow_lt_pow_right (by decide) hst) (by decide)
    refine ⟨h1, fun r hr => ⟨?_, (h2 r hr).2.1, (h2 r hr).2.2⟩, h3, h4⟩
    show va_up (vL V) s _ r < 256
    by_cases e : r = s
    · subst e; rw [va_ups]; exact Nat.xor_lt_two_pow (n := 8) (h2 r hr).1 hp
    · rw [va_upo e]; exact (h2 r hr).1
  · exact Or.inr (by omega)
theorem drwA_ok {O : AO} {q : Int32 × AW} (h : OkV O q.2) (hO : OkO O) : OkV O (drwA O q).2 ∧ vD (drwA O q).2 = vD q.2 := by
  unfold drwA
  split
  · exact ⟨OkV_brn h _, rfl⟩
  · split
    · rename_i h1
      refine ⟨tkl_ok h hO (drw_lt h1.2), ?_⟩
      show vD (tkl O q.2 _) = _
      unfold tkl; split <;> rfl
    · split
      · rename_i h1
        refine ⟨?_, rfl⟩
        rcases wLf_ok (s := drw (lcg (lcg q.1)) (aS O)) (st := drw (lcg (lcg (lcg q.1))) 8) h (drw_lt (by decide)) with g | g
        · exact g
        · have := drw_lt (s := lcg (lcg q.1)) h1.2
          have := hO.1
          omega
      · exact ⟨h, rfl⟩
theorem yrs_ok {O : AO} {V : AW} {x : Int32} (h : OkV O V) (hO : OkO O) : ∀ n, vD V + n ≤ 100000 → OkV O (yrs O n (x, V)).2 ∧ vD (yrs O n (x, V)).2 = vD V + n := by
  intro n
  induction n with
  | zero => intro _; exact ⟨h, rfl⟩
  | succ n ih =>
    intro hn
    have h1 := ih (by omega)
    have h2 := drwA_ok h1.1 hO
    rw [yrs_1, stepZ2]
    generalize drwA O (yrs O n (x, V)) = z at h2 ⊢
    refine ⟨dayF_ok hO h2.1 (by rw [h2.2, h1.2]; omega), ?_⟩
    show vD z.2 + 1 = _
    rw [h2.2, h1.2]; omega
theorem nwlt {A : AT} (hO : OkO (tO A)) (c m : Nat) : wOf (tO A) (tV A) m ^^^ (wOf (tO A) (tV A) m &&& vK (tV A) c) < 4096 := Nat.xor_lt_two_pow (n := 12) (wOf_lt hO _ _) (Nat.lt_of_le_of_lt Nat.and_le_left (wOf_lt hO _ _))
section C57
variable {Γ : Gm} {σ : PH} {o o' : Nat} {A : AT}
set_option maxRecDepth 6000 in
theorem t_fires (hT : IT σ o o' A) (x y : Int32) : CallOk Γ 14 8 48 mX8_fires [.ref T0, .int x, .int y] σ (rS (fFires A x y) false (fun σ' => IT σ' o o' A ∧ Ch cls σ σ')) := by
  have hS := hT.1
  have hK := hT.2.1
  have hto : hR σ T0 3 = o := hT.2.2.1.2.2.1
  have hQ := hT.2.2.2.1
  have ho := hQ.1
  have hw := hT.2.2.2.2.1.1
  have hwo := hT.2.2.2.2.1.2
  have hv := hK.2.2.2.2.1.1
  have hd9 := hK.2.2.2.2.1.2
  have hY := hK.2.2.2.1
  have hO := hK.2.2.1
  have hs9 := hO.1
  have hc6 := hO.2.1
  have hw12 := hO.2.2.1
  have hk8 := hO.2.2.2.1
  refine p_enter rfl rfl (Nat.le_of_ble_eq_true rfl) rfl ?_
  refine p_aload_n 0 1 rfl rfl dX8_fires_0 rfl ?_
  refine p_iload_n 1 2 rfl rfl dX8_fires_1 rfl ?_
  refine p_cV1n 5 rfl dX8_fires_2 (c_needWord hto hQ _) ml_X8_211 vl_X8_needWord rfl (by decide) rfl (Nat.le_of_ble_eq_true rfl) (Nat.le_of_ble_eq_true rfl) (Nat.le_of_ble_eq_true rfl) (Nat.le_of_ble_eq_true rfl) rfl (fun h2 => ?_) (fun h2 => ⟨by simp [fFires, gd, h2], hT, Ch.rf⟩)
  obtain ⟨s, rfl, hs⟩ := asN h2 (by omega)
  have hsL : s < 2147483648 := by omega
  refine p_iload_n 2 6 rfl rfl dX8_fires_5 rfl ?_
  refine p_iconst (0) 7 rfl dX8_fires_6 rfl ?_
  refine p_bipush (10) 9 rfl dX8_fires_7 rfl ?_
  refine p_cS3n 12 rfl dX8_fires_9 (c_needBetween _ 0 10) ml_X8_267 sl_X8_needBetween (Nat.le_of_ble_eq_true rfl) (Nat.le_of_ble_eq_true rfl) (Nat.le_of_ble_eq_true rfl) (Nat.le_of_ble_eq_true rfl) rfl (fun h9 => ?_) (fun h9 => ⟨by simp [fFires, gd, h2, h9], hT, Ch.rf⟩)
  obtain ⟨t, rfl, hta, ht⟩ := asB h9 (by decide) (by decide)
  have htL : t < 2147483648 := by omega
  have hlr := hO.2.2.2.2.2 s hs
  have hpl := (hv.2.1 (aL (tO A) s) (by omega)).2.2
  have hpr := (hv.2.1 (aB (tO A) s) (by omega)).2.2
  have hpl5 := hv.2.2.1 (aL (tO A) s) hlr.1
  refine p_aload_n 0 13 rfl rfl dX8_fires_12 rfl ?_
  refine p_getR 8 6 16 rfl dX8_fires_13 fl_X8_44 rfl rfl hS.2.2.1 (by decide) ?_
  refine p_getR 7 4 19 rfl dX8_fires_16 fl_X8_254 rfl rfl hw.1.2.2.2.1 (mk0 (Nat.succ_ne_zero _)) ?_
  refine p_aload_n 0 20 rfl rfl dX8_fires_19 rfl ?_
  refine p_getR 8 3 23 rfl dX8_fires_20 fl_X8_23 rfl rfl hto ho.1.1.ne0 ?_
  refine p_getR 4 8 26 rfl dX8_fires_23 fl_X8_214 ho.1.1.kd rfl ho.1.2.2.2.2.2.2.1 (mk0 (Nat.succ_ne_zero _)) ?_
  refine p_iload_n 1 27 rfl rfl dX8_fires_26 rfl ?_
  refine p_ialdE 28 rfl dX8_fires_27 (kd16 _ _) (lt12 (by omega)) (ho.2.2.2.2.2.2.2 s hs).1 ?_
  refine p_ialdE 29 rfl dX8_fires_28 (kd16 _ _) (lt9 (by omega)) (hw.2.2.1 (aL (tO A) s) (by omega)).2.2 ?_
  refine p_ist_n3 30 rfl rfl dX8_fires_29 (Nat.le_of_ble_eq_true rfl) rfl ?_
  refine p_aload_n 0 31 rfl rfl dX8_fires_30 rfl ?_
  refine p_getR 8 6 34 rfl dX8_fires_31 fl_X8_44 rfl rfl hS.2.2.1 (by decide) ?_
  refine p_getR 7 4 37 rfl dX8_fires_34 fl_X8_254 rfl rfl hw.1.2.2.2.1 (mk0 (Nat.succ_ne_zero _)) ?_
  refine p_aload_n 0 38 rfl rfl dX8_fires_37 rfl ?_
  refine p_getR 8 3 41 rfl dX8_fires_38 fl_X8_23 rfl rfl hto ho.1.1.ne0 ?_
  refine p_getR 4 9 44 rfl dX8_fires_41 fl_X8_217 ho.1.1.kd rfl ho.1.2.2.2.2.2.2.2.1 (mk0 (Nat.succ_ne_zero _)) ?_
  refine p_iload_n 1 45 rfl rfl dX8_fires_44 rfl ?_
  refine p_ialdE 46 rfl dX8_fires_45 (kd16 _ _) (lt12 (by omega)) (ho.2.2.2.2.2.2.2 s hs).2 ?_
  refine p_ialdE 47 rfl dX8_fires_46 (kd16 _ _) (lt9 (by omega)) (hw.2.2.1 (aB (tO A) s) (by omega)).2.2 ?_
  refine p_ist_4 49 rfl dX8_fires_47 (Nat.le_of_ble_eq_true rfl) rfl ?_
  refine p_iload_n 3 50 rfl rfl dX8_fires_49 rfl ?_
  refine p_iconst (-1) 51 rfl dX8_fires_50 rfl ?_
  refine p_icmp_eq 60 54 rfl rfl dX8_fires_51 (fun h51 => ?_) (fun h51 => ?_)
  · refine p_iconst (-1) 61 rfl dX8_fires_60 rfl ?_
    exact p_iret dX8_fires_61 rfl ⟨by have e := (pI_m1 (by omega)).mp h51; simp [fFires, gd, h2, h9, iN_nI hsL, dead, e], hT, Ch.rf⟩
  · refine p_iload 4 56 rfl dX8_fires_54 rfl ?_
    refine p_iconst (-1) 57 rfl dX8_fires_56 rfl ?_
    refine p_icmp_ne 62 60 rfl rfl dX8_fires_57 (fun h57 => ?_) (fun h57 => ?_)
    · refine p_bipush (10) 64 rfl dX8_fires_62 rfl ?_
      refine p_iload_n 2 65 rfl rfl dX8_fires_64 rfl ?_
      refine p_isub 66 rfl dX8_fires_65 ?_
      rw [show (10 : Int32) = nI 10 from rfl, nI_sb (by omega)]
      refine p_ist_5 68 rfl dX8_fires_66 (Nat.le_of_ble_eq_true rfl) rfl ?_
      refine p_bipush (100) 70 rfl dX8_fires_68 rfl ?_
      refine p_ist_6 72 rfl dX8_fires_70 (Nat.le_of_ble_eq_true rfl) rfl ?_
      refine p_iload_n 3 73 rfl rfl dX8_fires_72 rfl ?_
      refine p_iconst (4) 74 rfl dX8_fires_73 rfl ?_
      refine p_icmp_ge 87 77 rfl rfl dX8_fires_74 (fun h74 => ?_) (fun h74 => ?_)
      · refine p_iload 4 89 rfl dX8_fires_87 rfl ?_
        refine p_iconst (4) 90 rfl dX8_fires_89 rfl ?_
        refine p_icmp_ge 109 93 rfl rfl dX8_fires_90 (fun h90 => ?_) (fun h90 => ?_)
        · refine p_bipush (100) 111 rfl dX8_fires_109 rfl ?_
          refine p_iload 6 113 rfl dX8_fires_111 rfl ?_
          refine p_isub 114 rfl dX8_fires_113 ?_
          refine p_bipush (100) 116 rfl dX8_fires_114 rfl ?_
          refine p_imul 117 rfl dX8_fires_116 ?_
          exact p_iret dX8_fires_117 rfl (by
        have hd1 : ¬ vP (tV A) (aL (tO A) s) = 0 := fun z => h51 (by rw [z]; rfl)
        have hd2 : ¬ vP (tV A) (aB (tO A) s) = 0 := fun z => h57 (by rw [z]; rfl)
        have hdd : ¬ dead (tO A) (tV A) s = true := by simp [dead, hd1, hd2]
        have hl : ¬ vP (tV A) (aL (tO A) s) < 5 := Nat.not_lt.mpr ((pI_ge4 (by omega)).mp h74)
        have hr : ¬ (vP (tV A) (aB (tO A) s) < 5 ∧ vP (tV A) (aB (tO A) s) ≠ vP (tV A) (aL (tO A) s)) := fun z => Nat.not_lt.mpr ((pI_ge4 (by omega)).mp h90) z.1
        have hle : 100 ≤ 100 := by omega
        have hf : frS (vP (tV A) (aL (tO A) s)) (vP (tV A) (aB (tO A) s)) t = 100 := by rw [frS, if_neg hr, if_neg hl]
        refine ⟨?_, hT, Ch.rf⟩
        rw [fFires, gd, if_pos h2, gd, if_pos h9, iN_nI hsL, if_neg hdd, iN_nI htL, hf]
        have e9 : (100 - nI (100)) * 100 = nI ((100 - (100)) * 100) := by rw [show (100 : Int32) = nI 100 from rfl, nI_sb hle, pk_mul]
        exact congrArg (fun z => (Sum.inl (some (Value.int z)) : PO)) e9)
        · refine p_iload 4 95 rfl dX8_fires_93 rfl ?_
          refine p_iload_n 3 96 rfl rfl dX8_fires_95 rfl ?_
          refine p_icmp_eq 109 99 rfl rfl dX8_fires_96 (fun h96 => ?_) (fun h96 => ?_)
          · refine p_bipush (100) 111 rfl dX8_fires_109 rfl ?_
            refine p_iload 6 113 rfl dX8_fires_111 rfl ?_
            refine p_isub 114 rfl dX8_fires_113 ?_
            refine p_bipush (100) 116 rfl dX8_fires_114 rfl ?_
            refine p_imul 117 rfl dX8_fires_116 ?_
            exact p_iret dX8_fires_117 rfl (by
        have hd1 : ¬ vP (tV A) (aL (tO A) s) = 0 := fun z => h51 (by rw [z]; rfl)
        have hd2 : ¬ vP (tV A) (aB (tO A) s) = 0 := fun z => h57 (by rw [z]; rfl)
        have hdd : ¬ dead (tO A) (tV A) s = true := by simp [dead, hd1, hd2]
        have hl : ¬ vP (tV A) (aL (tO A) s) < 5 := Nat.not_lt.mpr ((pI_ge4 (by omega)).mp h74)
        have hr : ¬ (vP (tV A) (aB (tO A) s) < 5 ∧ vP (tV A) (aB (tO A) s) ≠ vP (tV A) (aL (tO A) s)) := fun z => z.2 ((pI_inj (by omega) (by omega)).mp h96)
        have hle : 100 ≤ 100 := by omega
        have hf : frS (vP (tV A) (aL (tO A) s)) (vP (tV A) (aB (tO A) s)) t = 100 := by rw [frS, if_neg hr, if_neg hl]
        refine ⟨?_, hT, Ch.rf⟩
        rw [fFires, gd, if_pos h2, gd, if_pos h9, iN_nI hsL, if_neg hdd, iN_nI htL, hf]
        have e9 : (100 - nI (100)) * 100 = nI ((100 - (100)) * 100) := by rw [show (100 : Int32) = nI 100 from rfl, nI_sb hle, pk_mul]
        exact congrArg (fun z => (Sum.inl (some (Value.int z)) : PO)) e9)
          · refine p_iload 6 101 rfl dX8_fires_99 rfl ?_
            refine p_iload 5 103 rfl dX8_fires_101 rfl ?_
            refine p_imul 104 rfl dX8_fires_103 ?_
            refine p_bipush (10) 106 rfl dX8_fires_104 rfl ?_
            rw [show (100 : Int32) = nI 100 from rfl, pk_mul]
            refine p_idiv 107 rfl dX8_fires_106 (by decide) ?_
            rw [show (10 : Int32) = nI 10 from rfl, pk_div (by omega) (by decide) (by decide)]
            refine p_ist_6 109 rfl dX8_fires_107 (Nat.le_of_ble_eq_true rfl) rfl ?_
            refine p_bipush (100) 111 rfl dX8_fires_109 rfl ?_
            refine p_iload 6 113 rfl dX8_fires_111 rfl ?_
            refine p_isub 114 rfl dX8_fires_113 ?_
            refine p_bipush (100) 116 rfl dX8_fires_114 rfl ?_
            refine p_imul 117 rfl dX8_fires_116 ?_
            exact p_iret dX8_fires_117 rfl (by
        have hd1 : ¬ vP (tV A) (aL (tO A) s) = 0 := fun z => h51 (by rw [z]; rfl)
        have hd2 : ¬ vP (tV A) (aB (tO A) s) = 0 := fun z => h57 (by rw [z]; rfl)
        have hdd : ¬ dead (tO A) (tV A) s = true := by simp [dead, hd1, hd2]
        have hl : ¬ vP (tV A) (aL (tO A) s) < 5 := Nat.not_lt.mpr ((pI_ge4 (by omega)).mp h74)
        have hr : vP (tV A) (aB (tO A) s) < 5 ∧ vP (tV A) (aB (tO A) s) ≠ vP (tV A) (aL (tO A) s) := ⟨Nat.lt_of_not_le (fun z => h90 ((pI_ge4 (by omega)).mpr z)), fun z => h96 (by rw [z])⟩
        have hle : 100 * (10 - t) / 10 ≤ 100 := by omega
        have hf : frS (vP (tV A) (aL (tO A) s)) (vP (tV A) (aB (tO A) s)) t = 100 * (10 - t) / 10 := by rw [frS, if_pos hr, if_neg hl]
        refine ⟨?_, hT, Ch.rf⟩
        rw [fFires, gd, if_pos h2, gd, if_pos h9, iN_nI hsL, if_neg hdd, iN_nI htL, hf]
        have e9 : (100 - nI (100 * (10 - t) / 10)) * 100 = nI ((100 - (100 * (10 - t) / 10)) * 100) := by rw [show (100 : Int32) = nI 100 from rfl, nI_sb hle, pk_mul]
        exact congrArg (fun z => (Sum.inl (some (Value.int z)) : PO)) e9)
      · refine p_iload 6 79 rfl dX8_fires_77 rfl ?_
        refine p_iload 5 81 rfl dX8_fires_79 rfl ?_
        refine p_imul 82 rfl dX8_fires_81 ?_
        refine p_bipush (10) 84 rfl dX8_fires_82 rfl ?_
        rw [show (100 : Int32) = nI 100 from rfl, pk_mul]
        refine p_idiv 85 rfl dX8_fires_84 (by decide) ?_
        rw [show (10 : Int32) = nI 10 from rfl, pk_div (by omega) (by decide) (by decide)]
        refine p_ist_6 87 rfl dX8_fires_85 (Nat.le_of_ble_eq_true rfl) rfl ?_
        refine p_iload 4 89 rfl dX8_fires_87 rfl ?_
        refine p_iconst (4) 90 rfl dX8_fires_89 rfl ?_
        refine p_icmp_ge 109 93 rfl rfl dX8_fires_90 (fun h90 => ?_) (fun h90 => ?_)
        · refine p_bipush (100) 111 rfl dX8_fires_109 rfl ?_
          refine p_iload 6 113 rfl dX8_fires_111 rfl ?_
          refine p_isub 114 rfl dX8_fires_113 ?_
          refine p_bipush (100) 116 rfl dX8_fires_114 rfl ?_
          refine p_imul 117 rfl dX8_fires_116 ?_
          exact p_iret dX8_fires_117 rfl (by
        have hd1 : ¬ vP (tV A) (aL (tO A) s) = 0 := fun z => h51 (by rw [z]; rfl)
        have hd2 : ¬ vP (tV A) (aB (tO A) s) = 0 := fun z => h57 (by rw [z]; rfl)
        have hdd : ¬ dead (tO A) (tV A) s = true := by simp [dead, hd1, hd2]
        have hl : vP (tV A) (aL (tO A) s) < 5 := Nat.lt_of_not_le (fun z => h74 ((pI_ge4 (by omega)).mpr z))
        have hr : ¬ (vP (tV A) (aB (tO A) s) < 5 ∧ vP (tV A) (aB (tO A) s) ≠ vP (tV A) (aL (tO A) s)) := fun z => Nat.not_lt.mpr ((pI_ge4 (by omega)).mp h90) z.1
        have hle : 100 * (10 - t) / 10 ≤ 100 := by omega
        have hf : frS (vP (tV A) (aL (tO A) s)) (vP (tV A) (aB (tO A) s)) t = 100 * (10 - t) / 10 := by rw [frS, if_neg hr, if_pos hl]
        refine ⟨?_, hT, Ch.rf⟩
        rw [fFires, gd, if_pos h2, gd, if_pos h9, iN_nI hsL, if_neg hdd, iN_nI htL, hf]
        have e9 : (100 - nI (100 * (10 - t) / 10)) * 100 = nI ((100 - (100 * (10 - t) / 10)) * 100) := by rw [show (100 : Int32) = nI 100 from rfl, nI_sb hle, pk_mul]
        exact congrArg (fun z => (Sum.inl (some (Value.int z)) : PO)) e9)
        · refine p_iload 4 95 rfl dX8_fires_93 rfl ?_
          refine p_iload_n 3 96 rfl rfl dX8_fires_95 rfl ?_
          refine p_icmp_eq 109 99 rfl rfl dX8_fires_96 (fun h96 => ?_) (fun h96 => ?_)
          · refine p_bipush (100) 111 rfl dX8_fires_109 rfl ?_
            refine p_iload 6 113 rfl dX8_fires_111 rfl ?_
            refine p_isub 114 rfl dX8_fires_113 ?_
            refine p_bipush (100) 116 rfl dX8_fires_114 rfl ?_
            refine p_imul 117 rfl dX8_fires_116 ?_
            exact p_iret dX8_fires_117 rfl (by
        have hd1 : ¬ vP (tV A) (aL (tO A) s) = 0 := fun z => h51 (by rw [z]; rfl)
        have hd2 : ¬ vP (tV A) (aB (tO A) s) = 0 := fun z => h57 (by rw [z]; rfl)
        have hdd : ¬ dead (tO A) (tV A) s = true := by simp [dead, hd1, hd2]
        have hl : vP (tV A) (aL (tO A) s) < 5 := Nat.lt_of_not_le (fun z => h74 ((pI_ge4 (by omega)).mpr z))
        have hr : ¬ (vP (tV A) (aB (tO A) s) < 5 ∧ vP (tV A) (aB (tO A) s) ≠ vP (tV A) (aL (tO A) s)) := fun z => z.2 ((pI_inj (by omega) (by omega)).mp h96)
        have hle : 100 * (10 - t) / 10 ≤ 100 := by omega
        have hf : frS (vP (tV A) (aL (tO A) s)) (vP (tV A) (aB (tO A) s)) t = 100 * (10 - t) / 10 := by rw [frS, if_neg hr, if_pos hl]
        refine ⟨?_, hT, Ch.rf⟩
        rw [fFires, gd, if_pos h2, gd, if_pos h9, iN_nI hsL, if_neg hdd, iN_nI htL, hf]
        have e9 : (100 - nI (100 * (10 - t) / 10)) * 100 = nI ((100 - (100 * (10 - t) / 10)) * 100) := by rw [show (100 : Int32) = nI 100 from rfl, nI_sb hle, pk_mul]
        exact congrArg (fun z => (Sum.inl (some (Value.int z)) : PO)) e9)
          · refine p_iload 6 101 rfl dX8_fires_99 rfl ?_
            refine p_iload 5 103 rfl dX8_fires_101 rfl ?_
            refine p_imul 104 rfl dX8_fires_103 ?_
            refine p_bipush (10) 106 rfl dX8_fires_104 rfl ?_
            rw [pk_mul]
            refine p_idiv 107 rfl dX8_fires_106 (by decide) ?_
            rw [show (10 : Int32) = nI 10 from rfl, pk_div (by have : 100 * (10 - t) / 10 * (10 - t) ≤ 100 * 10 := Nat.mul_le_mul (by omega) (by omega); omega) (by decide) (by decide)]
            refine p_ist_6 109 rfl dX8_fires_107 (Nat.le_of_ble_eq_true rfl) rfl ?_
            refine p_bipush (100) 111 rfl dX8_fires_109 rfl ?_
            refine p_iload 6 113 rfl dX8_fires_111 rfl ?_
            refine p_isub 114 rfl dX8_fires_113 ?_
            refine p_bipush (100) 116 rfl dX8_fires_114 rfl ?_
            refine p_imul 117 rfl dX8_fires_116 ?_
            exact p_iret dX8_fires_117 rfl (by
        have hd1 : ¬ vP (tV A) (aL (tO A) s) = 0 := fun z => h51 (by rw [z]; rfl)
        have hd2 : ¬ vP (tV A) (aB (tO A) s) = 0 := fun z => h57 (by rw [z]; rfl)
        have hdd : ¬ dead (tO A) (tV A) s = true := by simp [dead, hd1, hd2]
        have hl : vP (tV A) (aL (tO A) s) < 5 := Nat.lt_of_not_le (fun z => h74 ((pI_ge4 (by omega)).mpr z))
        have hr : vP (tV A) (aB (tO A) s) < 5 ∧ vP (tV A) (aB (tO A) s) ≠ vP (tV A) (aL (tO A) s) := ⟨Nat.lt_of_not_le (fun z => h90 ((pI_ge4 (by omega)).mpr z)), fun z => h96 (by rw [z])⟩
        have hle : 100 * (10 - t) / 10 * (10 - t) / 10 ≤ 100 := by have : 100 * (10 - t) / 10 * (10 - t) ≤ 100 * 10 := Nat.mul_le_mul (by omega) (by omega); omega
        have hf : frS (vP (tV A) (aL (tO A) s)) (vP (tV A) (aB (tO A) s)) t = 100 * (10 - t) / 10 * (10 - t) / 10 := by rw [frS, if_pos hr, if_pos hl]
        refine ⟨?_, hT, Ch.rf⟩
        rw [fFires, gd, if_pos h2, gd, if_pos h9, iN_nI hsL, if_neg hdd, iN_nI htL, hf]
        have e9 : (100 - nI (100 * (10 - t) / 10 * (10 - t) / 10)) * 100 = nI ((100 - (100 * (10 - t) / 10 * (10 - t) / 10)) * 100) := by rw [show (100 : Int32) = nI 100 from rfl, nI_sb hle, pk_mul]
        exact congrArg (fun z => (Sum.inl (some (Value.int z)) : PO)) e9)
    · refine p_iconst (-1) 61 rfl dX8_fires_60 rfl ?_
      exact p_iret dX8_fires_61 rfl ⟨by have e := (pI_m1 (by omega)).mp h57; simp [fFires, gd, h2, h9, iN_nI hsL, dead, e], hT, Ch.rf⟩
set_option maxRecDepth 4000 in
theorem c_gain (hT : IT σ o o' A) {c q s t : Nat} (hc : c < aC (tO A)) (hq : q < aC (tO A)) (hs : s < 2) (ht : t < 2) : CallOk Γ 4 0 0 mX8_gain [.ref T0, .int (nI c), .int (nI q), .int (nI s), .int (nI t)] σ (rI σ (gn A c q s t)) := by
  have hS := hT.1
  have hK := hT.2.1
  have hto : hR σ T0 3 = o := hT.2.2.1.2.2.1
  have hQ := hT.2.2.2.1
  have ho := hQ.1
  have hw := hT.2.2.2.2.1.1
  have hwo := hT.2.2.2.2.1.2
  have hv := hK.2.2.2.2.1.1
  have hd9 := hK.2.2.2.2.1.2
  have hY := hK.2.2.2.1
  have hO := hK.2.2.1
  have hs9 := hO.1
  have hc6 := hO.2.1
  have hw12 := hO.2.2.1
  have hk8 := hO.2.2.2.1
  refine p_enter rfl rfl (Nat.le_of_ble_eq_true rfl) rfl ?_
  refine p_aload_n 0 1 rfl rfl dX8_gain_0 rfl ?_
  refine p_getR 8 6 4 rfl dX8_gain_1 fl_X8_44 rfl rfl hS.2.2.1 (by decide) ?_
  refine p_iload_n 1 5 rfl rfl dX8_gain_4 rfl ?_
  refine p_cV1i 8 rfl dX8_gain_5 (c_sheetsOf ho hw hv hwo (by omega)) ml_X8_203 vl_X7_sheetsOf rfl (by decide) rfl (Nat.le_of_ble_eq_true rfl) (Nat.le_of_ble_eq_true rfl) rfl ?_
  refine p_ist_5 10 rfl dX8_gain_8 (Nat.le_of_ble_eq_true rfl) rfl ?_
  refine p_aload_n 0 11 rfl rfl dX8_gain_10 rfl ?_
  refine p_getR 8 6 14 rfl dX8_gain_11 fl_X8_44 rfl rfl hS.2.2.1 (by decide) ?_
  refine p_iload_n 2 15 rfl rfl dX8_gain_14 rfl ?_
  refine p_cV1i 18 rfl dX8_gain_15 (c_sheetsOf ho hw hv hwo (by omega)) ml_X8_203 vl_X7_sheetsOf rfl (by decide) rfl (Nat.le_of_ble_eq_true rfl) (Nat.le_of_ble_eq_true rfl) rfl ?_
  refine p_ist_6 20 rfl dX8_gain_18 (Nat.le_of_ble_eq_true rfl) rfl ?_
  have hs1 := shAt_lt hO (tV A) (c + 5)
  have hs2 := shAt_lt hO (tV A) (q + 5)
  refine p_iload 4 22 rfl dX8_gain_20 rfl ?_
  refine p_iconst (1) 23 rfl dX8_gain_22 rfl ?_
  refine p_icmp_ne 34 26 rfl rfl dX8_gain_23 (fun h23 => ?_) (fun h23 => ?_)
  · refine p_iload 5 36 rfl dX8_gain_34 rfl ?_
    refine p_ist_7 38 rfl dX8_gain_36 (Nat.le_of_ble_eq_true rfl) rfl ?_
    refine p_iload_n 3 39 rfl rfl dX8_gain_38 rfl ?_
    refine p_iconst (1) 40 rfl dX8_gain_39 rfl ?_
    refine p_icmp_ne 51 43 rfl rfl dX8_gain_40 (fun h40 => ?_) (fun h40 => ?_)
    · refine p_iload 6 53 rfl dX8_gain_51 rfl ?_
      refine p_ist_8 55 rfl dX8_gain_53 (Nat.le_of_ble_eq_true rfl) rfl ?_
      refine p_aload_n 0 56 rfl rfl dX8_gain_55 rfl ?_
      refine p_getR 8 6 59 rfl dX8_gain_56 fl_X8_44 rfl rfl hS.2.2.1 (by decide) ?_
      refine p_iload 7 61 rfl dX8_gain_59 rfl ?_
      refine p_cV1i 64 rfl dX8_gain_61 (c_wordsOf ho hw hv hwo (by first | omega | (exact Nat.lt_trans (Nat.or_lt_two_pow (n := 9) hs1 hs2) (by decide)))) ml_X8_240 vl_X7_wordsOf rfl (by decide) rfl (Nat.le_of_ble_eq_true rfl) (Nat.le_of_ble_eq_true rfl) rfl ?_
      refine p_aload_n 0 65 rfl rfl dX8_gain_64 rfl ?_
      refine p_getR 8 6 68 rfl dX8_gain_65 fl_X8_44 rfl rfl hS.2.2.1 (by decide) ?_
      refine p_getR 7 5 71 rfl dX8_gain_68 fl_X8_200 rfl rfl hw.1.2.2.2.2.1 (mk0 (Nat.succ_ne_zero _)) ?_
      refine p_iload_n 1 72 rfl rfl dX8_gain_71 rfl ?_
      refine p_ialdE 73 rfl dX8_gain_72 (kd16 _ _) (lt6 (by omega)) (hw.2.2.2 c (by omega)) ?_
      refine p_iconst (-1) 74 rfl dX8_gain_73 rfl ?_
      refine p_ixor 75 rfl dX8_gain_74 ?_
      refine p_iand 76 rfl dX8_gain_75 ?_
      rw [and_not_nI]
      refine p_ist_9 78 rfl dX8_gain_76 (Nat.le_of_ble_eq_true rfl) rfl ?_
      refine p_aload_n 0 79 rfl rfl dX8_gain_78 rfl ?_
      refine p_getR 8 6 82 rfl dX8_gain_79 fl_X8_44 rfl rfl hS.2.2.1 (by decide) ?_
      refine p_iload 8 84 rfl dX8_gain_82 rfl ?_
      refine p_cV1i 87 rfl dX8_gain_84 (c_wordsOf ho hw hv hwo (by first | omega | (exact Nat.lt_trans (Nat.or_lt_two_pow (n := 9) hs1 hs2) (by decide)))) ml_X8_240 vl_X7_wordsOf rfl (by decide) rfl (Nat.le_of_ble_eq_true rfl) (Nat.le_of_ble_eq_true rfl) rfl ?_
      refine p_aload_n 0 88 rfl rfl dX8_gain_87 rfl ?_
      refine p_getR 8 6 91 rfl dX8_gain_88 fl_X8_44 rfl rfl hS.2.2.1 (by decide) ?_
      refine p_getR 7 5 94 rfl dX8_gain_91 fl_X8_200 rfl rfl hw.1.2.2.2.2.1 (mk0 (Nat.succ_ne_zero _)) ?_
      refine p_iload_n 2 95 rfl rfl dX8_gain_94 rfl ?_
      refine p_ialdE 96 rfl dX8_gain_95 (kd16 _ _) (lt6 (by omega)) (hw.2.2.2 q (by omega)) ?_
      refine p_iconst (-1) 97 rfl dX8_gain_96 rfl ?_
      refine p_ixor 98 rfl dX8_gain_97 ?_
      refine p_iand 99 rfl dX8_gain_98 ?_
      rw [and_not_nI]
      refine p_ist_10 101 rfl dX8_gain_99 (Nat.le_of_ble_eq_true rfl) rfl ?_
      refine p_iconst (3) 102 rfl dX8_gain_101 rfl ?_
      refine p_iload 9 104 rfl dX8_gain_102 rfl ?_
      refine p_cS1i 107 rfl dX8_gain_104 (c_bitCountN (nwlt hO _ _)) ml_X8_284 sl_J6_bitCount_0f7a4 (Nat.le_of_ble_eq_true rfl) (Nat.le_of_ble_eq_true rfl) rfl ?_
      refine p_imul 108 rfl dX8_gain_107 ?_
      refine p_iconst (2) 109 rfl dX8_gain_108 rfl ?_
      refine p_iload 10 111 rfl dX8_gain_109 rfl ?_
      refine p_cS1i 114 rfl dX8_gain_111 (c_bitCountN (nwlt hO _ _)) ml_X8_284 sl_J6_bitCount_0f7a4 (Nat.le_of_ble_eq_true rfl) (Nat.le_of_ble_eq_true rfl) rfl ?_
      refine p_imul 115 rfl dX8_gain_114 ?_
      refine p_isub 116 rfl dX8_gain_115 ?_
      exact p_iret dX8_gain_116 rfl (by
        have e1 : ¬ t = 1 := fun z => h23 (by rw [z]; rfl)
        have e2 : ¬ s = 1 := fun z => h40 (by rw [z]; rfl)
        refine ⟨?_, rfl⟩
        rw [gn, if_neg e1, if_neg e2]
        rfl)
    · refine p_iload 5 45 rfl dX8_gain_43 rfl ?_
      refine p_iload 6 47 rfl dX8_gain_45 rfl ?_
      refine p_ior 48 rfl dX8_gain_47 ?_
      rw [nx_or]
      refine p_goto 53 rfl dX8_gain_48 ?_
      refine p_ist_8 55 rfl dX8_gain_53 (Nat.le_of_ble_eq_true rfl) rfl ?_
      refine p_aload_n 0 56 rfl rfl dX8_gain_55 rfl ?_
      refine p_getR 8 6 59 rfl dX8_gain_56 fl_X8_44 rfl rfl hS.2.2.1 (by decide) ?_
      refine p_iload 7 61 rfl dX8_gain_59 rfl ?_
      refine p_cV1i 64 rfl dX8_gain_61 (c_wordsOf ho hw hv hwo (by first | omega | (exact Nat.lt_trans (Nat.or_lt_two_pow (n := 9) hs1 hs2) (by decide)))) ml_X8_240 vl_X7_wordsOf rfl (by decide) rfl (Nat.le_of_ble_eq_true rfl) (Nat.le_of_ble_eq_true rfl) rfl ?_
      refine p_aload_n 0 65 rfl rfl dX8_gain_64 rfl ?_
      refine p_getR 8 6 68 rfl dX8_gain_65 fl_X8_44 rfl rfl hS.2.2.1 (by decide) ?_
      refine p_getR 7 5 71 rfl dX8_gain_68 fl_X8_200 rfl rfl hw.1.2.2.2.2.1 (mk0 (Nat.succ_ne_zero _)) ?_
      refine p_iload_n 1 72 rfl rfl dX8_gain_71 rfl ?_
      refine p_ialdE 73 rfl dX8_gain_72 (kd16 _ _) (lt6 (by omega)) (hw.2.2.2 c (by omega)) ?_
      refine p_iconst (-1) 74 rfl dX8_gain_73 rfl ?_
      refine p_ixor 75 rfl dX8_gain_74 ?_
      refine p_iand 76 rfl dX8_gain_75 ?_
      rw [and_not_nI]
      refine p_ist_9 78 rfl dX8_gain_76 (Nat.le_of_ble_eq_true rfl) rfl ?_
      refine p_aload_n 0 79 rfl rfl dX8_gain_78 rfl ?_
      refine p_getR 8 6 82 rfl dX8_gain_79 fl_X8_44 rfl rfl hS.2.2.1 (by decide) ?_
      refine p_iload 8 84 rfl dX8_gain_82 rfl ?_
      refine p_cV1i 87 rfl dX8_gain_84 (c_wordsOf ho hw hv hwo (by first | omega | (exact Nat.lt_trans (Nat.or_lt_two_pow (n := 9) hs1 hs2) (by decide)))) ml_X8_240 vl_X7_wordsOf rfl (by decide) rfl (Nat.le_of_ble_eq_true rfl) (Nat.le_of_ble_eq_true rfl) rfl ?_
      refine p_aload_n 0 88 rfl rfl dX8_gain_87 rfl ?_
      refine p_getR 8 6 91 rfl dX8_gain_88 fl_X8_44 rfl rfl hS.2.2.1 (by decide) ?_
      refine p_getR 7 5 94 rfl dX8_gain_91 fl_X8_200 rfl rfl hw.1.2.2.2.2.1 (mk0 (Nat.succ_ne_zero _)) ?_
      refine p_iload_n 2 95 rfl rfl dX8_gain_94 rfl ?_
      refine p_ialdE 96 rfl dX8_gain_95 (kd16 _ _) (lt6 (by omega)) (hw.2.2.2 q (by omega)) ?_
      refine p_iconst (-1) 97 rfl dX8_gain_96 rfl ?_
      refine p_ixor 98 rfl dX8_gain_97 ?_
      refine p_iand 99 rfl dX8_gain_98 ?_
      rw [and_not_nI]
      refine p_ist_10 101 rfl dX8_gain_99 (Nat.le_of_ble_eq_true rfl) rfl ?_
      refine p_iconst (3) 102 rfl dX8_gain_101 rfl ?_
      refine p_iload 9 104 rfl dX8_gain_102 rfl ?_
      refine p_cS1i 107 rfl dX8_gain_104 (c_bitCountN (nwlt hO _ _)) ml_X8_284 sl_J6_bitCount_0f7a4 (Nat.le_of_ble_eq_true rfl) (Nat.le_of_ble_eq_true rfl) rfl ?_
      refine p_imul 108 rfl dX8_gain_107 ?_
      refine p_iconst (2) 109 rfl dX8_gain_108 rfl ?_
      refine p_iload 10 111 rfl dX8_gain_109 rfl ?_
      refine p_cS1i 114 rfl dX8_gain_111 (c_bitCountN (nwlt hO _ _)) ml_X8_284 sl_J6_bitCount_0f7a4 (Nat.le_of_ble_eq_true rfl) (Nat.le_of_ble_eq_true rfl) rfl ?_
      refine p_imul 115 rfl dX8_gain_114 ?_
      refine p_isub 116 rfl dX8_gain_115 ?_
      exact p_iret dX8_gain_116 rfl (by
        have e1 : ¬ t = 1 := fun z => h23 (by rw [z]; rfl)
        have e2 : s = 1 := (nI_eq (b := 1) (by omega) (by decide)).mp h40
        refine ⟨?_, rfl⟩
        rw [gn, if_neg e1, if_pos e2]
        rfl)
  · refine p_iload 5 28 rfl dX8_gain_26 rfl ?_
    refine p_iload 6 30 rfl dX8_gain_28 rfl ?_
    refine p_ior 31 rfl dX8_gain_30 ?_
    rw [nx_or]
    refine p_goto 36 rfl dX8_gain_31 ?_
    refine p_ist_7 38 rfl dX8_gain_36 (Nat.le_of_ble_eq_true rfl) rfl ?_
    refine p_iload_n 3 39 rfl rfl dX8_gain_38 rfl ?_
    refine p_iconst (1) 40 rfl dX8_gain_39 rfl ?_
    refine p_icmp_ne 51 43 rfl rfl dX8_gain_40 (fun h40 => ?_) (fun h40 => ?_)
    · refine p_iload 6 53 rfl dX8_gain_51 rfl ?_
      refine p_ist_8 55 rfl dX8_gain_53 (Nat.le_of_ble_eq_true rfl) rfl ?_
      refine p_aload_n 0 56 rfl rfl dX8_gain_55 rfl ?_
      refine p_getR 8 6 59 rfl dX8_gain_56 fl_X8_44 rfl rfl hS.2.2.1 (by decide) ?_
      refine p_iload 7 61 rfl dX8_gain_59 rfl ?_
      refine p_cV1i 64 rfl dX8_gain_61 (c_wordsOf ho hw hv hwo (by first | omega | (exact Nat.lt_trans (Nat.or_lt_two_pow (n := 9) hs1 hs2) (by decide)))) ml_X8_240 vl_X7_wordsOf rfl (by decide) rfl (Nat.le_of_ble_eq_true rfl) (Nat.le_of_ble_eq_true rfl) rfl ?_
      refine p_aload_n 0 65 rfl rfl dX8_gain_64 rfl ?_
      refine p_getR 8 6 68 rfl dX8_gain_65 fl_X8_44 rfl rfl hS.2.2.1 (by decide) ?_
      refine p_getR 7 5 71 rfl dX8_gain_68 fl_X8_200 rfl rfl hw.1.2.2.2.2.1 (mk0 (Nat.succ_ne_zero _)) ?_
      refine p_iload_n 1 72 rfl rfl dX8_gain_71 rfl ?_
      refine p_ialdE 73 rfl dX8_gain_72 (kd16 _ _) (lt6 (by omega)) (hw.2.2.2 c (by omega)) ?_
      refine p_iconst (-1) 74 rfl dX8_gain_73 rfl ?_
      refine p_ixor 75 rfl dX8_gain_74 ?_
      refine p_iand 76 rfl dX8_gain_75 ?_
      rw [and_not_nI]
      refine p_ist_9 78 rfl dX8_gain_76 (Nat.le_of_ble_eq_true rfl) rfl ?_
      refine p_aload_n 0 79 rfl rfl dX8_gain_78 rfl ?_
      refine p_getR 8 6 82 rfl dX8_gain_79 fl_X8_44 rfl rfl hS.2.2.1 (by decide) ?_
      refine p_iload 8 84 rfl dX8_gain_82 rfl ?_
      refine p_cV1i 87 rfl dX8_gain_84 (c_wordsOf ho hw hv hwo (by first | omega | (exact Nat.lt_trans (Nat.or_lt_two_pow (n := 9) hs1 hs2) (by decide)))) ml_X8_240 vl_X7_wordsOf rfl (by decide) rfl (Nat.le_of_ble_eq_true rfl) (Nat.le_of_ble_eq_true rfl) rfl ?_
      refine p_aload_n 0 88 rfl rfl dX8_gain_87 rfl ?_
      refine p_getR 8 6 91 rfl dX8_gain_88 fl_X8_44 rfl rfl hS.2.2.1 (by decide) ?_
      refine p_getR 7 5 94 rfl dX8_gain_91 fl_X8_200 rfl rfl hw.1.2.2.2.2.1 (mk0 (Nat.succ_ne_zero _)) ?_
      refine p_iload_n 2 95 rfl rfl dX8_gain_94 rfl ?_
      refine p_ialdE 96 rfl dX8_gain_95 (kd16 _ _) (lt6 (by omega)) (hw.2.2.2 q (by omega)) ?_
      refine p_iconst (-1) 97 rfl dX8_gain_96 rfl ?_
      refine p_ixor 98 rfl dX8_gain_97 ?_
      refine p_iand 99 rfl dX8_gain_98 ?_
      rw [and_not_nI]
      refine p_ist_10 101 rfl dX8_gain_99 (Nat.le_of_ble_eq_true rfl) rfl ?_
      refine p_iconst (3) 102 rfl dX8_gain_101 rfl ?_
      refine p_iload 9 104 rfl dX8_gain_102 rfl ?_
      refine p_cS1i 107 rfl dX8_gain_104 (c_bitCountN (nwlt hO _ _)) ml_X8_284 sl_J6_bitCount_0f7a4 (Nat.le_of_ble_eq_true rfl) (Nat.le_of_ble_eq_true rfl) rfl ?_
      refine p_imul 108 rfl dX8_gain_107 ?_
      refine p_iconst (2) 109 rfl dX8_gain_108 rfl ?_
      refine p_iload 10 111 rfl dX8_gain_109 rfl ?_
      refine p_cS1i 114 rfl dX8_gain_111 (c_bitCountN (nwlt hO _ _)) ml_X8_284 sl_J6_bitCount_0f7a4 (Nat.le_of_ble_eq_true rfl) (Nat.le_of_ble_eq_true rfl) rfl ?_
      refine p_imul 115 rfl dX8_gain_114 ?_
      refine p_isub 116 rfl dX8_gain_115 ?_
      exact p_iret dX8_gain_116 rfl (by
        have e1 : t = 1 := (nI_eq (b := 1) (by omega) (by decide)).mp h23
        have e2 : ¬ s = 1 := fun z => h40 (by rw [z]; rfl)
        refine ⟨?_, rfl⟩
        rw [gn, if_pos e1, if_neg e2]
        rfl)
    · refine p_iload 5 45 rfl dX8_gain_43 rfl ?_
      refine p_iload 6 47 rfl dX8_gain_45 rfl ?_
      refine p_ior 48 rfl dX8_gain_47 ?_
      rw [nx_or]
      refine p_goto 53 rfl dX8_gain_48 ?_
      refine p_ist_8 55 rfl dX8_gain_53 (Nat.le_of_ble_eq_true rfl) rfl ?_
      refine p_aload_n 0 56 rfl rfl dX8_gain_55 rfl ?_
      refine p_getR 8 6 59 rfl dX8_gain_56 fl_X8_44 rfl rfl hS.2.2.1 (by decide) ?_
      refine p_iload 7 61 rfl dX8_gain_59 rfl ?_
      refine p_cV1i 64 rfl dX8_gain_61 (c_wordsOf ho hw hv hwo (by first | omega | (exact Nat.lt_trans (Nat.or_lt_two_pow (n := 9) hs1 hs2) (by decide)))) ml_X8_240 vl_X7_wordsOf rfl (by decide) rfl (Nat.le_of_ble_eq_true rfl) (Nat.le_of_ble_eq_true rfl) rfl ?_
      refine p_aload_n 0 65 rfl rfl dX8_gain_64 rfl ?_
      refine p_getR 8 6 68 rfl dX8_gain_65 fl_X8_44 rfl rfl hS.2.2.1 (by decide) ?_
      refine p_getR 7 5 71 rfl dX8_gain_68 fl_X8_200 rfl rfl hw.1.2.2.2.2.1 (mk0 (Nat.succ_ne_zero _)) ?_
      refine p_iload_n 1 72 rfl rfl dX8_gain_71 rfl ?_
      refine p_ialdE 73 rfl dX8_gain_72 (kd16 _ _) (lt6 (by omega)) (hw.2.2.2 c (by omega)) ?_
      refine p_iconst (-1) 74 rfl dX8_gain_73 rfl ?_
      refine p_ixor 75 rfl dX8_gain_74 ?_
      refine p_iand 76 rfl dX8_gain_75 ?_
      rw [and_not_nI]
      refine p_ist_9 78 rfl dX8_gain_76 (Nat.le_of_ble_eq_true rfl) rfl ?_
      refine p_aload_n 0 79 rfl rfl dX8_gain_78 rfl ?_
      refine p_getR 8 6 82 rfl dX8_gain_79 fl_X8_44 rfl rfl hS.2.2.1 (by decide) ?_
      refine p_iload 8 84 rfl dX8_gain_82 rfl ?_
      refine p_cV1i 87 rfl dX8_gain_84 (c_wordsOf ho hw hv hwo (by first | omega | (exact Nat.lt_trans (Nat.or_lt_two_pow (n := 9) hs1 hs2) (by decide)))) ml_X8_240 vl_X7_wordsOf rfl (by decide) rfl (Nat.le_of_ble_eq_true rfl) (Nat.le_of_ble_eq_true rfl) rfl ?_
      refine p_aload_n 0 88 rfl rfl dX8_gain_87 rfl ?_
      refine p_getR 8 6 91 rfl dX8_gain_88 fl_X8_44 rfl rfl hS.2.2.1 (by decide) ?_
      refine p_getR 7 5 94 rfl dX8_gain_91 fl_X8_200 rfl rfl hw.1.2.2.2.2.1 (mk0 (Nat.succ_ne_zero _)) ?_
      refine p_iload_n 2 95 rfl rfl dX8_gain_94 rfl ?_
      refine p_ialdE 96 rfl dX8_gain_95 (kd16 _ _) (lt6 (by omega)) (hw.2.2.2 q (by omega)) ?_
      refine p_iconst (-1) 97 rfl dX8_gain_96 rfl ?_
      refine p_ixor 98 rfl dX8_gain_97 ?_
      refine p_iand 99 rfl dX8_gain_98 ?_
      rw [and_not_nI]
      refine p_ist_10 101 rfl dX8_gain_99 (Nat.le_of_ble_eq_true rfl) rfl ?_
      refine p_iconst (3) 102 rfl dX8_gain_101 rfl ?_
      refine p_iload 9 104 rfl dX8_gain_102 rfl ?_
      refine p_cS1i 107 rfl dX8_gain_104 (c_bitCountN (nwlt hO _ _)) ml_X8_284 sl_J6_bitCount_0f7a4 (Nat.le_of_ble_eq_true rfl) (Nat.le_of_ble_eq_true rfl) rfl ?_
      refine p_imul 108 rfl dX8_gain_107 ?_
      refine p_iconst (2) 109 rfl dX8_gain_108 rfl ?_
      refine p_iload 10 111 rfl dX8_gain_109 rfl ?_
      refine p_cS1i 114 rfl dX8_gain_111 (c_bitCountN (nwlt hO _ _)) ml_X8_284 sl_J6_bitCount_0f7a4 (Nat.le_of_ble_eq_true rfl) (Nat.le_of_ble_eq_true rfl) rfl ?_
      refine p_imul 115 rfl dX8_gain_114 ?_
      refine p_isub 116 rfl dX8_gain_115 ?_
      exact p_iret dX8_gain_116 rfl (by
        have e1 : t = 1 := (nI_eq (b := 1) (by omega) (by decide)).mp h23
        have e2 : s = 1 := (nI_eq (b := 1) (by omega) (by decide)).mp h40
        refine ⟨?_, rfl⟩
        rw [gn, if_pos e1, if_pos e2]
        rfl)
set_option maxRecDepth 4000 in
theorem c_isBest (hT : IT σ o o' A) {c q s t : Nat} (hc : c < aC (tO A)) (hq : q < aC (tO A)) (hs : s < 2) (ht : t < 2) : CallOk Γ 5 0 0 mX8_isBest [.ref T0, .int (nI c), .int (nI q), .int (nI s), .int (nI t)] σ (rI σ (b2i (isB A c q s t))) := by
  refine p_enter rfl rfl (Nat.le_of_ble_eq_true rfl) rfl ?_
  refine p_aload_n 0 1 rfl rfl dX8_isBest_0 rfl ?_
  refine p_iload_n 1 2 rfl rfl dX8_isBest_1 rfl ?_
  refine p_iload_n 2 3 rfl rfl dX8_isBest_2 rfl ?_
  refine p_iload_n 3 4 rfl rfl dX8_isBest_3 rfl ?_
  refine p_iload 4 6 rfl dX8_isBest_4 rfl ?_
  refine p_cV4i 9 rfl dX8_isBest_6 (c_gain hT hc hq hs ht) ml_X8_360 vl_X8_gain rfl (by decide) rfl (Nat.le_of_ble_eq_true rfl) (Nat.le_of_ble_eq_true rfl) rfl ?_
  refine p_aload_n 0 10 rfl rfl dX8_isBest_9 rfl ?_
  refine p_iload_n 1 11 rfl rfl dX8_isBest_10 rfl ?_
  refine p_iload_n 2 12 rfl rfl dX8_isBest_11 rfl ?_
  refine p_iconst (1) 13 rfl dX8_isBest_12 rfl ?_
  refine p_iload_n 3 14 rfl rfl dX8_isBest_13 rfl ?_
  refine p_isub 15 rfl dX8_isBest_14 ?_
  rw [show (1 : Int32) = nI 1 from rfl, nI_sb (by omega)]
  refine p_iload 4 17 rfl dX8_isBest_15 rfl ?_
  refine p_cV4i 20 rfl dX8_isBest_17 (c_gain hT hc hq (by omega) ht) ml_X8_360 vl_X8_gain rfl (by decide) rfl (Nat.le_of_ble_eq_true rfl) (Nat.le_of_ble_eq_true rfl) rfl ?_
  refine p_icmp_lt 27 23 rfl rfl dX8_isBest_20 (fun h20 => ?_) (fun h20 => ?_)
  · refine p_iconst (0) 28 rfl dX8_isBest_27 rfl ?_
    exact p_zret dX8_isBest_28 rfl rfl ⟨by simp [isB, b2i, Int32.not_le.mpr h20], rfl⟩
  · refine p_iconst (1) 24 rfl dX8_isBest_23 rfl ?_
    refine p_goto 28 rfl dX8_isBest_24 ?_
    exact p_zret dX8_isBest_28 rfl rfl ⟨by simp [isB, b2i, Int32.not_lt.mp h20], rfl⟩
set_option maxRecDepth 6000 in
theorem l_game (hT : IT σ o o' A) {s k w : Nat} (hs : s < aC (tO A)) (hk : k < aC (tO A)) (hw2 : w < 2) : ∀ (n i : Nat) (x7 x8 : Option Value), i + n = 4 → Ok Γ 14 0 0 mX8_game 40 [some (.ref T0), some (.int (nI s)), some (.int (nI k)), some (.int (nI w)), some (.int (nI (prL (cpl A s k) i).length)), some (.int (fstG (prL (cpl A s k) i))), some (.int (nI i)), x7, x8] [] σ (rS (0, if w = 0 then nI (prL (cpl A s k) 4).length else fstG (prL (cpl A s k) 4)) false (fun σ' => IT σ' o o' A ∧ Ch cls σ σ')) := by
  have hS := hT.1
  have hK := hT.2.1
  have hto : hR σ T0 3 = o := hT.2.2.1.2.2.1
  have hQ := hT.2.2.2.1
  have ho := hQ.1
  have hw := hT.2.2.2.2.1.1
  have hwo := hT.2.2.2.2.1.2
  have hv := hK.2.2.2.2.1.1
  have hd9 := hK.2.2.2.2.1.2
  have hY := hK.2.2.2.1
  have hO := hK.2.2.1
  have hs9 := hO.1
  have hc6 := hO.2.1
  have hw12 := hO.2.2.1
  have hk8 := hO.2.2.2.1
  intro n
  induction n with
  | zero =>
    intro i x7 x8 hi
    refine p_iload 6 42 rfl dX8_game_40 rfl ?_
    refine p_iconst (4) 43 rfl dX8_game_42 rfl ?_
    refine p_icmp_ge 108 46 rfl rfl dX8_game_43 (fun h43 => ?_) (fun h43 => absurd (nI_le (a := 4) (b := i) (by omega) (by omega)) h43)
    refine p_iload_n 3 109 rfl rfl dX8_game_108 rfl ?_
    refine p_if_ne 117 112 rfl rfl dX8_game_109 (fun h109 => ?_) (fun h109 => ?_)
    · refine p_iload 5 119 rfl dX8_game_117 rfl ?_
      exact p_iret dX8_game_119 rfl (by
      have hx : ¬ w = 0 := fun z => h109 (by rw [z]; rfl)
      exact ⟨by rw [if_neg hx, show i = 4 by omega]; rfl, hT, Ch.rf⟩)
    · refine p_iload 4 114 rfl dX8_game_112 rfl ?_
      refine p_goto 119 rfl dX8_game_114 ?_
      exact p_iret dX8_game_119 rfl (by
      have hx : w = 0 := by
        rcases Nat.eq_zero_or_pos w with z | z
        · exact z
        · exact absurd h109 (nI_ne0 z (by omega))
      exact ⟨by rw [if_pos hx, show i = 4 by omega]; rfl, hT, Ch.rf⟩)
  | succ n ih =>
    intro i x7 x8 hi
    refine p_iload 6 42 rfl dX8_game_40 rfl ?_
    refine p_iconst (4) 43 rfl dX8_game_42 rfl ?_
    refine p_icmp_ge 108 46 rfl rfl dX8_game_43 (fun h43 => absurd h43 (nI_ge (a := i) (b := 4) (by omega) (by omega))) (fun h43 => ?_)
    refine p_iload 6 48 rfl dX8_game_46 rfl ?_
    refine p_iconst (2) 49 rfl dX8_game_48 rfl ?_
    refine p_idiv 50 rfl dX8_game_49 (by decide) ?_
    rw [show (2 : Int32) = nI 2 from rfl, pk_div (by omega) (by decide) (by decide)]
    refine p_ist_7 52 rfl dX8_game_50 (Nat.le_of_ble_eq_true rfl) rfl ?_
    refine p_iload 6 54 rfl dX8_game_52 rfl ?_
    refine p_iconst (2) 55 rfl dX8_game_54 rfl ?_
    refine p_irem 56 rfl dX8_game_55 (by decide) ?_
    rw [show (2 : Int32) = nI 2 from rfl, pk_rem (by omega) (by decide) (by decide)]
    refine p_ist_8 58 rfl dX8_game_56 (Nat.le_of_ble_eq_true rfl) rfl ?_
    refine p_aload_n 0 59 rfl rfl dX8_game_58 rfl ?_
    refine p_iload_n 1 60 rfl rfl dX8_game_59 rfl ?_
    refine p_iload_n 2 61 rfl rfl dX8_game_60 rfl ?_
    refine p_iload 7 63 rfl dX8_game_61 rfl ?_
    refine p_iload 8 65 rfl dX8_game_63 rfl ?_
    refine p_cV4i 68 rfl dX8_game_65 (c_isBest hT hs hk (by omega) (by omega)) ml_X8_356 vl_X8_isBest rfl (by decide) rfl (Nat.le_of_ble_eq_true rfl) (Nat.le_of_ble_eq_true rfl) rfl ?_
    refine p_if_eq 102 71 rfl rfl dX8_game_68 (fun h68 => ?_) (fun h68 => ?_)
    · refine p_inc_6 105 rfl dX8_game_102 (1) rfl (Nat.le_of_ble_eq_true rfl) rfl ?_
      refine p_goto 40 rfl dX8_game_105 ?_
      have hb : isB A s k (i / 2) (i % 2) = false := by simpa only [b2i_eq0, Bool.not_eq_true] using h68
      have e : prL (cpl A s k) (i + 1) = prL (cpl A s k) i := by rw [prL, if_neg (by simp [cpl, hb])]
      rw [nI_1, ← e]
      exact ih (i + 1) _ _ (by omega)
    · refine p_aload_n 0 72 rfl rfl dX8_game_71 rfl ?_
      refine p_iload_n 2 73 rfl rfl dX8_game_72 rfl ?_
      refine p_iload_n 1 74 rfl rfl dX8_game_73 rfl ?_
      refine p_iload 8 76 rfl dX8_game_74 rfl ?_
      refine p_iload 7 78 rfl dX8_game_76 rfl ?_
      refine p_cV4i 81 rfl dX8_game_78 (c_isBest hT hk hs (by omega) (by omega)) ml_X8_356 vl_X8_isBest rfl (by decide) rfl (Nat.le_of_ble_eq_true rfl) (Nat.le_of_ble_eq_true rfl) rfl ?_
      refine p_if_eq 102 84 rfl rfl dX8_game_81 (fun h81 => ?_) (fun h81 => ?_)
      · refine p_inc_6 105 rfl dX8_game_102 (1) rfl (Nat.le_of_ble_eq_true rfl) rfl ?_
        refine p_goto 40 rfl dX8_game_105 ?_
        have hb : isB A k s (i % 2) (i / 2) = false := by simpa only [b2i_eq0, Bool.not_eq_true] using h81
        have e : prL (cpl A s k) (i + 1) = prL (cpl A s k) i := by rw [prL, if_neg (by simp [cpl, hb])]
        rw [nI_1, ← e]
        exact ih (i + 1) _ _ (by omega)
      · refine p_iload 4 86 rfl dX8_game_84 rfl ?_
        refine p_if_ne 99 89 rfl rfl dX8_game_86 (fun h86 => ?_) (fun h86 => ?_)
        · refine p_inc_4 102 rfl dX8_game_99 (1) rfl (Nat.le_of_ble_eq_true rfl) rfl ?_
          refine p_inc_6 105 rfl dX8_game_102 (1) rfl (Nat.le_of_ble_eq_true rfl) rfl ?_
          refine p_goto 40 rfl dX8_game_105 ?_
          have hb : isB A s k (i / 2) (i % 2) = true := by simpa only [b2i_eq0, Decidable.not_not, Bool.not_eq_true, Bool.not_eq_false] using h68
          have hb2 : isB A k s (i % 2) (i / 2) = true := by simpa only [b2i_eq0, Decidable.not_not, Bool.not_eq_true, Bool.not_eq_false] using h81
          have e : prL (cpl A s k) (i + 1) = prL (cpl A s k) i ++ [i] := by rw [prL, if_pos (by simp [cpl, hb, hb2])]
          have := ih (i + 1) (some (.int (nI (i / 2)))) (some (.int (nI (i % 2)))) (by omega)
          rw [e, List.length_append, List.length_singleton] at this
          have hne : prL (cpl A s k) i ≠ [] := fun z => h86 (by rw [z]; rfl)
          have e2 : fstG (prL (cpl A s k) i ++ [i]) = fstG (prL (cpl A s k) i) := by
            cases hl : prL (cpl A s k) i with
            | nil => exact absurd hl hne
            | cons a l => rfl
          rw [e2] at this
          rw [nI_1, nI_1]
          exact this
        · refine p_iload 7 91 rfl dX8_game_89 rfl ?_
          refine p_bipush (10) 93 rfl dX8_game_91 rfl ?_
          refine p_imul 94 rfl dX8_game_93 ?_
          refine p_iload 8 96 rfl dX8_game_94 rfl ?_
          refine p_iadd 97 rfl dX8_game_96 ?_
          rw [show (10 : Int32) = nI 10 from rfl, pk_mul, nI_add]
          refine p_ist_5 99 rfl dX8_game_97 (Nat.le_of_ble_eq_true rfl) rfl ?_
          refine p_inc_4 102 rfl dX8_game_99 (1) rfl (Nat.le_of_ble_eq_true rfl) rfl ?_
          refine p_inc_6 105 rfl dX8_game_102 (1) rfl (Nat.le_of_ble_eq_true rfl) rfl ?_
          refine p_goto 40 rfl dX8_game_105 ?_
          have hb : isB A s k (i / 2) (i % 2) = true := by simpa only [b2i_eq0, Decidable.not_not, Bool.not_eq_true, Bool.not_eq_false] using h68
          have hb2 : isB A k s (i % 2) (i / 2) = true := by simpa only [b2i_eq0, Decidable.not_not, Bool.not_eq_true, Bool.not_eq_false] using h81
          have e : prL (cpl A s k) (i + 1) = prL (cpl A s k) i ++ [i] := by rw [prL, if_pos (by simp [cpl, hb, hb2])]
          have := ih (i + 1) (some (.int (nI (i / 2)))) (some (.int (nI (i % 2)))) (by omega)
          rw [e, List.length_append, List.length_singleton] at this
          have hnil : prL (cpl A s k) i = [] := by
            cases hl : prL (cpl A s k) i with
            | nil => rfl
            | cons a l => exact absurd h86 (by rw [hl]; exact nI_ne0 (by simp) (by have := prL_len (cpl A s k) i; rw [hl] at this; omega))
          rw [hnil] at this ⊢
          rw [nI_1, nI_1]
          exact this
set_option maxRecDepth 6000 in
theorem t_game (hT : IT σ o o' A) (x y z : Int32) : CallOk Γ 14 8 48 mX8_game [.ref T0, .int x, .int y, .int z] σ (rS (fGame A x y z) false (fun σ' => IT σ' o o' A ∧ Ch cls σ σ')) := by
  have hS := hT.1
  have hK := hT.2.1
  have hto : hR σ T0 3 = o := hT.2.2.1.2.2.1
  have hQ := hT.2.2.2.1
  have ho := hQ.1
  have hw := hT.2.2.2.2.1.1
  have hwo := hT.2.2.2.2.1.2
  have hv := hK.2.2.2.2.1.1
  have hd9 := hK.2.2.2.2.1.2
  have hY := hK.2.2.2.1
  have hO := hK.2.2.1
  have hs9 := hO.1
  have hc6 := hO.2.1
  have hw12 := hO.2.2.1
  have hk8 := hO.2.2.2.1
  refine p_enter rfl rfl (Nat.le_of_ble_eq_true rfl) rfl ?_
  refine p_aload_n 0 1 rfl rfl dX8_game_0 rfl ?_
  refine p_iload_n 1 2 rfl rfl dX8_game_1 rfl ?_
  refine p_cV1n 5 rfl dX8_game_2 (c_needClerk hto hQ _) ml_X8_194 vl_X8_needClerk rfl (by decide) rfl (Nat.le_of_ble_eq_true rfl) (Nat.le_of_ble_eq_true rfl) (Nat.le_of_ble_eq_true rfl) (Nat.le_of_ble_eq_true rfl) rfl (fun h2 => ?_) (fun h2 => ⟨by simp [fGame, gd, h2], hT, Ch.rf⟩)
  obtain ⟨s, rfl, hs⟩ := asN h2 (by omega)
  have hsL : s < 2147483648 := by omega
  refine p_aload_n 0 6 rfl rfl dX8_game_5 rfl ?_
  refine p_iload_n 2 7 rfl rfl dX8_game_6 rfl ?_
  refine p_cV1n 10 rfl dX8_game_7 (c_needClerk hto hQ _) ml_X8_194 vl_X8_needClerk rfl (by decide) rfl (Nat.le_of_ble_eq_true rfl) (Nat.le_of_ble_eq_true rfl) (Nat.le_of_ble_eq_true rfl) (Nat.le_of_ble_eq_true rfl) rfl (fun h7 => ?_) (fun h7 => ⟨by simp [fGame, gd, h2, h7], hT, Ch.rf⟩)
  obtain ⟨k, rfl, hk⟩ := asN h7 (by omega)
  have hkL : k < 2147483648 := by omega
  refine p_iload_n 3 11 rfl rfl dX8_game_10 rfl ?_
  refine p_iconst (2) 12 rfl dX8_game_11 rfl ?_
  refine p_cS2n 15 rfl dX8_game_12 (c_needBelow _ 2) ml_X8_257 sl_X8_needBelow (Nat.le_of_ble_eq_true rfl) (Nat.le_of_ble_eq_true rfl) (Nat.le_of_ble_eq_true rfl) (Nat.le_of_ble_eq_true rfl) rfl (fun h12 => ?_) (fun h12 => ⟨by simp [fGame, gd, h2, h7, h12], hT, Ch.rf⟩)
  obtain ⟨w, rfl, hww⟩ := asN h12 (by decide)
  have hwL : w < 2147483648 := by omega
  refine p_iload_n 1 16 rfl rfl dX8_game_15 rfl ?_
  refine p_iload_n 2 17 rfl rfl dX8_game_16 rfl ?_
  refine p_icmp_ne 31 20 rfl rfl dX8_game_17 (fun h17 => ?_) (fun h17 => ?_)
  · refine p_iconst (0) 32 rfl dX8_game_31 rfl ?_
    refine p_ist_4 34 rfl dX8_game_32 (Nat.le_of_ble_eq_true rfl) rfl ?_
    refine p_iconst (-1) 35 rfl dX8_game_34 rfl ?_
    refine p_ist_5 37 rfl dX8_game_35 (Nat.le_of_ble_eq_true rfl) rfl ?_
    refine p_iconst (0) 38 rfl dX8_game_37 rfl ?_
    refine p_ist_6 40 rfl dX8_game_38 (Nat.le_of_ble_eq_true rfl) rfl ?_
    have hne : ¬ s = k := fun z => h17 (by rw [z])
    have e : fGame A (nI s) (nI k) (nI w) = (0, if w = 0 then nI (prL (cpl A s k) 4).length else fstG (prL (cpl A s k) 4)) := by simp [fGame, gd, h2, h7, h12, iN_nI hsL, iN_nI hkL, iN_nI hwL, hne]
    rw [e]
    exact (l_game hT hs hk hww 4 0 _ _ (by omega)).sub (Nat.le_refl _) (Nat.zero_le _) (Nat.zero_le _)
  · exact p_throwW dX8_game_20 dX8_game_23 dX8_game_24 dX8_game_27 dX8_game_30 (x := 2) (i := 7) tl_X8_game_20 (Nat.le_of_ble_eq_true rfl) (Nat.le_of_ble_eq_true rfl) (Nat.le_of_ble_eq_true rfl) (Nat.le_of_ble_eq_true rfl) (⟨by have e := (nI_eq hsL hkL).mp h17; simp [fGame, gd, h2, h7, h12, iN_nI hsL, iN_nI hkL, e], hT, Ch.rf⟩)
end C57
