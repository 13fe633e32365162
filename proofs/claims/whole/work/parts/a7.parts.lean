/-! ===== the reference: operands ===== -/
def fvl (w : Bool) : Nat × Nat := if w = true then (4, 8) else (0, 5)
def BdX (X : MX) : Prop := (zO X).length + (zK X).length + 8 ≤ 2 * (zS X).2.2.2.1 ∧ (zK X).length ≤ (zS X).2.2.2.1
def RX (σ : PH) (tx : Nat → Nat) (z : Nat) (w : Bool) (X : MX) : Prop := TpM σ tx z ∧ RdM σ tx z (zS X) ∧ (hI σ M0 32 = nI (fvl w).1 ∧ hI σ M0 33 = nI (fvl w).2) ∧
  ((zS X).1 = 0 → CW σ (zO X) (zK X) ∧ (hI σ M0 35 = nI (zD X) ∧ zD X ≤ 6) ∧ (∀ i, 1 ≤ i → i ≤ zD X → hA σ mTs i = b2i (zT X i)) ∧ BdX X) ∧
  (¬ (zS X).1 = 0 → ∃ o k, CW σ o k ∧ o.length + k.length ≤ 1396 ∧ k.length ≤ 702)
theorem kw_sl {tx : Nat → Nat} {S : RS} (w : Bool) : (∃ k s, kwF tx S = some k ∧ (fvl w).1 ≤ k ∧ k ≤ (fvl w).2 ∧ (if w = true then slT tx S else slH tx S) = some s ∧ slt w s = k) ∨ ((if w = true then slT tx S else slH tx S) = none ∧ ∀ k, k < 17 → kwF tx S = some k → k < (fvl w).1 ∨ (fvl w).2 < k) := by
  have hn : ∀ k, k < 17 → ¬ kwF tx S = some k → spl tx S (swd (kwl k)) = false := fun k hk q => by
    cases e : spl tx S (swd (kwl k)) with
    | false => rfl
    | true => exact absurd ((kwF_iff hk).mpr e) q
  have hy : ∀ k, k < 17 → kwF tx S = some k → ∀ j, j < 17 → j ≠ k → spl tx S (swd (kwl j)) = false := fun k hk q j hj hjk => hn j hj (fun e => hjk (by rw [q] at e; cases e; rfl))
  cases w with
  | true =>
    show (∃ k s, kwF tx S = some k ∧ 4 ≤ k ∧ k ≤ 8 ∧ slT tx S = some s ∧ slt true s = k) ∨ (slT tx S = none ∧ ∀ k, k < 17 → kwF tx S = some k → k < 4 ∨ 8 < k)
    rcases Classical.em (∃ k, kwF tx S = some k ∧ 4 ≤ k ∧ k ≤ 8) with h | h
    · obtain ⟨k, h1, h2, h3⟩ := h
      have hs := (kwF_iff (show k < 17 by omega)).mp h1
      have ho := hy k (by omega) h1
      have : k = 4 ∨ k = 5 ∨ k = 6 ∨ k = 7 ∨ k = 8 := by omega
      refine Or.inl ⟨k, k - 4, h1, h2, h3, ?_, by show k - 4 + 4 = k; omega⟩
      show (if spl tx S (swd (kwl 4)) = true then some 0 else if spl tx S (swd (kwl 5)) = true then some 1 else if spl tx S (swd (kwl 6)) = true then some 2 else if spl tx S (swd (kwl 7)) = true then some 3 else if spl tx S (swd (kwl 8)) = true then some 4 else none) = _
      rcases this with rfl | rfl | rfl | rfl | rfl
      · rw [if_pos hs]
      · rw [if_neg (nt (ho 4 (by decide) (by decide))), if_pos hs]
      · rw [if_neg (nt (ho 4 (by decide) (by decide))), if_neg (nt (ho 5 (by decide) (by decide))), if_pos hs]
      · rw [if_neg (nt (ho 4 (by decide) (by decide))), if_neg (nt (ho 5 (by decide) (by decide))), if_neg (nt (ho 6 (by decide) (by decide))), if_pos hs]
      · rw [if_neg (nt (ho 4 (by decide) (by decide))), if_neg (nt (ho 5 (by decide) (by decide))), if_neg (nt (ho 6 (by decide) (by decide))), if_neg (nt (ho 7 (by decide) (by decide))), if_pos hs]
    · have hf : ∀ k, 4 ≤ k → k ≤ 8 → spl tx S (swd (kwl k)) = false := fun k h1 h2 => hn k (by omega) (fun e => h ⟨k, e, h1, h2⟩)
      refine Or.inr ⟨?_, fun k _ e => ?_⟩
      · show (if spl tx S (swd (kwl 4)) = true then some 0 else if spl tx S (swd (kwl 5)) = true then some 1 else if spl tx S (swd (kwl 6)) = true then some 2 else if spl tx S (swd (kwl 7)) = true then some 3 else if spl tx S (swd (kwl 8)) = true then some 4 else none) = _
        rw [if_neg (nt (hf 4 (by decide) (by decide))), if_neg (nt (hf 5 (by decide) (by decide))), if_neg (nt (hf 6 (by decide) (by decide))), if_neg (nt (hf 7 (by decide) (by decide))), if_neg (nt (hf 8 (by decide) (by decide)))]
      · rcases Nat.lt_or_ge k 4 with q | q
        · exact Or.inl q
        · rcases Nat.lt_or_ge 8 k with u | u
          · exact Or.inr u
          · exact absurd ⟨k, e, q, u⟩ h
  | false =>
    show (∃ k s, kwF tx S = some k ∧ 0 ≤ k ∧ k ≤ 5 ∧ slH tx S = some s ∧ slt false s = k) ∨ (slH tx S = none ∧ ∀ k, k < 17 → kwF tx S = some k → k < 0 ∨ 5 < k)
    rcases Classical.em (∃ k, kwF tx S = some k ∧ k ≤ 5) with h | h
    · obtain ⟨k, h1, h3⟩ := h
      have hs := (kwF_iff (show k < 17 by omega)).mp h1
      have ho := hy k (by omega) h1
      have : k = 0 ∨ k = 1 ∨ k = 2 ∨ k = 3 ∨ k = 4 ∨ k = 5 := by omega
      have hsl : slH tx S = some (if k < 4 then k + 2 else k - 4) := by
        show (if spl tx S (swd (kwl 4)) = true then some 0 else if spl tx S (swd (kwl 5)) = true then some 1 else if spl tx S (swd (kwl 0)) = true then some 2 else if spl tx S (swd (kwl 1)) = true then some 3 else if spl tx S (swd (kwl 2)) = true then some 4 else if spl tx S (swd (kwl 3)) = true then some 5 else none) = _
        rcases this with rfl | rfl | rfl | rfl | rfl | rfl
        · rw [if_neg (nt (ho 4 (by decide) (by decide))), if_neg (nt (ho 5 (by decide) (by decide))), if_pos hs]; rfl
        · rw [if_neg (nt (ho 4 (by decide) (by decide))), if_neg (nt (ho 5 (by decide) (by decide))), if_neg (nt (ho 0 (by decide) (by decide))), if_pos hs]; rfl
        · rw [if_neg (nt (ho 4 (by decide) (by decide))), if_neg (nt (ho 5 (by decide) (by decide))), if_neg (nt (ho 0 (by decide) (by decide))), if_neg (nt (ho 1 (by decide) (by decide))), if_pos hs]; rfl
        · rw [if_neg (nt (ho 4 (by decide) (by decide))), if_neg (nt (ho 5 (by decide) (by decide))), if_neg (nt (ho 0 (by decide) (by decide))), if_neg (nt (ho 1 (by decide) (by decide))), if_neg (nt (ho 2 (by decide) (by decide))), if_pos hs]; rfl
        · rw [if_pos hs]; rfl
        · rw [if_neg (nt (ho 4 (by decide) (by decide))), if_pos hs]; rfl
      refine Or.inl ⟨k, _, h1, Nat.zero_le _, h3, hsl, ?_⟩
      rcases this with rfl | rfl | rfl | rfl | rfl | rfl <;> rfl
    · have hf : ∀ k, k ≤ 5 → spl tx S (swd (kwl k)) = false := fun k h2 => hn k (by omega) (fun e => h ⟨k, e, h2⟩)
      refine Or.inr ⟨?_, fun k _ e => ?_⟩
      · show (if spl tx S (swd (kwl 4)) = true then some 0 else if spl tx S (swd (kwl 5)) = true then some 1 else if spl tx S (swd (kwl 0)) = true then some 2 else if spl tx S (swd (kwl 1)) = true then some 3 else if spl tx S (swd (kwl 2)) = true then some 4 else if spl tx S (swd (kwl 3)) = true then some 5 else none) = _
        rw [if_neg (nt (hf 4 (by decide))), if_neg (nt (hf 5 (by decide))), if_neg (nt (hf 0 (by decide))), if_neg (nt (hf 1 (by decide))), if_neg (nt (hf 2 (by decide))), if_neg (nt (hf 3 (by decide)))]
      · rcases Nat.lt_or_ge 5 k with u | u
        · exact Or.inr u
        · exact absurd ⟨k, e, u⟩ h
theorem kwF_lt {tx : Nat → Nat} {S : RS} {k : Nat} (h : kwF tx S = some k) : k < 17 := by
  unfold kwF at h
  rcases Nat.lt_or_ge k 17 with q | q
  · exact q
  · have : ∀ n i, fnd n i (fun k => spl tx S (swd (kwl k))) = some k → k < i + n := by
      intro n
      induction n with
      | zero => intro i h; cases h
      | succ n ih =>
        intro i h
        simp only [fnd] at h
        split at h
        · cases h; omega
        · have := ih (i + 1) h; omega
    have := this 17 0 h
    omega
theorem BdX.b {X : MX} {z : Nat} (h : BdX X) (hz : z ≤ 700) (ho : OkR z (zS X)) : (zO X).length + (zK X).length ≤ 1392 ∧ (zK X).length ≤ 700 := by
  have := h.1; have := h.2; have := ho.2.2.1; omega
section Ca7
variable {Γ : Gm} {σ : PH} {tx : Nat → Nat} {z : Nat} {w : Bool} {X : MX}
theorem RX.flt {σ' : PH} {S : RS} (hX : RX σ tx z w X) (h0 : (zS X).1 = 0) (hz : z ≤ 700) (hr : RdM σ' tx z S) (hf : ¬ S.1 = 0) (hF : Fj [14, 15, 18, 19, 20, 21, 22, 23, 31, 34, 35] [rCd, mWt, mTs] σ σ') (o k : List Int32) (hc : CW σ' o k) (ho : o.length + k.length ≤ 1396 ∧ k.length ≤ 702) {O' K' : List Int32} {D' : Nat} {T' : Nat → Bool} : RX σ' tx z w (S, O', K', D', T') :=
  ⟨hX.1.fr hF rfl, hr, ⟨by rw [hF.i (by decide)]; exact hX.2.2.1.1, by rw [hF.i (by decide)]; exact hX.2.2.1.2⟩, fun q => absurd q hf, fun _ => ⟨o, k, hc, ho⟩⟩
theorem RX.good {σ' : PH} {Y : MX} (hX : RX σ tx z w X) (hF : Fj [14, 15, 18, 19, 20, 21, 22, 23, 31, 34, 35] [rCd, mWt, mTs] σ σ') (hr : RdM σ' tx z (zS Y)) (h0 : (zS Y).1 = 0) (hc : CW σ' (zO Y) (zK Y)) (hd : hI σ' M0 35 = nI (zD Y) ∧ zD Y ≤ 6) (ht : ∀ i, 1 ≤ i → i ≤ zD Y → hA σ' mTs i = b2i (zT Y i)) (hb : BdX Y) : RX σ' tx z w Y :=
  ⟨hX.1.fr hF rfl, hr, ⟨by rw [hF.i (by decide)]; exact hX.2.2.1.1, by rw [hF.i (by decide)]; exact hX.2.2.1.2⟩, fun _ => ⟨hc, hd, ht, hb⟩, fun q => absurd h0 q⟩
set_option maxRecDepth 10000 in
theorem c_part (hX : RX σ tx z w X) (h0 : (zS X).1 = 0) : CallOk Γ 6 0 0 mX9_part [.ref M0] σ (rV (fun σ' => RX σ' tx z w (prM tx z w X) ∧ Fj [14, 15, 18, 19, 20, 21, 22, 23, 31, 34, 35] [rCd, mWt, mTs] σ σ')) := by
  have hT := hX.1
  have h := hX.2.1
  have hz7 := hT.2.1
  have htx := hT.2.2.1
  have hr := hT.1
  have hg := hX.2.2.2.1 h0
  have ht := (h.2.2.2.1 h0).1
  have ho := (h.2.2.2.1 h0).2
  have hcw := hg.1
  have hb := hg.2.2.2.b hz7 ho
  have hbd := hg.2.2.2
  refine p_enter rfl rfl (Nat.le_of_ble_eq_true rfl) rfl ?_
  refine p_aload_n 0 1 rfl rfl dX9_part_0 rfl ?_
  refine p_cV0i 4 rfl dX9_part_1 (c_isGood h) ml_X9_161 vl_X9_isGood rfl (by decide) rfl (Nat.le_of_ble_eq_true rfl) (Nat.le_of_ble_eq_true rfl) rfl ?_
  refine p_if_ne 8 7 rfl rfl dX9_part_4 (fun h4 => ?_) (fun h4 => absurd (b2i_f h4) (by rw [h0]; decide))
  refine p_aload_n 0 9 rfl rfl dX9_part_8 rfl ?_
  refine p_getIE 9 19 12 rfl dX9_part_9 fl_X9_135 rfl rfl ht.1.2.2.1 ?_
  refine p_iconst (2) 13 rfl dX9_part_12 rfl ?_
  refine p_icmp_ne 45 16 rfl rfl dX9_part_13 (fun h13 => ?_) (fun h13 => ?_)
  · have hk2 : ¬ (zS X).2.2.1 = 2 := fun q => h13 (show nI (zS X).2.2.1 = 2 by rw [q]; rfl)
    refine p_aload_n 0 46 rfl rfl dX9_part_45 rfl ?_
    refine p_getIE 9 19 49 rfl dX9_part_46 fl_X9_135 rfl rfl ht.1.2.2.1 ?_
    refine p_iconst (1) 50 rfl dX9_part_49 rfl ?_
    refine p_icmp_ne 92 53 rfl rfl dX9_part_50 (fun h50 => ?_) (fun h50 => ?_)
    · refine p_aload_n 0 93 rfl rfl dX9_part_92 rfl ?_
      refine p_iconst (1) 94 rfl dX9_part_93 rfl ?_
      refine p_cV1v 0 0 97 rfl dX9_part_94 (c_wrong h (w := 1) (by decide) (by decide)) ml_X9_168 vl_X9_wrong rfl (by decide) rfl (Nat.le_of_ble_eq_true rfl) (Nat.le_of_ble_eq_true rfl) (Nat.le_of_ble_eq_true rfl) (Nat.le_of_ble_eq_true rfl) rfl ?_
      intro σ1 hp1
      have hk1 : ¬ (zS X).2.2.1 = 1 := fun q => h50 (show nI (zS X).2.2.1 = 1 by rw [q]; rfl)
      have hflt : ¬ (fai z 1 (zS X)).1 = 0 := by rw [(fai_k h0).2.1]; decide
      have em : prM tx z w X = (fai z 1 (zS X), zO X, zK X, zD X, zT X) := by unfold prM; rw [if_neg hk2, if_neg hk1]
      have hFF : Fj [14, 15, 18, 19, 20, 21, 22, 23, 31, 34, 35] [rCd, mWt, mTs] σ σ1 := hp1.2.1.up (by decide) (by decide)
      refine p_aload_n 0 98 rfl rfl dX9_part_97 rfl ?_
      refine p_cV0i 101 rfl dX9_part_98 (c_isGood hp1.1) ml_X9_161 vl_X9_isGood rfl (by decide) rfl (Nat.le_of_ble_eq_true rfl) (Nat.le_of_ble_eq_true rfl) rfl ?_
      refine p_if_eq 108 104 rfl rfl dX9_part_101 (fun h101 => ?_) (fun h101 => absurd (b2i_t h101) (by simpa using hflt))
      exact p_vret dX9_part_108 rfl ⟨rfl, by rw [em]; exact hX.flt h0 hz7 hp1.1 hflt hFF _ _ (hcw.fr hp1.2.1 rfl rfl rfl rfl) (by omega), hFF⟩
    · have hk1 : (zS X).2.2.1 = 1 := nI_eqI (show nI (zS X).2.2.1 = nI 1 from h50) (by have := ho.2.1; omega) (by decide)
      refine p_aload_n 0 54 rfl rfl dX9_part_53 rfl ?_
      refine p_cV0i 57 rfl dX9_part_54 (c_knownWord h h0 hz7) ml_X9_186 vl_X9_knownWord rfl (by decide) rfl (Nat.le_of_ble_eq_true rfl) (Nat.le_of_ble_eq_true rfl) rfl ?_
      refine p_ist_n1 58 rfl rfl dX9_part_57 (Nat.le_of_ble_eq_true rfl) rfl ?_
      refine p_iload_n 1 59 rfl rfl dX9_part_58 rfl ?_
      refine p_aload_n 0 60 rfl rfl dX9_part_59 rfl ?_
      refine p_getIE 9 32 63 rfl dX9_part_60 fl_X9_190 rfl rfl hX.2.2.1.1 ?_
      refine p_icmp_lt 74 66 rfl rfl dX9_part_63 (fun h63 => ?_) (fun h63 => ?_)
      · refine p_aload_n 0 75 rfl rfl dX9_part_74 rfl ?_
        refine p_iconst (3) 76 rfl dX9_part_75 rfl ?_
        refine p_cV1v 0 0 79 rfl dX9_part_76 (c_wrong h (w := 3) (by decide) (by decide)) ml_X9_168 vl_X9_wrong rfl (by decide) rfl (Nat.le_of_ble_eq_true rfl) (Nat.le_of_ble_eq_true rfl) (Nat.le_of_ble_eq_true rfl) (Nat.le_of_ble_eq_true rfl) rfl ?_
        intro σ1 hp1
        have hrB : ∀ k, hR σ1 M0 k = mRef k := fun k => by rw [hp1.2.1.2.2.1]; exact hr k
        have hsl : (if w = true then slT tx (zS X) else slH tx (zS X)) = none := by
          rcases kw_sl (tx := tx) (S := zS X) w with q | q
          · obtain ⟨k, s, q1, q2, q3, q4, q5⟩ := q
            rw [q1] at h63
            exact absurd h63 (nI_nlt q2 (by have := kwF_lt q1; omega))
          · exact q.1
        refine p_aload_n 0 80 rfl rfl dX9_part_79 rfl ?_
        refine p_iconst (2) 81 rfl dX9_part_80 rfl ?_
        refine p_cV1v 0 0 84 rfl dX9_part_81 (c_puts (fun k => by rw [hp1.2.1.2.2.1]; exact hr k) (hcw.fr hp1.2.1 rfl rfl rfl rfl) (by omega) _) ml_X9_183 vl_X9_puts rfl (by decide) rfl (Nat.le_of_ble_eq_true rfl) (Nat.le_of_ble_eq_true rfl) (Nat.le_of_ble_eq_true rfl) (Nat.le_of_ble_eq_true rfl) rfl ?_
        intro σ2 hp2
        refine p_aload_n 0 85 rfl rfl dX9_part_84 rfl ?_
        refine p_iload_n 1 86 rfl rfl dX9_part_85 rfl ?_
        refine p_cV1v 0 0 89 rfl dX9_part_86 (c_puts (fun k => by rw [hp2.2.1.2.2.1]; exact hrB k) hp2.1 (by simp only [List.length_append, List.length_cons, List.length_nil]; omega) _) ml_X9_183 vl_X9_puts rfl (by decide) rfl (Nat.le_of_ble_eq_true rfl) (Nat.le_of_ble_eq_true rfl) (Nat.le_of_ble_eq_true rfl) (Nat.le_of_ble_eq_true rfl) rfl ?_
        intro σ3 hp3
        refine p_goto 97 rfl dX9_part_89 ?_
        have h3 : RdM σ3 tx z (fai z 3 (zS X)) := (hp1.1.fr hp2.2.1 rfl (by rw [hp2.2.2])).fr hp3.2.1 rfl (by rw [hp3.2.2])
        have hflt : ¬ (fai z 3 (zS X)).1 = 0 := by rw [(fai_k h0).2.1]; decide
        have em : prM tx z w X = (fai z 3 (zS X), zO X, zK X, zD X, zT X) := by unfold prM; rw [if_neg hk2, if_pos hk1, hsl]
        have hFF : Fj [14, 15, 18, 19, 20, 21, 22, 23, 31, 34, 35] [rCd, mWt, mTs] σ σ3 := ((hp1.2.1.up (by decide) (by decide)).tr (hp2.2.1.up (by decide) (by decide))).tr (hp3.2.1.up (by decide) (by decide))
        refine p_aload_n 0 98 rfl rfl dX9_part_97 rfl ?_
        refine p_cV0i 101 rfl dX9_part_98 (c_isGood h3) ml_X9_161 vl_X9_isGood rfl (by decide) rfl (Nat.le_of_ble_eq_true rfl) (Nat.le_of_ble_eq_true rfl) rfl ?_
        refine p_if_eq 108 104 rfl rfl dX9_part_101 (fun h101 => ?_) (fun h101 => absurd (b2i_t h101) (by simpa using hflt))
        exact p_vret dX9_part_108 rfl ⟨rfl, by rw [em]; exact hX.flt h0 hz7 h3 hflt hFF _ _ hp3.1 (by simp only [List.length_append, List.length_cons, List.length_nil]; omega), hFF⟩
      · refine p_iload_n 1 67 rfl rfl dX9_part_66 rfl ?_
        refine p_aload_n 0 68 rfl rfl dX9_part_67 rfl ?_
        refine p_getIE 9 33 71 rfl dX9_part_68 fl_X9_193 rfl rfl hX.2.2.1.2 ?_
        refine p_icmp_le 79 74 rfl rfl dX9_part_71 (fun h71 => ?_) (fun h71 => ?_)
        · have hrB := hr
          obtain ⟨k, s, hkw, hk_1, hk_2, hsl, hslt⟩ : ∃ k s, kwF tx (zS X) = some k ∧ (fvl w).1 ≤ k ∧ k ≤ (fvl w).2 ∧ (if w = true then slT tx (zS X) else slH tx (zS X)) = some s ∧ slt w s = k := by
            rcases kw_sl (tx := tx) (S := zS X) w with q | q
            · exact q
            · exfalso
              cases hkw : kwF tx (zS X) with
              | none => rw [hkw] at h63; exact h63 (show (-1 : Int32) < nI (fvl w).1 from by unfold fvl; split <;> decide)
              | some k =>
                rw [hkw] at h63 h71
                rcases q.2 k (kwF_lt hkw) hkw with u | u
                · exact h63 (nI_lt u (by unfold fvl; split <;> decide))
                · exact absurd h71 (nI_ge u (by have := kwF_lt hkw; omega))
          rw [hkw, show oI (some k) = nI (slt w s) by rw [hslt]; rfl]
          refine p_aload_n 0 80 rfl rfl dX9_part_79 rfl ?_
          refine p_iconst (2) 81 rfl dX9_part_80 rfl ?_
          refine p_cV1v 0 0 84 rfl dX9_part_81 (c_puts hr hcw (by omega) _) ml_X9_183 vl_X9_puts rfl (by decide) rfl (Nat.le_of_ble_eq_true rfl) (Nat.le_of_ble_eq_true rfl) (Nat.le_of_ble_eq_true rfl) (Nat.le_of_ble_eq_true rfl) rfl ?_
          intro σ2 hp2
          refine p_aload_n 0 85 rfl rfl dX9_part_84 rfl ?_
          refine p_iload_n 1 86 rfl rfl dX9_part_85 rfl ?_
          refine p_cV1v 0 0 89 rfl dX9_part_86 (c_puts (fun k => by rw [hp2.2.1.2.2.1]; exact hrB k) hp2.1 (by simp only [List.length_append, List.length_cons, List.length_nil]; omega) _) ml_X9_183 vl_X9_puts rfl (by decide) rfl (Nat.le_of_ble_eq_true rfl) (Nat.le_of_ble_eq_true rfl) (Nat.le_of_ble_eq_true rfl) (Nat.le_of_ble_eq_true rfl) rfl ?_
          intro σ3 hp3
          refine p_goto 97 rfl dX9_part_89 ?_
          have h3 : RdM σ3 tx z (zS X) := (h.fr hp2.2.1 rfl (by rw [hp2.2.2])).fr hp3.2.1 rfl (by rw [hp3.2.2])
          have hF3 : Fj [31] [rCd] σ σ3 := hp2.2.1.tr hp3.2.1
          have em : prM tx z w X = (adv tx z (zS X), zO X ++ [2, nI (slt w s)], zK X, zD X, zT X) := by unfold prM; rw [if_neg hk2, if_pos hk1, hsl]
          refine p_aload_n 0 98 rfl rfl dX9_part_97 rfl ?_
          refine p_cV0i 101 rfl dX9_part_98 (c_isGood h3) ml_X9_161 vl_X9_isGood rfl (by decide) rfl (Nat.le_of_ble_eq_true rfl) (Nat.le_of_ble_eq_true rfl) rfl ?_
          refine p_if_eq 108 104 rfl rfl dX9_part_101 (fun h101 => absurd (b2i_f h101) (by rw [h0]; decide)) (fun h101 => ?_)
          refine p_aload_n 0 105 rfl rfl dX9_part_104 rfl ?_
          refine p_cV0v 0 0 108 rfl dX9_part_105 (c_goesR (hT.fr hF3 rfl) h3 h0) ml_X9_165 vl_X9_goes rfl (by decide) rfl (Nat.le_of_ble_eq_true rfl) (Nat.le_of_ble_eq_true rfl) (Nat.le_of_ble_eq_true rfl) (Nat.le_of_ble_eq_true rfl) rfl ?_
          intro σ5 hp5
          have hFF : Fj [14, 15, 18, 19, 20, 21, 22, 23, 31, 34, 35] [rCd, mWt, mTs] σ σ5 := (hF3.up (by decide) (by decide)).tr (hp5.2.up (by decide) (by decide))
          have hFF35 : hI σ5 M0 35 = hI σ M0 35 := (hp5.2.i (by decide)).trans (hF3.i (by decide))
          have hFT : hA σ5 mTs = hA σ mTs := (hp5.2.2.2.2.2 mTs (by simp)).trans (hF3.2.2.2.2 mTs (by decide))
          exact p_vret dX9_part_108 rfl ⟨rfl, by
     rw [em]
     refine hX.good hFF hp5.1 (by show (adv tx z (zS X)).1 = 0; rw [adv_f]; exact h0) (by have q := hp3.1.fr hp5.2 rfl rfl rfl rfl; rw [List.append_assoc] at q; exact q) ⟨(hFF35).trans hg.2.1.1, hg.2.1.2⟩ (fun i hi hj => by rw [hFT]; exact hg.2.2.1 i hi hj) ?_
     have := adv_st (tx := tx) ho (by rw [hk1]; decide)
     have h1 := hbd.1
     have h2 := hbd.2
     refine ⟨?_, ?_⟩
     · show (zO X ++ [2, nI (slt w s)]).length + (zK X).length + 8 ≤ 2 * (adv tx z (zS X)).2.2.2.1
       rw [List.length_append]; simp only [List.length_cons, List.length_nil]; omega
     · show (zK X).length ≤ (adv tx z (zS X)).2.2.2.1; omega, hFF⟩
        · refine p_aload_n 0 75 rfl rfl dX9_part_74 rfl ?_
          refine p_iconst (3) 76 rfl dX9_part_75 rfl ?_
          refine p_cV1v 0 0 79 rfl dX9_part_76 (c_wrong h (w := 3) (by decide) (by decide)) ml_X9_168 vl_X9_wrong rfl (by decide) rfl (Nat.le_of_ble_eq_true rfl) (Nat.le_of_ble_eq_true rfl) (Nat.le_of_ble_eq_true rfl) (Nat.le_of_ble_eq_true rfl) rfl ?_
          intro σ1 hp1
          have hrB : ∀ k, hR σ1 M0 k = mRef k := fun k => by rw [hp1.2.1.2.2.1]; exact hr k
          have hsl : (if w = true then slT tx (zS X) else slH tx (zS X)) = none := by
            rcases kw_sl (tx := tx) (S := zS X) w with q | q
            · obtain ⟨k, s, q1, q2, q3, q4, q5⟩ := q
              rw [q1] at h71
              exact absurd h71 (fun u => u (nI_le q3 (by unfold fvl; split <;> decide)))
            · exact q.1
          refine p_aload_n 0 80 rfl rfl dX9_part_79 rfl ?_
          refine p_iconst (2) 81 rfl dX9_part_80 rfl ?_
          refine p_cV1v 0 0 84 rfl dX9_part_81 (c_puts (fun k => by rw [hp1.2.1.2.2.1]; exact hr k) (hcw.fr hp1.2.1 rfl rfl rfl rfl) (by omega) _) ml_X9_183 vl_X9_puts rfl (by decide) rfl (Nat.le_of_ble_eq_true rfl) (Nat.le_of_ble_eq_true rfl) (Nat.le_of_ble_eq_true rfl) (Nat.le_of_ble_eq_true rfl) rfl ?_
          intro σ2 hp2
          refine p_aload_n 0 85 rfl rfl dX9_part_84 rfl ?_
          refine p_iload_n 1 86 rfl rfl dX9_part_85 rfl ?_
          refine p_cV1v 0 0 89 rfl dX9_part_86 (c_puts (fun k => by rw [hp2.2.1.2.2.1]; exact hrB k) hp2.1 (by simp only [List.length_append, List.length_cons, List.length_nil]; omega) _) ml_X9_183 vl_X9_puts rfl (by decide) rfl (Nat.le_of_ble_eq_true rfl) (Nat.le_of_ble_eq_true rfl) (Nat.le_of_ble_eq_true rfl) (Nat.le_of_ble_eq_true rfl) rfl ?_
          intro σ3 hp3
          refine p_goto 97 rfl dX9_part_89 ?_
          have h3 : RdM σ3 tx z (fai z 3 (zS X)) := (hp1.1.fr hp2.2.1 rfl (by rw [hp2.2.2])).fr hp3.2.1 rfl (by rw [hp3.2.2])
          have hflt : ¬ (fai z 3 (zS X)).1 = 0 := by rw [(fai_k h0).2.1]; decide
          have em : prM tx z w X = (fai z 3 (zS X), zO X, zK X, zD X, zT X) := by unfold prM; rw [if_neg hk2, if_pos hk1, hsl]
          have hFF : Fj [14, 15, 18, 19, 20, 21, 22, 23, 31, 34, 35] [rCd, mWt, mTs] σ σ3 := ((hp1.2.1.up (by decide) (by decide)).tr (hp2.2.1.up (by decide) (by decide))).tr (hp3.2.1.up (by decide) (by decide))
          refine p_aload_n 0 98 rfl rfl dX9_part_97 rfl ?_
          refine p_cV0i 101 rfl dX9_part_98 (c_isGood h3) ml_X9_161 vl_X9_isGood rfl (by decide) rfl (Nat.le_of_ble_eq_true rfl) (Nat.le_of_ble_eq_true rfl) rfl ?_
          refine p_if_eq 108 104 rfl rfl dX9_part_101 (fun h101 => ?_) (fun h101 => absurd (b2i_t h101) (by simpa using hflt))
          exact p_vret dX9_part_108 rfl ⟨rfl, by rw [em]; exact hX.flt h0 hz7 h3 hflt hFF _ _ hp3.1 (by simp only [List.length_append, List.length_cons, List.length_nil]; omega), hFF⟩
  · have hk2 : (zS X).2.2.1 = 2 := nI_eqI (show nI (zS X).2.2.1 = nI 2 from h13) (by have := ho.2.1; omega) (by decide)
    have hv2 := ht.2.1 hk2
    
    refine p_aload_n 0 17 rfl rfl dX9_part_16 rfl ?_
    refine p_getIE 9 21 20 rfl dX9_part_17 fl_X9_145 rfl rfl ht.1.2.2.2.2 ?_
    refine p_iconst (4) 21 rfl dX9_part_20 rfl ?_
    refine p_icmp_le 29 24 rfl rfl dX9_part_21 (fun h21 => ?_) (fun h21 => ?_)
    · have hl4 : (zS X).2.2.2.2.1 - (zS X).2.2.2.1 ≤ 4 := (Nat.lt_or_ge 4 ((zS X).2.2.2.2.1 - (zS X).2.2.2.1)).elim (fun q => absurd h21 (nI_ge q (by have := ho.2.2.2.1; omega))) id
      have hvv := hv2.1 hl4
      have hn : (zS X).2.2.2.2.2 ≤ 9999 := by
        have hd : ∀ i, i < (zS X).2.2.2.2.1 - (zS X).2.2.2.1 → tx ((zS X).2.2.2.1 + i) ≤ 57 := fun i hi => (kOf_2 ((ht.2.2.2.2.2 (Or.inr hk2) _ (by omega) (by omega)).trans hk2)).2
        have := numF_lt (tx := tx) (s := (zS X).2.2.2.1) _ hd
        have h10 : 10 ^ ((zS X).2.2.2.2.1 - (zS X).2.2.2.1) ≤ 10 ^ 4 := Nat.pow_le_pow_right (by decide) hl4
        rw [hv2.2, num, if_neg (by omega)]
        have : (10 : Nat) ^ 4 = 10000 := by decide
        omega
      have hrB := hr
      refine p_aload_n 0 30 rfl rfl dX9_part_29 rfl ?_
      refine p_iconst (1) 31 rfl dX9_part_30 rfl ?_
      refine p_cV1v 0 0 34 rfl dX9_part_31 (c_puts hr hcw (by omega) _) ml_X9_183 vl_X9_puts rfl (by decide) rfl (Nat.le_of_ble_eq_true rfl) (Nat.le_of_ble_eq_true rfl) (Nat.le_of_ble_eq_true rfl) (Nat.le_of_ble_eq_true rfl) rfl ?_
      intro σ2 hp2
      refine p_aload_n 0 35 rfl rfl dX9_part_34 rfl ?_
      refine p_aload_n 0 36 rfl rfl dX9_part_35 rfl ?_
      refine p_getI 9 22 39 rfl dX9_part_36 fl_X9_129 rfl rfl ?_
      first | rw [show hI σ2 M0 22 = nI (zS X).2.2.2.2.2 from (hp2.2.1.i (by decide)).trans hvv] | skip
      refine p_cV1v 0 0 42 rfl dX9_part_39 (c_puts (fun k => by rw [hp2.2.1.2.2.1]; exact hrB k) hp2.1 (by simp only [List.length_append, List.length_cons, List.length_nil]; omega) _) ml_X9_183 vl_X9_puts rfl (by decide) rfl (Nat.le_of_ble_eq_true rfl) (Nat.le_of_ble_eq_true rfl) (Nat.le_of_ble_eq_true rfl) (Nat.le_of_ble_eq_true rfl) rfl ?_
      intro σ3 hp3
      refine p_goto 97 rfl dX9_part_42 ?_
      have h3 : RdM σ3 tx z (zS X) := (h.fr hp2.2.1 rfl (by rw [hp2.2.2])).fr hp3.2.1 rfl (by rw [hp3.2.2])
      have hF3 : Fj [31] [rCd] σ σ3 := hp2.2.1.tr hp3.2.1
      have em : prM tx z w X = (adv tx z (zS X), zO X ++ [1, nI (zS X).2.2.2.2.2], zK X, zD X, zT X) := by unfold prM; rw [if_pos hk2, if_pos hn]
      refine p_aload_n 0 98 rfl rfl dX9_part_97 rfl ?_
      refine p_cV0i 101 rfl dX9_part_98 (c_isGood h3) ml_X9_161 vl_X9_isGood rfl (by decide) rfl (Nat.le_of_ble_eq_true rfl) (Nat.le_of_ble_eq_true rfl) rfl ?_
      refine p_if_eq 108 104 rfl rfl dX9_part_101 (fun h101 => absurd (b2i_f h101) (by rw [h0]; decide)) (fun h101 => ?_)
      refine p_aload_n 0 105 rfl rfl dX9_part_104 rfl ?_
      refine p_cV0v 0 0 108 rfl dX9_part_105 (c_goesR (hT.fr hF3 rfl) h3 h0) ml_X9_165 vl_X9_goes rfl (by decide) rfl (Nat.le_of_ble_eq_true rfl) (Nat.le_of_ble_eq_true rfl) (Nat.le_of_ble_eq_true rfl) (Nat.le_of_ble_eq_true rfl) rfl ?_
      intro σ5 hp5
      have hFF : Fj [14, 15, 18, 19, 20, 21, 22, 23, 31, 34, 35] [rCd, mWt, mTs] σ σ5 := (hF3.up (by decide) (by decide)).tr (hp5.2.up (by decide) (by decide))
      have hFF35 : hI σ5 M0 35 = hI σ M0 35 := (hp5.2.i (by decide)).trans (hF3.i (by decide))
      have hFT : hA σ5 mTs = hA σ mTs := (hp5.2.2.2.2.2 mTs (by simp)).trans (hF3.2.2.2.2 mTs (by decide))
      exact p_vret dX9_part_108 rfl ⟨rfl, by
     rw [em]
     refine hX.good hFF hp5.1 (by show (adv tx z (zS X)).1 = 0; rw [adv_f]; exact h0) (by have q := hp3.1.fr hp5.2 rfl rfl rfl rfl; rw [List.append_assoc] at q; exact q) ⟨(hFF35).trans hg.2.1.1, hg.2.1.2⟩ (fun i hi hj => by rw [hFT]; exact hg.2.2.1 i hi hj) ?_
     have := adv_st (tx := tx) ho (by rw [hk2]; decide)
     have h1 := hbd.1
     have h2 := hbd.2
     refine ⟨?_, ?_⟩
     · show (zO X ++ [1, nI (zS X).2.2.2.2.2]).length + (zK X).length + 8 ≤ 2 * (adv tx z (zS X)).2.2.2.1
       rw [List.length_append]; simp only [List.length_cons, List.length_nil]; omega
     · show (zK X).length ≤ (adv tx z (zS X)).2.2.2.1; omega, hFF⟩
    · refine p_aload_n 0 25 rfl rfl dX9_part_24 rfl ?_
      refine p_iconst (2) 26 rfl dX9_part_25 rfl ?_
      refine p_cV1v 0 0 29 rfl dX9_part_26 (c_wrong h (w := 2) (by decide) (by decide)) ml_X9_168 vl_X9_wrong rfl (by decide) rfl (Nat.le_of_ble_eq_true rfl) (Nat.le_of_ble_eq_true rfl) (Nat.le_of_ble_eq_true rfl) (Nat.le_of_ble_eq_true rfl) rfl ?_
      intro σ1 hp1
      have hn : ¬ (zS X).2.2.2.2.2 ≤ 9999 := by
        have hl : 4 < (zS X).2.2.2.2.1 - (zS X).2.2.2.1 := (Nat.lt_or_ge 4 ((zS X).2.2.2.2.1 - (zS X).2.2.2.1)).elim id (fun q => absurd (nI_le q (by decide)) h21)
        rw [hv2.2, num, if_pos hl]; omega
      have hrB : ∀ k, hR σ1 M0 k = mRef k := fun k => by rw [hp1.2.1.2.2.1]; exact hr k
      refine p_aload_n 0 30 rfl rfl dX9_part_29 rfl ?_
      refine p_iconst (1) 31 rfl dX9_part_30 rfl ?_
      refine p_cV1v 0 0 34 rfl dX9_part_31 (c_puts (fun k => by rw [hp1.2.1.2.2.1]; exact hr k) (hcw.fr hp1.2.1 rfl rfl rfl rfl) (by omega) _) ml_X9_183 vl_X9_puts rfl (by decide) rfl (Nat.le_of_ble_eq_true rfl) (Nat.le_of_ble_eq_true rfl) (Nat.le_of_ble_eq_true rfl) (Nat.le_of_ble_eq_true rfl) rfl ?_
      intro σ2 hp2
      refine p_aload_n 0 35 rfl rfl dX9_part_34 rfl ?_
      refine p_aload_n 0 36 rfl rfl dX9_part_35 rfl ?_
      refine p_getI 9 22 39 rfl dX9_part_36 fl_X9_129 rfl rfl ?_
      first | rw [show hI σ2 M0 22 = nI (zS X).2.2.2.2.2 from (hp2.2.1.i (by decide)).trans hvv] | skip
      refine p_cV1v 0 0 42 rfl dX9_part_39 (c_puts (fun k => by rw [hp2.2.1.2.2.1]; exact hrB k) hp2.1 (by simp only [List.length_append, List.length_cons, List.length_nil]; omega) _) ml_X9_183 vl_X9_puts rfl (by decide) rfl (Nat.le_of_ble_eq_true rfl) (Nat.le_of_ble_eq_true rfl) (Nat.le_of_ble_eq_true rfl) (Nat.le_of_ble_eq_true rfl) rfl ?_
      intro σ3 hp3
      refine p_goto 97 rfl dX9_part_42 ?_
      have h3 : RdM σ3 tx z (fai z 2 (zS X)) := (hp1.1.fr hp2.2.1 rfl (by rw [hp2.2.2])).fr hp3.2.1 rfl (by rw [hp3.2.2])
      have hflt : ¬ (fai z 2 (zS X)).1 = 0 := by rw [(fai_k h0).2.1]; decide
      have em : prM tx z w X = (fai z 2 (zS X), zO X, zK X, zD X, zT X) := by unfold prM; rw [if_pos hk2, if_neg hn]
      have hFF : Fj [14, 15, 18, 19, 20, 21, 22, 23, 31, 34, 35] [rCd, mWt, mTs] σ σ3 := ((hp1.2.1.up (by decide) (by decide)).tr (hp2.2.1.up (by decide) (by decide))).tr (hp3.2.1.up (by decide) (by decide))
      refine p_aload_n 0 98 rfl rfl dX9_part_97 rfl ?_
      refine p_cV0i 101 rfl dX9_part_98 (c_isGood h3) ml_X9_161 vl_X9_isGood rfl (by decide) rfl (Nat.le_of_ble_eq_true rfl) (Nat.le_of_ble_eq_true rfl) rfl ?_
      refine p_if_eq 108 104 rfl rfl dX9_part_101 (fun h101 => ?_) (fun h101 => absurd (b2i_t h101) (by simpa using hflt))
      exact p_vret dX9_part_108 rfl ⟨rfl, by rw [em]; exact hX.flt h0 hz7 h3 hflt hFF _ _ hp3.1 (by simp only [List.length_append, List.length_cons, List.length_nil]; omega), hFF⟩
set_option maxRecDepth 8000 in
theorem c_deeper (hX : RX σ tx z w X) (h0 : (zS X).1 = 0) : CallOk Γ 3 0 0 mX9_deeper [.ref M0] σ (rV (fun σ' => RX σ' tx z w (dee tx z X) ∧ Fj [14, 15, 18, 19, 20, 21, 22, 23, 31, 34, 35] [rCd, mWt, mTs] σ σ')) := by
  have hT := hX.1
  have h := hX.2.1
  have hz7 := hT.2.1
  have htx := hT.2.2.1
  have hr := hT.1
  have hg := hX.2.2.2.1 h0
  have ht := (h.2.2.2.1 h0).1
  have ho := (h.2.2.2.1 h0).2
  have hcw := hg.1
  have hb := hg.2.2.2.b hz7 ho
  have hbd := hg.2.2.2
  refine p_enter rfl rfl (Nat.le_of_ble_eq_true rfl) rfl ?_
  refine p_aload_n 0 1 rfl rfl dX9_deeper_0 rfl ?_
  refine p_getIE 9 35 4 rfl dX9_deeper_1 fl_X9_196 rfl rfl hg.2.1.1 ?_
  refine p_bipush (6) 6 rfl dX9_deeper_4 rfl ?_
  refine p_icmp_ge 30 9 rfl rfl dX9_deeper_6 (fun h6 => ?_) (fun h6 => ?_)
  · have hd6 : ¬ zD X < 6 := fun q => absurd h6 (nI_ge q (by decide))
    have hz6 := hg.2.1.2
    refine p_aload_n 0 31 rfl rfl dX9_deeper_30 rfl ?_
    refine p_aload_n 0 32 rfl rfl dX9_deeper_31 rfl ?_
    refine p_getIE 9 19 35 rfl dX9_deeper_32 fl_X9_135 rfl rfl ht.1.2.2.1 ?_
    refine p_iconst (2) 36 rfl dX9_deeper_35 rfl ?_
    refine p_icmp_eq 56 39 rfl rfl dX9_deeper_36 (fun h36 => ?_) (fun h36 => ?_)
    · refine p_iconst (2) 57 rfl dX9_deeper_56 rfl ?_
      refine p_goto 61 rfl dX9_deeper_57 ?_
      have hW : (if (zS X).2.2.1 = 2 ∨ (zS X).2.2.1 = 1 ∨ sta tx (zS X) 40 = true then 2 else 1) = 2 := if_pos (Or.inl (nI_eqI (show nI (zS X).2.2.1 = nI 2 from h36) (by have := ho.2.1; omega) (by decide)))
      refine p_cV1v 0 0 64 rfl dX9_deeper_61 (c_wrong h (w := 2) (by decide) (by decide)) ml_X9_168 vl_X9_wrong rfl (by decide) rfl (Nat.le_of_ble_eq_true rfl) (Nat.le_of_ble_eq_true rfl) (Nat.le_of_ble_eq_true rfl) (Nat.le_of_ble_eq_true rfl) rfl ?_
      intro σ1 hp1
      exact p_vret dX9_deeper_64 rfl ⟨rfl, by
     rw [show dee tx z X = (deep tx z (zS X), zO X, zK X, zD X, zT X) from if_neg hd6, show deep tx z (zS X) = fai z 2 (zS X) by unfold deep; rw [hW]]
     exact hX.flt h0 hz7 hp1.1 (by rw [(fai_k h0).2.1]; decide) (hp1.2.1.up (by decide) (by decide)) _ _ (hcw.fr hp1.2.1 rfl rfl rfl rfl) (by omega), hp1.2.1.up (by decide) (by decide)⟩
    · refine p_aload_n 0 40 rfl rfl dX9_deeper_39 rfl ?_
      refine p_getIE 9 19 43 rfl dX9_deeper_40 fl_X9_135 rfl rfl ht.1.2.2.1 ?_
      refine p_iconst (1) 44 rfl dX9_deeper_43 rfl ?_
      refine p_icmp_eq 56 47 rfl rfl dX9_deeper_44 (fun h44 => ?_) (fun h44 => ?_)
      · refine p_iconst (2) 57 rfl dX9_deeper_56 rfl ?_
        refine p_goto 61 rfl dX9_deeper_57 ?_
        have hW : (if (zS X).2.2.1 = 2 ∨ (zS X).2.2.1 = 1 ∨ sta tx (zS X) 40 = true then 2 else 1) = 2 := if_pos (Or.inr (Or.inl (nI_eqI (show nI (zS X).2.2.1 = nI 1 from h44) (by have := ho.2.1; omega) (by decide))))
        refine p_cV1v 0 0 64 rfl dX9_deeper_61 (c_wrong h (w := 2) (by decide) (by decide)) ml_X9_168 vl_X9_wrong rfl (by decide) rfl (Nat.le_of_ble_eq_true rfl) (Nat.le_of_ble_eq_true rfl) (Nat.le_of_ble_eq_true rfl) (Nat.le_of_ble_eq_true rfl) rfl ?_
        intro σ1 hp1
        exact p_vret dX9_deeper_64 rfl ⟨rfl, by
     rw [show dee tx z X = (deep tx z (zS X), zO X, zK X, zD X, zT X) from if_neg hd6, show deep tx z (zS X) = fai z 2 (zS X) by unfold deep; rw [hW]]
     exact hX.flt h0 hz7 hp1.1 (by rw [(fai_k h0).2.1]; decide) (hp1.2.1.up (by decide) (by decide)) _ _ (hcw.fr hp1.2.1 rfl rfl rfl rfl) (by omega), hp1.2.1.up (by decide) (by decide)⟩
      · refine p_aload_n 0 48 rfl rfl dX9_deeper_47 rfl ?_
        refine p_bipush (40) 50 rfl dX9_deeper_48 rfl ?_
        refine p_cV1i 53 rfl dX9_deeper_50 (c_isSign h h0 htx (c := 40) (by decide)) ml_X9_199 vl_X9_isSign rfl (by decide) rfl (Nat.le_of_ble_eq_true rfl) (Nat.le_of_ble_eq_true rfl) rfl ?_
        refine p_if_eq 60 56 rfl rfl dX9_deeper_53 (fun h53 => ?_) (fun h53 => ?_)
        · refine p_iconst (1) 61 rfl dX9_deeper_60 rfl ?_
          have hW : (if (zS X).2.2.1 = 2 ∨ (zS X).2.2.1 = 1 ∨ sta tx (zS X) 40 = true then 2 else 1) = 1 := if_neg (fun q => q.elim (fun q => h36 (show nI (zS X).2.2.1 = 2 by rw [q]; rfl)) (fun q => q.elim (fun q => h44 (show nI (zS X).2.2.1 = 1 by rw [q]; rfl)) (fun q => by rw [b2i_f h53] at q; cases q)))
          refine p_cV1v 0 0 64 rfl dX9_deeper_61 (c_wrong h (w := 1) (by decide) (by decide)) ml_X9_168 vl_X9_wrong rfl (by decide) rfl (Nat.le_of_ble_eq_true rfl) (Nat.le_of_ble_eq_true rfl) (Nat.le_of_ble_eq_true rfl) (Nat.le_of_ble_eq_true rfl) rfl ?_
          intro σ1 hp1
          exact p_vret dX9_deeper_64 rfl ⟨rfl, by
     rw [show dee tx z X = (deep tx z (zS X), zO X, zK X, zD X, zT X) from if_neg hd6, show deep tx z (zS X) = fai z 1 (zS X) by unfold deep; rw [hW]]
     exact hX.flt h0 hz7 hp1.1 (by rw [(fai_k h0).2.1]; decide) (hp1.2.1.up (by decide) (by decide)) _ _ (hcw.fr hp1.2.1 rfl rfl rfl rfl) (by omega), hp1.2.1.up (by decide) (by decide)⟩
        · refine p_iconst (2) 57 rfl dX9_deeper_56 rfl ?_
          refine p_goto 61 rfl dX9_deeper_57 ?_
          have hW : (if (zS X).2.2.1 = 2 ∨ (zS X).2.2.1 = 1 ∨ sta tx (zS X) 40 = true then 2 else 1) = 2 := if_pos (Or.inr (Or.inr (b2i_t h53)))
          refine p_cV1v 0 0 64 rfl dX9_deeper_61 (c_wrong h (w := 2) (by decide) (by decide)) ml_X9_168 vl_X9_wrong rfl (by decide) rfl (Nat.le_of_ble_eq_true rfl) (Nat.le_of_ble_eq_true rfl) (Nat.le_of_ble_eq_true rfl) (Nat.le_of_ble_eq_true rfl) rfl ?_
          intro σ1 hp1
          exact p_vret dX9_deeper_64 rfl ⟨rfl, by
     rw [show dee tx z X = (deep tx z (zS X), zO X, zK X, zD X, zT X) from if_neg hd6, show deep tx z (zS X) = fai z 2 (zS X) by unfold deep; rw [hW]]
     exact hX.flt h0 hz7 hp1.1 (by rw [(fai_k h0).2.1]; decide) (hp1.2.1.up (by decide) (by decide)) _ _ (hcw.fr hp1.2.1 rfl rfl rfl rfl) (by omega), hp1.2.1.up (by decide) (by decide)⟩
  · have hd6 : zD X < 6 := (Nat.lt_or_ge (zD X) 6).elim id (fun q => absurd (nI_le q (by omega)) h6)
    have hz6 := hg.2.1.2
    refine p_aload_n 0 10 rfl rfl dX9_deeper_9 rfl ?_
    refine p_dup 11 rfl dX9_deeper_10 rfl ?_
    refine p_getIE 9 35 14 rfl dX9_deeper_11 fl_X9_196 rfl rfl hg.2.1.1 ?_
    refine p_iconst (1) 15 rfl dX9_deeper_14 rfl ?_
    refine p_iadd 16 rfl dX9_deeper_15 ?_
    rw [nI_1]
    refine p_putI 9 35 19 rfl dX9_deeper_16 fl_X9_196 rfl rfl (Or.inl rfl) ?_
    refine p_aload_n 0 20 rfl rfl dX9_deeper_19 rfl ?_
    refine p_getR 9 43 23 rfl dX9_deeper_20 fl_X9_62 rfl rfl (show hR _ M0 43 = mTs from hr 43) (by decide) ?_
    refine p_aload_n 0 24 rfl rfl dX9_deeper_23 rfl ?_
    refine p_getIE 9 35 27 rfl dX9_deeper_24 fl_X9_196 rfl rfl (hI_sI _ _ _ _) ?_
    refine p_iconst (0) 28 rfl dX9_deeper_27 rfl ?_
    refine p_zastE 29 rfl dX9_deeper_28 (i := zD X + 1) rfl (by show _ < 9; omega) (Or.inl rfl) ?_
    have hF9 : Fj [35] [mTs] σ (sA (sI σ M0 35 (nI (zD X + 1))) mTs (zD X + 1) 0) := (Fj.sI (by simp)).tr (Fj.sA (by simp))
    have hFF : Fj [14, 15, 18, 19, 20, 21, 22, 23, 31, 34, 35] [rCd, mWt, mTs] σ (sA (sI σ M0 35 (nI (zD X + 1))) mTs (zD X + 1) 0) := hF9.up (by decide) (by decide)
    have h9 : RdM (sA (sI σ M0 35 (nI (zD X + 1))) mTs (zD X + 1) 0) tx z (zS X) := h.fr hF9 rfl rfl
    exact p_vret dX9_deeper_29 rfl ⟨rfl, by
     rw [show dee tx z X = (zS X, zO X, zK X, zD X + 1, upB (zT X) (zD X + 1) false) from if_pos hd6]
     refine hX.good (Y := (zS X, zO X, zK X, zD X + 1, upB (zT X) (zD X + 1) false)) hFF h9 h0 (hcw.fr hF9 rfl rfl rfl rfl) ⟨(show hI (sI σ M0 35 (nI (zD X + 1))) M0 35 = nI (zD X + 1) from hI_sI _ _ _ _), by show zD X + 1 ≤ 6; omega⟩ (fun i hi hj => ?_) hbd
     rw [sA_s]
     show upd (hA σ mTs) (zD X + 1) 0 i = b2i (if i = zD X + 1 then false else zT X i)
     by_cases e : i = zD X + 1
     · rw [e, pk_us, if_pos rfl]; rfl
     · rw [pk_un e, if_neg e]; exact hg.2.2.1 i hi (by have : i ≤ zD X + 1 := hj; omega), hFF⟩
end Ca7
