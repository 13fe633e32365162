/-! ===== couples; the longest row ===== -/
theorem xor_le (r m : Nat) : r ^^^ (r &&& m) ≤ r := by
  have h : r ^^^ (r &&& m) = r &&& (r ^^^ (r &&& m)) := by
    apply Nat.eq_of_testBit_eq
    intro i
    simp only [Nat.testBit_and, Nat.testBit_xor]
    cases r.testBit i <;> cases m.testBit i <;> rfl
  rw [h]
  exact Nat.and_le_left
theorem nI_eqI {a b : Nat} (h : nI a = nI b) (ha : a < 2147483648) (hb : b < 2147483648) : a = b := by
  have := congrArg Int32.toInt h
  rw [show (nI a).toInt = (a : Int) from Int32.toInt_ofNat_of_lt ha, show (nI b).toInt = (b : Int) from Int32.toInt_ofNat_of_lt hb] at this
  omega
def mcI (B T : Nat → Nat) (s r : Nat) : Nat → Nat
  | 0 => T r
  | j + 1 => if (r &&& B s).testBit (s + 1 + j) = true then max (mcI B T s r j) (1 + T (r ^^^ (r &&& 2 ^ (s + 1 + j)))) else mcI B T s r j
def mcV (B T : Nat → Nat) (n k : Nat) : Nat := mcI B T ((low k).getD 0) (k &&& (k - 1)) (n - ((low k).getD 0 + 1))
def mcT (B : Nat → Nat) (n : Nat) : Nat → Nat → Nat
  | 0 => fun _ => 0
  | k + 1 => fun j => if j = k + 1 then mcV B (mcT B n k) n (k + 1) else mcT B n k j
def Tab (σ : PH) (T : Nat → Nat) (k : Nat) : Prop := ∀ j, j ≤ k → hA σ eS j = nI (T j)
theorem mcI_le {B T : Nat → Nat} {s r k : Nat} (hT : ∀ j, T j ≤ j) (hr : r < k) : ∀ j, mcI B T s r j ≤ k := by
  intro j
  induction j with
  | zero => have := hT r; simp only [mcI]; omega
  | succ j ih =>
    simp only [mcI]
    split
    · have h1 := hT (r ^^^ (r &&& 2 ^ (s + 1 + j)))
      have h2 : r ^^^ (r &&& 2 ^ (s + 1 + j)) ≤ r := xor_le _ _
      omega
    · exact ih
theorem mcT_le (B : Nat → Nat) (n : Nat) : ∀ k j, mcT B n k j ≤ j := by
  intro k
  induction k with
  | zero => intro j; exact Nat.zero_le _
  | succ k ih =>
    intro j
    simp only [mcT]
    split
    · rename_i h
      subst h
      refine mcI_le ih ?_ _
      exact Nat.lt_of_le_of_lt Nat.and_le_right (by omega)
    · exact ih j
def rbP (U : Nat) (R T : Nat → Nat) (k s : Nat) : Bool := (k &&& U).testBit s && ((k ^^^ (k &&& 2 ^ s)) == 0 || (R s &&& T (k ^^^ (k &&& 2 ^ s))) != 0)
def rbT (U : Nat) (R : Nat → Nat) (n : Nat) : Nat → Nat → Nat
  | 0 => fun _ => 0
  | k + 1 => fun j => if j = k + 1 then setN n (rbP U R (rbT U R n k) (k + 1)) else rbT U R n k j
def rbM (U : Nat) (R : Nat → Nat) (n : Nat) : Nat → Nat
  | 0 => 0
  | k + 1 => if setN n (rbP U R (rbT U R n k) (k + 1)) = 0 then rbM U R n k else max (rbM U R n k) (pop (k + 1))
def bgN (T : Nat → Nat) (m u : Nat) : Nat → Nat
  | 0 => 0
  | k + 1 => if ((k + 1) &&& u) = 0 ∧ pop (k + 1) = m then bgN T m u k ||| T (k + 1) else bgN T m u k
theorem rbT_lt (U : Nat) (R : Nat → Nat) {n : Nat} (hn : n ≤ 9) : ∀ k j, rbT U R n k j < 512 := by
  intro k
  induction k with
  | zero => intro j; show 0 < 512; decide
  | succ k ih =>
    intro j
    simp only [rbT]
    split
    · exact Nat.lt_of_lt_of_le (setN_lt _ _) (Nat.pow_le_pow_right (by decide) hn)
    · exact ih j
theorem bgN_lt {T : Nat → Nat} (hT : ∀ j, T j < 512) (m u : Nat) : ∀ k, bgN T m u k < 512 := by
  intro k
  induction k with
  | zero => show 0 < 512; decide
  | succ k ih =>
    simp only [bgN]
    split
    · exact Nat.or_lt_two_pow (n := 9) ih (hT _)
    · exact ih
theorem rbM_le (U : Nat) (R : Nat → Nat) (n : Nat) : ∀ k, k < 512 → rbM U R n k ≤ 9 := by
  intro k
  induction k with
  | zero => intro _; exact Nat.zero_le _
  | succ k ih =>
    intro hk
    have := ih (by omega)
    have := (show ∀ x, x < 512 → pop x ≤ 9 by decide +kernel) (k + 1) hk
    simp only [rbM]
    split <;> omega
/-- the longest row, as layRow lays it from the place i on -/
def rwL (R T : Nat → Nat) (z m : Nat) : Nat → Nat → Nat → Nat → List Nat
  | 0, _, _, _ => []
  | f + 1, i, u, x => match low (x &&& bgN T (m - i) u z) with
    | none => []
    | some s => s :: rwL R T z m f (i + 1) (u ||| 2 ^ s) (R s)
def rwA (O : AO) (V : AW) : List Nat :=
  let z := 2 ^ aS O - 1
  let m := rbM (unb O V) (ftg O V) (aS O) z
  rwL (ftg O V) (rbT (unb O V) (ftg O V) (aS O) z) z m m 0 0 (unb O V)
theorem rwL_len (R T : Nat → Nat) (z m : Nat) : ∀ f i u x, (rwL R T z m f i u x).length ≤ f := by
  intro f
  induction f with
  | zero => intro i u x; exact Nat.le_refl _
  | succ f ih =>
    intro i u x
    simp only [rwL]
    split
    · exact Nat.zero_le _
    · exact Nat.succ_le_succ (ih _ _ _)
theorem low512 : ∀ k, k < 512 → k ≠ 0 → ∃ s, low k = some s := by
  intro k hk h0
  have := (show ∀ k, k < 512 → k ≠ 0 → (low k).isSome = true by decide +kernel) k hk h0
  exact Option.isSome_iff_exists.mp this
theorem clr512 : ∀ k, k < 512 → ∀ s, s < 9 → k.testBit s = true → k ^^^ (k &&& 2 ^ s) < k := by decide +kernel
theorem EDG.sS {σ : PH} {A : AT} {i : Nat} {v : Int32} (h : EDG σ A) : EDG (sA σ eS i v) A := ⟨h.1, h.2.1, fun s hs => by
  rw [sA_o (show eR ≠ eS by decide), sA_o (show eB ≠ eS by decide)]; exact h.2.2 s hs⟩
theorem EDG.sW {σ : PH} {A : AT} {i : Nat} {v : Int32} (h : EDG σ A) : EDG (sA σ eW i v) A := ⟨h.1, h.2.1, fun s hs => by
  rw [sA_o (show eR ≠ eW by decide), sA_o (show eB ≠ eW by decide)]; exact h.2.2 s hs⟩
theorem chS (σ : PH) (i : Nat) (v : Int32) : Ch (inS sEd) σ (sA σ eS i v) := Fr.ch (XI := []) (X := [eS]) (Fr.sA (by simp)) rfl (by decide)
theorem chW (σ : PH) (i : Nat) (v : Int32) : Ch (inS sEd) σ (sA σ eW i v) := Fr.ch (XI := []) (X := [eW]) (Fr.sA (by simp)) rfl (by decide)
theorem Tab.up {σ : PH} {T T' : Nat → Nat} {k : Nat} (h : Tab σ T k) (h1 : ∀ j, j ≤ k → T' j = T j) {v : Nat} (h2 : T' (k + 1) = v) : Tab (sA σ eS (k + 1) (nI v)) T' (k + 1) := fun j hj => by
  rw [sA_s]
  rcases Nat.lt_or_ge j (k + 1) with z | z
  · rw [pk_un (by omega), h1 j (by omega)]; exact h j (by omega)
  · rw [show j = k + 1 by omega, pk_us, h2]
theorem Tab.z {σ : PH} {T : Nat → Nat} (h : T 0 = 0) : Tab (sA σ eS 0 (nI 0)) T 0 := fun j hj => by
  rw [sA_s, show j = 0 by omega, pk_us, h]
theorem Tab.w {σ : PH} {T : Nat → Nat} {k i : Nat} {v : Int32} (h : Tab σ T k) : Tab (sA σ eW i v) T k := fun j hj => by
  rw [sA_o (show eS ≠ eW by decide)]; exact h j hj
section C60
variable {Γ : Gm} {σ : PH} {o o' : Nat} {A : AT}
set_option maxRecDepth 4000 in
theorem m_mostC (hT : IT σ o o' A) (hE : EDG σ A) {T : Nat → Nat} {k s r : Nat} (hTb : ∀ j, T j ≤ j) (hk : k < 512) (hrk : r < k) (htb : ∀ j, j < k → hA σ eS j = nI (T j)) (hs : s < aS (tO A)) {Q : PO → PH → Prop} (kk : ∀ x5, Ok Γ 4 0 0 mX2_mostCouples 96 [some (.ref E0), some (.int (nI k)), some (.int (nI s)), some (.int (nI r)), some (.int (nI (mcI (bsd (tO A) (tV A)) T s r (aS (tO A) - (s + 1))))), x5] [] σ Q) : ∀ (n j : Nat), s + 1 + j + n = aS (tO A) → Ok Γ 4 0 0 mX2_mostCouples 43 [some (.ref E0), some (.int (nI k)), some (.int (nI s)), some (.int (nI r)), some (.int (nI (mcI (bsd (tO A) (tV A)) T s r j))), some (.int (nI (s + 1 + j)))] [] σ Q := by
  have hS := hT.1
  have hK := hT.2.1
  have hO := hK.2.2.1
  have hs9 := hO.1
  intro n
  induction n with
  | zero =>
    intro j hj
    refine p_iload 5 45 rfl dX2_mostCouples_43 rfl ?_
    refine p_aload_n 0 46 rfl rfl dX2_mostCouples_45 rfl ?_
    refine p_getIE 2 1 49 rfl dX2_mostCouples_46 fl_X2_15 rfl rfl hE.1 ?_
    refine p_icmp_ge 96 52 rfl rfl dX2_mostCouples_49 (fun h49 => ?_) (fun h49 => absurd (nI_le (a := aS (tO A)) (b := s + 1 + j) (by omega) (by omega)) h49)
    rw [show j = aS (tO A) - (s + 1) by omega]
    exact kk _
  | succ n ih =>
    intro j hj
    refine p_iload 5 45 rfl dX2_mostCouples_43 rfl ?_
    refine p_aload_n 0 46 rfl rfl dX2_mostCouples_45 rfl ?_
    refine p_getIE 2 1 49 rfl dX2_mostCouples_46 fl_X2_15 rfl rfl hE.1 ?_
    refine p_icmp_ge 96 52 rfl rfl dX2_mostCouples_49 (fun h49 => absurd h49 (nI_ge (a := s + 1 + j) (b := aS (tO A)) (by omega) (by omega))) (fun h49 => ?_)
    refine p_iload_n 3 53 rfl rfl dX2_mostCouples_52 rfl ?_
    refine p_aload_n 0 54 rfl rfl dX2_mostCouples_53 rfl ?_
    refine p_getR 2 4 57 rfl dX2_mostCouples_54 fl_X2_25 rfl rfl hS.2.2.2.2.2.2.2.2.2.2.2.2.2.2.2.2.1 (by decide) ?_
    refine p_iload_n 2 58 rfl rfl dX2_mostCouples_57 rfl ?_
    refine p_ialdE 59 rfl dX2_mostCouples_58 (i := s) rfl (by show s < 9; omega) (hE.2.2 s (by omega)).2 ?_
    refine p_iand 60 rfl dX2_mostCouples_59 ?_
    rw [nx_and]
    refine p_iload 5 62 rfl dX2_mostCouples_60 rfl ?_
    refine p_cN2i 65 rfl dX2_mostCouples_62 (c_hasBitN (Nat.lt_trans (Nat.lt_of_le_of_lt Nat.and_le_right (bsN_lt hO (tV A) s hs9)) (by decide)) (by omega)) mn_X2_62 sl_X8_hasBit (Nat.le_of_ble_eq_true rfl) (Nat.le_of_ble_eq_true rfl) ?_
    refine p_if_eq 90 68 rfl rfl dX2_mostCouples_65 (fun h65 => ?_) (fun h65 => ?_)
    · refine p_inc_5 93 rfl dX2_mostCouples_90 (1) rfl (Nat.le_of_ble_eq_true rfl) rfl ?_
      refine p_goto 43 rfl dX2_mostCouples_93 ?_
      have hb : (r &&& bsd (tO A) (tV A) s).testBit (s + 1 + j) = false := by simpa only [b2i_eq0, Bool.not_eq_true] using h65
      have e : mcI (bsd (tO A) (tV A)) T s r (j + 1) = mcI (bsd (tO A) (tV A)) T s r j := by simp [mcI, hb]
      rw [nI_1, ← e]
      exact ih (j + 1) (by omega)
    · refine p_iload 4 70 rfl dX2_mostCouples_68 rfl ?_
      refine p_iconst (1) 71 rfl dX2_mostCouples_70 rfl ?_
      refine p_aload_n 0 72 rfl rfl dX2_mostCouples_71 rfl ?_
      refine p_getR 2 5 75 rfl dX2_mostCouples_72 fl_X2_28 rfl rfl hS.2.2.2.2.2.2.2.2.2.2.2.2.2.2.2.2.2 (by decide) ?_
      refine p_iload_n 3 76 rfl rfl dX2_mostCouples_75 rfl ?_
      refine p_iconst (1) 77 rfl dX2_mostCouples_76 rfl ?_
      refine p_iload 5 79 rfl dX2_mostCouples_77 rfl ?_
      refine p_ishl 80 rfl dX2_mostCouples_79 ?_
      rw [one_shl _ (by omega)]
      refine p_iconst (-1) 81 rfl dX2_mostCouples_80 rfl ?_
      refine p_ixor 82 rfl dX2_mostCouples_81 ?_
      refine p_iand 83 rfl dX2_mostCouples_82 ?_
      have h2 : r ^^^ (r &&& 2 ^ (s + 1 + j)) ≤ r := xor_le _ _
      have h3 := hTb (r ^^^ (r &&& 2 ^ (s + 1 + j)))
      have h4 := mcI_le (B := (bsd (tO A) (tV A))) (s := s) hTb hrk j
      rw [and_not_nI]
      refine p_ialdE 84 rfl dX2_mostCouples_83 rfl (by show _ < 512; omega) (htb _ (by omega)) ?_
      refine p_iadd 85 rfl dX2_mostCouples_84 ?_
      rw [show (1 : Int32) + nI (T (r ^^^ (r &&& 2 ^ (s + 1 + j)))) = nI (1 + T (r ^^^ (r &&& 2 ^ (s + 1 + j)))) from nI_add 1 _]
      refine p_max 88 rfl dX2_mostCouples_85 ml_X2_70 (Nat.le_of_ble_eq_true rfl) (Nat.le_of_ble_eq_true rfl) ?_
      rw [mx_nI (by omega) (by omega)]
      refine p_ist_4 90 rfl dX2_mostCouples_88 (Nat.le_of_ble_eq_true rfl) rfl ?_
      refine p_inc_5 93 rfl dX2_mostCouples_90 (1) rfl (Nat.le_of_ble_eq_true rfl) rfl ?_
      refine p_goto 43 rfl dX2_mostCouples_93 ?_
      have hb : (r &&& bsd (tO A) (tV A) s).testBit (s + 1 + j) = true := by simpa only [b2i_eq0, Decidable.not_not, Bool.not_eq_true, Bool.not_eq_false] using h65
      have e : mcI (bsd (tO A) (tV A)) T s r (j + 1) = max (mcI (bsd (tO A) (tV A)) T s r j) (1 + T (r ^^^ (r &&& 2 ^ (s + 1 + j)))) := by simp [mcI, hb]
      rw [nI_1, ← e]
      exact ih (j + 1) (by omega)
set_option maxRecDepth 4000 in
theorem l_mostC (hT : IT σ o o' A) : ∀ (n k : Nat) (σ1 : PH) (x2 x3 x4 x5 : Option Value), k + 1 + n = 2 ^ aS (tO A) → IT σ1 o o' A → EDG σ1 A → Tab σ1 ((mcT (bsd (tO A) (tV A)) (aS (tO A))) k) k → Ch (inS sEd) σ σ1 → Ok Γ 4 0 0 mX2_mostCouples 9 [some (.ref E0), some (.int (nI (k + 1))), x2, x3, x4, x5] [] σ1 (rX (fun v σ' => v = nI ((mcT (bsd (tO A) (tV A)) (aS (tO A))) (2 ^ aS (tO A) - 1) (2 ^ aS (tO A) - 1)) ∧ IT σ' o o' A ∧ EDG σ' A ∧ Ch (inS sEd) σ σ')) := by
  intro n
  induction n with
  | zero =>
    intro k σ1 x2 x3 x4 x5 hk hT1 hE htb hc1
    have hS := hT1.1
    have hK := hT.2.1
    have hO := hK.2.2.1
    have hs9 := hO.1
    have hp := p9 hs9
    refine p_iload_n 1 10 rfl rfl dX2_mostCouples_9 rfl ?_
    refine p_iconst (1) 11 rfl dX2_mostCouples_10 rfl ?_
    refine p_aload_n 0 12 rfl rfl dX2_mostCouples_11 rfl ?_
    refine p_getIE 2 1 15 rfl dX2_mostCouples_12 fl_X2_15 rfl rfl hE.1 ?_
    refine p_ishl 16 rfl dX2_mostCouples_15 ?_
    rw [one_shl _ (by omega)]
    refine p_icmp_ge 110 19 rfl rfl dX2_mostCouples_16 (fun h16 => ?_) (fun h16 => absurd (nI_le (a := 2 ^ aS (tO A)) (b := k + 1) (by omega) (by omega)) h16)
    refine p_aload_n 0 111 rfl rfl dX2_mostCouples_110 rfl ?_
    refine p_getR 2 5 114 rfl dX2_mostCouples_111 fl_X2_28 rfl rfl hS.2.2.2.2.2.2.2.2.2.2.2.2.2.2.2.2.2 (by decide) ?_
    refine p_iconst (1) 115 rfl dX2_mostCouples_114 rfl ?_
    refine p_aload_n 0 116 rfl rfl dX2_mostCouples_115 rfl ?_
    refine p_getIE 2 1 119 rfl dX2_mostCouples_116 fl_X2_15 rfl rfl hE.1 ?_
    refine p_ishl 120 rfl dX2_mostCouples_119 ?_
    rw [one_shl _ (by omega)]
    refine p_iconst (1) 121 rfl dX2_mostCouples_120 rfl ?_
    refine p_isub 122 rfl dX2_mostCouples_121 ?_
    rw [show nI (2 ^ aS (tO A)) - 1 = nI (2 ^ aS (tO A) - 1) from nI_sb (b := 1) (by omega)]
    refine p_ialdE 123 rfl dX2_mostCouples_122 (i := 2 ^ aS (tO A) - 1) rfl (by show _ < 512; omega) (htb _ (by omega)) ?_
    exact p_iret dX2_mostCouples_123 rfl ⟨_, rfl, by rw [show k = 2 ^ aS (tO A) - 1 by omega], hT1, hE, hc1⟩
  | succ n ih =>
    intro k σ1 x2 x3 x4 x5 hk hT1 hE htb hc1
    have hS := hT1.1
    have hK := hT.2.1
    have hO := hK.2.2.1
    have hs9 := hO.1
    have hp := p9 hs9
    have hka : (k + 1) &&& k ≤ k := Nat.and_le_right
    obtain ⟨s, hs⟩ := low512 (k + 1) (by omega) (by omega)
    have hsn : s < aS (tO A) := (lowF_lt (m := k + 1) (k := aS (tO A)) (by omega) _ _ _ hs).1
    refine p_iload_n 1 10 rfl rfl dX2_mostCouples_9 rfl ?_
    refine p_iconst (1) 11 rfl dX2_mostCouples_10 rfl ?_
    refine p_aload_n 0 12 rfl rfl dX2_mostCouples_11 rfl ?_
    refine p_getIE 2 1 15 rfl dX2_mostCouples_12 fl_X2_15 rfl rfl hE.1 ?_
    refine p_ishl 16 rfl dX2_mostCouples_15 ?_
    rw [one_shl _ (by omega)]
    refine p_icmp_ge 110 19 rfl rfl dX2_mostCouples_16 (fun h16 => absurd h16 (nI_ge (a := k + 1) (b := 2 ^ aS (tO A)) (by omega) (by omega))) (fun h16 => ?_)
    refine p_iload_n 1 20 rfl rfl dX2_mostCouples_19 rfl ?_
    refine p_cN1i 23 rfl dX2_mostCouples_20 (c_leastBitN (m := k + 1) (by omega)) mn_X2_59 sl_X8_leastBit (Nat.le_of_ble_eq_true rfl) (Nat.le_of_ble_eq_true rfl) ?_
    rw [show oI (low (k + 1)) = nI s by rw [hs]; rfl]
    refine p_ist_n2 24 rfl rfl dX2_mostCouples_23 (Nat.le_of_ble_eq_true rfl) rfl ?_
    refine p_iload_n 1 25 rfl rfl dX2_mostCouples_24 rfl ?_
    refine p_iload_n 1 26 rfl rfl dX2_mostCouples_25 rfl ?_
    refine p_iconst (1) 27 rfl dX2_mostCouples_26 rfl ?_
    refine p_isub 28 rfl dX2_mostCouples_27 ?_
    rw [show nI (k + 1) - 1 = nI k from nI_sb (a := k + 1) (b := 1) (by omega)]
    refine p_iand 29 rfl dX2_mostCouples_28 ?_
    rw [nx_and]
    refine p_ist_n3 30 rfl rfl dX2_mostCouples_29 (Nat.le_of_ble_eq_true rfl) rfl ?_
    refine p_aload_n 0 31 rfl rfl dX2_mostCouples_30 rfl ?_
    refine p_getR 2 5 34 rfl dX2_mostCouples_31 fl_X2_28 rfl rfl hS.2.2.2.2.2.2.2.2.2.2.2.2.2.2.2.2.2 (by decide) ?_
    refine p_iload_n 3 35 rfl rfl dX2_mostCouples_34 rfl ?_
    refine p_ialdE 36 rfl dX2_mostCouples_35 (i := (k + 1) &&& k) rfl (by show _ < 512; omega) (htb _ (by omega)) ?_
    refine p_ist_4 38 rfl dX2_mostCouples_36 (Nat.le_of_ble_eq_true rfl) rfl ?_
    refine p_iload_n 2 39 rfl rfl dX2_mostCouples_38 rfl ?_
    refine p_iconst (1) 40 rfl dX2_mostCouples_39 rfl ?_
    refine p_iadd 41 rfl dX2_mostCouples_40 ?_
    refine p_ist_5 43 rfl dX2_mostCouples_41 (Nat.le_of_ble_eq_true rfl) rfl ?_
    rw [nI_1]
    refine m_mostC hT1 hE (T := (mcT (bsd (tO A) (tV A)) (aS (tO A))) k) (mcT_le _ _ k) (by omega) (r := (k + 1) &&& k) (by omega) (fun j hj => htb j (by omega)) (s := s) hsn (fun x5 => ?_) (aS (tO A) - (s + 1)) 0 (by omega)
    have ev : mcI (bsd (tO A) (tV A)) ((mcT (bsd (tO A) (tV A)) (aS (tO A))) k) s ((k + 1) &&& k) (aS (tO A) - (s + 1)) = (mcV (bsd (tO A) (tV A)) ((mcT (bsd (tO A) (tV A)) (aS (tO A))) k) (aS (tO A)) (k + 1)) := by simp [mcV, hs]
    rw [ev]
    refine p_aload_n 0 97 rfl rfl dX2_mostCouples_96 rfl ?_
    refine p_getR 2 5 100 rfl dX2_mostCouples_97 fl_X2_28 rfl rfl hS.2.2.2.2.2.2.2.2.2.2.2.2.2.2.2.2.2 (by decide) ?_
    refine p_iload_n 1 101 rfl rfl dX2_mostCouples_100 rfl ?_
    refine p_iload 4 103 rfl dX2_mostCouples_101 rfl ?_
    refine p_iastE 104 rfl dX2_mostCouples_103 rfl (by show k + 1 < 512; omega) ?_
    refine p_inc_1 107 rfl dX2_mostCouples_104 (1) rfl (Nat.le_of_ble_eq_true rfl) rfl ?_
    refine p_goto 9 rfl dX2_mostCouples_107 ?_
    rw [nI_1]
    refine ih (k + 1) _ _ _ _ _ (by omega) (hT1.ed (chS _ _ _)) (EDG.sS hE) (htb.up (fun j hj => ?_) ?_) (hc1.tr (chS _ _ _))
    · simp only [mcT]; rw [if_neg (by omega)]
    · simp only [mcT]; rw [if_pos True.intro]
set_option maxRecDepth 4000 in
theorem c_mostC (hT : IT σ o o' A) (hE : EDG σ A) : CallOk Γ 4 0 0 mX2_mostCouples [.ref E0] σ (rX (fun v σ' => v = nI ((mcT (bsd (tO A) (tV A)) (aS (tO A))) (2 ^ aS (tO A) - 1) (2 ^ aS (tO A) - 1)) ∧ IT σ' o o' A ∧ EDG σ' A ∧ Ch (inS sEd) σ σ')) := by
  have hS := hT.1
  have hK := hT.2.1
  have hO := hK.2.2.1
  have hs9 := hO.1
  have hp := p9 hs9
  refine p_enter rfl rfl (Nat.le_of_ble_eq_true rfl) rfl ?_
  refine p_aload_n 0 1 rfl rfl dX2_mostCouples_0 rfl ?_
  refine p_getR 2 5 4 rfl dX2_mostCouples_1 fl_X2_28 rfl rfl hS.2.2.2.2.2.2.2.2.2.2.2.2.2.2.2.2.2 (by decide) ?_
  refine p_iconst (0) 5 rfl dX2_mostCouples_4 rfl ?_
  refine p_iconst (0) 6 rfl dX2_mostCouples_5 rfl ?_
  refine p_iastE 7 rfl dX2_mostCouples_6 (i := 0) rfl (by decide) ?_
  refine p_iconst (1) 8 rfl dX2_mostCouples_7 rfl ?_
  refine p_ist_n1 9 rfl rfl dX2_mostCouples_8 (Nat.le_of_ble_eq_true rfl) rfl ?_
  exact l_mostC hT (2 ^ aS (tO A) - 1) 0 _ _ _ _ _ (by omega) (hT.ed (chS _ _ _)) (EDG.sS hE) (Tab.z rfl) (chS _ _ _)
set_option maxRecDepth 4000 in
theorem m_markB (hT : IT σ o o' A) (hE : EDG σ A) {T : Nat → Nat} {k m : Nat} (hk : k + 1 < 512) (htb : ∀ j, j ≤ k → hA σ eS j = nI (T j)) {Q : PO → PH → Prop} (kk : ∀ x4 x5, Ok Γ 4 0 0 mX2_markBeginnings 95 [some (.ref E0), some (.int (nI m)), some (.int (nI (k + 1))), some (.int (nI (setN (aS (tO A)) (rbP (unb (tO A) (tV A)) (ftg (tO A) (tV A)) T (k + 1))))), x4, x5] [] σ Q) : ∀ (n j : Nat) (x5 : Option Value), j + n = aS (tO A) → Ok Γ 4 0 0 mX2_markBeginnings 26 [some (.ref E0), some (.int (nI m)), some (.int (nI (k + 1))), some (.int (nI (setN j (rbP (unb (tO A) (tV A)) (ftg (tO A) (tV A)) T (k + 1))))), some (.int (nI j)), x5] [] σ Q := by
  have hS := hT.1
  have hK := hT.2.1
  have hO := hK.2.2.1
  have hs9 := hO.1
  intro n
  induction n with
  | zero =>
    intro j x5 hj
    refine p_iload 4 28 rfl dX2_markBeginnings_26 rfl ?_
    refine p_aload_n 0 29 rfl rfl dX2_markBeginnings_28 rfl ?_
    refine p_getIE 2 1 32 rfl dX2_markBeginnings_29 fl_X2_15 rfl rfl hE.1 ?_
    refine p_icmp_ge 95 35 rfl rfl dX2_markBeginnings_32 (fun h32 => ?_) (fun h32 => absurd (nI_le (a := aS (tO A)) (b := j) (by omega) (by omega)) h32)
    rw [show j = aS (tO A) by omega]
    exact kk _ _
  | succ n ih =>
    intro j x5 hj
    refine p_iload 4 28 rfl dX2_markBeginnings_26 rfl ?_
    refine p_aload_n 0 29 rfl rfl dX2_markBeginnings_28 rfl ?_
    refine p_getIE 2 1 32 rfl dX2_markBeginnings_29 fl_X2_15 rfl rfl hE.1 ?_
    refine p_icmp_ge 95 35 rfl rfl dX2_markBeginnings_32 (fun h32 => absurd h32 (nI_ge (a := j) (b := aS (tO A)) (by omega) (by omega))) (fun h32 => ?_)
    refine p_iload_n 2 36 rfl rfl dX2_markBeginnings_35 rfl ?_
    refine p_iconst (1) 37 rfl dX2_markBeginnings_36 rfl ?_
    refine p_iload 4 39 rfl dX2_markBeginnings_37 rfl ?_
    refine p_ishl 40 rfl dX2_markBeginnings_39 ?_
    rw [one_shl _ (by omega)]
    refine p_iconst (-1) 41 rfl dX2_markBeginnings_40 rfl ?_
    refine p_ixor 42 rfl dX2_markBeginnings_41 ?_
    refine p_iand 43 rfl dX2_markBeginnings_42 ?_
    rw [and_not_nI]
    refine p_ist_5 45 rfl dX2_markBeginnings_43 (Nat.le_of_ble_eq_true rfl) rfl ?_
    refine p_iload_n 2 46 rfl rfl dX2_markBeginnings_45 rfl ?_
    refine p_aload_n 0 47 rfl rfl dX2_markBeginnings_46 rfl ?_
    refine p_getIE 2 2 50 rfl dX2_markBeginnings_47 fl_X2_19 rfl rfl hE.2.1 ?_
    refine p_iand 51 rfl dX2_markBeginnings_50 ?_
    rw [nx_and]
    refine p_iload 4 53 rfl dX2_markBeginnings_51 rfl ?_
    refine p_cN2i 56 rfl dX2_markBeginnings_53 (c_hasBitN (Nat.lt_trans (Nat.lt_of_le_of_lt Nat.and_le_right (unb_lt hO (tV A))) (by decide)) (by omega)) mn_X2_62 sl_X8_hasBit (Nat.le_of_ble_eq_true rfl) (Nat.le_of_ble_eq_true rfl) ?_
    refine p_if_eq 89 59 rfl rfl dX2_markBeginnings_56 (fun h56 => ?_) (fun h56 => ?_)
    · refine p_inc_4 92 rfl dX2_markBeginnings_89 (1) rfl (Nat.le_of_ble_eq_true rfl) rfl ?_
      refine p_goto 26 rfl dX2_markBeginnings_92 ?_
      have hb : ((k + 1) &&& (unb (tO A) (tV A))).testBit j = false := by simpa only [b2i_eq0, Bool.not_eq_true] using h56
      rw [nI_1, ← set_f (p := (rbP (unb (tO A) (tV A)) (ftg (tO A) (tV A)) T (k + 1))) (by simp only [rbP, hb]; simp)]
      exact ih (j + 1) _ (by omega)
    · have hb : ((k + 1) &&& (unb (tO A) (tV A))).testBit j = true := by simpa only [b2i_eq0, Decidable.not_not, Bool.not_eq_true, Bool.not_eq_false] using h56
      have hx := clr512 (k + 1) (by omega) j (by omega) (by rw [Nat.testBit_and] at hb; exact (Bool.and_eq_true_iff.mp hb).1)
      refine p_iload 5 61 rfl dX2_markBeginnings_59 rfl ?_
      refine p_if_eq 82 64 rfl rfl dX2_markBeginnings_61 (fun h61 => ?_) (fun h61 => ?_)
      · refine p_iload_n 3 83 rfl rfl dX2_markBeginnings_82 rfl ?_
        refine p_iconst (1) 84 rfl dX2_markBeginnings_83 rfl ?_
        refine p_iload 4 86 rfl dX2_markBeginnings_84 rfl ?_
        refine p_ishl 87 rfl dX2_markBeginnings_86 ?_
        refine p_ior 88 rfl dX2_markBeginnings_87 ?_
        refine p_ist_n3 89 rfl rfl dX2_markBeginnings_88 (Nat.le_of_ble_eq_true rfl) rfl ?_
        refine p_inc_4 92 rfl dX2_markBeginnings_89 (1) rfl (Nat.le_of_ble_eq_true rfl) rfl ?_
        refine p_goto 26 rfl dX2_markBeginnings_92 ?_
        have hz : ((k + 1) ^^^ ((k + 1) &&& 2 ^ j)) = 0 := by
          rcases Nat.eq_zero_or_pos ((k + 1) ^^^ ((k + 1) &&& 2 ^ j)) with z | z
          · exact z
          · exact absurd h61 (nI_ne0 z (by omega))
        rw [set_t (p := (rbP (unb (tO A) (tV A)) (ftg (tO A) (tV A)) T (k + 1))) (by simp only [rbP, hb, hz]; simp) (by omega), nI_1]
        exact ih (j + 1) _ (by omega)
      · refine p_aload_n 0 65 rfl rfl dX2_markBeginnings_64 rfl ?_
        refine p_getR 2 3 68 rfl dX2_markBeginnings_65 fl_X2_22 rfl rfl hS.2.2.2.2.2.2.2.2.2.2.2.2.2.2.2.1 (by decide) ?_
        refine p_iload 4 70 rfl dX2_markBeginnings_68 rfl ?_
        refine p_ialdE 71 rfl dX2_markBeginnings_70 (i := j) rfl (by show j < 9; omega) (hE.2.2 j (by omega)).1 ?_
        refine p_aload_n 0 72 rfl rfl dX2_markBeginnings_71 rfl ?_
        refine p_getR 2 5 75 rfl dX2_markBeginnings_72 fl_X2_28 rfl rfl hS.2.2.2.2.2.2.2.2.2.2.2.2.2.2.2.2.2 (by decide) ?_
        refine p_iload 5 77 rfl dX2_markBeginnings_75 rfl ?_
        refine p_ialdE 78 rfl dX2_markBeginnings_77 (i := ((k + 1) ^^^ ((k + 1) &&& 2 ^ j))) rfl (by show _ < 512; omega) (htb _ (by omega)) ?_
        refine p_iand 79 rfl dX2_markBeginnings_78 ?_
        rw [nx_and]
        refine p_if_eq 89 82 rfl rfl dX2_markBeginnings_79 (fun h79 => ?_) (fun h79 => ?_)
        · refine p_inc_4 92 rfl dX2_markBeginnings_89 (1) rfl (Nat.le_of_ble_eq_true rfl) rfl ?_
          refine p_goto 26 rfl dX2_markBeginnings_92 ?_
          have hz : ¬ ((k + 1) ^^^ ((k + 1) &&& 2 ^ j)) = 0 := fun z => h61 (by rw [z]; rfl)
          have hf := ftg_lt hO (tV A) j
          have hy : (ftg (tO A) (tV A)) j &&& T ((k + 1) ^^^ ((k + 1) &&& 2 ^ j)) = 0 := by
            rcases Nat.eq_zero_or_pos ((ftg (tO A) (tV A)) j &&& T ((k + 1) ^^^ ((k + 1) &&& 2 ^ j))) with z | z
            · exact z
            · exact absurd h79 (nI_ne0 z (Nat.lt_of_le_of_lt Nat.and_le_left (by omega)))
          rw [nI_1, ← set_f (p := (rbP (unb (tO A) (tV A)) (ftg (tO A) (tV A)) T (k + 1))) (by simp only [rbP, hb, hy]; simp [hz])]
          exact ih (j + 1) _ (by omega)
        · refine p_iload_n 3 83 rfl rfl dX2_markBeginnings_82 rfl ?_
          refine p_iconst (1) 84 rfl dX2_markBeginnings_83 rfl ?_
          refine p_iload 4 86 rfl dX2_markBeginnings_84 rfl ?_
          refine p_ishl 87 rfl dX2_markBeginnings_86 ?_
          refine p_ior 88 rfl dX2_markBeginnings_87 ?_
          refine p_ist_n3 89 rfl rfl dX2_markBeginnings_88 (Nat.le_of_ble_eq_true rfl) rfl ?_
          refine p_inc_4 92 rfl dX2_markBeginnings_89 (1) rfl (Nat.le_of_ble_eq_true rfl) rfl ?_
          refine p_goto 26 rfl dX2_markBeginnings_92 ?_
          have hy : ¬ ((ftg (tO A) (tV A)) j &&& T ((k + 1) ^^^ ((k + 1) &&& 2 ^ j))) = 0 := fun z => h79 (by rw [z]; rfl)
          rw [set_t (p := (rbP (unb (tO A) (tV A)) (ftg (tO A) (tV A)) T (k + 1))) (by simp only [rbP, hb]; simp [hy]) (by omega), nI_1]
          exact ih (j + 1) _ (by omega)
set_option maxRecDepth 4000 in
theorem l_markB (hT : IT σ o o' A) : ∀ (n k : Nat) (σ1 : PH) (x3 x4 x5 : Option Value), k + 1 + n = 2 ^ aS (tO A) → IT σ1 o o' A → EDG σ1 A → Tab σ1 ((rbT (unb (tO A) (tV A)) (ftg (tO A) (tV A)) (aS (tO A))) k) k → Ch (inS sEd) σ σ1 → Ok Γ 4 0 0 mX2_markBeginnings 11 [some (.ref E0), some (.int (nI ((rbM (unb (tO A) (tV A)) (ftg (tO A) (tV A)) (aS (tO A))) k))), some (.int (nI (k + 1))), x3, x4, x5] [] σ1 (rX (fun v σ' => v = nI ((rbM (unb (tO A) (tV A)) (ftg (tO A) (tV A)) (aS (tO A))) (2 ^ aS (tO A) - 1)) ∧ IT σ' o o' A ∧ EDG σ' A ∧ Tab σ' ((rbT (unb (tO A) (tV A)) (ftg (tO A) (tV A)) (aS (tO A))) (2 ^ aS (tO A) - 1)) (2 ^ aS (tO A) - 1) ∧ Ch (inS sEd) σ σ')) := by
  intro n
  induction n with
  | zero =>
    intro k σ1 x3 x4 x5 hk hT1 hE htb hc1
    have hS := hT1.1
    have hK := hT.2.1
    have hO := hK.2.2.1
    have hs9 := hO.1
    have hp := p9 hs9
    refine p_iload_n 2 12 rfl rfl dX2_markBeginnings_11 rfl ?_
    refine p_iconst (1) 13 rfl dX2_markBeginnings_12 rfl ?_
    refine p_aload_n 0 14 rfl rfl dX2_markBeginnings_13 rfl ?_
    refine p_getIE 2 1 17 rfl dX2_markBeginnings_14 fl_X2_15 rfl rfl hE.1 ?_
    refine p_ishl 18 rfl dX2_markBeginnings_17 ?_
    rw [one_shl _ (by omega)]
    refine p_icmp_ge 121 21 rfl rfl dX2_markBeginnings_18 (fun h18 => ?_) (fun h18 => absurd (nI_le (a := 2 ^ aS (tO A)) (b := k + 1) (by omega) (by omega)) h18)
    refine p_iload_n 1 122 rfl rfl dX2_markBeginnings_121 rfl ?_
    exact p_iret dX2_markBeginnings_122 rfl ⟨_, rfl, by rw [show k = 2 ^ aS (tO A) - 1 by omega], hT1, hE, by rw [show k = 2 ^ aS (tO A) - 1 by omega] at htb; exact htb, hc1⟩
  | succ n ih =>
    intro k σ1 x3 x4 x5 hk hT1 hE htb hc1
    have hS := hT1.1
    have hK := hT.2.1
    have hO := hK.2.2.1
    have hs9 := hO.1
    have hp := p9 hs9
    refine p_iload_n 2 12 rfl rfl dX2_markBeginnings_11 rfl ?_
    refine p_iconst (1) 13 rfl dX2_markBeginnings_12 rfl ?_
    refine p_aload_n 0 14 rfl rfl dX2_markBeginnings_13 rfl ?_
    refine p_getIE 2 1 17 rfl dX2_markBeginnings_14 fl_X2_15 rfl rfl hE.1 ?_
    refine p_ishl 18 rfl dX2_markBeginnings_17 ?_
    rw [one_shl _ (by omega)]
    refine p_icmp_ge 121 21 rfl rfl dX2_markBeginnings_18 (fun h18 => absurd h18 (nI_ge (a := k + 1) (b := 2 ^ aS (tO A)) (by omega) (by omega))) (fun h18 => ?_)
    refine p_iconst (0) 22 rfl dX2_markBeginnings_21 rfl ?_
    refine p_ist_n3 23 rfl rfl dX2_markBeginnings_22 (Nat.le_of_ble_eq_true rfl) rfl ?_
    refine p_iconst (0) 24 rfl dX2_markBeginnings_23 rfl ?_
    refine p_ist_4 26 rfl dX2_markBeginnings_24 (Nat.le_of_ble_eq_true rfl) rfl ?_
    refine m_markB hT1 hE (T := (rbT (unb (tO A) (tV A)) (ftg (tO A) (tV A)) (aS (tO A))) k) (by omega) htb (fun x4 x5 => ?_) (aS (tO A)) 0 _ (by omega)
    refine p_aload_n 0 96 rfl rfl dX2_markBeginnings_95 rfl ?_
    refine p_getR 2 5 99 rfl dX2_markBeginnings_96 fl_X2_28 rfl rfl hS.2.2.2.2.2.2.2.2.2.2.2.2.2.2.2.2.2 (by decide) ?_
    refine p_iload_n 2 100 rfl rfl dX2_markBeginnings_99 rfl ?_
    refine p_iload_n 3 101 rfl rfl dX2_markBeginnings_100 rfl ?_
    refine p_iastE 102 rfl dX2_markBeginnings_101 rfl (by show k + 1 < 512; omega) ?_
    refine p_iload_n 3 103 rfl rfl dX2_markBeginnings_102 rfl ?_
    refine p_if_eq 115 106 rfl rfl dX2_markBeginnings_103 (fun h103 => ?_) (fun h103 => ?_)
    · refine p_inc_2 118 rfl dX2_markBeginnings_115 (1) rfl (Nat.le_of_ble_eq_true rfl) rfl ?_
      refine p_goto 11 rfl dX2_markBeginnings_118 ?_
      have hz : (setN (aS (tO A)) (rbP (unb (tO A) (tV A)) (ftg (tO A) (tV A)) ((rbT (unb (tO A) (tV A)) (ftg (tO A) (tV A)) (aS (tO A))) k) (k + 1))) = 0 := by
        rcases Nat.eq_zero_or_pos (setN (aS (tO A)) (rbP (unb (tO A) (tV A)) (ftg (tO A) (tV A)) ((rbT (unb (tO A) (tV A)) (ftg (tO A) (tV A)) (aS (tO A))) k) (k + 1))) with z | z
        · exact z
        · exact absurd h103 (nI_ne0 z (Nat.lt_trans (Nat.lt_of_lt_of_le (setN_lt _ _) hp.2.1) (by decide)))
      have e : (rbM (unb (tO A) (tV A)) (ftg (tO A) (tV A)) (aS (tO A))) (k + 1) = (rbM (unb (tO A) (tV A)) (ftg (tO A) (tV A)) (aS (tO A))) k := by simp only [rbM]; rw [if_pos hz]
      rw [nI_1, ← e]
      refine ih (k + 1) _ _ _ _ (by omega) (hT1.ed (chS _ _ _)) (EDG.sS hE) (htb.up (fun j hj => ?_) ?_) (hc1.tr (chS _ _ _))
      · simp only [rbT]; rw [if_neg (by omega)]
      · simp only [rbT]; rw [if_pos True.intro]
    · refine p_iload_n 1 107 rfl rfl dX2_markBeginnings_106 rfl ?_
      refine p_iload_n 2 108 rfl rfl dX2_markBeginnings_107 rfl ?_
      refine p_cS1i 111 rfl dX2_markBeginnings_108 (c_bitCountN (m := k + 1) (by omega)) ml_X2_65 sl_J6_bitCount_0f7a4 (Nat.le_of_ble_eq_true rfl) (Nat.le_of_ble_eq_true rfl) rfl ?_
      refine p_max 114 rfl dX2_markBeginnings_111 ml_X2_70 (Nat.le_of_ble_eq_true rfl) (Nat.le_of_ble_eq_true rfl) ?_
      have hq := rbM_le (unb (tO A) (tV A)) (ftg (tO A) (tV A)) (aS (tO A)) k (by omega)
      have hq2 := (show ∀ x, x < 512 → pop x ≤ 9 by decide +kernel) (k + 1) (by omega)
      rw [mx_nI (by omega) (by omega)]
      refine p_ist_n1 115 rfl rfl dX2_markBeginnings_114 (Nat.le_of_ble_eq_true rfl) rfl ?_
      refine p_inc_2 118 rfl dX2_markBeginnings_115 (1) rfl (Nat.le_of_ble_eq_true rfl) rfl ?_
      refine p_goto 11 rfl dX2_markBeginnings_118 ?_
      have hz : ¬ (setN (aS (tO A)) (rbP (unb (tO A) (tV A)) (ftg (tO A) (tV A)) ((rbT (unb (tO A) (tV A)) (ftg (tO A) (tV A)) (aS (tO A))) k) (k + 1))) = 0 := fun z => h103 (by rw [z]; rfl)
      have e : (rbM (unb (tO A) (tV A)) (ftg (tO A) (tV A)) (aS (tO A))) (k + 1) = max ((rbM (unb (tO A) (tV A)) (ftg (tO A) (tV A)) (aS (tO A))) k) (pop (k + 1)) := by simp only [rbM]; rw [if_neg hz]
      rw [nI_1, ← e]
      refine ih (k + 1) _ _ _ _ (by omega) (hT1.ed (chS _ _ _)) (EDG.sS hE) (htb.up (fun j hj => ?_) ?_) (hc1.tr (chS _ _ _))
      · simp only [rbT]; rw [if_neg (by omega)]
      · simp only [rbT]; rw [if_pos True.intro]
set_option maxRecDepth 4000 in
theorem c_markB (hT : IT σ o o' A) (hE : EDG σ A) : CallOk Γ 4 0 0 mX2_markBeginnings [.ref E0] σ (rX (fun v σ' => v = nI ((rbM (unb (tO A) (tV A)) (ftg (tO A) (tV A)) (aS (tO A))) (2 ^ aS (tO A) - 1)) ∧ IT σ' o o' A ∧ EDG σ' A ∧ Tab σ' ((rbT (unb (tO A) (tV A)) (ftg (tO A) (tV A)) (aS (tO A))) (2 ^ aS (tO A) - 1)) (2 ^ aS (tO A) - 1) ∧ Ch (inS sEd) σ σ')) := by
  have hS := hT.1
  have hK := hT.2.1
  have hO := hK.2.2.1
  have hs9 := hO.1
  have hp := p9 hs9
  refine p_enter rfl rfl (Nat.le_of_ble_eq_true rfl) rfl ?_
  refine p_iconst (0) 1 rfl dX2_markBeginnings_0 rfl ?_
  refine p_ist_n1 2 rfl rfl dX2_markBeginnings_1 (Nat.le_of_ble_eq_true rfl) rfl ?_
  refine p_aload_n 0 3 rfl rfl dX2_markBeginnings_2 rfl ?_
  refine p_getR 2 5 6 rfl dX2_markBeginnings_3 fl_X2_28 rfl rfl hS.2.2.2.2.2.2.2.2.2.2.2.2.2.2.2.2.2 (by decide) ?_
  refine p_iconst (0) 7 rfl dX2_markBeginnings_6 rfl ?_
  refine p_iconst (0) 8 rfl dX2_markBeginnings_7 rfl ?_
  refine p_iastE 9 rfl dX2_markBeginnings_8 (i := 0) rfl (by decide) ?_
  refine p_iconst (1) 10 rfl dX2_markBeginnings_9 rfl ?_
  refine p_ist_n2 11 rfl rfl dX2_markBeginnings_10 (Nat.le_of_ble_eq_true rfl) rfl ?_
  exact l_markB hT (2 ^ aS (tO A) - 1) 0 _ _ _ _ (by omega) (hT.ed (chS _ _ _)) (EDG.sS hE) (Tab.z rfl) (chS _ _ _)
set_option maxRecDepth 4000 in
theorem l_begs (hT : IT σ o o' A) (hE : EDG σ A) {T : Nat → Nat} {m u : Nat} (hm : m < 100) (htb : Tab σ T (2 ^ aS (tO A) - 1)) : ∀ (n k : Nat), k + 1 + n = 2 ^ aS (tO A) → Ok Γ 4 0 0 mX2_beginningsOf 5 [some (.ref E0), some (.int (nI m)), some (.int (nI u)), some (.int (nI (bgN T m u k))), some (.int (nI (k + 1)))] [] σ (rI σ (nI (bgN T m u (2 ^ aS (tO A) - 1)))) := by
  have hS := hT.1
  have hK := hT.2.1
  have hO := hK.2.2.1
  have hs9 := hO.1
  have hp := p9 hs9
  have htb := htb
  intro n
  induction n with
  | zero =>
    intro k hk
    refine p_iload 4 7 rfl dX2_beginningsOf_5 rfl ?_
    refine p_iconst (1) 8 rfl dX2_beginningsOf_7 rfl ?_
    refine p_aload_n 0 9 rfl rfl dX2_beginningsOf_8 rfl ?_
    refine p_getIE 2 1 12 rfl dX2_beginningsOf_9 fl_X2_15 rfl rfl hE.1 ?_
    refine p_ishl 13 rfl dX2_beginningsOf_12 ?_
    rw [one_shl _ (by omega)]
    refine p_icmp_ge 48 16 rfl rfl dX2_beginningsOf_13 (fun h13 => ?_) (fun h13 => absurd (nI_le (a := 2 ^ aS (tO A)) (b := k + 1) (by omega) (by omega)) h13)
    refine p_iload_n 3 49 rfl rfl dX2_beginningsOf_48 rfl ?_
    exact p_iret dX2_beginningsOf_49 rfl ⟨by rw [show k = 2 ^ aS (tO A) - 1 by omega], rfl⟩
  | succ n ih =>
    intro k hk
    refine p_iload 4 7 rfl dX2_beginningsOf_5 rfl ?_
    refine p_iconst (1) 8 rfl dX2_beginningsOf_7 rfl ?_
    refine p_aload_n 0 9 rfl rfl dX2_beginningsOf_8 rfl ?_
    refine p_getIE 2 1 12 rfl dX2_beginningsOf_9 fl_X2_15 rfl rfl hE.1 ?_
    refine p_ishl 13 rfl dX2_beginningsOf_12 ?_
    rw [one_shl _ (by omega)]
    refine p_icmp_ge 48 16 rfl rfl dX2_beginningsOf_13 (fun h13 => absurd h13 (nI_ge (a := k + 1) (b := 2 ^ aS (tO A)) (by omega) (by omega))) (fun h13 => ?_)
    refine p_iload 4 18 rfl dX2_beginningsOf_16 rfl ?_
    refine p_iload_n 2 19 rfl rfl dX2_beginningsOf_18 rfl ?_
    refine p_iand 20 rfl dX2_beginningsOf_19 ?_
    rw [nx_and]
    refine p_if_ne 42 23 rfl rfl dX2_beginningsOf_20 (fun h20 => ?_) (fun h20 => ?_)
    · refine p_inc_4 45 rfl dX2_beginningsOf_42 (1) rfl (Nat.le_of_ble_eq_true rfl) rfl ?_
      refine p_goto 5 rfl dX2_beginningsOf_45 ?_
      have hz : ¬ ((k + 1) &&& u) = 0 := fun z => h20 (by rw [z]; rfl)
      have e : bgN T m u (k + 1) = bgN T m u k := by simp only [bgN]; rw [if_neg (fun q => hz q.1)]
      rw [nI_1, ← e]
      exact ih (k + 1) (by omega)
    · refine p_iload 4 25 rfl dX2_beginningsOf_23 rfl ?_
      refine p_cS1i 28 rfl dX2_beginningsOf_25 (c_bitCountN (m := k + 1) (by omega)) ml_X2_65 sl_J6_bitCount_0f7a4 (Nat.le_of_ble_eq_true rfl) (Nat.le_of_ble_eq_true rfl) rfl ?_
      refine p_iload_n 1 29 rfl rfl dX2_beginningsOf_28 rfl ?_
      refine p_icmp_ne 42 32 rfl rfl dX2_beginningsOf_29 (fun h29 => ?_) (fun h29 => ?_)
      · refine p_inc_4 45 rfl dX2_beginningsOf_42 (1) rfl (Nat.le_of_ble_eq_true rfl) rfl ?_
        refine p_goto 5 rfl dX2_beginningsOf_45 ?_
        have hz : ¬ pop (k + 1) = m := fun z => h29 (by rw [z])
        have e : bgN T m u (k + 1) = bgN T m u k := by simp only [bgN]; rw [if_neg (fun q => hz q.2)]
        rw [nI_1, ← e]
        exact ih (k + 1) (by omega)
      · refine p_iload_n 3 33 rfl rfl dX2_beginningsOf_32 rfl ?_
        refine p_aload_n 0 34 rfl rfl dX2_beginningsOf_33 rfl ?_
        refine p_getR 2 5 37 rfl dX2_beginningsOf_34 fl_X2_28 rfl rfl hS.2.2.2.2.2.2.2.2.2.2.2.2.2.2.2.2.2 (by decide) ?_
        refine p_iload 4 39 rfl dX2_beginningsOf_37 rfl ?_
        refine p_ialdE 40 rfl dX2_beginningsOf_39 (i := k + 1) rfl (by show _ < 512; omega) (htb _ (by omega)) ?_
        refine p_ior 41 rfl dX2_beginningsOf_40 ?_
        rw [nx_or]
        refine p_ist_n3 42 rfl rfl dX2_beginningsOf_41 (Nat.le_of_ble_eq_true rfl) rfl ?_
        refine p_inc_4 45 rfl dX2_beginningsOf_42 (1) rfl (Nat.le_of_ble_eq_true rfl) rfl ?_
        refine p_goto 5 rfl dX2_beginningsOf_45 ?_
        have hy : ((k + 1) &&& u) = 0 := by
          rcases Nat.eq_zero_or_pos ((k + 1) &&& u) with z | z
          · exact z
          · exact absurd h20 (nI_ne0 z (Nat.lt_of_le_of_lt Nat.and_le_left (by omega)))
        have hz : pop (k + 1) = m := by
          have := (show ∀ x, x < 512 → pop x ≤ 9 by decide +kernel) (k + 1) (by omega)
          refine nI_eqI ?_ (by omega) (by omega)
          exact h29
        have e : bgN T m u (k + 1) = bgN T m u k ||| T (k + 1) := by simp only [bgN]; rw [if_pos ⟨hy, hz⟩]
        rw [nI_1, ← e]
        exact ih (k + 1) (by omega)
set_option maxRecDepth 4000 in
theorem c_begs (hT : IT σ o o' A) (hE : EDG σ A) {T : Nat → Nat} {m u : Nat} (hm : m < 100) (htb : Tab σ T (2 ^ aS (tO A) - 1)) : CallOk Γ 4 0 0 mX2_beginningsOf [.ref E0, .int (nI m), .int (nI u)] σ (rI σ (nI (bgN T m u (2 ^ aS (tO A) - 1)))) := by
  have hS := hT.1
  have hK := hT.2.1
  have hO := hK.2.2.1
  have hs9 := hO.1
  have hp := p9 hs9
  refine p_enter rfl rfl (Nat.le_of_ble_eq_true rfl) rfl ?_
  refine p_iconst (0) 1 rfl dX2_beginningsOf_0 rfl ?_
  refine p_ist_n3 2 rfl rfl dX2_beginningsOf_1 (Nat.le_of_ble_eq_true rfl) rfl ?_
  refine p_iconst (1) 3 rfl dX2_beginningsOf_2 rfl ?_
  refine p_ist_4 5 rfl dX2_beginningsOf_3 (Nat.le_of_ble_eq_true rfl) rfl ?_
  exact l_begs hT hE hm htb (2 ^ aS (tO A) - 1) 0 (by omega)
theorem getN_l {ps : List Nat} {x : Nat} {i : Nat} (h : i < ps.length) : (ps ++ [x]).getD i 0 = ps.getD i 0 := by
  simp only [List.getD_eq_getElem?_getD]; rw [List.getElem?_append_left h]
theorem getN_r {ps : List Nat} {x : Nat} : (ps ++ [x]).getD ps.length 0 = x := by
  simp [List.getD_eq_getElem?_getD]
theorem lowF_pos : ∀ n i m, lowF m n i = none → ∀ j, i ≤ j → j < i + n → m.testBit j = false := by
  intro n
  induction n with
  | zero => intro i m _ j h1 h2; omega
  | succ n ih =>
    intro i m h j h1 h2
    simp only [lowF] at h
    split at h
    · cases h
    · rename_i hb
      rcases Nat.lt_or_ge i j with z | z
      · exact ih (i + 1) m h j z (by omega)
      · rw [show j = i by omega]; simpa using hb
theorem bgN_lt2 {T : Nat → Nat} {n : Nat} (hT : ∀ j, T j < 2 ^ n) (m u : Nat) : ∀ k, bgN T m u k < 2 ^ n := by
  intro k
  induction k with
  | zero => exact Nat.two_pow_pos _
  | succ k ih =>
    simp only [bgN]
    split
    · exact Nat.or_lt_two_pow ih (hT _)
    · exact ih
theorem rbT_lt2 (U : Nat) (R : Nat → Nat) {n : Nat} : ∀ k j, rbT U R n k j < 2 ^ n := by
  intro k
  induction k with
  | zero => intro j; exact Nat.two_pow_pos _
  | succ k ih =>
    intro j
    simp only [rbT]
    split
    · exact setN_lt _ _
    · exact ih j
theorem nI_m1 {s : Nat} (h : s < 1000) : nI s ≠ -1 := by
  intro e
  have := congrArg Int32.toInt e
  rw [show (nI s).toInt = (s : Int) from Int32.toInt_ofNat_of_lt (by omega)] at this
  exact absurd this (by show ¬ ((s : Int) = -1); omega)
set_option maxRecDepth 4000 in
theorem l_layRow (hT : IT σ o o' A) {T : Nat → Nat} {m : Nat} (hm : m ≤ 9) (htl : ∀ j, T j < 2 ^ aS (tO A)) : ∀ (n i : Nat) (σ1 : PH) (l0 : List Nat) (u x : Nat) (x5 x6 : Option Value), i + n = m → IT σ1 o o' A → EDG σ1 A → Tab σ1 T (2 ^ aS (tO A) - 1) → u < 512 → x < 512 → l0.length = i → (∀ j, j < i → hA σ1 eW j = nI (l0.getD j 0)) → Ch (inS sEd) σ σ1 → Ok Γ 6 0 0 mX2_layRow 15 [some (.ref E0), some (.int (nI m)), some (.int (nI u)), some (.int (nI x)), some (.int (nI i)), x5, x6] [] σ1 (rX (fun v σ' => v = nI (l0 ++ rwL (ftg (tO A) (tV A)) T (2 ^ aS (tO A) - 1) m (m - i) i u x).length ∧ (∀ j, j < (l0 ++ rwL (ftg (tO A) (tV A)) T (2 ^ aS (tO A) - 1) m (m - i) i u x).length → hA σ' eW j = nI ((l0 ++ rwL (ftg (tO A) (tV A)) T (2 ^ aS (tO A) - 1) m (m - i) i u x).getD j 0)) ∧ IT σ' o o' A ∧ Ch (inS sEd) σ σ')) := by
  intro n
  induction n with
  | zero =>
    intro i σ1 l0 u x x5 x6 hi hT1 hE htb hu hx hli hrow hc1
    have hS := hT1.1
    have hK := hT.2.1
    have hO := hK.2.2.1
    have hs9 := hO.1
    have hp := p9 hs9
    have hcan : (x &&& bgN T (m - i) u (2 ^ aS (tO A) - 1)) < 512 := Nat.lt_of_le_of_lt Nat.and_le_left hx
    have hz : l0 ++ rwL (ftg (tO A) (tV A)) T (2 ^ aS (tO A) - 1) m (m - i) i u x = l0 := by rw [show m - i = 0 by omega]; simp [rwL]
    refine p_iload 4 17 rfl dX2_layRow_15 rfl ?_
    refine p_iload_n 1 18 rfl rfl dX2_layRow_17 rfl ?_
    refine p_icmp_ge 80 21 rfl rfl dX2_layRow_18 (fun h18 => ?_) (fun h18 => absurd (nI_le (a := m) (b := i) (by omega) (by omega)) h18)
    refine p_iload_n 1 81 rfl rfl dX2_layRow_80 rfl ?_
    exact p_iret dX2_layRow_81 rfl ⟨_, rfl, by rw [hz, hli, show i = m by omega], by rw [hz, hli]; exact hrow, hT1, hc1⟩
  | succ n ih =>
    intro i σ1 l0 u x x5 x6 hi hT1 hE htb hu hx hli hrow hc1
    have hS := hT1.1
    have hK := hT.2.1
    have hO := hK.2.2.1
    have hs9 := hO.1
    have hp := p9 hs9
    have hcan : (x &&& bgN T (m - i) u (2 ^ aS (tO A) - 1)) < 512 := Nat.lt_of_le_of_lt Nat.and_le_left hx
    refine p_iload 4 17 rfl dX2_layRow_15 rfl ?_
    refine p_iload_n 1 18 rfl rfl dX2_layRow_17 rfl ?_
    refine p_icmp_ge 80 21 rfl rfl dX2_layRow_18 (fun h18 => absurd h18 (nI_ge (a := i) (b := m) (by omega) (by omega))) (fun h18 => ?_)
    refine p_iload_n 3 22 rfl rfl dX2_layRow_21 rfl ?_
    refine p_aload_n 0 23 rfl rfl dX2_layRow_22 rfl ?_
    refine p_iload_n 1 24 rfl rfl dX2_layRow_23 rfl ?_
    refine p_iload 4 26 rfl dX2_layRow_24 rfl ?_
    refine p_isub 27 rfl dX2_layRow_26 ?_
    refine p_iload_n 2 28 rfl rfl dX2_layRow_27 rfl ?_
    rw [nI_sb (by omega)]
    refine p_cV2i 31 rfl dX2_layRow_28 (c_begs hT1 hE (by omega) htb) ml_X2_55 vl_X2_beginningsOf rfl (by decide) rfl (Nat.le_of_ble_eq_true rfl) (Nat.le_of_ble_eq_true rfl) rfl ?_
    refine p_iand 32 rfl dX2_layRow_31 ?_
    rw [nx_and]
    refine p_ist_5 34 rfl dX2_layRow_32 (Nat.le_of_ble_eq_true rfl) rfl ?_
    refine p_iload 5 36 rfl dX2_layRow_34 rfl ?_
    refine p_cN1i 39 rfl dX2_layRow_36 (c_leastBitN (m := (x &&& bgN T (m - i) u (2 ^ aS (tO A) - 1))) (by omega)) mn_X2_59 sl_X8_leastBit (Nat.le_of_ble_eq_true rfl) (Nat.le_of_ble_eq_true rfl) ?_
    refine p_ist_6 41 rfl dX2_layRow_39 (Nat.le_of_ble_eq_true rfl) rfl ?_
    rcases hl : low (x &&& bgN T (m - i) u (2 ^ aS (tO A) - 1)) with _ | s
    · have hz : l0 ++ rwL (ftg (tO A) (tV A)) T (2 ^ aS (tO A) - 1) m (m - i) i u x = l0 := by
        rw [show m - i = (m - (i + 1)) + 1 by omega]
        simp only [rwL]
        rw [hl]
        simp
      refine p_iload 6 43 rfl dX2_layRow_41 rfl ?_
      refine p_iconst (-1) 44 rfl dX2_layRow_43 rfl ?_
      refine p_icmp_ne 50 47 rfl rfl dX2_layRow_44 (fun h44 => absurd rfl h44) (fun h44 => ?_)
      refine p_iload 4 49 rfl dX2_layRow_47 rfl ?_
      exact p_iret dX2_layRow_49 rfl ⟨_, rfl, by rw [hz, hli], by rw [hz, hli]; exact hrow, hT1, hc1⟩
    · have hsn : s < aS (tO A) := (lowF_lt (m := (x &&& bgN T (m - i) u (2 ^ aS (tO A) - 1))) (k := aS (tO A)) (Nat.lt_of_le_of_lt Nat.and_le_right (bgN_lt2 htl _ _ _)) _ _ _ hl).1
      rw [show oI (some s) = nI s from rfl]
      refine p_iload 6 43 rfl dX2_layRow_41 rfl ?_
      refine p_iconst (-1) 44 rfl dX2_layRow_43 rfl ?_
      refine p_icmp_ne 50 47 rfl rfl dX2_layRow_44 (fun h44 => ?_) (fun h44 => absurd h44 (nI_m1 (by omega)))
      refine p_aload_n 0 51 rfl rfl dX2_layRow_50 rfl ?_
      refine p_getR 2 0 54 rfl dX2_layRow_51 fl_X2_9 rfl rfl hS.2.2.2.2.2.2.2.2.2.2.2.2.2.2.1 (by decide) ?_
      refine p_iload 4 56 rfl dX2_layRow_54 rfl ?_
      refine p_iload 6 58 rfl dX2_layRow_56 rfl ?_
      refine p_iastE 59 rfl dX2_layRow_58 (i := i) rfl (by show i < 9; omega) ?_
      refine p_iload_n 2 60 rfl rfl dX2_layRow_59 rfl ?_
      refine p_iconst (1) 61 rfl dX2_layRow_60 rfl ?_
      refine p_iload 6 63 rfl dX2_layRow_61 rfl ?_
      refine p_ishl 64 rfl dX2_layRow_63 ?_
      refine p_ior 65 rfl dX2_layRow_64 ?_
      refine p_ist_n2 66 rfl rfl dX2_layRow_65 (Nat.le_of_ble_eq_true rfl) rfl ?_
      rw [one_shl _ (by omega), nx_or]
      have hE2 := EDG.sW (i := i) (v := nI s) hE
      refine p_aload_n 0 67 rfl rfl dX2_layRow_66 rfl ?_
      refine p_getR 2 3 70 rfl dX2_layRow_67 fl_X2_22 rfl rfl hS.2.2.2.2.2.2.2.2.2.2.2.2.2.2.2.1 (by decide) ?_
      refine p_iload 6 72 rfl dX2_layRow_70 rfl ?_
      refine p_ialdE 73 rfl dX2_layRow_72 (i := s) rfl (by show s < 9; omega) (hE2.2.2 s (by omega)).1 ?_
      refine p_ist_n3 74 rfl rfl dX2_layRow_73 (Nat.le_of_ble_eq_true rfl) rfl ?_
      refine p_inc_4 77 rfl dX2_layRow_74 (1) rfl (Nat.le_of_ble_eq_true rfl) rfl ?_
      refine p_goto 15 rfl dX2_layRow_77 ?_
      rw [nI_1]
      have hT2 := hT1.ed (chW σ1 i (nI s))
      have ez : l0 ++ rwL (ftg (tO A) (tV A)) T (2 ^ aS (tO A) - 1) m (m - i) i u x = (l0 ++ [s]) ++ rwL (ftg (tO A) (tV A)) T (2 ^ aS (tO A) - 1) m (m - (i + 1)) (i + 1) (u ||| 2 ^ s) ((ftg (tO A) (tV A)) s) := by
        rw [show m - i = (m - (i + 1)) + 1 by omega]
        simp only [rwL]
        rw [hl]
        simp
      rw [ez]
      refine ih (i + 1) _ (l0 ++ [s]) _ _ _ _ (by omega) hT2 hE2 htb.w ?_ ?_ (by simp [hli]) ?_ (hc1.tr (chW _ _ _))
      · exact Nat.or_lt_two_pow (n := 9) hu (by have := Nat.pow_le_pow_right (show 0 < 2 by decide) (show s ≤ 8 by omega); omega)
      · exact ftg_lt hO _ _
      · intro j hj
        rw [sA_s]
        rcases Nat.lt_or_ge j i with z | z
        · rw [pk_un (by omega), getN_l (by omega)]; exact hrow j (by omega)
        · rw [show j = i by omega, pk_us, ← hli, getN_r]
set_option maxRecDepth 4000 in
theorem c_layRow (hT : IT σ o o' A) (hE : EDG σ A) : CallOk Γ 6 0 0 mX2_layRow [.ref E0] σ (rX (fun v σ' => v = nI (rwA (tO A) (tV A)).length ∧ (∀ j, j < (rwA (tO A) (tV A)).length → hA σ' eW j = nI ((rwA (tO A) (tV A)).getD j 0)) ∧ IT σ' o o' A ∧ Ch (inS sEd) σ σ')) := by
  have hS := hT.1
  have hK := hT.2.1
  have hO := hK.2.2.1
  have hs9 := hO.1
  have hp := p9 hs9
  refine p_enter rfl rfl (Nat.le_of_ble_eq_true rfl) rfl ?_
  refine p_aload_n 0 1 rfl rfl dX2_layRow_0 rfl ?_
  refine p_cV0x 0 0 4 rfl dX2_layRow_1 (c_markB hT hE) ml_X2_52 vl_X2_markBeginnings rfl (by decide) rfl (Nat.le_of_ble_eq_true rfl) (Nat.le_of_ble_eq_true rfl) (Nat.le_of_ble_eq_true rfl) (Nat.le_of_ble_eq_true rfl) rfl ?_
  intro v σ1 hp1
  obtain ⟨hv1, hT1, hE1, htb1, hc1⟩ := hp1
  subst hv1
  have hS1 := hT1.1
  refine p_ist_n1 5 rfl rfl dX2_layRow_4 (Nat.le_of_ble_eq_true rfl) rfl ?_
  refine p_iconst (0) 6 rfl dX2_layRow_5 rfl ?_
  refine p_ist_n2 7 rfl rfl dX2_layRow_6 (Nat.le_of_ble_eq_true rfl) rfl ?_
  refine p_aload_n 0 8 rfl rfl dX2_layRow_7 rfl ?_
  refine p_getIE 2 2 11 rfl dX2_layRow_8 fl_X2_19 rfl rfl hE1.2.1 ?_
  refine p_ist_n3 12 rfl rfl dX2_layRow_11 (Nat.le_of_ble_eq_true rfl) rfl ?_
  refine p_iconst (0) 13 rfl dX2_layRow_12 rfl ?_
  refine p_ist_4 15 rfl dX2_layRow_13 (Nat.le_of_ble_eq_true rfl) rfl ?_
  have h := l_layRow (Γ := Γ) hT (T := (rbT (unb (tO A) (tV A)) (ftg (tO A) (tV A)) (aS (tO A))) (2 ^ aS (tO A) - 1)) (m := (rbM (unb (tO A) (tV A)) (ftg (tO A) (tV A)) (aS (tO A))) (2 ^ aS (tO A) - 1)) (rbM_le _ _ _ _ (by omega)) (rbT_lt2 _ _ _) ((rbM (unb (tO A) (tV A)) (ftg (tO A) (tV A)) (aS (tO A))) (2 ^ aS (tO A) - 1)) 0 σ1 [] 0 (unb (tO A) (tV A)) none none (by omega) hT1 hE1 htb1 (by decide) (unb_lt hO _) rfl (fun j hj => absurd hj (Nat.not_lt_zero _)) hc1
  exact h
def fRow (A : AT) (x : Int32) : Nat × Int32 := if x = -1 then (0, nI (rwA (tO A) (tV A)).length) else gd (inR x (rwA (tO A) (tV A)).length) 1 (0, nI ((rwA (tO A) (tV A)).getD (iN x) 0))
theorem fRow_ne {A : AT} {x : Int32} (h : ¬ x = -1) : fRow A x = gd (inR x (rwA (tO A) (tV A)).length) 1 (0, nI ((rwA (tO A) (tV A)).getD (iN x) 0)) := if_neg h
def fOdd (A : AT) (x : Int32) : Nat × Int32 := gd (inR x 4) 1 (0, sel x [nI (orph (tO A) (tV A)), nI (wDead (tO A) (tV A)), nI (wBlank (tO A) (tV A)), nI (stg (tO A) (tV A) (aS (tO A)))])
def cpls (O : AO) (V : AW) : Nat := mcT (bsd O V) (aS O) (2 ^ aS O - 1) (2 ^ aS O - 1)
def fCount (A : AT) (x : Int32) : Nat × Int32 := gd (inR x 15) 1 (0, sel x [nI (aS (tO A)), nI (aC (tO A)), nI (aW (tO A)), nI (aK (tO A)), nI (vD (tV A)), nI (shAt (tO A) (tV A) 0), nI (inHd (tO A) (tV A)), nI (kAll (tO A) (tV A)), nI (cpls (tO A) (tV A)), nI (tA A).length, nI (tH A).length, nI (tN A), tX A, tY A, tZ A])
set_option maxRecDepth 6000 in
theorem t_odd (hT : IT σ o o' A) (x : Int32) : CallOk Γ 14 8 48 mX8_odd [.ref T0, .int x] σ (rS (fOdd A x) false (fun σ' => IT σ' o o' A ∧ Ch cls σ σ')) := by
  have hS := hT.1
  have hK := hT.2.1
  have hto : hR σ T0 3 = o := hT.2.2.1.2.2.1
  have hQ := hT.2.2.2.1
  have ho := hQ.1
  have hw := hT.2.2.2.2.1.1
  have hwo := hT.2.2.2.2.1.2
  have hv := hK.2.2.2.2.1.1
  have hd9 := hK.2.2.2.2.1.2
  have hY := hK.2.2.2.1
  have hO := hK.2.2.1
  have hs9 := hO.1
  have hc6 := hO.2.1
  have hw12 := hO.2.2.1
  have hk8 := hO.2.2.2.1
  refine p_enter rfl rfl (Nat.le_of_ble_eq_true rfl) rfl ?_
  refine p_iload_n 1 1 rfl rfl dX8_odd_0 rfl ?_
  rcases swt3 x with hs1 | hs1 | hs1 | hs1 | hs1
  · subst hs1
    refine p_tswIn (off := 31) 32 rfl dX8_odd_1 (by decide) (by decide) rfl ?_
    refine p_aload_n 0 33 rfl rfl dX8_odd_32 rfl ?_
    refine p_getR 8 14 36 rfl dX8_odd_33 fl_X8_81 rfl rfl hS.2.2.2.2.2.2.2.2.2.1 (by decide) ?_
    refine p_aload_n 0 37 rfl rfl dX8_odd_36 rfl ?_
    refine p_getR 8 6 40 rfl dX8_odd_37 fl_X8_44 rfl rfl hS.2.2.1 (by decide) ?_
    refine p_cV1v 0 0 43 rfl dX8_odd_40 (c_lookAt hT) ml_X8_156 vl_X2_lookAt rfl (by decide) rfl (Nat.le_of_ble_eq_true rfl) (Nat.le_of_ble_eq_true rfl) (Nat.le_of_ble_eq_true rfl) (Nat.le_of_ble_eq_true rfl) rfl ?_
    intro σ1 hp1
    obtain ⟨hT1, hE1, hc1⟩ := hp1
    have hS1 := hT1.1
    have hto1 : hR σ1 T0 3 = o := hT1.2.2.1.2.2.1
    have ho1 := hT1.2.2.2.1.1
    refine p_aload_n 0 44 rfl rfl dX8_odd_43 rfl ?_
    refine p_getR 8 14 47 rfl dX8_odd_44 fl_X8_81 rfl rfl hS1.2.2.2.2.2.2.2.2.2.1 (by decide) ?_
    refine p_cV0i 50 rfl dX8_odd_47 (c_orphans hT1 hE1) ml_X8_309 vl_X2_orphans rfl (by decide) rfl (Nat.le_of_ble_eq_true rfl) (Nat.le_of_ble_eq_true rfl) rfl ?_
    exact p_iret dX8_odd_50 rfl ⟨by simp [fOdd, gd, show inR 0 4 = true from by decide, sel, show iN 0 = 0 from rfl], hT1, hc1.toC (by decide)⟩
  · subst hs1
    refine p_tswIn (off := 50) 51 rfl dX8_odd_1 (by decide) (by decide) rfl ?_
    refine p_aload_n 0 52 rfl rfl dX8_odd_51 rfl ?_
    refine p_getR 8 6 55 rfl dX8_odd_52 fl_X8_44 rfl rfl hS.2.2.1 (by decide) ?_
    refine p_cV0i 58 rfl dX8_odd_55 (c_wordsDead ho hw hv hwo) ml_X8_312 vl_X7_wordsDead rfl (by decide) rfl (Nat.le_of_ble_eq_true rfl) (Nat.le_of_ble_eq_true rfl) rfl ?_
    exact p_iret dX8_odd_58 rfl ⟨by simp [fOdd, gd, show inR 1 4 = true from by decide, sel, show iN 1 = 1 from rfl], hT, Ch.rf⟩
  · subst hs1
    refine p_tswIn (off := 58) 59 rfl dX8_odd_1 (by decide) (by decide) rfl ?_
    refine p_aload_n 0 60 rfl rfl dX8_odd_59 rfl ?_
    refine p_getR 8 6 63 rfl dX8_odd_60 fl_X8_44 rfl rfl hS.2.2.1 (by decide) ?_
    refine p_cV0i 66 rfl dX8_odd_63 (c_wordsBlank ho hw hv hwo) ml_X8_315 vl_X7_wordsBlank rfl (by decide) rfl (Nat.le_of_ble_eq_true rfl) (Nat.le_of_ble_eq_true rfl) rfl ?_
    exact p_iret dX8_odd_66 rfl ⟨by simp [fOdd, gd, show inR 2 4 = true from by decide, sel, show iN 2 = 2 from rfl], hT, Ch.rf⟩
  · subst hs1
    refine p_tswIn (off := 66) 67 rfl dX8_odd_1 (by decide) (by decide) rfl ?_
    refine p_aload_n 0 68 rfl rfl dX8_odd_67 rfl ?_
    refine p_getR 8 14 71 rfl dX8_odd_68 fl_X8_81 rfl rfl hS.2.2.2.2.2.2.2.2.2.1 (by decide) ?_
    refine p_aload_n 0 72 rfl rfl dX8_odd_71 rfl ?_
    refine p_getR 8 6 75 rfl dX8_odd_72 fl_X8_44 rfl rfl hS.2.2.1 (by decide) ?_
    refine p_cV1v 0 0 78 rfl dX8_odd_75 (c_lookAt hT) ml_X8_156 vl_X2_lookAt rfl (by decide) rfl (Nat.le_of_ble_eq_true rfl) (Nat.le_of_ble_eq_true rfl) (Nat.le_of_ble_eq_true rfl) (Nat.le_of_ble_eq_true rfl) rfl ?_
    intro σ1 hp1
    obtain ⟨hT1, hE1, hc1⟩ := hp1
    have hS1 := hT1.1
    have hto1 : hR σ1 T0 3 = o := hT1.2.2.1.2.2.1
    have ho1 := hT1.2.2.2.1.1
    refine p_aload_n 0 79 rfl rfl dX8_odd_78 rfl ?_
    refine p_getR 8 14 82 rfl dX8_odd_79 fl_X8_81 rfl rfl hS1.2.2.2.2.2.2.2.2.2.1 (by decide) ?_
    refine p_aload_n 0 83 rfl rfl dX8_odd_82 rfl ?_
    refine p_getR 8 3 86 rfl dX8_odd_83 fl_X8_23 rfl rfl hto1 ho1.1.1.ne0 ?_
    refine p_cV1i 89 rfl dX8_odd_86 (c_strangers hT1 hE1) ml_X8_318 vl_X2_strangers rfl (by decide) rfl (Nat.le_of_ble_eq_true rfl) (Nat.le_of_ble_eq_true rfl) rfl ?_
    exact p_iret dX8_odd_89 rfl ⟨by simp [fOdd, gd, show inR 3 4 = true from by decide, sel, show iN 3 = 3 from rfl], hT1, hc1.toC (by decide)⟩
  · refine p_tswOut 90 rfl dX8_odd_1 hs1 ?_
    have hsout : x.toInt < 0 ∨ ((4 : Nat) : Int) ≤ x.toInt := by omega
    exact p_throwW dX8_odd_90 dX8_odd_93 dX8_odd_94 dX8_odd_97 dX8_odd_100 (x := 1) (i := 6) tl_X8_odd_90 (Nat.le_of_ble_eq_true rfl) (Nat.le_of_ble_eq_true rfl) (Nat.le_of_ble_eq_true rfl) (Nat.le_of_ble_eq_true rfl) (⟨by simp [fOdd, gd, inR_out (n := 4) (by decide) hsout], hT, Ch.rf⟩)
set_option maxRecDepth 10000 in
theorem t_count (hT : IT σ o o' A) (x : Int32) : CallOk Γ 14 8 48 mX8_count [.ref T0, .int x] σ (rS (fCount A x) false (fun σ' => IT σ' o o' A ∧ Ch cls σ σ')) := by
  have hS := hT.1
  have hK := hT.2.1
  have hto : hR σ T0 3 = o := hT.2.2.1.2.2.1
  have hQ := hT.2.2.2.1
  have ho := hQ.1
  have hw := hT.2.2.2.2.1.1
  have hwo := hT.2.2.2.2.1.2
  have hv := hK.2.2.2.2.1.1
  have hd9 := hK.2.2.2.2.1.2
  have hY := hK.2.2.2.1
  have hO := hK.2.2.1
  have hs9 := hO.1
  have hc6 := hO.2.1
  have hw12 := hO.2.2.1
  have hk8 := hO.2.2.2.1
  refine p_enter rfl rfl (Nat.le_of_ble_eq_true rfl) rfl ?_
  refine p_iload_n 1 1 rfl rfl dX8_count_0 rfl ?_
  rcases swt14 x with hs1 | hs1 | hs1 | hs1 | hs1 | hs1 | hs1 | hs1 | hs1 | hs1 | hs1 | hs1 | hs1 | hs1 | hs1 | hs1
  · subst hs1
    refine p_tswIn (off := 75) 76 rfl dX8_count_1 (by decide) (by decide) rfl ?_
    refine p_aload_n 0 77 rfl rfl dX8_count_76 rfl ?_
    refine p_getR 8 3 80 rfl dX8_count_77 fl_X8_23 rfl rfl hto ho.1.1.ne0 ?_
    refine p_getIE 4 0 83 rfl dX8_count_80 fl_X8_131 ho.1.1.kd rfl ho.2.2.1 ?_
    exact p_iret dX8_count_83 rfl ⟨by simp [fCount, gd, show inR 0 15 = true from by decide, sel, show iN 0 = 0 from rfl], hT, Ch.rf⟩
  · subst hs1
    refine p_tswIn (off := 83) 84 rfl dX8_count_1 (by decide) (by decide) rfl ?_
    refine p_aload_n 0 85 rfl rfl dX8_count_84 rfl ?_
    refine p_getR 8 3 88 rfl dX8_count_85 fl_X8_23 rfl rfl hto ho.1.1.ne0 ?_
    refine p_getIE 4 4 91 rfl dX8_count_88 fl_X8_134 ho.1.1.kd rfl ho.2.2.2.1 ?_
    exact p_iret dX8_count_91 rfl ⟨by simp [fCount, gd, show inR 1 15 = true from by decide, sel, show iN 1 = 1 from rfl], hT, Ch.rf⟩
  · subst hs1
    refine p_tswIn (off := 91) 92 rfl dX8_count_1 (by decide) (by decide) rfl ?_
    refine p_aload_n 0 93 rfl rfl dX8_count_92 rfl ?_
    refine p_getR 8 3 96 rfl dX8_count_93 fl_X8_23 rfl rfl hto ho.1.1.ne0 ?_
    refine p_getIE 4 7 99 rfl dX8_count_96 fl_X8_137 ho.1.1.kd rfl ho.2.2.2.2.1 ?_
    exact p_iret dX8_count_99 rfl ⟨by simp [fCount, gd, show inR 2 15 = true from by decide, sel, show iN 2 = 2 from rfl], hT, Ch.rf⟩
  · subst hs1
    refine p_tswIn (off := 99) 100 rfl dX8_count_1 (by decide) (by decide) rfl ?_
    refine p_aload_n 0 101 rfl rfl dX8_count_100 rfl ?_
    refine p_getR 8 3 104 rfl dX8_count_101 fl_X8_23 rfl rfl hto ho.1.1.ne0 ?_
    refine p_getIE 4 10 107 rfl dX8_count_104 fl_X8_140 ho.1.1.kd rfl ho.2.2.2.2.2.1 ?_
    exact p_iret dX8_count_107 rfl ⟨by simp [fCount, gd, show inR 3 15 = true from by decide, sel, show iN 3 = 3 from rfl], hT, Ch.rf⟩
  · subst hs1
    refine p_tswIn (off := 107) 108 rfl dX8_count_1 (by decide) (by decide) rfl ?_
    refine p_aload_n 0 109 rfl rfl dX8_count_108 rfl ?_
    refine p_getR 8 6 112 rfl dX8_count_109 fl_X8_44 rfl rfl hS.2.2.1 (by decide) ?_
    refine p_getIE 7 1 115 rfl dX8_count_112 fl_X8_143 rfl rfl hw.2.1 ?_
    exact p_iret dX8_count_115 rfl ⟨by simp [fCount, gd, show inR 4 15 = true from by decide, sel, show iN 4 = 4 from rfl], hT, Ch.rf⟩
  · subst hs1
    refine p_tswIn (off := 115) 116 rfl dX8_count_1 (by decide) (by decide) rfl ?_
    refine p_aload_n 0 117 rfl rfl dX8_count_116 rfl ?_
    refine p_getR 8 6 120 rfl dX8_count_117 fl_X8_44 rfl rfl hS.2.2.1 (by decide) ?_
    refine p_cV0i 123 rfl dX8_count_120 (c_burntSheets ho hw hv hwo) ml_X8_146 vl_X7_burntSheets rfl (by decide) rfl (Nat.le_of_ble_eq_true rfl) (Nat.le_of_ble_eq_true rfl) rfl ?_
    exact p_iret dX8_count_123 rfl ⟨by simp [fCount, gd, show inR 5 15 = true from by decide, sel, show iN 5 = 5 from rfl], hT, Ch.rf⟩
  · subst hs1
    refine p_tswIn (off := 123) 124 rfl dX8_count_1 (by decide) (by decide) rfl ?_
    refine p_aload_n 0 125 rfl rfl dX8_count_124 rfl ?_
    refine p_getR 8 6 128 rfl dX8_count_125 fl_X8_44 rfl rfl hS.2.2.1 (by decide) ?_
    refine p_cV0i 131 rfl dX8_count_128 (c_sheetsInHands ho hw hv hwo) ml_X8_150 vl_X7_sheetsInHands rfl (by decide) rfl (Nat.le_of_ble_eq_true rfl) (Nat.le_of_ble_eq_true rfl) rfl ?_
    exact p_iret dX8_count_131 rfl ⟨by simp [fCount, gd, show inR 6 15 = true from by decide, sel, show iN 6 = 6 from rfl], hT, Ch.rf⟩
  · subst hs1
    refine p_tswIn (off := 131) 132 rfl dX8_count_1 (by decide) (by decide) rfl ?_
    refine p_aload_n 0 133 rfl rfl dX8_count_132 rfl ?_
    refine p_getR 8 6 136 rfl dX8_count_133 fl_X8_44 rfl rfl hS.2.2.1 (by decide) ?_
    refine p_cV0i 139 rfl dX8_count_136 (c_wordsKnown ho hw hv hwo) ml_X8_153 vl_X7_wordsKnown rfl (by decide) rfl (Nat.le_of_ble_eq_true rfl) (Nat.le_of_ble_eq_true rfl) rfl ?_
    exact p_iret dX8_count_139 rfl ⟨by simp [fCount, gd, show inR 7 15 = true from by decide, sel, show iN 7 = 7 from rfl], hT, Ch.rf⟩
  · subst hs1
    refine p_tswIn (off := 139) 140 rfl dX8_count_1 (by decide) (by decide) rfl ?_
    refine p_aload_n 0 141 rfl rfl dX8_count_140 rfl ?_
    refine p_getR 8 14 144 rfl dX8_count_141 fl_X8_81 rfl rfl hS.2.2.2.2.2.2.2.2.2.1 (by decide) ?_
    refine p_aload_n 0 145 rfl rfl dX8_count_144 rfl ?_
    refine p_getR 8 6 148 rfl dX8_count_145 fl_X8_44 rfl rfl hS.2.2.1 (by decide) ?_
    refine p_cV1v 0 0 151 rfl dX8_count_148 (c_lookAt hT) ml_X8_156 vl_X2_lookAt rfl (by decide) rfl (Nat.le_of_ble_eq_true rfl) (Nat.le_of_ble_eq_true rfl) (Nat.le_of_ble_eq_true rfl) (Nat.le_of_ble_eq_true rfl) rfl ?_
    intro σ1 hp1
    obtain ⟨hT1, hE1, hc1⟩ := hp1
    have hS1 := hT1.1
    have hto1 : hR σ1 T0 3 = o := hT1.2.2.1.2.2.1
    have ho1 := hT1.2.2.2.1.1
    refine p_aload_n 0 152 rfl rfl dX8_count_151 rfl ?_
    refine p_getR 8 14 155 rfl dX8_count_152 fl_X8_81 rfl rfl hS1.2.2.2.2.2.2.2.2.2.1 (by decide) ?_
    refine p_cV0x 0 0 158 rfl dX8_count_155 (c_mostC hT1 hE1) ml_X8_160 vl_X2_mostCouples rfl (by decide) rfl (Nat.le_of_ble_eq_true rfl) (Nat.le_of_ble_eq_true rfl) (Nat.le_of_ble_eq_true rfl) (Nat.le_of_ble_eq_true rfl) rfl ?_
    intro v σ2 hp2
    obtain ⟨hv2, hT2, hE2, hc2⟩ := hp2
    subst hv2
    exact p_iret dX8_count_158 rfl ⟨by simp [fCount, gd, show inR 8 15 = true from by decide, sel, show iN 8 = 8 from rfl, cpls], hT2, (hc1.tr hc2).toC (by decide)⟩
  · subst hs1
    refine p_tswIn (off := 158) 159 rfl dX8_count_1 (by decide) (by decide) rfl ?_
    refine p_aload_n 0 160 rfl rfl dX8_count_159 rfl ?_
    refine p_getR 8 8 163 rfl dX8_count_160 fl_X8_54 rfl rfl hS.2.2.2.2.1 (by decide) ?_
    refine p_getIE 0 0 166 rfl dX8_count_163 fl_X8_163 rfl rfl hT.2.2.2.2.2.2.1.2.2.2.1 ?_
    exact p_iret dX8_count_166 rfl ⟨by simp [fCount, gd, show inR 9 15 = true from by decide, sel, show iN 9 = 9 from rfl], hT, Ch.rf⟩
  · subst hs1
    refine p_tswIn (off := 166) 167 rfl dX8_count_1 (by decide) (by decide) rfl ?_
    refine p_aload_n 0 168 rfl rfl dX8_count_167 rfl ?_
    refine p_getR 8 9 171 rfl dX8_count_168 fl_X8_61 rfl rfl hS.2.2.2.2.2.1 (by decide) ?_
    refine p_getIE 3 0 174 rfl dX8_count_171 fl_X8_166 rfl rfl hT.2.2.2.2.2.2.2.1.2.2.1 ?_
    exact p_iret dX8_count_174 rfl ⟨by simp [fCount, gd, show inR 10 15 = true from by decide, sel, show iN 10 = 10 from rfl], hT, Ch.rf⟩
  · subst hs1
    refine p_tswIn (off := 174) 175 rfl dX8_count_1 (by decide) (by decide) rfl ?_
    refine p_aload_n 0 176 rfl rfl dX8_count_175 rfl ?_
    refine p_getIE 8 1 179 rfl dX8_count_176 fl_X8_13 rfl rfl hT.2.2.2.2.2.2.2.2.2.2.1.1 ?_
    exact p_iret dX8_count_179 rfl ⟨by simp [fCount, gd, show inR 11 15 = true from by decide, sel, show iN 11 = 11 from rfl], hT, Ch.rf⟩
  · subst hs1
    refine p_tswIn (off := 179) 180 rfl dX8_count_1 (by decide) (by decide) rfl ?_
    refine p_aload_n 0 181 rfl rfl dX8_count_180 rfl ?_
    refine p_getR 8 16 184 rfl dX8_count_181 fl_X8_92 rfl rfl hS.2.2.2.2.2.2.2.2.2.2.2.1 (by decide) ?_
    refine p_iconst (0) 185 rfl dX8_count_184 rfl ?_
    refine p_ialdE 186 rfl dX8_count_185 (i := 0) rfl (by decide) hT.2.2.2.2.2.2.2.2.2.2.2.1 ?_
    exact p_iret dX8_count_186 rfl ⟨by simp [fCount, gd, show inR 12 15 = true from by decide, sel, show iN 12 = 12 from rfl], hT, Ch.rf⟩
  · subst hs1
    refine p_tswIn (off := 186) 187 rfl dX8_count_1 (by decide) (by decide) rfl ?_
    refine p_aload_n 0 188 rfl rfl dX8_count_187 rfl ?_
    refine p_getR 8 16 191 rfl dX8_count_188 fl_X8_92 rfl rfl hS.2.2.2.2.2.2.2.2.2.2.2.1 (by decide) ?_
    refine p_iconst (1) 192 rfl dX8_count_191 rfl ?_
    refine p_ialdE 193 rfl dX8_count_192 (i := 1) rfl (by decide) hT.2.2.2.2.2.2.2.2.2.2.2.2.1 ?_
    exact p_iret dX8_count_193 rfl ⟨by simp [fCount, gd, show inR 13 15 = true from by decide, sel, show iN 13 = 13 from rfl], hT, Ch.rf⟩
  · subst hs1
    refine p_tswIn (off := 193) 194 rfl dX8_count_1 (by decide) (by decide) rfl ?_
    refine p_aload_n 0 195 rfl rfl dX8_count_194 rfl ?_
    refine p_getR 8 16 198 rfl dX8_count_195 fl_X8_92 rfl rfl hS.2.2.2.2.2.2.2.2.2.2.2.1 (by decide) ?_
    refine p_iconst (2) 199 rfl dX8_count_198 rfl ?_
    refine p_ialdE 200 rfl dX8_count_199 (i := 2) rfl (by decide) hT.2.2.2.2.2.2.2.2.2.2.2.2.2 ?_
    exact p_iret dX8_count_200 rfl ⟨by simp [fCount, gd, show inR 14 15 = true from by decide, sel, show iN 14 = 14 from rfl], hT, Ch.rf⟩
  · refine p_tswOut 201 rfl dX8_count_1 hs1 ?_
    have hsout : x.toInt < 0 ∨ ((15 : Nat) : Int) ≤ x.toInt := by omega
    exact p_throw dX8_count_201 dX8_count_204 dX8_count_205 dX8_count_207 dX8_count_210 (x := 1) (i := 1) tl_X8_count_201 (Nat.le_of_ble_eq_true rfl) (Nat.le_of_ble_eq_true rfl) (Nat.le_of_ble_eq_true rfl) (Nat.le_of_ble_eq_true rfl) (⟨by simp [fCount, gd, inR_out (n := 15) (by decide) hsout], hT, Ch.rf⟩)
set_option maxRecDepth 6000 in
theorem t_row (hT : IT σ o o' A) (x : Int32) : CallOk Γ 14 8 48 mX8_row [.ref T0, .int x] σ (rS (fRow A x) false (fun σ' => IT σ' o o' A ∧ Ch cls σ σ')) := by
  have hS := hT.1
  have hK := hT.2.1
  have hto : hR σ T0 3 = o := hT.2.2.1.2.2.1
  have hQ := hT.2.2.2.1
  have ho := hQ.1
  have hw := hT.2.2.2.2.1.1
  have hwo := hT.2.2.2.2.1.2
  have hv := hK.2.2.2.2.1.1
  have hd9 := hK.2.2.2.2.1.2
  have hY := hK.2.2.2.1
  have hO := hK.2.2.1
  have hs9 := hO.1
  have hc6 := hO.2.1
  have hw12 := hO.2.2.1
  have hk8 := hO.2.2.2.1
  refine p_enter rfl rfl (Nat.le_of_ble_eq_true rfl) rfl ?_
  refine p_aload_n 0 1 rfl rfl dX8_row_0 rfl ?_
  refine p_getR 8 14 4 rfl dX8_row_1 fl_X8_81 rfl rfl hS.2.2.2.2.2.2.2.2.2.1 (by decide) ?_
  refine p_aload_n 0 5 rfl rfl dX8_row_4 rfl ?_
  refine p_getR 8 6 8 rfl dX8_row_5 fl_X8_44 rfl rfl hS.2.2.1 (by decide) ?_
  refine p_cV1v 8 48 11 rfl dX8_row_8 (c_lookAt hT) ml_X8_156 vl_X2_lookAt rfl (by decide) rfl (Nat.le_of_ble_eq_true rfl) (Nat.le_of_ble_eq_true rfl) (Nat.le_of_ble_eq_true rfl) (Nat.le_of_ble_eq_true rfl) rfl ?_
  intro σ1 hp1
  obtain ⟨hT1, hE1, hc1⟩ := hp1
  have hS1 := hT1.1
  have hto1 : hR σ1 T0 3 = o := hT1.2.2.1.2.2.1
  have ho1 := hT1.2.2.2.1.1
  refine p_aload_n 0 12 rfl rfl dX8_row_11 rfl ?_
  refine p_getR 8 14 15 rfl dX8_row_12 fl_X8_81 rfl rfl hS1.2.2.2.2.2.2.2.2.2.1 (by decide) ?_
  refine p_cV0x 8 48 18 rfl dX8_row_15 (c_layRow hT1 hE1) ml_X8_292 vl_X2_layRow rfl (by decide) rfl (Nat.le_of_ble_eq_true rfl) (Nat.le_of_ble_eq_true rfl) (Nat.le_of_ble_eq_true rfl) (Nat.le_of_ble_eq_true rfl) rfl ?_
  intro v σ2 hp2
  obtain ⟨hv2, hrow, hT2, hc2⟩ := hp2
  subst hv2
  have hS2 := hT2.1
  have hcc := (hc1.tr hc2).toC (by decide)
  refine p_ist_n2 19 rfl rfl dX8_row_18 (Nat.le_of_ble_eq_true rfl) rfl ?_
  refine p_iload_n 1 20 rfl rfl dX8_row_19 rfl ?_
  refine p_iconst (-1) 21 rfl dX8_row_20 rfl ?_
  refine p_icmp_ne 26 24 rfl rfl dX8_row_21 (fun h21 => ?_) (fun h21 => ?_)
  · refine p_iload_n 1 27 rfl rfl dX8_row_26 rfl ?_
    refine p_iload_n 2 28 rfl rfl dX8_row_27 rfl ?_
    refine p_cS2n 31 rfl dX8_row_28 (c_needBelow _ _) ml_X8_257 sl_X8_needBelow (Nat.le_of_ble_eq_true rfl) (Nat.le_of_ble_eq_true rfl) (Nat.le_of_ble_eq_true rfl) (Nat.le_of_ble_eq_true rfl) rfl (fun h28 => ?_) (fun h28 => ⟨by rw [fRow_ne h21]; simp [gd, h28], hT2, hcc⟩)
    have hlen : (rwA (tO A) (tV A)).length ≤ 9 := Nat.le_trans (rwL_len _ _ _ _ _ _ _ _) (rbM_le _ _ _ _ (by have := p9 hs9; omega))
    obtain ⟨s, rfl, hs⟩ := asN h28 (by omega)
    have hsL : s < 2147483648 := by omega
    refine p_aload_n 0 32 rfl rfl dX8_row_31 rfl ?_
    refine p_getR 8 14 35 rfl dX8_row_32 fl_X8_81 rfl rfl hS2.2.2.2.2.2.2.2.2.2.1 (by decide) ?_
    refine p_getR 2 0 38 rfl dX8_row_35 fl_X8_295 rfl rfl hS2.2.2.2.2.2.2.2.2.2.2.2.2.2.2.1 (by decide) ?_
    refine p_iload_n 1 39 rfl rfl dX8_row_38 rfl ?_
    refine p_ialdE 40 rfl dX8_row_39 (i := s) rfl (by show s < 9; omega) (hrow s hs) ?_
    exact p_iret dX8_row_40 rfl ⟨by rw [fRow_ne h21, h28, iN_nI hsL]; rfl, hT2, hcc⟩
  · refine p_iload_n 2 25 rfl rfl dX8_row_24 rfl ?_
    exact p_iret dX8_row_25 rfl ⟨by simp [fRow, h21], hT2, hcc⟩
end C60
