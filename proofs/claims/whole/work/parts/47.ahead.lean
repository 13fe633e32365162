/-! ===== what comes, if only days go by ===== -/
def fnd : Nat → Nat → (Nat → Bool) → Option Nat
  | 0, _, _ => none
  | n + 1, i, p => if p i = true then some i else fnd n (i + 1) p
def sec : Nat → AW → Nat × Nat
  | 0, _ => (0, 0)
  | n + 1, V => ((sec n V).1 ||| vK V n, (sec n V).2 ||| ((sec n V).1 &&& vK V n))
/-- words that just one knows -/
def kSec (O : AO) (V : AW) : Nat := (sec (aC O) V).1 ^^^ ((sec (aC O) V).1 &&& (sec (aC O) V).2)
theorem sec_lt {V : AW} : ∀ n, (∀ c, c < n → vK V c < 4096) → (sec n V).1 < 4096 ∧ (sec n V).2 < 4096 := by
  intro n
  induction n with
  | zero => intro _; exact ⟨show 0 < 4096 by decide, show 0 < 4096 by decide⟩
  | succ n ih =>
    intro h
    have h1 := ih (fun c hc => h c (by omega))
    have h2 := h n (by omega)
    exact ⟨Nat.or_lt_two_pow (n := 12) h1.1 h2, Nat.or_lt_two_pow (n := 12) h1.2 (Nat.lt_of_le_of_lt Nat.and_le_left h1.1)⟩
theorem and_not_nI {a b : Nat} : nI a &&& (nI b ^^^ (-1)) = nI (a ^^^ (a &&& b)) := by
  apply Int32.toBitVec_inj.1
  apply BitVec.eq_of_getLsbD_eq
  intro i hi
  show (BitVec.ofNat 32 a &&& (BitVec.ofNat 32 b ^^^ BitVec.allOnes 32)).getLsbD i = (BitVec.ofNat 32 (a ^^^ (a &&& b))).getLsbD i
  rw [BitVec.getLsbD_and, BitVec.getLsbD_xor, BitVec.getLsbD_allOnes, BitVec.getLsbD_ofNat, BitVec.getLsbD_ofNat, BitVec.getLsbD_ofNat]
  simp [hi, Nat.testBit_xor, Nat.testBit_and]
  cases a.testBit i <;> cases b.testBit i <;> rfl
def chnF (O : AO) : Nat → AW → AW
  | 0, V => V
  | n + 1, V => dayF O (telF O 4 (chnF O n V))
theorem telF_day (O : AO) (V : AW) : ∀ n, vD (telF O n V) = vD V := by
  intro n
  induction n with
  | zero => rfl
  | succ n ih => exact ih
theorem chnF_day (O : AO) (V : AW) : ∀ n, vD (chnF O n V) = vD V + n := by
  intro n
  induction n with
  | zero => rfl
  | succ n ih => show vD (telF O 4 (chnF O n V)) + 1 = _; rw [telF_day, ih]; omega
theorem chnF_ok {O : AO} {V : AW} (h : OkO O) (hv : OkV O V) : ∀ n, vD V + n ≤ 100000 → OkV O (chnF O n V) := by
  intro n
  induction n with
  | zero => intro _; exact hv
  | succ n ih =>
    intro hn
    have h1 := telF_ok h (ih (by omega)) 4
    refine dayF_ok h h1 ?_
    rw [telF_day, chnF_day]; omega
/-- the world ahead is W -/
def IA (σ : PH) (o o' : Nat) (A : AT) (W : AW) : Prop := IT σ o o' A ∧ RpW σ wA W ∧ hR σ wA 0 = o
theorem WF.aux {σ σ' : PH} {o : Nat} (h : WF wA o σ σ') (ho : isO o) : Ch (inS sAux) σ σ' := (h.ch (Or.inr (Or.inl rfl)) ho).more (by decide)
theorem Ch.aux {σ σ' : PH} (h : Ch (inS sAux) σ σ') : Ch cls σ σ' := h.toC (by decide)
theorem IA.wf {σ σ' : PH} {o o' : Nat} {A : AT} {W W' : AW} (h : IA σ o o' A W) (hw : RpW σ' wA W') (hF : WF wA o σ σ') : IA σ' o o' A W' :=
  ⟨h.1.aux (hF.aux h.1.2.2.2.1.1.1.1), hw, by rw [hF.2.2.2.1]; exact h.2.2⟩
section C47
variable {Γ : Gm} {σ : PH} {o o' : Nat} {A : AT}
variable {O : AO} {V : AW} {w : Nat}
set_option maxRecDepth 4000 in
theorem l_wordsSecret (ho : RpO σ o O) (hw : RpW σ w V) (hv : OkV O V) (hwo : hR σ w 0 = o) : ∀ (n i : Nat), i + n = aC O → Ok Γ 1 0 0 mX7_wordsSecret 6 [some (.ref w), some (.int (nI (sec i V).1)), some (.int (nI (sec i V).2)), some (.int (nI i))] [] σ (rI σ (nI (kSec O V))) := by
  have hc6 := ho.2.1.2.1
  intro n
  induction n with
  | zero =>
    intro i hi
    have hiN : i = aC O := by omega
    subst hiN
    refine p_iload_n 3 7 rfl rfl dX7_wordsSecret_6 rfl ?_
    refine p_aload_n 0 8 rfl rfl dX7_wordsSecret_7 rfl ?_
    refine p_getR 7 0 11 rfl dX7_wordsSecret_8 fl_X7_31 hw.1.1.kd rfl hwo ho.1.1.ne0 ?_
    refine p_getIE 4 4 14 rfl dX7_wordsSecret_11 fl_X7_64 ho.1.1.kd rfl ho.2.2.2.1 ?_
    refine p_icmp_ge 43 17 rfl rfl dX7_wordsSecret_14 (fun h14 => ?_) (fun h14 => absurd (nI_le (Nat.le_refl _) (by omega)) h14)
    refine p_iload_n 1 44 rfl rfl dX7_wordsSecret_43 rfl ?_
    refine p_iload_n 2 45 rfl rfl dX7_wordsSecret_44 rfl ?_
    refine p_iconst (-1) 46 rfl dX7_wordsSecret_45 rfl ?_
    refine p_ixor 47 rfl dX7_wordsSecret_46 ?_
    refine p_iand 48 rfl dX7_wordsSecret_47 ?_
    exact p_iret dX7_wordsSecret_48 rfl ⟨by rw [and_not_nI]; rfl, rfl⟩
  | succ n ih =>
    intro i hi
    have hlt : i < aC O := by omega
    refine p_iload_n 3 7 rfl rfl dX7_wordsSecret_6 rfl ?_
    refine p_aload_n 0 8 rfl rfl dX7_wordsSecret_7 rfl ?_
    refine p_getR 7 0 11 rfl dX7_wordsSecret_8 fl_X7_31 hw.1.1.kd rfl hwo ho.1.1.ne0 ?_
    refine p_getIE 4 4 14 rfl dX7_wordsSecret_11 fl_X7_64 ho.1.1.kd rfl ho.2.2.2.1 ?_
    refine p_icmp_ge 43 17 rfl rfl dX7_wordsSecret_14 (fun h14 => absurd h14 (nI_ge hlt (by omega))) (fun h14 => ?_)
    refine p_iload_n 2 18 rfl rfl dX7_wordsSecret_17 rfl ?_
    refine p_iload_n 1 19 rfl rfl dX7_wordsSecret_18 rfl ?_
    refine p_aload_n 0 20 rfl rfl dX7_wordsSecret_19 rfl ?_
    refine p_getR 7 5 23 rfl dX7_wordsSecret_20 fl_X7_25 hw.1.1.kd rfl hw.1.2.2.2.2.1 (mk0 (Nat.succ_ne_zero _)) ?_
    refine p_iload_n 3 24 rfl rfl dX7_wordsSecret_23 rfl ?_
    refine p_ialdE 25 rfl dX7_wordsSecret_24 (kd16 _ _) (lt6 (by omega)) (hw.2.2.2 i (by omega)) ?_
    refine p_iand 26 rfl dX7_wordsSecret_25 ?_
    refine p_ior 27 rfl dX7_wordsSecret_26 ?_
    refine p_ist_n2 28 rfl rfl dX7_wordsSecret_27 (Nat.le_of_ble_eq_true rfl) rfl ?_
    refine p_iload_n 1 29 rfl rfl dX7_wordsSecret_28 rfl ?_
    refine p_aload_n 0 30 rfl rfl dX7_wordsSecret_29 rfl ?_
    refine p_getR 7 5 33 rfl dX7_wordsSecret_30 fl_X7_25 hw.1.1.kd rfl hw.1.2.2.2.2.1 (mk0 (Nat.succ_ne_zero _)) ?_
    refine p_iload_n 3 34 rfl rfl dX7_wordsSecret_33 rfl ?_
    refine p_ialdE 35 rfl dX7_wordsSecret_34 (kd16 _ _) (lt6 (by omega)) (hw.2.2.2 i (by omega)) ?_
    refine p_ior 36 rfl dX7_wordsSecret_35 ?_
    refine p_ist_n1 37 rfl rfl dX7_wordsSecret_36 (Nat.le_of_ble_eq_true rfl) rfl ?_
    refine p_inc_3 40 rfl dX7_wordsSecret_37 (1) rfl (Nat.le_of_ble_eq_true rfl) rfl ?_
    refine p_goto 6 rfl dX7_wordsSecret_40 ?_
    rw [nI_1, nx_and, nx_or, nx_or]
    exact ih (i + 1) (by omega)
set_option maxRecDepth 4000 in
theorem c_wordsSecret (ho : RpO σ o O) (hw : RpW σ w V) (hv : OkV O V) (hwo : hR σ w 0 = o) : CallOk Γ 1 0 0 mX7_wordsSecret [.ref w] σ (rI σ (nI (kSec O V))) := by
  refine p_enter rfl rfl (Nat.le_of_ble_eq_true rfl) rfl ?_
  refine p_iconst (0) 1 rfl dX7_wordsSecret_0 rfl ?_
  refine p_ist_n1 2 rfl rfl dX7_wordsSecret_1 (Nat.le_of_ble_eq_true rfl) rfl ?_
  refine p_iconst (0) 3 rfl dX7_wordsSecret_2 rfl ?_
  refine p_ist_n2 4 rfl rfl dX7_wordsSecret_3 (Nat.le_of_ble_eq_true rfl) rfl ?_
  refine p_iconst (0) 5 rfl dX7_wordsSecret_4 rfl ?_
  refine p_ist_n3 6 rfl rfl dX7_wordsSecret_5 (Nat.le_of_ble_eq_true rfl) rfl ?_
  exact l_wordsSecret ho hw hv hwo (aC O) 0 (by omega)
set_option maxRecDepth 4000 in
theorem c_lookAhead (hT : IT σ o o' A) {k : Nat} (hk : k ≤ 100) : CallOk Γ 7 0 0 mX8_lookAhead [.ref T0, .int (nI k)] σ (rV (fun σ' => IA σ' o o' A (daysF (tO A) k (tV A)) ∧ Ch (inS sAux) σ σ')) := by
  have hS := hT.1
  have hK := hT.2.1
  have hto : hR σ T0 3 = o := hT.2.2.1.2.2.1
  have hQ := hT.2.2.2.1
  have ho := hQ.1
  have hw := hT.2.2.2.2.1.1
  have hwo := hT.2.2.2.2.1.2
  have hv := hK.2.2.2.2.1.1
  have hd9 := hK.2.2.2.2.1.2
  have hY := hK.2.2.2.1
  have hO := hK.2.2.1
  have hs9 := hO.1
  have hc6 := hO.2.1
  have hw12 := hO.2.2.1
  have hk8 := hO.2.2.2.1
  refine p_enter rfl rfl (Nat.le_of_ble_eq_true rfl) rfl ?_
  refine p_aload_n 0 1 rfl rfl dX8_lookAhead_0 rfl ?_
  refine p_getR 8 7 4 rfl dX8_lookAhead_1 fl_X8_48 rfl rfl hS.2.2.2.1 (by decide) ?_
  refine p_aload_n 0 5 rfl rfl dX8_lookAhead_4 rfl ?_
  refine p_getR 8 6 8 rfl dX8_lookAhead_5 fl_X8_44 rfl rfl hS.2.2.1 (by decide) ?_
  refine p_cV1v 0 0 11 rfl dX8_lookAhead_8 (c_copyW hT.2.2.2.2.2.1.1 hw (by decide) hwo ho.1.1.ne0) ml_X8_345 vl_X7_copyFrom rfl (by decide) rfl (Nat.le_of_ble_eq_true rfl) (Nat.le_of_ble_eq_true rfl) (Nat.le_of_ble_eq_true rfl) (Nat.le_of_ble_eq_true rfl) rfl ?_
  rintro σ1 ⟨hw1, hwo1, hF1⟩
  have hc1 : Ch (inS sAux) σ σ1 := hF1.ch (by decide) (by decide) (by decide) (by decide)
  have h1 : IA σ1 o o' A (tV A) := ⟨hT.aux hc1, hw1, hwo1⟩
  have hS1 := h1.1.1
  refine p_aload_n 0 12 rfl rfl dX8_lookAhead_11 rfl ?_
  refine p_getR 8 7 15 rfl dX8_lookAhead_12 fl_X8_48 rfl rfl hS1.2.2.2.1 (by decide) ?_
  refine p_iload_n 1 16 rfl rfl dX8_lookAhead_15 rfl ?_
  refine p_cV1v 0 0 19 rfl dX8_lookAhead_16 (c_passDays h1.1.2.2.2.1 hY h1.2.1 hv h1.2.2 (by omega)) ml_X8_251 vl_X7_passDays rfl (by decide) rfl (Nat.le_of_ble_eq_true rfl) (Nat.le_of_ble_eq_true rfl) (Nat.le_of_ble_eq_true rfl) (Nat.le_of_ble_eq_true rfl) rfl ?_
  rintro σ2 ⟨hw2, hF2⟩
  exact p_vret dX8_lookAhead_19 rfl ⟨rfl, h1.wf hw2 hF2, hc1.tr (hF2.aux ho.1.1)⟩
def fThen (A : AT) (x y z : Int32) : Nat × Int32 := gd (inR x (aC (tO A))) 1 (gd (inR z 2) 1 (gd (btw y 0 40) 2 (0, if iN z = 0 then nI (tOn (tO A) (iN x) (vD (tV A) + iN y)) else nI (vK (daysF (tO A) (iN y) (tV A)) (iN x)))))
def fRead (A : AT) (y z : Int32) : Nat × Int32 := gd (inR z 2) 1 (gd (btw y 0 40) 2 (0, if iN z = 0 then nI (kAll (tO A) (daysF (tO A) (iN y) (tV A))) else nI (kSec (tO A) (daysF (tO A) (iN y) (tV A)))))
def fUnread (A : AT) (y : Int32) : Nat × Int32 := gd (btw y 0 40) 1 (0, nI (aW (tO A)) - nI (pop (kAll (tO A) (daysF (tO A) (iN y) (tV A)))))
def fFirst (A : AT) (x y : Int32) : Nat × Int32 := gd (inR x (aC (tO A))) 1 (gd (inR y (aW (tO A))) 1 (0, oI (fnd 41 0 (fun k => (vK (daysF (tO A) k (tV A)) (iN x)).testBit (iN y)))))
def fChain (A : AT) (x y : Int32) : Nat × Int32 := gd (inR x (aC (tO A))) 1 (gd (inR y (aW (tO A))) 1 (0, oI (fnd 41 0 (fun k => (vK (chnF (tO A) k (tV A)) (iN x)).testBit (iN y)))))
def fMould (A : AT) (x : Int32) : Nat × Int32 := gd (inR x (aS (tO A))) 1 (0, oI (fnd 40 1 (fun k => vR (daysF (tO A) k (tV A)) (iN x) != vR (tV A) (iN x))))
def fMeet (A : AT) (x y : Int32) : Nat × Int32 := gd (inR x (aS (tO A))) 1 (gd (inR y (aS (tO A))) 1 (0, if iN x = iN y then -1 else oI (fnd 41 0 (fun k => tOf (tO A) (tV A) (iN x) k != 0 && tOf (tO A) (tV A) (iN x) k == tOf (tO A) (tV A) (iN y) k))))
def cntN : Nat → (Nat → Bool) → Nat
  | 0, _ => 0
  | n + 1, p => cntN n p + (if p n = true then 1 else 0)
theorem cntN_le (p : Nat → Bool) : ∀ n, cntN n p ≤ n := by
  intro n
  induction n with
  | zero => exact Nat.le_refl 0
  | succ n ih => unfold cntN; split <;> omega
def fLaid (A : AT) (y : Int32) : Nat × Int32 := gd (btw y 1 40) 1 (0, nI (cntN (iN y) (fun k => lrnF (tO A) (daysF (tO A) k (tV A)) 4)))
/-- the best with its number: the first of the largest -/
def gbs : Nat → (Nat → Nat) → Nat × Nat
  | 0, _ => (0, 0)
  | n + 1, f => if (gbs n f).2 < f n then (n, f n) else gbs n f
def fGath (A : AT) (y : Int32) : Nat × Int32 := gd (btw y 0 40) 1 (0, nI (gbs 4 (fun t => pop (shIn (tO A) (tV A) t (iN y)))).1)
/-- the first of the largest among those that p lets in -/
def wbs (p : Nat → Bool) (f : Nat → Nat) : Nat → Option Nat
  | 0 => none
  | n + 1 => if p n = true then (match wbs p f n with
    | none => some n
    | some b => if f b < f n then some n else some b) else wbs p f n
def wbv (f : Nat → Nat) : Option Nat → Int32
  | none => -1
  | some b => nI (f b)
def fWisest (A : AT) (y : Int32) : Nat × Int32 := gd (btw y 0 40) 1 (0, oI (wbs (fun _ => true) (fun c => pop (vK (daysF (tO A) (iN y) (tV A)) c)) (aC (tO A))))
def fHeir (A : AT) (x : Int32) : Nat × Int32 := gd (inR x (aC (tO A))) 1 (0, oI (wbs (fun c => c != iN x) (fun c => pop (vK (tV A) c &&& vK (tV A) (iN x))) (aC (tO A))))
theorem kAll_lt {O : AO} {V : AW} (h : OkO O) (hv : OkV O V) : kAll O V < 4096 := orK_lt _ (fun c hc => hv.2.2.2 c (by have := h.2.1; omega))
set_option maxRecDepth 6000 in
theorem t_then (hT : IT σ o o' A) (x y z : Int32) : CallOk Γ 14 8 48 mX8_then [.ref T0, .int x, .int y, .int z] σ (rS (fThen A x y z) false (fun σ' => IT σ' o o' A ∧ Ch cls σ σ')) := by
  have hS := hT.1
  have hK := hT.2.1
  have hto : hR σ T0 3 = o := hT.2.2.1.2.2.1
  have hQ := hT.2.2.2.1
  have ho := hQ.1
  have hw := hT.2.2.2.2.1.1
  have hwo := hT.2.2.2.2.1.2
  have hv := hK.2.2.2.2.1.1
  have hd9 := hK.2.2.2.2.1.2
  have hY := hK.2.2.2.1
  have hO := hK.2.2.1
  have hs9 := hO.1
  have hc6 := hO.2.1
  have hw12 := hO.2.2.1
  have hk8 := hO.2.2.2.1
  refine p_enter rfl rfl (Nat.le_of_ble_eq_true rfl) rfl ?_
  refine p_aload_n 0 1 rfl rfl dX8_then_0 rfl ?_
  refine p_iload_n 1 2 rfl rfl dX8_then_1 rfl ?_
  refine p_cV1n 5 rfl dX8_then_2 (c_needClerk hto hQ _) ml_X8_194 vl_X8_needClerk rfl (by decide) rfl (Nat.le_of_ble_eq_true rfl) (Nat.le_of_ble_eq_true rfl) (Nat.le_of_ble_eq_true rfl) (Nat.le_of_ble_eq_true rfl) rfl (fun h2 => ?_) (fun h2 => ⟨by simp [fThen, gd, h2], hT, Ch.rf⟩)
  obtain ⟨s, rfl, hs⟩ := asN h2 (by omega)
  have hsL : s < 2147483648 := by omega
  refine p_iload_n 3 6 rfl rfl dX8_then_5 rfl ?_
  refine p_iconst (2) 7 rfl dX8_then_6 rfl ?_
  refine p_cS2n 10 rfl dX8_then_7 (c_needBelow _ 2) ml_X8_257 sl_X8_needBelow (Nat.le_of_ble_eq_true rfl) (Nat.le_of_ble_eq_true rfl) (Nat.le_of_ble_eq_true rfl) (Nat.le_of_ble_eq_true rfl) rfl (fun h7 => ?_) (fun h7 => ⟨by simp [fThen, gd, h2, h7], hT, Ch.rf⟩)
  obtain ⟨z2, rfl, hz2⟩ := asN h7 (by omega)
  have hz2L : z2 < 2147483648 := by omega
  refine p_iload_n 2 11 rfl rfl dX8_then_10 rfl ?_
  refine p_iconst (0) 12 rfl dX8_then_11 rfl ?_
  refine p_bipush (40) 14 rfl dX8_then_12 rfl ?_
  refine p_cS3n 17 rfl dX8_then_14 (c_needBetween _ 0 40) ml_X8_267 sl_X8_needBetween (Nat.le_of_ble_eq_true rfl) (Nat.le_of_ble_eq_true rfl) (Nat.le_of_ble_eq_true rfl) (Nat.le_of_ble_eq_true rfl) rfl (fun h14 => ?_) (fun h14 => ⟨by simp [fThen, gd, h2, h7, h14], hT, Ch.rf⟩)
  obtain ⟨k, rfl, hka, hk⟩ := asB h14 (by decide) (by decide)
  have hkL : k < 2147483648 := by omega
  refine p_iload_n 3 18 rfl rfl dX8_then_17 rfl ?_
  refine p_if_ne 39 21 rfl rfl dX8_then_18 (fun h18 => ?_) (fun h18 => ?_)
  · refine p_aload_n 0 40 rfl rfl dX8_then_39 rfl ?_
    refine p_iload_n 2 41 rfl rfl dX8_then_40 rfl ?_
    refine p_cV1v 0 0 44 rfl dX8_then_41 (c_lookAhead (k := k) hT (by omega)) ml_X8_271 vl_X8_lookAhead rfl (by decide) rfl (Nat.le_of_ble_eq_true rfl) (Nat.le_of_ble_eq_true rfl) (Nat.le_of_ble_eq_true rfl) (Nat.le_of_ble_eq_true rfl) rfl ?_
    rintro σ1 ⟨h1, hc1⟩
    have hS1 := h1.1.1
    have hw1 := h1.2.1
    have hwo1 := h1.2.2
    have ho1 := h1.1.2.2.2.1.1
    have hto1 : hR σ1 T0 3 = o := h1.1.2.2.1.2.2.1
    refine p_aload_n 0 45 rfl rfl dX8_then_44 rfl ?_
    refine p_getR 8 7 48 rfl dX8_then_45 fl_X8_48 rfl rfl hS1.2.2.2.1 (by decide) ?_
    refine p_getR 7 5 51 rfl dX8_then_48 fl_X8_200 rfl rfl hw1.1.2.2.2.2.1 (mk0 (Nat.succ_ne_zero _)) ?_
    refine p_iload_n 1 52 rfl rfl dX8_then_51 rfl ?_
    refine p_ialdE 53 rfl dX8_then_52 (kd16 _ _) (lt6 (by omega)) (hw1.2.2.2 s (by omega)) ?_
    exact p_iret dX8_then_53 rfl ⟨by
      have e : z2 ≠ 0 := fun q => h18 (by rw [q]; rfl)
      simp [fThen, gd, h2, h7, h14, iN_nI hsL, iN_nI hkL, iN_nI hz2L, e], h1.1, hc1.aux⟩
  · refine p_aload_n 0 22 rfl rfl dX8_then_21 rfl ?_
    refine p_getR 8 3 25 rfl dX8_then_22 fl_X8_23 rfl rfl hto ho.1.1.ne0 ?_
    refine p_iload_n 1 26 rfl rfl dX8_then_25 rfl ?_
    refine p_aload_n 0 27 rfl rfl dX8_then_26 rfl ?_
    refine p_getR 8 6 30 rfl dX8_then_27 fl_X8_44 rfl rfl hS.2.2.1 (by decide) ?_
    refine p_getIE 7 1 33 rfl dX8_then_30 fl_X8_143 rfl rfl hw.2.1 ?_
    refine p_iload_n 2 34 rfl rfl dX8_then_33 rfl ?_
    refine p_iadd 35 rfl dX8_then_34 ?_
    rw [nI_add]
    refine p_cV2i 38 rfl dX8_then_35 (c_townOn ho hs (by omega)) ml_X8_197 vl_X4_townOn ho.1.1.kd (by decide) rfl (Nat.le_of_ble_eq_true rfl) (Nat.le_of_ble_eq_true rfl) rfl ?_
    exact p_iret dX8_then_38 rfl ⟨by
      have e : z2 = 0 := by
        rcases Nat.eq_zero_or_pos z2 with q | q
        · exact q
        · exact absurd h18 (nI_ne0 q (by omega))
      subst e
      simp [fThen, gd, h2, h7, h14, iN_nI hsL, iN_nI hkL, iN_nI hz2L], hT, Ch.rf⟩
set_option maxRecDepth 6000 in
theorem t_read (hT : IT σ o o' A) (y z : Int32) : CallOk Γ 14 8 48 mX8_read [.ref T0, .int y, .int z] σ (rS (fRead A y z) false (fun σ' => IT σ' o o' A ∧ Ch cls σ σ')) := by
  have hS := hT.1
  have hK := hT.2.1
  have hto : hR σ T0 3 = o := hT.2.2.1.2.2.1
  have hQ := hT.2.2.2.1
  have ho := hQ.1
  have hw := hT.2.2.2.2.1.1
  have hwo := hT.2.2.2.2.1.2
  have hv := hK.2.2.2.2.1.1
  have hd9 := hK.2.2.2.2.1.2
  have hY := hK.2.2.2.1
  have hO := hK.2.2.1
  have hs9 := hO.1
  have hc6 := hO.2.1
  have hw12 := hO.2.2.1
  have hk8 := hO.2.2.2.1
  refine p_enter rfl rfl (Nat.le_of_ble_eq_true rfl) rfl ?_
  refine p_iload_n 2 1 rfl rfl dX8_read_0 rfl ?_
  refine p_iconst (2) 2 rfl dX8_read_1 rfl ?_
  refine p_cS2n 5 rfl dX8_read_2 (c_needBelow _ 2) ml_X8_257 sl_X8_needBelow (Nat.le_of_ble_eq_true rfl) (Nat.le_of_ble_eq_true rfl) (Nat.le_of_ble_eq_true rfl) (Nat.le_of_ble_eq_true rfl) rfl (fun h2 => ?_) (fun h2 => ⟨by simp [fRead, gd, h2], hT, Ch.rf⟩)
  obtain ⟨z2, rfl, hz2⟩ := asN h2 (by omega)
  have hz2L : z2 < 2147483648 := by omega
  refine p_iload_n 1 6 rfl rfl dX8_read_5 rfl ?_
  refine p_iconst (0) 7 rfl dX8_read_6 rfl ?_
  refine p_bipush (40) 9 rfl dX8_read_7 rfl ?_
  refine p_cS3n 12 rfl dX8_read_9 (c_needBetween _ 0 40) ml_X8_267 sl_X8_needBetween (Nat.le_of_ble_eq_true rfl) (Nat.le_of_ble_eq_true rfl) (Nat.le_of_ble_eq_true rfl) (Nat.le_of_ble_eq_true rfl) rfl (fun h9 => ?_) (fun h9 => ⟨by simp [fRead, gd, h2, h9], hT, Ch.rf⟩)
  obtain ⟨k, rfl, hka, hk⟩ := asB h9 (by decide) (by decide)
  have hkL : k < 2147483648 := by omega
  have hdv := daysF_ok hO hv k (by omega)
  refine p_aload_n 0 13 rfl rfl dX8_read_12 rfl ?_
  refine p_iload_n 1 14 rfl rfl dX8_read_13 rfl ?_
  refine p_cV1v 0 0 17 rfl dX8_read_14 (c_lookAhead (k := k) hT (by omega)) ml_X8_271 vl_X8_lookAhead rfl (by decide) rfl (Nat.le_of_ble_eq_true rfl) (Nat.le_of_ble_eq_true rfl) (Nat.le_of_ble_eq_true rfl) (Nat.le_of_ble_eq_true rfl) rfl ?_
  rintro σ1 ⟨h1, hc1⟩
  have hS1 := h1.1.1
  have hw1 := h1.2.1
  have hwo1 := h1.2.2
  have ho1 := h1.1.2.2.2.1.1
  have hto1 : hR σ1 T0 3 = o := h1.1.2.2.1.2.2.1
  refine p_iload_n 2 18 rfl rfl dX8_read_17 rfl ?_
  refine p_if_ne 31 21 rfl rfl dX8_read_18 (fun h18 => ?_) (fun h18 => ?_)
  · refine p_aload_n 0 32 rfl rfl dX8_read_31 rfl ?_
    refine p_getR 8 7 35 rfl dX8_read_32 fl_X8_48 rfl rfl hS1.2.2.2.1 (by decide) ?_
    refine p_cV0i 38 rfl dX8_read_35 (c_wordsSecret ho1 hw1 hdv hwo1) ml_X8_281 vl_X7_wordsSecret rfl (by decide) rfl (Nat.le_of_ble_eq_true rfl) (Nat.le_of_ble_eq_true rfl) rfl ?_
    exact p_iret dX8_read_38 rfl ⟨by
      have e : z2 ≠ 0 := fun q => h18 (by rw [q]; rfl)
      simp [fRead, gd, h2, h9, iN_nI hkL, iN_nI hz2L, e], h1.1, hc1.aux⟩
  · refine p_aload_n 0 22 rfl rfl dX8_read_21 rfl ?_
    refine p_getR 8 7 25 rfl dX8_read_22 fl_X8_48 rfl rfl hS1.2.2.2.1 (by decide) ?_
    refine p_cV0i 28 rfl dX8_read_25 (c_wordsKnown ho1 hw1 hdv hwo1) ml_X8_153 vl_X7_wordsKnown rfl (by decide) rfl (Nat.le_of_ble_eq_true rfl) (Nat.le_of_ble_eq_true rfl) rfl ?_
    refine p_goto 38 rfl dX8_read_28 ?_
    exact p_iret dX8_read_38 rfl ⟨by
      have e : z2 = 0 := by
        rcases Nat.eq_zero_or_pos z2 with q | q
        · exact q
        · exact absurd h18 (nI_ne0 q (by omega))
      subst e
      simp [fRead, gd, h2, h9, iN_nI hkL, iN_nI hz2L], h1.1, hc1.aux⟩
end C47
