/-! ===== where the objects are; the office and the world in numbers ===== -/
def isO (o : Nat) : Prop := o = 786436 ∨ o = 4456452
def isW (w : Nat) : Prop := w = 8388615 ∨ w = 9961479 ∨ w = 13369351
def oL (o : Nat) : Nat := mkr (sn o + 1) 9 16
def oR (o : Nat) : Nat := mkr (sn o + 2) 9 16
def oH (o : Nat) : Nat := mkr (sn o + 3) 9 16
def oS (o : Nat) : Nat := mkr (sn o + 4) 6 16
def oN (o : Nat) : Nat := mkr (sn o + 5) 36 16
def oA (o : Nat) : Nat := mkr (sn o + 6) 12 16
def oB (o : Nat) : Nat := mkr (sn o + 7) 12 16
def oY (o : Nat) : Nat := mkr (sn o + 8) 0 6
def oM (o : Nat) : Nat := mkr (sn o + 11) 0 6
def uS (u : Nat) : Nat := mkr (sn u + 1) 700 16
def uP (u : Nat) : Nat := mkr (sn u + 2) 40 16
def wL (w : Nat) : Nat := mkr (sn w + 1) 9 16
def wR (w : Nat) : Nat := mkr (sn w + 2) 9 16
def wP (w : Nat) : Nat := mkr (sn w + 3) 9 16
def wK (w : Nat) : Nat := mkr (sn w + 4) 6 16
def wV (w : Nat) : Nat := mkr (sn w + 5) 6 16
theorem mk0 {s n k : Nat} (h : s ≠ 0) : mkr s n k ≠ 0 := by unfold mkr; omega
theorem isO.kd {o : Nat} (h : isO o) : kd o = 4 := by rcases h with rfl | rfl <;> rfl
theorem isW.kd {w : Nat} (h : isW w) : kd w = 7 := by rcases h with rfl | rfl | rfl <;> rfl
theorem isO.ne0 {o : Nat} (h : isO o) : o ≠ 0 := by rcases h with rfl | rfl <;> decide
theorem isW.ne0 {w : Nat} (h : isW w) : w ≠ 0 := by rcases h with rfl | rfl | rfl <;> decide
/-- the reference fields of an office and of a world -/
def StO (σ : PH) (o : Nat) : Prop := isO o ∧ hR σ o 1 = oL o ∧ hR σ o 2 = oR o ∧ hR σ o 3 = oH o ∧ hR σ o 5 = oS o ∧ hR σ o 6 = oN o ∧ hR σ o 8 = oA o ∧ hR σ o 9 = oB o ∧ hR σ o 12 = oY o ∧ hR σ o 13 = oM o ∧
  hR σ (oY o) 2 = uS (oY o) ∧ hR σ (oY o) 3 = uP (oY o) ∧ hR σ (oM o) 2 = uS (oM o) ∧ hR σ (oM o) 3 = uP (oM o)
def StW (σ : PH) (w : Nat) : Prop := isW w ∧ hR σ w 2 = wL w ∧ hR σ w 3 = wR w ∧ hR σ w 4 = wP w ∧ hR σ w 5 = wK w ∧ hR σ w 6 = wV w
theorem in9 {i : Nat} {r : Nat} (h : i < 9) (hr : ln r = 9) : vp_in (nI i) (ln r) := by rw [hr]; exact vp_in_nI h (by omega)
theorem inN {i n r : Nat} (h : i < n) (hr : ln r = n) (hn : n < 8192) : vp_in (nI i) (ln r) := by rw [hr]; exact vp_in_nI h (by omega)
theorem ln9 (s : Nat) : ln (mkr s 9 16) = 9 := ln_mkr (by decide) (by decide)
theorem ln6 (s : Nat) : ln (mkr s 6 16) = 6 := ln_mkr (by decide) (by decide)
theorem ln12 (s : Nat) : ln (mkr s 12 16) = 12 := ln_mkr (by decide) (by decide)
theorem ln36 (s : Nat) : ln (mkr s 36 16) = 36 := ln_mkr (by decide) (by decide)
theorem kd16 (s n : Nat) : kd (mkr s n 16) = 16 := kd_mkr (by decide)
theorem kd6 (s n : Nat) : kd (mkr s n 6) = 6 := kd_mkr (by decide)
/-- an office: sheets, clerks, words, slack; how long rounds are, the towns of them; the words' sheets; the rules -/
abbrev AO : Type := Nat × Nat × Nat × Nat × (Nat → Nat) × (Nat → Nat → Nat) × (Nat → Nat) × (Nat → Nat) × Option (List Int32) × Option (List Int32)
def aS (O : AO) : Nat := O.1
def aC (O : AO) : Nat := O.2.1
def aW (O : AO) : Nat := O.2.2.1
def aK (O : AO) : Nat := O.2.2.2.1
def aT (O : AO) : Nat → Nat := O.2.2.2.2.1
def aR (O : AO) : Nat → Nat → Nat := O.2.2.2.2.2.1
def aL (O : AO) : Nat → Nat := O.2.2.2.2.2.2.1
def aB (O : AO) : Nat → Nat := O.2.2.2.2.2.2.2.1
def aY (O : AO) : Option (List Int32) := O.2.2.2.2.2.2.2.2.1
def aM (O : AO) : Option (List Int32) := O.2.2.2.2.2.2.2.2.2
/-- a world: the day; left and right edges; places (0 burnt, 1 and a town, 5 and a clerk); what clerks know -/
abbrev AW : Type := Nat × (Nat → Nat) × (Nat → Nat) × (Nat → Nat) × (Nat → Nat)
def vD (V : AW) : Nat := V.1
def vL (V : AW) : Nat → Nat := V.2.1
def vR (V : AW) : Nat → Nat := V.2.2.1
def vP (V : AW) : Nat → Nat := V.2.2.2.1
def vK (V : AW) : Nat → Nat := V.2.2.2.2
def OkO (O : AO) : Prop := aS O ≤ 9 ∧ aC O ≤ 6 ∧ aW O ≤ 12 ∧ aK O ≤ 8 ∧ (∀ c, c < aC O → 1 ≤ aT O c ∧ aT O c ≤ 6 ∧ ∀ j, j < aT O c → aR O c j < 4) ∧ (∀ k, k < aW O → aL O k < aS O ∧ aB O k < aS O)
/-- days stay far below what an int holds; places are towns' or clerks' -/
def OkV (O : AO) (V : AW) : Prop := vD V ≤ 100000 ∧ (∀ s, s < 9 → vL V s < 256 ∧ vR V s < 256 ∧ vP V s < 11) ∧ (∀ s, s < aS O → vP V s < 5 + aC O) ∧ ∀ c, c < 6 → vK V c < 4096
def RpO (σ : PH) (o : Nat) (O : AO) : Prop := StO σ o ∧ OkO O ∧ hI σ o 0 = nI (aS O) ∧ hI σ o 4 = nI (aC O) ∧ hI σ o 7 = nI (aW O) ∧ hI σ o 10 = nI (aK O) ∧
  (∀ c, c < aC O → hA σ (oS o) c = nI (aT O c) ∧ ∀ j, j < aT O c → hA σ (oN o) (6 * c + j) = nI (aR O c j)) ∧ (∀ k, k < aW O → hA σ (oA o) k = nI (aL O k) ∧ hA σ (oB o) k = nI (aB O k))
/-- a place as the class has it -/
def pI (p : Nat) : Int32 := nI p - 1
def RpW (σ : PH) (w : Nat) (V : AW) : Prop := StW σ w ∧ hI σ w 1 = nI (vD V) ∧ (∀ s, s < 9 → hA σ (wL w) s = nI (vL V s) ∧ hA σ (wR w) s = nI (vR V s) ∧ hA σ (wP w) s = pI (vP V s)) ∧ ∀ c, c < 6 → hA σ (wK w) c = nI (vK V c)
/-! what is asked of them -/
def setN : Nat → (Nat → Bool) → Nat
  | 0, _ => 0
  | n + 1, p => setN n p ||| (if p n = true then 2 ^ n else 0)
def popN : Nat → Nat → Nat
  | 0, _ => 0
  | k + 1, n => popN k n + n / 2 ^ k % 2
def pop (n : Nat) : Nat := popN 12 n
def tOn (O : AO) (c d : Nat) : Nat := aR O c (d % aT O c)
def tOf (O : AO) (V : AW) (s k : Nat) : Nat := if 5 ≤ vP V s then tOn O (vP V s - 5) (vD V + k) + 1 else vP V s
def shIn (O : AO) (V : AW) (t k : Nat) : Nat := setN (aS O) (fun s => tOf O V s k == t + 1)
def clIn (O : AO) (V : AW) (t : Nat) : Nat := setN (aC O) (fun c => tOn O c (vD V) == t)
def shAt (O : AO) (V : AW) (q : Nat) : Nat := setN (aS O) (fun s => vP V s == q)
def inHd (O : AO) (V : AW) : Nat := setN (aS O) (fun s => decide (5 ≤ vP V s))
def dif (V : AW) (a b : Nat) : Nat := pop (vR V a ^^^ vL V b)
def fitt (O : AO) (V : AW) (a b : Nat) : Bool := a != b && vP V a != 0 && vP V b != 0 && decide (dif V a b ≤ aK O)
def ftg (O : AO) (V : AW) (s : Nat) : Nat := setN (aS O) (fun o => fitt O V s o)
def wOf (O : AO) (V : AW) (m : Nat) : Nat := setN (aW O) (fun k => m.testBit (aL O k) && m.testBit (aB O k) && fitt O V (aL O k) (aB O k))
def dead (O : AO) (V : AW) (k : Nat) : Bool := vP V (aL O k) == 0 || vP V (aB O k) == 0
def wLost (O : AO) (V : AW) (m : Nat) : Nat := setN (aW O) (fun k => !dead O V k && (m.testBit (aL O k) || m.testBit (aB O k)))
def wDead (O : AO) (V : AW) : Nat := setN (aW O) (fun k => dead O V k)
def wBlank (O : AO) (V : AW) : Nat := setN (aW O) (fun k => !dead O V k && !fitt O V (aL O k) (aB O k))
def whoK (O : AO) (V : AW) (k : Nat) : Nat := setN (aC O) (fun c => (vK V c).testBit k)
def orK : Nat → (Nat → Bool) → AW → Nat
  | 0, _, _ => 0
  | n + 1, p, V => orK n p V ||| (if p n = true then vK V n else 0)
def kBy (O : AO) (V : AW) (m : Nat) : Nat := orK (aC O) (fun c => m.testBit c) V
def kAll (O : AO) (V : AW) : Nat := orK (aC O) (fun _ => true) V
/-! numbers and bits -/
theorem setN_lt (p : Nat → Bool) : ∀ n, setN n p < 2 ^ n := by
  intro n
  induction n with
  | zero => simp [setN]
  | succ n ih =>
    unfold setN
    refine Nat.or_lt_two_pow (Nat.lt_of_lt_of_le ih (Nat.pow_le_pow_right (by decide) (Nat.le_succ n))) ?_
    split
    · exact Nat.pow_lt_pow_right (by decide) (Nat.lt_succ_self n)
    · exact Nat.two_pow_pos _
theorem setN_bit (p : Nat → Bool) (i : Nat) : ∀ n, (setN n p).testBit i = (decide (i < n) && p i) := by
  intro n
  induction n with
  | zero => simp [setN]
  | succ n ih =>
    unfold setN
    rw [Nat.testBit_or, ih]
    by_cases hi : i = n
    · subst hi
      by_cases hp : p i = true
      · simp [hp, Nat.testBit_two_pow_self]
      · simp [hp]
    · by_cases hp : p n = true
      · simp only [hp, if_true]
        rw [Nat.testBit_two_pow_of_ne (Ne.symm hi)]
        have : (i < n + 1) = (i < n) := by
          apply propext; omega
        simp [this]
      · simp only [hp]
        have : (i < n + 1) = (i < n) := by
          apply propext; omega
        simp [this]
theorem nx_or (a b : Nat) : nI a ||| nI b = nI (a ||| b) := by
  apply Int32.toBitVec_inj.1
  show BitVec.ofNat 32 a ||| BitVec.ofNat 32 b = BitVec.ofNat 32 (a ||| b)
  apply BitVec.eq_of_getLsbD_eq
  intro i hi
  simp [hi]
theorem nx_and (a b : Nat) : nI a &&& nI b = nI (a &&& b) := by
  apply Int32.toBitVec_inj.1
  show BitVec.ofNat 32 a &&& BitVec.ofNat 32 b = BitVec.ofNat 32 (a &&& b)
  apply BitVec.eq_of_getLsbD_eq
  intro i hi
  simp [hi]
theorem nx_xor (a b : Nat) : nI a ^^^ nI b = nI (a ^^^ b) := by
  apply Int32.toBitVec_inj.1
  show BitVec.ofNat 32 a ^^^ BitVec.ofNat 32 b = BitVec.ofNat 32 (a ^^^ b)
  apply BitVec.eq_of_getLsbD_eq
  intro i hi
  simp [hi]
theorem one_shl : ∀ i, i < 31 → (1 : Int32) <<< (nI i &&& 31) = nI (2 ^ i) := by decide +kernel
theorem sh_smod : ∀ i, i < 32 → ((nI i &&& 31).toBitVec.smod 32).toNat = i := by decide +kernel
theorem shr_nI {m i : Nat} (hm : m < 2 ^ 31) (hi : i < 32) : nI m >>> (nI i &&& 31) = nI (m / 2 ^ i) := pk_shrN hm (nI i &&& 31) i (sh_smod i hi)
theorem and1 (n : Nat) : nI n &&& 1 = nI (n % 2) := by
  show nI n &&& nI 1 = _
  rw [nx_and, Nat.and_one_is_mod]
theorem bit_nI {m i : Nat} (hm : m < 2 ^ 31) (hi : i < 32) : bit (nI m) (nI i) = m.testBit i := by
  unfold bit
  rw [shr_nI hm hi, and1, Nat.testBit_eq_decide_div_mod_eq]
  have h2 := Nat.mod_two_eq_zero_or_one (m / 2 ^ i)
  rcases h2 with h | h
  · rw [h]; decide
  · rw [h]; decide
theorem set_t {p : Nat → Bool} {i : Nat} (hp : p i = true) (hi : i < 31) : nI (setN i p) ||| ((1 : Int32) <<< (nI i &&& 31)) = nI (setN (i + 1) p) := by
  rw [one_shl i hi, nx_or]
  simp [setN, hp]
theorem set_f {p : Nat → Bool} {i : Nat} (hp : ¬ p i = true) : setN (i + 1) p = setN i p := by simp [setN, hp]
theorem bc_pop2 : ∀ a, a < 64 → ∀ b, b < 64 → bc (nI (64 * a + b)) = nI (pop (64 * a + b)) := by decide +kernel
theorem bc_pop (x : Nat) (h : x < 4096) : bc (nI x) = nI (pop x) := by
  have := bc_pop2 (x / 64) (by omega) (x % 64) (by omega)
  rwa [Nat.div_add_mod] at this
theorem popN_le (n : Nat) : ∀ k, popN k n ≤ k := by
  intro k
  induction k with
  | zero => simp [popN]
  | succ k ih =>
    unfold popN
    have := Nat.mod_lt (n / 2 ^ k) (show 0 < 2 by decide)
    omega
theorem pop_le (n : Nat) : pop n ≤ 12 := popN_le n 12
theorem pI_inj {a b : Nat} (ha : a < 100) (hb : b < 100) : pI a = pI b ↔ a = b := by
  constructor
  · intro h
    have h2 : nI a = nI b := by
      have := congrArg (fun z => z + 1) h
      simpa [pI, Int32.sub_add_cancel] using this
    exact (nI_eq (by omega) (by omega)).mp h2
  · intro h; rw [h]
theorem pI_m1 {a : Nat} (ha : a < 100) : pI a = -1 ↔ a = 0 := pI_inj (b := 0) ha (by decide)
theorem pI_toInt {a : Nat} (ha : a < 100) : (pI a).toInt = (a : Int) - 1 := pk_sub_toInt (a := a) (b := 1) (by omega) (by decide)
theorem pI_ge4 {a : Nat} (ha : a < 100) : (4 : Int32) ≤ pI a ↔ 5 ≤ a := by
  rw [Int32.le_iff_toInt_le, pI_toInt ha]
  show (4 : Int) ≤ (a : Int) - 1 ↔ _
  omega
theorem pI_sub4 {a : Nat} (ha : 5 ≤ a) : pI a - 4 = nI (a - 5) := by
  obtain ⟨b, rfl⟩ : ∃ b, a = b + 5 := ⟨a - 5, by omega⟩
  unfold pI
  rw [show b + 5 - 5 = b by omega, ← nI_add b 5]
  rw [Int32.sub_sub]
  show nI b + nI 5 - nI 5 = nI b
  exact Int32.add_sub_cancel _ _
theorem pI_town (t : Nat) : pI (t + 1) = nI t := nI_pred t
