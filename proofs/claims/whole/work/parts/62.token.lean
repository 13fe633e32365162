/-! ===== the reader: tokens ===== -/
abbrev R0 : Nat := 8126469
abbrev X0 : Nat := 546705
def sgn (b : Nat) : Bool := [59, 40, 41, 43, 45, 42, 47, 60, 61].contains b
def kOf (b : Nat) : Nat := if 97 ≤ b ∧ b ≤ 122 then 1 else if 48 ≤ b ∧ b ≤ 57 then 2 else if sgn b = true then 3 else 4
def kI (x : Int32) : Int32 := if 97 ≤ x.toInt ∧ x.toInt ≤ 122 then 1 else if 48 ≤ x.toInt ∧ x.toInt ≤ 57 then 2 else if [40, 41, 42, 43, 45, 47, 59, 60, 61].contains x.toInt = true then 3 else 4
theorem kI_tb : ∀ b, b < 256 → kI (tb b) = nI (kOf b) := by decide +kernel
theorem tb32 : ∀ b, b < 256 → (tb b = 32 ↔ b = 32) := by decide +kernel
theorem tb10 : ∀ b, b < 256 → (tb b = 10 ↔ b = 10) := by decide +kernel
theorem tb_nI : ∀ b, b < 128 → tb b = nI b := by decide +kernel
theorem tb_eq : ∀ b, b < 256 → ∀ c, c < 128 → (tb b = nI c ↔ b = c) := by decide +kernel
theorem kOf_2 {b : Nat} (h : kOf b = 2) : 48 ≤ b ∧ b ≤ 57 := by
  unfold kOf at h
  split at h
  · cases h
  · split at h
    · assumption
    · split at h <;> cases h
theorem kOf_le (b : Nat) : 1 ≤ kOf b ∧ kOf b ≤ 4 := by
  unfold kOf
  split
  · decide
  · split
    · decide
    · split <;> decide
def skp (tx : Nat → Nat) : Nat → Nat → Nat
  | 0, e => e
  | n + 1, e => if tx e = 32 ∨ tx e = 10 then skp tx n (e + 1) else e
def run (tx : Nat → Nat) (k : Nat) : Nat → Nat → Nat
  | 0, e => e
  | n + 1, e => if kOf (tx e) = k then run tx k n (e + 1) else e
def numF (tx : Nat → Nat) (s : Nat) : Nat → Nat
  | 0 => 0
  | j + 1 => numF tx s j * 10 + tx (s + j) - 48
def num (tx : Nat → Nat) (s e : Nat) : Nat := if 4 < e - s then 10000 else numF tx s (e - s)
theorem numF_lt {tx : Nat → Nat} {s : Nat} : ∀ j, (∀ i, i < j → tx (s + i) ≤ 57) → numF tx s j + 1 ≤ 10 ^ j := by
  intro j
  induction j with
  | zero => intro _; exact Nat.le_refl _
  | succ j ih =>
    intro h
    have h1 := ih (fun i hi => h i (by omega))
    have h2 := h j (by omega)
    simp only [numF, Nat.pow_succ]
    omega
theorem skp_ge (tx : Nat → Nat) : ∀ n e, e ≤ skp tx n e ∧ skp tx n e ≤ e + n := by
  intro n
  induction n with
  | zero => intro e; exact ⟨Nat.le_refl _, Nat.le_refl _⟩
  | succ n ih =>
    intro e
    simp only [skp]
    split
    · have := ih (e + 1); omega
    · omega
theorem run_ge (tx : Nat → Nat) (k : Nat) : ∀ n e, e ≤ run tx k n e ∧ run tx k n e ≤ e + n ∧ ∀ j, e ≤ j → j < run tx k n e → kOf (tx j) = k := by
  intro n
  induction n with
  | zero => intro e; exact ⟨Nat.le_refl _, Nat.le_refl _, fun j h1 h2 => by simp only [run] at h2; omega⟩
  | succ n ih =>
    intro e
    simp only [run]
    split
    · rename_i hk
      have := ih (e + 1)
      refine ⟨by omega, by omega, fun j h1 h2 => ?_⟩
      rcases Nat.lt_or_ge e j with z | z
      · exact this.2.2 j z h2
      · rw [show j = e by omega]; exact hk
    · exact ⟨Nat.le_refl _, by omega, fun j h1 h2 => by omega⟩
/-- what the reader knows of its token: fault, its place, kind, start, end, number -/
abbrev RS : Type := Nat × Int32 × Nat × Nat × Nat × Nat
def RpR (σ : PH) (z f : Nat) (p : Int32) (k s e n : Nat) : Prop := hI σ R0 0 = nI f ∧ hI σ R0 1 = p ∧ hI σ R0 3 = nI z ∧ hI σ R0 7 = nI k ∧ hI σ R0 8 = nI s ∧ hI σ R0 9 = nI e ∧ hI σ R0 10 = nI n
def RpS (σ : PH) (z : Nat) (S : RS) : Prop := RpR σ z S.1 S.2.1 S.2.2.1 S.2.2.2.1 S.2.2.2.2.1 S.2.2.2.2.2
def OkR (z : Nat) (S : RS) : Prop := S.1 ≤ 5 ∧ S.2.2.1 ≤ 4 ∧ S.2.2.2.1 ≤ z ∧ S.2.2.2.2.1 ≤ z ∧ (S.2.2.1 = 2 → S.2.2.2.2.2 ≤ 10000) ∧ (S.2.2.1 ≠ 0 → S.2.2.2.1 < S.2.2.2.2.1)
def adv (tx : Nat → Nat) (z : Nat) (S : RS) : RS :=
  let s := skp tx (z - S.2.2.2.2.1) S.2.2.2.2.1
  if z ≤ s then (S.1, S.2.1, 0, s, s, S.2.2.2.2.2)
  else
    let e := if kOf (tx s) = 1 ∨ kOf (tx s) = 2 then run tx (kOf (tx s)) (z - (s + 1)) (s + 1) else s + 1
    (S.1, S.2.1, kOf (tx s), s, e, if kOf (tx s) = 2 then num tx s e else S.2.2.2.2.2)
theorem num_le {tx : Nat → Nat} {s e : Nat} (h : ∀ j, s ≤ j → j < e → kOf (tx j) = 2) : num tx s e ≤ 10000 := by
  unfold num
  split
  · exact Nat.le_refl _
  · rename_i hh
    have h1 := numF_lt (tx := tx) (s := s) (e - s) (fun i hi => (kOf_2 (h (s + i) (by omega) (by omega))).2)
    have h2 : 10 ^ (e - s) ≤ 10 ^ 4 := Nat.pow_le_pow_right (by decide) (by omega)
    have h3 : (10 : Nat) ^ 4 = 10000 := by decide
    omega
theorem adv_ok2 {tx : Nat → Nat} {z : Nat} {S : RS} (h1 : S.1 ≤ 5) (h4 : S.2.2.2.2.1 ≤ z) : OkR z (adv tx z S) := by
  have hs := skp_ge tx (z - S.2.2.2.2.1) S.2.2.2.2.1
  have hk := kOf_le (tx (skp tx (z - S.2.2.2.2.1) S.2.2.2.2.1))
  have hr := run_ge tx (kOf (tx (skp tx (z - S.2.2.2.2.1) S.2.2.2.2.1))) (z - (skp tx (z - S.2.2.2.2.1) S.2.2.2.2.1 + 1)) (skp tx (z - S.2.2.2.2.1) S.2.2.2.2.1 + 1)
  unfold adv OkR
  generalize skp tx (z - S.2.2.2.2.1) S.2.2.2.2.1 = s at *
  simp only []
  split
  · exact ⟨h1, by simp, by simp; omega, by simp; omega, fun q => by simp at q, fun q => absurd rfl q⟩
  · refine ⟨h1, hk.2, by simp; omega, ?_, ?_, fun _ => ?_⟩
    · simp only []; split <;> omega
    · simp only []
      intro h22
      rw [if_pos h22, if_pos (Or.inr h22)]
      refine num_le (fun j q1 q2 => ?_)
      rcases Nat.lt_or_ge s j with w | w
      · rw [hr.2.2 j w q2, h22]
      · rw [show j = s by omega, h22]
    · simp only []; split <;> omega
theorem adv_ok {tx : Nat → Nat} {z : Nat} {S : RS} (h : OkR z S) : OkR z (adv tx z S) := adv_ok2 h.1 h.2.2.2.1
def TX (σ : PH) (tx : Nat → Nat) (z : Nat) : Prop := hR σ R0 2 = X0 ∧ z ≤ 700 ∧ (∀ i, tx i < 256) ∧ ∀ i, i < z → hA σ X0 i = tb (tx i)
theorem TX.ch {σ σ' : PH} {tx : Nat → Nat} {z : Nat} {S : List Nat} (h : TX σ tx z) (hc : Ch (inS S) σ σ') (h2 : S.contains 2 = false) : TX σ' tx z :=
  ⟨(hc.2.2.2.1 _ _ (by decide)).trans h.1, h.2.1, h.2.2.1, fun i hi => by rw [(hc.2.2.2.2 X0 h2).2.1]; exact h.2.2.2 i hi⟩
def Cr (σ σ' : PH) : Prop := Ch (inS [31]) σ σ' ∧ hI σ' R0 6 = hI σ R0 6 ∧ hR σ' = hR σ
theorem Cr.rf {σ : PH} : Cr σ σ := ⟨Ch.rf, rfl, rfl⟩
theorem Cr.tr {σ σ1 σ2 : PH} (h : Cr σ σ1) (g : Cr σ1 σ2) : Cr σ σ2 := ⟨h.1.tr g.1, g.2.1.trans h.2.1, g.2.2.trans h.2.2⟩
theorem TX.cr {σ σ' : PH} {tx : Nat → Nat} {z : Nat} (h : TX σ tx z) (hc : Cr σ σ') : TX σ' tx z := h.ch hc.1 rfl
theorem chR0 (σ : PH) (k : Nat) (v : Int32) : Ch (inS [31]) σ (sI σ R0 k v) := Fr.ch (XI := [(R0, k)]) (X := []) (Fr.sI (by simp)) (by simp only [List.all_cons, List.all_nil, Bool.and_true]; decide) rfl
theorem chR (σ : PH) (k : Nat) (v : Int32) (hk : k ≠ 6 := by decide) : Cr σ (sI σ R0 k v) := ⟨chR0 σ k v, hI_sIo (by intro q; cases q; exact hk rfl), rfl⟩
theorem RpR.f {σ : PH} {z f k s e n : Nat} {p : Int32} (h : RpR σ z f p k s e n) (f' : Nat) : RpR (sI σ R0 0 (nI f')) z f' p k s e n := ⟨hI_sI _ _ _ _, (hI_sIo (by intro q; cases q)).trans h.2.1, (hI_sIo (by intro q; cases q)).trans h.2.2.1, (hI_sIo (by intro q; cases q)).trans h.2.2.2.1, (hI_sIo (by intro q; cases q)).trans h.2.2.2.2.1, (hI_sIo (by intro q; cases q)).trans h.2.2.2.2.2.1, (hI_sIo (by intro q; cases q)).trans h.2.2.2.2.2.2⟩
theorem RpR.p {σ : PH} {z f k s e n : Nat} {p : Int32} (h : RpR σ z f p k s e n) (p' : Int32) : RpR (sI σ R0 1 p') z f p' k s e n := ⟨(hI_sIo (by intro q; cases q)).trans h.1, hI_sI _ _ _ _, (hI_sIo (by intro q; cases q)).trans h.2.2.1, (hI_sIo (by intro q; cases q)).trans h.2.2.2.1, (hI_sIo (by intro q; cases q)).trans h.2.2.2.2.1, (hI_sIo (by intro q; cases q)).trans h.2.2.2.2.2.1, (hI_sIo (by intro q; cases q)).trans h.2.2.2.2.2.2⟩
theorem RpR.z {σ : PH} {z f k s e n : Nat} {p : Int32} (h : RpR σ z f p k s e n) (z' : Nat) : RpR (sI σ R0 3 (nI z')) z' f p k s e n := ⟨(hI_sIo (by intro q; cases q)).trans h.1, (hI_sIo (by intro q; cases q)).trans h.2.1, hI_sI _ _ _ _, (hI_sIo (by intro q; cases q)).trans h.2.2.2.1, (hI_sIo (by intro q; cases q)).trans h.2.2.2.2.1, (hI_sIo (by intro q; cases q)).trans h.2.2.2.2.2.1, (hI_sIo (by intro q; cases q)).trans h.2.2.2.2.2.2⟩
theorem RpR.k {σ : PH} {z f k s e n : Nat} {p : Int32} (h : RpR σ z f p k s e n) (k' : Nat) : RpR (sI σ R0 7 (nI k')) z f p k' s e n := ⟨(hI_sIo (by intro q; cases q)).trans h.1, (hI_sIo (by intro q; cases q)).trans h.2.1, (hI_sIo (by intro q; cases q)).trans h.2.2.1, hI_sI _ _ _ _, (hI_sIo (by intro q; cases q)).trans h.2.2.2.2.1, (hI_sIo (by intro q; cases q)).trans h.2.2.2.2.2.1, (hI_sIo (by intro q; cases q)).trans h.2.2.2.2.2.2⟩
theorem RpR.s {σ : PH} {z f k s e n : Nat} {p : Int32} (h : RpR σ z f p k s e n) (s' : Nat) : RpR (sI σ R0 8 (nI s')) z f p k s' e n := ⟨(hI_sIo (by intro q; cases q)).trans h.1, (hI_sIo (by intro q; cases q)).trans h.2.1, (hI_sIo (by intro q; cases q)).trans h.2.2.1, (hI_sIo (by intro q; cases q)).trans h.2.2.2.1, hI_sI _ _ _ _, (hI_sIo (by intro q; cases q)).trans h.2.2.2.2.2.1, (hI_sIo (by intro q; cases q)).trans h.2.2.2.2.2.2⟩
theorem RpR.e {σ : PH} {z f k s e n : Nat} {p : Int32} (h : RpR σ z f p k s e n) (e' : Nat) : RpR (sI σ R0 9 (nI e')) z f p k s e' n := ⟨(hI_sIo (by intro q; cases q)).trans h.1, (hI_sIo (by intro q; cases q)).trans h.2.1, (hI_sIo (by intro q; cases q)).trans h.2.2.1, (hI_sIo (by intro q; cases q)).trans h.2.2.2.1, (hI_sIo (by intro q; cases q)).trans h.2.2.2.2.1, hI_sI _ _ _ _, (hI_sIo (by intro q; cases q)).trans h.2.2.2.2.2.2⟩
theorem RpR.n {σ : PH} {z f k s e n : Nat} {p : Int32} (h : RpR σ z f p k s e n) (n' : Nat) : RpR (sI σ R0 10 (nI n')) z f p k s e n' := ⟨(hI_sIo (by intro q; cases q)).trans h.1, (hI_sIo (by intro q; cases q)).trans h.2.1, (hI_sIo (by intro q; cases q)).trans h.2.2.1, (hI_sIo (by intro q; cases q)).trans h.2.2.2.1, (hI_sIo (by intro q; cases q)).trans h.2.2.2.2.1, (hI_sIo (by intro q; cases q)).trans h.2.2.2.2.2.1, hI_sI _ _ _ _⟩
section C62
variable {Γ : Gm} {σ : PH}

theorem swk (x : Int32) : x = 40 ∨ x = 41 ∨ x = 42 ∨ x = 43 ∨ x = 44 ∨ x = 45 ∨ x = 46 ∨ x = 47 ∨ x = 48 ∨ x = 49 ∨ x = 50 ∨ x = 51 ∨ x = 52 ∨ x = 53 ∨ x = 54 ∨ x = 55 ∨ x = 56 ∨ x = 57 ∨ x = 58 ∨ x = 59 ∨ x = 60 ∨ x = 61 ∨ (x.toInt < 40 ∨ 61 < x.toInt) := by
  by_cases h0 : x.toInt = 40
  · exact Or.inl (Int32.toInt_inj.mp (h0.trans (by decide)))
  by_cases h1 : x.toInt = 41
  · exact Or.inr (Or.inl (Int32.toInt_inj.mp (h1.trans (by decide))))
  by_cases h2 : x.toInt = 42
  · exact Or.inr (Or.inr (Or.inl (Int32.toInt_inj.mp (h2.trans (by decide)))))
  by_cases h3 : x.toInt = 43
  · exact Or.inr (Or.inr (Or.inr (Or.inl (Int32.toInt_inj.mp (h3.trans (by decide))))))
  by_cases h4 : x.toInt = 44
  · exact Or.inr (Or.inr (Or.inr (Or.inr (Or.inl (Int32.toInt_inj.mp (h4.trans (by decide)))))))
  by_cases h5 : x.toInt = 45
  · exact Or.inr (Or.inr (Or.inr (Or.inr (Or.inr (Or.inl (Int32.toInt_inj.mp (h5.trans (by decide))))))))
  by_cases h6 : x.toInt = 46
  · exact Or.inr (Or.inr (Or.inr (Or.inr (Or.inr (Or.inr (Or.inl (Int32.toInt_inj.mp (h6.trans (by decide)))))))))
  by_cases h7 : x.toInt = 47
  · exact Or.inr (Or.inr (Or.inr (Or.inr (Or.inr (Or.inr (Or.inr (Or.inl (Int32.toInt_inj.mp (h7.trans (by decide))))))))))
  by_cases h8 : x.toInt = 48
  · exact Or.inr (Or.inr (Or.inr (Or.inr (Or.inr (Or.inr (Or.inr (Or.inr (Or.inl (Int32.toInt_inj.mp (h8.trans (by decide)))))))))))
  by_cases h9 : x.toInt = 49
  · exact Or.inr (Or.inr (Or.inr (Or.inr (Or.inr (Or.inr (Or.inr (Or.inr (Or.inr (Or.inl (Int32.toInt_inj.mp (h9.trans (by decide))))))))))))
  by_cases h10 : x.toInt = 50
  · exact Or.inr (Or.inr (Or.inr (Or.inr (Or.inr (Or.inr (Or.inr (Or.inr (Or.inr (Or.inr (Or.inl (Int32.toInt_inj.mp (h10.trans (by decide)))))))))))))
  by_cases h11 : x.toInt = 51
  · exact Or.inr (Or.inr (Or.inr (Or.inr (Or.inr (Or.inr (Or.inr (Or.inr (Or.inr (Or.inr (Or.inr (Or.inl (Int32.toInt_inj.mp (h11.trans (by decide))))))))))))))
  by_cases h12 : x.toInt = 52
  · exact Or.inr (Or.inr (Or.inr (Or.inr (Or.inr (Or.inr (Or.inr (Or.inr (Or.inr (Or.inr (Or.inr (Or.inr (Or.inl (Int32.toInt_inj.mp (h12.trans (by decide)))))))))))))))
  by_cases h13 : x.toInt = 53
  · exact Or.inr (Or.inr (Or.inr (Or.inr (Or.inr (Or.inr (Or.inr (Or.inr (Or.inr (Or.inr (Or.inr (Or.inr (Or.inr (Or.inl (Int32.toInt_inj.mp (h13.trans (by decide))))))))))))))))
  by_cases h14 : x.toInt = 54
  · exact Or.inr (Or.inr (Or.inr (Or.inr (Or.inr (Or.inr (Or.inr (Or.inr (Or.inr (Or.inr (Or.inr (Or.inr (Or.inr (Or.inr (Or.inl (Int32.toInt_inj.mp (h14.trans (by decide)))))))))))))))))
  by_cases h15 : x.toInt = 55
  · exact Or.inr (Or.inr (Or.inr (Or.inr (Or.inr (Or.inr (Or.inr (Or.inr (Or.inr (Or.inr (Or.inr (Or.inr (Or.inr (Or.inr (Or.inr (Or.inl (Int32.toInt_inj.mp (h15.trans (by decide))))))))))))))))))
  by_cases h16 : x.toInt = 56
  · exact Or.inr (Or.inr (Or.inr (Or.inr (Or.inr (Or.inr (Or.inr (Or.inr (Or.inr (Or.inr (Or.inr (Or.inr (Or.inr (Or.inr (Or.inr (Or.inr (Or.inl (Int32.toInt_inj.mp (h16.trans (by decide)))))))))))))))))))
  by_cases h17 : x.toInt = 57
  · exact Or.inr (Or.inr (Or.inr (Or.inr (Or.inr (Or.inr (Or.inr (Or.inr (Or.inr (Or.inr (Or.inr (Or.inr (Or.inr (Or.inr (Or.inr (Or.inr (Or.inr (Or.inl (Int32.toInt_inj.mp (h17.trans (by decide))))))))))))))))))))
  by_cases h18 : x.toInt = 58
  · exact Or.inr (Or.inr (Or.inr (Or.inr (Or.inr (Or.inr (Or.inr (Or.inr (Or.inr (Or.inr (Or.inr (Or.inr (Or.inr (Or.inr (Or.inr (Or.inr (Or.inr (Or.inr (Or.inl (Int32.toInt_inj.mp (h18.trans (by decide)))))))))))))))))))))
  by_cases h19 : x.toInt = 59
  · exact Or.inr (Or.inr (Or.inr (Or.inr (Or.inr (Or.inr (Or.inr (Or.inr (Or.inr (Or.inr (Or.inr (Or.inr (Or.inr (Or.inr (Or.inr (Or.inr (Or.inr (Or.inr (Or.inr (Or.inl (Int32.toInt_inj.mp (h19.trans (by decide))))))))))))))))))))))
  by_cases h20 : x.toInt = 60
  · exact Or.inr (Or.inr (Or.inr (Or.inr (Or.inr (Or.inr (Or.inr (Or.inr (Or.inr (Or.inr (Or.inr (Or.inr (Or.inr (Or.inr (Or.inr (Or.inr (Or.inr (Or.inr (Or.inr (Or.inr (Or.inl (Int32.toInt_inj.mp (h20.trans (by decide)))))))))))))))))))))))
  by_cases h21 : x.toInt = 61
  · exact Or.inr (Or.inr (Or.inr (Or.inr (Or.inr (Or.inr (Or.inr (Or.inr (Or.inr (Or.inr (Or.inr (Or.inr (Or.inr (Or.inr (Or.inr (Or.inr (Or.inr (Or.inr (Or.inr (Or.inr (Or.inr (Or.inl (Int32.toInt_inj.mp (h21.trans (by decide))))))))))))))))))))))))
  exact Or.inr (Or.inr (Or.inr (Or.inr (Or.inr (Or.inr (Or.inr (Or.inr (Or.inr (Or.inr (Or.inr (Or.inr (Or.inr (Or.inr (Or.inr (Or.inr (Or.inr (Or.inr (Or.inr (Or.inr (Or.inr (Or.inr (by omega))))))))))))))))))))))
theorem kI_4 {x : Int32} (h1 : ¬ (97 ≤ x.toInt ∧ x.toInt ≤ 122)) (h2 : ¬ (48 ≤ x.toInt ∧ x.toInt ≤ 57)) (h3 : x.toInt < 40 ∨ 61 < x.toInt) : kI x = 4 := by
  unfold kI
  rw [if_neg h1, if_neg h2, if_neg]
  simp only [List.contains_eq_mem, List.mem_cons, List.not_mem_nil, or_false, decide_eq_true_eq]
  omega
set_option maxRecDepth 4000 in
theorem l_kind28 {x : Int32} (hL : ¬ (97 ≤ x.toInt ∧ x.toInt ≤ 122)) (hD : ¬ (48 ≤ x.toInt ∧ x.toInt ≤ 57)) : Ok Γ 1 0 0 mX5_kindOf 28 [some (.int x)] [] σ (rI σ (kI x)) := by
  refine p_iload_n 0 29 rfl rfl dX5_kindOf_28 rfl ?_
  rcases swk x with hs29 | hs29 | hs29 | hs29 | hs29 | hs29 | hs29 | hs29 | hs29 | hs29 | hs29 | hs29 | hs29 | hs29 | hs29 | hs29 | hs29 | hs29 | hs29 | hs29 | hs29 | hs29 | hs29
  · subst hs29
    refine p_tswIn (off := 103) 132 rfl dX5_kindOf_29 (by decide) (by decide) rfl ?_
    refine p_iconst (3) 133 rfl dX5_kindOf_132 rfl ?_
    exact p_iret dX5_kindOf_133 rfl ⟨by rw [show kI 40 = 3 by decide], rfl⟩
  · subst hs29
    refine p_tswIn (off := 103) 132 rfl dX5_kindOf_29 (by decide) (by decide) rfl ?_
    refine p_iconst (3) 133 rfl dX5_kindOf_132 rfl ?_
    exact p_iret dX5_kindOf_133 rfl ⟨by rw [show kI 41 = 3 by decide], rfl⟩
  · subst hs29
    refine p_tswIn (off := 103) 132 rfl dX5_kindOf_29 (by decide) (by decide) rfl ?_
    refine p_iconst (3) 133 rfl dX5_kindOf_132 rfl ?_
    exact p_iret dX5_kindOf_133 rfl ⟨by rw [show kI 42 = 3 by decide], rfl⟩
  · subst hs29
    refine p_tswIn (off := 103) 132 rfl dX5_kindOf_29 (by decide) (by decide) rfl ?_
    refine p_iconst (3) 133 rfl dX5_kindOf_132 rfl ?_
    exact p_iret dX5_kindOf_133 rfl ⟨by rw [show kI 43 = 3 by decide], rfl⟩
  · subst hs29
    refine p_tswIn (off := 105) 134 rfl dX5_kindOf_29 (by decide) (by decide) rfl ?_
    refine p_iconst (4) 135 rfl dX5_kindOf_134 rfl ?_
    exact p_iret dX5_kindOf_135 rfl ⟨by rw [show kI 44 = 4 by decide], rfl⟩
  · subst hs29
    refine p_tswIn (off := 103) 132 rfl dX5_kindOf_29 (by decide) (by decide) rfl ?_
    refine p_iconst (3) 133 rfl dX5_kindOf_132 rfl ?_
    exact p_iret dX5_kindOf_133 rfl ⟨by rw [show kI 45 = 3 by decide], rfl⟩
  · subst hs29
    refine p_tswIn (off := 105) 134 rfl dX5_kindOf_29 (by decide) (by decide) rfl ?_
    refine p_iconst (4) 135 rfl dX5_kindOf_134 rfl ?_
    exact p_iret dX5_kindOf_135 rfl ⟨by rw [show kI 46 = 4 by decide], rfl⟩
  · subst hs29
    refine p_tswIn (off := 103) 132 rfl dX5_kindOf_29 (by decide) (by decide) rfl ?_
    refine p_iconst (3) 133 rfl dX5_kindOf_132 rfl ?_
    exact p_iret dX5_kindOf_133 rfl ⟨by rw [show kI 47 = 3 by decide], rfl⟩
  · subst hs29
    refine p_tswIn (off := 105) 134 rfl dX5_kindOf_29 (by decide) (by decide) rfl ?_
    refine p_iconst (4) 135 rfl dX5_kindOf_134 rfl ?_
    exact p_iret dX5_kindOf_135 rfl ⟨absurd (by decide) hD, rfl⟩
  · subst hs29
    refine p_tswIn (off := 105) 134 rfl dX5_kindOf_29 (by decide) (by decide) rfl ?_
    refine p_iconst (4) 135 rfl dX5_kindOf_134 rfl ?_
    exact p_iret dX5_kindOf_135 rfl ⟨absurd (by decide) hD, rfl⟩
  · subst hs29
    refine p_tswIn (off := 105) 134 rfl dX5_kindOf_29 (by decide) (by decide) rfl ?_
    refine p_iconst (4) 135 rfl dX5_kindOf_134 rfl ?_
    exact p_iret dX5_kindOf_135 rfl ⟨absurd (by decide) hD, rfl⟩
  · subst hs29
    refine p_tswIn (off := 105) 134 rfl dX5_kindOf_29 (by decide) (by decide) rfl ?_
    refine p_iconst (4) 135 rfl dX5_kindOf_134 rfl ?_
    exact p_iret dX5_kindOf_135 rfl ⟨absurd (by decide) hD, rfl⟩
  · subst hs29
    refine p_tswIn (off := 105) 134 rfl dX5_kindOf_29 (by decide) (by decide) rfl ?_
    refine p_iconst (4) 135 rfl dX5_kindOf_134 rfl ?_
    exact p_iret dX5_kindOf_135 rfl ⟨absurd (by decide) hD, rfl⟩
  · subst hs29
    refine p_tswIn (off := 105) 134 rfl dX5_kindOf_29 (by decide) (by decide) rfl ?_
    refine p_iconst (4) 135 rfl dX5_kindOf_134 rfl ?_
    exact p_iret dX5_kindOf_135 rfl ⟨absurd (by decide) hD, rfl⟩
  · subst hs29
    refine p_tswIn (off := 105) 134 rfl dX5_kindOf_29 (by decide) (by decide) rfl ?_
    refine p_iconst (4) 135 rfl dX5_kindOf_134 rfl ?_
    exact p_iret dX5_kindOf_135 rfl ⟨absurd (by decide) hD, rfl⟩
  · subst hs29
    refine p_tswIn (off := 105) 134 rfl dX5_kindOf_29 (by decide) (by decide) rfl ?_
    refine p_iconst (4) 135 rfl dX5_kindOf_134 rfl ?_
    exact p_iret dX5_kindOf_135 rfl ⟨absurd (by decide) hD, rfl⟩
  · subst hs29
    refine p_tswIn (off := 105) 134 rfl dX5_kindOf_29 (by decide) (by decide) rfl ?_
    refine p_iconst (4) 135 rfl dX5_kindOf_134 rfl ?_
    exact p_iret dX5_kindOf_135 rfl ⟨absurd (by decide) hD, rfl⟩
  · subst hs29
    refine p_tswIn (off := 105) 134 rfl dX5_kindOf_29 (by decide) (by decide) rfl ?_
    refine p_iconst (4) 135 rfl dX5_kindOf_134 rfl ?_
    exact p_iret dX5_kindOf_135 rfl ⟨absurd (by decide) hD, rfl⟩
  · subst hs29
    refine p_tswIn (off := 105) 134 rfl dX5_kindOf_29 (by decide) (by decide) rfl ?_
    refine p_iconst (4) 135 rfl dX5_kindOf_134 rfl ?_
    exact p_iret dX5_kindOf_135 rfl ⟨by rw [show kI 58 = 4 by decide], rfl⟩
  · subst hs29
    refine p_tswIn (off := 103) 132 rfl dX5_kindOf_29 (by decide) (by decide) rfl ?_
    refine p_iconst (3) 133 rfl dX5_kindOf_132 rfl ?_
    exact p_iret dX5_kindOf_133 rfl ⟨by rw [show kI 59 = 3 by decide], rfl⟩
  · subst hs29
    refine p_tswIn (off := 103) 132 rfl dX5_kindOf_29 (by decide) (by decide) rfl ?_
    refine p_iconst (3) 133 rfl dX5_kindOf_132 rfl ?_
    exact p_iret dX5_kindOf_133 rfl ⟨by rw [show kI 60 = 3 by decide], rfl⟩
  · subst hs29
    refine p_tswIn (off := 103) 132 rfl dX5_kindOf_29 (by decide) (by decide) rfl ?_
    refine p_iconst (3) 133 rfl dX5_kindOf_132 rfl ?_
    exact p_iret dX5_kindOf_133 rfl ⟨by rw [show kI 61 = 3 by decide], rfl⟩
  · refine p_tswOut 134 rfl dX5_kindOf_29 hs29 ?_
    refine p_iconst (4) 135 rfl dX5_kindOf_134 rfl ?_
    exact p_iret dX5_kindOf_135 rfl ⟨by rw [kI_4 hL hD (Or.elim hs29 (fun q => Or.inl q) (fun q => Or.inr q))], rfl⟩
set_option maxRecDepth 4000 in
theorem c_kindI (x : Int32) : CallOk Γ 1 0 0 mX5_kindOf [.int x] σ (rI σ (kI x)) := by
  refine p_enter rfl rfl (Nat.le_of_ble_eq_true rfl) rfl ?_
  refine p_iload_n 0 1 rfl rfl dX5_kindOf_0 rfl ?_
  refine p_bipush (97) 3 rfl dX5_kindOf_1 rfl ?_
  refine p_icmp_lt 14 6 rfl rfl dX5_kindOf_3 (fun h3 => ?_) (fun h3 => ?_)
  · refine p_iload_n 0 15 rfl rfl dX5_kindOf_14 rfl ?_
    refine p_bipush (48) 17 rfl dX5_kindOf_15 rfl ?_
    refine p_icmp_lt 28 20 rfl rfl dX5_kindOf_17 (fun h17 => ?_) (fun h17 => ?_)
    · exact l_kind28 (by have q := Int32.lt_iff_toInt_lt.mp h3; rw [show (97 : Int32).toInt = 97 from rfl] at q; omega) (by have q := Int32.lt_iff_toInt_lt.mp h17; rw [show (48 : Int32).toInt = 48 from rfl] at q; omega)
    · refine p_iload_n 0 21 rfl rfl dX5_kindOf_20 rfl ?_
      refine p_bipush (57) 23 rfl dX5_kindOf_21 rfl ?_
      refine p_icmp_gt 28 26 rfl rfl dX5_kindOf_23 (fun h23 => ?_) (fun h23 => ?_)
      · exact l_kind28 (by have q := Int32.lt_iff_toInt_lt.mp h3; rw [show (97 : Int32).toInt = 97 from rfl] at q; omega) (by have q := Int32.lt_iff_toInt_lt.mp h23; rw [show (57 : Int32).toInt = 57 from rfl] at q; omega)
      · refine p_iconst (2) 27 rfl dX5_kindOf_26 rfl ?_
        exact p_iret dX5_kindOf_27 rfl ⟨by have q1 := Int32.le_iff_toInt_le.mp (Int32.not_lt.mp h17); have q2 := Int32.le_iff_toInt_le.mp (Int32.not_lt.mp h23); rw [show (48 : Int32).toInt = 48 from rfl] at q1; rw [show (57 : Int32).toInt = 57 from rfl] at q2; rw [kI, if_neg (by omega), if_pos ⟨q1, q2⟩], rfl⟩
  · refine p_iload_n 0 7 rfl rfl dX5_kindOf_6 rfl ?_
    refine p_bipush (122) 9 rfl dX5_kindOf_7 rfl ?_
    refine p_icmp_gt 14 12 rfl rfl dX5_kindOf_9 (fun h9 => ?_) (fun h9 => ?_)
    · refine p_iload_n 0 15 rfl rfl dX5_kindOf_14 rfl ?_
      refine p_bipush (48) 17 rfl dX5_kindOf_15 rfl ?_
      refine p_icmp_lt 28 20 rfl rfl dX5_kindOf_17 (fun h17 => ?_) (fun h17 => ?_)
      · exact l_kind28 (by have q := Int32.lt_iff_toInt_lt.mp h9; rw [show (122 : Int32).toInt = 122 from rfl] at q; omega) (by have q := Int32.lt_iff_toInt_lt.mp h17; rw [show (48 : Int32).toInt = 48 from rfl] at q; omega)
      · refine p_iload_n 0 21 rfl rfl dX5_kindOf_20 rfl ?_
        refine p_bipush (57) 23 rfl dX5_kindOf_21 rfl ?_
        refine p_icmp_gt 28 26 rfl rfl dX5_kindOf_23 (fun h23 => ?_) (fun h23 => ?_)
        · exact l_kind28 (by have q := Int32.lt_iff_toInt_lt.mp h9; rw [show (122 : Int32).toInt = 122 from rfl] at q; omega) (by have q := Int32.lt_iff_toInt_lt.mp h23; rw [show (57 : Int32).toInt = 57 from rfl] at q; omega)
        · refine p_iconst (2) 27 rfl dX5_kindOf_26 rfl ?_
          exact p_iret dX5_kindOf_27 rfl ⟨by have q1 := Int32.le_iff_toInt_le.mp (Int32.not_lt.mp h17); have q2 := Int32.le_iff_toInt_le.mp (Int32.not_lt.mp h23); rw [show (48 : Int32).toInt = 48 from rfl] at q1; rw [show (57 : Int32).toInt = 57 from rfl] at q2; rw [kI, if_neg (by omega), if_pos ⟨q1, q2⟩], rfl⟩
    · refine p_iconst (1) 13 rfl dX5_kindOf_12 rfl ?_
      exact p_iret dX5_kindOf_13 rfl ⟨by have q1 := Int32.le_iff_toInt_le.mp (Int32.not_lt.mp h3); have q2 := Int32.le_iff_toInt_le.mp (Int32.not_lt.mp h9); rw [show (97 : Int32).toInt = 97 from rfl] at q1; rw [show (122 : Int32).toInt = 122 from rfl] at q2; rw [kI, if_pos ⟨q1, q2⟩], rfl⟩
theorem c_kindOf {b : Nat} (h : b < 256) : CallOk Γ 1 0 0 mX5_kindOf [.int (tb b)] σ (rI σ (nI (kOf b))) := by
  rw [← kI_tb b h]; exact c_kindI _
theorem nI_mu (a b : Nat) : nI a * nI b = nI (a * b) := (Int32.ofNat_mul a b).symm
theorem num_step {tx : Nat → Nat} {s j : Nat} (h : 48 ≤ tx (s + j) ∧ tx (s + j) ≤ 57) : nI (numF tx s j) * 10 + tb (tx (s + j)) - 48 = nI (numF tx s (j + 1)) := by
  rw [tb_nI _ (by omega), show (10 : Int32) = nI 10 from rfl, show (48 : Int32) = nI 48 from rfl, nI_mu, nI_add, nI_sb (by omega)]
  rfl
set_option maxRecDepth 4000 in
theorem l_num {tx : Nat → Nat} {z f k s e n : Nat} {p : Int32} (hr : RpR σ z f p k s e n) (hX : TX σ tx z) (hse : s ≤ e) (hez : e ≤ z) (hd : ∀ j, s ≤ j → j < e → kOf (tx j) = 2) (h4 : e - s ≤ 4) : ∀ (m j : Nat), s + j + m = e → Ok Γ 1 0 0 mX5_numberThere 24 [some (.ref R0), some (.int (nI (numF tx s j))), some (.int (nI (s + j)))] [] σ (rI σ (nI (num tx s e))) := by
  have hz := hX.2.1
  intro m
  induction m with
  | zero =>
    intro j hj
    refine p_iload_n 2 25 rfl rfl dX5_numberThere_24 rfl ?_
    refine p_aload_n 0 26 rfl rfl dX5_numberThere_25 rfl ?_
    refine p_getIE 5 9 29 rfl dX5_numberThere_26 fl_X5_31 rfl rfl (show hI σ R0 9 = nI e from hr.2.2.2.2.2.1) ?_
    refine p_icmp_ge 53 32 rfl rfl dX5_numberThere_29 (fun h29 => ?_) (fun h29 => absurd (nI_le (a := e) (b := s + j) (by omega) (by omega)) h29)
    refine p_iload_n 1 54 rfl rfl dX5_numberThere_53 rfl ?_
    exact p_iret dX5_numberThere_54 rfl ⟨by rw [num, if_neg (by omega), show e - s = j by omega], rfl⟩
  | succ m ih =>
    intro j hj
    refine p_iload_n 2 25 rfl rfl dX5_numberThere_24 rfl ?_
    refine p_aload_n 0 26 rfl rfl dX5_numberThere_25 rfl ?_
    refine p_getIE 5 9 29 rfl dX5_numberThere_26 fl_X5_31 rfl rfl (show hI σ R0 9 = nI e from hr.2.2.2.2.2.1) ?_
    refine p_icmp_ge 53 32 rfl rfl dX5_numberThere_29 (fun h29 => absurd h29 (nI_ge (a := s + j) (b := e) (by omega) (by omega))) (fun h29 => ?_)
    refine p_iload_n 1 33 rfl rfl dX5_numberThere_32 rfl ?_
    refine p_bipush (10) 35 rfl dX5_numberThere_33 rfl ?_
    refine p_imul 36 rfl dX5_numberThere_35 ?_
    refine p_aload_n 0 37 rfl rfl dX5_numberThere_36 rfl ?_
    refine p_getR 5 2 40 rfl dX5_numberThere_37 fl_X5_37 rfl rfl hX.1 (by decide) ?_
    refine p_iload_n 2 41 rfl rfl dX5_numberThere_40 rfl ?_
    refine p_baldE 42 rfl dX5_numberThere_41 (i := s + j) rfl (by show s + j < 700; omega) (hX.2.2.2 _ (by omega)) ?_
    refine p_iadd 43 rfl dX5_numberThere_42 ?_
    refine p_bipush (48) 45 rfl dX5_numberThere_43 rfl ?_
    refine p_isub 46 rfl dX5_numberThere_45 ?_
    rw [num_step (kOf_2 (hd (s + j) (by omega) (by omega)))]
    refine p_ist_n1 47 rfl rfl dX5_numberThere_46 (Nat.le_of_ble_eq_true rfl) rfl ?_
    refine p_inc_2 50 rfl dX5_numberThere_47 (1) rfl (Nat.le_of_ble_eq_true rfl) rfl ?_
    refine p_goto 24 rfl dX5_numberThere_50 ?_
    rw [nI_1, show s + j + 1 = s + (j + 1) by omega]
    exact ih (j + 1) (by omega)
set_option maxRecDepth 4000 in
theorem c_num {tx : Nat → Nat} {z f k s e n : Nat} {p : Int32} (hr : RpR σ z f p k s e n) (hX : TX σ tx z) (hse : s ≤ e) (hez : e ≤ z) (hd : ∀ j, s ≤ j → j < e → kOf (tx j) = 2) : CallOk Γ 1 0 0 mX5_numberThere [.ref R0] σ (rI σ (nI (num tx s e))) := by
  have hz := hX.2.1
  refine p_enter rfl rfl (Nat.le_of_ble_eq_true rfl) rfl ?_
  refine p_aload_n 0 1 rfl rfl dX5_numberThere_0 rfl ?_
  refine p_getIE 5 9 4 rfl dX5_numberThere_1 fl_X5_31 rfl rfl (show hI σ R0 9 = nI e from hr.2.2.2.2.2.1) ?_
  refine p_aload_n 0 5 rfl rfl dX5_numberThere_4 rfl ?_
  refine p_getIE 5 8 8 rfl dX5_numberThere_5 fl_X5_28 rfl rfl (show hI σ R0 8 = nI s from hr.2.2.2.2.1) ?_
  refine p_isub 9 rfl dX5_numberThere_8 ?_
  rw [nI_sb hse]
  refine p_iconst (4) 10 rfl dX5_numberThere_9 rfl ?_
  refine p_icmp_le 17 13 rfl rfl dX5_numberThere_10 (fun h10 => ?_) (fun h10 => ?_)
  · refine p_iconst (0) 18 rfl dX5_numberThere_17 rfl ?_
    refine p_ist_n1 19 rfl rfl dX5_numberThere_18 (Nat.le_of_ble_eq_true rfl) rfl ?_
    refine p_aload_n 0 20 rfl rfl dX5_numberThere_19 rfl ?_
    refine p_getIE 5 8 23 rfl dX5_numberThere_20 fl_X5_28 rfl rfl (show hI σ R0 8 = nI s from hr.2.2.2.2.1) ?_
    refine p_ist_n2 24 rfl rfl dX5_numberThere_23 (Nat.le_of_ble_eq_true rfl) rfl ?_
    have h4 : e - s ≤ 4 := by
      rcases Nat.lt_or_ge 4 (e - s) with q | q
      · exact absurd h10 (nI_ge (a := 4) (b := e - s) q (by omega))
      · exact q
    exact l_num hr hX hse hez hd h4 (e - s) 0 (by omega)
  · refine p_sipush (10000) 16 rfl dX5_numberThere_13 rfl ?_
    exact p_iret dX5_numberThere_16 rfl ⟨by have : ¬ e - s ≤ 4 := fun q => h10 (nI_le (b := 4) (a := e - s) q (by omega)); rw [num, if_pos (by omega)]; rfl, rfl⟩
set_option maxRecDepth 4000 in
theorem l_adv1 {tx : Nat → Nat} {z f s n : Nat} {p : Int32} (hX : TX σ tx z) (hsz : s < z) : ∀ (m e1 : Nat) (σ1 : PH), e1 + m = z → s ≤ e1 → run tx 1 (z - (s + 1)) (s + 1) = run tx 1 (z - e1) e1 → (∀ j, s ≤ j → j < e1 → kOf (tx j) = 1) → RpR σ1 z f p 1 s e1 n → Cr σ σ1 → Ok Γ 3 0 0 mX5_advance 103 [some (.ref R0)] [] σ1 (rV (fun σ' => RpR σ' z f p 1 s (run tx 1 (z - (s + 1)) (s + 1)) (n) ∧ Cr σ σ')) := by
  have hz := hX.2.1
  intro m
  induction m with
  | zero =>
    intro e1 σ1 he hse hru hall hr1 hc1
    have hX1 := hX.cr hc1
    refine p_aload_n 0 104 rfl rfl dX5_advance_103 rfl ?_
    refine p_getIE 5 7 107 rfl dX5_advance_104 fl_X5_25 rfl rfl (show hI σ1 R0 7 = nI 1 from hr1.2.2.2.1) ?_
    refine p_iconst (1) 108 rfl dX5_advance_107 rfl ?_
    refine p_icmp_eq 119 111 rfl rfl dX5_advance_108 (fun h108 => ?_) (fun h108 => absurd rfl h108)
    refine p_aload_n 0 120 rfl rfl dX5_advance_119 rfl ?_
    refine p_getIE 5 9 123 rfl dX5_advance_120 fl_X5_31 rfl rfl (show hI σ1 R0 9 = nI e1 from hr1.2.2.2.2.2.1) ?_
    refine p_aload_n 0 124 rfl rfl dX5_advance_123 rfl ?_
    refine p_getIE 5 3 127 rfl dX5_advance_124 fl_X5_18 rfl rfl (show hI σ1 R0 3 = nI z from hr1.2.2.1) ?_
    refine p_icmp_ge 162 130 rfl rfl dX5_advance_127 (fun h127 => ?_) (fun h127 => absurd (nI_le (a := z) (b := e1) (by omega) (by omega)) h127)
    have he1 : run tx 1 (z - (s + 1)) (s + 1) = e1 := by rw [hru, show z - e1 = 0 by omega]; rfl
    refine p_aload_n 0 163 rfl rfl dX5_advance_162 rfl ?_
    refine p_getIE 5 7 166 rfl dX5_advance_163 fl_X5_25 rfl rfl (show hI σ1 R0 7 = nI 1 from hr1.2.2.2.1) ?_
    refine p_iconst (2) 167 rfl dX5_advance_166 rfl ?_
    refine p_icmp_ne 178 170 rfl rfl dX5_advance_167 (fun h167 => ?_) (fun h167 => absurd h167 (by decide))
    exact p_vret dX5_advance_178 rfl ⟨rfl, by rw [show run tx 1 (z - (s + 1)) (s + 1) = e1 from he1]; exact hr1, hc1⟩
  | succ m ih =>
    intro e1 σ1 he hse hru hall hr1 hc1
    have hX1 := hX.cr hc1
    refine p_aload_n 0 104 rfl rfl dX5_advance_103 rfl ?_
    refine p_getIE 5 7 107 rfl dX5_advance_104 fl_X5_25 rfl rfl (show hI σ1 R0 7 = nI 1 from hr1.2.2.2.1) ?_
    refine p_iconst (1) 108 rfl dX5_advance_107 rfl ?_
    refine p_icmp_eq 119 111 rfl rfl dX5_advance_108 (fun h108 => ?_) (fun h108 => absurd rfl h108)
    refine p_aload_n 0 120 rfl rfl dX5_advance_119 rfl ?_
    refine p_getIE 5 9 123 rfl dX5_advance_120 fl_X5_31 rfl rfl (show hI σ1 R0 9 = nI e1 from hr1.2.2.2.2.2.1) ?_
    refine p_aload_n 0 124 rfl rfl dX5_advance_123 rfl ?_
    refine p_getIE 5 3 127 rfl dX5_advance_124 fl_X5_18 rfl rfl (show hI σ1 R0 3 = nI z from hr1.2.2.1) ?_
    refine p_icmp_ge 162 130 rfl rfl dX5_advance_127 (fun h127 => absurd h127 (nI_ge (a := e1) (b := z) (by omega) (by omega))) (fun h127 => ?_)
    refine p_aload_n 0 131 rfl rfl dX5_advance_130 rfl ?_
    refine p_getR 5 2 134 rfl dX5_advance_131 fl_X5_37 rfl rfl hX1.1 (by decide) ?_
    refine p_aload_n 0 135 rfl rfl dX5_advance_134 rfl ?_
    refine p_getIE 5 9 138 rfl dX5_advance_135 fl_X5_31 rfl rfl (show hI σ1 R0 9 = nI e1 from hr1.2.2.2.2.2.1) ?_
    refine p_baldE 139 rfl dX5_advance_138 (i := e1) rfl (by show e1 < 700; omega) (hX1.2.2.2 _ (by omega)) ?_
    refine p_cS1i 142 rfl dX5_advance_139 (c_kindOf (hX.2.2.1 _)) ml_X5_69 sl_X5_kindOf (Nat.le_of_ble_eq_true rfl) (Nat.le_of_ble_eq_true rfl) rfl ?_
    refine p_aload_n 0 143 rfl rfl dX5_advance_142 rfl ?_
    refine p_getIE 5 7 146 rfl dX5_advance_143 fl_X5_25 rfl rfl (show hI σ1 R0 7 = nI 1 from hr1.2.2.2.1) ?_
    refine p_icmp_ne 162 149 rfl rfl dX5_advance_146 (fun h146 => ?_) (fun h146 => ?_)
    · have hkk : ¬ kOf (tx e1) = 1 := fun q => h146 (by rw [q])
      have he1 : run tx 1 (z - (s + 1)) (s + 1) = e1 := by rw [hru, show z - e1 = (z - (e1 + 1)) + 1 by omega]; simp only [run]; rw [if_neg hkk]
      refine p_aload_n 0 163 rfl rfl dX5_advance_162 rfl ?_
      refine p_getIE 5 7 166 rfl dX5_advance_163 fl_X5_25 rfl rfl (show hI σ1 R0 7 = nI 1 from hr1.2.2.2.1) ?_
      refine p_iconst (2) 167 rfl dX5_advance_166 rfl ?_
      refine p_icmp_ne 178 170 rfl rfl dX5_advance_167 (fun h167 => ?_) (fun h167 => absurd h167 (by decide))
      exact p_vret dX5_advance_178 rfl ⟨rfl, by rw [show run tx 1 (z - (s + 1)) (s + 1) = e1 from he1]; exact hr1, hc1⟩
    · have hkk : kOf (tx e1) = 1 := nI_eqI h146 (by have := kOf_le (tx e1); omega) (by omega)
      refine p_aload_n 0 150 rfl rfl dX5_advance_149 rfl ?_
      refine p_dup 151 rfl dX5_advance_150 rfl ?_
      refine p_getIE 5 9 154 rfl dX5_advance_151 fl_X5_31 rfl rfl (show hI σ1 R0 9 = nI e1 from hr1.2.2.2.2.2.1) ?_
      refine p_iconst (1) 155 rfl dX5_advance_154 rfl ?_
      refine p_iadd 156 rfl dX5_advance_155 ?_
      refine p_putI 5 9 159 rfl dX5_advance_156 fl_X5_31 rfl rfl (Or.inl rfl) ?_
      refine p_goto 103 rfl dX5_advance_159 ?_
      rw [nI_1]
      refine ih (e1 + 1) _ (by omega) (by omega) ?_ (fun j q1 q2 => ?_) (hr1.e (e1 + 1)) (hc1.tr (chR _ _ _))
      · rw [hru, show z - e1 = (z - (e1 + 1)) + 1 by omega]; simp only [run]; rw [if_pos hkk]
      · rcases Nat.lt_or_ge j e1 with w | w
        · exact hall j q1 w
        · rw [show j = e1 by omega]; exact hkk
set_option maxRecDepth 4000 in
theorem l_adv2 {tx : Nat → Nat} {z f s n : Nat} {p : Int32} (hX : TX σ tx z) (hsz : s < z) : ∀ (m e1 : Nat) (σ1 : PH), e1 + m = z → s ≤ e1 → run tx 2 (z - (s + 1)) (s + 1) = run tx 2 (z - e1) e1 → (∀ j, s ≤ j → j < e1 → kOf (tx j) = 2) → RpR σ1 z f p 2 s e1 n → Cr σ σ1 → Ok Γ 3 0 0 mX5_advance 103 [some (.ref R0)] [] σ1 (rV (fun σ' => RpR σ' z f p 2 s (run tx 2 (z - (s + 1)) (s + 1)) (num tx s (run tx 2 (z - (s + 1)) (s + 1))) ∧ Cr σ σ')) := by
  have hz := hX.2.1
  intro m
  induction m with
  | zero =>
    intro e1 σ1 he hse hru hall hr1 hc1
    have hX1 := hX.cr hc1
    refine p_aload_n 0 104 rfl rfl dX5_advance_103 rfl ?_
    refine p_getIE 5 7 107 rfl dX5_advance_104 fl_X5_25 rfl rfl (show hI σ1 R0 7 = nI 2 from hr1.2.2.2.1) ?_
    refine p_iconst (1) 108 rfl dX5_advance_107 rfl ?_
    refine p_icmp_eq 119 111 rfl rfl dX5_advance_108 (fun h108 => absurd h108 (by decide)) (fun h108 => ?_)
    refine p_aload_n 0 112 rfl rfl dX5_advance_111 rfl ?_
    refine p_getIE 5 7 115 rfl dX5_advance_112 fl_X5_25 rfl rfl (show hI σ1 R0 7 = nI 2 from hr1.2.2.2.1) ?_
    refine p_iconst (2) 116 rfl dX5_advance_115 rfl ?_
    refine p_icmp_ne 162 119 rfl rfl dX5_advance_116 (fun h116 => absurd rfl h116) (fun h116 => ?_)
    refine p_aload_n 0 120 rfl rfl dX5_advance_119 rfl ?_
    refine p_getIE 5 9 123 rfl dX5_advance_120 fl_X5_31 rfl rfl (show hI σ1 R0 9 = nI e1 from hr1.2.2.2.2.2.1) ?_
    refine p_aload_n 0 124 rfl rfl dX5_advance_123 rfl ?_
    refine p_getIE 5 3 127 rfl dX5_advance_124 fl_X5_18 rfl rfl (show hI σ1 R0 3 = nI z from hr1.2.2.1) ?_
    refine p_icmp_ge 162 130 rfl rfl dX5_advance_127 (fun h127 => ?_) (fun h127 => absurd (nI_le (a := z) (b := e1) (by omega) (by omega)) h127)
    have he1 : run tx 2 (z - (s + 1)) (s + 1) = e1 := by rw [hru, show z - e1 = 0 by omega]; rfl
    refine p_aload_n 0 163 rfl rfl dX5_advance_162 rfl ?_
    refine p_getIE 5 7 166 rfl dX5_advance_163 fl_X5_25 rfl rfl (show hI σ1 R0 7 = nI 2 from hr1.2.2.2.1) ?_
    refine p_iconst (2) 167 rfl dX5_advance_166 rfl ?_
    refine p_icmp_ne 178 170 rfl rfl dX5_advance_167 (fun h167 => absurd rfl h167) (fun h167 => ?_)
    refine p_aload_n 0 171 rfl rfl dX5_advance_170 rfl ?_
    refine p_aload_n 0 172 rfl rfl dX5_advance_171 rfl ?_
    refine p_cV0i 175 rfl dX5_advance_172 (c_num (k := 2) (e := e1) hr1 hX1 (by omega) (by omega) hall) ml_X5_73 vl_X5_numberThere rfl (by decide) rfl (Nat.le_of_ble_eq_true rfl) (Nat.le_of_ble_eq_true rfl) rfl ?_
    refine p_putI 5 10 178 rfl dX5_advance_175 fl_X5_34 rfl rfl (Or.inl rfl) ?_
    exact p_vret dX5_advance_178 rfl ⟨rfl, by rw [show run tx 2 (z - (s + 1)) (s + 1) = e1 from he1]; exact hr1.n _, hc1.tr (chR _ _ _)⟩
  | succ m ih =>
    intro e1 σ1 he hse hru hall hr1 hc1
    have hX1 := hX.cr hc1
    refine p_aload_n 0 104 rfl rfl dX5_advance_103 rfl ?_
    refine p_getIE 5 7 107 rfl dX5_advance_104 fl_X5_25 rfl rfl (show hI σ1 R0 7 = nI 2 from hr1.2.2.2.1) ?_
    refine p_iconst (1) 108 rfl dX5_advance_107 rfl ?_
    refine p_icmp_eq 119 111 rfl rfl dX5_advance_108 (fun h108 => absurd h108 (by decide)) (fun h108 => ?_)
    refine p_aload_n 0 112 rfl rfl dX5_advance_111 rfl ?_
    refine p_getIE 5 7 115 rfl dX5_advance_112 fl_X5_25 rfl rfl (show hI σ1 R0 7 = nI 2 from hr1.2.2.2.1) ?_
    refine p_iconst (2) 116 rfl dX5_advance_115 rfl ?_
    refine p_icmp_ne 162 119 rfl rfl dX5_advance_116 (fun h116 => absurd rfl h116) (fun h116 => ?_)
    refine p_aload_n 0 120 rfl rfl dX5_advance_119 rfl ?_
    refine p_getIE 5 9 123 rfl dX5_advance_120 fl_X5_31 rfl rfl (show hI σ1 R0 9 = nI e1 from hr1.2.2.2.2.2.1) ?_
    refine p_aload_n 0 124 rfl rfl dX5_advance_123 rfl ?_
    refine p_getIE 5 3 127 rfl dX5_advance_124 fl_X5_18 rfl rfl (show hI σ1 R0 3 = nI z from hr1.2.2.1) ?_
    refine p_icmp_ge 162 130 rfl rfl dX5_advance_127 (fun h127 => absurd h127 (nI_ge (a := e1) (b := z) (by omega) (by omega))) (fun h127 => ?_)
    refine p_aload_n 0 131 rfl rfl dX5_advance_130 rfl ?_
    refine p_getR 5 2 134 rfl dX5_advance_131 fl_X5_37 rfl rfl hX1.1 (by decide) ?_
    refine p_aload_n 0 135 rfl rfl dX5_advance_134 rfl ?_
    refine p_getIE 5 9 138 rfl dX5_advance_135 fl_X5_31 rfl rfl (show hI σ1 R0 9 = nI e1 from hr1.2.2.2.2.2.1) ?_
    refine p_baldE 139 rfl dX5_advance_138 (i := e1) rfl (by show e1 < 700; omega) (hX1.2.2.2 _ (by omega)) ?_
    refine p_cS1i 142 rfl dX5_advance_139 (c_kindOf (hX.2.2.1 _)) ml_X5_69 sl_X5_kindOf (Nat.le_of_ble_eq_true rfl) (Nat.le_of_ble_eq_true rfl) rfl ?_
    refine p_aload_n 0 143 rfl rfl dX5_advance_142 rfl ?_
    refine p_getIE 5 7 146 rfl dX5_advance_143 fl_X5_25 rfl rfl (show hI σ1 R0 7 = nI 2 from hr1.2.2.2.1) ?_
    refine p_icmp_ne 162 149 rfl rfl dX5_advance_146 (fun h146 => ?_) (fun h146 => ?_)
    · have hkk : ¬ kOf (tx e1) = 2 := fun q => h146 (by rw [q])
      have he1 : run tx 2 (z - (s + 1)) (s + 1) = e1 := by rw [hru, show z - e1 = (z - (e1 + 1)) + 1 by omega]; simp only [run]; rw [if_neg hkk]
      refine p_aload_n 0 163 rfl rfl dX5_advance_162 rfl ?_
      refine p_getIE 5 7 166 rfl dX5_advance_163 fl_X5_25 rfl rfl (show hI σ1 R0 7 = nI 2 from hr1.2.2.2.1) ?_
      refine p_iconst (2) 167 rfl dX5_advance_166 rfl ?_
      refine p_icmp_ne 178 170 rfl rfl dX5_advance_167 (fun h167 => absurd rfl h167) (fun h167 => ?_)
      refine p_aload_n 0 171 rfl rfl dX5_advance_170 rfl ?_
      refine p_aload_n 0 172 rfl rfl dX5_advance_171 rfl ?_
      refine p_cV0i 175 rfl dX5_advance_172 (c_num (k := 2) (e := e1) hr1 hX1 (by omega) (by omega) hall) ml_X5_73 vl_X5_numberThere rfl (by decide) rfl (Nat.le_of_ble_eq_true rfl) (Nat.le_of_ble_eq_true rfl) rfl ?_
      refine p_putI 5 10 178 rfl dX5_advance_175 fl_X5_34 rfl rfl (Or.inl rfl) ?_
      exact p_vret dX5_advance_178 rfl ⟨rfl, by rw [show run tx 2 (z - (s + 1)) (s + 1) = e1 from he1]; exact hr1.n _, hc1.tr (chR _ _ _)⟩
    · have hkk : kOf (tx e1) = 2 := nI_eqI h146 (by have := kOf_le (tx e1); omega) (by omega)
      refine p_aload_n 0 150 rfl rfl dX5_advance_149 rfl ?_
      refine p_dup 151 rfl dX5_advance_150 rfl ?_
      refine p_getIE 5 9 154 rfl dX5_advance_151 fl_X5_31 rfl rfl (show hI σ1 R0 9 = nI e1 from hr1.2.2.2.2.2.1) ?_
      refine p_iconst (1) 155 rfl dX5_advance_154 rfl ?_
      refine p_iadd 156 rfl dX5_advance_155 ?_
      refine p_putI 5 9 159 rfl dX5_advance_156 fl_X5_31 rfl rfl (Or.inl rfl) ?_
      refine p_goto 103 rfl dX5_advance_159 ?_
      rw [nI_1]
      refine ih (e1 + 1) _ (by omega) (by omega) ?_ (fun j q1 q2 => ?_) (hr1.e (e1 + 1)) (hc1.tr (chR _ _ _))
      · rw [hru, show z - e1 = (z - (e1 + 1)) + 1 by omega]; simp only [run]; rw [if_pos hkk]
      · rcases Nat.lt_or_ge j e1 with w | w
        · exact hall j q1 w
        · rw [show j = e1 by omega]; exact hkk
theorem adv_end {tx : Nat → Nat} {z e1 : Nat} {S : RS} (h : skp tx (z - S.2.2.2.2.1) S.2.2.2.2.1 = e1) (hz : z ≤ e1) : adv tx z S = (S.1, S.2.1, 0, e1, e1, S.2.2.2.2.2) := by
  unfold adv; simp only [h]; rw [if_pos hz]
theorem adv_tok {tx : Nat → Nat} {z e1 : Nat} {S : RS} (h : skp tx (z - S.2.2.2.2.1) S.2.2.2.2.1 = e1) (hz : e1 < z) : adv tx z S = (S.1, S.2.1, kOf (tx e1), e1, (if kOf (tx e1) = 1 ∨ kOf (tx e1) = 2 then run tx (kOf (tx e1)) (z - (e1 + 1)) (e1 + 1) else e1 + 1), if kOf (tx e1) = 2 then num tx e1 (if kOf (tx e1) = 1 ∨ kOf (tx e1) = 2 then run tx (kOf (tx e1)) (z - (e1 + 1)) (e1 + 1) else e1 + 1) else S.2.2.2.2.2) := by
  unfold adv; simp only [h]; rw [if_neg (by omega)]
set_option maxRecDepth 8000 in
theorem l_adv52 {tx : Nat → Nat} {z e1 : Nat} {S : RS} (hX : TX σ tx z) {σ1 : PH} (hs0 : skp tx (z - S.2.2.2.2.1) S.2.2.2.2.1 = e1) (he : e1 ≤ z) (hr1 : RpR σ1 z S.1 S.2.1 S.2.2.1 S.2.2.2.1 e1 S.2.2.2.2.2) (hc1 : Cr σ σ1) : Ok Γ 3 0 0 mX5_advance 52 [some (.ref R0)] [] σ1 (rV (fun σ' => RpS σ' z (adv tx z S) ∧ Cr σ σ')) := by
  have hz := hX.2.1
  have hX1 := hX.cr hc1
  refine p_aload_n 0 53 rfl rfl dX5_advance_52 rfl ?_
  refine p_aload_n 0 54 rfl rfl dX5_advance_53 rfl ?_
  refine p_getIE 5 9 57 rfl dX5_advance_54 fl_X5_31 rfl rfl (show hI σ1 R0 9 = nI e1 from hr1.2.2.2.2.2.1) ?_
  refine p_putI 5 8 60 rfl dX5_advance_57 fl_X5_28 rfl rfl (Or.inl rfl) ?_
  refine p_aload_n 0 61 rfl rfl dX5_advance_60 rfl ?_
  refine p_getIE 5 8 64 rfl dX5_advance_61 fl_X5_28 rfl rfl (hI_sI _ _ _ _) ?_
  refine p_aload_n 0 65 rfl rfl dX5_advance_64 rfl ?_
  refine p_getIE 5 3 68 rfl dX5_advance_65 fl_X5_18 rfl rfl (show hI (sI σ1 R0 8 (nI e1)) R0 3 = nI z from (hr1.s e1).2.2.1) ?_
  refine p_icmp_lt 77 71 rfl rfl dX5_advance_68 (fun h68 => ?_) (fun h68 => ?_)
  · have hlt : e1 < z := by
      rcases Nat.lt_or_ge e1 z with q | q
      · exact q
      · exact absurd h68 (nI_nlt (a := e1) (b := z) q (by omega))
    refine p_aload_n 0 78 rfl rfl dX5_advance_77 rfl ?_
    refine p_aload_n 0 79 rfl rfl dX5_advance_78 rfl ?_
    refine p_getR 5 2 82 rfl dX5_advance_79 fl_X5_37 rfl rfl hX1.1 (by decide) ?_
    refine p_aload_n 0 83 rfl rfl dX5_advance_82 rfl ?_
    refine p_getIE 5 8 86 rfl dX5_advance_83 fl_X5_28 rfl rfl (hI_sI _ _ _ _) ?_
    refine p_baldE 87 rfl dX5_advance_86 (i := e1) rfl (by show e1 < 700; omega) (hX1.2.2.2 _ (by omega)) ?_
    refine p_cS1i 90 rfl dX5_advance_87 (c_kindOf (hX.2.2.1 _)) ml_X5_69 sl_X5_kindOf (Nat.le_of_ble_eq_true rfl) (Nat.le_of_ble_eq_true rfl) rfl ?_
    refine p_putI 5 7 93 rfl dX5_advance_90 fl_X5_25 rfl rfl (Or.inl rfl) ?_
    refine p_aload_n 0 94 rfl rfl dX5_advance_93 rfl ?_
    refine p_dup 95 rfl dX5_advance_94 rfl ?_
    refine p_getIE 5 9 98 rfl dX5_advance_95 fl_X5_31 rfl rfl (show hI (sI (sI σ1 R0 8 (nI e1)) R0 7 (nI (kOf (tx e1)))) R0 9 = nI e1 from ((hr1.s e1).k _).2.2.2.2.2.1) ?_
    refine p_iconst (1) 99 rfl dX5_advance_98 rfl ?_
    refine p_iadd 100 rfl dX5_advance_99 ?_
    refine p_putI 5 9 103 rfl dX5_advance_100 fl_X5_31 rfl rfl (Or.inl rfl) ?_
    rw [nI_1]
    have hrr := ((hr1.s e1).k (kOf (tx e1))).e (e1 + 1)
    have hcc := ((hc1.tr (chR σ1 8 (nI e1))).tr (chR _ 7 (nI (kOf (tx e1))))).tr (chR _ 9 (nI (e1 + 1)))
    have hall : ∀ j, e1 ≤ j → j < e1 + 1 → kOf (tx j) = kOf (tx e1) := fun j q1 q2 => by rw [show j = e1 by omega]
    rw [adv_tok hs0 hlt]
    have hkk := kOf_le (tx e1)
    rcases (show kOf (tx e1) = 1 ∨ kOf (tx e1) = 2 ∨ kOf (tx e1) = 3 ∨ kOf (tx e1) = 4 by omega) with h9 | h9 | h9 | h9
    · rw [h9] at hrr hcc hall ⊢
      simp only [true_or, if_true, if_neg (show ¬ (1 : Nat) = 2 by decide)]
      exact l_adv1 hX hlt (z - (e1 + 1)) (e1 + 1) _ (by omega) (by omega) rfl hall hrr hcc
    · rw [h9] at hrr hcc hall ⊢
      simp only [or_true, if_true]
      exact l_adv2 hX hlt (z - (e1 + 1)) (e1 + 1) _ (by omega) (by omega) rfl hall hrr hcc
    · rw [h9] at hrr hcc ⊢
      simp only [show ¬ ((3 : Nat) = 1 ∨ (3 : Nat) = 2) by decide, if_false, if_neg (show ¬ (3 : Nat) = 2 by decide)]
      refine p_aload_n 0 104 rfl rfl dX5_advance_103 rfl ?_
      refine p_getIE 5 7 107 rfl dX5_advance_104 fl_X5_25 rfl rfl (show _ = nI 3 from hrr.2.2.2.1) ?_
      refine p_iconst (1) 108 rfl dX5_advance_107 rfl ?_
      refine p_icmp_eq 119 111 rfl rfl dX5_advance_108 (fun h108 => absurd h108 (by decide)) (fun h108 => ?_)
      refine p_aload_n 0 112 rfl rfl dX5_advance_111 rfl ?_
      refine p_getIE 5 7 115 rfl dX5_advance_112 fl_X5_25 rfl rfl (show _ = nI 3 from hrr.2.2.2.1) ?_
      refine p_iconst (2) 116 rfl dX5_advance_115 rfl ?_
      refine p_icmp_ne 162 119 rfl rfl dX5_advance_116 (fun h116 => ?_) (fun h116 => absurd h116 (by decide))
      refine p_aload_n 0 163 rfl rfl dX5_advance_162 rfl ?_
      refine p_getIE 5 7 166 rfl dX5_advance_163 fl_X5_25 rfl rfl (show _ = nI 3 from hrr.2.2.2.1) ?_
      refine p_iconst (2) 167 rfl dX5_advance_166 rfl ?_
      refine p_icmp_ne 178 170 rfl rfl dX5_advance_167 (fun h167 => ?_) (fun h167 => absurd h167 (by decide))
      exact p_vret dX5_advance_178 rfl ⟨rfl, hrr, hcc⟩
    · rw [h9] at hrr hcc ⊢
      simp only [show ¬ ((4 : Nat) = 1 ∨ (4 : Nat) = 2) by decide, if_false, if_neg (show ¬ (4 : Nat) = 2 by decide)]
      refine p_aload_n 0 104 rfl rfl dX5_advance_103 rfl ?_
      refine p_getIE 5 7 107 rfl dX5_advance_104 fl_X5_25 rfl rfl (show _ = nI 4 from hrr.2.2.2.1) ?_
      refine p_iconst (1) 108 rfl dX5_advance_107 rfl ?_
      refine p_icmp_eq 119 111 rfl rfl dX5_advance_108 (fun h108 => absurd h108 (by decide)) (fun h108 => ?_)
      refine p_aload_n 0 112 rfl rfl dX5_advance_111 rfl ?_
      refine p_getIE 5 7 115 rfl dX5_advance_112 fl_X5_25 rfl rfl (show _ = nI 4 from hrr.2.2.2.1) ?_
      refine p_iconst (2) 116 rfl dX5_advance_115 rfl ?_
      refine p_icmp_ne 162 119 rfl rfl dX5_advance_116 (fun h116 => ?_) (fun h116 => absurd h116 (by decide))
      refine p_aload_n 0 163 rfl rfl dX5_advance_162 rfl ?_
      refine p_getIE 5 7 166 rfl dX5_advance_163 fl_X5_25 rfl rfl (show _ = nI 4 from hrr.2.2.2.1) ?_
      refine p_iconst (2) 167 rfl dX5_advance_166 rfl ?_
      refine p_icmp_ne 178 170 rfl rfl dX5_advance_167 (fun h167 => ?_) (fun h167 => absurd h167 (by decide))
      exact p_vret dX5_advance_178 rfl ⟨rfl, hrr, hcc⟩
  · refine p_aload_n 0 72 rfl rfl dX5_advance_71 rfl ?_
    refine p_iconst (0) 73 rfl dX5_advance_72 rfl ?_
    refine p_putI 5 7 76 rfl dX5_advance_73 fl_X5_25 rfl rfl (Or.inl rfl) ?_
    exact p_vret dX5_advance_76 rfl ⟨rfl, by
  have hge : z ≤ e1 := by
    rcases Nat.lt_or_ge e1 z with q | q
    · exact absurd (nI_lt q (by omega)) h68
    · exact q
  rw [adv_end hs0 hge]; exact (hr1.s e1).k 0, (hc1.tr (chR _ _ _)).tr (chR _ _ _)⟩
set_option maxRecDepth 8000 in
theorem l_adv0 {tx : Nat → Nat} {z : Nat} {S : RS} (hX : TX σ tx z) : ∀ (m e1 : Nat) (σ1 : PH), e1 + m = z → skp tx (z - e1) e1 = skp tx (z - S.2.2.2.2.1) S.2.2.2.2.1 → RpR σ1 z S.1 S.2.1 S.2.2.1 S.2.2.2.1 e1 S.2.2.2.2.2 → Cr σ σ1 → Ok Γ 3 0 0 mX5_advance 0 [some (.ref R0)] [] σ1 (rV (fun σ' => RpS σ' z (adv tx z S) ∧ Cr σ σ')) := by
  have hz := hX.2.1
  intro m
  induction m with
  | zero =>
    intro e1 σ1 he hs0 hr1 hc1
    have hX1 := hX.cr hc1
    refine p_aload_n 0 1 rfl rfl dX5_advance_0 rfl ?_
    refine p_getIE 5 9 4 rfl dX5_advance_1 fl_X5_31 rfl rfl (show hI σ1 R0 9 = nI e1 from hr1.2.2.2.2.2.1) ?_
    refine p_aload_n 0 5 rfl rfl dX5_advance_4 rfl ?_
    refine p_getIE 5 3 8 rfl dX5_advance_5 fl_X5_18 rfl rfl (show hI σ1 R0 3 = nI z from hr1.2.2.1) ?_
    refine p_icmp_ge 52 11 rfl rfl dX5_advance_8 (fun h8 => ?_) (fun h8 => absurd (nI_le (a := z) (b := e1) (by omega) (by omega)) h8)
    refine l_adv52 hX ?_ (by omega) hr1 hc1
    rw [← hs0, show z - e1 = 0 by omega]; rfl
  | succ m ih =>
    intro e1 σ1 he hs0 hr1 hc1
    have hX1 := hX.cr hc1
    refine p_aload_n 0 1 rfl rfl dX5_advance_0 rfl ?_
    refine p_getIE 5 9 4 rfl dX5_advance_1 fl_X5_31 rfl rfl (show hI σ1 R0 9 = nI e1 from hr1.2.2.2.2.2.1) ?_
    refine p_aload_n 0 5 rfl rfl dX5_advance_4 rfl ?_
    refine p_getIE 5 3 8 rfl dX5_advance_5 fl_X5_18 rfl rfl (show hI σ1 R0 3 = nI z from hr1.2.2.1) ?_
    refine p_icmp_ge 52 11 rfl rfl dX5_advance_8 (fun h8 => absurd h8 (nI_ge (a := e1) (b := z) (by omega) (by omega))) (fun h8 => ?_)
    refine p_aload_n 0 12 rfl rfl dX5_advance_11 rfl ?_
    refine p_getR 5 2 15 rfl dX5_advance_12 fl_X5_37 rfl rfl hX1.1 (by decide) ?_
    refine p_aload_n 0 16 rfl rfl dX5_advance_15 rfl ?_
    refine p_getIE 5 9 19 rfl dX5_advance_16 fl_X5_31 rfl rfl (show hI σ1 R0 9 = nI e1 from hr1.2.2.2.2.2.1) ?_
    refine p_baldE 20 rfl dX5_advance_19 (i := e1) rfl (by show e1 < 700; omega) (hX1.2.2.2 _ (by omega)) ?_
    refine p_bipush (32) 22 rfl dX5_advance_20 rfl ?_
    refine p_icmp_eq 39 25 rfl rfl dX5_advance_22 (fun h22 => ?_) (fun h22 => ?_)
    · refine p_aload_n 0 40 rfl rfl dX5_advance_39 rfl ?_
      refine p_dup 41 rfl dX5_advance_40 rfl ?_
      refine p_getIE 5 9 44 rfl dX5_advance_41 fl_X5_31 rfl rfl (show hI σ1 R0 9 = nI e1 from hr1.2.2.2.2.2.1) ?_
      refine p_iconst (1) 45 rfl dX5_advance_44 rfl ?_
      refine p_iadd 46 rfl dX5_advance_45 ?_
      refine p_putI 5 9 49 rfl dX5_advance_46 fl_X5_31 rfl rfl (Or.inl rfl) ?_
      refine p_goto 0 rfl dX5_advance_49 ?_
      rw [nI_1]
      refine ih (e1 + 1) _ (by omega) ?_ (hr1.e (e1 + 1)) (hc1.tr (chR _ _ _))
      rw [← hs0, show z - e1 = (z - (e1 + 1)) + 1 by omega]
      simp only [skp]
      rw [if_pos (Or.inl ((tb32 _ (hX.2.2.1 _)).mp h22))]
    · refine p_aload_n 0 26 rfl rfl dX5_advance_25 rfl ?_
      refine p_getR 5 2 29 rfl dX5_advance_26 fl_X5_37 rfl rfl hX1.1 (by decide) ?_
      refine p_aload_n 0 30 rfl rfl dX5_advance_29 rfl ?_
      refine p_getIE 5 9 33 rfl dX5_advance_30 fl_X5_31 rfl rfl (show hI σ1 R0 9 = nI e1 from hr1.2.2.2.2.2.1) ?_
      refine p_baldE 34 rfl dX5_advance_33 (i := e1) rfl (by show e1 < 700; omega) (hX1.2.2.2 _ (by omega)) ?_
      refine p_bipush (10) 36 rfl dX5_advance_34 rfl ?_
      refine p_icmp_ne 52 39 rfl rfl dX5_advance_36 (fun h36 => ?_) (fun h36 => ?_)
      · refine l_adv52 hX ?_ (by omega) hr1 hc1
        rw [← hs0, show z - e1 = (z - (e1 + 1)) + 1 by omega]
        simp only [skp]
        rw [if_neg (fun q => q.elim (fun q => h22 ((tb32 _ (hX.2.2.1 _)).mpr q)) (fun q => h36 ((tb10 _ (hX.2.2.1 _)).mpr q)))]
      · refine p_aload_n 0 40 rfl rfl dX5_advance_39 rfl ?_
        refine p_dup 41 rfl dX5_advance_40 rfl ?_
        refine p_getIE 5 9 44 rfl dX5_advance_41 fl_X5_31 rfl rfl (show hI σ1 R0 9 = nI e1 from hr1.2.2.2.2.2.1) ?_
        refine p_iconst (1) 45 rfl dX5_advance_44 rfl ?_
        refine p_iadd 46 rfl dX5_advance_45 ?_
        refine p_putI 5 9 49 rfl dX5_advance_46 fl_X5_31 rfl rfl (Or.inl rfl) ?_
        refine p_goto 0 rfl dX5_advance_49 ?_
        rw [nI_1]
        refine ih (e1 + 1) _ (by omega) ?_ (hr1.e (e1 + 1)) (hc1.tr (chR _ _ _))
        rw [← hs0, show z - e1 = (z - (e1 + 1)) + 1 by omega]
        simp only [skp]
        rw [if_pos (Or.inr ((tb10 _ (hX.2.2.1 _)).mp h36))]
theorem c_adv0 {tx : Nat → Nat} {z : Nat} {S : RS} (hX : TX σ tx z) (hr : RpS σ z S) (ho : S.2.2.2.2.1 ≤ z) : CallOk Γ 3 0 0 mX5_advance [.ref R0] σ (rV (fun σ' => RpS σ' z (adv tx z S) ∧ Cr σ σ')) := by
  refine p_enter rfl rfl (Nat.le_of_ble_eq_true rfl) rfl ?_
  exact l_adv0 hX (z - S.2.2.2.2.1) S.2.2.2.2.1 σ (by omega) rfl hr Cr.rf
theorem c_advance {tx : Nat → Nat} {z : Nat} {S : RS} (hX : TX σ tx z) (hr : RpS σ z S) (ho : OkR z S) : CallOk Γ 3 0 0 mX5_advance [.ref R0] σ (rV (fun σ' => RpS σ' z (adv tx z S) ∧ Cr σ σ')) := c_adv0 hX hr ho.2.2.2.1
end C62
