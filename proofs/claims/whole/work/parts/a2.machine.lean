/-! ===== the reference reads a rule: its machine, and the tiers of the class ===== -/
abbrev MX : Type := RS × List Int32 × List Int32 × Nat × (Nat → Bool)
abbrev MY : Type := Nat × MX
def zS (X : MX) : RS := X.1
def zO (X : MX) : List Int32 := X.2.1
def zK (X : MX) : List Int32 := X.2.2.1
def zD (X : MX) : Nat := X.2.2.2.1
def zT (X : MX) : Nat → Bool := X.2.2.2.2
def sgth (a : Int32) : Nat := if a = 5 then 1 else if a = 4 then 2 else if a = 3 then 3 else if a = 6 ∨ a = 7 then 4 else if a = 8 ∨ a = 9 then 5 else 6
def drp (l : Nat) : List Int32 → List Int32 → List Int32 × List Int32
  | o, [] => (o, [])
  | o, a :: r => if a < 14 ∧ l ≤ sgth a then drp l (o ++ [a]) r else (o, a :: r)
def opnd (k : List Int32) : Bool := k.any (fun a => decide (14 ≤ a))
def upB (f : Nat → Bool) (i : Nat) (b : Bool) : Nat → Bool := fun j => if j = i then b else f j
def dee (tx : Nat → Nat) (z : Nat) (X : MX) : MX := if zD X < 6 then (zS X, zO X, zK X, zD X + 1, upB (zT X) (zD X + 1) false) else (deep tx z (zS X), zO X, zK X, zD X, zT X)
def prM (tx : Nat → Nat) (z : Nat) (w : Bool) (X : MX) : MX :=
  if (zS X).2.2.1 = 2 then (if (zS X).2.2.2.2.2 ≤ 9999 then (adv tx z (zS X), zO X ++ [1, nI (zS X).2.2.2.2.2], zK X, zD X, zT X) else (fai z 2 (zS X), zO X, zK X, zD X, zT X))
  else if (zS X).2.2.1 = 1 then (match (if w = true then slT tx (zS X) else slH tx (zS X)) with
    | none => (fai z 3 (zS X), zO X, zK X, zD X, zT X)
    | some s => (adv tx z (zS X), zO X ++ [2, nI (slt w s)], zK X, zD X, zT X))
  else (fai z 1 (zS X), zO X, zK X, zD X, zT X)
def stO1 (tx : Nat → Nat) (z : Nat) (w : Bool) (X : MX) : MY :=
  if ¬ (zS X).1 = 0 then (3, X) else if sta tx (zS X) 40 = true then (0, dee tx z (adv tx z (zS X), zO X, 14 :: zK X, zD X, zT X)) else (2, prM tx z w X)
def ntX (tx : Nat → Nat) (z : Nat) (X : MX) : MX := ((rdNots tx z (zS X)).2, zO X, List.replicate (rdNots tx z (zS X)).1 3 ++ zK X, zD X, zT X)
def psh (tx : Nat → Nat) (z l : Nat) (c : Int32) (X : MX) (T : Nat → Bool) : MX := (adv tx z (zS X), (drp l (zO X) (zK X)).1, c :: (drp l (zO X) (zK X)).2, zD X, T)
def stL (tx : Nat → Nat) (z : Nat) (X : MX) : MY :=
  if spl tx (zS X) (swd 22) = true then (0, psh tx z 2 4 X (upB (zT X) (zD X) false))
  else if spl tx (zS X) (swd 21) = true then (0, psh tx z 1 5 X (upB (zT X) (zD X) false))
  else if (sta tx (zS X) 60 = true ∨ sta tx (zS X) 61 = true) ∧ zT X (zD X) = false then (1, psh tx z 4 (if sta tx (zS X) 60 = true then 6 else 7) X (upB (zT X) (zD X) true))
  else if sta tx (zS X) 43 = true ∨ sta tx (zS X) 45 = true then (1, psh tx z 5 (if sta tx (zS X) 43 = true then 8 else 9) X (zT X))
  else if sta tx (zS X) 42 = true ∨ sta tx (zS X) 47 = true then (1, psh tx z 6 (if sta tx (zS X) 42 = true then 10 else 11) X (zT X))
  else if sta tx (zS X) 41 = true ∧ opnd (zK X) = true then (2, (adv tx z (zS X), (drp 0 (zO X) (zK X)).1, (drp 0 (zO X) (zK X)).2.tail, zD X - 1, zT X))
  else (3, X)
def stp (tx : Nat → Nat) (z : Nat) (w : Bool) (Y : MY) : MY :=
  if Y.1 = 3 then Y else if ¬ (zS Y.2).1 = 0 then (3, Y.2) else if Y.1 = 0 then stO1 tx z w (ntX tx z Y.2) else if Y.1 = 1 then stO1 tx z w Y.2 else stL tx z Y.2
def rnN (tx : Nat → Nat) (z : Nat) (w : Bool) : Nat → MY → MY
  | 0, Y => Y
  | n + 1, Y => rnN tx z w n (stp tx z w Y)
def finS (z : Nat) (X : MX) : RS := if (zS X).1 = 0 ∧ 1 < zD X then fai z 1 (zS X) else zS X
theorem rnN_add (tx : Nat → Nat) (z : Nat) (w : Bool) : ∀ n m Y, rnN tx z w (n + m) Y = rnN tx z w m (rnN tx z w n Y) := by
  intro n
  induction n with
  | zero => intro m Y; rw [Nat.zero_add]; rfl
  | succ n ih => intro m Y; rw [Nat.add_right_comm]; exact ih m (stp tx z w Y)
theorem rnN_3 (tx : Nat → Nat) (z : Nat) (w : Bool) (X : MX) : ∀ n, rnN tx z w n (3, X) = (3, X) := by
  intro n
  induction n with
  | zero => rfl
  | succ n ih => show rnN tx z w n (stp tx z w (3, X)) = _; rw [show stp tx z w (3, X) = (3, X) from if_pos rfl]; exact ih
/-- it comes to -/
def Rch (tx : Nat → Nat) (z : Nat) (w : Bool) (Y Y' : MY) : Prop := ∃ n, rnN tx z w n Y = Y'
theorem Rch.rf {tx : Nat → Nat} {z : Nat} {w : Bool} {Y : MY} : Rch tx z w Y Y := ⟨0, rfl⟩
theorem Rch.tr {tx : Nat → Nat} {z : Nat} {w : Bool} {Y Y1 Y2 : MY} (h : Rch tx z w Y Y1) (g : Rch tx z w Y1 Y2) : Rch tx z w Y Y2 := by
  obtain ⟨n, hn⟩ := h
  obtain ⟨m, hm⟩ := g
  exact ⟨n + m, by rw [rnN_add, hn]; exact hm⟩
theorem Rch.st {tx : Nat → Nat} {z : Nat} {w : Bool} {Y Y1 Y2 : MY} (h : stp tx z w Y = Y1) (g : Rch tx z w Y1 Y2) : Rch tx z w Y Y2 := by
  obtain ⟨m, hm⟩ := g
  exact ⟨m + 1, by show rnN tx z w m (stp tx z w Y) = _; rw [h]; exact hm⟩
theorem Rch.flt {tx : Nat → Nat} {z : Nat} {w : Bool} {m : Nat} {X : MX} (h : ¬ (zS X).1 = 0) : Rch tx z w (m, X) (3, X) := by
  by_cases h3 : m = 3
  · rw [h3]; exact Rch.rf
  · exact Rch.st (Y1 := (3, X)) (by unfold stp; rw [if_neg h3, if_pos h]) Rch.rf
/-- of two that step alike the one comes where the other comes -/
theorem Rch.alike {tx : Nat → Nat} {z : Nat} {w : Bool} {Y1 Y2 Y' : MY} (h : stp tx z w Y1 = stp tx z w Y2) (g : Rch tx z w Y2 Y') (hm : Y2.1 ≠ Y'.1) : Rch tx z w Y1 Y' := by
  obtain ⟨n, hn⟩ := g
  cases n with
  | zero => exact absurd (congrArg Prod.fst hn) hm
  | succ n => exact ⟨n + 1, by show rnN tx z w n (stp tx z w Y1) = _; rw [h]; exact hn⟩
def NBk (l : Nat) : List Int32 → Prop
  | [] => True
  | a :: _ => ¬ (a < 14 ∧ l ≤ sgth a)
theorem drp_all {l : Nat} {base : List Int32} (hb : NBk l base) : ∀ (pend o : List Int32), (∀ a ∈ pend, a < 14 ∧ l ≤ sgth a) → drp l o (pend ++ base) = (o ++ pend, base) := by
  intro pend
  induction pend with
  | nil =>
    intro o _
    rw [List.nil_append, List.append_nil]
    cases base with
    | nil => rfl
    | cons a r => exact if_neg hb
  | cons a r ih =>
    intro o h
    show (if a < 14 ∧ l ≤ sgth a then drp l (o ++ [a]) (r ++ base) else _) = _
    rw [if_pos (h a (by simp)), ih _ (fun b hb => h b (by simp [hb])), List.append_assoc]; rfl
theorem NBk.mono {l l' : Nat} {base : List Int32} (h : NBk l base) (hl : l ≤ l') : NBk l' base := by
  cases base with
  | nil => exact True.intro
  | cons a r => exact fun q => h ⟨q.1, by omega⟩
def kt (t : Nat) : Nat := [1, 2, 4, 5, 6].getD t 7
def lo (t : Nat) : Nat := [1, 2, 3, 5, 6].getD t 7
def opc (op : Int32) : Int32 := if op = -1 then 5 else if op = -2 then 4 else if op = -4 then 6 else if op = -5 then 7 else if op = -6 then 8 else if op = -7 then 9 else if op = -8 then 10 else 11
def tup (t d : Nat) (T : Nat → Bool) : Nat → Bool := if t < 2 then upB T d false else if t = 2 then upB T d true else T
/-- tokens -/
theorem spl_k {tx : Nat → Nat} {S : RS} {w : List Nat} (h : spl tx S w = true) : S.2.2.1 = 1 := by unfold spl at h; simp only [Bool.and_eq_true, beq_iff_eq] at h; exact h.1.1
theorem sta_k {tx : Nat → Nat} {S : RS} {c : Nat} (h : sta tx S c = true) : S.2.2.1 = 3 ∧ tx S.2.2.2.1 = c := by unfold sta at h; simp only [Bool.and_eq_true, beq_iff_eq] at h; exact h
theorem spl_sta {tx : Nat → Nat} {S : RS} {c : Nat} (h : sta tx S c = true) (w : List Nat) : spl tx S w = false := by
  cases q : spl tx S w with
  | false => rfl
  | true => have h1 := spl_k q; have h2 := (sta_k h).1; omega
theorem sta_spl {tx : Nat → Nat} {S : RS} {w : List Nat} (h : spl tx S w = true) (c : Nat) : sta tx S c = false := by
  cases q : sta tx S c with
  | false => rfl
  | true => have h1 := spl_k h; have h2 := (sta_k q).1; omega
theorem sta_sta {tx : Nat → Nat} {S : RS} {c d : Nat} (h : sta tx S c = true) (hd : c ≠ d) : sta tx S d = false := by
  cases q : sta tx S d with
  | false => rfl
  | true => have h1 := (sta_k h).2; have h2 := (sta_k q).2; omega
theorem spF_w {tx : Nat → Nat} {s : Nat} {w : List Nat} : ∀ n, spF tx s w n = true → ∀ j, j < n → tx (s + j) = w.getD j 0 := by
  intro n
  induction n with
  | zero => intro _ j hj; omega
  | succ n ih =>
    intro h j hj
    simp only [spF, Bool.and_eq_true, beq_iff_eq] at h
    rcases Nat.lt_or_ge j n with q | q
    · exact ih h.1 j q
    · rw [show j = n by omega]; exact h.2
theorem spl_uq {tx : Nat → Nat} {S : RS} {w w' : List Nat} (h : spl tx S w = true) (h' : spl tx S w' = true) : w = w' := by
  unfold spl at h h'
  simp only [Bool.and_eq_true, beq_iff_eq] at h h'
  have hl : w.length = w'.length := by omega
  refine List.ext_getElem? (fun j => ?_)
  rcases Nat.lt_or_ge j w.length with q | q
  · have e1 := spF_w _ h.2 j q
    have e2 := spF_w _ h'.2 j (by omega)
    rw [List.getD_eq_getElem?_getD] at e1 e2
    rw [List.getElem?_eq_getElem q, List.getElem?_eq_getElem (by omega : j < w'.length)] at *
    simp only [Option.getD_some] at e1 e2
    rw [← e1, ← e2]
  · rw [List.getElem?_eq_none q, List.getElem?_eq_none (by omega)]
theorem spl_no {tx : Nat → Nat} {S : RS} {w : List Nat} (h : spl tx S w = true) (w' : List Nat) (hn : w ≠ w') : spl tx S w' = false := by
  cases q : spl tx S w' with
  | false => rfl
  | true => exact absurd (spl_uq h q) hn
theorem adv_st {tx : Nat → Nat} {z : Nat} {S : RS} (h : OkR z S) (hk : S.2.2.1 ≠ 0) : S.2.2.2.1 + 1 ≤ (adv tx z S).2.2.2.1 := by
  have h1 := h.2.2.2.2.2 hk
  have h2 := (skp_ge tx (z - S.2.2.2.2.1) S.2.2.2.2.1).1
  have : (adv tx z S).2.2.2.1 = skp tx (z - S.2.2.2.2.1) S.2.2.2.2.1 := by unfold adv; simp only []; split <;> rfl
  omega
theorem opO_k {tx : Nat → Nat} {t : Nat} {S : RS} (h : ¬ opO tx t S = 0) : S.2.2.1 ≠ 0 := by
  intro hk
  have h1 : ∀ w, spl tx S w = false := fun w => by
    cases q : spl tx S w with
    | false => rfl
    | true => have := spl_k q; omega
  have h2 : ∀ c, sta tx S c = false := fun c => by
    cases q : sta tx S c with
    | false => rfl
    | true => have := (sta_k q).1; omega
  apply h
  unfold opO
  simp [h1, h2]
/-- an operator of the tier: what the machine does with it -/
theorem stL_op {tx : Nat → Nat} {z t : Nat} {X : MX} (ht : t ≤ 4) (ho : ¬ opO tx t (zS X) = 0) (hT : t = 2 → zT X (zD X) = false) : stL tx z X = ((if t < 2 then 0 else 1), psh tx z (kt t) (opc (opO tx t (zS X))) X (tup t (zD X) (zT X))) ∧ opc (opO tx t (zS X)) < 14 ∧ sgth (opc (opO tx t (zS X))) = kt t ∧ (∀ w, enc w (opO tx t (zS X)) = [opc (opO tx t (zS X))]) ∧ opO tx t (zS X) < 0 ∧ ¬ opO tx t (zS X) = -3 ∧ ∀ w, okSt w (opO tx t (zS X)) := by
  have h5 : t = 0 ∨ t = 1 ∨ t = 2 ∨ t = 3 ∨ t = 4 := by omega
  rcases h5 with rfl | rfl | rfl | rfl | rfl
  · have hs : spl tx (zS X) (swd 21) = true := by
      cases q : spl tx (zS X) (swd 21) with
      | true => rfl
      | false => exact absurd (by unfold opO; rw [if_pos rfl, if_neg (by rw [q]; decide)]) ho
    have e : opO tx 0 (zS X) = -1 := by unfold opO; rw [if_pos rfl, if_pos hs]
    rw [e]
    refine ⟨?_, by decide, by decide, fun w => by cases w <;> decide, by decide, by decide, fun w => by unfold okSt; cases w <;> decide⟩
    unfold stL
    rw [if_neg (by rw [spl_no hs (swd 22) (by decide)]; decide), if_pos hs]; rfl
  · have hs : spl tx (zS X) (swd 22) = true := by
      cases q : spl tx (zS X) (swd 22) with
      | true => rfl
      | false => exact absurd (by unfold opO; rw [if_neg (by decide), if_pos rfl, if_neg (by rw [q]; decide)]) ho
    have e : opO tx 1 (zS X) = -2 := by unfold opO; rw [if_neg (by decide), if_pos rfl, if_pos hs]
    rw [e]
    refine ⟨?_, by decide, by decide, fun w => by cases w <;> decide, by decide, by decide, fun w => by unfold okSt; cases w <;> decide⟩
    unfold stL
    rw [if_pos hs]; rfl
  · cases q : sta tx (zS X) 60 with
    | true =>
      have e : opO tx 2 (zS X) = -4 := by unfold opO; rw [if_neg (by decide), if_neg (by decide), if_pos rfl, if_pos q]
      rw [e]
      refine ⟨?_, by decide, by decide, fun w => by cases w <;> decide, by decide, by decide, fun w => by unfold okSt; cases w <;> decide⟩
      unfold stL
      rw [if_neg (by rw [spl_sta q]; decide), if_neg (by rw [spl_sta q]; decide), if_pos ⟨Or.inl q, hT rfl⟩, if_pos q]; rfl
    | false =>
      have q2 : sta tx (zS X) 61 = true := by
        cases q2 : sta tx (zS X) 61 with
        | true => rfl
        | false => exact absurd (by unfold opO; rw [if_neg (by decide), if_neg (by decide), if_pos rfl, if_neg (by rw [q]; decide), if_neg (by rw [q2]; decide)]) ho
      have e : opO tx 2 (zS X) = -5 := by unfold opO; rw [if_neg (by decide), if_neg (by decide), if_pos rfl, if_neg (by rw [q]; decide), if_pos q2]
      rw [e]
      refine ⟨?_, by decide, by decide, fun w => by cases w <;> decide, by decide, by decide, fun w => by unfold okSt; cases w <;> decide⟩
      unfold stL
      rw [if_neg (by rw [spl_sta q2]; decide), if_neg (by rw [spl_sta q2]; decide), if_pos ⟨Or.inr q2, hT rfl⟩, if_neg (by rw [q]; decide)]; rfl
  · cases q : sta tx (zS X) 43 with
    | true =>
      have e : opO tx 3 (zS X) = -6 := by unfold opO; rw [if_neg (by decide), if_neg (by decide), if_neg (by decide), if_pos rfl, if_pos q]
      rw [e]
      refine ⟨?_, by decide, by decide, fun w => by cases w <;> decide, by decide, by decide, fun w => by unfold okSt; cases w <;> decide⟩
      unfold stL
      rw [if_neg (by rw [spl_sta q]; decide), if_neg (by rw [spl_sta q]; decide), if_neg (by rw [sta_sta q (d := 60) (by decide), sta_sta q (d := 61) (by decide)]; simp), if_pos (Or.inl q), if_pos q]; rfl
    | false =>
      have q2 : sta tx (zS X) 45 = true := by
        cases q2 : sta tx (zS X) 45 with
        | true => rfl
        | false => exact absurd (by unfold opO; rw [if_neg (by decide), if_neg (by decide), if_neg (by decide), if_pos rfl, if_neg (by rw [q]; decide), if_neg (by rw [q2]; decide)]) ho
      have e : opO tx 3 (zS X) = -7 := by unfold opO; rw [if_neg (by decide), if_neg (by decide), if_neg (by decide), if_pos rfl, if_neg (by rw [q]; decide), if_pos q2]
      rw [e]
      refine ⟨?_, by decide, by decide, fun w => by cases w <;> decide, by decide, by decide, fun w => by unfold okSt; cases w <;> decide⟩
      unfold stL
      rw [if_neg (by rw [spl_sta q2]; decide), if_neg (by rw [spl_sta q2]; decide), if_neg (by rw [sta_sta q2 (d := 60) (by decide), sta_sta q2 (d := 61) (by decide)]; simp), if_pos (Or.inr q2), if_neg (by rw [q]; decide)]; rfl
  · cases q : sta tx (zS X) 42 with
    | true =>
      have e : opO tx 4 (zS X) = -8 := by unfold opO; rw [if_neg (by decide), if_neg (by decide), if_neg (by decide), if_neg (by decide), if_pos q]
      rw [e]
      refine ⟨?_, by decide, by decide, fun w => by cases w <;> decide, by decide, by decide, fun w => by unfold okSt; cases w <;> decide⟩
      unfold stL
      rw [if_neg (by rw [spl_sta q]; decide), if_neg (by rw [spl_sta q]; decide), if_neg (by rw [sta_sta q (d := 60) (by decide), sta_sta q (d := 61) (by decide)]; simp), if_neg (by rw [sta_sta q (d := 43) (by decide), sta_sta q (d := 45) (by decide)]; simp), if_pos (Or.inl q), if_pos q]; rfl
    | false =>
      have q2 : sta tx (zS X) 47 = true := by
        cases q2 : sta tx (zS X) 47 with
        | true => rfl
        | false => exact absurd (by unfold opO; rw [if_neg (by decide), if_neg (by decide), if_neg (by decide), if_neg (by decide), if_neg (by rw [q]; decide), if_neg (by rw [q2]; decide)]) ho
      have e : opO tx 4 (zS X) = -9 := by unfold opO; rw [if_neg (by decide), if_neg (by decide), if_neg (by decide), if_neg (by decide), if_neg (by rw [q]; decide), if_pos q2]
      rw [e]
      refine ⟨?_, by decide, by decide, fun w => by cases w <;> decide, by decide, by decide, fun w => by unfold okSt; cases w <;> decide⟩
      unfold stL
      rw [if_neg (by rw [spl_sta q2]; decide), if_neg (by rw [spl_sta q2]; decide), if_neg (by rw [sta_sta q2 (d := 60) (by decide), sta_sta q2 (d := 61) (by decide)]; simp), if_neg (by rw [sta_sta q2 (d := 43) (by decide), sta_sta q2 (d := 45) (by decide)]; simp), if_pos (Or.inr q2), if_neg (by rw [q]; decide)]; rfl
