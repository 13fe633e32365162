/-! ===== the machine does what the tiers do ===== -/
def Rr (t dp : Nat) : Nat := 1 + 5 * (6 - dp) - t
def GRx (tx : Nat → Nat) (z : Nat) (w : Bool) (tq l tp Rh : Nat) (X0 : MX) (s0 : Nat) (steps : List Int32) (X : MX) : Prop :=
  (zS X).1 = 0 ∧ OkR z (zS X) ∧ zD X = zD X0 ∧ (∃ pend, zK X = pend ++ zK X0 ∧ zO X ++ pend = zO X0 ++ encL w steps ∧ ∀ a ∈ pend, a < 14 ∧ l ≤ sgth a) ∧
  (∀ i, i < zD X0 ∨ (i = zD X0 ∧ 3 ≤ tp) → zT X i = zT X0 i) ∧
  ((∀ q, tq ≤ q → q ≤ 4 → q ≠ 2 → opO tx q (zS X) = 0) ∧ (tq ≤ 2 → opO tx 2 (zS X) = 0 ∨ zT X (zD X0) = true)) ∧
  steps.length + s0 ≤ (zS X).2.2.2.1 ∧ (∀ h rest, h + Rh ≤ 40 → hgt h (steps ++ rest) = hgt (h + 1) rest) ∧ ∀ x ∈ steps, okSt w x
def FtX (tx : Nat → Nat) (z : Nat) (w : Bool) (Y : MY) (S : RS) : Prop := S.2.2.1 = 0 ∧ ∃ X', Rch tx z w Y (3, X') ∧ (finS z X').1 = S.1 ∧ (finS z X').2.1 = S.2.1
def SimR (tx : Nat → Nat) (z : Nat) (w : Bool) (tq l tp Rh : Nat) (Y : MY) (X0 : MX) (s0 : Nat) (ps : List Int32) (Z : PZ) : Prop :=
  (¬ Z.1.1 = 0 → FtX tx z w Y Z.1) ∧ (Z.1.1 = 0 → ∃ X' steps, Rch tx z w Y (2, X') ∧ Z = (zS X', ps ++ steps) ∧ GRx tx z w tq l tp Rh X0 s0 steps X')
def md (t : Nat) : Nat := if t ≤ 2 then 0 else 1
def RecOk (tx : Nat → Nat) (z : Nat) (w : Bool) (t dp : Nat) (rec : PZ → PZ) : Prop :=
  ∀ (X1 : MX) (ps : List Int32), (zS X1).1 = 0 → OkR z (zS X1) → ps.length ≤ (zS X1).2.2.2.1 → zD X1 = dp + 1 → (t ≤ 2 → zT X1 (dp + 1) = false) → NBk (kt t) (zK X1) → SimR tx z w t (lo t) t (Rr t dp) (md t, X1) X1 (zS X1).2.2.2.1 ps (rec (zS X1, ps))
theorem FtX.pre {tx : Nat → Nat} {z : Nat} {w : Bool} {Y Y1 : MY} {S : RS} (h : FtX tx z w Y1 S) (g : Rch tx z w Y Y1) : FtX tx z w Y S := by
  obtain ⟨h0, X', h1, h2⟩ := h
  exact ⟨h0, X', g.tr h1, h2⟩
theorem stp_L {tx : Nat → Nat} {z : Nat} {w : Bool} {X : MX} (h : (zS X).1 = 0) : stp tx z w (2, X) = stL tx z X := by
  unfold stp
  rw [if_neg (by decide), if_neg (fun q => q h), if_neg (by decide), if_neg (by decide)]
theorem encL_app (w : Bool) (a b : List Int32) : encL w (a ++ b) = encL w a ++ encL w b := by unfold encL; rw [List.flatMap_append]
theorem addS_lt {ps : List Int32} {x : Int32} (h : ps.length < 700) : addS ps x = ps ++ [x] := if_pos h
theorem hgt_op {op : Int32} {h : Nat} {rest : List Int32} (h0 : op < 0) (h3 : ¬ op = -3) (hh : 1 < h) : hgt h (op :: rest) = hgt (h - 1) rest := by
  show (if 0 ≤ op then _ else if op = -3 then _ else (if 1 < h then hgt (h - 1) rest else none)) = _
  rw [if_neg (Int32.not_le.mpr h0), if_neg h3, if_pos hh]
theorem flt_op {tx : Nat → Nat} {t : Nat} {S : RS} (h : S.2.2.1 = 0) : opO tx t S = 0 := by
  rcases Classical.em (opO tx t S = 0) with q | q
  · exact q
  · exact absurd h (opO_k q)
theorem lop_0 {tx : Nat → Nat} {z : Nat} {rec : PZ → PZ} {t : Nat} {X : PZ} : ∀ n, lopF tx z rec t n 0 X = X := by
  intro n
  cases n with
  | zero => rfl
  | succ n => exact if_pos rfl
theorem lop_1 {tx : Nat → Nat} {z : Nat} {rec : PZ → PZ} {t n : Nat} {op : Int32} {X : PZ} (h : ¬ op = 0) : lopF tx z rec t (n + 1) op X = lopF tx z rec t n (if t = 2 then 0 else opO tx t (rec (adv tx z X.1, X.2)).1) ((rec (adv tx z X.1, X.2)).1, addS (rec (adv tx z X.1, X.2)).2 op) := if_neg h
theorem kt_lo : ∀ t, t ≤ 4 → kt t ≤ lo (t + 1) ∧ kt t < kt (t + 1) := by decide
theorem md_s (t : Nat) : (if t < 2 then 0 else 1) = md (t + 1) := by unfold md; by_cases h : t < 2 <;> simp [h] <;> omega
theorem lop_sim {tx : Nat → Nat} {z : Nat} {w : Bool} (hz : z ≤ 700) {t dp : Nat} (ht : t ≤ 4) (hdp : dp ≤ 5) {rec : PZ → PZ} (hrec : RecOk tx z w (t + 1) dp rec) {X0 : MX} (hD0 : zD X0 = dp + 1) (hNB : NBk (kt t) (zK X0)) {s0 : Nat} {p0 : List Int32} (hp0 : p0.length ≤ s0) :
    ∀ (n : Nat) (op : Int32) (X : MX) (steps : List Int32), GRx tx z w (t + 1) (kt t) t (Rr t dp) X0 s0 steps X → (op = opO tx t (zS X) ∨ (t = 2 ∧ op = 0 ∧ zT X (zD X0) = true)) → (t = 2 → ¬ op = 0 → zT X (zD X) = false) → z - (zS X).2.2.2.1 ≤ n →
      SimR tx z w t (kt t) t (Rr t dp) (2, X) X0 s0 p0 (lopF tx z rec t n op (zS X, p0 ++ steps)) := by
  intro n
  induction n with
  | zero =>
    intro op X steps hG hop hT hn
    obtain ⟨g1, g2, g3, g4, g5, g6, g7, g8, g9⟩ := id hG
    have h0 : op = 0 := by
      rcases hop with e | e
      · rcases Classical.em (op = 0) with q | q
        · exact q
        · have hk := opO_k (by rw [← e]; exact q)
          have := g2.2.2.2.2.2 hk
          have := g2.2.2.2.1
          omega
      · exact e.2.1
    rw [h0, lop_0]
    refine ⟨fun q => absurd g1 q, fun _ => ⟨X, steps, Rch.rf, rfl, g1, g2, g3, g4, g5, ⟨fun q h1 h2 h3 => ?_, fun h1 => ?_⟩, g7, g8, g9⟩⟩
    · rcases Nat.lt_or_ge t q with u | u
      · exact g6.1 q u h2 h3
      · have e : q = t := by omega
        subst e
        rcases hop with e | e
        · rw [← e]; exact h0
        · exact absurd e.1 h3
    · rcases Nat.lt_or_ge t 2 with u | u
      · exact g6.2 u
      · have e : t = 2 := by omega
        subst e
        rcases hop with e | e
        · exact Or.inl (by rw [← e]; exact h0)
        · exact Or.inr e.2.2
  | succ n ih =>
    intro op X steps hG hop hT hn
    obtain ⟨g1, g2, g3, g4, g5, g6, g7, g8, g9⟩ := id hG
    rcases Classical.em (op = 0) with h0 | h0
    · rw [h0, lop_0]
      refine ⟨fun q => absurd g1 q, fun _ => ⟨X, steps, Rch.rf, rfl, g1, g2, g3, g4, g5, ⟨fun q h1 h2 h3 => ?_, fun h1 => ?_⟩, g7, g8, g9⟩⟩
      · rcases Nat.lt_or_ge t q with u | u
        · exact g6.1 q u h2 h3
        · have e : q = t := by omega
          subst e
          rcases hop with e | e
          · rw [← e]; exact h0
          · exact absurd e.1 h3
      · rcases Nat.lt_or_ge t 2 with u | u
        · exact g6.2 u
        · have e : t = 2 := by omega
          subst e
          rcases hop with e | e
          · exact Or.inl (by rw [← e]; exact h0)
          · exact Or.inr e.2.2
    · have hoe : op = opO tx t (zS X) := hop.elim id (fun e => absurd e.2.1 h0)
      have hk := opO_k (by rw [← hoe]; exact h0)
      obtain ⟨pend, k1, k2, k3⟩ := g4
      have hS := stL_op (z := z) ht (by rw [← hoe]; exact h0) (fun e => hT e h0)
      rw [← hoe] at hS
      obtain ⟨s1, s2, s3, s4, s5, s6, s7⟩ := hS
      have hdr : drp (kt t) (zO X) (zK X) = (zO X ++ pend, zK X0) := by rw [k1]; exact drp_all hNB pend (zO X) k3
      have hst := adv_st (tx := tx) g2 hk
      have hX1 : psh tx z (kt t) (opc op) X (tup t (zD X) (zT X)) = (adv tx z (zS X), zO X ++ pend, opc op :: zK X0, zD X, tup t (zD X) (zT X)) := by unfold psh; rw [hdr]
      have hR1 : Rch tx z w (2, X) (md (t + 1), (adv tx z (zS X), zO X ++ pend, opc op :: zK X0, zD X, tup t (zD X) (zT X))) := Rch.st (by rw [stp_L g1, s1, hX1, md_s]) Rch.rf
      have hr := hrec (adv tx z (zS X), zO X ++ pend, opc op :: zK X0, zD X, tup t (zD X) (zT X)) (p0 ++ steps) (by show (adv tx z (zS X)).1 = 0; rw [adv_f]; exact g1) (adv_ok g2) (by rw [List.length_append]; show _ ≤ (adv tx z (zS X)).2.2.2.1; omega) (by show zD X = dp + 1; rw [g3]; exact hD0) (fun h2 => by
          show tup t (zD X) (zT X) (dp + 1) = false
          unfold tup; rw [if_pos (by omega), g3, hD0]; unfold upB; rw [if_pos rfl]) (fun q => by
          have := q.2; rw [s3] at this; have := (kt_lo t ht).2; omega)
      rw [lop_1 h0]
      generalize hZ : rec (adv tx z (zS X), p0 ++ steps) = Z1 at hr ⊢
      have hZ' : rec (zS (adv tx z (zS X), zO X ++ pend, opc op :: zK X0, zD X, tup t (zD X) (zT X)), p0 ++ steps) = Z1 := hZ
      rw [hZ'] at hr
      rcases Classical.em (Z1.1.1 = 0) with hz1 | hz1
      · obtain ⟨X2, steps2, r1, r2, r3⟩ := hr.2 hz1
        obtain ⟨a1, a2, a3, a4, a5, a6, a7, a8, a9⟩ := r3
        obtain ⟨pend2, b1, b2, b3⟩ := a4
        have a7' : steps2.length + (adv tx z (zS X)).2.2.2.1 ≤ (zS X2).2.2.2.1 := a7
        have h2z : (zS X2).2.2.2.1 ≤ z := a2.2.2.1
        have hlen : (p0 ++ steps ++ steps2).length < 700 := by rw [List.length_append, List.length_append]; omega
        rw [r2]
        show SimR tx z w t (kt t) t (Rr t dp) (2, X) X0 s0 p0 (lopF tx z rec t n (if t = 2 then 0 else opO tx t (zS X2)) (zS X2, addS (p0 ++ steps ++ steps2) op))
        rw [addS_lt hlen, show p0 ++ steps ++ steps2 ++ [op] = p0 ++ (steps ++ steps2 ++ [op]) by simp [List.append_assoc]]
        have a3' : zD X2 = zD X := a3
        have hG2 : GRx tx z w (t + 1) (kt t) t (Rr t dp) X0 s0 (steps ++ steps2 ++ [op]) X2 := by
          refine ⟨a1, a2, a3'.trans g3, ⟨pend2 ++ [opc op], ?_, ?_, ?_⟩, fun i hi => ?_, ⟨fun q q1 q2 q3 => a6.1 q q1 q2 q3, fun q1 => ?_⟩, ?_, fun h rest hh => ?_, ?_⟩
          · rw [b1]; show pend2 ++ (opc op :: zK X0) = _; simp
          · rw [← List.append_assoc, b2]
            show zO X ++ pend ++ encL w steps2 ++ [opc op] = _
            rw [k2, encL_app, encL_app, show encL w [op] = [opc op] by unfold encL; simp [s4 w]]
            simp [List.append_assoc]
          · intro a ha
            rcases List.mem_append.mp ha with q | q
            · exact ⟨(b3 a q).1, Nat.le_trans (kt_lo t ht).1 (b3 a q).2⟩
            · rw [List.mem_singleton.mp q]; exact ⟨s2, by omega⟩
          · have hi2 : zT X2 i = tup t (zD X) (zT X) i := a5 i (by
              show i < zD X ∨ (i = zD X ∧ 3 ≤ t + 1)
              rw [g3]; rcases hi with q | q
              · exact Or.inl q
              · exact Or.inr ⟨q.1, by omega⟩)
            rw [hi2, ← g5 i hi]
            unfold tup upB
            rw [g3]
            rcases hi with q | q
            · split
              · rw [if_neg (by omega)]
              · split
                · rw [if_neg (by omega)]
                · rfl
            · rw [if_neg (by omega), if_neg (by omega)]
          · have := a6.2 q1
            rw [show zD (adv tx z (zS X), zO X ++ pend, opc op :: zK X0, zD X, tup t (zD X) (zT X)) = zD X0 from g3] at this
            exact this
          · rw [List.length_append, List.length_append]; simp only [List.length_cons, List.length_nil]; omega
          · have hR : Rr t dp = Rr (t + 1) dp + 1 := by unfold Rr; omega
            rw [List.append_assoc, List.append_assoc, g8 h _ hh, a8 (h + 1) _ (by omega)]
            show hgt (h + 1 + 1) (op :: rest) = _
            rw [hgt_op s5 s6 (by omega)]; rfl
          · intro x hx
            rcases List.mem_append.mp hx with q | q
            · rcases List.mem_append.mp q with q | q
              · exact g9 x q
              · exact a9 x q
            · rw [List.mem_singleton.mp q]; exact s7 w
        have hi := ih (if t = 2 then 0 else opO tx t (zS X2)) X2 (steps ++ steps2 ++ [op]) hG2 (by
            by_cases h2 : t = 2
            · refine Or.inr ⟨h2, by rw [if_pos h2], ?_⟩
              have := a5 (zD X0) (Or.inr ⟨g3.symm, by omega⟩)
              rw [this]
              show tup t (zD X) (zT X) (zD X0) = true
              unfold tup upB
              rw [if_neg (by omega), if_pos h2, if_pos g3.symm]
            · exact Or.inl (by rw [if_neg h2])) (fun h2 q => absurd (by rw [if_pos h2]) q) (by omega)
        refine ⟨fun q => (hi.1 q).pre (hR1.tr r1), fun q => ?_⟩
        obtain ⟨X3, s3', c1, c2, c3⟩ := hi.2 q
        exact ⟨X3, s3', (hR1.tr r1).tr c1, c2, c3⟩
      · have hf := hr.1 hz1
        have e0 : (if t = 2 then (0 : Int32) else opO tx t Z1.1) = 0 := by split; rfl; exact flt_op hf.1
        rw [e0, lop_0]
        exact ⟨fun _ => hf.pre hR1, fun q => absurd q hz1⟩
