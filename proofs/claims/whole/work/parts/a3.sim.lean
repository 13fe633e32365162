/-! ===== the machine does what the tiers do ===== -/
def Rr (t dp : Nat) : Nat := 1 + 5 * (6 - dp) - t
def GRx (tx : Nat → Nat) (z : Nat) (w : Bool) (tq l tp Rh : Nat) (X0 : MX) (s0 : Nat) (steps : List Int32) (X : MX) : Prop :=
  (zS X).1 = 0 ∧ OkR z (zS X) ∧ zD X = zD X0 ∧ (∃ pend, zK X = pend ++ zK X0 ∧ zO X ++ pend = zO X0 ++ encL w steps ∧ ∀ a ∈ pend, a < 14 ∧ l ≤ sgth a) ∧
  (∀ i, i < zD X0 ∨ (i = zD X0 ∧ 3 ≤ tp) → zT X i = zT X0 i) ∧
  ((∀ q, tq ≤ q → q ≤ 4 → q ≠ 2 → opO tx q (zS X) = 0) ∧ (tq ≤ 2 → opO tx 2 (zS X) = 0 ∨ zT X (zD X0) = true)) ∧
  steps.length + s0 ≤ (zS X).2.2.2.1 ∧ (∀ h rest, h + Rh ≤ 40 → hgt h (steps ++ rest) = hgt (h + 1) rest) ∧ ∀ x ∈ steps, okSt w x
def FtX (tx : Nat → Nat) (z : Nat) (w : Bool) (Y : MY) (S : RS) : Prop := S.2.2.1 = 0 ∧ ∃ X', Rch tx z w Y (3, X') ∧ (finS z X').1 = S.1 ∧ (finS z X').2.1 = S.2.1
def SimR (tx : Nat → Nat) (z : Nat) (w : Bool) (tq l tp Rh : Nat) (Y : MY) (X0 : MX) (s0 : Nat) (ps : List Int32) (Z : PZ) : Prop :=
  (¬ Z.1.1 = 0 → FtX tx z w Y Z.1) ∧ (Z.1.1 = 0 → ∃ X' steps, Rch tx z w Y (2, X') ∧ Z = (zS X', ps ++ steps) ∧ GRx tx z w tq l tp Rh X0 s0 steps X')
def md (t : Nat) : Nat := if t ≤ 2 then 0 else 1
def RecOk (tx : Nat → Nat) (z : Nat) (w : Bool) (t dp : Nat) (rec : PZ → PZ) : Prop :=
  ∀ (X1 : MX) (ps : List Int32), (zS X1).1 = 0 → OkR z (zS X1) → ps.length ≤ (zS X1).2.2.2.1 → zD X1 = dp + 1 → (t ≤ 2 → zT X1 (dp + 1) = false) → NBk (kt t) (zK X1) → SimR tx z w t (lo t) t (Rr t dp) (md t, X1) X1 (zS X1).2.2.2.1 ps (rec (zS X1, ps))
theorem FtX.pre {tx : Nat → Nat} {z : Nat} {w : Bool} {Y Y1 : MY} {S : RS} (h : FtX tx z w Y1 S) (g : Rch tx z w Y Y1) : FtX tx z w Y S := by
  obtain ⟨h0, X', h1, h2⟩ := h
  exact ⟨h0, X', g.tr h1, h2⟩
theorem stp_L {tx : Nat → Nat} {z : Nat} {w : Bool} {X : MX} (h : (zS X).1 = 0) : stp tx z w (2, X) = stL tx z X := by
  show (if (2 : Nat) = 3 then (2, X) else if ¬ (zS X).1 = 0 then (3, X) else if (2 : Nat) = 0 then stO1 tx z w (ntX tx z X) else if (2 : Nat) = 1 then stO1 tx z w X else stL tx z X) = _
  rw [if_neg (by decide), if_neg (fun q => q h), if_neg (by decide), if_neg (by decide)]
theorem stp_0 {tx : Nat → Nat} {z : Nat} {w : Bool} {X : MX} (h : (zS X).1 = 0) : stp tx z w (0, X) = stO1 tx z w (ntX tx z X) := by
  show (if (0 : Nat) = 3 then (0, X) else if ¬ (zS X).1 = 0 then (3, X) else if (0 : Nat) = 0 then stO1 tx z w (ntX tx z X) else if (0 : Nat) = 1 then stO1 tx z w X else stL tx z X) = _
  rw [if_neg (by decide), if_neg (fun q => q h), if_pos rfl]
theorem stp_1 {tx : Nat → Nat} {z : Nat} {w : Bool} {X : MX} (h : (zS X).1 = 0) : stp tx z w (1, X) = stO1 tx z w X := by
  show (if (1 : Nat) = 3 then (1, X) else if ¬ (zS X).1 = 0 then (3, X) else if (1 : Nat) = 0 then stO1 tx z w (ntX tx z X) else if (1 : Nat) = 1 then stO1 tx z w X else stL tx z X) = _
  rw [if_neg (by decide), if_neg (fun q => q h), if_neg (by decide), if_pos rfl]
theorem encL_app (w : Bool) (a b : List Int32) : encL w (a ++ b) = encL w a ++ encL w b := by unfold encL; rw [List.flatMap_append]
theorem addS_lt {ps : List Int32} {x : Int32} (h : ps.length < 700) : addS ps x = ps ++ [x] := if_pos h
theorem hgt_op {op : Int32} {h : Nat} {rest : List Int32} (h0 : op < 0) (h3 : ¬ op = -3) (hh : 1 < h) : hgt h (op :: rest) = hgt (h - 1) rest := by
  show (if 0 ≤ op then _ else if op = -3 then _ else (if 1 < h then hgt (h - 1) rest else none)) = _
  rw [if_neg (Int32.not_le.mpr h0), if_neg h3, if_pos hh]
theorem flt_op {tx : Nat → Nat} {t : Nat} {S : RS} (h : S.2.2.1 = 0) : opO tx t S = 0 := by
  rcases Classical.em (opO tx t S = 0) with q | q
  · exact q
  · exact absurd h (opO_k q)
theorem lop_0 {tx : Nat → Nat} {z : Nat} {rec : PZ → PZ} {t : Nat} {X : PZ} : ∀ n, lopF tx z rec t n 0 X = X := by
  intro n
  cases n with
  | zero => rfl
  | succ n => exact if_pos rfl
theorem lop_1 {tx : Nat → Nat} {z : Nat} {rec : PZ → PZ} {t n : Nat} {op : Int32} {X : PZ} (h : ¬ op = 0) : lopF tx z rec t (n + 1) op X = lopF tx z rec t n (if t = 2 then 0 else opO tx t (rec (adv tx z X.1, X.2)).1) ((rec (adv tx z X.1, X.2)).1, addS (rec (adv tx z X.1, X.2)).2 op) := if_neg h
theorem kt_lo : ∀ t, t ≤ 4 → kt t ≤ lo (t + 1) ∧ kt t < kt (t + 1) := by decide
theorem md_s (t : Nat) : (if t < 2 then 0 else 1) = md (t + 1) := by unfold md; by_cases h : t < 2 <;> simp [h] <;> omega
theorem lop_sim {tx : Nat → Nat} {z : Nat} {w : Bool} (hz : z ≤ 700) {t dp : Nat} (ht : t ≤ 4) (hdp : dp ≤ 5) {rec : PZ → PZ} (hrec : RecOk tx z w (t + 1) dp rec) {X0 : MX} (hD0 : zD X0 = dp + 1) (hNB : NBk (kt t) (zK X0)) {s0 : Nat} {p0 : List Int32} (hp0 : p0.length ≤ s0) :
    ∀ (n : Nat) (op : Int32) (X : MX) (steps : List Int32), GRx tx z w (t + 1) (kt t) t (Rr t dp) X0 s0 steps X → (op = opO tx t (zS X) ∨ (t = 2 ∧ op = 0 ∧ zT X (zD X0) = true)) → (t = 2 → ¬ op = 0 → zT X (zD X) = false) → z - (zS X).2.2.2.1 ≤ n →
      SimR tx z w t (kt t) t (Rr t dp) (2, X) X0 s0 p0 (lopF tx z rec t n op (zS X, p0 ++ steps)) := by
  intro n
  induction n with
  | zero =>
    intro op X steps hG hop hT hn
    obtain ⟨g1, g2, g3, g4, g5, g6, g7, g8, g9⟩ := id hG
    have h0 : op = 0 := by
      rcases hop with e | e
      · rcases Classical.em (op = 0) with q | q
        · exact q
        · have hk := opO_k (by rw [← e]; exact q)
          have := g2.2.2.2.2.2 hk
          have := g2.2.2.2.1
          omega
      · exact e.2.1
    rw [h0, lop_0]
    refine ⟨fun q => absurd g1 q, fun _ => ⟨X, steps, Rch.rf, rfl, g1, g2, g3, g4, g5, ⟨fun q h1 h2 h3 => ?_, fun h1 => ?_⟩, g7, g8, g9⟩⟩
    · rcases Nat.lt_or_ge t q with u | u
      · exact g6.1 q u h2 h3
      · have e : q = t := by omega
        subst e
        rcases hop with e | e
        · rw [← e]; exact h0
        · exact absurd e.1 h3
    · rcases Nat.lt_or_ge t 2 with u | u
      · exact g6.2 u
      · have e : t = 2 := by omega
        subst e
        rcases hop with e | e
        · exact Or.inl (by rw [← e]; exact h0)
        · exact Or.inr e.2.2
  | succ n ih =>
    intro op X steps hG hop hT hn
    obtain ⟨g1, g2, g3, g4, g5, g6, g7, g8, g9⟩ := id hG
    rcases Classical.em (op = 0) with h0 | h0
    · rw [h0, lop_0]
      refine ⟨fun q => absurd g1 q, fun _ => ⟨X, steps, Rch.rf, rfl, g1, g2, g3, g4, g5, ⟨fun q h1 h2 h3 => ?_, fun h1 => ?_⟩, g7, g8, g9⟩⟩
      · rcases Nat.lt_or_ge t q with u | u
        · exact g6.1 q u h2 h3
        · have e : q = t := by omega
          subst e
          rcases hop with e | e
          · rw [← e]; exact h0
          · exact absurd e.1 h3
      · rcases Nat.lt_or_ge t 2 with u | u
        · exact g6.2 u
        · have e : t = 2 := by omega
          subst e
          rcases hop with e | e
          · exact Or.inl (by rw [← e]; exact h0)
          · exact Or.inr e.2.2
    · have hoe : op = opO tx t (zS X) := hop.elim id (fun e => absurd e.2.1 h0)
      have hk := opO_k (by rw [← hoe]; exact h0)
      obtain ⟨pend, k1, k2, k3⟩ := g4
      have hS := stL_op (z := z) ht (by rw [← hoe]; exact h0) (fun e => hT e h0)
      rw [← hoe] at hS
      obtain ⟨s1, s2, s3, s4, s5, s6, s7⟩ := hS
      have hdr : drp (kt t) (zO X) (zK X) = (zO X ++ pend, zK X0) := by rw [k1]; exact drp_all hNB pend (zO X) k3
      have hst := adv_st (tx := tx) g2 hk
      have hX1 : psh tx z (kt t) (opc op) X (tup t (zD X) (zT X)) = (adv tx z (zS X), zO X ++ pend, opc op :: zK X0, zD X, tup t (zD X) (zT X)) := by unfold psh; rw [hdr]
      have hR1 : Rch tx z w (2, X) (md (t + 1), (adv tx z (zS X), zO X ++ pend, opc op :: zK X0, zD X, tup t (zD X) (zT X))) := Rch.st (by rw [stp_L g1, s1, hX1, md_s]) Rch.rf
      have hr := hrec (adv tx z (zS X), zO X ++ pend, opc op :: zK X0, zD X, tup t (zD X) (zT X)) (p0 ++ steps) (by show (adv tx z (zS X)).1 = 0; rw [adv_f]; exact g1) (adv_ok g2) (by rw [List.length_append]; show _ ≤ (adv tx z (zS X)).2.2.2.1; omega) (by show zD X = dp + 1; rw [g3]; exact hD0) (fun h2 => by
          show tup t (zD X) (zT X) (dp + 1) = false
          unfold tup; rw [if_pos (by omega), g3, hD0]; unfold upB; rw [if_pos rfl]) (fun q => by
          have := q.2; rw [s3] at this; have := (kt_lo t ht).2; omega)
      rw [lop_1 h0]
      generalize hZ : rec (adv tx z (zS X), p0 ++ steps) = Z1 at hr ⊢
      have hZ' : rec (zS (adv tx z (zS X), zO X ++ pend, opc op :: zK X0, zD X, tup t (zD X) (zT X)), p0 ++ steps) = Z1 := hZ
      rw [hZ'] at hr
      rcases Classical.em (Z1.1.1 = 0) with hz1 | hz1
      · obtain ⟨X2, steps2, r1, r2, r3⟩ := hr.2 hz1
        obtain ⟨a1, a2, a3, a4, a5, a6, a7, a8, a9⟩ := r3
        obtain ⟨pend2, b1, b2, b3⟩ := a4
        have a7' : steps2.length + (adv tx z (zS X)).2.2.2.1 ≤ (zS X2).2.2.2.1 := a7
        have h2z : (zS X2).2.2.2.1 ≤ z := a2.2.2.1
        have hlen : (p0 ++ steps ++ steps2).length < 700 := by rw [List.length_append, List.length_append]; omega
        rw [r2]
        show SimR tx z w t (kt t) t (Rr t dp) (2, X) X0 s0 p0 (lopF tx z rec t n (if t = 2 then 0 else opO tx t (zS X2)) (zS X2, addS (p0 ++ steps ++ steps2) op))
        rw [addS_lt hlen, show p0 ++ steps ++ steps2 ++ [op] = p0 ++ (steps ++ steps2 ++ [op]) by simp [List.append_assoc]]
        have a3' : zD X2 = zD X := a3
        have hG2 : GRx tx z w (t + 1) (kt t) t (Rr t dp) X0 s0 (steps ++ steps2 ++ [op]) X2 := by
          refine ⟨a1, a2, a3'.trans g3, ⟨pend2 ++ [opc op], ?_, ?_, ?_⟩, fun i hi => ?_, ⟨fun q q1 q2 q3 => a6.1 q q1 q2 q3, fun q1 => ?_⟩, ?_, fun h rest hh => ?_, ?_⟩
          · rw [b1]; show pend2 ++ (opc op :: zK X0) = _; simp
          · rw [← List.append_assoc, b2]
            show zO X ++ pend ++ encL w steps2 ++ [opc op] = _
            rw [k2, encL_app, encL_app, show encL w [op] = [opc op] by unfold encL; simp [s4 w]]
            simp [List.append_assoc]
          · intro a ha
            rcases List.mem_append.mp ha with q | q
            · exact ⟨(b3 a q).1, Nat.le_trans (kt_lo t ht).1 (b3 a q).2⟩
            · rw [List.mem_singleton.mp q]; exact ⟨s2, by omega⟩
          · have hi2 : zT X2 i = tup t (zD X) (zT X) i := a5 i (by
              show i < zD X ∨ (i = zD X ∧ 3 ≤ t + 1)
              rw [g3]; rcases hi with q | q
              · exact Or.inl q
              · exact Or.inr ⟨q.1, by omega⟩)
            rw [hi2, ← g5 i hi]
            unfold tup upB
            rw [g3]
            rcases hi with q | q
            · split
              · show (if i = zD X0 then false else zT X i) = zT X i; rw [if_neg (by omega)]
              · split
                · show (if i = zD X0 then true else zT X i) = zT X i; rw [if_neg (by omega)]
                · rfl
            · rw [if_neg (by omega), if_neg (by omega)]
          · have := a6.2 q1
            rw [show zD (adv tx z (zS X), zO X ++ pend, opc op :: zK X0, zD X, tup t (zD X) (zT X)) = zD X0 from g3] at this
            exact this
          · rw [List.length_append, List.length_append]; simp only [List.length_cons, List.length_nil]; omega
          · have hR : Rr t dp = Rr (t + 1) dp + 1 := by unfold Rr; omega
            rw [List.append_assoc, List.append_assoc, g8 h _ hh, a8 (h + 1) _ (by omega)]
            show hgt (h + 1 + 1) (op :: rest) = _
            rw [hgt_op s5 s6 (by omega)]; rfl
          · intro x hx
            rcases List.mem_append.mp hx with q | q
            · rcases List.mem_append.mp q with q | q
              · exact g9 x q
              · exact a9 x q
            · rw [List.mem_singleton.mp q]; exact s7 w
        have hi := ih (if t = 2 then 0 else opO tx t (zS X2)) X2 (steps ++ steps2 ++ [op]) hG2 (by
            by_cases h2 : t = 2
            · refine Or.inr ⟨h2, by rw [if_pos h2], ?_⟩
              have := a5 (zD X0) (Or.inr ⟨g3.symm, by omega⟩)
              rw [this]
              show tup t (zD X) (zT X) (zD X0) = true
              unfold tup upB
              rw [if_neg (by omega), if_pos h2, if_pos g3.symm]
            · exact Or.inl (by rw [if_neg h2])) (fun h2 q => absurd (by rw [if_pos h2]) q) (by omega)
        refine ⟨fun q => (hi.1 q).pre (hR1.tr r1), fun q => ?_⟩
        obtain ⟨X3, s3', c1, c2, c3⟩ := hi.2 q
        exact ⟨X3, s3', (hR1.tr r1).tr c1, c2, c3⟩
      · have hf := hr.1 hz1
        have e0 : (if t = 2 then (0 : Int32) else opO tx t Z1.1) = 0 := by split; rfl; exact flt_op hf.1
        rw [e0, lop_0]
        exact ⟨fun _ => hf.pre hR1, fun q => absurd q hz1⟩
theorem fai_k {z w : Nat} {S : RS} (h : S.1 = 0) : (fai z w S).2.2.1 = 0 ∧ (fai z w S).1 = w ∧ (fai z w S).2.1 = nI S.2.2.2.1 := by unfold fai; rw [if_pos h]; exact ⟨rfl, rfl, rfl⟩
theorem flt_spl {tx : Nat → Nat} {S : RS} (h : S.2.2.1 = 0) (w : List Nat) : spl tx S w = false := by
  cases q : spl tx S w with
  | false => rfl
  | true => have := spl_k q; omega
theorem flt_sta {tx : Nat → Nat} {S : RS} (h : S.2.2.1 = 0) (c : Nat) : sta tx S c = false := by
  cases q : sta tx S c with
  | false => rfl
  | true => have := (sta_k q).1; omega
theorem flt_nots {tx : Nat → Nat} {z : Nat} {S : RS} (h : S.2.2.1 = 0) : rdNots tx z S = (0, S) := by
  unfold rdNots
  rw [nots_f (flt_spl h _), ntE_f (flt_spl h _)]
theorem flt_rdS {tx : Nat → Nat} {z c : Nat} {S : RS} (h : S.2.2.1 = 0) (hf : ¬ S.1 = 0) : rdS tx z c S = S := by
  unfold rdS; rw [if_neg (by rw [flt_sta h]; decide)]; exact fai_f hf
theorem tir_flt (tx : Nat → Nat) (z : Nat) (w : Bool) : ∀ g t dp S ps, ¬ S.1 = 0 → S.2.2.1 = 0 → (tirF tx z w g t dp (S, ps)).1 = S := by
  intro g
  induction g with
  | zero => intro t dp S ps _ _; rfl
  | succ g ih =>
    intro t dp S ps hf hk
    by_cases h1 : t = 0 ∧ 6 ≤ dp
    · show (if t = 0 ∧ 6 ≤ dp then (deep tx z S, ps) else _).1 = S
      rw [if_pos h1]; exact fai_f hf
    · by_cases h2 : 4 < t
      · show (if t = 0 ∧ 6 ≤ dp then (deep tx z S, ps) else if 4 < t then prtF tx z w (tirF tx z w g 0 (dp + 1)) (S, ps) else _).1 = S
        rw [if_neg h1, if_pos h2]
        unfold prtF
        rw [if_neg (by show ¬ S.2.2.1 = 2; omega), if_neg (by show ¬ S.2.2.1 = 1; omega), if_neg (by show ¬ sta tx S 40 = true; rw [flt_sta hk]; decide)]
        exact fai_f hf
      · rw [tirF_eq tx z w g t dp S ps h1 h2]
        have hn : ntF tx z t S = (0, S) := by unfold ntF; split; exact flt_nots hk; rfl
        rw [hn]
        have hr := ih (t + 1) dp S ps hf hk
        show (lopF tx z (tirF tx z w g (t + 1) dp) t 700 (opO tx t (tirF tx z w g (t + 1) dp (S, ps)).1) (tirF tx z w g (t + 1) dp (S, ps))).1 = S
        rw [hr, flt_op hk, lop_0]; exact hr
theorem nots_st {tx : Nat → Nat} {z : Nat} : ∀ n (S : RS), OkR z S → S.1 = 0 → (nots tx z n S).2.1 = 0 ∧ (nots tx z n S).1 + S.2.2.2.1 ≤ (nots tx z n S).2.2.2.2.1 := by
  intro n
  induction n with
  | zero => intro S _ h; exact ⟨h, Nat.le_of_eq (Nat.zero_add _)⟩
  | succ n ih =>
    intro S ho h
    cases q : spl tx S (swd 20) with
    | false => rw [nots_f q]; exact ⟨h, Nat.le_of_eq (Nat.zero_add _)⟩
    | true =>
      rw [nots_t q]
      have h1 := ih (adv tx z S) (adv_ok ho) (by rw [adv_f]; exact h)
      have h2 := adv_st (tx := tx) ho (by rw [spl_k q]; decide)
      exact ⟨h1.1, by show (nots tx z n (adv tx z S)).1 + 1 + _ ≤ (nots tx z n (adv tx z S)).2.2.2.2.1; omega⟩
theorem rdNots_st {tx : Nat → Nat} {z : Nat} {S : RS} (ho : OkR z S) (h : S.1 = 0) : (¬ (rdNots tx z S).2.1 = 0 → (rdNots tx z S).2.2.2.1 = 0) ∧ ((rdNots tx z S).2.1 = 0 → (rdNots tx z S).1 + S.2.2.2.1 ≤ (rdNots tx z S).2.2.2.2.1) := by
  have h1 := nots_st (tx := tx) 6 S ho h
  unfold rdNots
  show (¬ (ntE tx z (nots tx z 6 S).2).1 = 0 → (ntE tx z (nots tx z 6 S).2).2.2.1 = 0) ∧ ((ntE tx z (nots tx z 6 S).2).1 = 0 → (nots tx z 6 S).1 + S.2.2.2.1 ≤ (ntE tx z (nots tx z 6 S).2).2.2.2.1)
  cases q : spl tx (nots tx z 6 S).2 (swd 20) with
  | false => rw [ntE_f q]; exact ⟨fun w => absurd h1.1 w, fun _ => h1.2⟩
  | true =>
    rw [ntE_t q]
    have h2 := fai_k (z := z) (w := 2) h1.1
    exact ⟨fun _ => h2.1, fun w => by rw [h2.2.1] at w; cases w⟩
theorem anF_rep : ∀ j ps, ps.length + j ≤ 700 → anF j ps = ps ++ List.replicate j (-3) := by
  intro j
  induction j with
  | zero => intro ps _; simp [anF]
  | succ j ih =>
    intro ps h
    show anF j (addS ps (-3)) = _
    rw [addS_lt (by omega), ih _ (by rw [List.length_append]; simp; omega), List.replicate_succ, List.append_assoc]; rfl
theorem hgt_not {h : Nat} {rest : List Int32} : ∀ j, hgt (h + 1) (List.replicate j (-3) ++ rest) = hgt (h + 1) rest := by
  intro j
  induction j with
  | zero => rfl
  | succ j ih =>
    rw [List.replicate_succ]
    show (if (0 : Int32) ≤ -3 then _ else if (-3 : Int32) = -3 then (if 0 < h + 1 then hgt (h + 1) (List.replicate j (-3) ++ rest) else none) else _) = _
    rw [if_neg (by decide), if_pos rfl, if_pos (Nat.succ_pos h)]; exact ih
theorem enc_rep (w : Bool) : ∀ j, encL w (List.replicate j (-3)) = List.replicate j 3 := by
  intro j
  induction j with
  | zero => rfl
  | succ j ih => rw [List.replicate_succ, List.replicate_succ]; show enc w (-3) ++ encL w (List.replicate j (-3)) = _; rw [ih]; cases w <;> rfl
theorem enc_v {w : Bool} {s : Nat} (h : s < 6) (hw : w = true → s < 5) : enc w (nI (10000 + s)) = [2, nI (slt w s)] ∧ okSt w (nI (10000 + s)) ∧ 0 ≤ nI (10000 + s) := by
  have : s = 0 ∨ s = 1 ∨ s = 2 ∨ s = 3 ∨ s = 4 ∨ s = 5 := by omega
  unfold okSt
  cases w with
  | false => rcases this with rfl | rfl | rfl | rfl | rfl | rfl <;> decide
  | true =>
    have h5 := hw rfl
    rcases this with rfl | rfl | rfl | rfl | rfl | rfl
    · decide
    · decide
    · decide
    · decide
    · decide
    · omega
theorem hgt_v {x : Int32} {h : Nat} {rest : List Int32} (h0 : 0 ≤ x) (hh : h < 40) : hgt h (x :: rest) = hgt (h + 1) rest := by
  show (if 0 ≤ x then (if h < 40 then hgt (h + 1) rest else none) else _) = _
  rw [if_pos h0, if_pos hh]
theorem fin_f {z : Nat} {X : MX} (h : ¬ (zS X).1 = 0) : finS z X = zS X := if_neg (fun q => h q.1)
theorem FtX.of {tx : Nat → Nat} {z : Nat} {w : Bool} {m : Nat} {X : MX} (h : ¬ (zS X).1 = 0) (hk : (zS X).2.2.1 = 0) : FtX tx z w (m, X) (zS X) := ⟨hk, X, Rch.flt h, by rw [fin_f h], by rw [fin_f h]⟩
theorem sl_lt {tx : Nat → Nat} {w : Bool} {S : RS} {s : Nat} (h : (if w = true then slT tx S else slH tx S) = some s) : s < 6 ∧ (w = true → s < 5) := by
  cases w with
  | false => exact ⟨slH_lt h, fun q => by cases q⟩
  | true => exact ⟨slT_lt h, fun _ => slT_lt5 h⟩
theorem prt_sim {tx : Nat → Nat} {z : Nat} {w : Bool} (hz : z ≤ 700) {dp : Nat} (hdp : dp ≤ 5) {rec : PZ → PZ} (h6 : dp = 5 → ∀ S ps, rec (S, ps) = (deep tx z S, ps)) (hrec : dp < 5 → RecOk tx z w 0 (dp + 1) rec) : RecOk tx z w 5 dp (prtF tx z w rec) := by
  intro X0 ps hg ho hps hD _ hNB
  have hmd : md 5 = 1 := rfl
  rw [hmd]
  have hst1 := stp_1 (tx := tx) (z := z) (w := w) hg
  have hO1 : stO1 tx z w X0 = if sta tx (zS X0) 40 = true then (0, dee tx z (adv tx z (zS X0), zO X0, 14 :: zK X0, zD X0, zT X0)) else (2, prM tx z w X0) := if_neg (fun q => q hg)
  have hR5 : Rr 5 dp = 1 + 5 * (6 - dp) - 5 := rfl
  by_cases k2 : (zS X0).2.2.1 = 2
  · have hns : sta tx (zS X0) 40 = false := by
      cases q : sta tx (zS X0) 40 with
      | false => rfl
      | true => have := (sta_k q).1; omega
    rw [hns, if_neg (by decide)] at hO1
    have hz1 : prtF tx z w rec (zS X0, ps) = ((rdN tx z 9999 (zS X0)).2, addS ps (nI (rdN tx z 9999 (zS X0)).1)) := if_pos k2
    by_cases hn : (zS X0).2.2.2.2.2 ≤ 9999
    · have hr : rdN tx z 9999 (zS X0) = ((zS X0).2.2.2.2.2, adv tx z (zS X0)) := by unfold rdN; rw [if_pos k2, if_pos hn]
      have hm : prM tx z w X0 = (adv tx z (zS X0), zO X0 ++ [1, nI (zS X0).2.2.2.2.2], zK X0, zD X0, zT X0) := by unfold prM; rw [if_pos k2, if_pos hn]
      have hst := adv_st (tx := tx) ho (by omega)
      have h1z := ho.2.2.1
      have hlz := ho.2.2.2.2.2 (by omega)
      have hez := ho.2.2.2.1
      rw [hz1, hr]
      refine ⟨fun q => absurd (by show (adv tx z (zS X0)).1 = 0; rw [adv_f]; exact hg) q, fun _ => ⟨_, [nI (zS X0).2.2.2.2.2], Rch.st (hst1.trans (hO1.trans (by rw [hm]))) Rch.rf, ?_, ?_⟩⟩
      · show (adv tx z (zS X0), addS ps _) = _
        rw [addS_lt (by omega)]; rfl
      · refine ⟨by show (adv tx z (zS X0)).1 = 0; rw [adv_f]; exact hg, adv_ok ho, rfl, ⟨[], rfl, ?_, fun a ha => by cases ha⟩, fun i _ => rfl, ⟨fun q h1 h2 => absurd h1 (by omega), fun h1 => absurd h1 (by decide)⟩, ?_, fun h rest hh => ?_, ?_⟩
        · show zO X0 ++ [1, nI (zS X0).2.2.2.2.2] ++ [] = zO X0 ++ encL w [nI (zS X0).2.2.2.2.2]
          rw [List.append_nil]
          show _ = zO X0 ++ (enc w (nI (zS X0).2.2.2.2.2) ++ [])
          rw [enc_1 (nI_le (a := 0) (Nat.zero_le _) (by omega)) (nI_lt (b := 10000) (by omega) (by decide)), List.append_nil]
        · show 1 + (zS X0).2.2.2.1 ≤ (adv tx z (zS X0)).2.2.2.1; omega
        · exact hgt_v (nI_le (a := 0) (Nat.zero_le _) (by omega)) (by omega)
        · intro x hx
          rw [List.mem_singleton.mp hx]
          refine ⟨Int32.le_trans (show (-9 : Int32) ≤ 0 by decide) (nI_le (a := 0) (Nat.zero_le _) (by omega)), ?_⟩
          cases w
          · exact nI_lt (b := 10006) (by omega) (by decide)
          · exact nI_lt (b := 10005) (by omega) (by decide)
    · have hr : rdN tx z 9999 (zS X0) = (0, fai z 2 (zS X0)) := by unfold rdN; rw [if_pos k2, if_neg hn]
      have hm : prM tx z w X0 = (fai z 2 (zS X0), zO X0, zK X0, zD X0, zT X0) := by unfold prM; rw [if_pos k2, if_neg hn]
      have hf := fai_k (z := z) (w := 2) hg
      rw [hz1, hr]
      have hft : FtX tx z w (2, prM tx z w X0) (fai z 2 (zS X0)) := by rw [hm]; exact FtX.of (X := (fai z 2 (zS X0), zO X0, zK X0, zD X0, zT X0)) (by show ¬ (fai z 2 (zS X0)).1 = 0; rw [hf.2.1]; decide) hf.1
      exact ⟨fun _ => hft.pre (Rch.st (hst1.trans hO1) Rch.rf), fun q => absurd q (by show ¬ (fai z 2 (zS X0)).1 = 0; rw [hf.2.1]; decide)⟩
  · by_cases k1 : (zS X0).2.2.1 = 1
    · have hns : sta tx (zS X0) 40 = false := by
        cases q : sta tx (zS X0) 40 with
        | false => rfl
        | true => have := (sta_k q).1; omega
      rw [hns, if_neg (by decide)] at hO1
      cases hsl : (if w = true then slT tx (zS X0) else slH tx (zS X0)) with
      | none =>
        have hz1 : prtF tx z w rec (zS X0, ps) = (fai z 3 (zS X0), ps) := by unfold prtF; rw [if_neg k2, if_pos k1, hsl]
        have hm : prM tx z w X0 = (fai z 3 (zS X0), zO X0, zK X0, zD X0, zT X0) := by unfold prM; rw [if_neg k2, if_pos k1, hsl]
        have hf := fai_k (z := z) (w := 3) hg
        rw [hz1]
        have hft : FtX tx z w (2, prM tx z w X0) (fai z 3 (zS X0)) := by rw [hm]; exact FtX.of (X := (fai z 3 (zS X0), zO X0, zK X0, zD X0, zT X0)) (by show ¬ (fai z 3 (zS X0)).1 = 0; rw [hf.2.1]; decide) hf.1
        exact ⟨fun _ => hft.pre (Rch.st (hst1.trans hO1) Rch.rf), fun q => absurd q (by show ¬ (fai z 3 (zS X0)).1 = 0; rw [hf.2.1]; decide)⟩
      | some s =>
        have hz1 : prtF tx z w rec (zS X0, ps) = (adv tx z (zS X0), addS ps (nI (10000 + s))) := by unfold prtF; rw [if_neg k2, if_pos k1, hsl]
        have hm : prM tx z w X0 = (adv tx z (zS X0), zO X0 ++ [2, nI (slt w s)], zK X0, zD X0, zT X0) := by unfold prM; rw [if_neg k2, if_pos k1, hsl]
        have hst := adv_st (tx := tx) ho (by omega)
        have h1z := ho.2.2.1
        have hlz := ho.2.2.2.2.2 (by omega)
        have hez := ho.2.2.2.1
        have hev := enc_v (sl_lt hsl).1 (sl_lt hsl).2
        rw [hz1]
        refine ⟨fun q => absurd (by show (adv tx z (zS X0)).1 = 0; rw [adv_f]; exact hg) q, fun _ => ⟨_, [nI (10000 + s)], Rch.st (hst1.trans (hO1.trans (by rw [hm]))) Rch.rf, ?_, ?_⟩⟩
        · show (adv tx z (zS X0), addS ps _) = _
          rw [addS_lt (by omega)]; rfl
        · refine ⟨by show (adv tx z (zS X0)).1 = 0; rw [adv_f]; exact hg, adv_ok ho, rfl, ⟨[], rfl, ?_, fun a ha => by cases ha⟩, fun i _ => rfl, ⟨fun q h1 h2 => absurd h1 (by omega), fun h1 => absurd h1 (by decide)⟩, ?_, fun h rest hh => ?_, ?_⟩
          · show zO X0 ++ [2, nI (slt w s)] ++ [] = zO X0 ++ (enc w (nI (10000 + s)) ++ [])
            rw [List.append_nil, hev.1, List.append_nil]
          · show 1 + (zS X0).2.2.2.1 ≤ (adv tx z (zS X0)).2.2.2.1; omega
          · exact hgt_v hev.2.2 (by omega)
          · intro x hx
            rw [List.mem_singleton.mp hx]; exact hev.2.1
    · by_cases hp : sta tx (zS X0) 40 = true
      · have hz1 : prtF tx z w rec (zS X0, ps) = (rdS tx z 41 (rec (adv tx z (zS X0), ps)).1, (rec (adv tx z (zS X0), ps)).2) := by unfold prtF; rw [if_neg k2, if_neg k1, if_pos hp]
        rw [if_pos hp] at hO1
        have hk0 : (zS X0).2.2.1 ≠ 0 := by rw [(sta_k hp).1]; decide
        have hst := adv_st (tx := tx) ho hk0
        have hga : (adv tx z (zS X0)).1 = 0 := by rw [adv_f]; exact hg
        rw [hz1]
        by_cases h5 : dp = 5
        · rw [h6 h5]
          have hf := fai_k (z := z) (w := if (adv tx z (zS X0)).2.2.1 = 2 ∨ (adv tx z (zS X0)).2.2.1 = 1 ∨ sta tx (adv tx z (zS X0)) 40 = true then 2 else 1) hga
          have hdn : ¬ (deep tx z (adv tx z (zS X0))).1 = 0 := by
            show ¬ (fai z _ (adv tx z (zS X0))).1 = 0
            rw [hf.2.1]; split <;> decide
          have hdk : (deep tx z (adv tx z (zS X0))).2.2.1 = 0 := hf.1
          show SimR tx z w 5 (lo 5) 5 (Rr 5 dp) (1, X0) X0 _ ps (rdS tx z 41 (deep tx z (adv tx z (zS X0))), ps)
          rw [flt_rdS hdk hdn]
          have hde : dee tx z (adv tx z (zS X0), zO X0, 14 :: zK X0, zD X0, zT X0) = (deep tx z (adv tx z (zS X0)), zO X0, 14 :: zK X0, zD X0, zT X0) := if_neg (by show ¬ zD X0 < 6; omega)
          rw [hde] at hO1
          have hft : FtX tx z w (0, (deep tx z (adv tx z (zS X0)), zO X0, 14 :: zK X0, zD X0, zT X0)) (deep tx z (adv tx z (zS X0))) := FtX.of (X := (deep tx z (adv tx z (zS X0)), zO X0, 14 :: zK X0, zD X0, zT X0)) hdn hdk
          exact ⟨fun _ => hft.pre (Rch.st (hst1.trans hO1) Rch.rf), fun q => absurd q hdn⟩
        · have hde : dee tx z (adv tx z (zS X0), zO X0, 14 :: zK X0, zD X0, zT X0) = (adv tx z (zS X0), zO X0, 14 :: zK X0, zD X0 + 1, upB (zT X0) (zD X0 + 1) false) := if_pos (by show zD X0 < 6; omega)
          rw [hde] at hO1
          have hR1 : Rch tx z w (1, X0) (0, (adv tx z (zS X0), zO X0, 14 :: zK X0, zD X0 + 1, upB (zT X0) (zD X0 + 1) false)) := Rch.st (hst1.trans hO1) Rch.rf
          have hr := hrec (by omega) (adv tx z (zS X0), zO X0, 14 :: zK X0, zD X0 + 1, upB (zT X0) (zD X0 + 1) false) ps hga (adv_ok ho) (by show _ ≤ (adv tx z (zS X0)).2.2.2.1; omega) (by show zD X0 + 1 = _; rw [hD]) (fun _ => by
            show upB (zT X0) (zD X0 + 1) false (dp + 1 + 1) = false
            unfold upB; rw [hD, if_pos rfl]) (fun q => absurd q.1 (by decide))
          have hr2 : SimR tx z w 0 (lo 0) 0 (Rr 0 (dp + 1)) (0, (adv tx z (zS X0), zO X0, 14 :: zK X0, zD X0 + 1, upB (zT X0) (zD X0 + 1) false)) (adv tx z (zS X0), zO X0, 14 :: zK X0, zD X0 + 1, upB (zT X0) (zD X0 + 1) false) (adv tx z (zS X0)).2.2.2.1 ps (rec (adv tx z (zS X0), ps)) := hr
          generalize rec (adv tx z (zS X0), ps) = Z1 at hr2 ⊢
          rcases Classical.em (Z1.1.1 = 0) with hz | hz
          · obtain ⟨X2, steps, r1, r2, r3⟩ := hr2.2 hz
            obtain ⟨a1, a2, a3, ⟨pend, b1, b2, b3⟩, a5, a6, a7, a8, a9⟩ := r3
            have b1' : zK X2 = pend ++ 14 :: zK X0 := b1
            have b2' : zO X2 ++ pend = zO X0 ++ encL w steps := b2
            have a3' : zD X2 = zD X0 + 1 := a3
            have a7' : steps.length + (adv tx z (zS X0)).2.2.2.1 ≤ (zS X2).2.2.2.1 := a7
            rw [r2]
            by_cases hc : sta tx (zS X2) 41 = true
            · have hrd : rdS tx z 41 (zS X2) = adv tx z (zS X2) := if_pos hc
              have hst2 := adv_st (tx := tx) a2 (by rw [(sta_k hc).1]; decide)
              have hdr : drp 0 (zO X2) (zK X2) = (zO X2 ++ pend, 14 :: zK X0) := by rw [b1']; exact drp_all (base := 14 :: zK X0) (fun q => absurd q.1 (by decide)) pend (zO X2) (fun a ha => ⟨(b3 a ha).1, Nat.zero_le _⟩)
              have hop : opnd (zK X2) = true := by unfold opnd; rw [b1', List.any_append]; simp
              have hsL : stL tx z X2 = (2, (adv tx z (zS X2), zO X2 ++ pend, zK X0, zD X0, zT X2)) := by
                unfold stL
                rw [if_neg (by rw [spl_sta hc]; decide), if_neg (by rw [spl_sta hc]; decide), if_neg (by rw [sta_sta hc (d := 60) (by decide), sta_sta hc (d := 61) (by decide)]; simp), if_neg (by rw [sta_sta hc (d := 43) (by decide), sta_sta hc (d := 45) (by decide)]; simp), if_neg (by rw [sta_sta hc (d := 42) (by decide), sta_sta hc (d := 47) (by decide)]; simp), if_pos ⟨hc, hop⟩, hdr, a3']
                rfl
              show SimR tx z w 5 (lo 5) 5 (Rr 5 dp) (1, X0) X0 _ ps (rdS tx z 41 (zS X2), ps ++ steps)
              rw [hrd]
              refine ⟨fun q => absurd (by show (adv tx z (zS X2)).1 = 0; rw [adv_f]; exact a1) q, fun _ => ⟨_, steps, (hR1.tr r1).tr (Rch.st ((stp_L a1).trans hsL) Rch.rf), rfl, ?_⟩⟩
              refine ⟨by show (adv tx z (zS X2)).1 = 0; rw [adv_f]; exact a1, adv_ok a2, rfl, ⟨[], rfl, ?_, fun a ha => by cases ha⟩, fun i hi => ?_, ⟨fun q h1 h2 => absurd h1 (by omega), fun h1 => absurd h1 (by decide)⟩, ?_, fun h rest hh => ?_, a9⟩
              · show zO X2 ++ pend ++ [] = _; rw [List.append_nil]; exact b2'
              · show zT X2 i = zT X0 i
                have hi' : i ≤ zD X0 := by omega
                rw [a5 i (Or.inl (by show i < zD X0 + 1; omega))]
                show (if i = zD X0 + 1 then false else zT X0 i) = _
                rw [if_neg (by omega)]
              · show steps.length + (zS X0).2.2.2.1 ≤ (adv tx z (zS X2)).2.2.2.1; omega
              · exact a8 h rest (by unfold Rr at hh ⊢; omega)
            · have hrd : rdS tx z 41 (zS X2) = fai z 1 (zS X2) := if_neg hc
              have hf := fai_k (z := z) (w := 1) a1
              have e1 : spl tx (zS X2) (swd 22) = false := by
                cases q : spl tx (zS X2) (swd 22) with
                | false => rfl
                | true => have := a6.1 1 (by decide) (by decide) (by decide); unfold opO at this; rw [if_neg (by decide), if_pos rfl, if_pos q] at this; exact absurd this (by decide)
              have e0 : spl tx (zS X2) (swd 21) = false := by
                cases q : spl tx (zS X2) (swd 21) with
                | false => rfl
                | true => have := a6.1 0 (by decide) (by decide) (by decide); unfold opO at this; rw [if_pos rfl, if_pos q] at this; exact absurd this (by decide)
              have e3 : sta tx (zS X2) 43 = false ∧ sta tx (zS X2) 45 = false := by
                have := a6.1 3 (by decide) (by decide) (by decide); unfold opO at this; rw [if_neg (by decide), if_neg (by decide), if_neg (by decide), if_pos rfl] at this
                cases q : sta tx (zS X2) 43 with
                | true => rw [q, if_pos rfl] at this; exact absurd this (by decide)
                | false =>
                  cases q2 : sta tx (zS X2) 45 with
                  | true => rw [q, q2, if_neg (by decide), if_pos rfl] at this; exact absurd this (by decide)
                  | false => exact ⟨rfl, rfl⟩
              have e4 : sta tx (zS X2) 42 = false ∧ sta tx (zS X2) 47 = false := by
                have := a6.1 4 (by decide) (by decide) (by decide); unfold opO at this; rw [if_neg (by decide), if_neg (by decide), if_neg (by decide), if_neg (by decide)] at this
                cases q : sta tx (zS X2) 42 with
                | true => rw [q, if_pos rfl] at this; exact absurd this (by decide)
                | false =>
                  cases q2 : sta tx (zS X2) 47 with
                  | true => rw [q, q2, if_neg (by decide), if_pos rfl] at this; exact absurd this (by decide)
                  | false => exact ⟨rfl, rfl⟩
              have e2 : ¬ ((sta tx (zS X2) 60 = true ∨ sta tx (zS X2) 61 = true) ∧ zT X2 (zD X2) = false) := by
                rintro ⟨q1, q2⟩
                rcases a6.2 (by decide) with u | u
                · unfold opO at u; rw [if_neg (by decide), if_neg (by decide), if_pos rfl] at u
                  rcases q1 with q1 | q1
                  · rw [if_pos q1] at u; exact absurd u (by decide)
                  · rw [if_neg (by rw [sta_sta q1 (d := 60) (by decide)]; decide), if_pos q1] at u; exact absurd u (by decide)
                · rw [a3', show zT X2 (zD X0 + 1) = true from u] at q2; cases q2
              have hsL : stL tx z X2 = (3, X2) := by
                unfold stL
                rw [if_neg (by rw [e1]; decide), if_neg (by rw [e0]; decide), if_neg e2, if_neg (by rw [e3.1, e3.2]; simp), if_neg (by rw [e4.1, e4.2]; simp), if_neg (fun q => hc q.1)]
              show SimR tx z w 5 (lo 5) 5 (Rr 5 dp) (1, X0) X0 _ ps (rdS tx z 41 (zS X2), ps ++ steps)
              rw [hrd]
              refine ⟨fun _ => ⟨hf.1, X2, (hR1.tr r1).tr (Rch.st ((stp_L a1).trans hsL) Rch.rf), ?_, ?_⟩, fun q => absurd q (by show ¬ (fai z 1 (zS X2)).1 = 0; rw [hf.2.1]; decide)⟩
              · unfold finS; rw [if_pos ⟨a1, by omega⟩]
              · unfold finS; rw [if_pos ⟨a1, by omega⟩]
          · have hf := hr2.1 hz
            show SimR tx z w 5 (lo 5) 5 (Rr 5 dp) (1, X0) X0 _ ps (rdS tx z 41 Z1.1, Z1.2)
            rw [flt_rdS hf.1 hz]
            exact ⟨fun _ => hf.pre hR1, fun q => absurd q hz⟩
      · have hz1 : prtF tx z w rec (zS X0, ps) = (fai z 1 (zS X0), ps) := by unfold prtF; rw [if_neg k2, if_neg k1, if_neg hp]
        rw [if_neg hp] at hO1
        have hm : prM tx z w X0 = (fai z 1 (zS X0), zO X0, zK X0, zD X0, zT X0) := by unfold prM; rw [if_neg k2, if_neg k1]
        have hf := fai_k (z := z) (w := 1) hg
        rw [hz1]
        have hft : FtX tx z w (2, prM tx z w X0) (fai z 1 (zS X0)) := by rw [hm]; exact FtX.of (X := (fai z 1 (zS X0), zO X0, zK X0, zD X0, zT X0)) (by show ¬ (fai z 1 (zS X0)).1 = 0; rw [hf.2.1]; decide) hf.1
        exact ⟨fun _ => hft.pre (Rch.st (hst1.trans hO1) Rch.rf), fun q => absurd q (by show ¬ (fai z 1 (zS X0)).1 = 0; rw [hf.2.1]; decide)⟩
