/-! ===== the machine does what the tiers do: all tiers ===== -/
theorem GRx.wk {tx : Nat → Nat} {z : Nat} {w : Bool} {tq l l' tp tp' Rh Rh' s0 : Nat} {X0 X : MX} {steps : List Int32} (h : GRx tx z w tq l tp Rh X0 s0 steps X) (hl : l' ≤ l) (ht : tp' ≤ tp) (hR : Rh ≤ Rh') : GRx tx z w tq l' tp' Rh' X0 s0 steps X := by
  obtain ⟨g1, g2, g3, ⟨pend, k1, k2, k3⟩, g5, g6, g7, g8, g9⟩ := h
  exact ⟨g1, g2, g3, ⟨pend, k1, k2, fun a ha => ⟨(k3 a ha).1, Nat.le_trans hl (k3 a ha).2⟩⟩, fun i hi => g5 i (hi.elim Or.inl (fun q => Or.inr ⟨q.1, by omega⟩)), g6, g7, fun h rest hh => g8 h rest (by omega), g9⟩
theorem lo_kt : ∀ t, t ≤ 4 → t ≠ 2 → lo t = kt t := by decide
theorem tier_sim {tx : Nat → Nat} {z : Nat} {w : Bool} (hz : z ≤ 700) {g t dp : Nat} (ht : t ≤ 4) (hdp : dp ≤ 5) (hrec : RecOk tx z w (t + 1) dp (tirF tx z w g (t + 1) dp)) : RecOk tx z w t dp (tirF tx z w (g + 1) t dp) := by
  intro X0 ps hg ho hps hD hT hNB
  have hRt : Rr t dp = Rr (t + 1) dp + 1 := by unfold Rr; omega
  by_cases h2 : t = 2
  · subst h2
    rw [tirF_eq tx z w g 2 dp (zS X0) ps (by omega) (by omega)]
    have hnt : ntF tx z 2 (zS X0) = rdNots tx z (zS X0) := if_pos rfl
    rw [hnt]
    have hno := rdNots_ok (tx := tx) ho
    have hns := rdNots_st (tx := tx) ho hg
    have hal : stp tx z w (0, X0) = stO1 tx z w (ntX tx z X0) := stp_0 hg
    have hzx : zS (ntX tx z X0) = (rdNots tx z (zS X0)).2 := rfl
    have hlen : ps.length ≤ z := Nat.le_trans hps ho.2.2.1
    rcases Classical.em ((rdNots tx z (zS X0)).2.1 = 0) with hs2 | hs2
    · have hst := hns.2 hs2
      have hr := hrec (ntX tx z X0) ps hs2 hno.1 (by show _ ≤ (rdNots tx z (zS X0)).2.2.2.2.1; omega) hD (fun q => absurd q (by decide)) (by
        show NBk (kt 3) (List.replicate (rdNots tx z (zS X0)).1 3 ++ zK X0)
        cases hj : (rdNots tx z (zS X0)).1 with
        | zero => exact hNB.mono (by decide)
        | succ j => rw [List.replicate_succ]; exact fun q => absurd q.2 (by decide))
      have hr3 : SimR tx z w 3 (lo 3) 3 (Rr 3 dp) (1, ntX tx z X0) (ntX tx z X0) (rdNots tx z (zS X0)).2.2.2.2.1 ps (tirF tx z w g 3 dp ((rdNots tx z (zS X0)).2, ps)) := hr
      show SimR tx z w 2 (lo 2) 2 (Rr 2 dp) (0, X0) X0 _ ps ((lopF tx z (tirF tx z w g 3 dp) 2 700 (opO tx 2 (tirF tx z w g 3 dp ((rdNots tx z (zS X0)).2, ps)).1) (tirF tx z w g 3 dp ((rdNots tx z (zS X0)).2, ps))).1, anF (rdNots tx z (zS X0)).1 (lopF tx z (tirF tx z w g 3 dp) 2 700 (opO tx 2 (tirF tx z w g 3 dp ((rdNots tx z (zS X0)).2, ps)).1) (tirF tx z w g 3 dp ((rdNots tx z (zS X0)).2, ps))).2)
      have hst1 : stp tx z w (1, ntX tx z X0) = stO1 tx z w (ntX tx z X0) := stp_1 hs2
      have hto : ∀ Y', Y'.1 ≠ 1 → Rch tx z w (1, ntX tx z X0) Y' → Rch tx z w (0, X0) Y' := fun Y' hm q => Rch.alike (hal.trans hst1.symm) q (fun e => hm e.symm)
      generalize tirF tx z w g 3 dp ((rdNots tx z (zS X0)).2, ps) = Z1 at hr3 ⊢
      rcases Classical.em (Z1.1.1 = 0) with hz1 | hz1
      · obtain ⟨X1, steps1, r1, r2, r3⟩ := hr3.2 hz1
        rw [r2]
        have hNB2 : NBk (kt 2) (zK (ntX tx z X0)) := by
          show NBk (kt 2) (List.replicate (rdNots tx z (zS X0)).1 3 ++ zK X0)
          cases hj : (rdNots tx z (zS X0)).1 with
          | zero => exact hNB
          | succ j => rw [List.replicate_succ]; exact fun q => absurd q.2 (by decide)
        have hG : GRx tx z w 3 (kt 2) 2 (Rr 2 dp) (ntX tx z X0) (rdNots tx z (zS X0)).2.2.2.2.1 steps1 X1 := r3.wk (by decide) (by decide) (by unfold Rr; omega)
        have hT1 : zT X1 (zD X1) = false := by
          have e := r3.2.2.2.2.1 (zD (ntX tx z X0)) (Or.inr ⟨rfl, Nat.le_refl _⟩)
          rw [r3.2.2.1, e]
          show zT X0 (zD X0) = false
          rw [hD]; exact hT (Nat.le_refl _)
        have hl := lop_sim (tx := tx) (w := w) hz (t := 2) (by decide) hdp hrec (X0 := ntX tx z X0) hD hNB2 (s0 := (rdNots tx z (zS X0)).2.2.2.2.1) (p0 := ps) (by omega) 700 (opO tx 2 (zS X1)) X1 steps1 hG (Or.inl rfl) (fun _ _ => hT1) (by omega)
        show SimR tx z w 2 (lo 2) 2 (Rr 2 dp) (0, X0) X0 _ ps ((lopF tx z (tirF tx z w g 3 dp) 2 700 (opO tx 2 (zS X1)) (zS X1, ps ++ steps1)).1, anF (rdNots tx z (zS X0)).1 (lopF tx z (tirF tx z w g 3 dp) 2 700 (opO tx 2 (zS X1)) (zS X1, ps ++ steps1)).2)
        generalize lopF tx z (tirF tx z w g 3 dp) 2 700 (opO tx 2 (zS X1)) (zS X1, ps ++ steps1) = Z2 at hl ⊢
        have hR1 := hto (2, X1) (show (2 : Nat) ≠ 1 by decide) r1
        refine ⟨fun q => (hl.1 q).pre hR1, fun q => ?_⟩
        obtain ⟨X2, steps2, c1, c2, c3⟩ := hl.2 q
        obtain ⟨g1, g2, g3, ⟨pend, k1, k2, k3⟩, g5, g6, g7, g8, g9⟩ := c3
        have hz2 := g2.2.2.1
        refine ⟨X2, steps2 ++ List.replicate (rdNots tx z (zS X0)).1 (-3), hR1.tr c1, ?_, g1, g2, g3, ⟨pend ++ List.replicate (rdNots tx z (zS X0)).1 3, ?_, ?_, ?_⟩, ?_, ⟨g6.1, g6.2⟩, ?_, fun h rest hh => ?_, ?_⟩
        · rw [c2]
          show (zS X2, anF (rdNots tx z (zS X0)).1 (ps ++ steps2)) = _
          rw [anF_rep _ _ (by rw [List.length_append]; omega), List.append_assoc]
        · rw [k1, List.append_assoc]; rfl
        · rw [← List.append_assoc, k2, encL_app, enc_rep, ← List.append_assoc]; rfl
        · intro a ha
          rcases List.mem_append.mp ha with u | u
          · exact ⟨(k3 a u).1, Nat.le_trans (by decide) (k3 a u).2⟩
          · rw [(List.mem_replicate.mp u).2]; decide
        · intro i hi; exact g5 i hi
        · rw [List.length_append, List.length_replicate]; omega
        · rw [List.append_assoc, g8 h _ hh, hgt_not]
        · intro x hx
          rcases List.mem_append.mp hx with u | u
          · exact g9 x u
          · rw [(List.mem_replicate.mp u).2]; unfold okSt; cases w <;> decide
      · have hf := hr3.1 hz1
        rw [flt_op hf.1, lop_0]
        refine ⟨fun _ => ?_, fun q => absurd q hz1⟩
        obtain ⟨f0, X', f1, f2⟩ := hf
        exact ⟨f0, X', hto (3, X') (show (3 : Nat) ≠ 1 by decide) f1, f2⟩
    · have hk := hns.1 hs2
      have htf := tir_flt tx z w g 3 dp (rdNots tx z (zS X0)).2 ps hs2 hk
      show SimR tx z w 2 (lo 2) 2 (Rr 2 dp) (0, X0) X0 _ ps ((lopF tx z (tirF tx z w g 3 dp) 2 700 (opO tx 2 (tirF tx z w g 3 dp ((rdNots tx z (zS X0)).2, ps)).1) (tirF tx z w g 3 dp ((rdNots tx z (zS X0)).2, ps))).1, anF (rdNots tx z (zS X0)).1 (lopF tx z (tirF tx z w g 3 dp) 2 700 (opO tx 2 (tirF tx z w g 3 dp ((rdNots tx z (zS X0)).2, ps)).1) (tirF tx z w g 3 dp ((rdNots tx z (zS X0)).2, ps))).2)
      rw [htf, flt_op hk, lop_0]
      have hO : stO1 tx z w (ntX tx z X0) = (3, ntX tx z X0) := if_pos hs2
      refine ⟨fun _ => ?_, fun q => absurd (show (tirF tx z w g 3 dp ((rdNots tx z (zS X0)).2, ps)).1.1 = 0 from q) (by rw [htf]; exact hs2)⟩
      show FtX tx z w (0, X0) (tirF tx z w g 3 dp ((rdNots tx z (zS X0)).2, ps)).1
      rw [htf]
      exact ⟨hk, ntX tx z X0, Rch.st (hal.trans hO) Rch.rf, by rw [fin_f (X := ntX tx z X0) hs2]; rfl, by rw [fin_f (X := ntX tx z X0) hs2]; rfl⟩
  · rw [tirF_eq tx z w g t dp (zS X0) ps (by omega) (by omega)]
    have hnt : ntF tx z t (zS X0) = (0, zS X0) := if_neg h2
    rw [hnt]
    have hmd : md t = md (t + 1) := by unfold md; by_cases q : t ≤ 2 <;> simp [q] <;> omega
    have hr := hrec X0 ps hg ho hps hD (fun q => hT (by omega)) (hNB.mono (Nat.le_of_lt (kt_lo t ht).2))
    rw [← hmd] at hr
    show SimR tx z w t (lo t) t (Rr t dp) (md t, X0) X0 _ ps ((lopF tx z (tirF tx z w g (t + 1) dp) t 700 (opO tx t (tirF tx z w g (t + 1) dp (zS X0, ps)).1) (tirF tx z w g (t + 1) dp (zS X0, ps))).1, (lopF tx z (tirF tx z w g (t + 1) dp) t 700 (opO tx t (tirF tx z w g (t + 1) dp (zS X0, ps)).1) (tirF tx z w g (t + 1) dp (zS X0, ps))).2)
    generalize tirF tx z w g (t + 1) dp (zS X0, ps) = Z1 at hr ⊢
    rcases Classical.em (Z1.1.1 = 0) with hz1 | hz1
    · obtain ⟨X1, steps1, r1, r2, r3⟩ := hr.2 hz1
      rw [r2]
      have hG : GRx tx z w (t + 1) (kt t) t (Rr t dp) X0 (zS X0).2.2.2.1 steps1 X1 := r3.wk (kt_lo t ht).1 (by omega) (by omega)
      have hl := lop_sim (tx := tx) (w := w) hz ht hdp hrec hD hNB (p0 := ps) hps 700 (opO tx t (zS X1)) X1 steps1 hG (Or.inl rfl) (fun q => absurd q h2) (by omega)
      rw [lo_kt t ht h2]
      refine ⟨fun q => (hl.1 q).pre r1, fun q => ?_⟩
      obtain ⟨X2, steps2, c1, c2, c3⟩ := hl.2 q
      exact ⟨X2, steps2, r1.tr c1, c2, c3⟩
    · have hf := hr.1 hz1
      rw [flt_op hf.1, lop_0]
      exact ⟨fun _ => hf, fun q => absurd q hz1⟩
theorem sim_all {tx : Nat → Nat} {z : Nat} {w : Bool} (hz : z ≤ 700) : ∀ g t dp, t ≤ 5 → dp ≤ 5 → 1 + 6 * (6 - dp) ≤ g + t → RecOk tx z w t dp (tirF tx z w g t dp) := by
  intro g
  induction g with
  | zero => intro t dp h1 h2 h3; omega
  | succ g ih =>
    intro t dp h1 h2 h3
    rcases Nat.lt_or_ge 4 t with h | h
    · have e : t = 5 := by omega
      subst e
      have hp := prt_sim (tx := tx) (w := w) hz h2 (rec := tirF tx z w g 0 (dp + 1)) (fun h5 S ps => by
        obtain ⟨g', rfl⟩ : ∃ g', g = g' + 1 := ⟨g - 1, by omega⟩
        show (if 0 = 0 ∧ 6 ≤ dp + 1 then (deep tx z S, ps) else _) = _
        rw [if_pos ⟨rfl, by omega⟩]) (fun h5 => ih 0 (dp + 1) (by decide) (by omega) (by omega))
      intro X0 ps hg ho hps hD hT hNB
      have := hp X0 ps hg ho hps hD hT hNB
      have e : tirF tx z w (g + 1) 5 dp (zS X0, ps) = prtF tx z w (tirF tx z w g 0 (dp + 1)) (zS X0, ps) := by
        show (if 5 = 0 ∧ 6 ≤ dp then (deep tx z (zS X0), ps) else if 4 < 5 then prtF tx z w (tirF tx z w g 0 (dp + 1)) (zS X0, ps) else _) = _
        rw [if_neg (by omega), if_pos (by decide)]
      rw [e]; exact this
    · exact tier_sim hz h h2 (ih (t + 1) dp (by omega) h2 (by omega))
/-- a rule -/
def exX (S : RS) (o : List Int32) (T : Nat → Bool) : MX := (S, o, [], 1, upB T 1 false)
theorem rule_sim {tx : Nat → Nat} {z : Nat} {w : Bool} (hz : z ≤ 700) {S : RS} {o : List Int32} {T : Nat → Bool} (hg : S.1 = 0) (ho : OkR z S) :
    (¬ (tirF tx z w 40 0 0 (S, [])).1.1 = 0 → FtX tx z w (0, exX S o T) (tirF tx z w 40 0 0 (S, [])).1) ∧
    ((tirF tx z w 40 0 0 (S, [])).1.1 = 0 → ∃ X', Rch tx z w (0, exX S o T) (3, X') ∧ finS z X' = zS X' ∧ zS X' = (tirF tx z w 40 0 0 (S, [])).1 ∧ OkR z (zS X') ∧ drp 0 (zO X') (zK X') = (o ++ encL w (tirF tx z w 40 0 0 (S, [])).2, []) ∧ hgt 0 (tirF tx z w 40 0 0 (S, [])).2 = some 1 ∧ ∀ x ∈ (tirF tx z w 40 0 0 (S, [])).2, okSt w x) := by
  have h := sim_all (tx := tx) (w := w) hz 40 0 0 (by decide) (by decide) (by decide) (exX S o T) [] hg ho (Nat.zero_le _) rfl (fun _ => rfl) True.intro
  have h' : SimR tx z w 0 (lo 0) 0 (Rr 0 0) (0, exX S o T) (exX S o T) S.2.2.2.1 [] (tirF tx z w 40 0 0 (S, [])) := h
  generalize tirF tx z w 40 0 0 (S, []) = Z at h' ⊢
  refine ⟨h'.1, fun hz1 => ?_⟩
  obtain ⟨X2, steps, r1, r2, r3⟩ := h'.2 hz1
  obtain ⟨a1, a2, a3, ⟨pend, b1, b2, b3⟩, a5, a6, a7, a8, a9⟩ := r3
  have b1' : zK X2 = pend := b1.trans (List.append_nil _)
  have a3' : zD X2 = 1 := a3
  have e1 : spl tx (zS X2) (swd 22) = false := by
    cases q : spl tx (zS X2) (swd 22) with
    | false => rfl
    | true => have := a6.1 1 (by decide) (by decide) (by decide); unfold opO at this; rw [if_neg (by decide), if_pos rfl, if_pos q] at this; exact absurd this (by decide)
  have e0 : spl tx (zS X2) (swd 21) = false := by
    cases q : spl tx (zS X2) (swd 21) with
    | false => rfl
    | true => have := a6.1 0 (by decide) (by decide) (by decide); unfold opO at this; rw [if_pos rfl, if_pos q] at this; exact absurd this (by decide)
  have e3 : sta tx (zS X2) 43 = false ∧ sta tx (zS X2) 45 = false := by
    have := a6.1 3 (by decide) (by decide) (by decide); unfold opO at this; rw [if_neg (by decide), if_neg (by decide), if_neg (by decide), if_pos rfl] at this
    cases q : sta tx (zS X2) 43 with
    | true => rw [q, if_pos rfl] at this; exact absurd this (by decide)
    | false =>
      cases q2 : sta tx (zS X2) 45 with
      | true => rw [q, q2, if_neg (by decide), if_pos rfl] at this; exact absurd this (by decide)
      | false => exact ⟨rfl, rfl⟩
  have e4 : sta tx (zS X2) 42 = false ∧ sta tx (zS X2) 47 = false := by
    have := a6.1 4 (by decide) (by decide) (by decide); unfold opO at this; rw [if_neg (by decide), if_neg (by decide), if_neg (by decide), if_neg (by decide)] at this
    cases q : sta tx (zS X2) 42 with
    | true => rw [q, if_pos rfl] at this; exact absurd this (by decide)
    | false =>
      cases q2 : sta tx (zS X2) 47 with
      | true => rw [q, q2, if_neg (by decide), if_pos rfl] at this; exact absurd this (by decide)
      | false => exact ⟨rfl, rfl⟩
  have e2 : ¬ ((sta tx (zS X2) 60 = true ∨ sta tx (zS X2) 61 = true) ∧ zT X2 (zD X2) = false) := by
    rintro ⟨q1, q2⟩
    rcases a6.2 (by decide) with u | u
    · unfold opO at u; rw [if_neg (by decide), if_neg (by decide), if_pos rfl] at u
      rcases q1 with q1 | q1
      · rw [if_pos q1] at u; exact absurd u (by decide)
      · rw [if_neg (by rw [sta_sta q1 (d := 60) (by decide)]; decide), if_pos q1] at u; exact absurd u (by decide)
    · rw [a3', show zT X2 1 = true from u] at q2; cases q2
  have e5 : opnd (zK X2) = false := by
    unfold opnd; rw [b1', List.any_eq_false]
    intro a ha; rw [decide_eq_true_eq]; exact Int32.not_le.mpr (b3 a ha).1
  have hsL : stL tx z X2 = (3, X2) := by
    unfold stL
    rw [if_neg (by rw [e1]; decide), if_neg (by rw [e0]; decide), if_neg e2, if_neg (by rw [e3.1, e3.2]; simp), if_neg (by rw [e4.1, e4.2]; simp), if_neg (fun q => by rw [e5] at q; exact absurd q.2 (by decide))]
  have hZ2 : Z.2 = steps := by rw [r2]; rfl
  have hZ1 : Z.1 = zS X2 := by rw [r2]
  refine ⟨X2, r1.tr (Rch.st ((stp_L a1).trans hsL) Rch.rf), ?_, hZ1.symm, a2, ?_, ?_, by rw [hZ2]; exact a9⟩
  · unfold finS; rw [if_neg (fun q => by rw [a3'] at q; exact absurd q.2 (by decide))]
  · rw [b1', hZ2]
    have := drp_all (l := 0) (base := []) True.intro pend (zO X2) (fun a ha => ⟨(b3 a ha).1, Nat.zero_le _⟩)
    rw [List.append_nil] at this
    rw [this]; exact congrArg (fun x => (x, [])) b2
  · have := a8 0 [] (by decide)
    rw [List.append_nil] at this
    rw [hZ2, this]; rfl
