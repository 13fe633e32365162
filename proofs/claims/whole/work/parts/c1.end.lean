/-! ===== the end of the law as the claim has it ===== -/
def R_law : String := "TwinInkLaw"
def lw_P (b : Addr) (xs : List Int32) (args : Array Value) (s : State) : Prop := args = #[.ref b] ∧ s.IntsAt b xs ∧ xs.length ≤ 384 ∧ (Jvm.Cond.and given_1 narrow_1).before args s = true
def lw_Q (_ : Array Value) (s : State) (o : Outcome) (t : State) : Prop := o = .returned (some (.int 1)) ∧ Framed s o t [] 600128 7301097
def lw_Z (below : List Frame) (a : Array Value) (s : State) : State → Prop := fun t => ∃ o, t.status = .running ∧ Ended t below o ∧ lw_Q a s o t
theorem end_Z {Γ : Gm} {s : State} (hb : gb Γ = s.heap.size) {below : List Frame} {a : Array Value} {t : State} {mc ms : Nat} {ρ : Nat → Nat} {al : List Nat} (h1 : mc ≤ 600128) (h2 : ms ≤ 7301097) (h : vx_MQ below (QR Γ ρ al rLw) (QX Γ ρ al rLw) a s mc ms (fA Γ) t) : lw_Z below a s t := by
  obtain ⟨o, r1, r2, h⟩ := h
  rcases h with ⟨⟨v, σ', ρ', al', c1, c2, c3⟩, L, hF, hfree⟩ | ⟨q, hq, E, ce, Ls, ⟨x, σ', ρ', al', d1, d2, d3⟩, d4⟩
  · have hv : v = some (.int 1) := by
      have e : (Sum.inl v : PO) = .inl (some (.int 1)) := c2
      injection e
    subst hv
    have ho : o = .returned (some (.int 1)) := c1
    refine ⟨o, r1, r2, ho, ?_⟩
    obtain ⟨f1, f2, g1, g2, g3, g4, g5, g6⟩ := hF
    refine ⟨f1, f2, g1, g2, Nat.le_trans g3 (by omega), g4, Nat.le_trans g5 h2, fun b c hc => ?_⟩
    obtain ⟨c', k1, k2, k3, k4⟩ := g6 b c hc
    refine ⟨c', k1, k2, k3, fun i _ => k4 i (fun hm => ?_)⟩
    have := hfree _ hm
    have hlt : b < s.heap.size := (Array.getElem?_eq_some_iff.mp hc).1
    have hge : gb Γ ≤ b := this
    rw [hb] at hge
    exact absurd hlt (Nat.not_lt.mpr hge)
  · have e : (Sum.inr x : PO) = .inl (some (.int 1)) := d2
    cases e
