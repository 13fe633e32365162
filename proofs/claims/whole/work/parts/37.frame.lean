/-! ===== what a day may change; offices and worlds under it ===== -/
def Fr (XI : List (Nat × Nat)) (X : List Nat) (σ σ' : PH) : Prop := hn σ' = hn σ ∧ (∀ r k, (r, k) ∉ XI → hI σ' r k = hI σ r k) ∧ hJ σ' = hJ σ ∧ hR σ' = hR σ ∧ hL σ' = hL σ ∧ ∀ r, r ∉ X → hA σ' r = hA σ r
theorem Fr.rf {XI : List (Nat × Nat)} {X : List Nat} {σ : PH} : Fr XI X σ σ := ⟨rfl, fun _ _ _ => rfl, rfl, rfl, rfl, fun _ _ => rfl⟩
theorem Fr.tr {XI : List (Nat × Nat)} {X : List Nat} {σ σ1 σ2 : PH} (h : Fr XI X σ σ1) (g : Fr XI X σ1 σ2) : Fr XI X σ σ2 :=
  ⟨g.1.trans h.1, fun r k hk => (g.2.1 r k hk).trans (h.2.1 r k hk), g.2.2.1.trans h.2.2.1, g.2.2.2.1.trans h.2.2.2.1, g.2.2.2.2.1.trans h.2.2.2.2.1, fun r hr => (g.2.2.2.2.2 r hr).trans (h.2.2.2.2.2 r hr)⟩
theorem Fr.mono {XI XI' : List (Nat × Nat)} {X X' : List Nat} {σ σ' : PH} (h : Fr XI X σ σ') (h1 : ∀ q, q ∈ XI → q ∈ XI') (h2 : ∀ q, q ∈ X → q ∈ X') : Fr XI' X' σ σ' :=
  ⟨h.1, fun r k hk => h.2.1 r k (fun z => hk (h1 _ z)), h.2.2.1, h.2.2.2.1, h.2.2.2.2.1, fun r hr => h.2.2.2.2.2 r (fun z => hr (h2 _ z))⟩
theorem Fr.sF {XI : List (Nat × Nat)} {X : List Nat} {σ : PH} {r : Nat} {f : Nat → Int32} (h : r ∈ X) : Fr XI X σ (sF σ r f) :=
  ⟨rfl, fun _ _ _ => rfl, rfl, rfl, rfl, fun q hq => sF_o (fun e => hq (e ▸ h))⟩
theorem Fr.sA {XI : List (Nat × Nat)} {X : List Nat} {σ : PH} {r i : Nat} {x : Int32} (h : r ∈ X) : Fr XI X σ (sA σ r i x) := Fr.sF h
theorem hI_sI (σ : PH) (r k : Nat) (v : Int32) : hI (sI σ r k v) r k = v := by
  show va_up (hI σ) r (va_up (hI σ r) k v) r k = v
  rw [va_ups, va_ups]
theorem hI_sIo {σ : PH} {r k r' k' : Nat} {v : Int32} (h : (r', k') ≠ (r, k)) : hI (sI σ r k v) r' k' = hI σ r' k' := by
  show va_up (hI σ) r (va_up (hI σ r) k v) r' k' = _
  by_cases e : r' = r
  · subst e
    rw [va_ups]
    exact va_upo (fun e2 => h (by rw [e2]))
  · rw [va_upo e]
theorem Fr.sI {XI : List (Nat × Nat)} {X : List Nat} {σ : PH} {r k : Nat} {v : Int32} (h : (r, k) ∈ XI) : Fr XI X σ (sI σ r k v) :=
  ⟨rfl, fun r' k' hq => hI_sIo (fun e => hq (e ▸ h)), rfl, rfl, rfl, fun _ _ => rfl⟩
/-- all that a day, or an act upon a world, may change -/
def wX (w o : Nat) : List Nat := [wL w, wR w, wP w, wK w, wV w, uP (oY o), uP (oM o)]
def WF (w o : Nat) (σ σ' : PH) : Prop := Fr [(w, 1)] (wX w o) σ σ'
/-- office with its rules -/
def RpQ (σ : PH) (o : Nat) (O : AO) : Prop := RpO σ o O ∧ RpU σ (oY o) (aY O) ∧ RpU σ (oM o) (aM O)
def apart (w o : Nat) : Bool := ([oL o, oR o, oH o, oS o, oN o, oA o, oB o, uS (oY o), uS (oM o)].all (fun r => decide (r ∉ wX w o))) && decide (o ≠ w) && decide (oY o ≠ w) && decide (oM o ≠ w)
theorem apart_ok {w o : Nat} (hw : isW w) (ho : isO o) : apart w o = true := by
  rcases hw with rfl | rfl | rfl <;> rcases ho with rfl | rfl <;> decide
theorem apart_r {w o : Nat} (h : apart w o = true) {r : Nat} (hr : r ∈ [oL o, oR o, oH o, oS o, oN o, oA o, oB o, uS (oY o), uS (oM o)]) : r ∉ wX w o := by
  simp only [apart, Bool.and_eq_true, decide_eq_true_eq] at h
  have := List.all_eq_true.mp h.1.1.1 r hr
  simpa using this
theorem apart_o {w o : Nat} (h : apart w o = true) : o ≠ w ∧ oY o ≠ w ∧ oM o ≠ w := by
  simp only [apart, Bool.and_eq_true, decide_eq_true_eq] at h
  exact ⟨h.1.1.2, h.1.2, h.2⟩
theorem RpO.wf {σ σ' : PH} {w o : Nat} {O : AO} (h : RpO σ o O) (hw : isW w) (hF : WF w o σ σ') : RpO σ' o O := by
  have ha := apart_ok hw h.1.1
  have hn := apart_o ha
  obtain ⟨f1, f2, f3, f4, f5, f6⟩ := hF
  obtain ⟨h1, h2, h3, h4, h5, h6, h7, h8⟩ := h
  have eI : ∀ k, hI σ' o k = hI σ o k := fun k => f2 o k (by simp [hn.1])
  refine ⟨?_, h2, (eI 0).trans h3, (eI 4).trans h4, (eI 7).trans h5, (eI 10).trans h6, fun c hc => ?_, fun k hk => ?_⟩
  · unfold StO; rw [f4]; exact h1
  · rw [f6 _ (apart_r ha (by simp)), f6 (oN o) (apart_r ha (by simp))]; exact h7 c hc
  · rw [f6 (oA o) (apart_r ha (by simp)), f6 (oB o) (apart_r ha (by simp))]; exact h8 k hk
theorem RpU.wf {σ σ' : PH} {w o u : Nat} {ps : Option (List Int32)} (h : RpU σ u ps) (hu : u ≠ w) (hx : uS u ∉ wX w o) (hF : WF w o σ σ') : RpU σ' u ps := by
  obtain ⟨f1, f2, f3, f4, f5, f6⟩ := hF
  have eI : ∀ k, hI σ' u k = hI σ u k := fun k => f2 u k (by simp [hu])
  unfold RpU at h ⊢
  rw [f4, f6 _ hx]
  cases ps with
  | none => exact ⟨h.1, h.2.1, h.2.2.1, (eI 0).trans h.2.2.2⟩
  | some l => exact ⟨h.1, h.2.1, h.2.2.1, (eI 0).trans h.2.2.2.1, (eI 1).trans h.2.2.2.2.1, h.2.2.2.2.2⟩
theorem RpQ.wf {σ σ' : PH} {w o : Nat} {O : AO} (h : RpQ σ o O) (hw : isW w) (hF : WF w o σ σ') : RpQ σ' o O := by
  have ha := apart_ok hw h.1.1.1
  have hn := apart_o ha
  exact ⟨h.1.wf hw hF, h.2.1.wf hn.2.1 (apart_r ha (by simp)) hF, h.2.2.wf hn.2.2 (apart_r ha (by simp)) hF⟩
/-! worlds with one part changed -/
def wDy (V : AW) (d : Nat) : AW := (d, vL V, vR V, vP V, vK V)
def wLf (V : AW) (f : Nat → Nat) : AW := (vD V, f, vR V, vP V, vK V)
def wRt (V : AW) (f : Nat → Nat) : AW := (vD V, vL V, f, vP V, vK V)
def wPl (V : AW) (f : Nat → Nat) : AW := (vD V, vL V, vR V, f, vK V)
def wKn (V : AW) (f : Nat → Nat) : AW := (vD V, vL V, vR V, vP V, f)
theorem wne (w : Nat) : wL w ≠ wR w ∧ wL w ≠ wP w ∧ wL w ≠ wK w ∧ wL w ≠ wV w ∧ wR w ≠ wP w ∧ wR w ≠ wK w ∧ wR w ≠ wV w ∧ wP w ≠ wK w ∧ wP w ≠ wV w ∧ wK w ≠ wV w := by
  unfold wL wR wP wK wV mkr; refine ⟨?_, ?_, ?_, ?_, ?_, ?_, ?_, ?_, ?_, ?_⟩ <;> omega
theorem upd_nI {f : Nat → Int32} {g : Nat → Nat} {i x n : Nat} (h : ∀ s, s < n → f s = nI (g s)) : ∀ s, s < n → upd f i (nI x) s = nI (va_up g i x s) := by
  intro s hs
  by_cases e : s = i
  · subst e; rw [pk_us, va_ups]
  · rw [pk_un e, va_upo e]; exact h s hs
theorem RpW.setK {σ : PH} {w i x : Nat} {V : AW} (h : RpW σ w V) : RpW (sA σ (wK w) i (nI x)) w (wKn V (va_up (vK V) i x)) := by
  have hne := wne w
  obtain ⟨h1, h2, h3, h4⟩ := h
  refine ⟨h1, h2, fun s hs => ?_, fun c hc => ?_⟩
  · unfold sA; rw [sF_o hne.2.2.1, sF_o hne.2.2.2.2.2.1, sF_o hne.2.2.2.2.2.2.2.1]; exact h3 s hs
  · unfold sA; rw [hA_sF]; exact upd_nI h4 c hc
theorem RpW.setR {σ : PH} {w i x : Nat} {V : AW} (h : RpW σ w V) : RpW (sA σ (wR w) i (nI x)) w (wRt V (va_up (vR V) i x)) := by
  have hne := wne w
  obtain ⟨h1, h2, h3, h4⟩ := h
  refine ⟨h1, h2, fun s hs => ?_, fun c hc => ?_⟩
  · unfold sA; rw [sF_o hne.1, sF_o hne.2.2.2.2.1.symm, hA_sF]; exact ⟨(h3 s hs).1, upd_nI (fun q hq => (h3 q hq).2.1) s hs, (h3 s hs).2.2⟩
  · unfold sA; rw [sF_o hne.2.2.2.2.2.1.symm]; exact h4 c hc
theorem RpW.setL {σ : PH} {w i x : Nat} {V : AW} (h : RpW σ w V) : RpW (sA σ (wL w) i (nI x)) w (wLf V (va_up (vL V) i x)) := by
  have hne := wne w
  obtain ⟨h1, h2, h3, h4⟩ := h
  refine ⟨h1, h2, fun s hs => ?_, fun c hc => ?_⟩
  · unfold sA; rw [sF_o hne.1.symm, sF_o hne.2.1.symm, hA_sF]; exact ⟨upd_nI (fun q hq => (h3 q hq).1) s hs, (h3 s hs).2.1, (h3 s hs).2.2⟩
  · unfold sA; rw [sF_o hne.2.2.1.symm]; exact h4 c hc
theorem RpW.setP {σ : PH} {w i x : Nat} {V : AW} (h : RpW σ w V) : RpW (sA σ (wP w) i (pI x)) w (wPl V (va_up (vP V) i x)) := by
  have hne := wne w
  obtain ⟨h1, h2, h3, h4⟩ := h
  refine ⟨h1, h2, fun s hs => ?_, fun c hc => ?_⟩
  · unfold sA; rw [sF_o hne.2.1, sF_o hne.2.2.2.2.1, hA_sF]
    refine ⟨(h3 s hs).1, (h3 s hs).2.1, ?_⟩
    by_cases e : s = i
    · subst e; rw [pk_us]; show _ = pI (va_up (vP V) s x s); rw [va_ups]
    · rw [pk_un e]; show _ = pI (va_up (vP V) i x s); rw [va_upo e]; exact (h3 s hs).2.2
  · unfold sA; rw [sF_o hne.2.2.2.2.2.2.2.1.symm]; exact h4 c hc
theorem RpW.setV {σ : PH} {w : Nat} {f : Nat → Int32} {V : AW} (h : RpW σ w V) : RpW (sF σ (wV w) f) w V := by
  have hne := wne w
  obtain ⟨h1, h2, h3, h4⟩ := h
  refine ⟨h1, h2, fun s hs => ?_, fun c hc => ?_⟩
  · rw [sF_o hne.2.2.2.1, sF_o hne.2.2.2.2.2.2.1, sF_o hne.2.2.2.2.2.2.2.2.1]; exact h3 s hs
  · rw [sF_o hne.2.2.2.2.2.2.2.2.2]; exact h4 c hc
def worldly (w o : Nat) : Bool := [wL w, wR w, wP w, wK w, wV w].all (fun r => decide (r ≠ uP (oY o)) && decide (r ≠ uP (oM o)))
theorem worldly_ok {w o : Nat} (hw : isW w) (ho : isO o) : worldly w o = true := by
  rcases hw with rfl | rfl | rfl <;> rcases ho with rfl | rfl <;> decide
theorem worldly_r {w o r : Nat} (hw : isW w) (ho : isO o) (hr : r ∈ [wL w, wR w, wP w, wK w, wV w]) : r ≠ uP (oY o) ∧ r ≠ uP (oM o) := by
  have := List.all_eq_true.mp (worldly_ok hw ho) r hr
  simpa using this
theorem RpW.pile {σ : PH} {w o r : Nat} {f : Nat → Int32} {V : AW} (h : RpW σ w V) (ho : isO o) (hr : r = uP (oY o) ∨ r = uP (oM o)) : RpW (sF σ r f) w V := by
  have hx : ∀ q, q ∈ [wL w, wR w, wP w, wK w, wV w] → q ≠ r := by
    intro q hq e
    have := worldly_r h.1.1 ho hq
    rcases hr with hr | hr
    · exact this.1 (e.trans hr)
    · exact this.2 (e.trans hr)
  obtain ⟨h1, h2, h3, h4⟩ := h
  refine ⟨h1, h2, fun s hs => ?_, fun c hc => ?_⟩
  · rw [sF_o (hx _ (by simp)), sF_o (hx _ (by simp)), sF_o (hx _ (by simp))]; exact h3 s hs
  · rw [sF_o (hx _ (by simp))]; exact h4 c hc
theorem RpW.setD {σ : PH} {w d : Nat} {V : AW} (h : RpW σ w V) : RpW (sI σ w 1 (nI d)) w (wDy V d) :=
  ⟨h.1, hI_sI _ _ _ _, h.2.2.1, h.2.2.2⟩
/-- bits that are new -/
theorem andn {x k : Nat} (hx : x < 4096) (hk : k < 4096) : nI x &&& (nI k ^^^ (-1)) = 0 ↔ k ||| x = k := by
  have e : ∀ i, i < 32 → (nI x &&& (nI k ^^^ (-1))).toBitVec.getLsbD i = (x.testBit i && !k.testBit i) := by
    intro i hi
    show (BitVec.ofNat 32 x &&& (BitVec.ofNat 32 k ^^^ BitVec.allOnes 32)).getLsbD i = _
    rw [BitVec.getLsbD_and, BitVec.getLsbD_xor, BitVec.getLsbD_allOnes, BitVec.getLsbD_ofNat, BitVec.getLsbD_ofNat]
    simp [hi]
  constructor
  · intro h
    apply Nat.eq_of_testBit_eq
    intro i
    rw [Nat.testBit_or]
    by_cases hi : i < 32
    · have h1 := e i hi
      rw [h] at h1
      have h2 : (x.testBit i && !k.testBit i) = false := by rw [← h1]; simp
      revert h2
      cases x.testBit i <;> cases k.testBit i <;> simp
    · rw [Nat.testBit_lt_two_pow (Nat.lt_of_lt_of_le hx (Nat.le_trans (show 4096 ≤ 2 ^ 12 by decide) (Nat.pow_le_pow_right (by decide) (by omega))))]
      simp
  · intro h
    apply Int32.toBitVec_inj.1
    apply BitVec.eq_of_getLsbD_eq
    intro i hi
    rw [e i hi]
    have h2 : (k ||| x).testBit i = k.testBit i := by rw [h]
    rw [Nat.testBit_or] at h2
    show _ = (0#32).getLsbD i
    simp
    revert h2
    cases x.testBit i <;> cases k.testBit i <;> simp
