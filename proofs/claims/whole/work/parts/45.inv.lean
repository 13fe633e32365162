/-! ===== the class as a whole: what its heap says ===== -/
abbrev T0 : Nat := 262152
abbrev wN : Nat := 8388615
abbrev wA : Nat := 9961479
abbrev wI : Nat := 13369351
/-- the reference fields that are ever written again -/
def XR0 : List (Nat × Nat) := [(T0, 3), (T0, 4), (wN, 0), (wA, 0), (wI, 0), (8126469, 4), (8126469, 5)]
/-- all that is changed lies in cells whose serials p names -/
def Ch (p : Nat → Bool) (σ σ' : PH) : Prop := hn σ' = hn σ ∧ hJ σ' = hJ σ ∧ hL σ' = hL σ ∧ (∀ r k, (r, k) ∉ XR0 → hR σ' r k = hR σ r k) ∧ ∀ r, p (sn r) = false → hI σ' r = hI σ r ∧ hA σ' r = hA σ r ∧ hR σ' r = hR σ r
theorem Ch.rf {p : Nat → Bool} {σ : PH} : Ch p σ σ := ⟨rfl, rfl, rfl, fun _ _ _ => rfl, fun _ _ => ⟨rfl, rfl, rfl⟩⟩
theorem Ch.tr {p : Nat → Bool} {σ σ1 σ2 : PH} (h : Ch p σ σ1) (g : Ch p σ1 σ2) : Ch p σ σ2 :=
  ⟨g.1.trans h.1, g.2.1.trans h.2.1, g.2.2.1.trans h.2.2.1, fun r k q => (g.2.2.2.1 r k q).trans (h.2.2.2.1 r k q), fun r hr => ⟨(g.2.2.2.2 r hr).1.trans (h.2.2.2.2 r hr).1, (g.2.2.2.2 r hr).2.1.trans (h.2.2.2.2 r hr).2.1, (g.2.2.2.2 r hr).2.2.trans (h.2.2.2.2 r hr).2.2⟩⟩
theorem Ch.mono {p p' : Nat → Bool} {σ σ' : PH} (h : Ch p σ σ') (hp : ∀ s, p' s = false → p s = false) : Ch p' σ σ' :=
  ⟨h.1, h.2.1, h.2.2.1, h.2.2.2.1, fun r hr => h.2.2.2.2 r (hp _ hr)⟩
def inS (X : List Nat) (s : Nat) : Bool := X.contains s
theorem Ch.more {X Y : List Nat} {σ σ' : PH} (h : Ch (inS X) σ σ') (hp : X.all (fun s => Y.contains s) = true) : Ch (inS Y) σ σ' :=
  h.mono (fun s hs => by
    cases e : inS X s with
    | false => rfl
    | true =>
      have h1 := List.all_eq_true.mp hp s (by simpa [inS] using e)
      rw [inS] at hs
      rw [hs] at h1; cases h1)
theorem Fx.ch {XR XI : List (Nat × Nat)} {X S : List Nat} {σ σ' : PH} (h : Fx XR XI X σ σ') (h0 : XR.all (fun q => decide (q ∈ XR0)) = true) (h1 : XR.all (fun q => S.contains (sn q.1)) = true) (h2 : XI.all (fun q => S.contains (sn q.1)) = true) (h3 : X.all (fun q => S.contains (sn q)) = true) : Ch (inS S) σ σ' := by
  refine ⟨h.1, h.2.2.1, h.2.2.2.2.1, fun r k hq => h.2.2.2.1 r k (fun z => hq (by simpa using List.all_eq_true.mp h0 _ z)), fun r hr => ⟨?_, ?_, ?_⟩⟩
  · funext k
    refine h.2.1 r k (fun z => ?_)
    have := List.all_eq_true.mp h2 _ z
    rw [inS] at hr; rw [hr] at this; cases this
  · refine h.2.2.2.2.2 r (fun z => ?_)
    have := List.all_eq_true.mp h3 _ z
    rw [inS] at hr; rw [hr] at this; cases this
  · funext k
    refine h.2.2.2.1 r k (fun z => ?_)
    have := List.all_eq_true.mp h1 _ z
    rw [inS] at hr; rw [hr] at this; cases this
theorem Fr.ch {XI : List (Nat × Nat)} {X S : List Nat} {σ σ' : PH} (h : Fr XI X σ σ') (h2 : XI.all (fun q => S.contains (sn q.1)) = true) (h3 : X.all (fun q => S.contains (sn q)) = true) : Ch (inS S) σ σ' :=
  Fx.ch (XR := []) (h.fx) rfl rfl h2 h3
/-- the serials of the piles of rules; of a world -/
def sPl : List Nat := [13, 16, 27, 30]
def sW (w : Nat) : List Nat := [sn w, sn w + 1, sn w + 2, sn w + 3, sn w + 4, sn w + 5]
theorem WF.ch {w o : Nat} {σ σ' : PH} (h : WF w o σ σ') (hw : isW w) (ho : isO o) : Ch (inS (sW w ++ sPl)) σ σ' := by
  refine Fr.ch h ?_ ?_
  · rcases hw with rfl | rfl | rfl <;> decide
  · rcases hw with rfl | rfl | rfl <;> rcases ho with rfl | rfl <;> decide
theorem StO.ch {σ σ' : PH} {o : Nat} {p : Nat → Bool} (h : StO σ o) (hc : Ch p σ σ') : StO σ' o := by
  have e : ∀ r k, r = o ∨ r = oY o ∨ r = oM o → hR σ' r k = hR σ r k := by
    intro r k hr
    refine hc.2.2.2.1 r k (fun z => ?_)
    have : ∀ q ∈ XR0, q.1 ≠ r := by
      rcases h.1 with ho | ho <;> subst ho <;> rcases hr with hr | hr | hr <;> subst hr <;> decide
    exact this _ z rfl
  unfold StO at h ⊢
  simp only [e _ _ (Or.inl rfl), e _ _ (Or.inr (Or.inl rfl)), e _ _ (Or.inr (Or.inr rfl))]
  exact h
/-- the edges and homes that lie in an office's rows are edges and homes, told or not -/
def BE (σ : PH) (o : Nat) : Prop := ∀ s, s < 9 → (∃ x, x < 256 ∧ hA σ (oL o) s = nI x) ∧ (∃ x, x < 256 ∧ hA σ (oR o) s = nI x) ∧ ∃ x, x < 4 ∧ hA σ (oH o) s = nI x
def SpO (σ : PH) (o : Nat) : Prop := StO σ o ∧ BE σ 786436 ∧ BE σ 4456452
theorem BE.eq {σ σ' : PH} {o : Nat} (h : BE σ o) (h1 : hA σ' (oL o) = hA σ (oL o)) (h2 : hA σ' (oR o) = hA σ (oR o)) (h3 : hA σ' (oH o) = hA σ (oH o)) : BE σ' o := by
  unfold BE; rw [h1, h2, h3]; exact h
theorem SpO.ch {σ σ' : PH} {o : Nat} {S : List Nat} (h : SpO σ o) (hc : Ch (inS S) σ σ') (hd : [4, 5, 6, 18, 19, 20].all (fun s => !S.contains s) = true) : SpO σ' o := by
  have e : ∀ s, s ∈ [4, 5, 6, 18, 19, 20] → inS S s = false := fun s hs => by simpa [inS] using List.all_eq_true.mp hd s hs
  exact ⟨h.1.ch hc, h.2.1.eq (hc.2.2.2.2 (oL 786436) (e 4 (by simp))).2.1 (hc.2.2.2.2 (oR 786436) (e 5 (by simp))).2.1 (hc.2.2.2.2 (oH 786436) (e 6 (by simp))).2.1, h.2.2.eq (hc.2.2.2.2 (oL 4456452) (e 18 (by simp))).2.1 (hc.2.2.2.2 (oR 4456452) (e 19 (by simp))).2.1 (hc.2.2.2.2 (oH 4456452) (e 20 (by simp))).2.1⟩
theorem StW.ch {σ σ' : PH} {w : Nat} {p : Nat → Bool} (h : StW σ w) (hc : Ch p σ σ') : StW σ' w := by
  have e : ∀ k, k ≠ 0 → hR σ' w k = hR σ w k := by
    intro k hk
    refine hc.2.2.2.1 w k (fun z => ?_)
    have : ∀ q ∈ XR0, q.1 = w → q.2 = 0 := by
      rcases h.1 with ho | ho | ho <;> subst ho <;> decide
    exact hk (this _ z rfl)
  unfold StW at h ⊢
  rw [e 2 (by decide), e 3 (by decide), e 4 (by decide), e 5 (by decide), e 6 (by decide)]
  exact h
theorem sn_mk {s n k : Nat} (h : n < 8192) (hk : k < 32) : sn (mkr s n k) = s := sn_mkr hk h
def sO (o : Nat) : List Nat := [sn o, sn o + 1, sn o + 2, sn o + 3, sn o + 4, sn o + 5, sn o + 6, sn o + 7, sn o + 8, sn o + 9, sn o + 11, sn o + 12]
theorem RpW.ch {σ σ' : PH} {w : Nat} {V : AW} {S : List Nat} (h : RpW σ w V) (hc : Ch (inS S) σ σ') (hd : (sW w).all (fun s => !S.contains s) = true) : RpW σ' w V := by
  have e : ∀ s, s ∈ sW w → inS S s = false := fun s hs => by simpa [inS] using List.all_eq_true.mp hd s hs
  obtain ⟨h1, h2, h3, h4⟩ := h
  have a0 := hc.2.2.2.2 w (e _ (by simp [sW]))
  have aL := hc.2.2.2.2 (wL w) (e _ (by rw [wL, sn_mk (by decide) (by decide)]; simp [sW]))
  have aR := hc.2.2.2.2 (wR w) (e _ (by rw [wR, sn_mk (by decide) (by decide)]; simp [sW]))
  have aP := hc.2.2.2.2 (wP w) (e _ (by rw [wP, sn_mk (by decide) (by decide)]; simp [sW]))
  have aK := hc.2.2.2.2 (wK w) (e _ (by rw [wK, sn_mk (by decide) (by decide)]; simp [sW]))
  refine ⟨h1.ch hc, by rw [a0.1]; exact h2, fun s hs => ?_, fun c q => by rw [aK.2.1]; exact h4 c q⟩
  rw [aL.2.1, aR.2.1, aP.2.1]; exact h3 s hs
theorem RpQ.ch {σ σ' : PH} {o : Nat} {O : AO} {S : List Nat} (h : RpQ σ o O) (hc : Ch (inS S) σ σ') (hd : (sO o).all (fun s => !S.contains s) = true) : RpQ σ' o O := by
  have e : ∀ s, s ∈ sO o → inS S s = false := fun s hs => by simpa [inS] using List.all_eq_true.mp hd s hs
  have hO := h.1.1.1
  obtain ⟨⟨h1, h2, h3, h4, h5, h6, h7, h8⟩, hY, hM⟩ := h
  have a0 := hc.2.2.2.2 o (e _ (by simp [sO]))
  have aS := hc.2.2.2.2 (oS o) (e _ (by rw [oS, sn_mk (by decide) (by decide)]; simp [sO]))
  have aN := hc.2.2.2.2 (oN o) (e _ (by rw [oN, sn_mk (by decide) (by decide)]; simp [sO]))
  have aA := hc.2.2.2.2 (oA o) (e _ (by rw [oA, sn_mk (by decide) (by decide)]; simp [sO]))
  have aB := hc.2.2.2.2 (oB o) (e _ (by rw [oB, sn_mk (by decide) (by decide)]; simp [sO]))
  have aY := hc.2.2.2.2 (oY o) (e _ (by rw [oY, sn_mk (by decide) (by decide)]; simp [sO]))
  have aM := hc.2.2.2.2 (oM o) (e _ (by rw [oM, sn_mk (by decide) (by decide)]; simp [sO]))
  have aU := hc.2.2.2.2 (uS (oY o)) (e _ (by rw [uS, sn_mk (by decide) (by decide), oY, sn_mk (by decide) (by decide)]; simp [sO]))
  have aV := hc.2.2.2.2 (uS (oM o)) (e _ (by rw [uS, sn_mk (by decide) (by decide), oM, sn_mk (by decide) (by decide)]; simp [sO]))
  refine ⟨⟨h1.ch hc, h2, by rw [a0.1]; exact h3, by rw [a0.1]; exact h4, by rw [a0.1]; exact h5, by rw [a0.1]; exact h6, fun c q => ?_, fun k q => ?_⟩, ?_, ?_⟩
  · rw [aS.2.1, aN.2.1]; exact h7 c q
  · rw [aA.2.1, aB.2.1]; exact h8 k q
  · unfold RpU at hY ⊢; rw [aY.1, aY.2.2, aU.2.1]; exact hY
  · unfold RpU at hM ⊢; rw [aM.1, aM.2.2, aV.2.1]; exact hM
theorem RpA.ch {σ σ' : PH} {a : Nat} {Ls : List AW} {S : List Nat} (h : RpA σ a Ls) (hc : Ch (inS S) σ σ') (hd : [sn a, sn a + 1].all (fun s => !S.contains s) = true) : RpA σ' a Ls := by
  have e : ∀ s, s ∈ [sn a, sn a + 1] → inS S s = false := fun s hs => by simpa [inS] using List.all_eq_true.mp hd s hs
  have a0 := hc.2.2.2.2 a (e _ (by simp))
  have a1 := hc.2.2.2.2 (aWd a) (e _ (by rw [aWd, sn_mk (by decide) (by decide)]; simp))
  unfold RpA at h ⊢
  rw [a0.1, a0.2.2, a1.2.1]; exact h
/-- what was heard -/
abbrev Hr : Type := Nat × Nat × Nat × Bool
def isH (h : Nat) : Prop := h = 12058627 ∨ h = 15466499
def hC (h : Nat) : Nat := mkr (sn h + 1) 8 16
def hW (h : Nat) : Nat := mkr (sn h + 2) 8 16
def hD (h : Nat) : Nat := mkr (sn h + 3) 8 16
def hZ (h : Nat) : Nat := mkr (sn h + 4) 8 18
def StH (σ : PH) (h : Nat) : Prop := isH h ∧ hR σ h 1 = hC h ∧ hR σ h 2 = hW h ∧ hR σ h 3 = hD h ∧ hR σ h 4 = hZ h
def RpH (σ : PH) (h : Nat) (Hs : List Hr) : Prop := StH σ h ∧ Hs.length ≤ 8 ∧ hI σ h 0 = nI Hs.length ∧ ∀ (i : Nat) (q : Hr), Hs[i]? = some q → hA σ (hC h) i = nI q.1 ∧ hA σ (hW h) i = nI q.2.1 ∧ hA σ (hD h) i = nI q.2.2.1 ∧ hA σ (hZ h) i = b2i q.2.2.2
def sH (h : Nat) : List Nat := [sn h, sn h + 1, sn h + 2, sn h + 3, sn h + 4]
theorem StH.ch {σ σ' : PH} {w : Nat} {p : Nat → Bool} (h : StH σ w) (hc : Ch p σ σ') : StH σ' w := by
  have e : ∀ k, hR σ' w k = hR σ w k := by
    intro k
    refine hc.2.2.2.1 w k (fun z => ?_)
    have : ∀ q ∈ XR0, q.1 ≠ w := by
      rcases h.1 with ho | ho <;> subst ho <;> decide
    exact this _ z rfl
  unfold StH at h ⊢
  rw [e 1, e 2, e 3, e 4]
  exact h
theorem RpH.ch {σ σ' : PH} {h : Nat} {Hs : List Hr} {S : List Nat} (g : RpH σ h Hs) (hc : Ch (inS S) σ σ') (hd : (sH h).all (fun s => !S.contains s) = true) : RpH σ' h Hs := by
  have e : ∀ s, s ∈ sH h → inS S s = false := fun s hs => by simpa [inS] using List.all_eq_true.mp hd s hs
  have a0 := hc.2.2.2.2 h (e _ (by simp [sH]))
  have a1 := hc.2.2.2.2 (hC h) (e _ (by rw [hC, sn_mk (by decide) (by decide)]; simp [sH]))
  have a2 := hc.2.2.2.2 (hW h) (e _ (by rw [hW, sn_mk (by decide) (by decide)]; simp [sH]))
  have a3 := hc.2.2.2.2 (hD h) (e _ (by rw [hD, sn_mk (by decide) (by decide)]; simp [sH]))
  have a4 := hc.2.2.2.2 (hZ h) (e _ (by rw [hZ, sn_mk (by decide) (by decide)]; simp [sH]))
  refine ⟨g.1.ch hc, g.2.1, by rw [a0.1]; exact g.2.2.1, fun i q hq => ?_⟩
  rw [a1.2.1, a2.2.1, a3.2.1, a4.2.1]; exact g.2.2.2 i q hq
/-- tape's bytes, how many, the fault's place; office, world, acts, what was heard; the image; what was refused -/
abbrev AT : Type := (Nat → Nat) × Nat × Int32 × AO × AW × List AW × List Hr × Option (AW × List AW × List Hr) × Int32 × Int32 × Int32
def tB (A : AT) : Nat → Nat := A.1
def tN (A : AT) : Nat := A.2.1
def tF (A : AT) : Int32 := A.2.2.1
def tO (A : AT) : AO := A.2.2.2.1
def tV (A : AT) : AW := A.2.2.2.2.1
def tA (A : AT) : List AW := A.2.2.2.2.2.1
def tH (A : AT) : List Hr := A.2.2.2.2.2.2.1
def tI (A : AT) : Option (AW × List AW × List Hr) := A.2.2.2.2.2.2.2.1
def tX (A : AT) : Int32 := A.2.2.2.2.2.2.2.2.1
def tY (A : AT) : Int32 := A.2.2.2.2.2.2.2.2.2.1
def tZ (A : AT) : Int32 := A.2.2.2.2.2.2.2.2.2.2
def OkU (O : AO) (V : AW) : Prop := OkV O V ∧ vD V ≤ 999
def OkH (O : AO) (Hs : List Hr) : Prop := Hs.length ≤ 8 ∧ ∀ q ∈ Hs, q.1 < aC O ∧ q.2.1 < aW O ∧ q.2.2.1 ≤ 12
def OkI (O : AO) : Option (AW × List AW × List Hr) → Prop
  | none => True
  | some q => OkU O q.1 ∧ q.2.1.length ≤ 40 ∧ (∀ V ∈ q.2.1, OkU O V) ∧ OkH O q.2.2
/-- what the state keeps whatever is called -/
def OkT (A : AT) : Prop := tN A ≤ 700 ∧ (∀ i, tB A i < 256) ∧ OkO (tO A) ∧ OkY (tO A) ∧ OkU (tO A) (tV A) ∧ (tA A).length ≤ 40 ∧ (∀ V ∈ tA A, OkU (tO A) V) ∧ OkH (tO A) (tH A) ∧ OkI (tO A) (tI A)
def StT (σ : PH) : Prop := hR σ T0 0 = 546705 ∧ hR σ T0 5 = 8126469 ∧ hR σ T0 6 = wN ∧ hR σ T0 7 = wA ∧ hR σ T0 8 = 11534336 ∧ hR σ T0 9 = 12058627 ∧ hR σ T0 11 = wI ∧ hR σ T0 12 = 14942208 ∧ hR σ T0 13 = 15466499 ∧ hR σ T0 14 = 16777218 ∧ hR σ T0 15 = 18087937 ∧ hR σ T0 16 = 18350192 ∧ hR σ T0 17 = 18622608 ∧ hR σ 8126469 2 = 546705 ∧ hR σ 16777218 0 = 17039664 ∧ hR σ 16777218 3 = 17301808 ∧ hR σ 16777218 4 = 17563952 ∧ hR σ 16777218 5 = 17842192
theorem StT.ch {σ σ' : PH} {p : Nat → Bool} (h : StT σ) (hc : Ch p σ σ') : StT σ' := by
  have e := hc.2.2.2.1
  unfold StT at h ⊢
  rw [e T0 0 (by decide), e T0 5 (by decide), e T0 6 (by decide), e T0 7 (by decide), e T0 8 (by decide), e T0 9 (by decide), e T0 11 (by decide), e T0 12 (by decide), e T0 13 (by decide), e T0 14 (by decide), e T0 15 (by decide), e T0 16 (by decide), e T0 17 (by decide), e 8126469 2 (by decide), e 16777218 0 (by decide), e 16777218 3 (by decide), e 16777218 4 (by decide), e 16777218 5 (by decide)]
  exact h
def tb (n : Nat) : Int32 := Int8.toInt32 (Int8.ofNat n)
def RpI (σ : PH) (o : Nat) : Option (AW × List AW × List Hr) → Prop
  | none => hI σ T0 10 = 0
  | some q => hI σ T0 10 = 1 ∧ RpW σ wI q.1 ∧ hR σ wI 0 = o ∧ RpA σ 14942208 q.2.1 ∧ RpH σ 15466499 q.2.2
/-- all but the tape: what calls other than feed and office need -/
def IT (σ : PH) (o o' : Nat) (A : AT) : Prop :=
  StT σ ∧ OkT A ∧ (isO o' ∧ o ≠ o' ∧ hR σ T0 3 = o ∧ hR σ T0 4 = o' ∧ SpO σ o') ∧ RpQ σ o (tO A) ∧ (RpW σ wN (tV A) ∧ hR σ wN 0 = o) ∧ (StW σ wA ∧ StW σ wI) ∧ RpA σ 11534336 (tA A) ∧ RpH σ 12058627 (tH A) ∧ RpI σ o (tI A) ∧ ((∃ l, RpA σ 14942208 l) ∧ StH σ 15466499) ∧
  (hI σ T0 1 = nI (tN A) ∧ hI σ T0 2 = tF A ∧ ∀ i, i < tN A → hA σ 546705 i = tb (tB A i)) ∧ (hA σ 18350192 0 = tX A ∧ hA σ 18350192 1 = tY A ∧ hA σ 18350192 2 = tZ A)
/-- cells that calls may use as they like: the world ahead, the piles, the edges, the draws, the answers -/
def sAuxW : List Nat := [13, 16, 27, 30, 38, 39, 40, 41, 42, 43, 64, 65, 66, 67, 68, 69, 71]
def sAux : List Nat := [13, 16, 27, 30, 38, 39, 40, 41, 42, 43]
theorem IT.auxW {σ σ' : PH} {o o' : Nat} {A : AT} (h : IT σ o o' A) (hc : Ch (inS sAuxW) σ σ') : IT σ' o o' A := by
  obtain ⟨h1, h2, ⟨a1, a2, a3, a4, a5⟩, h4, ⟨b1, b2⟩, ⟨c1, c2⟩, h7, h8, h9, ⟨d1, d2⟩, ⟨e1, e2, e3⟩, f1, f2, f3⟩ := h
  have ho := h4.1.1.1
  have t0 := hc.2.2.2.2 T0 rfl
  have n0 := hc.2.2.2.2 wN rfl
  have i0 := hc.2.2.2.2 wI rfl
  have tp := hc.2.2.2.2 546705 rfl
  have rf := hc.2.2.2.2 18350192 rfl
  refine ⟨h1.ch hc, h2, ⟨a1, a2, by rw [t0.2.2]; exact a3, by rw [t0.2.2]; exact a4, a5.ch hc (by decide)⟩, h4.ch hc ?_, ⟨b1.ch hc (by decide), by rw [n0.2.2]; exact b2⟩, ⟨c1.ch hc, c2.ch hc⟩, h7.ch hc (by decide), h8.ch hc (by decide), ?_, ⟨?_, d2.ch hc⟩, ⟨by rw [t0.1]; exact e1, by rw [t0.1]; exact e2, fun i hi => by rw [tp.2.1]; exact e3 i hi⟩, by rw [rf.2.1]; exact f1, by rw [rf.2.1]; exact f2, by rw [rf.2.1]; exact f3⟩
  · rcases ho with rfl | rfl <;> decide
  · unfold RpI at h9 ⊢
    cases hi : tI A with
    | none => rw [hi] at h9; show hI σ' T0 10 = 0; rw [t0.1]; exact h9
    | some q =>
      rw [hi] at h9
      show hI σ' T0 10 = 1 ∧ RpW σ' wI q.1 ∧ hR σ' wI 0 = o ∧ RpA σ' 14942208 q.2.1 ∧ RpH σ' 15466499 q.2.2
      rw [t0.1, i0.2.2]
      exact ⟨h9.1, h9.2.1.ch hc (by decide), h9.2.2.1, h9.2.2.2.1.ch hc (by decide), h9.2.2.2.2.ch hc (by decide)⟩
  · obtain ⟨l, hl⟩ := d1
    exact ⟨l, hl.ch hc (by decide)⟩
theorem IT.aux {σ σ' : PH} {o o' : Nat} {A : AT} (h : IT σ o o' A) (hc : Ch (inS sAux) σ σ') : IT σ' o o' A := h.auxW (hc.more (by decide))
/-- all serials of the class -/
def cls (s : Nat) : Bool := decide (s < 72)
theorem Ch.toC {S : List Nat} {σ σ' : PH} (h : Ch (inS S) σ σ') (hS : S.all (fun s => decide (s < 72)) = true) : Ch cls σ σ' :=
  h.mono (fun s hs => by
    cases e : inS S s with
    | false => rfl
    | true =>
      have h1 := List.all_eq_true.mp hS s (by simpa [inS] using e)
      rw [show decide (s < 72) = false from hs] at h1; cases h1)
/-- the answer of a call: (0, answer), or (1 or 2: the catch that takes it, _); il: the first catch is of IllegalArgumentException -/
def rS (sp : Nat × Int32) (il : Bool) (P : PH → Prop) : PO → PH → Prop := fun o σ' => o = (if sp.1 = 0 then .inl (some (.int sp.2)) else .inr (if il = true then 2 else sp.1)) ∧ P σ'
def gd (b : Bool) (k : Nat) (r : Nat × Int32) : Nat × Int32 := if b = true then r else (k, 0)
def inR (x : Int32) (n : Nat) : Bool := decide (0 ≤ x) && decide (x < nI n)
def btw (x : Int32) (a b : Nat) : Bool := decide (nI a ≤ x) && decide (x ≤ nI b)
theorem asN {x : Int32} {n : Nat} (h : inR x n = true) (hn : n < 2147483648) : ∃ k, x = nI k ∧ k < n := by
  simp only [inR, Bool.and_eq_true, decide_eq_true_eq] at h
  have h1 := Int32.le_iff_toInt_le.mp h.1
  have h2 := Int32.lt_iff_toInt_lt.mp h.2
  rw [show (nI n).toInt = (n : Int) from Int32.toInt_ofNat_of_lt hn] at h2
  have h3 : (0 : Int32).toInt = 0 := rfl
  rw [h3] at h1
  refine ⟨x.toInt.toNat, ?_, by omega⟩
  apply Int32.toInt_inj.mp
  rw [show (nI x.toInt.toNat).toInt = ((x.toInt.toNat : Nat) : Int) from Int32.toInt_ofNat_of_lt (by omega)]
  omega
theorem asB {x : Int32} {a b : Nat} (h : btw x a b = true) (ha : a ≤ b) (hb : b < 2147483647) : ∃ k, x = nI k ∧ a ≤ k ∧ k ≤ b := by
  simp only [btw, Bool.and_eq_true, decide_eq_true_eq] at h
  have h1 := Int32.le_iff_toInt_le.mp h.1
  have h2 := Int32.le_iff_toInt_le.mp h.2
  rw [show (nI b).toInt = (b : Int) from Int32.toInt_ofNat_of_lt (by omega)] at h2
  rw [show (nI a).toInt = (a : Int) from Int32.toInt_ofNat_of_lt (by omega)] at h1
  refine ⟨x.toInt.toNat, ?_, by omega, by omega⟩
  apply Int32.toInt_inj.mp
  rw [show (nI x.toInt.toNat).toInt = ((x.toInt.toNat : Nat) : Int) from Int32.toInt_ofNat_of_lt (by omega)]
  omega
theorem btw_nI {k a b : Nat} (h1 : a ≤ k) (h2 : k ≤ b) (hb : b < 2147483647) : btw (nI k) a b = true := by
  simp only [btw, Bool.and_eq_true, decide_eq_true_eq]
  refine ⟨Int32.le_iff_toInt_le.mpr ?_, Int32.le_iff_toInt_le.mpr ?_⟩
  · rw [show (nI k).toInt = (k : Int) from Int32.toInt_ofNat_of_lt (by omega), show (nI a).toInt = (a : Int) from Int32.toInt_ofNat_of_lt (by omega)]
    omega
  · rw [show (nI k).toInt = (k : Int) from Int32.toInt_ofNat_of_lt (by omega), show (nI b).toInt = (b : Int) from Int32.toInt_ofNat_of_lt (by omega)]
    omega
theorem inR_nI {k n : Nat} (h : k < n) (hn : n < 2147483648) : inR (nI k) n = true := by
  simp only [inR, Bool.and_eq_true, decide_eq_true_eq]
  refine ⟨Int32.le_iff_toInt_le.mpr ?_, Int32.lt_iff_toInt_lt.mpr ?_⟩
  · rw [show (nI k).toInt = (k : Int) from Int32.toInt_ofNat_of_lt (by omega)]
    show (0 : Int) ≤ k
    omega
  · rw [show (nI k).toInt = (k : Int) from Int32.toInt_ofNat_of_lt (by omega), show (nI n).toInt = (n : Int) from Int32.toInt_ofNat_of_lt hn]
    omega
def iN (x : Int32) : Nat := x.toNatClampNeg
theorem iN_nI {k : Nat} (h : k < 2147483648) : iN (nI k) = k := by
  unfold iN
  show (nI k).toInt.toNat = k
  rw [show (nI k).toInt = (k : Int) from Int32.toInt_ofNat_of_lt h]
  rfl
section C45
variable {Γ : Gm} {σ : PH} {o o' : Nat} {A : AT}
theorem tl_X8_office_12 : TL mX8_office 2 103 105 107 0 := ⟨tb_i 607 (by decide +kernel) rfl, tb_i 133 (by decide +kernel) rfl, thw2, by decide, rfl, rfl, rfl⟩
theorem tl_X8_count_201 : TL mX8_count 1 167 169 171 1 := ⟨tb_i 939 (by decide +kernel) rfl, tb_i 142 (by decide +kernel) rfl, thw1, by decide, rfl, rfl, rfl⟩
theorem tl_X8_sheet_88 : TL mX8_sheet 1 167 192 171 2 := ⟨tb_i 939 (by decide +kernel) rfl, tb_i 142 (by decide +kernel) rfl, thw1, by decide, rfl, rfl, rfl⟩
theorem tl_X8_clerk_81 : TL mX8_clerk 1 167 209 171 3 := ⟨tb_i 939 (by decide +kernel) rfl, tb_i 142 (by decide +kernel) rfl, thw1, by decide, rfl, rfl, rfl⟩
theorem tl_X8_word_74 : TL mX8_word 1 167 226 171 4 := ⟨tb_i 939 (by decide +kernel) rfl, tb_i 142 (by decide +kernel) rfl, thw1, by decide, rfl, rfl, rfl⟩
theorem tl_X8_town_101 : TL mX8_town 1 167 246 171 5 := ⟨tb_i 939 (by decide +kernel) rfl, tb_i 142 (by decide +kernel) rfl, thw1, by decide, rfl, rfl, rfl⟩
theorem tl_X8_odd_90 : TL mX8_odd 1 167 322 171 6 := ⟨tb_i 939 (by decide +kernel) rfl, tb_i 142 (by decide +kernel) rfl, thw1, by decide, rfl, rfl, rfl⟩
theorem tl_X8_game_20 : TL mX8_game 2 103 354 107 7 := ⟨tb_i 607 (by decide +kernel) rfl, tb_i 133 (by decide +kernel) rfl, thw2, by decide, rfl, rfl, rfl⟩
theorem tl_X8_needSheet_15 : TL mX8_needSheet 1 167 382 171 8 := ⟨tb_i 939 (by decide +kernel) rfl, tb_i 142 (by decide +kernel) rfl, thw1, by decide, rfl, rfl, rfl⟩
theorem tl_X8_needClerk_15 : TL mX8_needClerk 1 167 384 171 9 := ⟨tb_i 939 (by decide +kernel) rfl, tb_i 142 (by decide +kernel) rfl, thw1, by decide, rfl, rfl, rfl⟩
theorem tl_X8_needWord_15 : TL mX8_needWord 1 167 386 171 10 := ⟨tb_i 939 (by decide +kernel) rfl, tb_i 142 (by decide +kernel) rfl, thw1, by decide, rfl, rfl, rfl⟩
theorem tl_X8_needTown_9 : TL mX8_needTown 1 167 388 171 11 := ⟨tb_i 939 (by decide +kernel) rfl, tb_i 142 (by decide +kernel) rfl, thw1, by decide, rfl, rfl, rfl⟩
theorem tl_X8_needBelow_9 : TL mX8_needBelow 1 167 390 171 12 := ⟨tb_i 939 (by decide +kernel) rfl, tb_i 142 (by decide +kernel) rfl, thw1, by decide, rfl, rfl, rfl⟩
theorem tl_X8_needBetween_10 : TL mX8_needBetween 2 103 392 107 13 := ⟨tb_i 607 (by decide +kernel) rfl, tb_i 133 (by decide +kernel) rfl, thw2, by decide, rfl, rfl, rfl⟩
theorem nlt0 {x : Int32} (h : ¬ x < 0) : 0 ≤ x := Int32.not_lt.mp h
set_option maxRecDepth 4000 in
theorem c_needSheet {O : AO} (hT : hR σ T0 3 = o) (hQ : RpQ σ o O) (x : Int32) : CallOk Γ 6 1 6 mX8_needSheet [.ref T0, .int x] σ (rN σ (inR x (aS O) = true) 1) := by
  refine p_enter rfl rfl (Nat.le_of_ble_eq_true rfl) rfl ?_
  refine p_iload_n 1 1 rfl rfl dX8_needSheet_0 rfl ?_
  refine p_if_lt 15 4 rfl rfl dX8_needSheet_1 (fun h1 => ?_) (fun h1 => ?_)
  · exact p_throwW dX8_needSheet_15 dX8_needSheet_18 dX8_needSheet_19 dX8_needSheet_22 dX8_needSheet_25 (x := 1) (i := 8) tl_X8_needSheet_15 (Nat.le_of_ble_eq_true rfl) (Nat.le_of_ble_eq_true rfl) (Nat.le_of_ble_eq_true rfl) (Nat.le_of_ble_eq_true rfl) (⟨rfl, Or.inr ⟨rfl, by first | (simp [inR, Int32.not_lt.mpr (Int32.not_lt.mp h12)]; done) | simp [inR, Int32.not_le.mpr h1] ⟩⟩)
  · refine p_iload_n 1 5 rfl rfl dX8_needSheet_4 rfl ?_
    refine p_aload_n 0 6 rfl rfl dX8_needSheet_5 rfl ?_
    refine p_getR 8 3 9 rfl dX8_needSheet_6 fl_X8_23 rfl rfl hT hQ.1.1.1.ne0 ?_
    refine p_getIE 4 0 12 rfl dX8_needSheet_9 fl_X8_131 hQ.1.1.1.kd rfl hQ.1.2.2.1 ?_
    refine p_icmp_lt 26 15 rfl rfl dX8_needSheet_12 (fun h12 => ?_) (fun h12 => ?_)
    · exact p_vret dX8_needSheet_26 rfl ⟨rfl, Or.inl ⟨rfl, by simp [inR, Int32.not_lt.mp h1, h12]⟩⟩
    · exact p_throwW dX8_needSheet_15 dX8_needSheet_18 dX8_needSheet_19 dX8_needSheet_22 dX8_needSheet_25 (x := 1) (i := 8) tl_X8_needSheet_15 (Nat.le_of_ble_eq_true rfl) (Nat.le_of_ble_eq_true rfl) (Nat.le_of_ble_eq_true rfl) (Nat.le_of_ble_eq_true rfl) (⟨rfl, Or.inr ⟨rfl, by first | (simp [inR, Int32.not_lt.mpr (Int32.not_lt.mp h12)]; done) | simp [inR, Int32.not_le.mpr h1] ⟩⟩)
set_option maxRecDepth 4000 in
theorem c_needClerk {O : AO} (hT : hR σ T0 3 = o) (hQ : RpQ σ o O) (x : Int32) : CallOk Γ 6 1 6 mX8_needClerk [.ref T0, .int x] σ (rN σ (inR x (aC O) = true) 1) := by
  refine p_enter rfl rfl (Nat.le_of_ble_eq_true rfl) rfl ?_
  refine p_iload_n 1 1 rfl rfl dX8_needClerk_0 rfl ?_
  refine p_if_lt 15 4 rfl rfl dX8_needClerk_1 (fun h1 => ?_) (fun h1 => ?_)
  · exact p_throwW dX8_needClerk_15 dX8_needClerk_18 dX8_needClerk_19 dX8_needClerk_22 dX8_needClerk_25 (x := 1) (i := 9) tl_X8_needClerk_15 (Nat.le_of_ble_eq_true rfl) (Nat.le_of_ble_eq_true rfl) (Nat.le_of_ble_eq_true rfl) (Nat.le_of_ble_eq_true rfl) (⟨rfl, Or.inr ⟨rfl, by first | (simp [inR, Int32.not_lt.mpr (Int32.not_lt.mp h12)]; done) | simp [inR, Int32.not_le.mpr h1] ⟩⟩)
  · refine p_iload_n 1 5 rfl rfl dX8_needClerk_4 rfl ?_
    refine p_aload_n 0 6 rfl rfl dX8_needClerk_5 rfl ?_
    refine p_getR 8 3 9 rfl dX8_needClerk_6 fl_X8_23 rfl rfl hT hQ.1.1.1.ne0 ?_
    refine p_getIE 4 4 12 rfl dX8_needClerk_9 fl_X8_134 hQ.1.1.1.kd rfl hQ.1.2.2.2.1 ?_
    refine p_icmp_lt 26 15 rfl rfl dX8_needClerk_12 (fun h12 => ?_) (fun h12 => ?_)
    · exact p_vret dX8_needClerk_26 rfl ⟨rfl, Or.inl ⟨rfl, by simp [inR, Int32.not_lt.mp h1, h12]⟩⟩
    · exact p_throwW dX8_needClerk_15 dX8_needClerk_18 dX8_needClerk_19 dX8_needClerk_22 dX8_needClerk_25 (x := 1) (i := 9) tl_X8_needClerk_15 (Nat.le_of_ble_eq_true rfl) (Nat.le_of_ble_eq_true rfl) (Nat.le_of_ble_eq_true rfl) (Nat.le_of_ble_eq_true rfl) (⟨rfl, Or.inr ⟨rfl, by first | (simp [inR, Int32.not_lt.mpr (Int32.not_lt.mp h12)]; done) | simp [inR, Int32.not_le.mpr h1] ⟩⟩)
set_option maxRecDepth 4000 in
theorem c_needWord {O : AO} (hT : hR σ T0 3 = o) (hQ : RpQ σ o O) (x : Int32) : CallOk Γ 6 1 6 mX8_needWord [.ref T0, .int x] σ (rN σ (inR x (aW O) = true) 1) := by
  refine p_enter rfl rfl (Nat.le_of_ble_eq_true rfl) rfl ?_
  refine p_iload_n 1 1 rfl rfl dX8_needWord_0 rfl ?_
  refine p_if_lt 15 4 rfl rfl dX8_needWord_1 (fun h1 => ?_) (fun h1 => ?_)
  · exact p_throwW dX8_needWord_15 dX8_needWord_18 dX8_needWord_19 dX8_needWord_22 dX8_needWord_25 (x := 1) (i := 10) tl_X8_needWord_15 (Nat.le_of_ble_eq_true rfl) (Nat.le_of_ble_eq_true rfl) (Nat.le_of_ble_eq_true rfl) (Nat.le_of_ble_eq_true rfl) (⟨rfl, Or.inr ⟨rfl, by first | (simp [inR, Int32.not_lt.mpr (Int32.not_lt.mp h12)]; done) | simp [inR, Int32.not_le.mpr h1] ⟩⟩)
  · refine p_iload_n 1 5 rfl rfl dX8_needWord_4 rfl ?_
    refine p_aload_n 0 6 rfl rfl dX8_needWord_5 rfl ?_
    refine p_getR 8 3 9 rfl dX8_needWord_6 fl_X8_23 rfl rfl hT hQ.1.1.1.ne0 ?_
    refine p_getIE 4 7 12 rfl dX8_needWord_9 fl_X8_137 hQ.1.1.1.kd rfl hQ.1.2.2.2.2.1 ?_
    refine p_icmp_lt 26 15 rfl rfl dX8_needWord_12 (fun h12 => ?_) (fun h12 => ?_)
    · exact p_vret dX8_needWord_26 rfl ⟨rfl, Or.inl ⟨rfl, by simp [inR, Int32.not_lt.mp h1, h12]⟩⟩
    · exact p_throwW dX8_needWord_15 dX8_needWord_18 dX8_needWord_19 dX8_needWord_22 dX8_needWord_25 (x := 1) (i := 10) tl_X8_needWord_15 (Nat.le_of_ble_eq_true rfl) (Nat.le_of_ble_eq_true rfl) (Nat.le_of_ble_eq_true rfl) (Nat.le_of_ble_eq_true rfl) (⟨rfl, Or.inr ⟨rfl, by first | (simp [inR, Int32.not_lt.mpr (Int32.not_lt.mp h12)]; done) | simp [inR, Int32.not_le.mpr h1] ⟩⟩)
set_option maxRecDepth 4000 in
theorem c_needTown (x : Int32) : CallOk Γ 6 1 6 mX8_needTown [.int x] σ (rN σ (inR x 4 = true) 1) := by
  refine p_enter rfl rfl (Nat.le_of_ble_eq_true rfl) rfl ?_
  refine p_iload_n 0 1 rfl rfl dX8_needTown_0 rfl ?_
  refine p_if_lt 9 4 rfl rfl dX8_needTown_1 (fun h1 => ?_) (fun h1 => ?_)
  · exact p_throwW dX8_needTown_9 dX8_needTown_12 dX8_needTown_13 dX8_needTown_16 dX8_needTown_19 (x := 1) (i := 11) tl_X8_needTown_9 (Nat.le_of_ble_eq_true rfl) (Nat.le_of_ble_eq_true rfl) (Nat.le_of_ble_eq_true rfl) (Nat.le_of_ble_eq_true rfl) (⟨rfl, Or.inr ⟨rfl, by first | (simp [inR, Int32.not_le.mpr h1]; done) | (simp [inR]; intro _; exact Int32.not_lt.mp h6)⟩⟩)
  · refine p_iload_n 0 5 rfl rfl dX8_needTown_4 rfl ?_
    refine p_iconst (4) 6 rfl dX8_needTown_5 rfl ?_
    refine p_icmp_lt 20 9 rfl rfl dX8_needTown_6 (fun h6 => ?_) (fun h6 => ?_)
    · exact p_vret dX8_needTown_20 rfl ⟨rfl, Or.inl ⟨rfl, by simp only [inR, Bool.and_eq_true, decide_eq_true_eq]; exact ⟨Int32.not_lt.mp h1, h6⟩⟩⟩
    · exact p_throwW dX8_needTown_9 dX8_needTown_12 dX8_needTown_13 dX8_needTown_16 dX8_needTown_19 (x := 1) (i := 11) tl_X8_needTown_9 (Nat.le_of_ble_eq_true rfl) (Nat.le_of_ble_eq_true rfl) (Nat.le_of_ble_eq_true rfl) (Nat.le_of_ble_eq_true rfl) (⟨rfl, Or.inr ⟨rfl, by first | (simp [inR, Int32.not_le.mpr h1]; done) | (simp [inR]; intro _; exact Int32.not_lt.mp h6)⟩⟩)
set_option maxRecDepth 4000 in
theorem c_needBelow (x : Int32) (n : Nat) : CallOk Γ 6 1 6 mX8_needBelow [.int x, .int (nI n)] σ (rN σ (inR x n = true) 1) := by
  refine p_enter rfl rfl (Nat.le_of_ble_eq_true rfl) rfl ?_
  refine p_iload_n 0 1 rfl rfl dX8_needBelow_0 rfl ?_
  refine p_if_lt 9 4 rfl rfl dX8_needBelow_1 (fun h1 => ?_) (fun h1 => ?_)
  · exact p_throwW dX8_needBelow_9 dX8_needBelow_12 dX8_needBelow_13 dX8_needBelow_16 dX8_needBelow_19 (x := 1) (i := 12) tl_X8_needBelow_9 (Nat.le_of_ble_eq_true rfl) (Nat.le_of_ble_eq_true rfl) (Nat.le_of_ble_eq_true rfl) (Nat.le_of_ble_eq_true rfl) (⟨rfl, Or.inr ⟨rfl, by first | (simp [inR, Int32.not_le.mpr h1]; done) | (simp [inR]; intro _; exact Int32.not_lt.mp h6)⟩⟩)
  · refine p_iload_n 0 5 rfl rfl dX8_needBelow_4 rfl ?_
    refine p_iload_n 1 6 rfl rfl dX8_needBelow_5 rfl ?_
    refine p_icmp_lt 20 9 rfl rfl dX8_needBelow_6 (fun h6 => ?_) (fun h6 => ?_)
    · exact p_vret dX8_needBelow_20 rfl ⟨rfl, Or.inl ⟨rfl, by simp only [inR, Bool.and_eq_true, decide_eq_true_eq]; exact ⟨Int32.not_lt.mp h1, h6⟩⟩⟩
    · exact p_throwW dX8_needBelow_9 dX8_needBelow_12 dX8_needBelow_13 dX8_needBelow_16 dX8_needBelow_19 (x := 1) (i := 12) tl_X8_needBelow_9 (Nat.le_of_ble_eq_true rfl) (Nat.le_of_ble_eq_true rfl) (Nat.le_of_ble_eq_true rfl) (Nat.le_of_ble_eq_true rfl) (⟨rfl, Or.inr ⟨rfl, by first | (simp [inR, Int32.not_le.mpr h1]; done) | (simp [inR]; intro _; exact Int32.not_lt.mp h6)⟩⟩)
set_option maxRecDepth 4000 in
theorem c_needBetween (x : Int32) (a b : Nat) : CallOk Γ 6 1 6 mX8_needBetween [.int x, .int (nI a), .int (nI b)] σ (rN σ (btw x a b = true) 2) := by
  refine p_enter rfl rfl (Nat.le_of_ble_eq_true rfl) rfl ?_
  refine p_iload_n 0 1 rfl rfl dX8_needBetween_0 rfl ?_
  refine p_iload_n 1 2 rfl rfl dX8_needBetween_1 rfl ?_
  refine p_icmp_lt 10 5 rfl rfl dX8_needBetween_2 (fun h2 => ?_) (fun h2 => ?_)
  · exact p_throwW dX8_needBetween_10 dX8_needBetween_13 dX8_needBetween_14 dX8_needBetween_17 dX8_needBetween_20 (x := 2) (i := 13) tl_X8_needBetween_10 (Nat.le_of_ble_eq_true rfl) (Nat.le_of_ble_eq_true rfl) (Nat.le_of_ble_eq_true rfl) (Nat.le_of_ble_eq_true rfl) (⟨rfl, Or.inr ⟨rfl, by first | (simp [btw, Int32.not_le.mpr h2]; done) | (simp [btw]; intro _; exact Int32.not_le.mp h7)⟩⟩)
  · refine p_iload_n 0 6 rfl rfl dX8_needBetween_5 rfl ?_
    refine p_iload_n 2 7 rfl rfl dX8_needBetween_6 rfl ?_
    refine p_icmp_le 21 10 rfl rfl dX8_needBetween_7 (fun h7 => ?_) (fun h7 => ?_)
    · exact p_vret dX8_needBetween_21 rfl ⟨rfl, Or.inl ⟨rfl, by simp only [btw, Bool.and_eq_true, decide_eq_true_eq]; exact ⟨Int32.not_lt.mp h2, h7⟩⟩⟩
    · exact p_throwW dX8_needBetween_10 dX8_needBetween_13 dX8_needBetween_14 dX8_needBetween_17 dX8_needBetween_20 (x := 2) (i := 13) tl_X8_needBetween_10 (Nat.le_of_ble_eq_true rfl) (Nat.le_of_ble_eq_true rfl) (Nat.le_of_ble_eq_true rfl) (Nat.le_of_ble_eq_true rfl) (⟨rfl, Or.inr ⟨rfl, by first | (simp [btw, Int32.not_le.mpr h2]; done) | (simp [btw]; intro _; exact Int32.not_le.mp h7)⟩⟩)
end C45
