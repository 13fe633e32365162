/-! ===== a line that is read well leaves the tape further on ===== -/
def Pq (S S' : RS) : Prop := S'.1 = 0 → S.1 = 0 ∧ S'.2.1 = S.2.1
theorem Pq.rf (S : RS) : Pq S S := fun h => ⟨h, rfl⟩
theorem Pq.tr {S S1 S2 : RS} (h : Pq S S1) (g : Pq S1 S2) : Pq S S2 := fun q => ⟨(h (g q).1).1, (g q).2.trans (h (g q).1).2⟩
theorem Pq.ad (tx : Nat → Nat) (z : Nat) (S : RS) : Pq S (adv tx z S) := fun h => ⟨by rw [adv_f] at h; exact h, adv_p tx z S⟩
theorem Pq.fa {z w : Nat} {S : RS} (hw : w ≠ 0) : Pq S (fai z w S) := fun h => absurd h (fai_n hw)
theorem Pq.rs (tx : Nat → Nat) (z c : Nat) (S : RS) : Pq S (rdS tx z c S) := by
  unfold rdS; split
  · exact Pq.ad tx z S
  · exact Pq.fa (by decide)
theorem Pq.rn (tx : Nat → Nat) (z m : Nat) (S : RS) : Pq S (rdN tx z m S).2 := by
  unfold rdN; split
  · split
    · exact Pq.ad tx z S
    · exact Pq.fa (by decide)
  · exact Pq.fa (by decide)
theorem Pq.rw_ (tx : Nat → Nat) (z : Nat) (O : AO) (be : Int32) (S : RS) : Pq S (rdW tx z O be S).2 := by
  refine Pq.tr ?_ (Pq.rn tx z 9999 (rdWS z O be S))
  unfold rdWS; split
  · split
    · split
      · exact Pq.fa (by decide)
      · exact Pq.rf S
    · exact Pq.fa (by decide)
  · exact Pq.rf S
theorem Pq.nots (tx : Nat → Nat) (z : Nat) : ∀ n S, Pq S (nots tx z n S).2 := by
  intro n
  induction n with
  | zero => intro S; exact Pq.rf S
  | succ n ih =>
    intro S
    rw [Jvm.Pilot.CTwinInkLaw_law_r5853_87fdbd.nots]
    split
    · exact (Pq.ad tx z S).tr (ih _)
    · exact Pq.rf S
theorem Pq.nt (tx : Nat → Nat) (z t : Nat) (S : RS) : Pq S (ntF tx z t S).2 := by
  unfold ntF; split
  · unfold rdNots ntE
    refine (Pq.nots tx z 6 S).tr ?_
    show Pq _ (if spl tx (_root_.Prod.snd _) (swd 20) = true then fai z 2 _ else _)
    split
    · exact Pq.fa (by decide)
    · exact Pq.rf _
  · exact Pq.rf S
theorem Pq.lop {tx : Nat → Nat} {z : Nat} {rec : PZ → PZ} {t : Nat} (hr : ∀ X : PZ, Pq X.1 (rec X).1) : ∀ n op (X : PZ), Pq X.1 (lopF tx z rec t n op X).1 := by
  intro n
  induction n with
  | zero => intro op X; exact Pq.rf _
  | succ n ih =>
    intro op X
    rw [lopF]
    split
    · exact Pq.rf _
    · exact ((Pq.ad tx z X.1).tr (hr (adv tx z X.1, X.2))).tr (ih _ _)
theorem Pq.prt {tx : Nat → Nat} {z : Nat} {w : Bool} {rec : PZ → PZ} (hr : ∀ X : PZ, Pq X.1 (rec X).1) (X : PZ) : Pq X.1 (prtF tx z w rec X).1 := by
  unfold prtF
  split
  · exact Pq.rn tx z 9999 X.1
  · split
    · generalize (if w = true then slT tx X.1 else slH tx X.1) = q
      cases q with
      | none => exact Pq.fa (by decide)
      | some s => exact Pq.ad tx z X.1
    · split
      · exact ((Pq.ad tx z X.1).tr (hr (adv tx z X.1, X.2))).tr (Pq.rs tx z 41 _)
      · exact Pq.fa (by decide)
theorem Pq.tir (tx : Nat → Nat) (z : Nat) (w : Bool) : ∀ g t dp (X : PZ), Pq X.1 (tirF tx z w g t dp X).1 := by
  intro g
  induction g with
  | zero => intro t dp X; exact Pq.rf _
  | succ g ih =>
    intro t dp X
    rw [tirF]
    split
    · unfold deep; exact Pq.fa (by split <;> decide)
    · split
      · exact Pq.prt (fun X => ih 0 (dp + 1) X) X
      · exact ((Pq.nt tx z t X.1).tr (ih (t + 1) dp ((ntF tx z t X.1).2, X.2))).tr (Pq.lop (fun X => ih (t + 1) dp X) _ _ _)
theorem tir_st {tx : Nat → Nat} {z : Nat} {w : Bool} (hz : z ≤ 700) {S : RS} (hg : S.1 = 0) (ho : OkR z S) {Z : PZ} (hZ : tirF tx z w 40 0 0 (S, []) = Z) (h0 : Z.1.1 = 0) : S.2.2.2.1 ≤ Z.1.2.2.2.1 ∧ OkR z Z.1 := by
  have h := sim_all (tx := tx) (w := w) hz 40 0 0 (by decide) (by decide) (by decide) (exX S [] (fun _ => false)) [] hg ho (Nat.zero_le _) rfl (fun _ => rfl) True.intro
  have h' : SimR tx z w 0 (lo 0) 0 (Rr 0 0) (0, exX S [] (fun _ => false)) (exX S [] (fun _ => false)) S.2.2.2.1 [] (tirF tx z w 40 0 0 (S, [])) := h
  rw [hZ] at h'
  obtain ⟨X2, steps, r1, r2, r3⟩ := h'.2 h0
  obtain ⟨a1, a2, a3, a4, a5, a6, a7, a8, a9⟩ := r3
  have e : Z.1 = zS X2 := by rw [r2]
  rw [e]
  exact ⟨by omega, a2⟩
/-- what is read well -/
def Gs (z : Nat) (S S' : RS) : Prop := S'.1 = 0 → S.1 = 0 ∧ S.2.2.2.1 ≤ S'.2.2.2.1 ∧ S'.2.1 = S.2.1 ∧ OkR z S'
theorem Gs.rf {z : Nat} {S : RS} (h : OkR z S) : Gs z S S := fun q => ⟨q, Nat.le_refl _, rfl, h⟩
theorem Gs.tr {z : Nat} {S S1 S2 : RS} (h : Gs z S S1) (g : OkR z S1 → Gs z S1 S2) (g0 : S2.1 = 0 → S1.1 = 0) : Gs z S S2 := fun q => by
  have a := h (g0 q)
  have b := g a.2.2.2 q
  exact ⟨a.1, by omega, b.2.2.1.trans a.2.2.1, b.2.2.2⟩
theorem Gs.ad {tx : Nat → Nat} {z : Nat} {S : RS} (ho : OkR z S) (hk : S.2.2.1 ≠ 0) : Gs z S (adv tx z S) := fun q => by
  have := adv_st (tx := tx) ho hk
  exact ⟨by rw [adv_f] at q; exact q, by omega, adv_p tx z S, adv_ok ho⟩
theorem Gs.fa {z w : Nat} {S : RS} (hw : w ≠ 0) : Gs z S (fai z w S) := fun h => absurd h (fai_n hw)
theorem Gs.rn {tx : Nat → Nat} {z m : Nat} {S : RS} (ho : OkR z S) : Gs z S (rdN tx z m S).2 := by
  unfold rdN; split
  · rename_i hk
    split
    · exact Gs.ad ho (by rw [hk]; decide)
    · exact Gs.fa (by decide)
  · exact Gs.fa (by decide)
theorem rdN_g {tx : Nat → Nat} {z m : Nat} {S : RS} (h : (rdN tx z m S).2.1 = 0) : S.1 = 0 := (rdN_0 h).1
theorem Gs.ws {z : Nat} {O : AO} {be : Int32} {S : RS} (ho : OkR z S) : Gs z S (rdWS z O be S) := by
  unfold rdWS; split
  · split
    · split
      · exact Gs.fa (by decide)
      · exact Gs.rf ho
    · exact Gs.fa (by decide)
  · exact Gs.rf ho
theorem Gs.rw_ {tx : Nat → Nat} {z : Nat} {O : AO} {be : Int32} {S : RS} (ho : OkR z S) : Gs z S (rdW tx z O be S).2 :=
  (Gs.ws ho).tr (fun h => Gs.rn h) (fun q => rdN_g q)
theorem Gs.sp {tx : Nat → Nat} {z : Nat} : ∀ n (X : LX), OkR z X.1 → Gs z X.1 (stpF tx z n X).1 := by
  intro n
  induction n with
  | zero => intro X h; exact Gs.rf h
  | succ n ih =>
    intro X h
    by_cases hk : X.1.2.2.1 = 2
    · rw [stpF_y hk]
      have e : Gs z X.1 (lnStop tx z X).1 := by
        unfold lnStop; split
        · exact Gs.rn h
        · exact Gs.fa (by decide)
      have ok : OkR z (lnStop tx z X).1 := by
        unfold lnStop; split
        · exact (rdN_ok h).1
        · exact fai_ok h (by decide)
      exact e.tr (fun h1 => ih _ h1) (fun q => (ih _ ok q).1)
    · rw [stpF_n hk]; exact Gs.rf h
theorem Gs.any {tx : Nat → Nat} {z : Nat} (hz : z ≤ 700) {S : RS} {B : OB} (ho : OkR z S) : Gs z S (lnAny tx z (S, B)).1 := by
  have ad : ∀ {w}, spl tx S w = true → Gs z S (adv tx z S) := fun h => Gs.ad ho (by rw [spl_k h]; decide)
  have oa : OkR z (adv tx z S) := adv_ok ho
  have ru : ∀ w, (∃ v, spl tx S v = true) → Gs z S (lnRule tx z w (S, B)).1 := fun w hv => by
    obtain ⟨v, hv⟩ := hv
    by_cases hn : (if w = true then aY B.1 else aM B.1) = none
    · obtain ⟨Z, hZ⟩ : ∃ Z, tirF tx z w 40 0 0 (adv tx z S, []) = Z := ⟨_, rfl⟩
      rw [lnRule_e hn hZ]
      intro q
      have p := Pq.tir tx z w 40 0 0 (adv tx z S, [])
      rw [hZ] at p
      have a := ad hv (p q).1
      have b := tir_st hz (p q).1 oa hZ q
      exact ⟨a.1, Nat.le_trans a.2.1 b.1, (p q).2.trans a.2.2.1, b.2⟩
    · rw [show lnRule tx z w (S, B) = (fai z 5 S, B) from if_neg hn]; exact Gs.fa (by decide)
  unfold lnAny
  split
  · rename_i h
    unfold lnSheet; split
    · exact (((ad h).tr (fun h1 => Gs.rn h1) (fun q => rdN_g q)).tr (fun h1 => Gs.rn h1) (fun q => rdN_g q)).tr (fun h1 => Gs.rn h1) (fun q => rdN_g q)
    · exact Gs.fa (by decide)
  · split
    · rename_i h
      unfold lnClerk; split
      · have g1 : Gs z S (rdN tx z 3 (adv tx z S)).2 := (ad h).tr (fun h1 => Gs.rn h1) (fun q => rdN_g q)
        have o1 : OkR z (rdN tx z 3 (adv tx z S)).2 := (rdN_ok oa).1
        refine Gs.tr g1 (fun h1 => Gs.sp 6 (_, _) h1) (fun q => (Gs.sp 6 (_, _) o1 q).1)
      · exact Gs.fa (by decide)
    · split
      · rename_i h
        unfold lnWord; split
        · have o1 : OkR z (rdW tx z B.1 (-1) (adv tx z S)).2 := (rdN_ok (rdWS_ok oa)).1
          exact ((ad h).tr (fun h1 => Gs.rw_ h1) (fun q => (Gs.rw_ oa q).1)).tr (fun h1 => Gs.rw_ h1) (fun q => (Gs.rw_ o1 q).1)
        · exact Gs.fa (by decide)
      · split
        · rename_i h
          unfold lnSlack; split
          · exact (ad h).tr (fun h1 => Gs.rn h1) (fun q => rdN_g q)
          · exact Gs.fa (by decide)
        · split
          · rename_i h; exact ru true ⟨_, h⟩
          · split
            · rename_i h; exact ru false ⟨_, h⟩
            · exact Gs.fa (by decide)
theorem ln_st {tx : Nat → Nat} {z : Nat} (hz : z ≤ 700) {X : LX} (ho : OkR z X.1) (h : (lnOne tx z X).1.1 = 0) : X.1.2.2.2.1 + 1 ≤ (lnOne tx z X).1.2.2.2.1 ∧ (lnOne tx z X).1.2.1 = X.1.2.1 := by
  obtain ⟨S, B⟩ := X
  have e : (lnOne tx z (S, B)).1 = rdS tx z 59 (lnAny tx z (S, B)).1 := rfl
  rw [e] at h ⊢
  have p := Pq.rs tx z 59 _ h
  have g := Gs.any (tx := tx) hz (S := S) (B := B) ho p.1
  refine ⟨?_, p.2.trans g.2.2.1⟩
  by_cases hs : sta tx (lnAny tx z (S, B)).1 59 = true
  · rw [show rdS tx z 59 (lnAny tx z (S, B)).1 = adv tx z (lnAny tx z (S, B)).1 from if_pos hs]
    have := adv_st (tx := tx) g.2.2.2 (by unfold sta at hs; simp only [Bool.and_eq_true, beq_iff_eq] at hs; rw [hs.1]; decide)
    have := g.2.1
    show S.2.2.2.1 + 1 ≤ _
    omega
  · rw [show rdS tx z 59 (lnAny tx z (S, B)).1 = fai z 1 (lnAny tx z (S, B)).1 from if_neg hs] at h
    exact absurd h (fai_n (by decide))
