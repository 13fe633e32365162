/-! ===== the first state of both ===== -/
def lgW : List Ev := .inl 26214451 :: (lg9 ++ (.inl 18874377 :: (lg8 ++ (.inl 262152 :: []))))
def V0 : AW := (0, fun _ => 0, fun _ => 0, fun _ => 1, fun _ => 0)
def A0 : AT := (fun _ => 0, 0, -1, bNil.1, V0, [], [], none, 0, 0, 0)
theorem okU0 : OkU bNil.1 V0 := ⟨⟨Nat.zero_le _, fun s _ => ⟨by show 0 < 256; decide, by show 0 < 256; decide, by show 1 < 11; decide⟩, fun s hs => absurd hs (Nat.not_lt_zero _), fun c _ => by show 0 < 4096; decide⟩, Nat.zero_le _⟩
theorem okA0 : OkT A0 := ⟨Nat.zero_le _, fun _ => by show 0 < 256; decide, okNil, (fun ps h => by cases h), okU0, Nat.zero_le _, (fun V h => by cases h), ⟨Nat.zero_le _, fun q h => by cases h⟩, True.intro⟩
section Cb1x
variable {σ : PH}
theorem stOa : StO (evl lgW σ) 786436 := ⟨Or.inl rfl, lkR_ok (by decide +kernel), lkR_ok (by decide +kernel), lkR_ok (by decide +kernel), lkR_ok (by decide +kernel), lkR_ok (by decide +kernel), lkR_ok (by decide +kernel), lkR_ok (by decide +kernel), lkR_ok (by decide +kernel), lkR_ok (by decide +kernel), lkR_ok (by decide +kernel), lkR_ok (by decide +kernel), lkR_ok (by decide +kernel), lkR_ok (by decide +kernel)⟩
theorem stOb : StO (evl lgW σ) 4456452 := ⟨Or.inr rfl, lkR_ok (by decide +kernel), lkR_ok (by decide +kernel), lkR_ok (by decide +kernel), lkR_ok (by decide +kernel), lkR_ok (by decide +kernel), lkR_ok (by decide +kernel), lkR_ok (by decide +kernel), lkR_ok (by decide +kernel), lkR_ok (by decide +kernel), lkR_ok (by decide +kernel), lkR_ok (by decide +kernel), lkR_ok (by decide +kernel), lkR_ok (by decide +kernel)⟩
theorem stW1 : StW (evl lgW σ) wN := ⟨Or.inl rfl, lkR_ok (by decide +kernel), lkR_ok (by decide +kernel), lkR_ok (by decide +kernel), lkR_ok (by decide +kernel), lkR_ok (by decide +kernel)⟩
theorem stW2 : StW (evl lgW σ) wA := ⟨Or.inr (Or.inl rfl), lkR_ok (by decide +kernel), lkR_ok (by decide +kernel), lkR_ok (by decide +kernel), lkR_ok (by decide +kernel), lkR_ok (by decide +kernel)⟩
theorem stW3 : StW (evl lgW σ) wI := ⟨Or.inr (Or.inr rfl), lkR_ok (by decide +kernel), lkR_ok (by decide +kernel), lkR_ok (by decide +kernel), lkR_ok (by decide +kernel), lkR_ok (by decide +kernel)⟩
theorem be0 {o : Nat} (h1 : lkA (oL o) lgW = true) (h2 : lkA (oR o) lgW = true) (h3 : lkA (oH o) lgW = true) : BE (evl lgW σ) o := fun s _ => ⟨⟨0, by decide, lkA_ok h1 s⟩, ⟨0, by decide, lkA_ok h2 s⟩, ⟨0, by decide, lkA_ok h3 s⟩⟩
theorem spO0 : SpO (evl lgW σ) 4456452 := ⟨stOb, be0 (by decide +kernel) (by decide +kernel) (by decide +kernel), be0 (by decide +kernel) (by decide +kernel) (by decide +kernel)⟩
theorem rpU0 {u : Nat} (h6 : kd u = 6) (h2 : lkR u 2 lgW = some (uS u)) (h3 : lkR u 3 lgW = some (uP u)) (h0 : lkI u 0 lgW = some 0) : RpU (evl lgW σ) u none := ⟨h6, lkR_ok h2, lkR_ok h3, lkI_ok h0⟩
theorem rpQ0 : RpQ (evl lgW σ) 786436 bNil.1 := ⟨⟨stOa, okNil, lkI_ok (by decide +kernel), lkI_ok (by decide +kernel), lkI_ok (by decide +kernel), lkI_ok (by decide +kernel), fun c hc => absurd hc (Nat.not_lt_zero _), fun c hc => absurd hc (Nat.not_lt_zero _)⟩, rpU0 (by decide) (by decide +kernel) (by decide +kernel) (by decide +kernel), rpU0 (by decide) (by decide +kernel) (by decide +kernel) (by decide +kernel)⟩
theorem rpW0 : RpW (evl lgW σ) wN V0 := ⟨stW1, lkI_ok (by decide +kernel), fun s _ => ⟨lkA_ok (by decide +kernel) s, lkA_ok (by decide +kernel) s, (lkA_ok (by decide +kernel) s).trans (show (0 : Int32) = pI 1 by decide)⟩, fun c _ => lkA_ok (by decide +kernel) c⟩
theorem rpA0 {a : Nat} (h : isA a) (h2 : lkR a 2 lgW = some (aWd a)) (h0 : lkI a 0 lgW = some 0) (h1 : lkI a 1 lgW = some 0) : RpA (evl lgW σ) a [] := ⟨h, lkR_ok h2, Nat.zero_le _, lkI_ok h0, 0, by decide, lkI_ok h1, fun k V hk => by cases hk⟩
theorem stH0 {h : Nat} (hh : isH h) (h1 : lkR h 1 lgW = some (hC h)) (h2 : lkR h 2 lgW = some (hW h)) (h3 : lkR h 3 lgW = some (hD h)) (h4 : lkR h 4 lgW = some (hZ h)) : StH (evl lgW σ) h := ⟨hh, lkR_ok h1, lkR_ok h2, lkR_ok h3, lkR_ok h4⟩
theorem IT_0 : IT (evl lgW σ) 786436 4456452 A0 := by
  refine ⟨?_, okA0, ⟨Or.inr rfl, by decide, lkR_ok (by decide +kernel), lkR_ok (by decide +kernel), spO0⟩, rpQ0, ⟨rpW0, lkR_ok (by decide +kernel)⟩, ⟨stW2, stW3⟩, rpA0 (Or.inl rfl) (by decide +kernel) (by decide +kernel) (by decide +kernel), ⟨stH0 (Or.inl rfl) (by decide +kernel) (by decide +kernel) (by decide +kernel) (by decide +kernel), Nat.zero_le _, lkI_ok (by decide +kernel), fun i q hq => by cases hq⟩, (show hI (evl lgW σ) T0 10 = 0 from lkI_ok (by decide +kernel)), ⟨⟨[], rpA0 (Or.inr rfl) (by decide +kernel) (by decide +kernel) (by decide +kernel)⟩, stH0 (Or.inr rfl) (by decide +kernel) (by decide +kernel) (by decide +kernel) (by decide +kernel)⟩, ⟨lkI_ok (by decide +kernel), lkI_ok (by decide +kernel), fun i hi => absurd hi (Nat.not_lt_zero _)⟩, lkA_ok (by decide +kernel) 0, lkA_ok (by decide +kernel) 1, lkA_ok (by decide +kernel) 2⟩
  exact ⟨lkR_ok (by decide +kernel), lkR_ok (by decide +kernel), lkR_ok (by decide +kernel), lkR_ok (by decide +kernel), lkR_ok (by decide +kernel), lkR_ok (by decide +kernel), lkR_ok (by decide +kernel), lkR_ok (by decide +kernel), lkR_ok (by decide +kernel), lkR_ok (by decide +kernel), lkR_ok (by decide +kernel), lkR_ok (by decide +kernel), lkR_ok (by decide +kernel), lkR_ok (by decide +kernel), lkR_ok (by decide +kernel), lkR_ok (by decide +kernel), lkR_ok (by decide +kernel), lkR_ok (by decide +kernel)⟩

theorem mRef_n {k : Nat} (h : ¬ k < 62) : mRef k = 0 := by
  obtain ⟨m, rfl⟩ := Nat.exists_eq_add_of_le (Nat.not_lt.mp h)
  rw [Nat.add_comm]; rfl
theorem rf_lt : ∀ k, k < 62 → lkR M0 k lgW = some (mRef k) := by decide +kernel
theorem lkR_big {k : Nat} : ∀ l : List Ev, (l.all (fun e => match e with | .inr (.inr (q, j, _)) => !(Nat.beq q M0) || Nat.ble j 61 | _ => true)) = true → ¬ k < 62 → lkA M0 l = true → lkR M0 k l = some 0 := by
  intro l
  induction l with
  | nil => intro _ _ h; cases h
  | cons e l ih =>
    intro h1 hk h2
    rw [List.all_cons, Bool.and_eq_true] at h1
    rcases e with q | ⟨q, j, v0⟩ | ⟨q, j, v0⟩
    · show cond (Nat.beq q M0) (some 0) (lkR M0 k l) = some 0
      have h2' : cond (Nat.beq q M0) true (lkA M0 l) = true := h2
      cases hb : Nat.beq q M0 with
      | true => rfl
      | false => rw [hb] at h2'; exact ih h1.2 hk h2'
    · exact ih h1.2 hk h2
    · show cond (Nat.beq q M0 && Nat.beq j k) (some v0) (lkR M0 k l) = some 0
      have h3 : (!(Nat.beq q M0) || Nat.ble j 61) = true := h1.1
      cases hb : (Nat.beq q M0 && Nat.beq j k) with
      | false => exact ih h1.2 hk h2
      | true =>
        have e := Bool.and_eq_true_iff.mp hb
        rw [e.1] at h3
        have h4 : j ≤ 61 := Nat.le_of_ble_eq_true h3
        have h5 := Nat.eq_of_beq_eq_true e.2
        omega
theorem rf_all (k : Nat) : hR (evl lgW σ) M0 k = mRef k := by
  by_cases hk : k < 62
  · exact lkR_ok (rf_lt k hk)
  · rw [mRef_n hk]; exact lkR_ok (lkR_big lgW (by decide +kernel) hk (by decide +kernel))
theorem RM_0 : RM (evl lgW σ) A0 := by
  refine ⟨⟨rf_all, okNil, ⟨lkI_ok (by decide +kernel), lkI_ok (by decide +kernel), lkI_ok (by decide +kernel), lkI_ok (by decide +kernel)⟩, fun c hc => absurd hc (Nat.not_lt_zero _), fun c hc => absurd hc (Nat.not_lt_zero _), lkI_ok (by decide +kernel), lkI_ok (by decide +kernel)⟩, okA0, ⟨lkA_ok (by decide +kernel) 0, fun s hs => absurd hs (Nat.not_lt_zero _), fun c hc => absurd hc (Nat.not_lt_zero _)⟩, ⟨lkI_ok (by decide +kernel), fun i V hi => by cases hi⟩, ⟨lkI_ok (by decide +kernel), fun i q hi => by cases hi⟩, (show hI (evl lgW σ) M0 56 = 0 from lkI_ok (by decide +kernel)), ⟨lkI_ok (by decide +kernel), lkI_ok (by decide +kernel), fun i hi => absurd hi (Nat.not_lt_zero _)⟩, ⟨lkA_ok (by decide +kernel) 0, lkA_ok (by decide +kernel) 1, lkA_ok (by decide +kernel) 2⟩, lkA_ok (by decide +kernel) 0, ⟨fun c hc => absurd hc (Nat.not_lt_zero _), (fun V hV => by cases hV), True.intro⟩⟩
end Cb1x
