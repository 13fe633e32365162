/-! ===== the reader: rules ===== -/
def isU (u : Nat) : Prop := u = 2883590 ∨ u = 3670022 ∨ u = 6553606 ∨ u = 7340038
theorem isU.kd {u : Nat} (h : isU u) : kd u = 6 := by rcases h with rfl | rfl | rfl | rfl <;> rfl
theorem isU.ne0 {u : Nat} (h : isU u) : u ≠ 0 := by rcases h with rfl | rfl | rfl | rfl <;> decide
def RpP (σ : PH) (u : Nat) (ps : List Int32) : Prop := isU u ∧ hR σ u 2 = uS u ∧ hI σ u 0 = 1 ∧ hI σ u 1 = nI ps.length ∧ ps.length ≤ 700 ∧ ∀ i, i < ps.length → hA σ (uS u) i = ps.getD i 0
def addS (ps : List Int32) (x : Int32) : List Int32 := if ps.length < 700 then ps ++ [x] else ps
def sU (u : Nat) : List Nat := [sn u, sn u + 1]
def sT (u : Nat) : List Nat := [31, sn u, sn u + 1]
theorem RpP.cr {σ σ' : PH} {u : Nat} {ps : List Int32} (h : RpP σ u ps) (hc : Cr σ σ') : RpP σ' u ps := by
  obtain ⟨h1, h2, h3, h4, h5, h6⟩ := h
  have e1 : hI σ' u = hI σ u := by rcases h1 with rfl | rfl | rfl | rfl <;> exact (hc.1.2.2.2.2 _ rfl).1
  have e2 : hA σ' (uS u) = hA σ (uS u) := by rcases h1 with rfl | rfl | rfl | rfl <;> exact (hc.1.2.2.2.2 _ rfl).2.1
  exact ⟨h1, by rw [hc.2.2]; exact h2, by rw [e1]; exact h3, by rw [e1]; exact h4, h5, by rw [e2]; exact h6⟩
def RD (σ : PH) (tx : Nat → Nat) (z u : Nat) (w : Bool) (S : RS) (ps : List Int32) : Prop := TX σ tx z ∧ RpS σ z S ∧ OkR z S ∧ (hR σ R0 5 = u ∧ hI σ R0 6 = b2i w) ∧ RpP σ u ps
theorem RD.tok {σ σ' : PH} {tx : Nat → Nat} {z u : Nat} {w : Bool} {S S' : RS} {ps : List Int32} (h : RD σ tx z u w S ps) (hr : RpS σ' z S') (hc : Cr σ σ') (ho : OkR z S') : RD σ' tx z u w S' ps :=
  ⟨h.1.cr hc, hr, ho, ⟨by rw [hc.2.2]; exact h.2.2.2.1.1, hc.2.1.trans h.2.2.2.1.2⟩, h.2.2.2.2.cr hc⟩
def Cu (u : Nat) (σ σ' : PH) : Prop := Ch (inS (sU u)) σ σ' ∧ hR σ' = hR σ
def Ct (u : Nat) (σ σ' : PH) : Prop := Ch (inS (sT u)) σ σ' ∧ hR σ' = hR σ
theorem Cu.rf {u : Nat} {σ : PH} : Cu u σ σ := ⟨Ch.rf, rfl⟩
theorem Ct.rf {u : Nat} {σ : PH} : Ct u σ σ := ⟨Ch.rf, rfl⟩
theorem Ct.tr {u : Nat} {σ σ1 σ2 : PH} (h : Ct u σ σ1) (g : Ct u σ1 σ2) : Ct u σ σ2 := ⟨h.1.tr g.1, g.2.trans h.2⟩
theorem Cr.toT {σ σ' : PH} {u : Nat} (h : Cr σ σ') (_ : isU u) : Ct u σ σ' := ⟨h.1.more (by unfold sT; simp), h.2.2⟩
/-- what a change of the rule leaves of the reader -/
theorem RD.put {σ σ' : PH} {tx : Nat → Nat} {z u : Nat} {w : Bool} {S : RS} {ps ps' : List Int32} (h : RD σ tx z u w S ps) (hp : RpP σ' u ps') (hc : Cu u σ σ') : RD σ' tx z u w S ps' := by
  obtain ⟨h1, h2, h3, h4, h5⟩ := h
  have hu := h5.1
  have e1 : hI σ' R0 = hI σ R0 ∧ hA σ' R0 = hA σ R0 ∧ hR σ' R0 = hR σ R0 := by rcases hu with rfl | rfl | rfl | rfl <;> exact hc.1.2.2.2.2 R0 rfl
  refine ⟨h1.ch hc.1 ?_, ?_, h3, ⟨by rw [e1.2.2]; exact h4.1, by rw [e1.1]; exact h4.2⟩, hp⟩
  · rcases hu with rfl | rfl | rfl | rfl <;> rfl
  · unfold RpS RpR at h2 ⊢; rw [e1.1]; exact h2
theorem Cu.uT {σ σ' : PH} {u : Nat} (h : Cu u σ σ') : Ct u σ σ' := ⟨h.1.more (by unfold sU sT; simp), h.2⟩
def nots (tx : Nat → Nat) (z : Nat) : Nat → RS → Nat × RS
  | 0, S => (0, S)
  | n + 1, S => if spl tx S (swd 20) = true then ((nots tx z n (adv tx z S)).1 + 1, (nots tx z n (adv tx z S)).2) else (0, S)
def ntE (tx : Nat → Nat) (z : Nat) (S : RS) : RS := if spl tx S (swd 20) = true then fai z 2 S else S
def rdNots (tx : Nat → Nat) (z : Nat) (S : RS) : Nat × RS := ((nots tx z 6 S).1, ntE tx z (nots tx z 6 S).2)
theorem nots_t {tx : Nat → Nat} {z m : Nat} {S : RS} (h : spl tx S (swd 20) = true) : nots tx z (m + 1) S = ((nots tx z m (adv tx z S)).1 + 1, (nots tx z m (adv tx z S)).2) := if_pos h
theorem nots_f {tx : Nat → Nat} {z m : Nat} {S : RS} (h : spl tx S (swd 20) = false) : nots tx z (m + 1) S = (0, S) := if_neg (by rw [h]; decide)
theorem ntE_t {tx : Nat → Nat} {z : Nat} {S : RS} (h : spl tx S (swd 20) = true) : ntE tx z S = fai z 2 S := if_pos h
theorem ntE_f {tx : Nat → Nat} {z : Nat} {S : RS} (h : spl tx S (swd 20) = false) : ntE tx z S = S := if_neg (by rw [h]; decide)
def opO (tx : Nat → Nat) (t : Nat) (S : RS) : Int32 :=
  if t = 0 then (if spl tx S (swd 21) = true then -1 else 0)
  else if t = 1 then (if spl tx S (swd 22) = true then -2 else 0)
  else if t = 2 then (if sta tx S 60 = true then -4 else if sta tx S 61 = true then -5 else 0)
  else if t = 3 then (if sta tx S 43 = true then -6 else if sta tx S 45 = true then -7 else 0)
  else (if sta tx S 42 = true then -8 else if sta tx S 47 = true then -9 else 0)
def slT (tx : Nat → Nat) (S : RS) : Option Nat := if spl tx S (swd 23) = true then some 0 else if spl tx S (swd 24) = true then some 1 else if spl tx S (swd 25) = true then some 2 else if spl tx S (swd 26) = true then some 3 else if spl tx S (swd 27) = true then some 4 else none
def slH (tx : Nat → Nat) (S : RS) : Option Nat := if spl tx S (swd 23) = true then some 0 else if spl tx S (swd 24) = true then some 1 else if spl tx S (swd 28) = true then some 2 else if spl tx S (swd 29) = true then some 3 else if spl tx S (swd 14) = true then some 4 else if spl tx S (swd 30) = true then some 5 else none
def deep (tx : Nat → Nat) (z : Nat) (S : RS) : RS := fai z (if S.2.2.1 = 2 ∨ S.2.2.1 = 1 ∨ sta tx S 40 = true then 2 else 1) S
theorem nots_ok {tx : Nat → Nat} {z : Nat} : ∀ n S, OkR z S → OkR z (nots tx z n S).2 ∧ (nots tx z n S).1 ≤ n := by
  intro n
  induction n with
  | zero => intro S h; exact ⟨h, Nat.le_refl _⟩
  | succ n ih =>
    intro S h
    simp only [nots]
    split
    · have := ih _ (adv_ok (tx := tx) h)
      exact ⟨this.1, Nat.succ_le_succ this.2⟩
    · exact ⟨h, Nat.zero_le _⟩
theorem rdNots_ok {tx : Nat → Nat} {z : Nat} {S : RS} (h : OkR z S) : OkR z (rdNots tx z S).2 ∧ (rdNots tx z S).1 ≤ 6 := by
  have := nots_ok (tx := tx) 6 S h
  refine ⟨?_, this.2⟩
  show OkR z (ntE tx z _)
  unfold ntE
  split
  · exact fai_ok this.1 (by decide)
  · exact this.1
theorem deep_ok {tx : Nat → Nat} {z : Nat} {S : RS} (h : OkR z S) : OkR z (deep tx z S) := fai_ok h (by split <;> decide)
section C64
variable {Γ : Gm} {σ : PH}
set_option maxRecDepth 4000 in
theorem c_townSlot {tx : Nat → Nat} {z : Nat} {S : RS} (hX : TX σ tx z) (hr : RpS σ z S) (ho : OkR z S) : CallOk Γ 6 0 0 mX5_townSlot [.ref R0] σ (rI σ (oI (slT tx S))) := by
  have hz := hX.2.1
  obtain ⟨ho1, ho2, ho3, ho4, ho5, ho6⟩ := id ho
  refine p_enter rfl rfl (Nat.le_of_ble_eq_true rfl) rfl ?_
  refine p_aload_n 0 1 rfl rfl dX5_townSlot_0 rfl ?_
  refine p_ldcS 23 3 rfl dX5_townSlot_1 (by decide) rfl rfl ?_
  refine p_cV1i 6 rfl dX5_townSlot_3 (c_spells hX hr ho (by decide)) ml_X5_87 vl_X5_spells rfl (by decide) rfl (Nat.le_of_ble_eq_true rfl) (Nat.le_of_ble_eq_true rfl) rfl ?_
  refine p_if_eq 13 9 rfl rfl dX5_townSlot_6 (fun h6 => ?_) (fun h6 => ?_)
  · refine p_aload_n 0 14 rfl rfl dX5_townSlot_13 rfl ?_
    refine p_ldcS 24 16 rfl dX5_townSlot_14 (by decide) rfl rfl ?_
    refine p_cV1i 19 rfl dX5_townSlot_16 (c_spells hX hr ho (by decide)) ml_X5_87 vl_X5_spells rfl (by decide) rfl (Nat.le_of_ble_eq_true rfl) (Nat.le_of_ble_eq_true rfl) rfl ?_
    refine p_if_eq 26 22 rfl rfl dX5_townSlot_19 (fun h19 => ?_) (fun h19 => ?_)
    · refine p_aload_n 0 27 rfl rfl dX5_townSlot_26 rfl ?_
      refine p_ldcS 25 29 rfl dX5_townSlot_27 (by decide) rfl rfl ?_
      refine p_cV1i 32 rfl dX5_townSlot_29 (c_spells hX hr ho (by decide)) ml_X5_87 vl_X5_spells rfl (by decide) rfl (Nat.le_of_ble_eq_true rfl) (Nat.le_of_ble_eq_true rfl) rfl ?_
      refine p_if_eq 39 35 rfl rfl dX5_townSlot_32 (fun h32 => ?_) (fun h32 => ?_)
      · refine p_aload_n 0 40 rfl rfl dX5_townSlot_39 rfl ?_
        refine p_ldcS 26 42 rfl dX5_townSlot_40 (by decide) rfl rfl ?_
        refine p_cV1i 45 rfl dX5_townSlot_42 (c_spells hX hr ho (by decide)) ml_X5_87 vl_X5_spells rfl (by decide) rfl (Nat.le_of_ble_eq_true rfl) (Nat.le_of_ble_eq_true rfl) rfl ?_
        refine p_if_eq 52 48 rfl rfl dX5_townSlot_45 (fun h45 => ?_) (fun h45 => ?_)
        · refine p_aload_n 0 53 rfl rfl dX5_townSlot_52 rfl ?_
          refine p_ldcS 27 55 rfl dX5_townSlot_53 (by decide) rfl rfl ?_
          refine p_cV1i 58 rfl dX5_townSlot_55 (c_spells hX hr ho (by decide)) ml_X5_87 vl_X5_spells rfl (by decide) rfl (Nat.le_of_ble_eq_true rfl) (Nat.le_of_ble_eq_true rfl) rfl ?_
          refine p_if_eq 65 61 rfl rfl dX5_townSlot_58 (fun h58 => ?_) (fun h58 => ?_)
          · refine p_iconst (-1) 66 rfl dX5_townSlot_65 rfl ?_
            exact p_iret dX5_townSlot_66 rfl ⟨by
   have g6 : spl tx S (swd 23) = false := by simpa only [b2i_eq0, Bool.not_eq_true] using h6
   have g19 : spl tx S (swd 24) = false := by simpa only [b2i_eq0, Bool.not_eq_true] using h19
   have g32 : spl tx S (swd 25) = false := by simpa only [b2i_eq0, Bool.not_eq_true] using h32
   have g45 : spl tx S (swd 26) = false := by simpa only [b2i_eq0, Bool.not_eq_true] using h45
   have g58 : spl tx S (swd 27) = false := by simpa only [b2i_eq0, Bool.not_eq_true] using h58
   simp [slT, g6, g19, g32, g45, g58, oI] <;> rfl, rfl⟩
          · refine p_iconst (4) 62 rfl dX5_townSlot_61 rfl ?_
            refine p_goto 66 rfl dX5_townSlot_62 ?_
            exact p_iret dX5_townSlot_66 rfl ⟨by
   have g6 : spl tx S (swd 23) = false := by simpa only [b2i_eq0, Bool.not_eq_true] using h6
   have g19 : spl tx S (swd 24) = false := by simpa only [b2i_eq0, Bool.not_eq_true] using h19
   have g32 : spl tx S (swd 25) = false := by simpa only [b2i_eq0, Bool.not_eq_true] using h32
   have g45 : spl tx S (swd 26) = false := by simpa only [b2i_eq0, Bool.not_eq_true] using h45
   have g58 : spl tx S (swd 27) = true := by simpa only [b2i_eq0, Decidable.not_not] using h58
   simp [slT, g6, g19, g32, g45, g58, oI] <;> rfl, rfl⟩
        · refine p_iconst (3) 49 rfl dX5_townSlot_48 rfl ?_
          refine p_goto 66 rfl dX5_townSlot_49 ?_
          exact p_iret dX5_townSlot_66 rfl ⟨by
   have g6 : spl tx S (swd 23) = false := by simpa only [b2i_eq0, Bool.not_eq_true] using h6
   have g19 : spl tx S (swd 24) = false := by simpa only [b2i_eq0, Bool.not_eq_true] using h19
   have g32 : spl tx S (swd 25) = false := by simpa only [b2i_eq0, Bool.not_eq_true] using h32
   have g45 : spl tx S (swd 26) = true := by simpa only [b2i_eq0, Decidable.not_not] using h45
   simp [slT, g6, g19, g32, g45, oI] <;> rfl, rfl⟩
      · refine p_iconst (2) 36 rfl dX5_townSlot_35 rfl ?_
        refine p_goto 66 rfl dX5_townSlot_36 ?_
        exact p_iret dX5_townSlot_66 rfl ⟨by
   have g6 : spl tx S (swd 23) = false := by simpa only [b2i_eq0, Bool.not_eq_true] using h6
   have g19 : spl tx S (swd 24) = false := by simpa only [b2i_eq0, Bool.not_eq_true] using h19
   have g32 : spl tx S (swd 25) = true := by simpa only [b2i_eq0, Decidable.not_not] using h32
   simp [slT, g6, g19, g32, oI] <;> rfl, rfl⟩
    · refine p_iconst (1) 23 rfl dX5_townSlot_22 rfl ?_
      refine p_goto 66 rfl dX5_townSlot_23 ?_
      exact p_iret dX5_townSlot_66 rfl ⟨by
   have g6 : spl tx S (swd 23) = false := by simpa only [b2i_eq0, Bool.not_eq_true] using h6
   have g19 : spl tx S (swd 24) = true := by simpa only [b2i_eq0, Decidable.not_not] using h19
   simp [slT, g6, g19, oI] <;> rfl, rfl⟩
  · refine p_iconst (0) 10 rfl dX5_townSlot_9 rfl ?_
    refine p_goto 66 rfl dX5_townSlot_10 ?_
    exact p_iret dX5_townSlot_66 rfl ⟨by
   have g6 : spl tx S (swd 23) = true := by simpa only [b2i_eq0, Decidable.not_not] using h6
   simp [slT, g6, oI] <;> rfl, rfl⟩
set_option maxRecDepth 4000 in
theorem c_sheetSlot {tx : Nat → Nat} {z : Nat} {S : RS} (hX : TX σ tx z) (hr : RpS σ z S) (ho : OkR z S) : CallOk Γ 6 0 0 mX5_sheetSlot [.ref R0] σ (rI σ (oI (slH tx S))) := by
  have hz := hX.2.1
  obtain ⟨ho1, ho2, ho3, ho4, ho5, ho6⟩ := id ho
  refine p_enter rfl rfl (Nat.le_of_ble_eq_true rfl) rfl ?_
  refine p_aload_n 0 1 rfl rfl dX5_sheetSlot_0 rfl ?_
  refine p_ldcS 23 3 rfl dX5_sheetSlot_1 (by decide) rfl rfl ?_
  refine p_cV1i 6 rfl dX5_sheetSlot_3 (c_spells hX hr ho (by decide)) ml_X5_87 vl_X5_spells rfl (by decide) rfl (Nat.le_of_ble_eq_true rfl) (Nat.le_of_ble_eq_true rfl) rfl ?_
  refine p_if_eq 13 9 rfl rfl dX5_sheetSlot_6 (fun h6 => ?_) (fun h6 => ?_)
  · refine p_aload_n 0 14 rfl rfl dX5_sheetSlot_13 rfl ?_
    refine p_ldcS 24 16 rfl dX5_sheetSlot_14 (by decide) rfl rfl ?_
    refine p_cV1i 19 rfl dX5_sheetSlot_16 (c_spells hX hr ho (by decide)) ml_X5_87 vl_X5_spells rfl (by decide) rfl (Nat.le_of_ble_eq_true rfl) (Nat.le_of_ble_eq_true rfl) rfl ?_
    refine p_if_eq 26 22 rfl rfl dX5_sheetSlot_19 (fun h19 => ?_) (fun h19 => ?_)
    · refine p_aload_n 0 27 rfl rfl dX5_sheetSlot_26 rfl ?_
      refine p_ldcS 28 29 rfl dX5_sheetSlot_27 (by decide) rfl rfl ?_
      refine p_cV1i 32 rfl dX5_sheetSlot_29 (c_spells hX hr ho (by decide)) ml_X5_87 vl_X5_spells rfl (by decide) rfl (Nat.le_of_ble_eq_true rfl) (Nat.le_of_ble_eq_true rfl) rfl ?_
      refine p_if_eq 39 35 rfl rfl dX5_sheetSlot_32 (fun h32 => ?_) (fun h32 => ?_)
      · refine p_aload_n 0 40 rfl rfl dX5_sheetSlot_39 rfl ?_
        refine p_ldcS 29 42 rfl dX5_sheetSlot_40 (by decide) rfl rfl ?_
        refine p_cV1i 45 rfl dX5_sheetSlot_42 (c_spells hX hr ho (by decide)) ml_X5_87 vl_X5_spells rfl (by decide) rfl (Nat.le_of_ble_eq_true rfl) (Nat.le_of_ble_eq_true rfl) rfl ?_
        refine p_if_eq 52 48 rfl rfl dX5_sheetSlot_45 (fun h45 => ?_) (fun h45 => ?_)
        · refine p_aload_n 0 53 rfl rfl dX5_sheetSlot_52 rfl ?_
          refine p_ldcS 14 55 rfl dX5_sheetSlot_53 (by decide) rfl rfl ?_
          refine p_cV1i 58 rfl dX5_sheetSlot_55 (c_spells hX hr ho (by decide)) ml_X5_87 vl_X5_spells rfl (by decide) rfl (Nat.le_of_ble_eq_true rfl) (Nat.le_of_ble_eq_true rfl) rfl ?_
          refine p_if_eq 65 61 rfl rfl dX5_sheetSlot_58 (fun h58 => ?_) (fun h58 => ?_)
          · refine p_aload_n 0 66 rfl rfl dX5_sheetSlot_65 rfl ?_
            refine p_ldcS 30 68 rfl dX5_sheetSlot_66 (by decide) rfl rfl ?_
            refine p_cV1i 71 rfl dX5_sheetSlot_68 (c_spells hX hr ho (by decide)) ml_X5_87 vl_X5_spells rfl (by decide) rfl (Nat.le_of_ble_eq_true rfl) (Nat.le_of_ble_eq_true rfl) rfl ?_
            refine p_if_eq 78 74 rfl rfl dX5_sheetSlot_71 (fun h71 => ?_) (fun h71 => ?_)
            · refine p_iconst (-1) 79 rfl dX5_sheetSlot_78 rfl ?_
              exact p_iret dX5_sheetSlot_79 rfl ⟨by
   have g6 : spl tx S (swd 23) = false := by simpa only [b2i_eq0, Bool.not_eq_true] using h6
   have g19 : spl tx S (swd 24) = false := by simpa only [b2i_eq0, Bool.not_eq_true] using h19
   have g32 : spl tx S (swd 28) = false := by simpa only [b2i_eq0, Bool.not_eq_true] using h32
   have g45 : spl tx S (swd 29) = false := by simpa only [b2i_eq0, Bool.not_eq_true] using h45
   have g58 : spl tx S (swd 14) = false := by simpa only [b2i_eq0, Bool.not_eq_true] using h58
   have g71 : spl tx S (swd 30) = false := by simpa only [b2i_eq0, Bool.not_eq_true] using h71
   simp [slH, g6, g19, g32, g45, g58, g71, oI] <;> rfl, rfl⟩
            · refine p_iconst (5) 75 rfl dX5_sheetSlot_74 rfl ?_
              refine p_goto 79 rfl dX5_sheetSlot_75 ?_
              exact p_iret dX5_sheetSlot_79 rfl ⟨by
   have g6 : spl tx S (swd 23) = false := by simpa only [b2i_eq0, Bool.not_eq_true] using h6
   have g19 : spl tx S (swd 24) = false := by simpa only [b2i_eq0, Bool.not_eq_true] using h19
   have g32 : spl tx S (swd 28) = false := by simpa only [b2i_eq0, Bool.not_eq_true] using h32
   have g45 : spl tx S (swd 29) = false := by simpa only [b2i_eq0, Bool.not_eq_true] using h45
   have g58 : spl tx S (swd 14) = false := by simpa only [b2i_eq0, Bool.not_eq_true] using h58
   have g71 : spl tx S (swd 30) = true := by simpa only [b2i_eq0, Decidable.not_not] using h71
   simp [slH, g6, g19, g32, g45, g58, g71, oI] <;> rfl, rfl⟩
          · refine p_iconst (4) 62 rfl dX5_sheetSlot_61 rfl ?_
            refine p_goto 79 rfl dX5_sheetSlot_62 ?_
            exact p_iret dX5_sheetSlot_79 rfl ⟨by
   have g6 : spl tx S (swd 23) = false := by simpa only [b2i_eq0, Bool.not_eq_true] using h6
   have g19 : spl tx S (swd 24) = false := by simpa only [b2i_eq0, Bool.not_eq_true] using h19
   have g32 : spl tx S (swd 28) = false := by simpa only [b2i_eq0, Bool.not_eq_true] using h32
   have g45 : spl tx S (swd 29) = false := by simpa only [b2i_eq0, Bool.not_eq_true] using h45
   have g58 : spl tx S (swd 14) = true := by simpa only [b2i_eq0, Decidable.not_not] using h58
   simp [slH, g6, g19, g32, g45, g58, oI] <;> rfl, rfl⟩
        · refine p_iconst (3) 49 rfl dX5_sheetSlot_48 rfl ?_
          refine p_goto 79 rfl dX5_sheetSlot_49 ?_
          exact p_iret dX5_sheetSlot_79 rfl ⟨by
   have g6 : spl tx S (swd 23) = false := by simpa only [b2i_eq0, Bool.not_eq_true] using h6
   have g19 : spl tx S (swd 24) = false := by simpa only [b2i_eq0, Bool.not_eq_true] using h19
   have g32 : spl tx S (swd 28) = false := by simpa only [b2i_eq0, Bool.not_eq_true] using h32
   have g45 : spl tx S (swd 29) = true := by simpa only [b2i_eq0, Decidable.not_not] using h45
   simp [slH, g6, g19, g32, g45, oI] <;> rfl, rfl⟩
      · refine p_iconst (2) 36 rfl dX5_sheetSlot_35 rfl ?_
        refine p_goto 79 rfl dX5_sheetSlot_36 ?_
        exact p_iret dX5_sheetSlot_79 rfl ⟨by
   have g6 : spl tx S (swd 23) = false := by simpa only [b2i_eq0, Bool.not_eq_true] using h6
   have g19 : spl tx S (swd 24) = false := by simpa only [b2i_eq0, Bool.not_eq_true] using h19
   have g32 : spl tx S (swd 28) = true := by simpa only [b2i_eq0, Decidable.not_not] using h32
   simp [slH, g6, g19, g32, oI] <;> rfl, rfl⟩
    · refine p_iconst (1) 23 rfl dX5_sheetSlot_22 rfl ?_
      refine p_goto 79 rfl dX5_sheetSlot_23 ?_
      exact p_iret dX5_sheetSlot_79 rfl ⟨by
   have g6 : spl tx S (swd 23) = false := by simpa only [b2i_eq0, Bool.not_eq_true] using h6
   have g19 : spl tx S (swd 24) = true := by simpa only [b2i_eq0, Decidable.not_not] using h19
   simp [slH, g6, g19, oI] <;> rfl, rfl⟩
  · refine p_iconst (0) 10 rfl dX5_sheetSlot_9 rfl ?_
    refine p_goto 79 rfl dX5_sheetSlot_10 ?_
    exact p_iret dX5_sheetSlot_79 rfl ⟨by
   have g6 : spl tx S (swd 23) = true := by simpa only [b2i_eq0, Decidable.not_not] using h6
   simp [slH, g6, oI] <;> rfl, rfl⟩
set_option maxRecDepth 4000 in
theorem c_operatorOf {tx : Nat → Nat} {z : Nat} {S : RS} (hX : TX σ tx z) (hr : RpS σ z S) (ho : OkR z S) {t : Nat} (ht : t ≤ 4) : CallOk Γ 6 0 0 mX5_operatorOf [.ref R0, .int (nI t)] σ (rI σ (opO tx t S)) := by
  have hz := hX.2.1
  obtain ⟨ho1, ho2, ho3, ho4, ho5, ho6⟩ := id ho
  have ht5 : t = 0 ∨ t = 1 ∨ t = 2 ∨ t = 3 ∨ t = 4 := by omega
  refine p_enter rfl rfl (Nat.le_of_ble_eq_true rfl) rfl ?_
  refine p_iload_n 1 1 rfl rfl dX5_operatorOf_0 rfl ?_
  rcases ht5 with rfl | rfl | rfl | rfl | rfl
  · refine p_tswIn (off := 31) 32 rfl dX5_operatorOf_1 (by decide) (by decide) rfl ?_
    refine p_aload_n 0 33 rfl rfl dX5_operatorOf_32 rfl ?_
    refine p_ldcS 21 35 rfl dX5_operatorOf_33 (by decide) rfl rfl ?_
    refine p_cV1i 38 rfl dX5_operatorOf_35 (c_spells hX hr ho (by decide)) ml_X5_87 vl_X5_spells rfl (by decide) rfl (Nat.le_of_ble_eq_true rfl) (Nat.le_of_ble_eq_true rfl) rfl ?_
    refine p_if_eq 45 41 rfl rfl dX5_operatorOf_38 (fun h38 => ?_) (fun h38 => ?_)
    · refine p_iconst (0) 46 rfl dX5_operatorOf_45 rfl ?_
      exact p_iret dX5_operatorOf_46 rfl ⟨by
   have g38 : spl tx S (swd 21) = false := by simpa only [b2i_eq0, Bool.not_eq_true] using h38
   simp [opO, g38], rfl⟩
    · refine p_iconst (-1) 42 rfl dX5_operatorOf_41 rfl ?_
      refine p_goto 46 rfl dX5_operatorOf_42 ?_
      exact p_iret dX5_operatorOf_46 rfl ⟨by
   have g38 : spl tx S (swd 21) = true := by simpa only [b2i_eq0, Decidable.not_not] using h38
   simp [opO, g38], rfl⟩
  · refine p_tswIn (off := 46) 47 rfl dX5_operatorOf_1 (by decide) (by decide) rfl ?_
    refine p_aload_n 0 48 rfl rfl dX5_operatorOf_47 rfl ?_
    refine p_ldcS 22 50 rfl dX5_operatorOf_48 (by decide) rfl rfl ?_
    refine p_cV1i 53 rfl dX5_operatorOf_50 (c_spells hX hr ho (by decide)) ml_X5_87 vl_X5_spells rfl (by decide) rfl (Nat.le_of_ble_eq_true rfl) (Nat.le_of_ble_eq_true rfl) rfl ?_
    refine p_if_eq 61 56 rfl rfl dX5_operatorOf_53 (fun h53 => ?_) (fun h53 => ?_)
    · refine p_iconst (0) 62 rfl dX5_operatorOf_61 rfl ?_
      exact p_iret dX5_operatorOf_62 rfl ⟨by
   have g53 : spl tx S (swd 22) = false := by simpa only [b2i_eq0, Bool.not_eq_true] using h53
   simp [opO, g53], rfl⟩
    · refine p_bipush (-2) 58 rfl dX5_operatorOf_56 rfl ?_
      refine p_goto 62 rfl dX5_operatorOf_58 ?_
      exact p_iret dX5_operatorOf_62 rfl ⟨by
   have g53 : spl tx S (swd 22) = true := by simpa only [b2i_eq0, Decidable.not_not] using h53
   simp [opO, g53], rfl⟩
  · refine p_tswIn (off := 62) 63 rfl dX5_operatorOf_1 (by decide) (by decide) rfl ?_
    refine p_aload_n 0 64 rfl rfl dX5_operatorOf_63 rfl ?_
    refine p_bipush (60) 66 rfl dX5_operatorOf_64 rfl ?_
    refine p_cV1i 69 rfl dX5_operatorOf_66 (c_stands hX hr ho (by decide)) ml_X5_178 vl_X5_stands rfl (by decide) rfl (Nat.le_of_ble_eq_true rfl) (Nat.le_of_ble_eq_true rfl) rfl ?_
    refine p_if_eq 77 72 rfl rfl dX5_operatorOf_69 (fun h69 => ?_) (fun h69 => ?_)
    · refine p_aload_n 0 78 rfl rfl dX5_operatorOf_77 rfl ?_
      refine p_bipush (61) 80 rfl dX5_operatorOf_78 rfl ?_
      refine p_cV1i 83 rfl dX5_operatorOf_80 (c_stands hX hr ho (by decide)) ml_X5_178 vl_X5_stands rfl (by decide) rfl (Nat.le_of_ble_eq_true rfl) (Nat.le_of_ble_eq_true rfl) rfl ?_
      refine p_if_eq 91 86 rfl rfl dX5_operatorOf_83 (fun h83 => ?_) (fun h83 => ?_)
      · refine p_iconst (0) 92 rfl dX5_operatorOf_91 rfl ?_
        exact p_iret dX5_operatorOf_92 rfl ⟨by
   have g69 : sta tx S 60 = false := by simpa only [b2i_eq0, Bool.not_eq_true] using h69
   have g83 : sta tx S 61 = false := by simpa only [b2i_eq0, Bool.not_eq_true] using h83
   simp [opO, g69, g83], rfl⟩
      · refine p_bipush (-5) 88 rfl dX5_operatorOf_86 rfl ?_
        refine p_goto 92 rfl dX5_operatorOf_88 ?_
        exact p_iret dX5_operatorOf_92 rfl ⟨by
   have g69 : sta tx S 60 = false := by simpa only [b2i_eq0, Bool.not_eq_true] using h69
   have g83 : sta tx S 61 = true := by simpa only [b2i_eq0, Decidable.not_not] using h83
   simp [opO, g69, g83], rfl⟩
    · refine p_bipush (-4) 74 rfl dX5_operatorOf_72 rfl ?_
      refine p_goto 92 rfl dX5_operatorOf_74 ?_
      exact p_iret dX5_operatorOf_92 rfl ⟨by
   have g69 : sta tx S 60 = true := by simpa only [b2i_eq0, Decidable.not_not] using h69
   simp [opO, g69], rfl⟩
  · refine p_tswIn (off := 92) 93 rfl dX5_operatorOf_1 (by decide) (by decide) rfl ?_
    refine p_aload_n 0 94 rfl rfl dX5_operatorOf_93 rfl ?_
    refine p_bipush (43) 96 rfl dX5_operatorOf_94 rfl ?_
    refine p_cV1i 99 rfl dX5_operatorOf_96 (c_stands hX hr ho (by decide)) ml_X5_178 vl_X5_stands rfl (by decide) rfl (Nat.le_of_ble_eq_true rfl) (Nat.le_of_ble_eq_true rfl) rfl ?_
    refine p_if_eq 107 102 rfl rfl dX5_operatorOf_99 (fun h99 => ?_) (fun h99 => ?_)
    · refine p_aload_n 0 108 rfl rfl dX5_operatorOf_107 rfl ?_
      refine p_bipush (45) 110 rfl dX5_operatorOf_108 rfl ?_
      refine p_cV1i 113 rfl dX5_operatorOf_110 (c_stands hX hr ho (by decide)) ml_X5_178 vl_X5_stands rfl (by decide) rfl (Nat.le_of_ble_eq_true rfl) (Nat.le_of_ble_eq_true rfl) rfl ?_
      refine p_if_eq 121 116 rfl rfl dX5_operatorOf_113 (fun h113 => ?_) (fun h113 => ?_)
      · refine p_iconst (0) 122 rfl dX5_operatorOf_121 rfl ?_
        exact p_iret dX5_operatorOf_122 rfl ⟨by
   have g99 : sta tx S 43 = false := by simpa only [b2i_eq0, Bool.not_eq_true] using h99
   have g113 : sta tx S 45 = false := by simpa only [b2i_eq0, Bool.not_eq_true] using h113
   simp [opO, g99, g113], rfl⟩
      · refine p_bipush (-7) 118 rfl dX5_operatorOf_116 rfl ?_
        refine p_goto 122 rfl dX5_operatorOf_118 ?_
        exact p_iret dX5_operatorOf_122 rfl ⟨by
   have g99 : sta tx S 43 = false := by simpa only [b2i_eq0, Bool.not_eq_true] using h99
   have g113 : sta tx S 45 = true := by simpa only [b2i_eq0, Decidable.not_not] using h113
   simp [opO, g99, g113], rfl⟩
    · refine p_bipush (-6) 104 rfl dX5_operatorOf_102 rfl ?_
      refine p_goto 122 rfl dX5_operatorOf_104 ?_
      exact p_iret dX5_operatorOf_122 rfl ⟨by
   have g99 : sta tx S 43 = true := by simpa only [b2i_eq0, Decidable.not_not] using h99
   simp [opO, g99], rfl⟩
  · refine p_tswOut 123 rfl dX5_operatorOf_1 (by decide) ?_
    refine p_aload_n 0 124 rfl rfl dX5_operatorOf_123 rfl ?_
    refine p_bipush (42) 126 rfl dX5_operatorOf_124 rfl ?_
    refine p_cV1i 129 rfl dX5_operatorOf_126 (c_stands hX hr ho (by decide)) ml_X5_178 vl_X5_stands rfl (by decide) rfl (Nat.le_of_ble_eq_true rfl) (Nat.le_of_ble_eq_true rfl) rfl ?_
    refine p_if_eq 137 132 rfl rfl dX5_operatorOf_129 (fun h129 => ?_) (fun h129 => ?_)
    · refine p_aload_n 0 138 rfl rfl dX5_operatorOf_137 rfl ?_
      refine p_bipush (47) 140 rfl dX5_operatorOf_138 rfl ?_
      refine p_cV1i 143 rfl dX5_operatorOf_140 (c_stands hX hr ho (by decide)) ml_X5_178 vl_X5_stands rfl (by decide) rfl (Nat.le_of_ble_eq_true rfl) (Nat.le_of_ble_eq_true rfl) rfl ?_
      refine p_if_eq 151 146 rfl rfl dX5_operatorOf_143 (fun h143 => ?_) (fun h143 => ?_)
      · refine p_iconst (0) 152 rfl dX5_operatorOf_151 rfl ?_
        exact p_iret dX5_operatorOf_152 rfl ⟨by
   have g129 : sta tx S 42 = false := by simpa only [b2i_eq0, Bool.not_eq_true] using h129
   have g143 : sta tx S 47 = false := by simpa only [b2i_eq0, Bool.not_eq_true] using h143
   simp [opO, g129, g143], rfl⟩
      · refine p_bipush (-9) 148 rfl dX5_operatorOf_146 rfl ?_
        refine p_goto 152 rfl dX5_operatorOf_148 ?_
        exact p_iret dX5_operatorOf_152 rfl ⟨by
   have g129 : sta tx S 42 = false := by simpa only [b2i_eq0, Bool.not_eq_true] using h129
   have g143 : sta tx S 47 = true := by simpa only [b2i_eq0, Decidable.not_not] using h143
   simp [opO, g129, g143], rfl⟩
    · refine p_bipush (-8) 134 rfl dX5_operatorOf_132 rfl ?_
      refine p_goto 152 rfl dX5_operatorOf_134 ?_
      exact p_iret dX5_operatorOf_152 rfl ⟨by
   have g129 : sta tx S 42 = true := by simpa only [b2i_eq0, Decidable.not_not] using h129
   simp [opO, g129], rfl⟩
set_option maxRecDepth 4000 in
theorem c_failTooDeep {tx : Nat → Nat} {z : Nat} {S : RS} (hX : TX σ tx z) (hr : RpS σ z S) (ho : OkR z S) : CallOk Γ 4 0 0 mX5_failTooDeep [.ref R0] σ (rV (fun σ' => RpS σ' z (deep tx z S) ∧ Cr σ σ')) := by
  have hz := hX.2.1
  obtain ⟨ho1, ho2, ho3, ho4, ho5, ho6⟩ := id ho
  refine p_enter rfl rfl (Nat.le_of_ble_eq_true rfl) rfl ?_
  refine p_aload_n 0 1 rfl rfl dX5_failTooDeep_0 rfl ?_
  refine p_getIE 5 7 4 rfl dX5_failTooDeep_1 fl_X5_25 rfl rfl (show hI σ R0 7 = nI S.2.2.1 from hr.2.2.2.1) ?_
  refine p_iconst (2) 5 rfl dX5_failTooDeep_4 rfl ?_
  refine p_icmp_eq 25 8 rfl rfl dX5_failTooDeep_5 (fun h5 => ?_) (fun h5 => ?_)
  · refine p_iconst (1) 26 rfl dX5_failTooDeep_25 rfl ?_
    refine p_goto 30 rfl dX5_failTooDeep_26 ?_
    refine p_ist_n1 31 rfl rfl dX5_failTooDeep_30 (Nat.le_of_ble_eq_true rfl) rfl ?_
    refine p_aload_n 0 32 rfl rfl dX5_failTooDeep_31 rfl ?_
    refine p_iload_n 1 33 rfl rfl dX5_failTooDeep_32 rfl ?_
    refine p_if_eq 40 36 rfl rfl dX5_failTooDeep_33 (fun h33 => ?_) (fun h33 => ?_)
    · exact absurd h33 (by decide)
    · refine p_iconst (2) 37 rfl dX5_failTooDeep_36 rfl ?_
      refine p_goto 41 rfl dX5_failTooDeep_37 ?_
      refine p_cV1v 0 0 44 rfl dX5_failTooDeep_41 (c_fail hr ho 2) ml_X5_118 vl_X5_fail rfl (by decide) rfl (Nat.le_of_ble_eq_true rfl) (Nat.le_of_ble_eq_true rfl) (Nat.le_of_ble_eq_true rfl) (Nat.le_of_ble_eq_true rfl) rfl ?_
      intro σ1 hp1
      exact p_vret dX5_failTooDeep_44 rfl ⟨rfl, by
         have g : S.2.2.1 = 2 ∨ S.2.2.1 = 1 ∨ sta tx S 40 = true := Or.inl (nI_eqI h5 (by omega) (by decide))
         rw [deep, if_pos g]; exact hp1.1, hp1.2⟩
  · refine p_aload_n 0 9 rfl rfl dX5_failTooDeep_8 rfl ?_
    refine p_getIE 5 7 12 rfl dX5_failTooDeep_9 fl_X5_25 rfl rfl (show hI σ R0 7 = nI S.2.2.1 from hr.2.2.2.1) ?_
    refine p_iconst (1) 13 rfl dX5_failTooDeep_12 rfl ?_
    refine p_icmp_eq 25 16 rfl rfl dX5_failTooDeep_13 (fun h13 => ?_) (fun h13 => ?_)
    · refine p_iconst (1) 26 rfl dX5_failTooDeep_25 rfl ?_
      refine p_goto 30 rfl dX5_failTooDeep_26 ?_
      refine p_ist_n1 31 rfl rfl dX5_failTooDeep_30 (Nat.le_of_ble_eq_true rfl) rfl ?_
      refine p_aload_n 0 32 rfl rfl dX5_failTooDeep_31 rfl ?_
      refine p_iload_n 1 33 rfl rfl dX5_failTooDeep_32 rfl ?_
      refine p_if_eq 40 36 rfl rfl dX5_failTooDeep_33 (fun h33 => ?_) (fun h33 => ?_)
      · exact absurd h33 (by decide)
      · refine p_iconst (2) 37 rfl dX5_failTooDeep_36 rfl ?_
        refine p_goto 41 rfl dX5_failTooDeep_37 ?_
        refine p_cV1v 0 0 44 rfl dX5_failTooDeep_41 (c_fail hr ho 2) ml_X5_118 vl_X5_fail rfl (by decide) rfl (Nat.le_of_ble_eq_true rfl) (Nat.le_of_ble_eq_true rfl) (Nat.le_of_ble_eq_true rfl) (Nat.le_of_ble_eq_true rfl) rfl ?_
        intro σ1 hp1
        exact p_vret dX5_failTooDeep_44 rfl ⟨rfl, by
           have g : S.2.2.1 = 2 ∨ S.2.2.1 = 1 ∨ sta tx S 40 = true := Or.inr (Or.inl (nI_eqI h13 (by omega) (by decide)))
           rw [deep, if_pos g]; exact hp1.1, hp1.2⟩
    · refine p_aload_n 0 17 rfl rfl dX5_failTooDeep_16 rfl ?_
      refine p_bipush (40) 19 rfl dX5_failTooDeep_17 rfl ?_
      refine p_cV1i 22 rfl dX5_failTooDeep_19 (c_stands hX hr ho (by decide)) ml_X5_178 vl_X5_stands rfl (by decide) rfl (Nat.le_of_ble_eq_true rfl) (Nat.le_of_ble_eq_true rfl) rfl ?_
      refine p_if_eq 29 25 rfl rfl dX5_failTooDeep_22 (fun h22 => ?_) (fun h22 => ?_)
      · refine p_iconst (0) 30 rfl dX5_failTooDeep_29 rfl ?_
        refine p_ist_n1 31 rfl rfl dX5_failTooDeep_30 (Nat.le_of_ble_eq_true rfl) rfl ?_
        refine p_aload_n 0 32 rfl rfl dX5_failTooDeep_31 rfl ?_
        refine p_iload_n 1 33 rfl rfl dX5_failTooDeep_32 rfl ?_
        refine p_if_eq 40 36 rfl rfl dX5_failTooDeep_33 (fun h33 => ?_) (fun h33 => ?_)
        · refine p_iconst (1) 41 rfl dX5_failTooDeep_40 rfl ?_
          refine p_cV1v 0 0 44 rfl dX5_failTooDeep_41 (c_fail hr ho 1) ml_X5_118 vl_X5_fail rfl (by decide) rfl (Nat.le_of_ble_eq_true rfl) (Nat.le_of_ble_eq_true rfl) (Nat.le_of_ble_eq_true rfl) (Nat.le_of_ble_eq_true rfl) rfl ?_
          intro σ1 hp1
          exact p_vret dX5_failTooDeep_44 rfl ⟨rfl, by
             have g : ¬ (S.2.2.1 = 2 ∨ S.2.2.1 = 1 ∨ sta tx S 40 = true) := fun q => q.elim (fun q => h5 (by rw [q]; rfl)) (fun q => q.elim (fun q => h13 (by rw [q]; rfl)) (fun q => absurd q (by simpa only [b2i_eq0] using h22)))
             rw [deep, if_neg g]; exact hp1.1, hp1.2⟩
        · exact absurd rfl h33
      · refine p_iconst (1) 26 rfl dX5_failTooDeep_25 rfl ?_
        refine p_goto 30 rfl dX5_failTooDeep_26 ?_
        refine p_ist_n1 31 rfl rfl dX5_failTooDeep_30 (Nat.le_of_ble_eq_true rfl) rfl ?_
        refine p_aload_n 0 32 rfl rfl dX5_failTooDeep_31 rfl ?_
        refine p_iload_n 1 33 rfl rfl dX5_failTooDeep_32 rfl ?_
        refine p_if_eq 40 36 rfl rfl dX5_failTooDeep_33 (fun h33 => ?_) (fun h33 => ?_)
        · exact absurd h33 (by decide)
        · refine p_iconst (2) 37 rfl dX5_failTooDeep_36 rfl ?_
          refine p_goto 41 rfl dX5_failTooDeep_37 ?_
          refine p_cV1v 0 0 44 rfl dX5_failTooDeep_41 (c_fail hr ho 2) ml_X5_118 vl_X5_fail rfl (by decide) rfl (Nat.le_of_ble_eq_true rfl) (Nat.le_of_ble_eq_true rfl) (Nat.le_of_ble_eq_true rfl) (Nat.le_of_ble_eq_true rfl) rfl ?_
          intro σ1 hp1
          exact p_vret dX5_failTooDeep_44 rfl ⟨rfl, by
             have g : S.2.2.1 = 2 ∨ S.2.2.1 = 1 ∨ sta tx S 40 = true := Or.inr (Or.inr (by simpa only [b2i_eq0, Decidable.not_not] using h22))
             rw [deep, if_pos g]; exact hp1.1, hp1.2⟩
set_option maxRecDepth 4000 in
theorem l_nots {tx : Nat → Nat} {z : Nat} {σ0 : PH} {NF : Nat × RS} : ∀ (m j : Nat) (σ : PH) (S : RS), j + m = 6 → (j + (nots tx z m S).1, (nots tx z m S).2) = NF → TX σ tx z → RpS σ z S → OkR z S → Cr σ0 σ → Ok Γ 6 0 0 mX5_readNots 2 [some (.ref R0), some (.int (nI j))] [] σ (rX (fun v σ' => v = nI NF.1 ∧ RpS σ' z (ntE tx z NF.2) ∧ Cr σ0 σ')) := by
  intro m
  induction m with
  | zero =>
    intro j σ S hj hN hX hr ho hc0
    have hz := hX.2.1
    obtain ⟨ho1, ho2, ho3, ho4, ho5, ho6⟩ := id ho
    refine p_iload_n 1 3 rfl rfl dX5_readNots_2 rfl ?_
    refine p_bipush (6) 5 rfl dX5_readNots_3 rfl ?_
    refine p_icmp_ge 27 8 rfl rfl dX5_readNots_5 (fun h5 => ?_) (fun h5 => absurd (nI_le (a := 6) (b := j) (by omega) (by omega)) h5)
    have hJ : NF.1 = j := by rw [← hN] <;> rfl
    have hS : NF.2 = S := by rw [← hN] <;> rfl
    refine p_aload_n 0 28 rfl rfl dX5_readNots_27 rfl ?_
    refine p_ldcS 20 30 rfl dX5_readNots_28 (by decide) rfl rfl ?_
    refine p_cV1i 33 rfl dX5_readNots_30 (c_spells hX hr ho (by decide)) ml_X5_87 vl_X5_spells rfl (by decide) rfl (Nat.le_of_ble_eq_true rfl) (Nat.le_of_ble_eq_true rfl) rfl ?_
    refine p_if_eq 41 36 rfl rfl dX5_readNots_33 (fun h33 => ?_) (fun h33 => ?_)
    · refine p_iload_n 1 42 rfl rfl dX5_readNots_41 rfl ?_
      exact p_iret dX5_readNots_42 rfl ⟨_, rfl, by rw [hJ], by
   have g33 : spl tx S (swd 20) = false := by simpa only [b2i_eq0, Bool.not_eq_true] using h33
   rw [hS, ntE_f g33]; exact hr, hc0⟩
    · refine p_aload_n 0 37 rfl rfl dX5_readNots_36 rfl ?_
      refine p_iconst (2) 38 rfl dX5_readNots_37 rfl ?_
      refine p_cV1v 0 0 41 rfl dX5_readNots_38 (c_fail hr ho 2) ml_X5_118 vl_X5_fail rfl (by decide) rfl (Nat.le_of_ble_eq_true rfl) (Nat.le_of_ble_eq_true rfl) (Nat.le_of_ble_eq_true rfl) (Nat.le_of_ble_eq_true rfl) rfl ?_
      intro σ1 hp1
      refine p_iload_n 1 42 rfl rfl dX5_readNots_41 rfl ?_
      exact p_iret dX5_readNots_42 rfl ⟨_, rfl, by rw [hJ], by
   have g33 : spl tx S (swd 20) = true := by simpa only [b2i_eq0, Decidable.not_not] using h33
   rw [hS, ntE_t g33]; exact hp1.1, hc0.tr hp1.2⟩
  | succ m ih =>
    intro j σ S hj hN hX hr ho hc0
    have hz := hX.2.1
    obtain ⟨ho1, ho2, ho3, ho4, ho5, ho6⟩ := id ho
    refine p_iload_n 1 3 rfl rfl dX5_readNots_2 rfl ?_
    refine p_bipush (6) 5 rfl dX5_readNots_3 rfl ?_
    refine p_icmp_ge 27 8 rfl rfl dX5_readNots_5 (fun h5 => absurd h5 (nI_ge (a := j) (b := 6) (by omega) (by omega))) (fun h5 => ?_)
    refine p_aload_n 0 9 rfl rfl dX5_readNots_8 rfl ?_
    refine p_ldcS 20 11 rfl dX5_readNots_9 (by decide) rfl rfl ?_
    refine p_cV1i 14 rfl dX5_readNots_11 (c_spells hX hr ho (by decide)) ml_X5_87 vl_X5_spells rfl (by decide) rfl (Nat.le_of_ble_eq_true rfl) (Nat.le_of_ble_eq_true rfl) rfl ?_
    refine p_if_eq 27 17 rfl rfl dX5_readNots_14 (fun h14 => ?_) (fun h14 => ?_)
    · have g14 : spl tx S (swd 20) = false := by simpa only [b2i_eq0, Bool.not_eq_true] using h14
      rw [nots_f g14] at hN
      have hJ : NF.1 = j := by rw [← hN] <;> rfl
      have hS : NF.2 = S := by rw [← hN] <;> rfl
      refine p_aload_n 0 28 rfl rfl dX5_readNots_27 rfl ?_
      refine p_ldcS 20 30 rfl dX5_readNots_28 (by decide) rfl rfl ?_
      refine p_cV1i 33 rfl dX5_readNots_30 (c_spells hX hr ho (by decide)) ml_X5_87 vl_X5_spells rfl (by decide) rfl (Nat.le_of_ble_eq_true rfl) (Nat.le_of_ble_eq_true rfl) rfl ?_
      refine p_if_eq 41 36 rfl rfl dX5_readNots_33 (fun h33 => ?_) (fun h33 => ?_)
      · refine p_iload_n 1 42 rfl rfl dX5_readNots_41 rfl ?_
        exact p_iret dX5_readNots_42 rfl ⟨_, rfl, by rw [hJ], by rw [hS, ntE_f g14]; exact hr, hc0⟩
      · refine p_aload_n 0 37 rfl rfl dX5_readNots_36 rfl ?_
        refine p_iconst (2) 38 rfl dX5_readNots_37 rfl ?_
        refine p_cV1v 0 0 41 rfl dX5_readNots_38 (c_fail hr ho 2) ml_X5_118 vl_X5_fail rfl (by decide) rfl (Nat.le_of_ble_eq_true rfl) (Nat.le_of_ble_eq_true rfl) (Nat.le_of_ble_eq_true rfl) (Nat.le_of_ble_eq_true rfl) rfl ?_
        intro σ1 hp1
        refine p_iload_n 1 42 rfl rfl dX5_readNots_41 rfl ?_
        exact p_iret dX5_readNots_42 rfl ⟨_, rfl, by rw [hJ], by
   have g33 : spl tx S (swd 20) = true := by simpa only [b2i_eq0, Decidable.not_not] using h33
   exact absurd (g14.symm.trans g33) (by decide), hc0.tr hp1.2⟩
    · have g14 : spl tx S (swd 20) = true := by simpa only [b2i_eq0, Decidable.not_not] using h14
      refine p_inc_1 20 rfl dX5_readNots_17 (1) rfl (Nat.le_of_ble_eq_true rfl) rfl ?_
      refine p_aload_n 0 21 rfl rfl dX5_readNots_20 rfl ?_
      refine p_cV0v 0 0 24 rfl dX5_readNots_21 (c_advance hX hr ho) ml_X5_66 vl_X5_advance rfl (by decide) rfl (Nat.le_of_ble_eq_true rfl) (Nat.le_of_ble_eq_true rfl) (Nat.le_of_ble_eq_true rfl) (Nat.le_of_ble_eq_true rfl) rfl ?_
      intro σ1 hp1
      refine p_goto 2 rfl dX5_readNots_24 ?_
      rw [nI_1]
      obtain ⟨hr2, hc2⟩ := hp1
      rw [nots_t g14] at hN
      exact ih (j + 1) σ1 (adv tx z S) (by omega) (by rw [← hN]; exact Prod.ext (by show j + 1 + _ = j + (_ + 1); omega) rfl) (hX.cr hc2) hr2 (adv_ok ho) (hc0.tr hc2)
set_option maxRecDepth 4000 in
theorem c_readNots {tx : Nat → Nat} {z : Nat} {S : RS} (hX : TX σ tx z) (hr : RpS σ z S) (ho : OkR z S) : CallOk Γ 6 0 0 mX5_readNots [.ref R0] σ (rX (fun v σ' => v = nI (rdNots tx z S).1 ∧ RpS σ' z (rdNots tx z S).2 ∧ Cr σ σ')) := by
  refine p_enter rfl rfl (Nat.le_of_ble_eq_true rfl) rfl ?_
  refine p_iconst (0) 1 rfl dX5_readNots_0 rfl ?_
  refine p_ist_n1 2 rfl rfl dX5_readNots_1 (Nat.le_of_ble_eq_true rfl) rfl ?_
  exact l_nots (NF := nots tx z 6 S) 6 0 σ S rfl (Prod.ext (Nat.zero_add _) rfl) hX hr ho Cr.rf
theorem getD_app_l {ps : List Int32} {x : Int32} {i : Nat} (h : i < ps.length) : (ps ++ [x]).getD i 0 = ps.getD i 0 := by
  simp only [List.getD_eq_getElem?_getD]; rw [List.getElem?_append_left h]
theorem getD_app_r {ps : List Int32} {x : Int32} : (ps ++ [x]).getD ps.length 0 = x := by
  simp [List.getD_eq_getElem?_getD]
set_option maxRecDepth 4000 in
theorem c_add {u : Nat} {ps : List Int32} (hp : RpP σ u ps) (x : Int32) : CallOk Γ 1 0 0 mX6_add [.ref u, .int x] σ (rV (fun σ' => RpP σ' u (addS ps x) ∧ Cu u σ σ')) := by
  have hu := hp.1
  have hl := hp.2.2.2.2.1
  refine p_enter rfl rfl (Nat.le_of_ble_eq_true rfl) rfl ?_
  refine p_aload_n 0 1 rfl rfl dX6_add_0 rfl ?_
  refine p_getIE 6 1 4 rfl dX6_add_1 fl_X6_15 hu.kd rfl hp.2.2.2.1 ?_
  refine p_sipush (700) 7 rfl dX6_add_4 rfl ?_
  refine p_icmp_ge 30 10 rfl rfl dX6_add_7 (fun h7 => ?_) (fun h7 => ?_)
  · exact p_vret dX6_add_30 rfl ⟨rfl, by rw [addS, if_neg (fun q => nI_ge (a := ps.length) (b := 700) q (by decide) h7)]; exact hp, Cu.rf⟩
  · have hlt : ps.length < 700 := (Nat.lt_or_ge ps.length 700).elim id (fun q => absurd (nI_le (a := 700) q (by omega)) h7)
    refine p_aload_n 0 11 rfl rfl dX6_add_10 rfl ?_
    refine p_getR 6 2 14 rfl dX6_add_11 fl_X6_19 hu.kd rfl hp.2.1 (mk0 (Nat.succ_ne_zero _)) ?_
    refine p_aload_n 0 15 rfl rfl dX6_add_14 rfl ?_
    refine p_getIE 6 1 18 rfl dX6_add_15 fl_X6_15 hu.kd rfl hp.2.2.2.1 ?_
    refine p_iload_n 1 19 rfl rfl dX6_add_18 rfl ?_
    refine p_iastE 20 rfl dX6_add_19 (i := ps.length) (kd16 _ _) (lt700 hlt) ?_
    refine p_aload_n 0 21 rfl rfl dX6_add_20 rfl ?_
    refine p_dup 22 rfl dX6_add_21 rfl ?_
    refine p_getIE 6 1 25 rfl dX6_add_22 fl_X6_15 hu.kd rfl hp.2.2.2.1 ?_
    refine p_iconst (1) 26 rfl dX6_add_25 rfl ?_
    refine p_iadd 27 rfl dX6_add_26 ?_
    rw [nI_1]
    refine p_putI 6 1 30 rfl dX6_add_27 fl_X6_15 hu.kd rfl (Or.inl rfl) ?_
    exact p_vret dX6_add_30 rfl ⟨rfl, by
     have hlt : ps.length < 700 := by
       rcases Nat.lt_or_ge ps.length 700 with q | q
       · exact q
       · exact absurd (nI_le (a := 700) q (by omega)) h7
     rw [addS, if_pos hlt]
     refine ⟨hu, hp.2.1, ?_, ?_, ?_, fun i hi => ?_⟩
     · rw [hI_sIo (by intro q; cases q)]; exact hp.2.2.1
     · rw [hI_sI]; simp
     · simp only [List.length_append, List.length_cons, List.length_nil]; omega
     · show hA (sA σ (uS u) ps.length x) (uS u) i = _
       rw [sA_s]
       simp only [List.length_append, List.length_cons, List.length_nil] at hi
       rcases Nat.lt_or_ge i ps.length with w | w
       · rw [pk_un (by omega), getD_app_l w]; exact hp.2.2.2.2.2 i w
       · rw [show i = ps.length by omega, pk_us, getD_app_r], by
     refine ⟨?_, rfl⟩
     refine Fr.ch (XI := [(u, 1)]) (X := [uS u]) ((Fr.sA (by simp)).tr (Fr.sI (by simp))) ?_ ?_ <;> rcases hu with rfl | rfl | rfl | rfl <;> decide⟩
end C64
