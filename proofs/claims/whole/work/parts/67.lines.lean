/-! ===== the reader: lines ===== -/
abbrev LX : Type := RS × OB
def RLn (σ : PH) (tx : Nat → Nat) (z o : Nat) (X : LX) : Prop := TX σ tx z ∧ RpS σ z X.1 ∧ OkR z X.1 ∧ hR σ R0 4 = o ∧ RpB σ o X.2
def rL (tx : Nat → Nat) (z o : Nat) (σ : PH) (X : LX) : PO → PH → Prop := rV (fun σ' => RLn σ' tx z o X ∧ Ch (inS (sRd o)) σ σ')
theorem RLn.tok {σ σ' : PH} {tx : Nat → Nat} {z o : Nat} {X : LX} {S' : RS} (h : RLn σ tx z o X) (hr : RpS σ' z S') (hc : Cr σ σ') (ho : OkR z S') : RLn σ' tx z o (S', X.2) :=
  ⟨h.1.cr hc, hr, ho, by rw [hc.2.2]; exact h.2.2.2.1, h.2.2.2.2.cr hc⟩
theorem RLn.f5 {σ : PH} {tx : Nat → Nat} {z o : Nat} {S : RS} {B : OB} (h : RLn σ tx z o (S, B)) : S.1 ≤ 5 := h.2.2.1.1
theorem Cr.toL {σ σ' : PH} {o : Nat} (h : Cr σ σ') : Ch (inS (sRd o)) σ σ' := h.1.more (by unfold sRd; simp)
theorem Ch.toL {σ σ' : PH} {o : Nat} (h : Ch (inS (sO o)) σ σ') : Ch (inS (sRd o)) σ σ' := h.more (by
  refine List.all_eq_true.mpr (fun s hs => ?_)
  unfold sRd
  rw [List.contains_eq_mem]
  exact decide_eq_true (List.mem_cons_of_mem _ hs))
theorem RLn.off {σ σ' : PH} {tx : Nat → Nat} {z o : Nat} {S : RS} {B B' : OB} (h : RLn σ tx z o (S, B)) (hb : RpB σ' o B') (hc : Ch (inS (sO o)) σ σ') (hr : hR σ' = hR σ) : RLn σ' tx z o (S, B') := by
  have hO := hb.1.1.1.1
  obtain ⟨h1, h2, h3, h4, h5⟩ := h
  have e1 : hI σ' R0 = hI σ R0 := by rcases hO with rfl | rfl <;> exact (hc.2.2.2.2 R0 rfl).1
  refine ⟨h1.ch hc ?_, ?_, h3, by rw [hr]; exact h4, hb⟩
  · rcases hO with rfl | rfl <;> rfl
  · unfold RpS RpR at h2 ⊢; rw [e1]; exact h2
theorem ch_sheet {σ : PH} {o n : Nat} {x y w v : Int32} (hO : isO o) : Ch (inS (sO o)) σ (sI (sA (sA (sA σ (oL o) n x) (oR o) n y) (oH o) n w) o 0 v) := by
  refine Fr.ch (XI := [(o, 0)]) (X := [oL o, oR o, oH o]) ((((Fr.sA (by simp)).tr (Fr.sA (by simp))).tr (Fr.sA (by simp))).tr (Fr.sI (by simp))) ?_ ?_ <;> rcases hO with rfl | rfl <;> decide
theorem ch_word {σ : PH} {o n : Nat} {x y v : Int32} (hO : isO o) : Ch (inS (sO o)) σ (sI (sA (sA σ (oA o) n x) (oB o) n y) o 7 v) := by
  refine Fr.ch (XI := [(o, 7)]) (X := [oA o, oB o]) (((Fr.sA (by simp)).tr (Fr.sA (by simp))).tr (Fr.sI (by simp))) ?_ ?_ <;> rcases hO with rfl | rfl <;> decide
theorem ch_stop {σ : PH} {o n m : Nat} {x y : Int32} (hO : isO o) : Ch (inS (sO o)) σ (sA (sA σ (oN o) n x) (oS o) m y) := by
  refine Fr.ch (XI := []) (X := [oN o, oS o]) ((Fr.sA (by simp)).tr (Fr.sA (by simp))) rfl ?_
  rcases hO with rfl | rfl <;> decide
theorem ch_clerk {σ : PH} {o n m : Nat} {a b x y : Int32} (hO : isO o) : Ch (inS (sO o)) σ (sA (sA (sI (sA σ (oS o) m a) o 4 b) (oN o) n x) (oS o) m y) := by
  refine Fr.ch (XI := [(o, 4)]) (X := [oN o, oS o]) ((((Fr.sA (by simp)).tr (Fr.sI (by simp))).tr (Fr.sA (by simp))).tr (Fr.sA (by simp))) ?_ ?_ <;> rcases hO with rfl | rfl <;> decide
theorem ch_slack {σ : PH} {o : Nat} {x y : Int32} (hO : isO o) : Ch (inS (sO o)) σ (sI (sI σ o 10 x) o 11 y) := by
  refine Fr.ch (XI := [(o, 10), (o, 11)]) (X := []) ((Fr.sI (by simp)).tr (Fr.sI (by simp))) ?_ rfl
  rcases hO with rfl | rfl <;> decide
def lnSheet (tx : Nat → Nat) (z : Nat) (X : LX) : LX :=
  if aS X.2.1 < 9 then
    ((rdN tx z 3 (rdN tx z 255 (rdN tx z 255 (adv tx z X.1)).2).2).2, if (rdN tx z 3 (rdN tx z 255 (rdN tx z 255 (adv tx z X.1)).2).2).2.1 = 0 then bSheet X.2 (rdN tx z 255 (adv tx z X.1)).1 (rdN tx z 255 (rdN tx z 255 (adv tx z X.1)).2).1 (rdN tx z 3 (rdN tx z 255 (rdN tx z 255 (adv tx z X.1)).2).2).1 else X.2)
  else (fai z 2 X.1, X.2)
def bStp (B : OB) (t : Nat) : OB := if 0 < aC B.1 then bStop B t else B
def lnStop (tx : Nat → Nat) (z : Nat) (X : LX) : LX :=
  if stpL X.2.1 < 6 then ((rdN tx z 3 X.1).2, if (rdN tx z 3 X.1).2.1 = 0 then bStp X.2 (rdN tx z 3 X.1).1 else X.2) else (fai z 2 X.1, X.2)
def stpF (tx : Nat → Nat) (z : Nat) : Nat → LX → LX
  | 0, X => X
  | n + 1, X => if X.1.2.2.1 = 2 then stpF tx z n (lnStop tx z X) else X
def lnClerk (tx : Nat → Nat) (z : Nat) (X : LX) : LX :=
  if aC X.2.1 < 6 then stpF tx z 6 ((rdN tx z 3 (adv tx z X.1)).2, if (rdN tx z 3 (adv tx z X.1)).2.1 = 0 then bClerk X.2 (rdN tx z 3 (adv tx z X.1)).1 else X.2)
  else (fai z 2 X.1, X.2)
def rdWS (z : Nat) (O : AO) (be : Int32) (S : RS) : RS :=
  if S.2.2.1 = 2 ∧ S.2.2.2.2.2 ≤ 9999 then (if S.2.2.2.2.2 < aS O then (if nI S.2.2.2.2.2 = be ∨ hasW O be (nI S.2.2.2.2.2) = true then fai z 4 S else S) else fai z 3 S) else S
def rdW (tx : Nat → Nat) (z : Nat) (O : AO) (be : Int32) (S : RS) : Nat × RS := rdN tx z 9999 (rdWS z O be S)
def lnWord (tx : Nat → Nat) (z : Nat) (X : LX) : LX :=
  if aW X.2.1 < 12 then
    ((rdW tx z X.2.1 (nI (rdW tx z X.2.1 (-1) (adv tx z X.1)).1) (rdW tx z X.2.1 (-1) (adv tx z X.1)).2).2,
      if (rdW tx z X.2.1 (nI (rdW tx z X.2.1 (-1) (adv tx z X.1)).1) (rdW tx z X.2.1 (-1) (adv tx z X.1)).2).2.1 = 0 then bWord X.2 (rdW tx z X.2.1 (-1) (adv tx z X.1)).1 (rdW tx z X.2.1 (nI (rdW tx z X.2.1 (-1) (adv tx z X.1)).1) (rdW tx z X.2.1 (-1) (adv tx z X.1)).2).1 else X.2)
  else (fai z 2 X.1, X.2)
def lnSlack (tx : Nat → Nat) (z : Nat) (X : LX) : LX :=
  if X.2.2.2.2.2 = false then ((rdN tx z 8 (adv tx z X.1)).2, if (rdN tx z 8 (adv tx z X.1)).2.1 = 0 then bSlack X.2 (rdN tx z 8 (adv tx z X.1)).1 else X.2) else (fai z 5 X.1, X.2)
def lnRule (tx : Nat → Nat) (z : Nat) (w : Bool) (X : LX) : LX :=
  if (if w = true then aY X.2.1 else aM X.2.1) = none then ((tirF tx z w 40 0 0 (adv tx z X.1, [])).1, bRule X.2 w (tirF tx z w 40 0 0 (adv tx z X.1, [])).2) else (fai z 5 X.1, X.2)
def lnAny (tx : Nat → Nat) (z : Nat) (X : LX) : LX :=
  if spl tx X.1 (swd 14) = true then lnSheet tx z X else if spl tx X.1 (swd 15) = true then lnClerk tx z X else if spl tx X.1 (swd 16) = true then lnWord tx z X else if spl tx X.1 (swd 17) = true then lnSlack tx z X else if spl tx X.1 (swd 18) = true then lnRule tx z true X else if spl tx X.1 (swd 19) = true then lnRule tx z false X else (fai z 1 X.1, X.2)
def lnOne (tx : Nat → Nat) (z : Nat) (X : LX) : LX := (rdS tx z 59 (lnAny tx z X).1, (lnAny tx z X).2)
def lnsF (tx : Nat → Nat) (z : Nat) : Nat → LX → LX
  | 0, X => X
  | n + 1, X => if X.1.2.2.1 = 0 then X else lnsF tx z n (lnOne tx z X)
theorem adv_f (tx : Nat → Nat) (z : Nat) (S : RS) : (adv tx z S).1 = S.1 := by unfold adv; simp only []; split <;> rfl
theorem fai_f {z w : Nat} {S : RS} (h : S.1 ≠ 0) : fai z w S = S := if_neg h
theorem fai_n {z w : Nat} {S : RS} (hw : w ≠ 0) : (fai z w S).1 ≠ 0 := by
  unfold fai
  split
  · exact hw
  · assumption
theorem rdN_f {tx : Nat → Nat} {z m : Nat} {S : RS} (h : S.1 ≠ 0) : (rdN tx z m S).2.1 ≠ 0 := by
  unfold rdN
  split
  · split
    · rw [adv_f]; exact h
    · exact fai_n (by decide)
  · exact fai_n (by decide)
theorem rdN_0 {tx : Nat → Nat} {z m : Nat} {S : RS} (h : (rdN tx z m S).2.1 = 0) : S.1 = 0 ∧ S.2.2.1 = 2 ∧ S.2.2.2.2.2 ≤ m ∧ rdN tx z m S = (S.2.2.2.2.2, adv tx z S) := by
  unfold rdN at h ⊢
  split at h
  · rename_i hk
    split at h
    · rename_i hm
      rw [adv_f] at h
      rw [if_pos hk, if_pos hm]
      exact ⟨h, hk, hm, rfl⟩
    · exact absurd h (fai_n (by decide))
  · exact absurd h (fai_n (by decide))
theorem rdWS_ok {z : Nat} {O : AO} {be : Int32} {S : RS} (h : OkR z S) : OkR z (rdWS z O be S) := by
  unfold rdWS
  split
  · split
    · split
      · exact fai_ok h (by decide)
      · exact h
    · exact fai_ok h (by decide)
  · exact h
theorem rdW_0 {tx : Nat → Nat} {z : Nat} {O : AO} {be : Int32} {S : RS} (h : (rdW tx z O be S).2.1 = 0) : S.1 = 0 ∧ (rdW tx z O be S).1 < aS O := by
  have h0 := rdN_0 h
  unfold rdW
  rw [h0.2.2.2]
  obtain ⟨h1, h2, h3, h4⟩ := h0
  show S.1 = 0 ∧ (rdWS z O be S).2.2.2.2.2 < aS O
  unfold rdWS at h1 h2 h3 ⊢
  split at h1
  · rename_i hc
    rw [if_pos hc]
    split at h1
    · rename_i hn
      rw [if_pos hn]
      split at h1
      · exact absurd h1 (fai_n (by decide))
      · rename_i he
        rw [if_neg he]; exact ⟨h1, hn⟩
    · exact absurd h1 (fai_n (by decide))
  · rename_i hc
    rw [if_neg hc] at h2 h3
    exact absurd ⟨h2, h3⟩ hc
theorem rdW_f {tx : Nat → Nat} {z : Nat} {O : AO} {be : Int32} {S : RS} (h : S.1 ≠ 0) : (rdW tx z O be S).2.1 ≠ 0 := fun q => h (rdW_0 q).1
section C67
variable {Γ : Gm} {σ : PH}
set_option maxRecDepth 8000 in
theorem c_sheetLine {tx : Nat → Nat} {z o : Nat} {S : RS} {B : OB} (h : RLn σ tx z o (S, B))  : CallOk Γ 5 0 0 mX5_readSheetLine [.ref R0] σ (rL tx z o σ (lnSheet tx z (S, B))) := by
  have hO := h.2.2.2.2.1.1.1.1
  have hB : RpB σ o B := h.2.2.2.2
  have hok : OkO B.1 := hB.1.1.2.1
  refine p_enter rfl rfl (Nat.le_of_ble_eq_true rfl) rfl ?_
  refine p_aload_n 0 1 rfl rfl dX5_readSheetLine_0 rfl ?_
  refine p_aload_n 0 2 rfl rfl dX5_readSheetLine_1 rfl ?_
  refine p_getR 5 4 5 rfl dX5_readSheetLine_2 fl_X5_41 rfl rfl h.2.2.2.1 hO.ne0 ?_
  refine p_getIE 4 0 8 rfl dX5_readSheetLine_5 fl_X5_126 hO.kd rfl (show hI _ o 0 = nI (aS B.1) from h.2.2.2.2.1.1.2.2.1) ?_
  refine p_bipush (9) 10 rfl dX5_readSheetLine_8 rfl ?_
  refine p_icmp_ge 17 13 rfl rfl dX5_readSheetLine_10 (fun h10 => ?_) (fun h10 => ?_)
  · refine p_iconst (0) 18 rfl dX5_readSheetLine_17 rfl ?_
    refine p_iconst (2) 19 rfl dX5_readSheetLine_18 rfl ?_
    refine p_cV2x 0 0 22 rfl dX5_readSheetLine_19 (c_beginLine (S := S) h.1 h.2.1 h.2.2.1 false 2) ml_X5_129 vl_X5_beginLine rfl (by decide) rfl (Nat.le_of_ble_eq_true rfl) (Nat.le_of_ble_eq_true rfl) (Nat.le_of_ble_eq_true rfl) (Nat.le_of_ble_eq_true rfl) rfl ?_
    intro v1 σ1 hp1
    obtain ⟨hv1, hr1, hcr1⟩ := hp1
    subst hv1
    have hc1 : Ch (inS (sRd o)) _ σ1 := hcr1.toL
    refine p_if_ne 26 25 rfl rfl dX5_readSheetLine_22 (fun h22 => absurd rfl h22) (fun h22 => ?_)
    have h1 : RLn σ1 tx z o (fai z 2 S, B) := RLn.tok h hr1 hcr1 (fai_ok h.2.2.1 (by decide))
    exact p_vret dX5_readSheetLine_25 rfl ⟨rfl, by
   have hn : ¬ aS B.1 < 9 := fun q => nI_ge q (by decide) h10
   rw [show lnSheet tx z (S, B) = (fai z 2 S, B) from if_neg hn]; exact h1, hc1⟩
  · refine p_iconst (1) 14 rfl dX5_readSheetLine_13 rfl ?_
    refine p_goto 18 rfl dX5_readSheetLine_14 ?_
    refine p_iconst (2) 19 rfl dX5_readSheetLine_18 rfl ?_
    refine p_cV2x 0 0 22 rfl dX5_readSheetLine_19 (c_beginLine (S := S) h.1 h.2.1 h.2.2.1 true 2) ml_X5_129 vl_X5_beginLine rfl (by decide) rfl (Nat.le_of_ble_eq_true rfl) (Nat.le_of_ble_eq_true rfl) (Nat.le_of_ble_eq_true rfl) (Nat.le_of_ble_eq_true rfl) rfl ?_
    intro v1 σ1 hp1
    obtain ⟨hv1, hr1, hcr1⟩ := hp1
    subst hv1
    have hc1 : Ch (inS (sRd o)) _ σ1 := hcr1.toL
    refine p_if_ne 26 25 rfl rfl dX5_readSheetLine_22 (fun h22 => ?_) (fun h22 => absurd h22 (by decide))
    have hn : aS B.1 < 9 := (Nat.lt_or_ge (aS B.1) 9).elim id (fun q => absurd (nI_le (a := 9) q (by have := hok.1; omega)) h10)
    have h1 : RLn σ1 tx z o ((adv tx z S), B) := RLn.tok h hr1 hcr1 (adv_ok h.2.2.1)
    refine p_aload_n 0 27 rfl rfl dX5_readSheetLine_26 rfl ?_
    refine p_sipush (255) 30 rfl dX5_readSheetLine_27 rfl ?_
    refine p_cV1x 0 0 33 rfl dX5_readSheetLine_30 (c_readNumber (S := (adv tx z S)) h1.1 h1.2.1 h1.2.2.1 (by decide)) ml_X5_133 vl_X5_readNumber rfl (by decide) rfl (Nat.le_of_ble_eq_true rfl) (Nat.le_of_ble_eq_true rfl) (Nat.le_of_ble_eq_true rfl) (Nat.le_of_ble_eq_true rfl) rfl ?_
    intro v2 σ2 hp2
    obtain ⟨hv2, hr2, hcr2⟩ := hp2
    subst hv2
    have h2 : RLn σ2 tx z o ((rdN tx z 255 (adv tx z S)).2, B) := RLn.tok h1 hr2 hcr2 ((rdN_ok h1.2.2.1).1)
    have hc2 : Ch (inS (sRd o)) _ σ2 := hcr2.toL
    refine p_ist_n1 34 rfl rfl dX5_readSheetLine_33 (Nat.le_of_ble_eq_true rfl) rfl ?_
    refine p_aload_n 0 35 rfl rfl dX5_readSheetLine_34 rfl ?_
    refine p_sipush (255) 38 rfl dX5_readSheetLine_35 rfl ?_
    refine p_cV1x 0 0 41 rfl dX5_readSheetLine_38 (c_readNumber (S := (rdN tx z 255 (adv tx z S)).2) h2.1 h2.2.1 h2.2.2.1 (by decide)) ml_X5_133 vl_X5_readNumber rfl (by decide) rfl (Nat.le_of_ble_eq_true rfl) (Nat.le_of_ble_eq_true rfl) (Nat.le_of_ble_eq_true rfl) (Nat.le_of_ble_eq_true rfl) rfl ?_
    intro v3 σ3 hp3
    obtain ⟨hv3, hr3, hcr3⟩ := hp3
    subst hv3
    have h3 : RLn σ3 tx z o ((rdN tx z 255 (rdN tx z 255 (adv tx z S)).2).2, B) := RLn.tok h2 hr3 hcr3 ((rdN_ok h2.2.2.1).1)
    have hc3 : Ch (inS (sRd o)) _ σ3 := hcr3.toL
    refine p_ist_n2 42 rfl rfl dX5_readSheetLine_41 (Nat.le_of_ble_eq_true rfl) rfl ?_
    refine p_aload_n 0 43 rfl rfl dX5_readSheetLine_42 rfl ?_
    refine p_iconst (3) 44 rfl dX5_readSheetLine_43 rfl ?_
    refine p_cV1x 0 0 47 rfl dX5_readSheetLine_44 (c_readNumber (S := (rdN tx z 255 (rdN tx z 255 (adv tx z S)).2).2) h3.1 h3.2.1 h3.2.2.1 (by decide)) ml_X5_133 vl_X5_readNumber rfl (by decide) rfl (Nat.le_of_ble_eq_true rfl) (Nat.le_of_ble_eq_true rfl) (Nat.le_of_ble_eq_true rfl) (Nat.le_of_ble_eq_true rfl) rfl ?_
    intro v4 σ4 hp4
    obtain ⟨hv4, hr4, hcr4⟩ := hp4
    subst hv4
    have h4 : RLn σ4 tx z o ((rdN tx z 3 (rdN tx z 255 (rdN tx z 255 (adv tx z S)).2).2).2, B) := RLn.tok h3 hr4 hcr4 ((rdN_ok h3.2.2.1).1)
    have hc4 : Ch (inS (sRd o)) _ σ4 := hcr4.toL
    refine p_ist_n3 48 rfl rfl dX5_readSheetLine_47 (Nat.le_of_ble_eq_true rfl) rfl ?_
    refine p_aload_n 0 49 rfl rfl dX5_readSheetLine_48 rfl ?_
    refine p_getIE 5 0 52 rfl dX5_readSheetLine_49 fl_X5_9 rfl rfl (show hI σ4 R0 0 = nI (rdN tx z 3 (rdN tx z 255 (rdN tx z 255 (adv tx z S)).2).2).2.1 from h4.2.1.1) ?_
    refine p_if_ne 65 55 rfl rfl dX5_readSheetLine_52 (fun h52 => ?_) (fun h52 => ?_)
    · exact p_vret dX5_readSheetLine_65 rfl ⟨rfl, by
   have hf : ¬ (rdN tx z 3 (rdN tx z 255 (rdN tx z 255 (adv tx z S)).2).2).2.1 = 0 := fun q => h52 (by rw [q]; rfl)
   rw [show lnSheet tx z (S, B) = ((rdN tx z 3 (rdN tx z 255 (rdN tx z 255 (adv tx z S)).2).2).2, B) by rw [lnSheet, if_pos hn, if_neg hf]]; exact h4, ((hc1.tr hc2).tr hc3).tr hc4⟩
    · have hf : (rdN tx z 3 (rdN tx z 255 (rdN tx z 255 (adv tx z S)).2).2).2.1 = 0 := (Nat.eq_zero_or_pos (rdN tx z 3 (rdN tx z 255 (rdN tx z 255 (adv tx z S)).2).2).2.1).elim id (fun q => absurd h52 (fun w => nI_ne0 q (by have := h4.f5; omega) w))
      have hm1 := (rdN_ok (tx := tx) (m := 255) h1.2.2.1).2
      have hm2 := (rdN_ok (tx := tx) (m := 255) h2.2.2.1).2
      have hm3 := (rdN_ok (tx := tx) (m := 3) h3.2.2.1).2
      refine p_aload_n 0 56 rfl rfl dX5_readSheetLine_55 rfl ?_
      refine p_getR 5 4 59 rfl dX5_readSheetLine_56 fl_X5_41 rfl rfl h4.2.2.2.1 hO.ne0 ?_
      refine p_iload_n 1 60 rfl rfl dX5_readSheetLine_59 rfl ?_
      refine p_iload_n 2 61 rfl rfl dX5_readSheetLine_60 rfl ?_
      refine p_iload_n 3 62 rfl rfl dX5_readSheetLine_61 rfl ?_
      refine p_cV3v 0 0 65 rfl dX5_readSheetLine_62 (c_addSheet h4.2.2.2.2 hn _ _ _) ml_X5_136 vl_X4_addSheet hO.kd (by decide) rfl (Nat.le_of_ble_eq_true rfl) (Nat.le_of_ble_eq_true rfl) (Nat.le_of_ble_eq_true rfl) (Nat.le_of_ble_eq_true rfl) rfl ?_
      rintro σ5 rfl
      have h5 := h4.off (B_sheet h4.2.2.2.2 hn (Nat.lt_succ_of_le hm1) (Nat.lt_succ_of_le hm2) (Nat.lt_succ_of_le hm3)) (ch_sheet hO) rfl
      have hc5 := Ch.toL (ch_sheet (σ := σ4) (n := aS B.1) (x := nI (rdN tx z 255 (adv tx z S)).1) (y := nI (rdN tx z 255 (rdN tx z 255 (adv tx z S)).2).1) (w := nI (rdN tx z 3 (rdN tx z 255 (rdN tx z 255 (adv tx z S)).2).2).1) (v := nI (aS B.1 + 1)) hO)
      exact p_vret dX5_readSheetLine_65 rfl ⟨rfl, by
   rw [show lnSheet tx z (S, B) = ((rdN tx z 3 (rdN tx z 255 (rdN tx z 255 (adv tx z S)).2).2).2, bSheet B (rdN tx z 255 (adv tx z S)).1 (rdN tx z 255 (rdN tx z 255 (adv tx z S)).2).1 (rdN tx z 3 (rdN tx z 255 (rdN tx z 255 (adv tx z S)).2).2).1) by rw [lnSheet, if_pos hn, if_pos hf]]; exact h5, (((hc1.tr hc2).tr hc3).tr hc4).tr hc5⟩
set_option maxRecDepth 8000 in
theorem c_slackLine {tx : Nat → Nat} {z o : Nat} {S : RS} {B : OB} (h : RLn σ tx z o (S, B))  : CallOk Γ 5 0 0 mX5_readSlackLine [.ref R0] σ (rL tx z o σ (lnSlack tx z (S, B))) := by
  have hO := h.2.2.2.2.1.1.1.1
  have hB : RpB σ o B := h.2.2.2.2
  have hok : OkO B.1 := hB.1.1.2.1
  refine p_enter rfl rfl (Nat.le_of_ble_eq_true rfl) rfl ?_
  refine p_aload_n 0 1 rfl rfl dX5_readSlackLine_0 rfl ?_
  refine p_aload_n 0 2 rfl rfl dX5_readSlackLine_1 rfl ?_
  refine p_getR 5 4 5 rfl dX5_readSlackLine_2 fl_X5_41 rfl rfl h.2.2.2.1 hO.ne0 ?_
  refine p_getIE 4 11 8 rfl dX5_readSlackLine_5 fl_X5_165 hO.kd rfl (show hI _ o 11 = b2i B.2.2.2.2 from h.2.2.2.2.2.2.1) ?_
  refine p_if_ne 15 11 rfl rfl dX5_readSlackLine_8 (fun h8 => ?_) (fun h8 => ?_)
  · refine p_iconst (0) 16 rfl dX5_readSlackLine_15 rfl ?_
    refine p_iconst (5) 17 rfl dX5_readSlackLine_16 rfl ?_
    refine p_cV2x 0 0 20 rfl dX5_readSlackLine_17 (c_beginLine (S := S) h.1 h.2.1 h.2.2.1 false 5) ml_X5_129 vl_X5_beginLine rfl (by decide) rfl (Nat.le_of_ble_eq_true rfl) (Nat.le_of_ble_eq_true rfl) (Nat.le_of_ble_eq_true rfl) (Nat.le_of_ble_eq_true rfl) rfl ?_
    intro v1 σ1 hp1
    obtain ⟨hv1, hr1, hcr1⟩ := hp1
    subst hv1
    have hc1 : Ch (inS (sRd o)) _ σ1 := hcr1.toL
    refine p_if_ne 24 23 rfl rfl dX5_readSlackLine_20 (fun h20 => absurd rfl h20) (fun h20 => ?_)
    have hn : ¬ B.2.2.2.2 = false := by simpa only [b2i_eq0, Decidable.not_not, Bool.not_eq_false] using h8
    have h1 : RLn σ1 tx z o (fai z 5 S, B) := RLn.tok h hr1 hcr1 (fai_ok h.2.2.1 (by decide))
    exact p_vret dX5_readSlackLine_23 rfl ⟨rfl, by
   rw [show lnSlack tx z (S, B) = (fai z 5 S, B) from if_neg hn]; exact h1, hc1⟩
  · refine p_iconst (1) 12 rfl dX5_readSlackLine_11 rfl ?_
    refine p_goto 16 rfl dX5_readSlackLine_12 ?_
    refine p_iconst (5) 17 rfl dX5_readSlackLine_16 rfl ?_
    refine p_cV2x 0 0 20 rfl dX5_readSlackLine_17 (c_beginLine (S := S) h.1 h.2.1 h.2.2.1 true 5) ml_X5_129 vl_X5_beginLine rfl (by decide) rfl (Nat.le_of_ble_eq_true rfl) (Nat.le_of_ble_eq_true rfl) (Nat.le_of_ble_eq_true rfl) (Nat.le_of_ble_eq_true rfl) rfl ?_
    intro v1 σ1 hp1
    obtain ⟨hv1, hr1, hcr1⟩ := hp1
    subst hv1
    have hc1 : Ch (inS (sRd o)) _ σ1 := hcr1.toL
    refine p_if_ne 24 23 rfl rfl dX5_readSlackLine_20 (fun h20 => ?_) (fun h20 => absurd h20 (by decide))
    have hn : B.2.2.2.2 = false := by simpa only [b2i_eq0, Bool.not_eq_true] using h8
    have h1 : RLn σ1 tx z o ((adv tx z S), B) := RLn.tok h hr1 hcr1 (adv_ok h.2.2.1)
    refine p_aload_n 0 25 rfl rfl dX5_readSlackLine_24 rfl ?_
    refine p_bipush (8) 27 rfl dX5_readSlackLine_25 rfl ?_
    refine p_cV1x 0 0 30 rfl dX5_readSlackLine_27 (c_readNumber (S := (adv tx z S)) h1.1 h1.2.1 h1.2.2.1 (by decide)) ml_X5_133 vl_X5_readNumber rfl (by decide) rfl (Nat.le_of_ble_eq_true rfl) (Nat.le_of_ble_eq_true rfl) (Nat.le_of_ble_eq_true rfl) (Nat.le_of_ble_eq_true rfl) rfl ?_
    intro v2 σ2 hp2
    obtain ⟨hv2, hr2, hcr2⟩ := hp2
    subst hv2
    have h2 : RLn σ2 tx z o ((rdN tx z 8 (adv tx z S)).2, B) := RLn.tok h1 hr2 hcr2 ((rdN_ok h1.2.2.1).1)
    have hc2 : Ch (inS (sRd o)) _ σ2 := hcr2.toL
    refine p_ist_n1 31 rfl rfl dX5_readSlackLine_30 (Nat.le_of_ble_eq_true rfl) rfl ?_
    refine p_aload_n 0 32 rfl rfl dX5_readSlackLine_31 rfl ?_
    refine p_getIE 5 0 35 rfl dX5_readSlackLine_32 fl_X5_9 rfl rfl (show hI σ2 R0 0 = nI (rdN tx z 8 (adv tx z S)).2.1 from h2.2.1.1) ?_
    refine p_if_ne 54 38 rfl rfl dX5_readSlackLine_35 (fun h35 => ?_) (fun h35 => ?_)
    · exact p_vret dX5_readSlackLine_54 rfl ⟨rfl, by
   have hf : ¬ (rdN tx z 8 (adv tx z S)).2.1 = 0 := fun q => h35 (by rw [q]; rfl)
   rw [show lnSlack tx z (S, B) = ((rdN tx z 8 (adv tx z S)).2, B) by rw [lnSlack, if_pos hn, if_neg hf]]; exact h2, hc1.tr hc2⟩
    · have hf : (rdN tx z 8 (adv tx z S)).2.1 = 0 := (Nat.eq_zero_or_pos (rdN tx z 8 (adv tx z S)).2.1).elim id (fun q => absurd h35 (fun w => nI_ne0 q (by have := h2.f5; omega) w))
      have hm1 := (rdN_ok (tx := tx) (m := 8) h1.2.2.1).2
      refine p_aload_n 0 39 rfl rfl dX5_readSlackLine_38 rfl ?_
      refine p_getR 5 4 42 rfl dX5_readSlackLine_39 fl_X5_41 rfl rfl h2.2.2.2.1 hO.ne0 ?_
      refine p_iload_n 1 43 rfl rfl dX5_readSlackLine_42 rfl ?_
      refine p_putI 4 10 46 rfl dX5_readSlackLine_43 fl_X5_168 hO.kd rfl (Or.inl rfl) ?_
      refine p_aload_n 0 47 rfl rfl dX5_readSlackLine_46 rfl ?_
      refine p_getR 5 4 50 rfl dX5_readSlackLine_47 fl_X5_41 rfl rfl h2.2.2.2.1 hO.ne0 ?_
      refine p_iconst (1) 51 rfl dX5_readSlackLine_50 rfl ?_
      refine p_putZ 4 11 54 rfl dX5_readSlackLine_51 fl_X5_165 hO.kd rfl (by first | exact Or.inl rfl | exact Or.inr rfl | assumption) (Or.inl rfl) ?_
      have h3 := h2.off (B_slack h2.2.2.2.2 hm1) (ch_slack hO) rfl
      have hc3 := Ch.toL (ch_slack (σ := σ2) (x := nI (rdN tx z 8 (adv tx z S)).1) (y := 1) hO)
      exact p_vret dX5_readSlackLine_54 rfl ⟨rfl, by
   rw [show lnSlack tx z (S, B) = ((rdN tx z 8 (adv tx z S)).2, bSlack B (rdN tx z 8 (adv tx z S)).1) by rw [lnSlack, if_pos hn, if_pos hf]]; exact h3, (hc1.tr hc2).tr hc3⟩
set_option maxRecDepth 4000 in
theorem l_rdW68 {tx : Nat → Nat} {z o : Nat} {S : RS} {B : OB} {be : Int32} {σ1 : PH} (h : RLn σ1 tx z o (rdWS z B.1 be S, B)) (hc : Cr σ σ1) : Ok Γ 5 0 0 mX5_readSheetNumber 68 [some (.ref R0), some (.int be)] [] σ1 (rX (fun v σ' => v = nI (rdW tx z B.1 be S).1 ∧ RpS σ' z (rdW tx z B.1 be S).2 ∧ Cr σ σ')) := by
  refine p_aload_n 0 69 rfl rfl dX5_readSheetNumber_68 rfl ?_
  refine p_sipush (9999) 72 rfl dX5_readSheetNumber_69 rfl ?_
  refine p_cV1x 0 0 75 rfl dX5_readSheetNumber_72 (c_readNumber (S := rdWS z B.1 be S) h.1 h.2.1 h.2.2.1 (by decide)) ml_X5_133 vl_X5_readNumber rfl (by decide) rfl (Nat.le_of_ble_eq_true rfl) (Nat.le_of_ble_eq_true rfl) (Nat.le_of_ble_eq_true rfl) (Nat.le_of_ble_eq_true rfl) rfl ?_
  intro v1 σ2 hp2
  obtain ⟨hv1, hr2, hcr2⟩ := hp2
  subst hv1
  exact p_iret dX5_readSheetNumber_75 rfl ⟨_, rfl, rfl, hr2, hc.tr hcr2⟩
set_option maxRecDepth 8000 in
theorem c_readW {tx : Nat → Nat} {z o : Nat} {S : RS} {B : OB} (h : RLn σ tx z o (S, B)) (be : Int32) : CallOk Γ 5 0 0 mX5_readSheetNumber [.ref R0, .int be] σ (rX (fun v σ' => v = nI (rdW tx z B.1 be S).1 ∧ RpS σ' z (rdW tx z B.1 be S).2 ∧ Cr σ σ')) := by
  have hO := h.2.2.2.2.1.1.1.1
  have hB : RpB σ o B := h.2.2.2.2
  have hok : OkO B.1 := hB.1.1.2.1
  have ho2 : S.2.2.1 ≤ 4 := h.2.2.1.2.1
  refine p_enter rfl rfl (Nat.le_of_ble_eq_true rfl) rfl ?_
  refine p_aload_n 0 1 rfl rfl dX5_readSheetNumber_0 rfl ?_
  refine p_getIE 5 7 4 rfl dX5_readSheetNumber_1 fl_X5_25 rfl rfl (show hI σ R0 7 = nI S.2.2.1 from h.2.1.2.2.2.1) ?_
  refine p_iconst (2) 5 rfl dX5_readSheetNumber_4 rfl ?_
  refine p_icmp_ne 68 8 rfl rfl dX5_readSheetNumber_5 (fun h5 => ?_) (fun h5 => ?_)
  · have e : rdWS z B.1 be S = S := if_neg (fun q => h5 (by rw [q.1]; rfl))
    have h1 : RLn σ tx z o (rdWS z B.1 be S, B) := by rw [e]; exact h
    exact l_rdW68 h1 Cr.rf
  · refine p_aload_n 0 9 rfl rfl dX5_readSheetNumber_8 rfl ?_
    refine p_getIE 5 10 12 rfl dX5_readSheetNumber_9 fl_X5_34 rfl rfl (show hI σ R0 10 = nI S.2.2.2.2.2 from h.2.1.2.2.2.2.2.2) ?_
    refine p_sipush (9999) 15 rfl dX5_readSheetNumber_12 rfl ?_
    refine p_icmp_gt 68 18 rfl rfl dX5_readSheetNumber_15 (fun h15 => ?_) (fun h15 => ?_)
    · have e : rdWS z B.1 be S = S := if_neg (fun q => nI_nlt q.2 (by decide) h15)
      have h1 : RLn σ tx z o (rdWS z B.1 be S, B) := by rw [e]; exact h
      exact l_rdW68 h1 Cr.rf
    · refine p_aload_n 0 19 rfl rfl dX5_readSheetNumber_18 rfl ?_
      refine p_getIE 5 10 22 rfl dX5_readSheetNumber_19 fl_X5_34 rfl rfl (show hI σ R0 10 = nI S.2.2.2.2.2 from h.2.1.2.2.2.2.2.2) ?_
      refine p_aload_n 0 23 rfl rfl dX5_readSheetNumber_22 rfl ?_
      refine p_getR 5 4 26 rfl dX5_readSheetNumber_23 fl_X5_41 rfl rfl h.2.2.2.1 hO.ne0 ?_
      refine p_getIE 4 0 29 rfl dX5_readSheetNumber_26 fl_X5_126 hO.kd rfl (show hI _ o 0 = nI (aS B.1) from h.2.2.2.2.1.1.2.2.1) ?_
      refine p_icmp_lt 40 32 rfl rfl dX5_readSheetNumber_29 (fun h29 => ?_) (fun h29 => ?_)
      · refine p_aload_n 0 41 rfl rfl dX5_readSheetNumber_40 rfl ?_
        refine p_getIE 5 10 44 rfl dX5_readSheetNumber_41 fl_X5_34 rfl rfl (show hI σ R0 10 = nI S.2.2.2.2.2 from h.2.1.2.2.2.2.2.2) ?_
        refine p_iload_n 1 45 rfl rfl dX5_readSheetNumber_44 rfl ?_
        refine p_icmp_eq 63 48 rfl rfl dX5_readSheetNumber_45 (fun h45 => ?_) (fun h45 => ?_)
        · refine p_aload_n 0 64 rfl rfl dX5_readSheetNumber_63 rfl ?_
          refine p_iconst (4) 65 rfl dX5_readSheetNumber_64 rfl ?_
          refine p_cV1v 0 0 68 rfl dX5_readSheetNumber_65 (c_fail h.2.1 h.2.2.1 4) ml_X5_118 vl_X5_fail rfl (by decide) rfl (Nat.le_of_ble_eq_true rfl) (Nat.le_of_ble_eq_true rfl) (Nat.le_of_ble_eq_true rfl) (Nat.le_of_ble_eq_true rfl) rfl ?_
          intro σ1 hp1
          have hk : S.2.2.1 = 2 := nI_eqI h5 (by omega) (by decide)
          have h10 : S.2.2.2.2.2 ≤ 10000 := h.2.2.1.2.2.2.2.1 hk
          have h99 : S.2.2.2.2.2 ≤ 9999 := (Nat.lt_or_ge 9999 S.2.2.2.2.2).elim (fun q => absurd (nI_lt q (by omega)) h15) id
          have hlt : S.2.2.2.2.2 < aS B.1 := (Nat.lt_or_ge S.2.2.2.2.2 (aS B.1)).elim id (fun q => absurd h29 (nI_nlt q (by omega)))
          have e : rdWS z B.1 be S = fai z 4 S := by rw [rdWS, if_pos ⟨hk, h99⟩, if_pos hlt, if_pos (Or.inl h45)]
          have h1 : RLn σ1 tx z o (rdWS z B.1 be S, B) := by rw [e]; exact RLn.tok h hp1.1 hp1.2 (fai_ok h.2.2.1 (by decide))
          exact l_rdW68 h1 hp1.2
        · refine p_aload_n 0 49 rfl rfl dX5_readSheetNumber_48 rfl ?_
          refine p_getR 5 4 52 rfl dX5_readSheetNumber_49 fl_X5_41 rfl rfl h.2.2.2.1 hO.ne0 ?_
          refine p_iload_n 1 53 rfl rfl dX5_readSheetNumber_52 rfl ?_
          refine p_aload_n 0 54 rfl rfl dX5_readSheetNumber_53 rfl ?_
          refine p_getIE 5 10 57 rfl dX5_readSheetNumber_54 fl_X5_34 rfl rfl (show hI σ R0 10 = nI S.2.2.2.2.2 from h.2.1.2.2.2.2.2.2) ?_
          refine p_cV2i 60 rfl dX5_readSheetNumber_57 (c_hasWord h.2.2.2.2.1.1 _ _) ml_X5_182 vl_X4_hasWord hO.kd (by decide) rfl (Nat.le_of_ble_eq_true rfl) (Nat.le_of_ble_eq_true rfl) rfl ?_
          refine p_if_eq 68 63 rfl rfl dX5_readSheetNumber_60 (fun h60 => ?_) (fun h60 => ?_)
          · have hk : S.2.2.1 = 2 := nI_eqI h5 (by omega) (by decide)
            have h10 : S.2.2.2.2.2 ≤ 10000 := h.2.2.1.2.2.2.2.1 hk
            have h99 : S.2.2.2.2.2 ≤ 9999 := (Nat.lt_or_ge 9999 S.2.2.2.2.2).elim (fun q => absurd (nI_lt q (by omega)) h15) id
            have hlt : S.2.2.2.2.2 < aS B.1 := (Nat.lt_or_ge S.2.2.2.2.2 (aS B.1)).elim id (fun q => absurd h29 (nI_nlt q (by omega)))
            have hw : ¬ hasW B.1 be (nI S.2.2.2.2.2) = true := by simpa only [b2i_eq0] using h60
            have e : rdWS z B.1 be S = S := by rw [rdWS, if_pos ⟨hk, h99⟩, if_pos hlt, if_neg (fun q => q.elim h45 hw)]
            have h1 : RLn σ tx z o (rdWS z B.1 be S, B) := by rw [e]; exact h
            exact l_rdW68 h1 Cr.rf
          · refine p_aload_n 0 64 rfl rfl dX5_readSheetNumber_63 rfl ?_
            refine p_iconst (4) 65 rfl dX5_readSheetNumber_64 rfl ?_
            refine p_cV1v 0 0 68 rfl dX5_readSheetNumber_65 (c_fail h.2.1 h.2.2.1 4) ml_X5_118 vl_X5_fail rfl (by decide) rfl (Nat.le_of_ble_eq_true rfl) (Nat.le_of_ble_eq_true rfl) (Nat.le_of_ble_eq_true rfl) (Nat.le_of_ble_eq_true rfl) rfl ?_
            intro σ1 hp1
            have hk : S.2.2.1 = 2 := nI_eqI h5 (by omega) (by decide)
            have h10 : S.2.2.2.2.2 ≤ 10000 := h.2.2.1.2.2.2.2.1 hk
            have h99 : S.2.2.2.2.2 ≤ 9999 := (Nat.lt_or_ge 9999 S.2.2.2.2.2).elim (fun q => absurd (nI_lt q (by omega)) h15) id
            have hlt : S.2.2.2.2.2 < aS B.1 := (Nat.lt_or_ge S.2.2.2.2.2 (aS B.1)).elim id (fun q => absurd h29 (nI_nlt q (by omega)))
            have hw : hasW B.1 be (nI S.2.2.2.2.2) = true := by simpa only [b2i_eq0, Decidable.not_not] using h60
            have e : rdWS z B.1 be S = fai z 4 S := by rw [rdWS, if_pos ⟨hk, h99⟩, if_pos hlt, if_pos (Or.inr hw)]
            have h1 : RLn σ1 tx z o (rdWS z B.1 be S, B) := by rw [e]; exact RLn.tok h hp1.1 hp1.2 (fai_ok h.2.2.1 (by decide))
            exact l_rdW68 h1 hp1.2
      · refine p_aload_n 0 33 rfl rfl dX5_readSheetNumber_32 rfl ?_
        refine p_iconst (3) 34 rfl dX5_readSheetNumber_33 rfl ?_
        refine p_cV1v 0 0 37 rfl dX5_readSheetNumber_34 (c_fail h.2.1 h.2.2.1 3) ml_X5_118 vl_X5_fail rfl (by decide) rfl (Nat.le_of_ble_eq_true rfl) (Nat.le_of_ble_eq_true rfl) (Nat.le_of_ble_eq_true rfl) (Nat.le_of_ble_eq_true rfl) rfl ?_
        intro σ1 hp1
        refine p_goto 68 rfl dX5_readSheetNumber_37 ?_
        have hk : S.2.2.1 = 2 := nI_eqI h5 (by omega) (by decide)
        have h10 : S.2.2.2.2.2 ≤ 10000 := h.2.2.1.2.2.2.2.1 hk
        have h99 : S.2.2.2.2.2 ≤ 9999 := (Nat.lt_or_ge 9999 S.2.2.2.2.2).elim (fun q => absurd (nI_lt q (by omega)) h15) id
        have e : rdWS z B.1 be S = fai z 3 S := by rw [rdWS, if_pos ⟨hk, h99⟩, if_neg (fun q => h29 (nI_lt q (by have := hok.1; omega)))]
        have h1 : RLn σ1 tx z o (rdWS z B.1 be S, B) := by rw [e]; exact RLn.tok h hp1.1 hp1.2 (fai_ok h.2.2.1 (by decide))
        exact l_rdW68 h1 hp1.2
set_option maxRecDepth 8000 in
theorem c_wordLine {tx : Nat → Nat} {z o : Nat} {S : RS} {B : OB} (h : RLn σ tx z o (S, B))  : CallOk Γ 6 0 0 mX5_readWordLine [.ref R0] σ (rL tx z o σ (lnWord tx z (S, B))) := by
  have hO := h.2.2.2.2.1.1.1.1
  have hB : RpB σ o B := h.2.2.2.2
  have hok : OkO B.1 := hB.1.1.2.1
  refine p_enter rfl rfl (Nat.le_of_ble_eq_true rfl) rfl ?_
  refine p_aload_n 0 1 rfl rfl dX5_readWordLine_0 rfl ?_
  refine p_aload_n 0 2 rfl rfl dX5_readWordLine_1 rfl ?_
  refine p_getR 5 4 5 rfl dX5_readWordLine_2 fl_X5_41 rfl rfl h.2.2.2.1 hO.ne0 ?_
  refine p_getIE 4 7 8 rfl dX5_readWordLine_5 fl_X5_155 hO.kd rfl (show hI _ o 7 = nI (aW B.1) from h.2.2.2.2.1.1.2.2.2.2.1) ?_
  refine p_bipush (12) 10 rfl dX5_readWordLine_8 rfl ?_
  refine p_icmp_ge 17 13 rfl rfl dX5_readWordLine_10 (fun h10 => ?_) (fun h10 => ?_)
  · refine p_iconst (0) 18 rfl dX5_readWordLine_17 rfl ?_
    refine p_iconst (2) 19 rfl dX5_readWordLine_18 rfl ?_
    refine p_cV2x 0 0 22 rfl dX5_readWordLine_19 (c_beginLine (S := S) h.1 h.2.1 h.2.2.1 false 2) ml_X5_129 vl_X5_beginLine rfl (by decide) rfl (Nat.le_of_ble_eq_true rfl) (Nat.le_of_ble_eq_true rfl) (Nat.le_of_ble_eq_true rfl) (Nat.le_of_ble_eq_true rfl) rfl ?_
    intro v1 σ1 hp1
    obtain ⟨hv1, hr1, hcr1⟩ := hp1
    subst hv1
    have hc1 : Ch (inS (sRd o)) _ σ1 := hcr1.toL
    refine p_if_ne 26 25 rfl rfl dX5_readWordLine_22 (fun h22 => absurd rfl h22) (fun h22 => ?_)
    have h1 : RLn σ1 tx z o (fai z 2 S, B) := RLn.tok h hr1 hcr1 (fai_ok h.2.2.1 (by decide))
    exact p_vret dX5_readWordLine_25 rfl ⟨rfl, by
   have hn : ¬ aW B.1 < 12 := fun q => nI_ge q (by decide) h10
   rw [show lnWord tx z (S, B) = (fai z 2 S, B) from if_neg hn]; exact h1, hc1⟩
  · refine p_iconst (1) 14 rfl dX5_readWordLine_13 rfl ?_
    refine p_goto 18 rfl dX5_readWordLine_14 ?_
    refine p_iconst (2) 19 rfl dX5_readWordLine_18 rfl ?_
    refine p_cV2x 0 0 22 rfl dX5_readWordLine_19 (c_beginLine (S := S) h.1 h.2.1 h.2.2.1 true 2) ml_X5_129 vl_X5_beginLine rfl (by decide) rfl (Nat.le_of_ble_eq_true rfl) (Nat.le_of_ble_eq_true rfl) (Nat.le_of_ble_eq_true rfl) (Nat.le_of_ble_eq_true rfl) rfl ?_
    intro v1 σ1 hp1
    obtain ⟨hv1, hr1, hcr1⟩ := hp1
    subst hv1
    have hc1 : Ch (inS (sRd o)) _ σ1 := hcr1.toL
    refine p_if_ne 26 25 rfl rfl dX5_readWordLine_22 (fun h22 => ?_) (fun h22 => absurd h22 (by decide))
    have hn : aW B.1 < 12 := (Nat.lt_or_ge (aW B.1) 12).elim id (fun q => absurd (nI_le (a := 12) q (by have := hok.2.2.1; omega)) h10)
    have h1 : RLn σ1 tx z o ((adv tx z S), B) := RLn.tok h hr1 hcr1 (adv_ok h.2.2.1)
    refine p_aload_n 0 27 rfl rfl dX5_readWordLine_26 rfl ?_
    refine p_iconst (-1) 28 rfl dX5_readWordLine_27 rfl ?_
    refine p_cV1x 0 0 31 rfl dX5_readWordLine_28 (c_readW h1 _) ml_X5_158 vl_X5_readSheetNumber rfl (by decide) rfl (Nat.le_of_ble_eq_true rfl) (Nat.le_of_ble_eq_true rfl) (Nat.le_of_ble_eq_true rfl) (Nat.le_of_ble_eq_true rfl) rfl ?_
    intro v2 σ2 hp2
    obtain ⟨hv2, hr2, hcr2⟩ := hp2
    subst hv2
    have h2 : RLn σ2 tx z o ((rdW tx z B.1 (-1) (adv tx z S)).2, B) := RLn.tok h1 hr2 hcr2 ((rdN_ok (rdWS_ok h1.2.2.1)).1)
    have hc2 : Ch (inS (sRd o)) _ σ2 := hcr2.toL
    refine p_ist_n1 32 rfl rfl dX5_readWordLine_31 (Nat.le_of_ble_eq_true rfl) rfl ?_
    refine p_aload_n 0 33 rfl rfl dX5_readWordLine_32 rfl ?_
    refine p_iload_n 1 34 rfl rfl dX5_readWordLine_33 rfl ?_
    refine p_cV1x 0 0 37 rfl dX5_readWordLine_34 (c_readW h2 _) ml_X5_158 vl_X5_readSheetNumber rfl (by decide) rfl (Nat.le_of_ble_eq_true rfl) (Nat.le_of_ble_eq_true rfl) (Nat.le_of_ble_eq_true rfl) (Nat.le_of_ble_eq_true rfl) rfl ?_
    intro v3 σ3 hp3
    obtain ⟨hv3, hr3, hcr3⟩ := hp3
    subst hv3
    have h3 : RLn σ3 tx z o ((rdW tx z B.1 (nI (rdW tx z B.1 (-1) (adv tx z S)).1) (rdW tx z B.1 (-1) (adv tx z S)).2).2, B) := RLn.tok h2 hr3 hcr3 ((rdN_ok (rdWS_ok h2.2.2.1)).1)
    have hc3 : Ch (inS (sRd o)) _ σ3 := hcr3.toL
    refine p_ist_n2 38 rfl rfl dX5_readWordLine_37 (Nat.le_of_ble_eq_true rfl) rfl ?_
    refine p_aload_n 0 39 rfl rfl dX5_readWordLine_38 rfl ?_
    refine p_getIE 5 0 42 rfl dX5_readWordLine_39 fl_X5_9 rfl rfl (show hI σ3 R0 0 = nI (rdW tx z B.1 (nI (rdW tx z B.1 (-1) (adv tx z S)).1) (rdW tx z B.1 (-1) (adv tx z S)).2).2.1 from h3.2.1.1) ?_
    refine p_if_ne 54 45 rfl rfl dX5_readWordLine_42 (fun h42 => ?_) (fun h42 => ?_)
    · exact p_vret dX5_readWordLine_54 rfl ⟨rfl, by
   have hf : ¬ (rdW tx z B.1 (nI (rdW tx z B.1 (-1) (adv tx z S)).1) (rdW tx z B.1 (-1) (adv tx z S)).2).2.1 = 0 := fun q => h42 (by rw [q]; rfl)
   rw [show lnWord tx z (S, B) = ((rdW tx z B.1 (nI (rdW tx z B.1 (-1) (adv tx z S)).1) (rdW tx z B.1 (-1) (adv tx z S)).2).2, B) by rw [lnWord, if_pos hn, if_neg hf]]; exact h3, (hc1.tr hc2).tr hc3⟩
    · have hf : (rdW tx z B.1 (nI (rdW tx z B.1 (-1) (adv tx z S)).1) (rdW tx z B.1 (-1) (adv tx z S)).2).2.1 = 0 := (Nat.eq_zero_or_pos (rdW tx z B.1 (nI (rdW tx z B.1 (-1) (adv tx z S)).1) (rdW tx z B.1 (-1) (adv tx z S)).2).2.1).elim id (fun q => absurd h42 (fun w => nI_ne0 q (by have := h3.f5; omega) w))
      have hm2 := rdW_0 hf
      have hm1 := rdW_0 hm2.1
      refine p_aload_n 0 46 rfl rfl dX5_readWordLine_45 rfl ?_
      refine p_getR 5 4 49 rfl dX5_readWordLine_46 fl_X5_41 rfl rfl h3.2.2.2.1 hO.ne0 ?_
      refine p_iload_n 1 50 rfl rfl dX5_readWordLine_49 rfl ?_
      refine p_iload_n 2 51 rfl rfl dX5_readWordLine_50 rfl ?_
      refine p_cV2v 0 0 54 rfl dX5_readWordLine_51 (c_addWord h3.2.2.2.2 hn _ _) ml_X5_161 vl_X4_addWord hO.kd (by decide) rfl (Nat.le_of_ble_eq_true rfl) (Nat.le_of_ble_eq_true rfl) (Nat.le_of_ble_eq_true rfl) (Nat.le_of_ble_eq_true rfl) rfl ?_
      rintro σ4 rfl
      have h4 := h3.off (B_word h3.2.2.2.2 hn hm1.2 hm2.2) (ch_word hO) rfl
      have hc4 := Ch.toL (ch_word (σ := σ3) (n := aW B.1) (x := nI (rdW tx z B.1 (-1) (adv tx z S)).1) (y := nI (rdW tx z B.1 (nI (rdW tx z B.1 (-1) (adv tx z S)).1) (rdW tx z B.1 (-1) (adv tx z S)).2).1) (v := nI (aW B.1 + 1)) hO)
      exact p_vret dX5_readWordLine_54 rfl ⟨rfl, by
   rw [show lnWord tx z (S, B) = ((rdW tx z B.1 (nI (rdW tx z B.1 (-1) (adv tx z S)).1) (rdW tx z B.1 (-1) (adv tx z S)).2).2, bWord B (rdW tx z B.1 (-1) (adv tx z S)).1 (rdW tx z B.1 (nI (rdW tx z B.1 (-1) (adv tx z S)).1) (rdW tx z B.1 (-1) (adv tx z S)).2).1) by rw [lnWord, if_pos hn, if_pos hf]]; exact h4, ((hc1.tr hc2).tr hc3).tr hc4⟩
end C67
