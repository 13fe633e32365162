/-! ===== the reader: expressions ===== -/
abbrev PZ : Type := RS × List Int32
def prtF (tx : Nat → Nat) (z : Nat) (w : Bool) (rec : PZ → PZ) (X : PZ) : PZ :=
  if X.1.2.2.1 = 2 then ((rdN tx z 9999 X.1).2, addS X.2 (nI (rdN tx z 9999 X.1).1))
  else if X.1.2.2.1 = 1 then (match (if w = true then slT tx X.1 else slH tx X.1) with
    | none => (fai z 3 X.1, X.2)
    | some s => (adv tx z X.1, addS X.2 (nI (10000 + s))))
  else if sta tx X.1 40 = true then (rdS tx z 41 (rec (adv tx z X.1, X.2)).1, (rec (adv tx z X.1, X.2)).2)
  else (fai z 1 X.1, X.2)
def lopF (tx : Nat → Nat) (z : Nat) (rec : PZ → PZ) (t : Nat) : Nat → Int32 → PZ → PZ
  | 0, _, X => X
  | n + 1, op, X => if op = 0 then X else lopF tx z rec t n (if t = 2 then 0 else opO tx t (rec (adv tx z X.1, X.2)).1) ((rec (adv tx z X.1, X.2)).1, addS (rec (adv tx z X.1, X.2)).2 op)
def anF : Nat → List Int32 → List Int32
  | 0, ps => ps
  | n + 1, ps => anF n (addS ps (-3))
def ntF (tx : Nat → Nat) (z t : Nat) (S : RS) : Nat × RS := if t = 2 then rdNots tx z S else (0, S)
def tirF (tx : Nat → Nat) (z : Nat) (w : Bool) : Nat → Nat → Nat → PZ → PZ
  | 0, _, _, X => X
  | g + 1, t, dp, X => if t = 0 ∧ 6 ≤ dp then (deep tx z X.1, X.2) else if 4 < t then prtF tx z w (tirF tx z w g 0 (dp + 1)) X
    else ((lopF tx z (tirF tx z w g (t + 1) dp) t 700 (opO tx t (tirF tx z w g (t + 1) dp ((ntF tx z t X.1).2, X.2)).1) (tirF tx z w g (t + 1) dp ((ntF tx z t X.1).2, X.2))).1,
      anF (ntF tx z t X.1).1 (lopF tx z (tirF tx z w g (t + 1) dp) t 700 (opO tx t (tirF tx z w g (t + 1) dp ((ntF tx z t X.1).2, X.2)).1) (tirF tx z w g (t + 1) dp ((ntF tx z t X.1).2, X.2))).2)
/-- the contract of a call that reads on -/
def rP (tx : Nat → Nat) (z u : Nat) (w : Bool) (σ : PH) (X : PZ) : PO → PH → Prop := rV (fun σ' => RD σ' tx z u w X.1 X.2 ∧ Ct u σ σ')
section C65
variable {Γ : Gm} {σ : PH}
theorem slT_lt {tx : Nat → Nat} {S : RS} {q : Nat} (h : slT tx S = some q) : q < 6 := by
  unfold slT at h
  repeat' split at h
  all_goals first | (cases h; decide) | cases h
theorem slH_lt {tx : Nat → Nat} {S : RS} {q : Nat} (h : slH tx S = some q) : q < 6 := by
  unfold slH at h
  repeat' split at h
  all_goals first | (cases h; decide) | cases h
set_option maxRecDepth 4000 in
theorem c_readPart {tx : Nat → Nat} {z u : Nat} {w : Bool} {S : RS} {ps : List Int32} {d d1 dp : Nat} {rec : PZ → PZ} (hD : RD σ tx z u w S ps) (hrec : ∀ (σ : PH) (S : RS) (ps : List Int32), RD σ tx z u w S ps → CallOk Γ d1 0 0 mX5_readTier [.ref R0, .int (nI 0), .int (nI (dp + 1))] σ (rP tx z u w σ (rec (S, ps)))) (hd1 : d1 + 1 ≤ d) (hd8 : 7 ≤ d) : CallOk Γ d 0 0 mX5_readPart [.ref R0, .int (nI dp)] σ (rP tx z u w σ (prtF tx z w rec (S, ps))) := by
  have hu := hD.2.2.2.2.1
  have ho2 := hD.2.2.1.2.1
  refine p_enter rfl rfl (Nat.le_of_ble_eq_true rfl) rfl ?_
  refine p_aload_n 0 1 rfl rfl dX5_readPart_0 rfl ?_
  refine p_getIE 5 7 4 rfl dX5_readPart_1 fl_X5_25 rfl rfl (show hI σ R0 7 = nI S.2.2.1 from hD.2.1.2.2.2.1) ?_
  refine p_iconst (2) 5 rfl dX5_readPart_4 rfl ?_
  refine p_icmp_ne 25 8 rfl rfl dX5_readPart_5 (fun h5 => ?_) (fun h5 => ?_)
  · have hk2 : ¬ S.2.2.1 = 2 := fun q => h5 (by rw [q]; rfl)
    refine p_aload_n 0 26 rfl rfl dX5_readPart_25 rfl ?_
    refine p_getIE 5 7 29 rfl dX5_readPart_26 fl_X5_25 rfl rfl (show hI σ R0 7 = nI S.2.2.1 from hD.2.1.2.2.2.1) ?_
    refine p_iconst (1) 30 rfl dX5_readPart_29 rfl ?_
    refine p_icmp_ne 84 33 rfl rfl dX5_readPart_30 (fun h30 => ?_) (fun h30 => ?_)
    · have hk1 : ¬ S.2.2.1 = 1 := fun q => h30 (by rw [q]; rfl)
      refine p_aload_n 0 85 rfl rfl dX5_readPart_84 rfl ?_
      refine p_bipush (40) 87 rfl dX5_readPart_85 rfl ?_
      refine p_cV1i 90 rfl dX5_readPart_87 (c_stands hD.1 hD.2.1 hD.2.2.1 (by decide)) ml_X5_178 vl_X5_stands rfl (by decide) rfl (Nat.le_of_ble_eq_true rfl) (by omega) rfl ?_
      refine p_if_eq 114 93 rfl rfl dX5_readPart_90 (fun h90 => ?_) (fun h90 => ?_)
      · have hst : sta tx S 40 = false := by simpa only [b2i_eq0, Bool.not_eq_true] using h90
        refine p_aload_n 0 115 rfl rfl dX5_readPart_114 rfl ?_
        refine p_iconst (1) 116 rfl dX5_readPart_115 rfl ?_
        refine p_cV1v 0 0 119 rfl dX5_readPart_116 (c_fail hD.2.1 hD.2.2.1 1) ml_X5_118 vl_X5_fail rfl (by decide) rfl (Nat.le_of_ble_eq_true rfl) (by omega) (Nat.le_of_ble_eq_true rfl) (Nat.le_of_ble_eq_true rfl) rfl ?_
        intro σ1 hp1
        have hD1 := hD.tok hp1.1 hp1.2 (fai_ok hD.2.2.1 (by decide))
        have hc1 := hp1.2.toT hu
        exact p_vret dX5_readPart_119 rfl ⟨rfl, by rw [prtF, if_neg hk2, if_neg hk1, if_neg (by rw [hst]; decide)]; exact hD1, hc1⟩
      · have hst : sta tx S 40 = true := by simpa only [b2i_eq0, Decidable.not_not] using h90
        refine p_aload_n 0 94 rfl rfl dX5_readPart_93 rfl ?_
        refine p_cV0v 0 0 97 rfl dX5_readPart_94 (c_advance hD.1 hD.2.1 hD.2.2.1) ml_X5_66 vl_X5_advance rfl (by decide) rfl (Nat.le_of_ble_eq_true rfl) (by omega) (Nat.le_of_ble_eq_true rfl) (Nat.le_of_ble_eq_true rfl) rfl ?_
        intro σ1 hp1
        have hD1 := hD.tok hp1.1 hp1.2 (adv_ok hD.2.2.1)
        have hc1 := hp1.2.toT hu
        refine p_aload_n 0 98 rfl rfl dX5_readPart_97 rfl ?_
        refine p_iconst (0) 99 rfl dX5_readPart_98 rfl ?_
        refine p_iload_n 1 100 rfl rfl dX5_readPart_99 rfl ?_
        refine p_iconst (1) 101 rfl dX5_readPart_100 rfl ?_
        refine p_iadd 102 rfl dX5_readPart_101 ?_
        rw [nI_1]
        refine p_cV2v 0 0 105 rfl dX5_readPart_102 (hrec _ _ _ hD1) ml_X5_175 vl_X5_readTier rfl (by decide) rfl (Nat.le_of_ble_eq_true rfl) (by omega) (Nat.le_of_ble_eq_true rfl) (Nat.le_of_ble_eq_true rfl) rfl ?_
        intro σ2 hp2
        obtain ⟨hD2, hc2⟩ := hp2
        refine p_aload_n 0 106 rfl rfl dX5_readPart_105 rfl ?_
        refine p_bipush (41) 108 rfl dX5_readPart_106 rfl ?_
        refine p_cV1v 0 0 111 rfl dX5_readPart_108 (c_readSign hD2.1 hD2.2.1 hD2.2.2.1 (by decide)) ml_X5_122 vl_X5_readSign rfl (by decide) rfl (Nat.le_of_ble_eq_true rfl) (by omega) (Nat.le_of_ble_eq_true rfl) (Nat.le_of_ble_eq_true rfl) rfl ?_
        intro σ3 hp3
        have hD3 := hD2.tok hp3.1 hp3.2 (rdS_ok hD2.2.2.1)
        have hc3 := hp3.2.toT hu
        refine p_goto 119 rfl dX5_readPart_111 ?_
        exact p_vret dX5_readPart_119 rfl ⟨rfl, by rw [prtF, if_neg hk2, if_neg hk1, if_pos hst]; exact hD3, (hc1.tr hc2).tr hc3⟩
    · have hk1 : S.2.2.1 = 1 := nI_eqI h30 (by omega) (by decide)
      refine p_aload_n 0 34 rfl rfl dX5_readPart_33 rfl ?_
      refine p_getIE 5 6 37 rfl dX5_readPart_34 fl_X5_21 rfl rfl hD.2.2.2.1.2 ?_
      refine p_if_eq 47 40 rfl rfl dX5_readPart_37 (fun h37 => ?_) (fun h37 => ?_)
      · have hw : w = false := by simpa only [b2i_eq0, Bool.not_eq_true] using h37
        refine p_aload_n 0 48 rfl rfl dX5_readPart_47 rfl ?_
        refine p_cV0i 51 rfl dX5_readPart_48 (c_sheetSlot hD.1 hD.2.1 hD.2.2.1) ml_X5_210 vl_X5_sheetSlot rfl (by decide) rfl (Nat.le_of_ble_eq_true rfl) (by omega) rfl ?_
        subst hw
        rcases hsl : slH tx S with _ | q
        · refine p_ist_n2 52 rfl rfl dX5_readPart_51 (Nat.le_of_ble_eq_true rfl) rfl ?_
          refine p_iload_n 2 53 rfl rfl dX5_readPart_52 rfl ?_
          refine p_iconst (-1) 54 rfl dX5_readPart_53 rfl ?_
          refine p_icmp_ne 65 57 rfl rfl dX5_readPart_54 (fun h54 => absurd rfl h54) (fun h54 => ?_)
          refine p_aload_n 0 58 rfl rfl dX5_readPart_57 rfl ?_
          refine p_iconst (3) 59 rfl dX5_readPart_58 rfl ?_
          refine p_cV1v 0 0 62 rfl dX5_readPart_59 (c_fail hD.2.1 hD.2.2.1 3) ml_X5_118 vl_X5_fail rfl (by decide) rfl (Nat.le_of_ble_eq_true rfl) (by omega) (Nat.le_of_ble_eq_true rfl) (Nat.le_of_ble_eq_true rfl) rfl ?_
          intro σ1 hp1
          have hD1 := hD.tok hp1.1 hp1.2 (fai_ok hD.2.2.1 (by decide))
          have hc1 := hp1.2.toT hu
          refine p_goto 81 rfl dX5_readPart_62 ?_
          refine p_goto 119 rfl dX5_readPart_81 ?_
          exact p_vret dX5_readPart_119 rfl ⟨rfl, by rw [prtF, if_neg hk2, if_pos hk1]; simp only [hsl, if_true, if_false, Bool.false_eq_true]; exact hD1, hc1⟩
        · have hq6 := slH_lt hsl
          refine p_ist_n2 52 rfl rfl dX5_readPart_51 (Nat.le_of_ble_eq_true rfl) rfl ?_
          refine p_iload_n 2 53 rfl rfl dX5_readPart_52 rfl ?_
          refine p_iconst (-1) 54 rfl dX5_readPart_53 rfl ?_
          refine p_icmp_ne 65 57 rfl rfl dX5_readPart_54 (fun h54 => ?_) (fun h54 => absurd h54 (nI_m1 (by omega)))
          refine p_aload_n 0 66 rfl rfl dX5_readPart_65 rfl ?_
          refine p_getR 5 5 69 rfl dX5_readPart_66 fl_X5_51 rfl rfl hD.2.2.2.1.1 hu.ne0 ?_
          refine p_sipush (10000) 72 rfl dX5_readPart_69 rfl ?_
          refine p_iload_n 2 73 rfl rfl dX5_readPart_72 rfl ?_
          refine p_iadd 74 rfl dX5_readPart_73 ?_
          rw [show (10000 : Int32) + oI (some q) = nI (10000 + q) from nI_add 10000 q]
          refine p_cV1v 0 0 77 rfl dX5_readPart_74 (c_add hD.2.2.2.2 _) ml_X5_198 vl_X6_add hu.kd (by decide) rfl (Nat.le_of_ble_eq_true rfl) (by omega) (Nat.le_of_ble_eq_true rfl) (Nat.le_of_ble_eq_true rfl) rfl ?_
          intro σ1 hp1
          have hD1 := hD.put hp1.1 hp1.2
          have hc1 := hp1.2
          refine p_aload_n 0 78 rfl rfl dX5_readPart_77 rfl ?_
          refine p_cV0v 0 0 81 rfl dX5_readPart_78 (c_advance hD1.1 hD1.2.1 hD1.2.2.1) ml_X5_66 vl_X5_advance rfl (by decide) rfl (Nat.le_of_ble_eq_true rfl) (by omega) (Nat.le_of_ble_eq_true rfl) (Nat.le_of_ble_eq_true rfl) rfl ?_
          intro σ2 hp2
          have hD2 := hD1.tok hp2.1 hp2.2 (adv_ok hD1.2.2.1)
          have hc2 := hp2.2.toT hu
          refine p_goto 119 rfl dX5_readPart_81 ?_
          exact p_vret dX5_readPart_119 rfl ⟨rfl, by rw [prtF, if_neg hk2, if_pos hk1]; simp only [hsl, if_true, if_false, Bool.false_eq_true]; exact hD2, (Cu.uT hc1).tr hc2⟩
      · have hw : w = true := by simpa only [b2i_eq0, Decidable.not_not] using h37
        refine p_aload_n 0 41 rfl rfl dX5_readPart_40 rfl ?_
        refine p_cV0i 44 rfl dX5_readPart_41 (c_townSlot hD.1 hD.2.1 hD.2.2.1) ml_X5_207 vl_X5_townSlot rfl (by decide) rfl (Nat.le_of_ble_eq_true rfl) (by omega) rfl ?_
        refine p_goto 51 rfl dX5_readPart_44 ?_
        subst hw
        rcases hsl : slT tx S with _ | q
        · refine p_ist_n2 52 rfl rfl dX5_readPart_51 (Nat.le_of_ble_eq_true rfl) rfl ?_
          refine p_iload_n 2 53 rfl rfl dX5_readPart_52 rfl ?_
          refine p_iconst (-1) 54 rfl dX5_readPart_53 rfl ?_
          refine p_icmp_ne 65 57 rfl rfl dX5_readPart_54 (fun h54 => absurd rfl h54) (fun h54 => ?_)
          refine p_aload_n 0 58 rfl rfl dX5_readPart_57 rfl ?_
          refine p_iconst (3) 59 rfl dX5_readPart_58 rfl ?_
          refine p_cV1v 0 0 62 rfl dX5_readPart_59 (c_fail hD.2.1 hD.2.2.1 3) ml_X5_118 vl_X5_fail rfl (by decide) rfl (Nat.le_of_ble_eq_true rfl) (by omega) (Nat.le_of_ble_eq_true rfl) (Nat.le_of_ble_eq_true rfl) rfl ?_
          intro σ1 hp1
          have hD1 := hD.tok hp1.1 hp1.2 (fai_ok hD.2.2.1 (by decide))
          have hc1 := hp1.2.toT hu
          refine p_goto 81 rfl dX5_readPart_62 ?_
          refine p_goto 119 rfl dX5_readPart_81 ?_
          exact p_vret dX5_readPart_119 rfl ⟨rfl, by rw [prtF, if_neg hk2, if_pos hk1]; simp only [hsl, if_true, if_false, Bool.false_eq_true]; exact hD1, hc1⟩
        · have hq6 := slT_lt hsl
          refine p_ist_n2 52 rfl rfl dX5_readPart_51 (Nat.le_of_ble_eq_true rfl) rfl ?_
          refine p_iload_n 2 53 rfl rfl dX5_readPart_52 rfl ?_
          refine p_iconst (-1) 54 rfl dX5_readPart_53 rfl ?_
          refine p_icmp_ne 65 57 rfl rfl dX5_readPart_54 (fun h54 => ?_) (fun h54 => absurd h54 (nI_m1 (by omega)))
          refine p_aload_n 0 66 rfl rfl dX5_readPart_65 rfl ?_
          refine p_getR 5 5 69 rfl dX5_readPart_66 fl_X5_51 rfl rfl hD.2.2.2.1.1 hu.ne0 ?_
          refine p_sipush (10000) 72 rfl dX5_readPart_69 rfl ?_
          refine p_iload_n 2 73 rfl rfl dX5_readPart_72 rfl ?_
          refine p_iadd 74 rfl dX5_readPart_73 ?_
          rw [show (10000 : Int32) + oI (some q) = nI (10000 + q) from nI_add 10000 q]
          refine p_cV1v 0 0 77 rfl dX5_readPart_74 (c_add hD.2.2.2.2 _) ml_X5_198 vl_X6_add hu.kd (by decide) rfl (Nat.le_of_ble_eq_true rfl) (by omega) (Nat.le_of_ble_eq_true rfl) (Nat.le_of_ble_eq_true rfl) rfl ?_
          intro σ1 hp1
          have hD1 := hD.put hp1.1 hp1.2
          have hc1 := hp1.2
          refine p_aload_n 0 78 rfl rfl dX5_readPart_77 rfl ?_
          refine p_cV0v 0 0 81 rfl dX5_readPart_78 (c_advance hD1.1 hD1.2.1 hD1.2.2.1) ml_X5_66 vl_X5_advance rfl (by decide) rfl (Nat.le_of_ble_eq_true rfl) (by omega) (Nat.le_of_ble_eq_true rfl) (Nat.le_of_ble_eq_true rfl) rfl ?_
          intro σ2 hp2
          have hD2 := hD1.tok hp2.1 hp2.2 (adv_ok hD1.2.2.1)
          have hc2 := hp2.2.toT hu
          refine p_goto 119 rfl dX5_readPart_81 ?_
          exact p_vret dX5_readPart_119 rfl ⟨rfl, by rw [prtF, if_neg hk2, if_pos hk1]; simp only [hsl, if_true, if_false, Bool.false_eq_true]; exact hD2, (Cu.uT hc1).tr hc2⟩
  · have hk2 : S.2.2.1 = 2 := nI_eqI h5 (by omega) (by decide)
    refine p_aload_n 0 9 rfl rfl dX5_readPart_8 rfl ?_
    refine p_getR 5 5 12 rfl dX5_readPart_9 fl_X5_51 rfl rfl hD.2.2.2.1.1 hu.ne0 ?_
    refine p_aload_n 0 13 rfl rfl dX5_readPart_12 rfl ?_
    refine p_sipush (9999) 16 rfl dX5_readPart_13 rfl ?_
    refine p_cV1x 0 0 19 rfl dX5_readPart_16 (c_readNumber hD.1 hD.2.1 hD.2.2.1 (by decide)) ml_X5_133 vl_X5_readNumber rfl (by decide) rfl (Nat.le_of_ble_eq_true rfl) (by omega) (Nat.le_of_ble_eq_true rfl) (Nat.le_of_ble_eq_true rfl) rfl ?_
    intro v σ1 hp1
    obtain ⟨hv1, hr1, hcr⟩ := hp1
    subst hv1
    have hD1 := hD.tok hr1 hcr (rdN_ok hD.2.2.1).1
    have hc1 := hcr.toT hu
    refine p_cV1v 0 0 22 rfl dX5_readPart_19 (c_add hD1.2.2.2.2 _) ml_X5_198 vl_X6_add hu.kd (by decide) rfl (Nat.le_of_ble_eq_true rfl) (by omega) (Nat.le_of_ble_eq_true rfl) (Nat.le_of_ble_eq_true rfl) rfl ?_
    intro σ2 hp2
    have hD2 := hD1.put hp2.1 hp2.2
    have hc2 := hp2.2
    refine p_goto 119 rfl dX5_readPart_22 ?_
    exact p_vret dX5_readPart_119 rfl ⟨rfl, by rw [prtF, if_pos hk2]; exact hD2, hc1.tr hc2.uT⟩
set_option maxRecDepth 4000 in
theorem l_tierOps {tx : Nat → Nat} {z u : Nat} {w : Bool} {d d1 dp t nn : Nat} {rec : PZ → PZ} {Z : PZ} {Q : PO → PH → Prop} (hu : isU u) (ht4 : t ≤ 4) (hrec : ∀ (σ : PH) (S : RS) (ps : List Int32), RD σ tx z u w S ps → CallOk Γ d1 0 0 mX5_readTier [.ref R0, .int (nI (t + 1)), .int (nI dp)] σ (rP tx z u w σ (rec (S, ps)))) (hd1 : d1 + 1 ≤ d) (hd8 : 7 ≤ d) (kk : ∀ (σ2 : PH) (x4 : Int32) (x5 : Option Value), RD σ2 tx z u w Z.1 Z.2 → Ct u σ σ2 → Ok Γ d 0 0 mX5_readTier 114 [some (.ref R0), some (.int (nI t)), some (.int (nI dp)), some (.int (nI nn)), some (.int x4), x5] [] σ2 Q) : ∀ (m i : Nat) (σ1 : PH) (S : RS) (ps : List Int32) (op : Int32), i + m = 700 → RD σ1 tx z u w S ps → lopF tx z rec t m op (S, ps) = Z → Ct u σ σ1 → Ok Γ d 0 0 mX5_readTier 58 [some (.ref R0), some (.int (nI t)), some (.int (nI dp)), some (.int (nI nn)), some (.int op), some (.int (nI i))] [] σ1 Q := by
  intro m
  induction m with
  | zero =>
    intro i σ1 S ps op hi hD hZ hc1
    refine p_iload 5 60 rfl dX5_readTier_58 rfl ?_
    refine p_sipush (700) 63 rfl dX5_readTier_60 rfl ?_
    refine p_icmp_ge 114 66 rfl rfl dX5_readTier_63 (fun h63 => ?_) (fun h63 => absurd (nI_le (a := 700) (b := i) (by omega) (by omega)) h63)
    simp only [lopF] at hZ
    subst hZ
    exact kk σ1 _ _ hD hc1
  | succ m ih =>
    intro i σ1 S ps op hi hD hZ hc1
    refine p_iload 5 60 rfl dX5_readTier_58 rfl ?_
    refine p_sipush (700) 63 rfl dX5_readTier_60 rfl ?_
    refine p_icmp_ge 114 66 rfl rfl dX5_readTier_63 (fun h63 => absurd h63 (nI_ge (a := i) (b := 700) (by omega) (by omega))) (fun h63 => ?_)
    refine p_iload 4 68 rfl dX5_readTier_66 rfl ?_
    refine p_if_eq 114 71 rfl rfl dX5_readTier_68 (fun h68 => ?_) (fun h68 => ?_)
    · simp only [lopF] at hZ
      rw [if_pos h68] at hZ
      subst hZ
      exact kk σ1 _ _ hD hc1
    · refine p_aload_n 0 72 rfl rfl dX5_readTier_71 rfl ?_
      refine p_cV0v 0 0 75 rfl dX5_readTier_72 (c_advance hD.1 hD.2.1 hD.2.2.1) ml_X5_66 vl_X5_advance rfl (by decide) rfl (Nat.le_of_ble_eq_true rfl) (by omega) (Nat.le_of_ble_eq_true rfl) (Nat.le_of_ble_eq_true rfl) rfl ?_
      intro σ2 hp2
      have hD1 := hD.tok hp2.1 hp2.2 (adv_ok hD.2.2.1)
      have hc2 := hp2.2.toT hu
      refine p_aload_n 0 76 rfl rfl dX5_readTier_75 rfl ?_
      refine p_iload_n 1 77 rfl rfl dX5_readTier_76 rfl ?_
      refine p_iconst (1) 78 rfl dX5_readTier_77 rfl ?_
      refine p_iadd 79 rfl dX5_readTier_78 ?_
      refine p_iload_n 2 80 rfl rfl dX5_readTier_79 rfl ?_
      rw [nI_1]
      refine p_cV2v 0 0 83 rfl dX5_readTier_80 (hrec _ _ _ hD1) ml_X5_175 vl_X5_readTier rfl (by decide) rfl (Nat.le_of_ble_eq_true rfl) (by omega) (Nat.le_of_ble_eq_true rfl) (Nat.le_of_ble_eq_true rfl) rfl ?_
      intro σ3 hp3
      obtain ⟨hD2, hc3⟩ := hp3
      refine p_aload_n 0 84 rfl rfl dX5_readTier_83 rfl ?_
      refine p_getR 5 5 87 rfl dX5_readTier_84 fl_X5_51 rfl rfl hD2.2.2.2.1.1 hu.ne0 ?_
      refine p_iload 4 89 rfl dX5_readTier_87 rfl ?_
      refine p_cV1v 0 0 92 rfl dX5_readTier_89 (c_add hD2.2.2.2.2 _) ml_X5_198 vl_X6_add hu.kd (by decide) rfl (Nat.le_of_ble_eq_true rfl) (by omega) (Nat.le_of_ble_eq_true rfl) (Nat.le_of_ble_eq_true rfl) rfl ?_
      intro σ4 hp4
      have hD3 := hD2.put hp4.1 hp4.2
      have hc4 := Cu.uT hp4.2
      refine p_iload_n 1 93 rfl rfl dX5_readTier_92 rfl ?_
      refine p_iconst (2) 94 rfl dX5_readTier_93 rfl ?_
      refine p_icmp_ne 101 97 rfl rfl dX5_readTier_94 (fun h94 => ?_) (fun h94 => ?_)
      · refine p_aload_n 0 102 rfl rfl dX5_readTier_101 rfl ?_
        refine p_iload_n 1 103 rfl rfl dX5_readTier_102 rfl ?_
        refine p_cV1i 106 rfl dX5_readTier_103 (c_operatorOf hD3.1 hD3.2.1 hD3.2.2.1 ht4) ml_X5_195 vl_X5_operatorOf rfl (by decide) rfl (Nat.le_of_ble_eq_true rfl) (by omega) rfl ?_
        refine p_ist_4 108 rfl dX5_readTier_106 (Nat.le_of_ble_eq_true rfl) rfl ?_
        refine p_inc_5 111 rfl dX5_readTier_108 (1) rfl (Nat.le_of_ble_eq_true rfl) rfl ?_
        refine p_goto 58 rfl dX5_readTier_111 ?_
        have e2 : (if t = 2 then 0 else opO tx t (rec (adv tx z S, ps)).1) = opO tx t (rec (adv tx z S, ps)).1 := if_neg (fun q => h94 (by rw [q]; rfl))
        rw [nI_1, ← e2]
        refine ih (i + 1) σ4 _ _ _ (by omega) hD3 ?_ (((hc1.tr hc2).tr hc3).tr hc4)
        rw [← hZ]; simp only [lopF]; rw [if_neg h68]
      · refine p_iconst (0) 98 rfl dX5_readTier_97 rfl ?_
        refine p_goto 106 rfl dX5_readTier_98 ?_
        refine p_ist_4 108 rfl dX5_readTier_106 (Nat.le_of_ble_eq_true rfl) rfl ?_
        refine p_inc_5 111 rfl dX5_readTier_108 (1) rfl (Nat.le_of_ble_eq_true rfl) rfl ?_
        refine p_goto 58 rfl dX5_readTier_111 ?_
        have e2 : (if t = 2 then 0 else opO tx t (rec (adv tx z S, ps)).1) = 0 := if_pos (nI_eqI h94 (by omega) (by decide))
        rw [nI_1, ← e2]
        refine ih (i + 1) σ4 _ _ _ (by omega) hD3 ?_ (((hc1.tr hc2).tr hc3).tr hc4)
        rw [← hZ]; simp only [lopF]; rw [if_neg h68]
set_option maxRecDepth 4000 in
theorem l_tierNots {tx : Nat → Nat} {z u : Nat} {w : Bool} {S : RS} {d dp t nn : Nat} {x4 : Int32} (hu : isU u) (hn : nn ≤ 6) (hd8 : 7 ≤ d) : ∀ (m i : Nat) (σ1 : PH) (ps : List Int32), i + m = nn → RD σ1 tx z u w S ps → Ct u σ σ1 → Ok Γ d 0 0 mX5_readTier 117 [some (.ref R0), some (.int (nI t)), some (.int (nI dp)), some (.int (nI nn)), some (.int x4), some (.int (nI i))] [] σ1 (rP tx z u w σ (S, anF m ps)) := by
  intro m
  induction m with
  | zero =>
    intro i σ1 ps hi hD hc1
    refine p_iload 5 119 rfl dX5_readTier_117 rfl ?_
    refine p_iload_n 3 120 rfl rfl dX5_readTier_119 rfl ?_
    refine p_icmp_ge 138 123 rfl rfl dX5_readTier_120 (fun h120 => ?_) (fun h120 => absurd (nI_le (a := nn) (b := i) (by omega) (by omega)) h120)
    exact p_vret dX5_readTier_138 rfl ⟨rfl, by simp only [anF]; exact hD, hc1⟩
  | succ m ih =>
    intro i σ1 ps hi hD hc1
    refine p_iload 5 119 rfl dX5_readTier_117 rfl ?_
    refine p_iload_n 3 120 rfl rfl dX5_readTier_119 rfl ?_
    refine p_icmp_ge 138 123 rfl rfl dX5_readTier_120 (fun h120 => absurd h120 (nI_ge (a := i) (b := nn) (by omega) (by omega))) (fun h120 => ?_)
    refine p_aload_n 0 124 rfl rfl dX5_readTier_123 rfl ?_
    refine p_getR 5 5 127 rfl dX5_readTier_124 fl_X5_51 rfl rfl hD.2.2.2.1.1 hu.ne0 ?_
    refine p_bipush (-3) 129 rfl dX5_readTier_127 rfl ?_
    refine p_cV1v 0 0 132 rfl dX5_readTier_129 (c_add hD.2.2.2.2 _) ml_X5_198 vl_X6_add hu.kd (by decide) rfl (Nat.le_of_ble_eq_true rfl) (by omega) (Nat.le_of_ble_eq_true rfl) (Nat.le_of_ble_eq_true rfl) rfl ?_
    intro σ2 hp2
    have hD2 := hD.put hp2.1 hp2.2
    have hc2 := Cu.uT hp2.2
    refine p_inc_5 135 rfl dX5_readTier_132 (1) rfl (Nat.le_of_ble_eq_true rfl) rfl ?_
    refine p_goto 117 rfl dX5_readTier_135 ?_
    rw [nI_1]
    have h := ih (i + 1) σ2 _ (by omega) hD2 (hc1.tr hc2)
    simp only [anF]
    exact h
theorem tirF_eq (tx : Nat → Nat) (z : Nat) (w : Bool) (g t dp : Nat) (S : RS) (ps : List Int32) (h1 : ¬ (t = 0 ∧ 6 ≤ dp)) (h2 : ¬ 4 < t) : tirF tx z w (g + 1) t dp (S, ps) = ((lopF tx z (tirF tx z w g (t + 1) dp) t 700 (opO tx t (tirF tx z w g (t + 1) dp ((ntF tx z t S).2, ps)).1) (tirF tx z w g (t + 1) dp ((ntF tx z t S).2, ps))).1,
      anF (ntF tx z t S).1 (lopF tx z (tirF tx z w g (t + 1) dp) t 700 (opO tx t (tirF tx z w g (t + 1) dp ((ntF tx z t S).2, ps)).1) (tirF tx z w g (t + 1) dp ((ntF tx z t S).2, ps))).2) := by
  rw [tirF, if_neg h1, if_neg h2]
set_option maxRecDepth 8000 in
theorem c_tier {tx : Nat → Nat} {z u : Nat} {w : Bool} (hu : isU u) : ∀ (g t dp d : Nat) (σ : PH) (S : RS) (ps : List Int32), t ≤ 5 → (dp < 6 ∨ dp = 6 ∧ t = 0) → (6 - dp) * 6 + 1 ≤ g + t → (6 - dp) * 7 + 8 ≤ d + t → RD σ tx z u w S ps → CallOk Γ d 0 0 mX5_readTier [.ref R0, .int (nI t), .int (nI dp)] σ (rP tx z u w σ (tirF tx z w g t dp (S, ps))) := by
  intro g
  induction g with
  | zero => intro t dp d σ S ps h1 h2 h3; omega
  | succ g ih =>
    intro t dp d σ S ps h5 hdp6 hg hdd hD
    have ho2 := hD.2.2.1.2.1
    refine p_enter rfl rfl (Nat.le_of_ble_eq_true rfl) rfl ?_
    refine p_iload_n 1 1 rfl rfl dX5_readTier_0 rfl ?_
    refine p_if_ne 15 4 rfl rfl dX5_readTier_1 (fun h1 => ?_) (fun h1 => ?_)
    · refine p_iload_n 1 16 rfl rfl dX5_readTier_15 rfl ?_
      refine p_iconst (4) 17 rfl dX5_readTier_16 rfl ?_
      refine p_icmp_le 26 20 rfl rfl dX5_readTier_17 (fun h17 => ?_) (fun h17 => ?_)
      · have ht4 : t ≤ 4 := by
          rcases Nat.lt_or_ge 4 t with q | q
          · exact absurd h17 (nI_ge q (by omega))
          · exact q
        have hnt : ¬ (t = 0 ∧ 6 ≤ dp) := fun q => h1 (by rw [q.1]; rfl)
        refine p_iload_n 1 27 rfl rfl dX5_readTier_26 rfl ?_
        refine p_iconst (2) 28 rfl dX5_readTier_27 rfl ?_
        refine p_icmp_ne 38 31 rfl rfl dX5_readTier_28 (fun h28 => ?_) (fun h28 => ?_)
        · refine p_iconst (0) 39 rfl dX5_readTier_38 rfl ?_
          have hntF : ntF tx z t S = (0, S) := if_neg (fun q => h28 (by rw [q]; rfl))
          have hDn : RD σ tx z u w (ntF tx z t S).2 ps := by rw [hntF]; exact hD
          have hcn : Ct u σ σ := Ct.rf
          have hn6 : (ntF tx z t S).1 ≤ 6 := by rw [hntF]; exact Nat.zero_le _
          rw [show (0 : Int32) = nI (ntF tx z t S).1 by rw [hntF]; rfl]
          refine p_ist_n3 40 rfl rfl dX5_readTier_39 (Nat.le_of_ble_eq_true rfl) rfl ?_
          refine p_aload_n 0 41 rfl rfl dX5_readTier_40 rfl ?_
          refine p_iload_n 1 42 rfl rfl dX5_readTier_41 rfl ?_
          refine p_iconst (1) 43 rfl dX5_readTier_42 rfl ?_
          refine p_iadd 44 rfl dX5_readTier_43 ?_
          refine p_iload_n 2 45 rfl rfl dX5_readTier_44 rfl ?_
          rw [nI_1]
          refine p_cV2v 0 0 48 rfl dX5_readTier_45 (ih (t + 1) dp (d - 1) _ _ _ (by omega) (by omega) (by omega) (by omega) hDn) ml_X5_175 vl_X5_readTier rfl (by decide) rfl (Nat.le_of_ble_eq_true rfl) (by omega) (Nat.le_of_ble_eq_true rfl) (Nat.le_of_ble_eq_true rfl) rfl ?_
          intro σ2 hp2
          obtain ⟨hD2, hc2⟩ := hp2
          refine p_aload_n 0 49 rfl rfl dX5_readTier_48 rfl ?_
          refine p_iload_n 1 50 rfl rfl dX5_readTier_49 rfl ?_
          refine p_cV1i 53 rfl dX5_readTier_50 (c_operatorOf hD2.1 hD2.2.1 hD2.2.2.1 ht4) ml_X5_195 vl_X5_operatorOf rfl (by decide) rfl (Nat.le_of_ble_eq_true rfl) (by omega) rfl ?_
          refine p_ist_4 55 rfl dX5_readTier_53 (Nat.le_of_ble_eq_true rfl) rfl ?_
          refine p_iconst (0) 56 rfl dX5_readTier_55 rfl ?_
          refine p_ist_5 58 rfl dX5_readTier_56 (Nat.le_of_ble_eq_true rfl) rfl ?_
          have et := tirF_eq tx z w g t dp S ps hnt (by omega)
          rw [et]
          refine l_tierOps hu ht4 (d1 := d - 1) (rec := tirF tx z w g (t + 1) dp) (fun σ S ps h => ih (t + 1) dp (d - 1) σ S ps (by omega) (by omega) (by omega) (by omega) h) (by omega) (by omega) (fun σ5 x4 x5 hD5 hc5 => ?_) 700 0 σ2 _ _ _ (by omega) hD2 rfl (hcn.tr hc2)
          refine p_iconst (0) 115 rfl dX5_readTier_114 rfl ?_
          refine p_ist_5 117 rfl dX5_readTier_115 (Nat.le_of_ble_eq_true rfl) rfl ?_
          exact l_tierNots hu hn6 (by omega) (ntF tx z t S).1 0 σ5 _ (by omega) hD5 hc5
        · refine p_aload_n 0 32 rfl rfl dX5_readTier_31 rfl ?_
          refine p_cV0x 0 0 35 rfl dX5_readTier_32 (c_readNots hD.1 hD.2.1 hD.2.2.1) ml_X5_192 vl_X5_readNots rfl (by decide) rfl (Nat.le_of_ble_eq_true rfl) (by omega) (Nat.le_of_ble_eq_true rfl) (Nat.le_of_ble_eq_true rfl) rfl ?_
          intro v σ1 hp1
          obtain ⟨hv1, hr1, hcr⟩ := hp1
          subst hv1
          refine p_goto 39 rfl dX5_readTier_35 ?_
          have hntF : ntF tx z t S = rdNots tx z S := if_pos (nI_eqI h28 (by omega) (by decide))
          have hDn : RD σ1 tx z u w (ntF tx z t S).2 ps := by rw [hntF]; exact hD.tok hr1 hcr (rdNots_ok hD.2.2.1).1
          have hcn : Ct u σ σ1 := hcr.toT hu
          have hn6 : (ntF tx z t S).1 ≤ 6 := by rw [hntF]; exact (rdNots_ok hD.2.2.1).2
          rw [show nI (rdNots tx z S).1 = nI (ntF tx z t S).1 by rw [hntF]]
          refine p_ist_n3 40 rfl rfl dX5_readTier_39 (Nat.le_of_ble_eq_true rfl) rfl ?_
          refine p_aload_n 0 41 rfl rfl dX5_readTier_40 rfl ?_
          refine p_iload_n 1 42 rfl rfl dX5_readTier_41 rfl ?_
          refine p_iconst (1) 43 rfl dX5_readTier_42 rfl ?_
          refine p_iadd 44 rfl dX5_readTier_43 ?_
          refine p_iload_n 2 45 rfl rfl dX5_readTier_44 rfl ?_
          rw [nI_1]
          refine p_cV2v 0 0 48 rfl dX5_readTier_45 (ih (t + 1) dp (d - 1) _ _ _ (by omega) (by omega) (by omega) (by omega) hDn) ml_X5_175 vl_X5_readTier rfl (by decide) rfl (Nat.le_of_ble_eq_true rfl) (by omega) (Nat.le_of_ble_eq_true rfl) (Nat.le_of_ble_eq_true rfl) rfl ?_
          intro σ2 hp2
          obtain ⟨hD2, hc2⟩ := hp2
          refine p_aload_n 0 49 rfl rfl dX5_readTier_48 rfl ?_
          refine p_iload_n 1 50 rfl rfl dX5_readTier_49 rfl ?_
          refine p_cV1i 53 rfl dX5_readTier_50 (c_operatorOf hD2.1 hD2.2.1 hD2.2.2.1 ht4) ml_X5_195 vl_X5_operatorOf rfl (by decide) rfl (Nat.le_of_ble_eq_true rfl) (by omega) rfl ?_
          refine p_ist_4 55 rfl dX5_readTier_53 (Nat.le_of_ble_eq_true rfl) rfl ?_
          refine p_iconst (0) 56 rfl dX5_readTier_55 rfl ?_
          refine p_ist_5 58 rfl dX5_readTier_56 (Nat.le_of_ble_eq_true rfl) rfl ?_
          have et := tirF_eq tx z w g t dp S ps hnt (by omega)
          rw [et]
          refine l_tierOps hu ht4 (d1 := d - 1) (rec := tirF tx z w g (t + 1) dp) (fun σ S ps h => ih (t + 1) dp (d - 1) σ S ps (by omega) (by omega) (by omega) (by omega) h) (by omega) (by omega) (fun σ5 x4 x5 hD5 hc5 => ?_) 700 0 σ2 _ _ _ (by omega) hD2 rfl (hcn.tr hc2)
          refine p_iconst (0) 115 rfl dX5_readTier_114 rfl ?_
          refine p_ist_5 117 rfl dX5_readTier_115 (Nat.le_of_ble_eq_true rfl) rfl ?_
          exact l_tierNots hu hn6 (by omega) (ntF tx z t S).1 0 σ5 _ (by omega) hD5 hc5
      · have ht5 : 4 < t := by
          rcases Nat.lt_or_ge 4 t with q | q
          · exact q
          · exact absurd (nI_le q (by decide)) h17
        have hnt : ¬ (t = 0 ∧ 6 ≤ dp) := fun q => h1 (by rw [q.1]; rfl)
        refine p_aload_n 0 21 rfl rfl dX5_readTier_20 rfl ?_
        refine p_iload_n 2 22 rfl rfl dX5_readTier_21 rfl ?_
        refine p_cV1v 0 0 25 rfl dX5_readTier_22 (c_readPart (d := d - 1) (d1 := d - 2) hD (fun σ S ps h => ih 0 (dp + 1) (d - 2) σ S ps (by omega) (by omega) (by omega) (by omega) h) (by omega) (by omega)) ml_X5_189 vl_X5_readPart rfl (by decide) rfl (Nat.le_of_ble_eq_true rfl) (by omega) (Nat.le_of_ble_eq_true rfl) (Nat.le_of_ble_eq_true rfl) rfl ?_
        intro σ1 hp1
        exact p_vret dX5_readTier_25 rfl ⟨rfl, by rw [tirF, if_neg hnt, if_pos ht5]; exact hp1.1, hp1.2⟩
    · have ht0 : t = 0 := by
        rcases Nat.eq_zero_or_pos t with q | q
        · exact q
        · exact absurd (nI_ne0 q (by omega)) (fun h => h h1)
      refine p_iload_n 2 5 rfl rfl dX5_readTier_4 rfl ?_
      refine p_bipush (6) 7 rfl dX5_readTier_5 rfl ?_
      refine p_icmp_lt 15 10 rfl rfl dX5_readTier_7 (fun h7 => ?_) (fun h7 => ?_)
      · refine p_iload_n 1 16 rfl rfl dX5_readTier_15 rfl ?_
        refine p_iconst (4) 17 rfl dX5_readTier_16 rfl ?_
        refine p_icmp_le 26 20 rfl rfl dX5_readTier_17 (fun h17 => ?_) (fun h17 => ?_)
        · have ht4 : t ≤ 4 := by
            rcases Nat.lt_or_ge 4 t with q | q
            · exact absurd h17 (nI_ge q (by omega))
            · exact q
          have hnt : ¬ (t = 0 ∧ 6 ≤ dp) := fun q => by
            have := nI_nlt (a := dp) (b := 6) q.2 (by omega)
            exact this h7
          refine p_iload_n 1 27 rfl rfl dX5_readTier_26 rfl ?_
          refine p_iconst (2) 28 rfl dX5_readTier_27 rfl ?_
          refine p_icmp_ne 38 31 rfl rfl dX5_readTier_28 (fun h28 => ?_) (fun h28 => ?_)
          · refine p_iconst (0) 39 rfl dX5_readTier_38 rfl ?_
            have hntF : ntF tx z t S = (0, S) := if_neg (fun q => h28 (by rw [q]; rfl))
            have hDn : RD σ tx z u w (ntF tx z t S).2 ps := by rw [hntF]; exact hD
            have hcn : Ct u σ σ := Ct.rf
            have hn6 : (ntF tx z t S).1 ≤ 6 := by rw [hntF]; exact Nat.zero_le _
            rw [show (0 : Int32) = nI (ntF tx z t S).1 by rw [hntF]; rfl]
            refine p_ist_n3 40 rfl rfl dX5_readTier_39 (Nat.le_of_ble_eq_true rfl) rfl ?_
            refine p_aload_n 0 41 rfl rfl dX5_readTier_40 rfl ?_
            refine p_iload_n 1 42 rfl rfl dX5_readTier_41 rfl ?_
            refine p_iconst (1) 43 rfl dX5_readTier_42 rfl ?_
            refine p_iadd 44 rfl dX5_readTier_43 ?_
            refine p_iload_n 2 45 rfl rfl dX5_readTier_44 rfl ?_
            rw [nI_1]
            refine p_cV2v 0 0 48 rfl dX5_readTier_45 (ih (t + 1) dp (d - 1) _ _ _ (by omega) (by omega) (by omega) (by omega) hDn) ml_X5_175 vl_X5_readTier rfl (by decide) rfl (Nat.le_of_ble_eq_true rfl) (by omega) (Nat.le_of_ble_eq_true rfl) (Nat.le_of_ble_eq_true rfl) rfl ?_
            intro σ2 hp2
            obtain ⟨hD2, hc2⟩ := hp2
            refine p_aload_n 0 49 rfl rfl dX5_readTier_48 rfl ?_
            refine p_iload_n 1 50 rfl rfl dX5_readTier_49 rfl ?_
            refine p_cV1i 53 rfl dX5_readTier_50 (c_operatorOf hD2.1 hD2.2.1 hD2.2.2.1 ht4) ml_X5_195 vl_X5_operatorOf rfl (by decide) rfl (Nat.le_of_ble_eq_true rfl) (by omega) rfl ?_
            refine p_ist_4 55 rfl dX5_readTier_53 (Nat.le_of_ble_eq_true rfl) rfl ?_
            refine p_iconst (0) 56 rfl dX5_readTier_55 rfl ?_
            refine p_ist_5 58 rfl dX5_readTier_56 (Nat.le_of_ble_eq_true rfl) rfl ?_
            have et := tirF_eq tx z w g t dp S ps hnt (by omega)
            rw [et]
            refine l_tierOps hu ht4 (d1 := d - 1) (rec := tirF tx z w g (t + 1) dp) (fun σ S ps h => ih (t + 1) dp (d - 1) σ S ps (by omega) (by omega) (by omega) (by omega) h) (by omega) (by omega) (fun σ5 x4 x5 hD5 hc5 => ?_) 700 0 σ2 _ _ _ (by omega) hD2 rfl (hcn.tr hc2)
            refine p_iconst (0) 115 rfl dX5_readTier_114 rfl ?_
            refine p_ist_5 117 rfl dX5_readTier_115 (Nat.le_of_ble_eq_true rfl) rfl ?_
            exact l_tierNots hu hn6 (by omega) (ntF tx z t S).1 0 σ5 _ (by omega) hD5 hc5
          · refine p_aload_n 0 32 rfl rfl dX5_readTier_31 rfl ?_
            refine p_cV0x 0 0 35 rfl dX5_readTier_32 (c_readNots hD.1 hD.2.1 hD.2.2.1) ml_X5_192 vl_X5_readNots rfl (by decide) rfl (Nat.le_of_ble_eq_true rfl) (by omega) (Nat.le_of_ble_eq_true rfl) (Nat.le_of_ble_eq_true rfl) rfl ?_
            intro v σ1 hp1
            obtain ⟨hv1, hr1, hcr⟩ := hp1
            subst hv1
            refine p_goto 39 rfl dX5_readTier_35 ?_
            have hntF : ntF tx z t S = rdNots tx z S := if_pos (nI_eqI h28 (by omega) (by decide))
            have hDn : RD σ1 tx z u w (ntF tx z t S).2 ps := by rw [hntF]; exact hD.tok hr1 hcr (rdNots_ok hD.2.2.1).1
            have hcn : Ct u σ σ1 := hcr.toT hu
            have hn6 : (ntF tx z t S).1 ≤ 6 := by rw [hntF]; exact (rdNots_ok hD.2.2.1).2
            rw [show nI (rdNots tx z S).1 = nI (ntF tx z t S).1 by rw [hntF]]
            refine p_ist_n3 40 rfl rfl dX5_readTier_39 (Nat.le_of_ble_eq_true rfl) rfl ?_
            refine p_aload_n 0 41 rfl rfl dX5_readTier_40 rfl ?_
            refine p_iload_n 1 42 rfl rfl dX5_readTier_41 rfl ?_
            refine p_iconst (1) 43 rfl dX5_readTier_42 rfl ?_
            refine p_iadd 44 rfl dX5_readTier_43 ?_
            refine p_iload_n 2 45 rfl rfl dX5_readTier_44 rfl ?_
            rw [nI_1]
            refine p_cV2v 0 0 48 rfl dX5_readTier_45 (ih (t + 1) dp (d - 1) _ _ _ (by omega) (by omega) (by omega) (by omega) hDn) ml_X5_175 vl_X5_readTier rfl (by decide) rfl (Nat.le_of_ble_eq_true rfl) (by omega) (Nat.le_of_ble_eq_true rfl) (Nat.le_of_ble_eq_true rfl) rfl ?_
            intro σ2 hp2
            obtain ⟨hD2, hc2⟩ := hp2
            refine p_aload_n 0 49 rfl rfl dX5_readTier_48 rfl ?_
            refine p_iload_n 1 50 rfl rfl dX5_readTier_49 rfl ?_
            refine p_cV1i 53 rfl dX5_readTier_50 (c_operatorOf hD2.1 hD2.2.1 hD2.2.2.1 ht4) ml_X5_195 vl_X5_operatorOf rfl (by decide) rfl (Nat.le_of_ble_eq_true rfl) (by omega) rfl ?_
            refine p_ist_4 55 rfl dX5_readTier_53 (Nat.le_of_ble_eq_true rfl) rfl ?_
            refine p_iconst (0) 56 rfl dX5_readTier_55 rfl ?_
            refine p_ist_5 58 rfl dX5_readTier_56 (Nat.le_of_ble_eq_true rfl) rfl ?_
            have et := tirF_eq tx z w g t dp S ps hnt (by omega)
            rw [et]
            refine l_tierOps hu ht4 (d1 := d - 1) (rec := tirF tx z w g (t + 1) dp) (fun σ S ps h => ih (t + 1) dp (d - 1) σ S ps (by omega) (by omega) (by omega) (by omega) h) (by omega) (by omega) (fun σ5 x4 x5 hD5 hc5 => ?_) 700 0 σ2 _ _ _ (by omega) hD2 rfl (hcn.tr hc2)
            refine p_iconst (0) 115 rfl dX5_readTier_114 rfl ?_
            refine p_ist_5 117 rfl dX5_readTier_115 (Nat.le_of_ble_eq_true rfl) rfl ?_
            exact l_tierNots hu hn6 (by omega) (ntF tx z t S).1 0 σ5 _ (by omega) hD5 hc5
        · have ht5 : 4 < t := by
            rcases Nat.lt_or_ge 4 t with q | q
            · exact q
            · exact absurd (nI_le q (by decide)) h17
          have hnt : ¬ (t = 0 ∧ 6 ≤ dp) := fun q => by
            have := nI_nlt (a := dp) (b := 6) q.2 (by omega)
            exact this h7
          refine p_aload_n 0 21 rfl rfl dX5_readTier_20 rfl ?_
          refine p_iload_n 2 22 rfl rfl dX5_readTier_21 rfl ?_
          refine p_cV1v 0 0 25 rfl dX5_readTier_22 (c_readPart (d := d - 1) (d1 := d - 2) hD (fun σ S ps h => ih 0 (dp + 1) (d - 2) σ S ps (by omega) (by omega) (by omega) (by omega) h) (by omega) (by omega)) ml_X5_189 vl_X5_readPart rfl (by decide) rfl (Nat.le_of_ble_eq_true rfl) (by omega) (Nat.le_of_ble_eq_true rfl) (Nat.le_of_ble_eq_true rfl) rfl ?_
          intro σ1 hp1
          exact p_vret dX5_readTier_25 rfl ⟨rfl, by rw [tirF, if_neg hnt, if_pos ht5]; exact hp1.1, hp1.2⟩
      · have hdp : 6 ≤ dp := by
          rcases Nat.lt_or_ge dp 6 with q | q
          · exact absurd (nI_lt q (by decide)) h7
          · exact q
        refine p_aload_n 0 11 rfl rfl dX5_readTier_10 rfl ?_
        refine p_cV0v 0 0 14 rfl dX5_readTier_11 (c_failTooDeep hD.1 hD.2.1 hD.2.2.1) ml_X5_186 vl_X5_failTooDeep rfl (by decide) rfl (Nat.le_of_ble_eq_true rfl) (by omega) (Nat.le_of_ble_eq_true rfl) (Nat.le_of_ble_eq_true rfl) rfl ?_
        intro σ1 hp1
        exact p_vret dX5_readTier_14 rfl ⟨rfl, by rw [tirF, if_pos ⟨ht0, hdp⟩]; exact hD.tok hp1.1 hp1.2 (deep_ok hD.2.2.1), hp1.2.toT hu⟩
end C65
