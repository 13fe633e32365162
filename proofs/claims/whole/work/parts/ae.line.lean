/-! ===== the reference: a line ===== -/
theorem kwS {tx : Nat → Nat} {S : RS} : oI (kwF tx S) = 2 ↔ spl tx S (swd 14) = true := kw_n 14 (k := 2) (by decide) rfl
theorem kwC {tx : Nat → Nat} {S : RS} : oI (kwF tx S) = 9 ↔ spl tx S (swd 15) = true := kw_n 15 (k := 9) (by decide) rfl
theorem kwW {tx : Nat → Nat} {S : RS} : oI (kwF tx S) = 10 ↔ spl tx S (swd 16) = true := kw_n 16 (k := 10) (by decide) rfl
theorem kwK {tx : Nat → Nat} {S : RS} : oI (kwF tx S) = 11 ↔ spl tx S (swd 17) = true := kw_n 17 (k := 11) (by decide) rfl
theorem kwY {tx : Nat → Nat} {S : RS} : oI (kwF tx S) = 12 ↔ spl tx S (swd 18) = true := kw_n 18 (k := 12) (by decide) rfl
theorem kwM {tx : Nat → Nat} {S : RS} : oI (kwF tx S) = 13 ↔ spl tx S (swd 19) = true := kw_n 19 (k := 13) (by decide) rfl
theorem sw18 : (swd 18).length = 4 := by decide +kernel
theorem sw19 : (swd 19).length = 6 := by decide +kernel
theorem adv_s4 {tx : Nat → Nat} {z : Nat} {S : RS} {w : List Nat} (h : OkR z S) (hs : spl tx S w = true) : S.2.2.2.1 + w.length ≤ (adv tx z S).2.2.2.1 := by
  have hk := spl_k hs
  have h1 := h.2.2.2.2.2 (by rw [hk]; decide)
  have h2 := (skp_ge tx (z - S.2.2.2.2.1) S.2.2.2.2.1).1
  have : (adv tx z S).2.2.2.1 = skp tx (z - S.2.2.2.2.1) S.2.2.2.2.1 := by unfold adv; simp only []; split <;> rfl
  have e : S.2.2.2.2.1 - S.2.2.2.1 = w.length := by unfold spl at hs; simp only [Bool.and_eq_true, beq_iff_eq] at hs; exact hs.1.2
  omega
theorem RuN.n {σ : PH} {f : Nat} {w : Bool} {o : List Int32} {q : Option (List Int32)} (h : RuN σ f w o q) (hl : o.length ≤ 2000) : q = none ↔ hI σ M0 f = -1 := by
  cases q with
  | none => exact ⟨fun _ => h, fun _ => rfl⟩
  | some ps =>
    obtain ⟨_, _, p, c, d, _⟩ := h
    exact ⟨(fun e => by cases e), fun e => absurd (c.symm.trans e) (nI_m1b (by omega))⟩
theorem gD_lr {l r : List Int32} {i : Nat} : (l ++ r).getD (l.length + i) 0 = r.getD i 0 := by
  rw [List.getD_eq_getElem?_getD, List.getD_eq_getElem?_getD, List.getElem?_append_right (by omega), Nat.add_sub_cancel_left]
theorem lnRule_e {tx : Nat → Nat} {z : Nat} {S : RS} {B : OB} {w : Bool} {Z : PZ} (hn : (if w = true then aY B.1 else aM B.1) = none) (hZ : tirF tx z w 40 0 0 (adv tx z S, []) = Z) : lnRule tx z w (S, B) = (Z.1, bRule B w Z.2) := by
  subst hZ; exact if_pos hn
section Cae
variable {Γ : Gm} {σ : PH} {tx : Nat → Nat} {z : Nat}
set_option maxRecDepth 4000 in
theorem l_l244 {σ0 : PH} {X Y : LX} {x1 : Option Value} (hE : lnAny tx z X = Y) (h : LMx σ tx z Y) (hF : Fj [14, 15, 18, 19, 20, 21, 22, 23, 25, 26, 27, 28, 29, 30, 31, 32, 33, 34, 35] [nRd, nRl, nWl, nWr, nRw, rCd, mWt, mTs] σ0 σ) : Ok Γ 12 0 0 mX9_line 244 [some (.ref M0), x1] [] σ (rV (fun σ' => LMx σ' tx z (lnOne tx z X) ∧ Fj [14, 15, 18, 19, 20, 21, 22, 23, 25, 26, 27, 28, 29, 30, 31, 32, 33, 34, 35] [nRd, nRl, nWl, nWr, nRw, rCd, mWt, mTs] σ0 σ')) := by
  have eR : (if Y.1.1 = 0 then (if (decide (hI σ M0 19 = 3) && decide (hI σ M0 23 = 59)) = true then adv tx z Y.1 else fai z 1 Y.1) else Y.1) = rdS tx z 59 Y.1 := by
    by_cases h0 : Y.1.1 = 0
    · rw [if_pos h0]
      have := sgn_eq h.2.1 h0 h.1.2.2.1 (c := 59) (by decide)
      rw [show (59 : Int32) = nI 59 from rfl, this]; rfl
    · rw [if_neg h0, flt_rdS (h.2.1.2.2.2.2 h0) h0]
  have hfin : ∀ σ1, Fj [14, 15, 18, 19, 20, 21, 22, 23] [] σ σ1 → (rdS tx z 59 Y.1).1 = 0 → ∃ o, CO σ1 o ∧ RBm σ1 Y.2 o ∧ o.length ≤ 2 * (rdS tx z 59 Y.1).2.2.2.1 := fun σ1 hf hq => by
    by_cases h0 : Y.1.1 = 0
    · obtain ⟨o, hc, hB, hl⟩ := h.2.2 h0
      refine ⟨o, hc.fr hf rfl rfl, hB.fr hf rfl rfl, ?_⟩
      by_cases hs : sta tx Y.1 59 = true
      · have e : rdS tx z 59 Y.1 = adv tx z Y.1 := if_pos hs
        rw [e]
        have := adv_st (tx := tx) ((h.2.1.2.2.2.1 h0).2) (by unfold sta at hs; simp only [Bool.and_eq_true, beq_iff_eq] at hs; rw [hs.1]; decide)
        omega
      · have e : rdS tx z 59 Y.1 = fai z 1 Y.1 := if_neg hs
        rw [e, (fai_k h0).2.1] at hq; cases hq
    · rw [flt_rdS (h.2.1.2.2.2.2 h0) h0] at hq; exact absurd hq h0
  refine p_aload_n 0 245 rfl rfl dX9_line_244 rfl ?_
  refine p_aload_n 0 246 rfl rfl dX9_line_245 rfl ?_
  refine p_bipush (59) 248 rfl dX9_line_246 rfl ?_
  refine p_cV1i 251 rfl dX9_line_248 (c_isSignA 59) ml_X9_199 vl_X9_isSign rfl (by decide) rfl (Nat.le_of_ble_eq_true rfl) (Nat.le_of_ble_eq_true rfl) rfl ?_
  refine p_cV1v 0 0 254 rfl dX9_line_251 (c_need h.1 h.2.1 (decide (hI σ M0 19 = 3) && decide (hI σ M0 23 = 59))) ml_X9_270 vl_X9_need rfl (by decide) rfl (Nat.le_of_ble_eq_true rfl) (Nat.le_of_ble_eq_true rfl) (Nat.le_of_ble_eq_true rfl) (Nat.le_of_ble_eq_true rfl) rfl ?_
  intro σ1 hp1
  exact p_vret dX9_line_254 rfl ⟨rfl, by rw [show lnOne tx z X = (rdS tx z 59 Y.1, Y.2) by unfold lnOne; rw [hE]]; exact ⟨h.1.fr hp1.2 rfl, by rw [← eR]; exact hp1.1, hfin σ1 hp1.2⟩, hF.tr (hp1.2.up (by decide) (by decide))⟩
theorem rul_true {σ2 : PH} {B : OB} {o ps : List Int32} (hB : RBm σ B o) (e : hI σ2 M0 29 = nI o.length) (ei : ∀ k, k ∈ [25, 26, 27, 28, 30] → hI σ2 M0 k = hI σ M0 k) (ea : ∀ r, r ∈ [nRd, nRl, nWl, nWr, nRw] → hA σ2 r = hA σ r) (hh : hgt 0 ps = some 1) (hk : ∀ t ∈ ps, okSt true t) : RBm σ2 (bRule B true ps) (o ++ encL true ps ++ [0]) := by
  obtain ⟨b1, b2, b3, b4, b5, b6, b7⟩ := hB
  refine ⟨b1, ⟨⟨(ei 25 (by simp)).trans b2.1.1, (ei 26 (by simp)).trans b2.1.2.1, (ei 27 (by simp)).trans b2.1.2.2⟩, (ei 28 (by simp)).trans b2.2.1, b2.2.2⟩, by rw [ea nRw (by simp)]; exact b3, by rw [ea nRl (by simp), ea nRd (by simp)]; exact b4, by rw [ea nWl (by simp), ea nWr (by simp)]; exact b5, ?_, ?_⟩
  · exact ⟨hh, hk, o.length, e, by rw [List.length_append, List.length_append]; show _ ≤ o.length + _ + 1; omega, fun i hi => by rw [List.append_assoc]; exact gD_lr⟩
  · exact (b7.e (ei 30 (by simp))).app.app
theorem rul_false {σ2 : PH} {B : OB} {o ps : List Int32} (hB : RBm σ B o) (e : hI σ2 M0 30 = nI o.length) (ei : ∀ k, k ∈ [25, 26, 27, 28, 29] → hI σ2 M0 k = hI σ M0 k) (ea : ∀ r, r ∈ [nRd, nRl, nWl, nWr, nRw] → hA σ2 r = hA σ r) (hh : hgt 0 ps = some 1) (hk : ∀ t ∈ ps, okSt false t) : RBm σ2 (bRule B false ps) (o ++ encL false ps ++ [0]) := by
  obtain ⟨b1, b2, b3, b4, b5, b6, b7⟩ := hB
  refine ⟨b1, ⟨⟨(ei 25 (by simp)).trans b2.1.1, (ei 26 (by simp)).trans b2.1.2.1, (ei 27 (by simp)).trans b2.1.2.2⟩, (ei 28 (by simp)).trans b2.2.1, b2.2.2⟩, by rw [ea nRw (by simp)]; exact b3, by rw [ea nRl (by simp), ea nRd (by simp)]; exact b4, by rw [ea nWl (by simp), ea nWr (by simp)]; exact b5, ?_, ?_⟩
  · exact (b6.e (ei 29 (by simp))).app.app
  · exact ⟨hh, hk, o.length, e, by rw [List.length_append, List.length_append]; show _ ≤ o.length + _ + 1; omega, fun i hi => by rw [List.append_assoc]; exact gD_lr⟩
set_option maxRecDepth 12000 in
theorem l_line {S : RS} {B : OB} {o : List Int32} (hT : TpM σ tx z) (hR : RdM σ tx z S) (h0 : S.1 = 0) (hc : CO σ o) (hB : RBm σ B o) (hl : o.length ≤ 2 * S.2.2.2.1) : CallOk Γ 12 0 0 mX9_line [.ref M0] σ (rV (fun σ' => LMx σ' tx z (lnOne tx z (S, B)) ∧ Fj [14, 15, 18, 19, 20, 21, 22, 23, 25, 26, 27, 28, 29, 30, 31, 32, 33, 34, 35] [nRd, nRl, nWl, nWr, nRw, rCd, mWt, mTs] σ σ')) := by
  have hz7 := hT.2.1
  have hoz := (hR.2.2.2.1 h0).2.2.2.1
  have hok0 := hB.1.1
  have hok1 := hB.1.2.1
  have hok2 := hB.1.2.2.1
  have hok3 := hB.1.2.2.2.1
  refine p_enter rfl rfl (Nat.le_of_ble_eq_true rfl) rfl ?_
  refine p_aload_n 0 1 rfl rfl dX9_line_0 rfl ?_
  refine p_cV0i 4 rfl dX9_line_1 (c_knownWord hR h0 hz7) ml_X9_186 vl_X9_knownWord rfl (by decide) rfl (Nat.le_of_ble_eq_true rfl) (Nat.le_of_ble_eq_true rfl) rfl ?_
  refine p_ist_n1 5 rfl rfl dX9_line_4 (Nat.le_of_ble_eq_true rfl) rfl ?_
  refine p_iload_n 1 6 rfl rfl dX9_line_5 rfl ?_
  refine p_iconst (2) 7 rfl dX9_line_6 rfl ?_
  refine p_icmp_ne 39 10 rfl rfl dX9_line_7 (fun h7 => ?_) (fun h7 => ?_)
  · refine p_iload_n 1 40 rfl rfl dX9_line_39 rfl ?_
    refine p_bipush (9) 42 rfl dX9_line_40 rfl ?_
    refine p_icmp_ne 74 45 rfl rfl dX9_line_42 (fun h42 => ?_) (fun h42 => ?_)
    · refine p_iload_n 1 75 rfl rfl dX9_line_74 rfl ?_
      refine p_bipush (10) 77 rfl dX9_line_75 rfl ?_
      refine p_icmp_ne 109 80 rfl rfl dX9_line_77 (fun h77 => ?_) (fun h77 => ?_)
      · refine p_iload_n 1 110 rfl rfl dX9_line_109 rfl ?_
        refine p_bipush (11) 112 rfl dX9_line_110 rfl ?_
        refine p_icmp_ne 150 115 rfl rfl dX9_line_112 (fun h112 => ?_) (fun h112 => ?_)
        · refine p_iload_n 1 151 rfl rfl dX9_line_150 rfl ?_
          refine p_bipush (12) 153 rfl dX9_line_151 rfl ?_
          refine p_icmp_ne 195 156 rfl rfl dX9_line_153 (fun h153 => ?_) (fun h153 => ?_)
          · refine p_iload_n 1 196 rfl rfl dX9_line_195 rfl ?_
            refine p_bipush (13) 198 rfl dX9_line_196 rfl ?_
            refine p_icmp_ne 239 201 rfl rfl dX9_line_198 (fun h198 => ?_) (fun h198 => ?_)
            · refine p_aload_n 0 240 rfl rfl dX9_line_239 rfl ?_
              refine p_iconst (1) 241 rfl dX9_line_240 rfl ?_
              refine p_cV1v 0 0 244 rfl dX9_line_241 (c_wrong hR (w := 1) (by decide) (by decide)) ml_X9_168 vl_X9_wrong rfl (by decide) rfl (Nat.le_of_ble_eq_true rfl) (Nat.le_of_ble_eq_true rfl) (Nat.le_of_ble_eq_true rfl) (Nat.le_of_ble_eq_true rfl) rfl ?_
              intro σ2 hp2
              have eA : lnAny tx z (S, B) = (fai z 1 S, B) := by unfold lnAny; rw [if_neg (fun q => h7 (kwS.mpr q)), if_neg (fun q => h42 (kwC.mpr q)), if_neg (fun q => h77 (kwW.mpr q)), if_neg (fun q => h112 (kwK.mpr q)), if_neg (fun q => h153 (kwY.mpr q)), if_neg (fun q => h198 (kwM.mpr q))]
              exact l_l244 eA (LMx.f (hT.fr hp2.2.1 rfl) hp2.1 (by rw [(fai_k h0).2.1]; decide)) (hp2.2.1.up (by decide) (by decide))
            · refine p_aload_n 0 202 rfl rfl dX9_line_201 rfl ?_
              refine p_iconst (0) 203 rfl dX9_line_202 rfl ?_
              refine p_aload_n 0 204 rfl rfl dX9_line_203 rfl ?_
              refine p_getI 9 30 207 rfl dX9_line_204 fl_X9_267 rfl rfl ?_
              refine p_iconst (-1) 208 rfl dX9_line_207 rfl ?_
              refine p_icmp_eq 215 211 rfl rfl dX9_line_208 (fun h208 => ?_) (fun h208 => ?_)
              · refine p_iconst (0) 216 rfl dX9_line_215 rfl ?_
                refine p_cV2x 0 0 219 rfl dX9_line_216 (c_begins hT hR h0 false false) ml_X9_244 vl_X9_begins rfl (by decide) rfl (Nat.le_of_ble_eq_true rfl) (Nat.le_of_ble_eq_true rfl) (Nat.le_of_ble_eq_true rfl) (Nat.le_of_ble_eq_true rfl) rfl ?_
                rintro v1 σ1 ⟨hv1, hr1, hF1⟩
                subst hv1
                have hT1 := hT.fr hF1 rfl
                have hFu : Fj [14, 15, 18, 19, 20, 21, 22, 23, 25, 26, 27, 28, 29, 30, 31, 32, 33, 34, 35] [nRd, nRl, nWl, nWr, nRw, rCd, mWt, mTs] σ σ1 := hF1.up (by decide) (by decide)
                refine p_if_eq 244 222 rfl rfl dX9_line_219 (fun h219 => absurd h219 (by decide)) (fun h219 => ?_)
                have ho0 := (hR.2.2.2.1 h0).2
                have h0a : (adv tx z S).1 = 0 := by rw [adv_f]; exact h0
                have hr1' : RdM σ1 tx z (adv tx z S) := hr1
                have hc1 := hc.fr hF1 rfl rfl
                have hB1 := hB.fr hF1 rfl rfl
                have hsp := kwM.mp h198
                have hst := adv_st (tx := tx) ho0 (by rw [spl_k hsp]; decide)
                have hno : aM B.1 = none := ((hB.2.2.2.2.2.2).n (by omega)).mpr h208
                have hs4 := adv_s4 (tx := tx) ho0 hsp
                rw [sw19] at hs4
                obtain ⟨Z, hZ⟩ : ∃ Z, tirF tx z false 40 0 0 (adv tx z S, []) = Z := ⟨_, rfl⟩
                have eA : lnAny tx z (S, B) = lnRule tx z false (S, B) := by unfold lnAny; rw [if_neg (fun q => h7 (kwS.mpr q)), if_neg (fun q => h42 (kwC.mpr q)), if_neg (fun q => h77 (kwW.mpr q)), if_neg (fun q => h112 (kwK.mpr q)), if_neg (fun q => h153 (kwY.mpr q)), if_pos (kwM.mp h198)]
                refine p_aload_n 0 223 rfl rfl dX9_line_222 rfl ?_
                refine p_aload_n 0 224 rfl rfl dX9_line_223 rfl ?_
                refine p_getIE 9 31 227 rfl dX9_line_224 fl_X9_171 rfl rfl hc1.1 ?_
                refine p_putI 9 30 230 rfl dX9_line_227 fl_X9_267 rfl rfl (Or.inl rfl) ?_
                have hFp : Fj [30] [] σ1 (sI σ1 M0 30 (nI o.length)) := Fj.sI (by simp)
                refine p_aload_n 0 231 rfl rfl dX9_line_230 rfl ?_
                refine p_iconst (0) 232 rfl dX9_line_231 rfl ?_
                refine p_iconst (5) 233 rfl dX9_line_232 rfl ?_
                refine p_cV2v 0 0 236 rfl dX9_line_233 (c_expression (w := false) (hT1.fr hFp rfl) (hr1'.fr hFp rfl rfl) h0a (hc1.fr hFp rfl rfl) (by omega) hZ) ml_X9_263 vl_X9_expression rfl (by decide) rfl (Nat.le_of_ble_eq_true rfl) (Nat.le_of_ble_eq_true rfl) (Nat.le_of_ble_eq_true rfl) (Nat.le_of_ble_eq_true rfl) rfl ?_
                intro σ2 hp2
                refine p_goto 244 rfl dX9_line_236 ?_
                refine l_l244 (eA.trans (lnRule_e hno hZ)) (Y := (Z.1, bRule B false Z.2)) ⟨(hT1.fr hFp rfl).fr hp2.2.2 rfl, hp2.1, fun q => ?_⟩ (hFu.tr ((hFp.up (by decide) (by decide)).tr (hp2.2.2.up (by decide) (by decide))))
                have hq := hp2.2.1 q
                refine ⟨_, hq.1, rul_false hB1 ((hp2.2.2.i (by decide)).trans (hI_sI _ _ _ _)) (fun k hk => ?_) (fun r hr => ?_) hq.2.2.1 hq.2.2.2, hq.2.1⟩
                · have h1 : k ∉ [14, 15, 18, 19, 20, 21, 22, 23, 31, 32, 33, 34, 35] ∧ k ≠ 30 := by
                    simp only [List.mem_cons, List.not_mem_nil, or_false] at hk
                    rcases hk with rfl | rfl | rfl | rfl | rfl <;> exact ⟨by decide, by decide⟩
                  rw [hp2.2.2.i h1.1, hI_sIo (by simp [h1.2])]
                · rw [hp2.2.2.2.2.2.2 r (by simp only [List.mem_cons, List.not_mem_nil, or_false] at hr; rcases hr with rfl | rfl | rfl | rfl | rfl <;> decide)]; rfl
              · refine p_iconst (1) 212 rfl dX9_line_211 rfl ?_
                refine p_goto 216 rfl dX9_line_212 ?_
                refine p_cV2x 0 0 219 rfl dX9_line_216 (c_begins hT hR h0 false true) ml_X9_244 vl_X9_begins rfl (by decide) rfl (Nat.le_of_ble_eq_true rfl) (Nat.le_of_ble_eq_true rfl) (Nat.le_of_ble_eq_true rfl) (Nat.le_of_ble_eq_true rfl) rfl ?_
                rintro v1 σ1 ⟨hv1, hr1, hF1⟩
                subst hv1
                have hT1 := hT.fr hF1 rfl
                have hFu : Fj [14, 15, 18, 19, 20, 21, 22, 23, 25, 26, 27, 28, 29, 30, 31, 32, 33, 34, 35] [nRd, nRl, nWl, nWr, nRw, rCd, mWt, mTs] σ σ1 := hF1.up (by decide) (by decide)
                refine p_if_eq 244 222 rfl rfl dX9_line_219 (fun h219 => ?_) (fun h219 => absurd rfl h219)
                have eA : lnAny tx z (S, B) = lnRule tx z false (S, B) := by unfold lnAny; rw [if_neg (fun q => h7 (kwS.mpr q)), if_neg (fun q => h42 (kwC.mpr q)), if_neg (fun q => h77 (kwW.mpr q)), if_neg (fun q => h112 (kwK.mpr q)), if_neg (fun q => h153 (kwY.mpr q)), if_pos (kwM.mp h198)]
                exact l_l244 (Y := (fai z 5 S, B)) (eA.trans (by unfold lnRule; exact if_neg (show ¬ (if false = true then aY B.1 else aM B.1) = none from fun q => h208 (((hB.2.2.2.2.2.2).n (by omega)).mp q)))) (LMx.f hT1 hr1 (by rw [(fai_k h0).2.1]; decide)) hFu
          · refine p_aload_n 0 157 rfl rfl dX9_line_156 rfl ?_
            refine p_iconst (0) 158 rfl dX9_line_157 rfl ?_
            refine p_aload_n 0 159 rfl rfl dX9_line_158 rfl ?_
            refine p_getI 9 29 162 rfl dX9_line_159 fl_X9_260 rfl rfl ?_
            refine p_iconst (-1) 163 rfl dX9_line_162 rfl ?_
            refine p_icmp_eq 170 166 rfl rfl dX9_line_163 (fun h163 => ?_) (fun h163 => ?_)
            · refine p_iconst (0) 171 rfl dX9_line_170 rfl ?_
              refine p_cV2x 0 0 174 rfl dX9_line_171 (c_begins hT hR h0 false false) ml_X9_244 vl_X9_begins rfl (by decide) rfl (Nat.le_of_ble_eq_true rfl) (Nat.le_of_ble_eq_true rfl) (Nat.le_of_ble_eq_true rfl) (Nat.le_of_ble_eq_true rfl) rfl ?_
              rintro v1 σ1 ⟨hv1, hr1, hF1⟩
              subst hv1
              have hT1 := hT.fr hF1 rfl
              have hFu : Fj [14, 15, 18, 19, 20, 21, 22, 23, 25, 26, 27, 28, 29, 30, 31, 32, 33, 34, 35] [nRd, nRl, nWl, nWr, nRw, rCd, mWt, mTs] σ σ1 := hF1.up (by decide) (by decide)
              refine p_if_eq 244 177 rfl rfl dX9_line_174 (fun h174 => absurd h174 (by decide)) (fun h174 => ?_)
              have ho0 := (hR.2.2.2.1 h0).2
              have h0a : (adv tx z S).1 = 0 := by rw [adv_f]; exact h0
              have hr1' : RdM σ1 tx z (adv tx z S) := hr1
              have hc1 := hc.fr hF1 rfl rfl
              have hB1 := hB.fr hF1 rfl rfl
              have hsp := kwY.mp h153
              have hst := adv_st (tx := tx) ho0 (by rw [spl_k hsp]; decide)
              have hno : aY B.1 = none := ((hB.2.2.2.2.2.1).n (by omega)).mpr h163
              have hs4 := adv_s4 (tx := tx) ho0 hsp
              rw [sw18] at hs4
              obtain ⟨Z, hZ⟩ : ∃ Z, tirF tx z true 40 0 0 (adv tx z S, []) = Z := ⟨_, rfl⟩
              have eA : lnAny tx z (S, B) = lnRule tx z true (S, B) := by unfold lnAny; rw [if_neg (fun q => h7 (kwS.mpr q)), if_neg (fun q => h42 (kwC.mpr q)), if_neg (fun q => h77 (kwW.mpr q)), if_neg (fun q => h112 (kwK.mpr q)), if_pos (kwY.mp h153)]
              refine p_aload_n 0 178 rfl rfl dX9_line_177 rfl ?_
              refine p_aload_n 0 179 rfl rfl dX9_line_178 rfl ?_
              refine p_getIE 9 31 182 rfl dX9_line_179 fl_X9_171 rfl rfl hc1.1 ?_
              refine p_putI 9 29 185 rfl dX9_line_182 fl_X9_260 rfl rfl (Or.inl rfl) ?_
              have hFp : Fj [29] [] σ1 (sI σ1 M0 29 (nI o.length)) := Fj.sI (by simp)
              refine p_aload_n 0 186 rfl rfl dX9_line_185 rfl ?_
              refine p_iconst (4) 187 rfl dX9_line_186 rfl ?_
              refine p_bipush (8) 189 rfl dX9_line_187 rfl ?_
              refine p_cV2v 0 0 192 rfl dX9_line_189 (c_expression (w := true) (hT1.fr hFp rfl) (hr1'.fr hFp rfl rfl) h0a (hc1.fr hFp rfl rfl) (by omega) hZ) ml_X9_263 vl_X9_expression rfl (by decide) rfl (Nat.le_of_ble_eq_true rfl) (Nat.le_of_ble_eq_true rfl) (Nat.le_of_ble_eq_true rfl) (Nat.le_of_ble_eq_true rfl) rfl ?_
              intro σ2 hp2
              refine p_goto 244 rfl dX9_line_192 ?_
              refine l_l244 (eA.trans (lnRule_e hno hZ)) (Y := (Z.1, bRule B true Z.2)) ⟨(hT1.fr hFp rfl).fr hp2.2.2 rfl, hp2.1, fun q => ?_⟩ (hFu.tr ((hFp.up (by decide) (by decide)).tr (hp2.2.2.up (by decide) (by decide))))
              have hq := hp2.2.1 q
              refine ⟨_, hq.1, rul_true hB1 ((hp2.2.2.i (by decide)).trans (hI_sI _ _ _ _)) (fun k hk => ?_) (fun r hr => ?_) hq.2.2.1 hq.2.2.2, hq.2.1⟩
              · have h1 : k ∉ [14, 15, 18, 19, 20, 21, 22, 23, 31, 32, 33, 34, 35] ∧ k ≠ 29 := by
                  simp only [List.mem_cons, List.not_mem_nil, or_false] at hk
                  rcases hk with rfl | rfl | rfl | rfl | rfl <;> exact ⟨by decide, by decide⟩
                rw [hp2.2.2.i h1.1, hI_sIo (by simp [h1.2])]
              · rw [hp2.2.2.2.2.2.2 r (by simp only [List.mem_cons, List.not_mem_nil, or_false] at hr; rcases hr with rfl | rfl | rfl | rfl | rfl <;> decide)]; rfl
            · refine p_iconst (1) 167 rfl dX9_line_166 rfl ?_
              refine p_goto 171 rfl dX9_line_167 ?_
              refine p_cV2x 0 0 174 rfl dX9_line_171 (c_begins hT hR h0 false true) ml_X9_244 vl_X9_begins rfl (by decide) rfl (Nat.le_of_ble_eq_true rfl) (Nat.le_of_ble_eq_true rfl) (Nat.le_of_ble_eq_true rfl) (Nat.le_of_ble_eq_true rfl) rfl ?_
              rintro v1 σ1 ⟨hv1, hr1, hF1⟩
              subst hv1
              have hT1 := hT.fr hF1 rfl
              have hFu : Fj [14, 15, 18, 19, 20, 21, 22, 23, 25, 26, 27, 28, 29, 30, 31, 32, 33, 34, 35] [nRd, nRl, nWl, nWr, nRw, rCd, mWt, mTs] σ σ1 := hF1.up (by decide) (by decide)
              refine p_if_eq 244 177 rfl rfl dX9_line_174 (fun h174 => ?_) (fun h174 => absurd rfl h174)
              have eA : lnAny tx z (S, B) = lnRule tx z true (S, B) := by unfold lnAny; rw [if_neg (fun q => h7 (kwS.mpr q)), if_neg (fun q => h42 (kwC.mpr q)), if_neg (fun q => h77 (kwW.mpr q)), if_neg (fun q => h112 (kwK.mpr q)), if_pos (kwY.mp h153)]
              exact l_l244 (Y := (fai z 5 S, B)) (eA.trans (by unfold lnRule; exact if_neg (show ¬ (if true = true then aY B.1 else aM B.1) = none from fun q => h163 (((hB.2.2.2.2.2.1).n (by omega)).mp q)))) (LMx.f hT1 hr1 (by rw [(fai_k h0).2.1]; decide)) hFu
        · refine p_aload_n 0 116 rfl rfl dX9_line_115 rfl ?_
          refine p_iconst (0) 117 rfl dX9_line_116 rfl ?_
          refine p_aload_n 0 118 rfl rfl dX9_line_117 rfl ?_
          refine p_getI 9 28 121 rfl dX9_line_118 fl_X9_257 rfl rfl ?_
          refine p_iconst (-1) 122 rfl dX9_line_121 rfl ?_
          refine p_icmp_eq 129 125 rfl rfl dX9_line_122 (fun h122 => ?_) (fun h122 => ?_)
          · refine p_iconst (0) 130 rfl dX9_line_129 rfl ?_
            refine p_cV2x 0 0 133 rfl dX9_line_130 (c_begins hT hR h0 false false) ml_X9_244 vl_X9_begins rfl (by decide) rfl (Nat.le_of_ble_eq_true rfl) (Nat.le_of_ble_eq_true rfl) (Nat.le_of_ble_eq_true rfl) (Nat.le_of_ble_eq_true rfl) rfl ?_
            rintro v1 σ1 ⟨hv1, hr1, hF1⟩
            subst hv1
            have hT1 := hT.fr hF1 rfl
            have hFu : Fj [14, 15, 18, 19, 20, 21, 22, 23, 25, 26, 27, 28, 29, 30, 31, 32, 33, 34, 35] [nRd, nRl, nWl, nWr, nRw, rCd, mWt, mTs] σ σ1 := hF1.up (by decide) (by decide)
            refine p_if_eq 244 136 rfl rfl dX9_line_133 (fun h133 => absurd h133 (by decide)) (fun h133 => ?_)
            have ho0 := (hR.2.2.2.1 h0).2
            have h0a : (adv tx z S).1 = 0 := by rw [adv_f]; exact h0
            have hr1' : RdM σ1 tx z (adv tx z S) := hr1
            have hc1 := hc.fr hF1 rfl rfl
            have hB1 := hB.fr hF1 rfl rfl
            have hsp := kwK.mp h112
            have hst := adv_st (tx := tx) ho0 (by rw [spl_k hsp]; decide)
            have hfl : B.2.2.2.2 = false := by
              cases e : B.2.2.2.2 with
              | false => rfl
              | true => exact absurd (hB.2.1.2.1.symm.trans h122) (by rw [e, if_pos rfl]; exact nI_m1 (by omega))
            have eA : lnAny tx z (S, B) = lnSlack tx z (S, B) := by unfold lnAny; rw [if_neg (fun q => h7 (kwS.mpr q)), if_neg (fun q => h42 (kwC.mpr q)), if_neg (fun q => h77 (kwW.mpr q)), if_pos (kwK.mp h112)]
            refine p_aload_n 0 137 rfl rfl dX9_line_136 rfl ?_
            refine p_aload_n 0 138 rfl rfl dX9_line_137 rfl ?_
            refine p_iconst (0) 139 rfl dX9_line_138 rfl ?_
            refine p_bipush (8) 141 rfl dX9_line_139 rfl ?_
            refine p_cV2x 0 0 144 rfl dX9_line_141 (c_number hT1 hr1' (m := 8) (by decide)) ml_X9_227 vl_X9_number rfl (by decide) rfl (Nat.le_of_ble_eq_true rfl) (Nat.le_of_ble_eq_true rfl) (Nat.le_of_ble_eq_true rfl) (Nat.le_of_ble_eq_true rfl) rfl ?_
            rintro v2 σ2 ⟨hr2, hv2, hF2⟩
            refine p_putI 9 28 147 rfl dX9_line_144 fl_X9_257 rfl rfl (Or.inl rfl) ?_
            refine p_goto 244 rfl dX9_line_147 ?_
            have hFp : Fj [28] [] σ2 (sI σ2 M0 28 v2) := Fj.sI (by simp)
            have hB2 := hB1.fr hF2 rfl rfl
            refine l_l244 (eA.trans (by unfold lnSlack; exact if_pos hfl)) (Y := ((rdN tx z 8 (adv tx z S)).2, if (rdN tx z 8 (adv tx z S)).2.1 = 0 then bSlack B (rdN tx z 8 (adv tx z S)).1 else B)) ⟨(hT1.fr hF2 rfl).fr hFp rfl, hr2.fr hFp rfl rfl, fun q => ?_⟩ (hFu.tr ((hF2.up (by decide) (by decide)).tr (hFp.up (by decide) (by decide))))
            have q' : (rdN tx z 8 (adv tx z S)).2.1 = 0 := q
            have hz2 := rdN_0 q'
            refine ⟨o, (hc1.fr hF2 rfl rfl).fr hFp rfl rfl, ?_, ?_⟩
            · show RBm _ (if (rdN tx z 8 (adv tx z S)).2.1 = 0 then bSlack B (rdN tx z 8 (adv tx z S)).1 else B) o
              rw [if_pos q']
              obtain ⟨b1, b2, b3, b4, b5, b6, b7⟩ := hB2
              have ei : ∀ k, k ≠ 28 → hI (sI σ2 M0 28 v2) M0 k = hI σ2 M0 k := fun k hk => hI_sIo (by simp [hk])
              exact ⟨⟨b1.1, b1.2.1, b1.2.2.1, rdN_le _ _ _ _, b1.2.2.2.2.1, b1.2.2.2.2.2⟩, ⟨⟨(ei 25 (by decide)).trans b2.1.1, (ei 26 (by decide)).trans b2.1.2.1, (ei 27 (by decide)).trans b2.1.2.2⟩, (hI_sI _ _ _ _).trans (hv2 q'), fun e => by cases e⟩, b3, b4, b5, b6.e (ei 29 (by decide)), b7.e (ei 30 (by decide))⟩
            · show o.length ≤ 2 * (rdN tx z 8 (adv tx z S)).2.2.2.2.1
              rw [hz2.2.2.2]
              have := adv_st (tx := tx) (adv_ok (tx := tx) ho0) (by rw [hz2.2.1]; decide)
              show o.length ≤ 2 * (adv tx z (adv tx z S)).2.2.2.1
              omega
          · refine p_iconst (1) 126 rfl dX9_line_125 rfl ?_
            refine p_goto 130 rfl dX9_line_126 ?_
            refine p_cV2x 0 0 133 rfl dX9_line_130 (c_begins hT hR h0 false true) ml_X9_244 vl_X9_begins rfl (by decide) rfl (Nat.le_of_ble_eq_true rfl) (Nat.le_of_ble_eq_true rfl) (Nat.le_of_ble_eq_true rfl) (Nat.le_of_ble_eq_true rfl) rfl ?_
            rintro v1 σ1 ⟨hv1, hr1, hF1⟩
            subst hv1
            have hT1 := hT.fr hF1 rfl
            have hFu : Fj [14, 15, 18, 19, 20, 21, 22, 23, 25, 26, 27, 28, 29, 30, 31, 32, 33, 34, 35] [nRd, nRl, nWl, nWr, nRw, rCd, mWt, mTs] σ σ1 := hF1.up (by decide) (by decide)
            refine p_if_eq 244 136 rfl rfl dX9_line_133 (fun h133 => ?_) (fun h133 => absurd rfl h133)
            have eA : lnAny tx z (S, B) = lnSlack tx z (S, B) := by unfold lnAny; rw [if_neg (fun q => h7 (kwS.mpr q)), if_neg (fun q => h42 (kwC.mpr q)), if_neg (fun q => h77 (kwW.mpr q)), if_pos (kwK.mp h112)]
            exact l_l244 (Y := (fai z 5 S, B)) (eA.trans (by unfold lnSlack; exact if_neg (show ¬ B.2.2.2.2 = false from fun q => h122 (by rw [hB.2.1.2.1, q]; rfl)))) (LMx.f hT1 hr1 (by rw [(fai_k h0).2.1]; decide)) hFu
      · refine p_aload_n 0 81 rfl rfl dX9_line_80 rfl ?_
        refine p_aload_n 0 82 rfl rfl dX9_line_81 rfl ?_
        refine p_getIE 9 27 85 rfl dX9_line_82 fl_X9_234 rfl rfl hB.2.1.1.2.2 ?_
        refine p_bipush (12) 87 rfl dX9_line_85 rfl ?_
        refine p_icmp_ne 94 90 rfl rfl dX9_line_87 (fun h87 => ?_) (fun h87 => ?_)
        · refine p_iconst (0) 95 rfl dX9_line_94 rfl ?_
          refine p_iconst (0) 96 rfl dX9_line_95 rfl ?_
          refine p_cV2x 0 0 99 rfl dX9_line_96 (c_begins hT hR h0 false false) ml_X9_244 vl_X9_begins rfl (by decide) rfl (Nat.le_of_ble_eq_true rfl) (Nat.le_of_ble_eq_true rfl) (Nat.le_of_ble_eq_true rfl) (Nat.le_of_ble_eq_true rfl) rfl ?_
          rintro v1 σ1 ⟨hv1, hr1, hF1⟩
          subst hv1
          have hT1 := hT.fr hF1 rfl
          have hFu : Fj [14, 15, 18, 19, 20, 21, 22, 23, 25, 26, 27, 28, 29, 30, 31, 32, 33, 34, 35] [nRd, nRl, nWl, nWr, nRw, rCd, mWt, mTs] σ σ1 := hF1.up (by decide) (by decide)
          refine p_if_eq 244 102 rfl rfl dX9_line_99 (fun h99 => absurd h99 (by decide)) (fun h99 => ?_)
          have ho0 := (hR.2.2.2.1 h0).2
          have h0a : (adv tx z S).1 = 0 := by rw [adv_f]; exact h0
          have hr1' : RdM σ1 tx z (adv tx z S) := hr1
          have hc1 := hc.fr hF1 rfl rfl
          have hB1 := hB.fr hF1 rfl rfl
          have hsp := kwW.mp h77
          have hst := adv_st (tx := tx) ho0 (by rw [spl_k hsp]; decide)
          have hlt : aW B.1 < 12 := (Nat.lt_or_ge (aW B.1) 12).elim id (fun q => absurd (by rw [show aW B.1 = 12 by have := hok2; omega]; rfl) h87)
          have eA : lnAny tx z (S, B) = lnWord tx z (S, B) := by unfold lnAny; rw [if_neg (fun q => h7 (kwS.mpr q)), if_neg (fun q => h42 (kwC.mpr q)), if_pos (kwW.mp h77)]
          refine p_aload_n 0 103 rfl rfl dX9_line_102 rfl ?_
          refine p_cV0v 0 0 106 rfl dX9_line_103 (c_rWord hT1 hr1' h0a (adv_ok ho0) hc1 hB1 (by omega) hlt) ml_X9_254 vl_X9_readsWord rfl (by decide) rfl (Nat.le_of_ble_eq_true rfl) (Nat.le_of_ble_eq_true rfl) (Nat.le_of_ble_eq_true rfl) (Nat.le_of_ble_eq_true rfl) rfl ?_
          intro σ2 hp2
          refine p_goto 244 rfl dX9_line_106 ?_
          exact l_l244 (eA.trans (by unfold lnWord; exact if_pos hlt)) hp2.1 (hFu.tr hp2.2)
        · refine p_iconst (1) 91 rfl dX9_line_90 rfl ?_
          refine p_goto 95 rfl dX9_line_91 ?_
          refine p_iconst (0) 96 rfl dX9_line_95 rfl ?_
          refine p_cV2x 0 0 99 rfl dX9_line_96 (c_begins hT hR h0 true false) ml_X9_244 vl_X9_begins rfl (by decide) rfl (Nat.le_of_ble_eq_true rfl) (Nat.le_of_ble_eq_true rfl) (Nat.le_of_ble_eq_true rfl) (Nat.le_of_ble_eq_true rfl) rfl ?_
          rintro v1 σ1 ⟨hv1, hr1, hF1⟩
          subst hv1
          have hT1 := hT.fr hF1 rfl
          have hFu : Fj [14, 15, 18, 19, 20, 21, 22, 23, 25, 26, 27, 28, 29, 30, 31, 32, 33, 34, 35] [nRd, nRl, nWl, nWr, nRw, rCd, mWt, mTs] σ σ1 := hF1.up (by decide) (by decide)
          refine p_if_eq 244 102 rfl rfl dX9_line_99 (fun h99 => ?_) (fun h99 => absurd rfl h99)
          have eA : lnAny tx z (S, B) = lnWord tx z (S, B) := by unfold lnAny; rw [if_neg (fun q => h7 (kwS.mpr q)), if_neg (fun q => h42 (kwC.mpr q)), if_pos (kwW.mp h77)]
          exact l_l244 (Y := (fai z 2 S, B)) (eA.trans (by unfold lnWord; exact if_neg (show ¬ aW B.1 < 12 by have := nI_eqI (show nI (aW B.1) = nI 12 from h87) (by omega) (by decide); omega))) (LMx.f hT1 hr1 (by rw [(fai_k h0).2.1]; decide)) hFu
    · refine p_aload_n 0 46 rfl rfl dX9_line_45 rfl ?_
      refine p_aload_n 0 47 rfl rfl dX9_line_46 rfl ?_
      refine p_getIE 9 26 50 rfl dX9_line_47 fl_X9_231 rfl rfl hB.2.1.1.2.1 ?_
      refine p_bipush (6) 52 rfl dX9_line_50 rfl ?_
      refine p_icmp_ne 59 55 rfl rfl dX9_line_52 (fun h52 => ?_) (fun h52 => ?_)
      · refine p_iconst (0) 60 rfl dX9_line_59 rfl ?_
        refine p_iconst (0) 61 rfl dX9_line_60 rfl ?_
        refine p_cV2x 0 0 64 rfl dX9_line_61 (c_begins hT hR h0 false false) ml_X9_244 vl_X9_begins rfl (by decide) rfl (Nat.le_of_ble_eq_true rfl) (Nat.le_of_ble_eq_true rfl) (Nat.le_of_ble_eq_true rfl) (Nat.le_of_ble_eq_true rfl) rfl ?_
        rintro v1 σ1 ⟨hv1, hr1, hF1⟩
        subst hv1
        have hT1 := hT.fr hF1 rfl
        have hFu : Fj [14, 15, 18, 19, 20, 21, 22, 23, 25, 26, 27, 28, 29, 30, 31, 32, 33, 34, 35] [nRd, nRl, nWl, nWr, nRw, rCd, mWt, mTs] σ σ1 := hF1.up (by decide) (by decide)
        refine p_if_eq 244 67 rfl rfl dX9_line_64 (fun h64 => absurd h64 (by decide)) (fun h64 => ?_)
        have ho0 := (hR.2.2.2.1 h0).2
        have h0a : (adv tx z S).1 = 0 := by rw [adv_f]; exact h0
        have hr1' : RdM σ1 tx z (adv tx z S) := hr1
        have hc1 := hc.fr hF1 rfl rfl
        have hB1 := hB.fr hF1 rfl rfl
        have hsp := kwC.mp h42
        have hst := adv_st (tx := tx) ho0 (by rw [spl_k hsp]; decide)
        have hlt : aC B.1 < 6 := (Nat.lt_or_ge (aC B.1) 6).elim id (fun q => absurd (by rw [show aC B.1 = 6 by have := hok1; omega]; rfl) h52)
        have eA : lnAny tx z (S, B) = lnClerk tx z (S, B) := by unfold lnAny; rw [if_neg (fun q => h7 (kwS.mpr q)), if_pos (kwC.mp h42)]
        refine p_aload_n 0 68 rfl rfl dX9_line_67 rfl ?_
        refine p_cV0v 0 0 71 rfl dX9_line_68 (c_rClerk hT1 hr1' h0a (adv_ok ho0) hc1 hB1 (by omega) hlt) ml_X9_251 vl_X9_readsClerk rfl (by decide) rfl (Nat.le_of_ble_eq_true rfl) (Nat.le_of_ble_eq_true rfl) (Nat.le_of_ble_eq_true rfl) (Nat.le_of_ble_eq_true rfl) rfl ?_
        intro σ2 hp2
        refine p_goto 244 rfl dX9_line_71 ?_
        exact l_l244 (eA.trans (by unfold lnClerk; exact if_pos hlt)) hp2.1 (hFu.tr hp2.2)
      · refine p_iconst (1) 56 rfl dX9_line_55 rfl ?_
        refine p_goto 60 rfl dX9_line_56 ?_
        refine p_iconst (0) 61 rfl dX9_line_60 rfl ?_
        refine p_cV2x 0 0 64 rfl dX9_line_61 (c_begins hT hR h0 true false) ml_X9_244 vl_X9_begins rfl (by decide) rfl (Nat.le_of_ble_eq_true rfl) (Nat.le_of_ble_eq_true rfl) (Nat.le_of_ble_eq_true rfl) (Nat.le_of_ble_eq_true rfl) rfl ?_
        rintro v1 σ1 ⟨hv1, hr1, hF1⟩
        subst hv1
        have hT1 := hT.fr hF1 rfl
        have hFu : Fj [14, 15, 18, 19, 20, 21, 22, 23, 25, 26, 27, 28, 29, 30, 31, 32, 33, 34, 35] [nRd, nRl, nWl, nWr, nRw, rCd, mWt, mTs] σ σ1 := hF1.up (by decide) (by decide)
        refine p_if_eq 244 67 rfl rfl dX9_line_64 (fun h64 => ?_) (fun h64 => absurd rfl h64)
        have eA : lnAny tx z (S, B) = lnClerk tx z (S, B) := by unfold lnAny; rw [if_neg (fun q => h7 (kwS.mpr q)), if_pos (kwC.mp h42)]
        exact l_l244 (Y := (fai z 2 S, B)) (eA.trans (by unfold lnClerk; exact if_neg (show ¬ aC B.1 < 6 by have := nI_eqI (show nI (aC B.1) = nI 6 from h52) (by omega) (by decide); omega))) (LMx.f hT1 hr1 (by rw [(fai_k h0).2.1]; decide)) hFu
  · refine p_aload_n 0 11 rfl rfl dX9_line_10 rfl ?_
    refine p_aload_n 0 12 rfl rfl dX9_line_11 rfl ?_
    refine p_getIE 9 25 15 rfl dX9_line_12 fl_X9_224 rfl rfl hB.2.1.1.1 ?_
    refine p_bipush (9) 17 rfl dX9_line_15 rfl ?_
    refine p_icmp_ne 24 20 rfl rfl dX9_line_17 (fun h17 => ?_) (fun h17 => ?_)
    · refine p_iconst (0) 25 rfl dX9_line_24 rfl ?_
      refine p_iconst (0) 26 rfl dX9_line_25 rfl ?_
      refine p_cV2x 0 0 29 rfl dX9_line_26 (c_begins hT hR h0 false false) ml_X9_244 vl_X9_begins rfl (by decide) rfl (Nat.le_of_ble_eq_true rfl) (Nat.le_of_ble_eq_true rfl) (Nat.le_of_ble_eq_true rfl) (Nat.le_of_ble_eq_true rfl) rfl ?_
      rintro v1 σ1 ⟨hv1, hr1, hF1⟩
      subst hv1
      have hT1 := hT.fr hF1 rfl
      have hFu : Fj [14, 15, 18, 19, 20, 21, 22, 23, 25, 26, 27, 28, 29, 30, 31, 32, 33, 34, 35] [nRd, nRl, nWl, nWr, nRw, rCd, mWt, mTs] σ σ1 := hF1.up (by decide) (by decide)
      refine p_if_eq 244 32 rfl rfl dX9_line_29 (fun h29 => absurd h29 (by decide)) (fun h29 => ?_)
      have ho0 := (hR.2.2.2.1 h0).2
      have h0a : (adv tx z S).1 = 0 := by rw [adv_f]; exact h0
      have hr1' : RdM σ1 tx z (adv tx z S) := hr1
      have hc1 := hc.fr hF1 rfl rfl
      have hB1 := hB.fr hF1 rfl rfl
      have hsp := kwS.mp h7
      have hst := adv_st (tx := tx) ho0 (by rw [spl_k hsp]; decide)
      have hlt : aS B.1 < 9 := (Nat.lt_or_ge (aS B.1) 9).elim id (fun q => absurd (by rw [show aS B.1 = 9 by have := hok0; omega]; rfl) h17)
      have eA : lnAny tx z (S, B) = lnSheet tx z (S, B) := by unfold lnAny; rw [if_pos (kwS.mp h7)]
      refine p_aload_n 0 33 rfl rfl dX9_line_32 rfl ?_
      refine p_cV0v 0 0 36 rfl dX9_line_33 (c_rSheet hT1 hr1' (adv_ok ho0) hc1 hB1 (by omega) hlt) ml_X9_248 vl_X9_readsSheet rfl (by decide) rfl (Nat.le_of_ble_eq_true rfl) (Nat.le_of_ble_eq_true rfl) (Nat.le_of_ble_eq_true rfl) (Nat.le_of_ble_eq_true rfl) rfl ?_
      intro σ2 hp2
      refine p_goto 244 rfl dX9_line_36 ?_
      exact l_l244 (eA.trans (by unfold lnSheet; exact if_pos hlt)) hp2.1 (hFu.tr hp2.2)
    · refine p_iconst (1) 21 rfl dX9_line_20 rfl ?_
      refine p_goto 25 rfl dX9_line_21 ?_
      refine p_iconst (0) 26 rfl dX9_line_25 rfl ?_
      refine p_cV2x 0 0 29 rfl dX9_line_26 (c_begins hT hR h0 true false) ml_X9_244 vl_X9_begins rfl (by decide) rfl (Nat.le_of_ble_eq_true rfl) (Nat.le_of_ble_eq_true rfl) (Nat.le_of_ble_eq_true rfl) (Nat.le_of_ble_eq_true rfl) rfl ?_
      rintro v1 σ1 ⟨hv1, hr1, hF1⟩
      subst hv1
      have hT1 := hT.fr hF1 rfl
      have hFu : Fj [14, 15, 18, 19, 20, 21, 22, 23, 25, 26, 27, 28, 29, 30, 31, 32, 33, 34, 35] [nRd, nRl, nWl, nWr, nRw, rCd, mWt, mTs] σ σ1 := hF1.up (by decide) (by decide)
      refine p_if_eq 244 32 rfl rfl dX9_line_29 (fun h29 => ?_) (fun h29 => absurd rfl h29)
      have eA : lnAny tx z (S, B) = lnSheet tx z (S, B) := by unfold lnAny; rw [if_pos (kwS.mp h7)]
      exact l_l244 (Y := (fai z 2 S, B)) (eA.trans (by unfold lnSheet; exact if_neg (show ¬ aS B.1 < 9 by have := nI_eqI (show nI (aS B.1) = nI 9 from h17) (by omega) (by decide); omega))) (LMx.f hT1 hr1 (by rw [(fai_k h0).2.1]; decide)) hFu
theorem c_line {X : LX} (h : LMx σ tx z X) (h0 : X.1.1 = 0) : CallOk Γ 12 0 0 mX9_line [.ref M0] σ (rV (fun σ' => LMx σ' tx z (lnOne tx z X) ∧ Fj [14, 15, 18, 19, 20, 21, 22, 23, 25, 26, 27, 28, 29, 30, 31, 32, 33, 34, 35] [nRd, nRl, nWl, nWr, nRw, rCd, mWt, mTs] σ σ')) := by
  obtain ⟨o, hc, hB, hl⟩ := h.2.2 h0
  exact l_line h.1 h.2.1 h0 hc hB hl
end Cae
