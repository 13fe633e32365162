/-! ===== office ===== -/
def vNew (σ : PH) (o : Nat) : AW := (0, fun s => iN (hA σ (oL o) s), fun s => iN (hA σ (oR o) s), fun s => iN (hA σ (oH o) s) + 1, fun _ => 0)
theorem pI_s (n : Nat) : pI (n + 1) = nI n := by unfold pI; exact nI_pred n
theorem nwW_new {σ : PH} {o : Nat} {B : OB} (h : RpB σ o B) : nwW B (vNew σ o) := by
  refine ⟨rfl, fun s hs => ?_, fun _ => rfl⟩
  have he := h.2.1 s hs
  show iN (hA σ (oL o) s) = _ ∧ iN (hA σ (oR o) s) = _ ∧ iN (hA σ (oH o) s) + 1 = _
  rw [he.1, he.2.1, he.2.2.1, iN_nI (by omega), iN_nI (by omega), iN_nI (by omega)]
  exact ⟨rfl, rfl, rfl⟩
theorem vNew_be {σ σ' : PH} {o : Nat} (h : BE σ o) (e : ∀ r, hA σ' r = hA σ r) : vD (vNew σ o) = 0 ∧ (∀ s, s < 9 → hA σ' (oL o) s = nI (vL (vNew σ o) s) ∧ hA σ' (oR o) s = nI (vR (vNew σ o) s) ∧ hA σ' (oH o) s = pI (vP (vNew σ o) s)) ∧ ∀ c, c < 6 → vK (vNew σ o) c = 0 := by
  refine ⟨rfl, fun s hs => ?_, fun _ _ => rfl⟩
  obtain ⟨⟨x, h1, h2⟩, ⟨y, h3, h4⟩, w, h5, h6⟩ := h s hs
  show _ = nI (iN (hA σ (oL o) s)) ∧ _ = nI (iN (hA σ (oR o) s)) ∧ _ = pI (iN (hA σ (oH o) s) + 1)
  rw [e, e, e, pI_s, h2, h4, h6, iN_nI (by omega), iN_nI (by omega), iN_nI (by omega)]
  exact ⟨rfl, rfl, rfl⟩
theorem vNew_ok {σ : PH} {o : Nat} {O : AO} (h : BE σ o) (hs : aS O ≤ 9) : OkU O (vNew σ o) := by
  have hb : ∀ s, s < 9 → iN (hA σ (oL o) s) < 256 ∧ iN (hA σ (oR o) s) < 256 ∧ iN (hA σ (oH o) s) < 4 := by
    intro s hs
    obtain ⟨⟨x, h1, h2⟩, ⟨y, h3, h4⟩, w, h5, h6⟩ := h s hs
    rw [h2, h4, h6, iN_nI (by omega), iN_nI (by omega), iN_nI (by omega)]
    exact ⟨h1, h3, h5⟩
  refine ⟨⟨Nat.zero_le _, fun s q => ?_, fun s q => ?_, fun c q => by show 0 < 4096; decide⟩, Nat.zero_le _⟩
  · have := hb s q
    refine ⟨this.1, this.2.1, ?_⟩
    show iN (hA σ (oH o) s) + 1 < 11
    omega
  · have := hb s (by omega)
    show iN (hA σ (oH o) s) + 1 < 5 + aC O
    omega
theorem ch1 (σ : PH) (k : Nat) (v : Int32) : Ch (inS [1]) σ (sI σ T0 k v) := Fr.ch (XI := [(T0, k)]) (X := []) (Fr.sI (by simp)) (by simp only [List.all_cons, List.all_nil, Bool.and_true]; decide) rfl
theorem ch1r {σ : PH} {k v : Nat} (h : (T0, k) ∈ XR0) : Ch (inS [1]) σ (sR σ T0 k v) := by
  refine ⟨rfl, rfl, rfl, fun r q hk => hR_sRo (fun e => hk (by rw [e]; exact h)), fun r hr => ⟨rfl, rfl, va_upo (fun e => ?_)⟩⟩
  rw [e] at hr; exact absurd hr (by decide)
section C71
variable {Γ : Gm} {σ : PH} {o o' : Nat} {A : AT}
theorem inS_f {S : List Nat} {s : Nat} (hS : S.all (fun s => decide (s < 72)) = true) (hs : cls s = false) : inS S s = false := by
  cases e : inS S s with
  | false => rfl
  | true =>
    have h1 := List.all_eq_true.mp hS s (by simpa [inS] using e)
    rw [show decide (s < 72) = false from hs] at h1; cases h1
set_option maxRecDepth 8000 in
theorem l_off71 (hT : IT σ o o' A) {n nn : Nat} (hn : n ≤ tN A) (hn7 : n ≤ 700) {σ2 : PH} {x2 : Option Value} (hL : RLn σ2 (tB A) n o' (rdAll (tB A) n nn)) (hc2 : Ch (inS (sRd o')) (sI σ T0 1 0) σ2) : Ok Γ 54 8 48 mX8_office 71 [some (.ref T0), some (.int (nI n)), x2] [] σ2 (rS (fOff A nn (nI n)) true (fun σ' => ∃ o1 o2 A', IT σ' o1 o2 A' ∧ nOff A nn (nI n) A' ∧ Ch cls σ σ')) := by
  have hS := hT.1
  have hK := hT.2.1
  have hto : hR σ T0 3 = o := hT.2.2.1.2.2.1
  have hQ := hT.2.2.2.1
  have ho := hQ.1
  have hw := hT.2.2.2.2.1.1
  have hwo := hT.2.2.2.2.1.2
  have hv := hK.2.2.2.2.1.1
  have hd9 := hK.2.2.2.2.1.2
  have hY := hK.2.2.2.1
  have hO := hK.2.2.1
  have hs9 := hO.1
  have hc6 := hO.2.1
  have hw12 := hO.2.2.1
  have hk8 := hO.2.2.2.1
  have hO' := hT.2.2.1.1
  have hoo := hT.2.2.1.2.1
  have hO1 := ho.1.1
  have htN := hK.1
  have hbn : btw (nI n) 0 (tN A) = true := by unfold btw; simp only [Bool.and_eq_true, decide_eq_true_eq]; exact ⟨nI_le (Nat.zero_le _) (by omega), nI_le hn (by omega)⟩
  have hiN : iN (nI n) = n := iN_nI (by omega)
  have hnS : inS (sRd o') 1 = false := by rcases hO' with rfl | rfl <;> rfl
  have hc0 : Ch (inS (1 :: sRd o')) σ σ2 := ((ch1 σ 1 0).more (by simp)).tr (hc2.more (List.all_eq_true.mpr (fun s hs => by rw [List.contains_eq_mem]; exact decide_eq_true (List.mem_cons_of_mem _ hs))))
  have t2 := hc2.2.2.2.2 T0 hnS
  have hr2 : ∀ k, hR σ2 T0 k = hR σ T0 k := fun k => by rw [t2.2.2]; rfl
  refine p_aload_n 0 72 rfl rfl dX8_office_71 rfl ?_
  refine p_getR 8 5 75 rfl dX8_office_72 fl_X8_35 rfl rfl ((hr2 5).trans (hS.2.1)) (by decide) ?_
  refine p_getIE 5 0 78 rfl dX8_office_75 fl_X8_121 rfl rfl (show hI σ2 R0 0 = nI (rdAll (tB A) n nn).1.1 from hL.2.1.1) ?_
  refine p_if_eq 110 81 rfl rfl dX8_office_78 (fun h78 => ?_) (fun h78 => ?_)
  · have hf : (rdAll (tB A) n nn).1.1 = 0 := (Nat.eq_zero_or_pos _).elim id (fun q => absurd h78 (nI_ne0 q (by have := hL.2.2.1.1; omega)))
    refine p_aload_n 0 111 rfl rfl dX8_office_110 rfl ?_
    refine p_iconst (-1) 112 rfl dX8_office_111 rfl ?_
    refine p_putI 8 2 115 rfl dX8_office_112 fl_X8_17 rfl rfl (Or.inl rfl) ?_
    refine p_aload_n 0 116 rfl rfl dX8_office_115 rfl ?_
    refine p_getR 8 3 119 rfl dX8_office_116 fl_X8_23 rfl rfl ((hr2 3).trans hto) ho.1.1.ne0 ?_
    refine p_ast_n2 120 rfl rfl dX8_office_119 (Nat.le_of_ble_eq_true rfl) rfl ?_
    refine p_aload_n 0 121 rfl rfl dX8_office_120 rfl ?_
    refine p_aload_n 0 122 rfl rfl dX8_office_121 rfl ?_
    refine p_getR 8 4 125 rfl dX8_office_122 fl_X8_27 rfl rfl ((hr2 4).trans hT.2.2.1.2.2.2.1) hO'.ne0 ?_
    refine p_putR 8 3 128 rfl dX8_office_125 fl_X8_23 rfl rfl hO'.ne0 (Or.inl rfl) ?_
    refine p_aload_n 0 129 rfl rfl dX8_office_128 rfl ?_
    refine p_aload_n 2 130 rfl rfl dX8_office_129 rfl ?_
    refine p_putR 8 4 133 rfl dX8_office_130 fl_X8_27 rfl rfl ho.1.1.ne0 (Or.inl rfl) ?_
    refine p_aload_n 0 134 rfl rfl dX8_office_133 rfl ?_
    refine p_getR 8 6 137 rfl dX8_office_134 fl_X8_44 rfl rfl ((hR_sRo (σ := sR (sI σ2 T0 2 (-1)) T0 3 o') (r := T0) (k := 4) (r' := T0) (k' := 6) (v := o) (by intro e; cases e)).trans ((hR_sRo (σ := sI σ2 T0 2 (-1)) (r := T0) (k := 3) (r' := T0) (k' := 6) (v := o') (by intro e; cases e)).trans ((hr2 6).trans (hS.2.2.1)))) (by decide) ?_
    refine p_aload_n 0 138 rfl rfl dX8_office_137 rfl ?_
    refine p_getR 8 3 141 rfl dX8_office_138 fl_X8_23 rfl rfl ((hR_sRo (σ := sR (sI σ2 T0 2 (-1)) T0 3 o') (r := T0) (k := 4) (r' := T0) (k' := 3) (v := o) (by intro e; cases e)).trans (hR_sR _ _ _ _)) hO'.ne0 ?_
    have hst4 : StO (sR (sR (sI σ2 T0 2 (-1)) T0 3 o') T0 4 o) o' := hL.2.2.2.2.1.1.1.ch (((ch1 _ _ _).tr (ch1r (by decide))).tr (ch1r (by decide)))
    have hw4 : StW (sR (sR (sI σ2 T0 2 (-1)) T0 3 o') T0 4 o) wN := hw.1.ch (hc0.mono (fun s hs => hs) |>.more (Y := [1, 32] ++ sRd o') (by rcases hO' with rfl | rfl <;> decide) |>.tr ((((ch1 _ _ _).tr (ch1r (by decide))).tr (ch1r (by decide))).more (by rcases hO' with rfl | rfl <;> decide)))
    refine p_cV1v 0 0 144 rfl dX8_office_141 (c_begW (V := vNew σ2 o') hst4 hw4 (vNew_be hL.2.2.2.2.2.2.2.2.2 (fun _ => rfl))) ml_X8_125 vl_X7_begin rfl (by decide) rfl (Nat.le_of_ble_eq_true rfl) (Nat.le_of_ble_eq_true rfl) (Nat.le_of_ble_eq_true rfl) (Nat.le_of_ble_eq_true rfl) rfl ?_
    intro σ4 hpW
    have cW : Ch (inS [32, 33, 34, 35, 36]) (sR (sR (sI σ2 T0 2 (-1)) T0 3 o') T0 4 o) σ4 := hpW.2.2.ch (by decide) (by decide) (by decide) (by decide)
    have hT4 : ∀ k, hR σ4 T0 k = hR (sR (sR (sI σ2 T0 2 (-1)) T0 3 o') T0 4 o) T0 k := fun k => by rw [(cW.2.2.2.2 T0 rfl).2.2]
    have hq8 : hR (sR (sR (sI σ2 T0 2 (-1)) T0 3 o') T0 4 o) T0 8 = 11534336 := (hR_sRo (by intro e; cases e)).trans ((hR_sRo (by intro e; cases e)).trans ((hr2 8).trans (hS.2.2.2.2.1)))
    have hq9 : hR (sR (sR (sI σ2 T0 2 (-1)) T0 3 o') T0 4 o) T0 9 = 12058627 := (hR_sRo (by intro e; cases e)).trans ((hR_sRo (by intro e; cases e)).trans ((hr2 9).trans (hS.2.2.2.2.2.1)))
    have c24 : Ch (inS ([1, 31, 32, 33, 34, 35, 36] ++ sO o')) σ σ4 := (hc0.more (by rcases hO' with rfl | rfl <;> decide)).tr ((((ch1 σ2 2 (-1)).tr (ch1r (by decide))).tr (ch1r (by decide))).more (Y := [1, 31, 32, 33, 34, 35, 36] ++ sO o') (by rcases hO' with rfl | rfl <;> decide) |>.tr (cW.more (by rcases hO' with rfl | rfl <;> decide)))
    have hA4 := hT.2.2.2.2.2.2.1.ch c24 (by rcases hO' with rfl | rfl <;> decide)
    have hH4 := hT.2.2.2.2.2.2.2.1.1.ch c24
    refine p_aload_n 0 145 rfl rfl dX8_office_144 rfl ?_
    refine p_getR 8 8 148 rfl dX8_office_145 fl_X8_54 rfl rfl ((hT4 8).trans (hq8)) (by decide) ?_
    refine p_cV0v 0 0 151 rfl dX8_office_148 (c_Aclear hA4) ml_X8_127 vl_X0_clear rfl (by decide) rfl (Nat.le_of_ble_eq_true rfl) (Nat.le_of_ble_eq_true rfl) (Nat.le_of_ble_eq_true rfl) (Nat.le_of_ble_eq_true rfl) rfl ?_
    intro σ5 hpA
    have cA : Ch (inS [44]) σ4 σ5 := hpA.2.ch (by decide) rfl
    have hT5 : ∀ k, hR σ5 T0 k = hR (sR (sR (sI σ2 T0 2 (-1)) T0 3 o') T0 4 o) T0 k := fun k => by rw [(cA.2.2.2.2 T0 rfl).2.2, (cW.2.2.2.2 T0 rfl).2.2]
    refine p_aload_n 0 152 rfl rfl dX8_office_151 rfl ?_
    refine p_getR 8 9 155 rfl dX8_office_152 fl_X8_61 rfl rfl ((hT5 9).trans (hq9)) (by decide) ?_
    refine p_cV0v 0 0 158 rfl dX8_office_155 (c_Hclear (hH4.ch cA)) ml_X8_130 vl_X3_clear rfl (by decide) rfl (Nat.le_of_ble_eq_true rfl) (Nat.le_of_ble_eq_true rfl) (Nat.le_of_ble_eq_true rfl) (Nat.le_of_ble_eq_true rfl) rfl ?_
    intro σ6 hpH
    refine p_aload_n 0 159 rfl rfl dX8_office_158 rfl ?_
    refine p_iconst (0) 160 rfl dX8_office_159 rfl ?_
    refine p_putZ 8 10 163 rfl dX8_office_160 fl_X8_65 rfl rfl (by first | exact Or.inl rfl | exact Or.inr rfl | assumption) (Or.inl rfl) ?_
    refine p_iconst (0) 164 rfl dX8_office_163 rfl ?_
    exact p_iret dX8_office_164 rfl ⟨by simp only [fOff, gd, hbn, if_true, hiN, hf]; rfl, o', o, uO A (rdAll (tB A) n nn).2.1 (vNew σ2 o'), by
    have cA : Ch (inS [44]) σ4 σ5 := hpA.2.ch (by decide) rfl
    have cH : Ch (inS [46]) σ5 σ6 := hpH.2.ch (by decide) rfl
    have cW : Ch (inS [32, 33, 34, 35, 36]) (sR (sR (sI σ2 T0 2 (-1)) T0 3 o') T0 4 o) σ4 := hpW.2.2.ch (by decide) (by decide) (by decide) (by decide)
    have c4 : Ch (inS [1]) σ2 (sR (sR (sI σ2 T0 2 (-1)) T0 3 o') T0 4 o) := ((ch1 _ _ _).tr (ch1r (by decide))).tr (ch1r (by decide))
    have c27 : Ch (inS [1, 32, 33, 34, 35, 36, 44, 46]) σ2 (sI σ6 T0 10 0) := ((((c4.more (by decide)).tr (cW.more (by decide))).tr (cA.more (by decide))).tr (cH.more (by decide))).tr ((ch1 _ _ _).more (by decide))
    have hc7 : Ch (inS ([1, 31, 32, 33, 34, 35, 36, 44, 46] ++ sO o')) σ (sI σ6 T0 10 0) := (hc0.more (by rcases hO' with rfl | rfl <;> decide)).tr (c27.more (by rcases hO' with rfl | rfl <;> decide))
    have hB := hL.2.2.2.2
    have hb2 : BE (sI σ6 T0 10 0) o' := by
      have q : ∀ r, r = oL o' ∨ r = oR o' ∨ r = oH o' → hA (sI σ6 T0 10 0) r = hA σ2 r := by
        intro r hr
        rcases hO' with rfl | rfl <;> rcases hr with rfl | rfl | rfl <;> exact (c27.2.2.2.2 _ rfl).2.1
      exact hB.2.2.2.2.2.eq (q _ (by simp)) (q _ (by simp)) (q _ (by simp))
    have hb1 : BE (sI σ6 T0 10 0) o := by
      have hb0 : BE σ o := by rcases hO1 with rfl | rfl; exact hT.2.2.1.2.2.2.2.2.1; exact hT.2.2.1.2.2.2.2.2.2
      have q : ∀ r, r = oL o ∨ r = oR o ∨ r = oH o → hA (sI σ6 T0 10 0) r = hA σ r := by
        intro r hr
        rcases hO1 with rfl | rfl <;> rcases hO' with rfl | rfl <;> first | exact absurd rfl hoo | (rcases hr with rfl | rfl | rfl <;> exact (hc7.2.2.2.2 _ rfl).2.1)
      exact hb0.eq (q _ (by simp)) (q _ (by simp)) (q _ (by simp))
    have r6 : ∀ k, hI σ6 T0 k = hI (sR (sR (sI σ2 T0 2 (-1)) T0 3 o') T0 4 o) T0 k := fun k => by rw [(cH.2.2.2.2 T0 rfl).1, (cA.2.2.2.2 T0 rfl).1, (cW.2.2.2.2 T0 rfl).1]
    have rT : hR (sI σ6 T0 10 0) T0 = hR (sR (sR (sI σ2 T0 2 (-1)) T0 3 o') T0 4 o) T0 := by show hR σ6 T0 = _; rw [(cH.2.2.2.2 T0 rfl).2.2, (cA.2.2.2.2 T0 rfl).2.2, (cW.2.2.2.2 T0 rfl).2.2]
    have r70 : hA (sI σ6 T0 10 0) 18350192 = hA σ 18350192 := (hc7.2.2.2.2 18350192 (by rcases hO' with rfl | rfl <;> rfl)).2.1
    have hYb : OkY (rdAll (tB A) n nn).2.1 := lnsF_Y 700 _ (fun ps hps => by cases hps)
    refine ⟨hT.1.ch hc7, ⟨Nat.zero_le _, hK.2.1, hB.1.1.2.1, hYb, vNew_ok hB.2.2.2.2.2 hB.1.1.2.1.1, Nat.zero_le _, (fun V hV => by cases hV), ⟨Nat.zero_le _, fun q hq => by cases hq⟩, trivial⟩, ⟨hO1, fun e => hoo e.symm, ?_, ?_, ho.1.ch hc7, ?_, ?_⟩, hB.1.ch c27 (by rcases hO' with rfl | rfl <;> decide), ⟨?_, ?_⟩, ⟨hT.2.2.2.2.2.1.1.ch hc7, hT.2.2.2.2.2.1.2.ch hc7⟩, ?_, ?_, hI_sI _ _ _ _, ⟨?_, hT.2.2.2.2.2.2.2.2.2.1.2.ch hc7⟩, ⟨?_, ?_, fun i hi => absurd hi (Nat.not_lt_zero _)⟩, ?_⟩
    · rw [rT, hR_sRo (by intro e; cases e), hR_sR]
    · rw [rT, hR_sR]
    · rcases hO1 with rfl | rfl <;> rcases hO' with rfl | rfl <;> first | exact absurd rfl hoo | assumption
    · rcases hO1 with rfl | rfl <;> rcases hO' with rfl | rfl <;> first | exact absurd rfl hoo | assumption
    · exact hpW.1.ch ((cA.more (Y := [1, 44, 46]) (by decide)).tr ((cH.more (by decide)).tr ((ch1 _ _ _).more (by decide)))) (by decide)
    · show hR σ6 wN 0 = o'
      rw [(cH.2.2.2.2 wN rfl).2.2, (cA.2.2.2.2 wN rfl).2.2]; exact hpW.2.1
    · exact hpA.1.ch ((cH.more (Y := [1, 46]) (by decide)).tr ((ch1 _ _ _).more (by decide))) (by decide)
    · exact hpH.1.ch (ch1 _ _ _) (by decide)
    · obtain ⟨l, hl⟩ := hT.2.2.2.2.2.2.2.2.2.1.1
      exact ⟨l, hl.ch hc7 (by rcases hO' with rfl | rfl <;> decide)⟩
    · rw [hI_sIo (by intro e; cases e), r6]
      show hI (sI σ2 T0 2 (-1)) T0 1 = _
      rw [hI_sIo (by intro e; cases e), t2.1, hI_sI]; rfl
    · rw [hI_sIo (by intro e; cases e), r6]
      show hI (sI σ2 T0 2 (-1)) T0 2 = _
      rw [hI_sI]; rfl
    · rw [r70]; exact hT.2.2.2.2.2.2.2.2.2.2.2, by
    unfold nOff; rw [hbn, hiN, if_pos rfl, if_pos hf]; exact ⟨_, nwW_new hL.2.2.2.2, rfl⟩, by
    have cA : Ch (inS [44]) σ4 σ5 := hpA.2.ch (by decide) rfl
    have cH : Ch (inS [46]) σ5 σ6 := hpH.2.ch (by decide) rfl
    have cW : Ch (inS [32, 33, 34, 35, 36]) (sR (sR (sI σ2 T0 2 (-1)) T0 3 o') T0 4 o) σ4 := hpW.2.2.ch (by decide) (by decide) (by decide) (by decide)
    have c4 : Ch (inS [1]) σ2 (sR (sR (sI σ2 T0 2 (-1)) T0 3 o') T0 4 o) := ((ch1 _ _ _).tr (ch1r (by decide))).tr (ch1r (by decide))
    have c27 : Ch (inS [1, 32, 33, 34, 35, 36, 44, 46]) σ2 (sI σ6 T0 10 0) := ((((c4.more (by decide)).tr (cW.more (by decide))).tr (cA.more (by decide))).tr (cH.more (by decide))).tr ((ch1 _ _ _).more (by decide))
    refine (hc0.mono ?_).tr (c27.mono ?_)
    · intro s hs
      exact inS_f (by rcases hO' with rfl | rfl <;> decide) hs
    · intro s hs
      exact inS_f (by decide) hs⟩
  · refine p_aload_n 0 82 rfl rfl dX8_office_81 rfl ?_
    refine p_aload_n 0 83 rfl rfl dX8_office_82 rfl ?_
    refine p_getR 8 5 86 rfl dX8_office_83 fl_X8_35 rfl rfl ((hr2 5).trans (hS.2.1)) (by decide) ?_
    refine p_getIE 5 1 89 rfl dX8_office_86 fl_X8_124 rfl rfl (show hI σ2 R0 1 = (rdAll (tB A) n nn).1.2.1 from hL.2.1.2.1) ?_
    refine p_putI 8 2 92 rfl dX8_office_89 fl_X8_17 rfl rfl (Or.inl rfl) ?_
    refine p_aload_n 0 93 rfl rfl dX8_office_92 rfl ?_
    refine p_getR 8 16 96 rfl dX8_office_93 fl_X8_92 rfl rfl ((hr2 16).trans (hS.2.2.2.2.2.2.2.2.2.2.2.1)) (by decide) ?_
    refine p_iconst (0) 97 rfl dX8_office_96 rfl ?_
    refine p_dup2 98 rfl dX8_office_97 rfl rfl ?_
    refine p_ialdE 99 rfl dX8_office_98 (i := 0) rfl (by decide) ((congrFun (congrFun (hA_sI _ _ _ _) _) _).trans ((congrFun (hc2.2.2.2.2 18350192 (by rcases hO' with rfl | rfl <;> rfl)).2.1 0).trans hT.2.2.2.2.2.2.2.2.2.2.2.1)) ?_
    refine p_iconst (1) 100 rfl dX8_office_99 rfl ?_
    refine p_iadd 101 rfl dX8_office_100 ?_
    refine p_iastE 102 rfl dX8_office_101 (i := 0) rfl (by decide) ?_
    refine p_aload_n 0 103 rfl rfl dX8_office_102 rfl ?_
    refine p_getR 8 5 106 rfl dX8_office_103 fl_X8_35 rfl rfl ((hr2 5).trans (hS.2.1)) (by decide) ?_
    refine p_getIE 5 0 109 rfl dX8_office_106 fl_X8_121 rfl rfl ((hI_sIo (σ := σ2) (r := T0) (k := 2) (r' := R0) (k' := 0) (v := (rdAll (tB A) n nn).1.2.1) (by intro e; cases e)).trans hL.2.1.1) ?_
    exact p_iret dX8_office_109 rfl ⟨by simp only [fOff, gd, hbn, if_true, hiN], o, o', uF A (rdAll (tB A) n nn).1.2.1, by
    have hf : ¬ (rdAll (tB A) n nn).1.1 = 0 := fun q => h78 (by rw [q]; rfl)
    have hc3 : Ch (inS (sTl o')) σ (sA (sI σ2 T0 2 (rdAll (tB A) n nn).1.2.1) 18350192 0 (tX A + 1)) := by
      refine ((hc0.more ?_).tr ((ch1 _ _ _).more ?_)).tr ((Fr.ch (XI := []) (X := [18350192]) (S := [70]) (Fr.sA (by simp)) rfl (by decide)).more ?_) <;> rcases hO' with rfl | rfl <;> decide
    refine hT.rd hc3 ?_ ?_ ?_ ?_ rfl rfl rfl rfl rfl ?_ ?_
    · have q : ∀ r, r = oL o' ∨ r = oR o' ∨ r = oH o' → hA (sA (sI σ2 T0 2 (rdAll (tB A) n nn).1.2.1) 18350192 0 (tX A + 1)) r = hA σ2 r := by
        intro r hr
        have hne : r ≠ 18350192 := by rcases hO' with rfl | rfl <;> rcases hr with rfl | rfl | rfl <;> decide
        rw [sA_o hne]; rfl
      exact hL.2.2.2.2.2.2.2.2.2.eq (q _ (by simp)) (q _ (by simp)) (q _ (by simp))
    · show hR σ2 T0 = hR σ T0
      rw [t2.2.2]; rfl
    · show hI (sI σ2 T0 2 (rdAll (tB A) n nn).1.2.1) T0 10 = _
      rw [hI_sIo (by intro e; cases e), t2.1, hI_sIo (by intro e; cases e)]
    · exact ⟨Nat.zero_le _, hK.2.1, hK.2.2⟩
    · refine ⟨?_, ?_, fun i hi => absurd hi (Nat.not_lt_zero _)⟩
      · show hI (sI σ2 T0 2 (rdAll (tB A) n nn).1.2.1) T0 1 = _
        rw [hI_sIo (by intro e; cases e), t2.1, hI_sI]; rfl
      · show hI (sI σ2 T0 2 (rdAll (tB A) n nn).1.2.1) T0 2 = _
        rw [hI_sI]; rfl
    · have r70 : hA σ2 18350192 = hA σ 18350192 := (hc2.2.2.2.2 18350192 (by rcases hO' with rfl | rfl <;> rfl)).2.1
      show hA (sA (sI σ2 T0 2 (rdAll (tB A) n nn).1.2.1) 18350192 0 (tX A + 1)) 18350192 0 = _ ∧ hA (sA (sI σ2 T0 2 (rdAll (tB A) n nn).1.2.1) 18350192 0 (tX A + 1)) 18350192 1 = _ ∧ hA (sA (sI σ2 T0 2 (rdAll (tB A) n nn).1.2.1) 18350192 0 (tX A + 1)) 18350192 2 = _
      rw [sA_s, pk_us, pk_un (by decide), pk_un (by decide), hA_sI, r70]
      exact ⟨rfl, hT.2.2.2.2.2.2.2.2.2.2.2.2.1, hT.2.2.2.2.2.2.2.2.2.2.2.2.2⟩, by
    have hf : ¬ (rdAll (tB A) n nn).1.1 = 0 := fun q => h78 (by rw [q]; rfl)
    unfold nOff; rw [hbn, hiN, if_pos rfl, if_neg hf], by
    refine ((hc0.mono ?_).tr ((ch1 _ _ _).mono ?_)).tr ((Fr.ch (XI := []) (X := [18350192]) (S := [70]) (Fr.sA (by simp)) rfl (by decide)).mono ?_)
    · intro s hs
      exact inS_f (by rcases hO' with rfl | rfl <;> decide) hs
    · intro s hs
      exact inS_f (by decide) hs
    · intro s hs
      exact inS_f (by decide) hs⟩
set_option maxRecDepth 8000 in
theorem t_office (hT : IT σ o o' A) (x : Int32) : ∃ nn, CallOk Γ 54 8 48 mX8_office [.ref T0, .int x] σ (rS (fOff A nn x) true (fun σ' => ∃ o1 o2 A', IT σ' o1 o2 A' ∧ nOff A nn x A' ∧ Ch cls σ σ')) := by
  have hS := hT.1
  have hK := hT.2.1
  have hto : hR σ T0 3 = o := hT.2.2.1.2.2.1
  have hQ := hT.2.2.2.1
  have ho := hQ.1
  have hw := hT.2.2.2.2.1.1
  have hwo := hT.2.2.2.2.1.2
  have hv := hK.2.2.2.2.1.1
  have hd9 := hK.2.2.2.2.1.2
  have hY := hK.2.2.2.1
  have hO := hK.2.2.1
  have hs9 := hO.1
  have hc6 := hO.2.1
  have hw12 := hO.2.2.1
  have hk8 := hO.2.2.2.1
  have hO' := hT.2.2.1.1
  have htN := hK.1
  obtain ⟨nn, hnn⟩ := nI_any (hI σ R0 10)
  have hbe : BE (sI σ T0 1 0) o' := by rcases hO' with rfl | rfl; exact hT.2.2.1.2.2.2.2.2.1; exact hT.2.2.1.2.2.2.2.2.2
  refine ⟨nn, ?_⟩
  refine p_enter rfl rfl (Nat.le_of_ble_eq_true rfl) rfl ?_
  refine p_iload_n 1 1 rfl rfl dX8_office_0 rfl ?_
  refine p_if_lt 12 4 rfl rfl dX8_office_1 (fun h1 => ?_) (fun h1 => ?_)
  · have hbn : btw x 0 (tN A) = false := by
      unfold btw
      rw [nI_0]
      rw [decide_eq_false (fun q => Int32.not_le.mpr h1 q)]; rfl
    exact p_throw dX8_office_12 dX8_office_15 dX8_office_16 dX8_office_18 dX8_office_21 (x := 2) (i := 0) tl_X8_office_12 (Nat.le_of_ble_eq_true rfl) (Nat.le_of_ble_eq_true rfl) (Nat.le_of_ble_eq_true rfl) (Nat.le_of_ble_eq_true rfl) (⟨by simp [fOff, gd, hbn], o, o', A, hT, by unfold nOff; rw [hbn, if_neg (by decide)], Ch.rf⟩)
  · refine p_iload_n 1 5 rfl rfl dX8_office_4 rfl ?_
    refine p_aload_n 0 6 rfl rfl dX8_office_5 rfl ?_
    refine p_getIE 8 1 9 rfl dX8_office_6 fl_X8_13 rfl rfl hT.2.2.2.2.2.2.2.2.2.2.1.1 ?_
    refine p_icmp_le 22 12 rfl rfl dX8_office_9 (fun h9 => ?_) (fun h9 => ?_)
    · have hbn : btw x 0 (tN A) = true := by
        unfold btw
        rw [nI_0, decide_eq_true (Int32.not_lt.mp h1), decide_eq_true h9]; rfl
      obtain ⟨n, rfl, hn0, hn⟩ := asB hbn (Nat.zero_le _) (by omega)
      refine p_aload_n 0 23 rfl rfl dX8_office_22 rfl ?_
      refine p_iconst (0) 24 rfl dX8_office_23 rfl ?_
      refine p_putI 8 1 27 rfl dX8_office_24 fl_X8_13 rfl rfl (Or.inl rfl) ?_
      refine p_aload_n 0 28 rfl rfl dX8_office_27 rfl ?_
      refine p_getR 8 5 31 rfl dX8_office_28 fl_X8_35 rfl rfl (show hR (sI σ T0 1 0) T0 5 = R0 from hS.2.1) (by decide) ?_
      refine p_iload_n 1 32 rfl rfl dX8_office_31 rfl ?_
      refine p_aload_n 0 33 rfl rfl dX8_office_32 rfl ?_
      refine p_getR 8 4 36 rfl dX8_office_33 fl_X8_27 rfl rfl (show hR (sI σ T0 1 0) T0 4 = o' from hT.2.2.1.2.2.2.1) hO'.ne0 ?_
      have hX : TX (sI σ T0 1 0) (tB A) n := ⟨hT.1.2.2.2.2.2.2.2.2.2.2.2.2.2.1, by omega, hK.2.1, fun i hi => hT.2.2.2.2.2.2.2.2.2.2.1.2.2 i (by omega)⟩
      refine p_cV2v 8 48 39 rfl dX8_office_36 (c_begR (σ := (sI σ T0 1 0)) (nn := nn) hX (show StO (sI σ T0 1 0) o' from hT.2.2.1.2.2.2.2.1) hbe hnn) ml_X8_110 vl_X5_begin rfl (by decide) rfl (Nat.le_of_ble_eq_true rfl) (Nat.le_of_ble_eq_true rfl) (Nat.le_of_ble_eq_true rfl) (Nat.le_of_ble_eq_true rfl) rfl ?_
      intro σ1 hp1
      refine p_iconst (0) 40 rfl dX8_office_39 rfl ?_
      refine p_ist_n2 41 rfl rfl dX8_office_40 (Nat.le_of_ble_eq_true rfl) rfl ?_
      exact l_lines (σ := (sI σ T0 1 0)) (Z := (rdAll (tB A) n nn)) hO' hS.2.1 (fun σ2 x2 hL hc2 => l_off71 hT hn (by omega) hL hc2) 700 0 σ1 _ (by omega) hp1.1 rfl hp1.2
    · have hbn : btw x 0 (tN A) = false := by
        unfold btw
        rw [nI_0]
        rw [decide_eq_false h9, Bool.and_false]
      exact p_throw dX8_office_12 dX8_office_15 dX8_office_16 dX8_office_18 dX8_office_21 (x := 2) (i := 0) tl_X8_office_12 (Nat.le_of_ble_eq_true rfl) (Nat.le_of_ble_eq_true rfl) (Nat.le_of_ble_eq_true rfl) (Nat.le_of_ble_eq_true rfl) (⟨by simp [fOff, gd, hbn], o, o', A, hT, by unfold nOff; rw [hbn, if_neg (by decide)], Ch.rf⟩)
end C71
