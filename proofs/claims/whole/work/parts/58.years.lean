/-! ===== years by a seed ===== -/
abbrev dr0 : Nat := 18087937
theorem drw_eq {s : Int32} {m : Nat} (h : 0 < m) (hm : m < 1000) : ((s >>> ((16 : Int32) &&& 31)) &&& 32767) - ((s >>> ((16 : Int32) &&& 31)) &&& 32767) / nI m * nI m = nI (drw s m) := by
  unfold drw
  obtain ⟨j, hj, e⟩ := and15 (s >>> ((16 : Int32) &&& 31))
  rw [e, pk_rem (by omega) h (by omega), nI_clamp (by omega)]
theorem IA.ch {σ σ' : PH} {o o' : Nat} {A : AT} {W : AW} (h : IA σ o o' A W) {S : List Nat} (hc : Ch (inS S) σ σ') (hS : S.all (fun s => sAuxW.contains s) = true) (hd : (sW wA).all (fun s => !S.contains s) = true) : IA σ' o o' A W := by
  have e : inS S (sn wA) = false := by simpa [inS] using List.all_eq_true.mp hd (sn wA) (by simp [sW])
  exact ⟨h.1.auxW (hc.more hS), h.2.1.ch hc hd, by rw [(hc.2.2.2.2 wA e).2.2]; exact h.2.2⟩
section C58
variable {Γ : Gm} {σ : PH} {o o' : Nat} {A : AT} {W : AW}
set_option maxRecDepth 4000 in
theorem c_next {m : Nat} (h0 : 0 < m) (hm : m < 1000) : CallOk Γ 1 0 0 mX1_next [.ref dr0, .int (nI m)] σ (rX (fun y σ' => y = nI (drw (lcg (hI σ dr0 0)) m) ∧ σ' = sI σ dr0 0 (lcg (hI σ dr0 0)))) := by
  refine p_enter rfl rfl (Nat.le_of_ble_eq_true rfl) rfl ?_
  refine p_aload_n 0 1 rfl rfl dX1_next_0 rfl ?_
  refine p_aload_n 0 2 rfl rfl dX1_next_1 rfl ?_
  refine p_getI 1 0 5 rfl dX1_next_2 fl_X1_7 rfl rfl ?_
  refine p_ldc 7 rfl dX1_next_5 kc_X1_13 ?_
  refine p_imul 8 rfl dX1_next_7 ?_
  refine p_sipush (12345) 11 rfl dX1_next_8 rfl ?_
  refine p_iadd 12 rfl dX1_next_11 ?_
  refine p_putI 1 0 15 rfl dX1_next_12 fl_X1_7 rfl rfl (Or.inl rfl) ?_
  refine p_iload_n 1 16 rfl rfl dX1_next_15 rfl ?_
  refine p_if_le 35 19 rfl rfl dX1_next_16 (fun h16 => absurd h16 (nI_nle h0 (by omega))) (fun h16 => ?_)
  refine p_aload_n 0 20 rfl rfl dX1_next_19 rfl ?_
  refine p_getIE 1 0 23 rfl dX1_next_20 fl_X1_7 rfl rfl (hI_sI _ _ _ _) ?_
  refine p_bipush (16) 25 rfl dX1_next_23 rfl ?_
  refine p_ishr 26 rfl dX1_next_25 ?_
  refine p_sipush (32767) 29 rfl dX1_next_26 rfl ?_
  refine p_iand 30 rfl dX1_next_29 ?_
  refine p_iload_n 1 31 rfl rfl dX1_next_30 rfl ?_
  refine p_irem 32 rfl dX1_next_31 (nI_ne0 h0 (by omega)) ?_
  refine p_goto 36 rfl dX1_next_32 ?_
  exact p_iret dX1_next_36 rfl ⟨_, rfl, drw_eq h0 hm, rfl⟩
set_option maxRecDepth 10000 in
theorem c_drawAct (h1 : IA σ o o' A W) (hW : OkV (tO A) W) {s : Int32} (hs : hI σ dr0 0 = s) : CallOk Γ 5 0 0 mX8_drawAct [.ref T0] σ (rV (fun σ' => IA σ' o o' A (drwA (tO A) (s, W)).2 ∧ hI σ' dr0 0 = (drwA (tO A) (s, W)).1 ∧ Ch (inS sAuxW) σ σ')) := by
  have hS1 := h1.1.1
  have hK := h1.1.2.1
  have hO := hK.2.2.1
  have ho1 := h1.1.2.2.2.1.1
  refine p_enter rfl rfl (Nat.le_of_ble_eq_true rfl) rfl ?_
  refine p_aload_n 0 1 rfl rfl dX8_drawAct_0 rfl ?_
  refine p_getR 8 15 4 rfl dX8_drawAct_1 fl_X8_88 rfl rfl hS1.2.2.2.2.2.2.2.2.2.2.1 (by decide) ?_
  refine p_bipush (6) 6 rfl dX8_drawAct_4 rfl ?_
  refine p_cV1x 0 0 9 rfl dX8_drawAct_6 (c_next (m := 6) (by decide) (by decide)) ml_X8_370 vl_X1_next rfl (by decide) rfl (Nat.le_of_ble_eq_true rfl) (Nat.le_of_ble_eq_true rfl) (Nat.le_of_ble_eq_true rfl) (Nat.le_of_ble_eq_true rfl) rfl ?_
  rintro y2 σ2 ⟨hy2, hs2⟩
  rw [hs] at hy2 hs2
  have hc2 : Ch (inS [69]) σ σ2 := by rw [hs2]; exact Fr.ch (XI := [(dr0, 0)]) (X := []) (Fr.sI (by simp)) (by decide) rfl
  have h2 := h1.ch hc2 (by decide) (by decide)
  have e2 : hI σ2 dr0 0 = lcg (s) := by rw [hs2]; exact hI_sI _ _ _ _
  subst hy2
  have hS2 := h2.1.1
  refine p_ist_n1 10 rfl rfl dX8_drawAct_9 (Nat.le_of_ble_eq_true rfl) rfl ?_
  refine p_iload_n 1 11 rfl rfl dX8_drawAct_10 rfl ?_
  refine p_if_ne 32 14 rfl rfl dX8_drawAct_11 (fun h11 => ?_) (fun h11 => ?_)
  · refine p_iload_n 1 33 rfl rfl dX8_drawAct_32 rfl ?_
    refine p_iconst (1) 34 rfl dX8_drawAct_33 rfl ?_
    refine p_icmp_ne 71 37 rfl rfl dX8_drawAct_34 (fun h34 => ?_) (fun h34 => ?_)
    · refine p_iload_n 1 72 rfl rfl dX8_drawAct_71 rfl ?_
      refine p_iconst (2) 73 rfl dX8_drawAct_72 rfl ?_
      refine p_icmp_ne 126 76 rfl rfl dX8_drawAct_73 (fun h73 => ?_) (fun h73 => ?_)
      · exact p_vret dX8_drawAct_126 rfl (by
        have a0 : ¬ drw (lcg s) 6 = 0 := fun z => h11 (by rw [z]; rfl)
        have a1 : ¬ (drw (lcg s) 6 = 1 ∧ 0 < aC (tO A)) := fun z => h34 (by rw [z.1]; rfl)
        have a2 : ¬ (drw (lcg s) 6 = 2 ∧ 0 < aS (tO A)) := fun z => h73 (by rw [z.1]; rfl)
        have e : drwA (tO A) (s, W) = (lcg s, W) := by
          rw [drwA, if_neg a0, if_neg a1, if_neg a2]
        rw [e]
        exact ⟨rfl, h2, e2, hc2.more (by decide)⟩)
      · refine p_aload_n 0 77 rfl rfl dX8_drawAct_76 rfl ?_
        refine p_getR 8 3 80 rfl dX8_drawAct_77 fl_X8_23 rfl rfl h2.1.2.2.1.2.2.1 ho1.1.1.ne0 ?_
        refine p_getIE 4 0 83 rfl dX8_drawAct_80 fl_X8_131 ho1.1.1.kd rfl h2.1.2.2.2.1.1.2.2.1 ?_
        refine p_if_le 126 86 rfl rfl dX8_drawAct_83 (fun h83 => ?_) (fun h83 => ?_)
        · exact p_vret dX8_drawAct_126 rfl (by
        have a0 : ¬ drw (lcg s) 6 = 0 := fun z => h11 (by rw [z]; rfl)
        have a1 : ¬ (drw (lcg s) 6 = 1 ∧ 0 < aC (tO A)) := fun z => h34 (by rw [z.1]; rfl)
        have a2 : ¬ (drw (lcg s) 6 = 2 ∧ 0 < aS (tO A)) := fun z => absurd h83 (nI_nle z.2 (by have := hO.1; omega))
        have e : drwA (tO A) (s, W) = (lcg s, W) := by
          rw [drwA, if_neg a0, if_neg a1, if_neg a2]
        rw [e]
        exact ⟨rfl, h2, e2, hc2.more (by decide)⟩)
        · have hsp : 0 < aS (tO A) := Nat.pos_of_ne_zero (fun z => h83 (by rw [z]; decide))
          refine p_aload_n 0 87 rfl rfl dX8_drawAct_86 rfl ?_
          refine p_getR 8 15 90 rfl dX8_drawAct_87 fl_X8_88 rfl rfl hS2.2.2.2.2.2.2.2.2.2.2.1 (by decide) ?_
          refine p_aload_n 0 91 rfl rfl dX8_drawAct_90 rfl ?_
          refine p_getR 8 3 94 rfl dX8_drawAct_91 fl_X8_23 rfl rfl h2.1.2.2.1.2.2.1 ho1.1.1.ne0 ?_
          refine p_getIE 4 0 97 rfl dX8_drawAct_94 fl_X8_131 ho1.1.1.kd rfl h2.1.2.2.2.1.1.2.2.1 ?_
          refine p_cV1x 0 0 100 rfl dX8_drawAct_97 (c_next (m := aS (tO A)) hsp (by have := hO.1; omega)) ml_X8_370 vl_X1_next rfl (by decide) rfl (Nat.le_of_ble_eq_true rfl) (Nat.le_of_ble_eq_true rfl) (Nat.le_of_ble_eq_true rfl) (Nat.le_of_ble_eq_true rfl) rfl ?_
          rintro y3 σ3 ⟨hy3, hs3⟩
          rw [e2] at hy3 hs3
          have hc3 : Ch (inS [69]) σ2 σ3 := by rw [hs3]; exact Fr.ch (XI := [(dr0, 0)]) (X := []) (Fr.sI (by simp)) (by decide) rfl
          have h3 := h2.ch hc3 (by decide) (by decide)
          have e3 : hI σ3 dr0 0 = lcg ((lcg s)) := by rw [hs3]; exact hI_sI _ _ _ _
          subst hy3
          have hS3 := h3.1.1
          refine p_ist_n2 101 rfl rfl dX8_drawAct_100 (Nat.le_of_ble_eq_true rfl) rfl ?_
          refine p_aload_n 0 102 rfl rfl dX8_drawAct_101 rfl ?_
          refine p_getR 8 15 105 rfl dX8_drawAct_102 fl_X8_88 rfl rfl hS3.2.2.2.2.2.2.2.2.2.2.1 (by decide) ?_
          refine p_bipush (8) 107 rfl dX8_drawAct_105 rfl ?_
          refine p_cV1x 0 0 110 rfl dX8_drawAct_107 (c_next (m := 8) (by decide) (by decide)) ml_X8_370 vl_X1_next rfl (by decide) rfl (Nat.le_of_ble_eq_true rfl) (Nat.le_of_ble_eq_true rfl) (Nat.le_of_ble_eq_true rfl) (Nat.le_of_ble_eq_true rfl) rfl ?_
          rintro y4 σ4 ⟨hy4, hs4⟩
          rw [e3] at hy4 hs4
          have hc4 : Ch (inS [69]) σ3 σ4 := by rw [hs4]; exact Fr.ch (XI := [(dr0, 0)]) (X := []) (Fr.sI (by simp)) (by decide) rfl
          have h4 := h3.ch hc4 (by decide) (by decide)
          have e4 : hI σ4 dr0 0 = lcg ((lcg (lcg s))) := by rw [hs4]; exact hI_sI _ _ _ _
          subst hy4
          have hS4 := h4.1.1
          refine p_ist_n3 111 rfl rfl dX8_drawAct_110 (Nat.le_of_ble_eq_true rfl) rfl ?_
          have hsl := drw_lt (s := lcg (lcg s)) hsp
          have hs9 := hO.1
          have hst := drw_lt (s := lcg (lcg (lcg s))) (m := 8) (by decide)
          refine p_aload_n 0 112 rfl rfl dX8_drawAct_111 rfl ?_
          refine p_getR 8 7 115 rfl dX8_drawAct_112 fl_X8_48 rfl rfl hS4.2.2.2.1 (by decide) ?_
          refine p_getR 7 2 118 rfl dX8_drawAct_115 fl_X8_175 rfl rfl h4.2.1.1.2.1 (mk0 (Nat.succ_ne_zero _)) ?_
          refine p_iload_n 2 119 rfl rfl dX8_drawAct_118 rfl ?_
          refine p_dup2 120 rfl dX8_drawAct_119 rfl rfl ?_
          refine p_ialdE 121 rfl dX8_drawAct_120 (kd16 _ _) (lt9 (by omega)) (h4.2.1.2.2.1 (drw (lcg (lcg s)) (aS (tO A))) (by omega)).1 ?_
          refine p_iconst (1) 122 rfl dX8_drawAct_121 rfl ?_
          refine p_iload_n 3 123 rfl rfl dX8_drawAct_122 rfl ?_
          refine p_ishl 124 rfl dX8_drawAct_123 ?_
          refine p_ixor 125 rfl dX8_drawAct_124 ?_
          rw [one_shl _ (by omega), nx_xor]
          refine p_iastE 126 rfl dX8_drawAct_125 (kd16 _ _) (lt9 (by omega)) ?_
          exact p_vret dX8_drawAct_126 rfl (by
        have a0 : ¬ drw (lcg s) 6 = 0 := fun z => h11 (by rw [z]; rfl)
        have a1 : ¬ (drw (lcg s) 6 = 1 ∧ 0 < aC (tO A)) := fun z => h34 (by rw [z.1]; rfl)
        have a2 : drw (lcg s) 6 = 2 := (nI_eq (b := 2) (by have := drw_lt (s := lcg s) (m := 6) (by decide); omega) (by decide)).mp h73
        have e : drwA (tO A) (s, W) = (lcg (lcg (lcg s)), wLf W (va_up (vL W) (drw (lcg (lcg s)) (aS (tO A))) (vL W (drw (lcg (lcg s)) (aS (tO A))) ^^^ 2 ^ drw (lcg (lcg (lcg s))) 8))) := by
          rw [drwA, if_neg a0, if_neg a1, if_pos ⟨a2, hsp⟩]
        rw [e]
        have hF5 : WF wA o σ4 (sA σ4 (wL wA) (drw (lcg (lcg s)) (aS (tO A))) (nI (vL W (drw (lcg (lcg s)) (aS (tO A))) ^^^ 2 ^ drw (lcg (lcg (lcg s))) 8))) := Fr.sA (by simp [wX])
        exact ⟨rfl, h4.wf h4.2.1.setL hF5, e4, (((hc2.more (by decide)).tr (hc3.more (by decide))).tr (hc4.more (by decide))).tr (hF5.aux ho1.1.1).w⟩)
    · refine p_aload_n 0 38 rfl rfl dX8_drawAct_37 rfl ?_
      refine p_getR 8 3 41 rfl dX8_drawAct_38 fl_X8_23 rfl rfl h2.1.2.2.1.2.2.1 ho1.1.1.ne0 ?_
      refine p_getIE 4 4 44 rfl dX8_drawAct_41 fl_X8_134 ho1.1.1.kd rfl h2.1.2.2.2.1.1.2.2.2.1 ?_
      refine p_if_le 71 47 rfl rfl dX8_drawAct_44 (fun h44 => ?_) (fun h44 => ?_)
      · refine p_iload_n 1 72 rfl rfl dX8_drawAct_71 rfl ?_
        refine p_iconst (2) 73 rfl dX8_drawAct_72 rfl ?_
        refine p_icmp_ne 126 76 rfl rfl dX8_drawAct_73 (fun h73 => ?_) (fun h73 => ?_)
        · exact p_vret dX8_drawAct_126 rfl (by
        have a0 : ¬ drw (lcg s) 6 = 0 := fun z => h11 (by rw [z]; rfl)
        have a1 : ¬ (drw (lcg s) 6 = 1 ∧ 0 < aC (tO A)) := fun z => absurd h44 (nI_nle z.2 (by have := hO.2.1; omega))
        have a2 : ¬ (drw (lcg s) 6 = 2 ∧ 0 < aS (tO A)) := fun z => h73 (by rw [z.1]; rfl)
        have e : drwA (tO A) (s, W) = (lcg s, W) := by
          rw [drwA, if_neg a0, if_neg a1, if_neg a2]
        rw [e]
        exact ⟨rfl, h2, e2, hc2.more (by decide)⟩)
        · refine p_aload_n 0 77 rfl rfl dX8_drawAct_76 rfl ?_
          refine p_getR 8 3 80 rfl dX8_drawAct_77 fl_X8_23 rfl rfl h2.1.2.2.1.2.2.1 ho1.1.1.ne0 ?_
          refine p_getIE 4 0 83 rfl dX8_drawAct_80 fl_X8_131 ho1.1.1.kd rfl h2.1.2.2.2.1.1.2.2.1 ?_
          refine p_if_le 126 86 rfl rfl dX8_drawAct_83 (fun h83 => ?_) (fun h83 => ?_)
          · exact p_vret dX8_drawAct_126 rfl (by
        have a0 : ¬ drw (lcg s) 6 = 0 := fun z => h11 (by rw [z]; rfl)
        have a1 : ¬ (drw (lcg s) 6 = 1 ∧ 0 < aC (tO A)) := fun z => absurd h44 (nI_nle z.2 (by have := hO.2.1; omega))
        have a2 : ¬ (drw (lcg s) 6 = 2 ∧ 0 < aS (tO A)) := fun z => absurd h83 (nI_nle z.2 (by have := hO.1; omega))
        have e : drwA (tO A) (s, W) = (lcg s, W) := by
          rw [drwA, if_neg a0, if_neg a1, if_neg a2]
        rw [e]
        exact ⟨rfl, h2, e2, hc2.more (by decide)⟩)
          · have hsp : 0 < aS (tO A) := Nat.pos_of_ne_zero (fun z => h83 (by rw [z]; decide))
            refine p_aload_n 0 87 rfl rfl dX8_drawAct_86 rfl ?_
            refine p_getR 8 15 90 rfl dX8_drawAct_87 fl_X8_88 rfl rfl hS2.2.2.2.2.2.2.2.2.2.2.1 (by decide) ?_
            refine p_aload_n 0 91 rfl rfl dX8_drawAct_90 rfl ?_
            refine p_getR 8 3 94 rfl dX8_drawAct_91 fl_X8_23 rfl rfl h2.1.2.2.1.2.2.1 ho1.1.1.ne0 ?_
            refine p_getIE 4 0 97 rfl dX8_drawAct_94 fl_X8_131 ho1.1.1.kd rfl h2.1.2.2.2.1.1.2.2.1 ?_
            refine p_cV1x 0 0 100 rfl dX8_drawAct_97 (c_next (m := aS (tO A)) hsp (by have := hO.1; omega)) ml_X8_370 vl_X1_next rfl (by decide) rfl (Nat.le_of_ble_eq_true rfl) (Nat.le_of_ble_eq_true rfl) (Nat.le_of_ble_eq_true rfl) (Nat.le_of_ble_eq_true rfl) rfl ?_
            rintro y3 σ3 ⟨hy3, hs3⟩
            rw [e2] at hy3 hs3
            have hc3 : Ch (inS [69]) σ2 σ3 := by rw [hs3]; exact Fr.ch (XI := [(dr0, 0)]) (X := []) (Fr.sI (by simp)) (by decide) rfl
            have h3 := h2.ch hc3 (by decide) (by decide)
            have e3 : hI σ3 dr0 0 = lcg ((lcg s)) := by rw [hs3]; exact hI_sI _ _ _ _
            subst hy3
            have hS3 := h3.1.1
            refine p_ist_n2 101 rfl rfl dX8_drawAct_100 (Nat.le_of_ble_eq_true rfl) rfl ?_
            refine p_aload_n 0 102 rfl rfl dX8_drawAct_101 rfl ?_
            refine p_getR 8 15 105 rfl dX8_drawAct_102 fl_X8_88 rfl rfl hS3.2.2.2.2.2.2.2.2.2.2.1 (by decide) ?_
            refine p_bipush (8) 107 rfl dX8_drawAct_105 rfl ?_
            refine p_cV1x 0 0 110 rfl dX8_drawAct_107 (c_next (m := 8) (by decide) (by decide)) ml_X8_370 vl_X1_next rfl (by decide) rfl (Nat.le_of_ble_eq_true rfl) (Nat.le_of_ble_eq_true rfl) (Nat.le_of_ble_eq_true rfl) (Nat.le_of_ble_eq_true rfl) rfl ?_
            rintro y4 σ4 ⟨hy4, hs4⟩
            rw [e3] at hy4 hs4
            have hc4 : Ch (inS [69]) σ3 σ4 := by rw [hs4]; exact Fr.ch (XI := [(dr0, 0)]) (X := []) (Fr.sI (by simp)) (by decide) rfl
            have h4 := h3.ch hc4 (by decide) (by decide)
            have e4 : hI σ4 dr0 0 = lcg ((lcg (lcg s))) := by rw [hs4]; exact hI_sI _ _ _ _
            subst hy4
            have hS4 := h4.1.1
            refine p_ist_n3 111 rfl rfl dX8_drawAct_110 (Nat.le_of_ble_eq_true rfl) rfl ?_
            have hsl := drw_lt (s := lcg (lcg s)) hsp
            have hs9 := hO.1
            have hst := drw_lt (s := lcg (lcg (lcg s))) (m := 8) (by decide)
            refine p_aload_n 0 112 rfl rfl dX8_drawAct_111 rfl ?_
            refine p_getR 8 7 115 rfl dX8_drawAct_112 fl_X8_48 rfl rfl hS4.2.2.2.1 (by decide) ?_
            refine p_getR 7 2 118 rfl dX8_drawAct_115 fl_X8_175 rfl rfl h4.2.1.1.2.1 (mk0 (Nat.succ_ne_zero _)) ?_
            refine p_iload_n 2 119 rfl rfl dX8_drawAct_118 rfl ?_
            refine p_dup2 120 rfl dX8_drawAct_119 rfl rfl ?_
            refine p_ialdE 121 rfl dX8_drawAct_120 (kd16 _ _) (lt9 (by omega)) (h4.2.1.2.2.1 (drw (lcg (lcg s)) (aS (tO A))) (by omega)).1 ?_
            refine p_iconst (1) 122 rfl dX8_drawAct_121 rfl ?_
            refine p_iload_n 3 123 rfl rfl dX8_drawAct_122 rfl ?_
            refine p_ishl 124 rfl dX8_drawAct_123 ?_
            refine p_ixor 125 rfl dX8_drawAct_124 ?_
            rw [one_shl _ (by omega), nx_xor]
            refine p_iastE 126 rfl dX8_drawAct_125 (kd16 _ _) (lt9 (by omega)) ?_
            exact p_vret dX8_drawAct_126 rfl (by
        have a0 : ¬ drw (lcg s) 6 = 0 := fun z => h11 (by rw [z]; rfl)
        have a1 : ¬ (drw (lcg s) 6 = 1 ∧ 0 < aC (tO A)) := fun z => absurd h44 (nI_nle z.2 (by have := hO.2.1; omega))
        have a2 : drw (lcg s) 6 = 2 := (nI_eq (b := 2) (by have := drw_lt (s := lcg s) (m := 6) (by decide); omega) (by decide)).mp h73
        have e : drwA (tO A) (s, W) = (lcg (lcg (lcg s)), wLf W (va_up (vL W) (drw (lcg (lcg s)) (aS (tO A))) (vL W (drw (lcg (lcg s)) (aS (tO A))) ^^^ 2 ^ drw (lcg (lcg (lcg s))) 8))) := by
          rw [drwA, if_neg a0, if_neg a1, if_pos ⟨a2, hsp⟩]
        rw [e]
        have hF5 : WF wA o σ4 (sA σ4 (wL wA) (drw (lcg (lcg s)) (aS (tO A))) (nI (vL W (drw (lcg (lcg s)) (aS (tO A))) ^^^ 2 ^ drw (lcg (lcg (lcg s))) 8))) := Fr.sA (by simp [wX])
        exact ⟨rfl, h4.wf h4.2.1.setL hF5, e4, (((hc2.more (by decide)).tr (hc3.more (by decide))).tr (hc4.more (by decide))).tr (hF5.aux ho1.1.1).w⟩)
      · have hcp : 0 < aC (tO A) := Nat.pos_of_ne_zero (fun z => h44 (by rw [z]; decide))
        refine p_aload_n 0 48 rfl rfl dX8_drawAct_47 rfl ?_
        refine p_getR 8 7 51 rfl dX8_drawAct_48 fl_X8_48 rfl rfl hS2.2.2.2.1 (by decide) ?_
        refine p_aload_n 0 52 rfl rfl dX8_drawAct_51 rfl ?_
        refine p_getR 8 15 55 rfl dX8_drawAct_52 fl_X8_88 rfl rfl hS2.2.2.2.2.2.2.2.2.2.2.1 (by decide) ?_
        refine p_aload_n 0 56 rfl rfl dX8_drawAct_55 rfl ?_
        refine p_getR 8 3 59 rfl dX8_drawAct_56 fl_X8_23 rfl rfl h2.1.2.2.1.2.2.1 ho1.1.1.ne0 ?_
        refine p_getIE 4 4 62 rfl dX8_drawAct_59 fl_X8_134 ho1.1.1.kd rfl h2.1.2.2.2.1.1.2.2.2.1 ?_
        refine p_cV1x 0 0 65 rfl dX8_drawAct_62 (c_next (m := aC (tO A)) hcp (by have := hO.2.1; omega)) ml_X8_370 vl_X1_next rfl (by decide) rfl (Nat.le_of_ble_eq_true rfl) (Nat.le_of_ble_eq_true rfl) (Nat.le_of_ble_eq_true rfl) (Nat.le_of_ble_eq_true rfl) rfl ?_
        rintro y3 σ3 ⟨hy3, hs3⟩
        rw [e2] at hy3 hs3
        have hc3 : Ch (inS [69]) σ2 σ3 := by rw [hs3]; exact Fr.ch (XI := [(dr0, 0)]) (X := []) (Fr.sI (by simp)) (by decide) rfl
        have h3 := h2.ch hc3 (by decide) (by decide)
        have e3 : hI σ3 dr0 0 = lcg ((lcg s)) := by rw [hs3]; exact hI_sI _ _ _ _
        subst hy3
        have hS3 := h3.1.1
        refine p_cV1v 0 0 68 rfl dX8_drawAct_65 (c_takeLeast h3.1.2.2.2.1.1 h3.2.1 hW h3.2.2 (drw_lt hcp)) ml_X8_373 vl_X7_takeLeast rfl (by decide) rfl (Nat.le_of_ble_eq_true rfl) (Nat.le_of_ble_eq_true rfl) (Nat.le_of_ble_eq_true rfl) (Nat.le_of_ble_eq_true rfl) rfl ?_
        rintro σ4 ⟨hw4, hF4⟩
        have h4 := h3.wf hw4 hF4
        refine p_goto 126 rfl dX8_drawAct_68 ?_
        exact p_vret dX8_drawAct_126 rfl (by
        have a0 : ¬ drw (lcg s) 6 = 0 := fun z => h11 (by rw [z]; rfl)
        have a1 : drw (lcg s) 6 = 1 := (nI_eq (b := 1) (by have := drw_lt (s := lcg s) (m := 6) (by decide); omega) (by decide)).mp h34
        have e : drwA (tO A) (s, W) = (lcg (lcg s), tkl (tO A) W (drw (lcg (lcg s)) (aC (tO A)))) := by
          rw [drwA, if_neg a0, if_pos ⟨a1, hcp⟩]
        rw [e]
        exact ⟨rfl, h4, by rw [hF4.2.1 dr0 0 (by decide)]; exact e3, ((hc2.more (by decide)).tr (hc3.more (by decide))).tr (hF4.aux ho1.1.1).w⟩)
  · refine p_aload_n 0 15 rfl rfl dX8_drawAct_14 rfl ?_
    refine p_getR 8 7 18 rfl dX8_drawAct_15 fl_X8_48 rfl rfl hS2.2.2.2.1 (by decide) ?_
    refine p_aload_n 0 19 rfl rfl dX8_drawAct_18 rfl ?_
    refine p_getR 8 15 22 rfl dX8_drawAct_19 fl_X8_88 rfl rfl hS2.2.2.2.2.2.2.2.2.2.2.1 (by decide) ?_
    refine p_iconst (4) 23 rfl dX8_drawAct_22 rfl ?_
    refine p_cV1x 0 0 26 rfl dX8_drawAct_23 (c_next (m := 4) (by decide) (by decide)) ml_X8_370 vl_X1_next rfl (by decide) rfl (Nat.le_of_ble_eq_true rfl) (Nat.le_of_ble_eq_true rfl) (Nat.le_of_ble_eq_true rfl) (Nat.le_of_ble_eq_true rfl) rfl ?_
    rintro y3 σ3 ⟨hy3, hs3⟩
    rw [e2] at hy3 hs3
    have hc3 : Ch (inS [69]) σ2 σ3 := by rw [hs3]; exact Fr.ch (XI := [(dr0, 0)]) (X := []) (Fr.sI (by simp)) (by decide) rfl
    have h3 := h2.ch hc3 (by decide) (by decide)
    have e3 : hI σ3 dr0 0 = lcg ((lcg s)) := by rw [hs3]; exact hI_sI _ _ _ _
    subst hy3
    have hS3 := h3.1.1
    refine p_cV1v 0 0 29 rfl dX8_drawAct_26 (c_burn h3.1.2.2.2.1.1 h3.2.1 hW h3.2.2 (drw_lt (by decide))) ml_X8_261 vl_X7_burn rfl (by decide) rfl (Nat.le_of_ble_eq_true rfl) (Nat.le_of_ble_eq_true rfl) (Nat.le_of_ble_eq_true rfl) (Nat.le_of_ble_eq_true rfl) rfl ?_
    rintro σ4 ⟨hw4, hF4⟩
    have h4 := h3.wf hw4 hF4
    refine p_goto 126 rfl dX8_drawAct_29 ?_
    exact p_vret dX8_drawAct_126 rfl (by
        have a0 : drw (lcg s) 6 = 0 := by
          rcases Nat.eq_zero_or_pos (drw (lcg s) 6) with z | z
          · exact z
          · exact absurd h11 (nI_ne0 z (by have := drw_lt (s := lcg s) (m := 6) (by decide); omega))
        have e : drwA (tO A) (s, W) = (lcg (lcg s), brn (tO A) W (drw (lcg (lcg s)) 4)) := by simp only [drwA, a0, if_true]
        rw [e]
        exact ⟨rfl, h4, by rw [hF4.2.1 dr0 0 (by decide)]; exact e3, ((hc2.more (by decide)).tr (hc3.more (by decide))).tr (hF4.aux ho1.1.1).w⟩)
theorem inHd_lt {O : AO} (h : OkO O) (V : AW) : inHd O V < 512 := Nat.lt_of_lt_of_le (setN_lt _ _) (Nat.pow_le_pow_right (by decide) h.1)
set_option maxRecDepth 4000 in
theorem e_years (hT : IT σ o o' A) {k w i : Nat} (hk : k ≤ 40) (hw3 : w < 3) (x : Int32) {σ1 : PH} {W : AW} (hi : i = k) (h1 : IA σ1 o o' A W) (hyo : OkV (tO A) W) (hc1 : Ch (inS sAuxW) σ σ1) : Ok Γ 14 0 0 mX8_years 28 [some (.ref T0), some (.int x), some (.int (nI k)), some (.int (nI w)), some (.int (nI i))] [] σ1 (rS (0, if w = 0 then nI (pop (kAll (tO A) W)) else if w = 1 then nI (aS (tO A)) - nI (pop (shAt (tO A) W 0)) else nI (pop (inHd (tO A) W))) false (fun σ' => IT σ' o o' A ∧ Ch cls σ σ')) := by
  have hS := hT.1
  have hK := hT.2.1
  have hto : hR σ T0 3 = o := hT.2.2.1.2.2.1
  have hQ := hT.2.2.2.1
  have ho := hQ.1
  have hw := hT.2.2.2.2.1.1
  have hwo := hT.2.2.2.2.1.2
  have hv := hK.2.2.2.2.1.1
  have hd9 := hK.2.2.2.2.1.2
  have hY := hK.2.2.2.1
  have hO := hK.2.2.1
  have hs9 := hO.1
  have hc6 := hO.2.1
  have hw12 := hO.2.2.1
  have hk8 := hO.2.2.2.1
  have hS1 := h1.1.1
  have hw1 := h1.2.1
  have hwo1 := h1.2.2
  have hQ1 := h1.1.2.2.2.1
  have ho1 := hQ1.1
  have hto1 : hR σ1 T0 3 = o := h1.1.2.2.1.2.2.1
  have hn1 := h1.1.2.2.2.2.1.1
  have hno1 := h1.1.2.2.2.2.1.2
  refine p_iload 4 30 rfl dX8_years_28 rfl ?_
  refine p_iload_n 2 31 rfl rfl dX8_years_30 rfl ?_
  refine p_icmp_ge 52 34 rfl rfl dX8_years_31 (fun h31 => ?_) (fun h31 => absurd (nI_le (a := k) (b := i) (by omega) (by omega)) h31)
  refine p_iload_n 3 53 rfl rfl dX8_years_52 rfl ?_
  refine p_if_ne 67 56 rfl rfl dX8_years_53 (fun h53 => ?_) (fun h53 => ?_)
  · refine p_iload_n 3 68 rfl rfl dX8_years_67 rfl ?_
    refine p_iconst (1) 69 rfl dX8_years_68 rfl ?_
    refine p_icmp_ne 91 72 rfl rfl dX8_years_69 (fun h69 => ?_) (fun h69 => ?_)
    · refine p_aload_n 0 92 rfl rfl dX8_years_91 rfl ?_
      refine p_getR 8 7 95 rfl dX8_years_92 fl_X8_48 rfl rfl hS1.2.2.2.1 (by decide) ?_
      refine p_cV0i 98 rfl dX8_years_95 (c_sheetsInHands ho1 hw1 hyo hwo1) ml_X8_150 vl_X7_sheetsInHands rfl (by decide) rfl (Nat.le_of_ble_eq_true rfl) (Nat.le_of_ble_eq_true rfl) rfl ?_
      refine p_cS1i 101 rfl dX8_years_98 (c_bitCountN (Nat.lt_trans (inHd_lt hO _) (by decide))) ml_X8_284 sl_J6_bitCount_0f7a4 (Nat.le_of_ble_eq_true rfl) (Nat.le_of_ble_eq_true rfl) rfl ?_
      exact p_iret dX8_years_101 rfl (by
      have hx : ¬ w = 0 := fun z => h53 (by rw [z]; rfl)
      have hx1 : ¬ w = 1 := fun z => h69 (by rw [z]; rfl)
      exact ⟨by rw [if_neg hx, if_neg hx1]; rfl, h1.1, hc1.toC (by decide)⟩)
    · refine p_aload_n 0 73 rfl rfl dX8_years_72 rfl ?_
      refine p_getR 8 3 76 rfl dX8_years_73 fl_X8_23 rfl rfl hto1 ho1.1.1.ne0 ?_
      refine p_getIE 4 0 79 rfl dX8_years_76 fl_X8_131 ho1.1.1.kd rfl ho1.2.2.1 ?_
      refine p_aload_n 0 80 rfl rfl dX8_years_79 rfl ?_
      refine p_getR 8 7 83 rfl dX8_years_80 fl_X8_48 rfl rfl hS1.2.2.2.1 (by decide) ?_
      refine p_cV0i 86 rfl dX8_years_83 (c_burntSheets ho1 hw1 hyo hwo1) ml_X8_146 vl_X7_burntSheets rfl (by decide) rfl (Nat.le_of_ble_eq_true rfl) (Nat.le_of_ble_eq_true rfl) rfl ?_
      refine p_cS1i 89 rfl dX8_years_86 (c_bitCountN (Nat.lt_trans (shAt_lt hO _ _) (by decide))) ml_X8_284 sl_J6_bitCount_0f7a4 (Nat.le_of_ble_eq_true rfl) (Nat.le_of_ble_eq_true rfl) rfl ?_
      refine p_isub 90 rfl dX8_years_89 ?_
      exact p_iret dX8_years_90 rfl (by
      have hx : ¬ w = 0 := fun z => h53 (by rw [z]; rfl)
      have hx1 : w = 1 := (nI_eq (b := 1) (by omega) (by decide)).mp h69
      exact ⟨by rw [if_neg hx, if_pos hx1]; rfl, h1.1, hc1.toC (by decide)⟩)
  · refine p_aload_n 0 57 rfl rfl dX8_years_56 rfl ?_
    refine p_getR 8 7 60 rfl dX8_years_57 fl_X8_48 rfl rfl hS1.2.2.2.1 (by decide) ?_
    refine p_cV0i 63 rfl dX8_years_60 (c_wordsKnown ho1 hw1 hyo hwo1) ml_X8_153 vl_X7_wordsKnown rfl (by decide) rfl (Nat.le_of_ble_eq_true rfl) (Nat.le_of_ble_eq_true rfl) rfl ?_
    refine p_cS1i 66 rfl dX8_years_63 (c_bitCountN (kAll_lt hO hyo)) ml_X8_284 sl_J6_bitCount_0f7a4 (Nat.le_of_ble_eq_true rfl) (Nat.le_of_ble_eq_true rfl) rfl ?_
    exact p_iret dX8_years_66 rfl (by
      have hx : w = 0 := by
        rcases Nat.eq_zero_or_pos w with z | z
        · exact z
        · exact absurd h53 (nI_ne0 z (by omega))
      exact ⟨by rw [if_pos hx]; rfl, h1.1, hc1.toC (by decide)⟩)
set_option maxRecDepth 4000 in
theorem s_years (hT : IT σ o o' A) {k w i : Nat} (hk : k ≤ 40) (x : Int32) {σ1 : PH} {W : AW} {s : Int32} {Q : PO → PH → Prop} (hi : i < k) (h1 : IA σ1 o o' A W) (hyo : OkV (tO A) W) (hsd : hI σ1 dr0 0 = s) (kk : ∀ σ3, IA σ3 o o' A (dayF (tO A) (drwA (tO A) (s, W)).2) → hI σ3 dr0 0 = (drwA (tO A) (s, W)).1 → Ch (inS sAuxW) σ1 σ3 → Ok Γ 14 0 0 mX8_years 28 [some (.ref T0), some (.int x), some (.int (nI k)), some (.int (nI w)), some (.int (nI (i + 1)))] [] σ3 Q) : Ok Γ 14 0 0 mX8_years 28 [some (.ref T0), some (.int x), some (.int (nI k)), some (.int (nI w)), some (.int (nI i))] [] σ1 Q := by
  have hS := hT.1
  have hK := hT.2.1
  have hto : hR σ T0 3 = o := hT.2.2.1.2.2.1
  have hQ := hT.2.2.2.1
  have ho := hQ.1
  have hw := hT.2.2.2.2.1.1
  have hwo := hT.2.2.2.2.1.2
  have hv := hK.2.2.2.2.1.1
  have hd9 := hK.2.2.2.2.1.2
  have hY := hK.2.2.2.1
  have hO := hK.2.2.1
  have hs9 := hO.1
  have hc6 := hO.2.1
  have hw12 := hO.2.2.1
  have hk8 := hO.2.2.2.1
  have hS1 := h1.1.1
  have hw1 := h1.2.1
  have hwo1 := h1.2.2
  have hQ1 := h1.1.2.2.2.1
  have ho1 := hQ1.1
  have hto1 : hR σ1 T0 3 = o := h1.1.2.2.1.2.2.1
  have hn1 := h1.1.2.2.2.2.1.1
  have hno1 := h1.1.2.2.2.2.1.2
  have hdo := drwA_ok (q := (s, W)) hyo hO
  refine p_iload 4 30 rfl dX8_years_28 rfl ?_
  refine p_iload_n 2 31 rfl rfl dX8_years_30 rfl ?_
  refine p_icmp_ge 52 34 rfl rfl dX8_years_31 (fun h31 => absurd h31 (nI_ge (a := i) (b := k) (by omega) (by omega))) (fun h31 => ?_)
  refine p_aload_n 0 35 rfl rfl dX8_years_34 rfl ?_
  refine p_cV0v 0 0 38 rfl dX8_years_35 (c_drawAct h1 hyo hsd) ml_X8_367 vl_X8_drawAct rfl (by decide) rfl (Nat.le_of_ble_eq_true rfl) (Nat.le_of_ble_eq_true rfl) (Nat.le_of_ble_eq_true rfl) (Nat.le_of_ble_eq_true rfl) rfl ?_
  rintro σ2 ⟨h2, hsd2, hc2⟩
  refine p_aload_n 0 39 rfl rfl dX8_years_38 rfl ?_
  refine p_getR 8 7 42 rfl dX8_years_39 fl_X8_48 rfl rfl h2.1.1.2.2.2.1 (by decide) ?_
  refine p_cV0x 0 0 45 rfl dX8_years_42 (c_passDay h2.1.2.2.2.1 hY h2.2.1 hdo.1 h2.2.2) ml_X8_278 vl_X7_passDay rfl (by decide) rfl (Nat.le_of_ble_eq_true rfl) (Nat.le_of_ble_eq_true rfl) (Nat.le_of_ble_eq_true rfl) (Nat.le_of_ble_eq_true rfl) rfl ?_
  rintro x3 σ3 ⟨-, hw3, hF3⟩
  have h3 := h2.wf hw3 hF3
  refine p_pop 46 rfl dX8_years_45 rfl ?_
  refine p_inc_4 49 rfl dX8_years_46 (1) rfl (Nat.le_of_ble_eq_true rfl) rfl ?_
  refine p_goto 28 rfl dX8_years_49 ?_
  rw [nI_1]
  exact kk σ3 h3 (by rw [hF3.2.1 dr0 0 (by decide)]; exact hsd2) (hc2.tr (hF3.aux ho.1.1).w)
theorem pr_eta {α β : Type} (q : α × β) : q = (q.1, q.2) := rfl
theorem yrs_t {O : AO} {q : Int32 × AW} {i : Nat} {s : Int32} {W : AW} (h : yrs O i q = (s, W)) : yrs O (i + 1) q = stepZ O (drwA O (s, W)) := (yrs_1 O i q).trans (congrArg (fun z => stepZ O (drwA O z)) h)
theorem yrs_s {O : AO} {q : Int32 × AW} {i : Nat} {s : Int32} {W : AW} (h : yrs O i q = (s, W)) : (yrs O (i + 1) q).1 = (drwA O (s, W)).1 ∧ (yrs O (i + 1) q).2 = dayF O (drwA O (s, W)).2 :=
  ⟨(congrArg Prod.fst (yrs_t h)).trans (stepZ1 O (drwA O (s, W))), (congrArg Prod.snd (yrs_t h)).trans (stepZ2 O (drwA O (s, W)))⟩
set_option maxRecDepth 4000 in
theorem l_years (hT : IT σ o o' A) {k w : Nat} (hk : k ≤ 40) (hw3 : w < 3) (x : Int32) (S : Nat → Int32) (Y : Nat → AW) (hY0 : ∀ i, i < k → S (i + 1) = (drwA (tO A) (S i, Y i)).1 ∧ Y (i + 1) = dayF (tO A) (drwA (tO A) (S i, Y i)).2) (hYo : ∀ i, i ≤ k → OkV (tO A) (Y i)) : ∀ (n i : Nat) (σ1 : PH), i + n = k → IA σ1 o o' A (Y i) → hI σ1 dr0 0 = S i → Ch (inS sAuxW) σ σ1 → Ok Γ 14 0 0 mX8_years 28 [some (.ref T0), some (.int x), some (.int (nI k)), some (.int (nI w)), some (.int (nI i))] [] σ1 (rS (0, if w = 0 then nI (pop (kAll (tO A) (Y k))) else if w = 1 then nI (aS (tO A)) - nI (pop (shAt (tO A) (Y k) 0)) else nI (pop (inHd (tO A) (Y k)))) false (fun σ' => IT σ' o o' A ∧ Ch cls σ σ')) := by
  intro n
  induction n with
  | zero =>
    intro i σ1 hi h1 hsd hc1
    have hik : i = k := by omega
    subst hik
    exact e_years hT hk hw3 x rfl h1 (hYo i (Nat.le_refl _)) hc1
  | succ n ih =>
    intro i σ1 hi h1 hsd hc1
    have e := hY0 i (by omega)
    refine s_years hT hk x (by omega) h1 (hYo i (by omega)) hsd (fun σ3 h3 hs3 hc3 => ih (i + 1) σ3 (by omega) (by rw [e.2]; exact h3) (by rw [e.1]; exact hs3) (hc1.tr hc3))
set_option maxRecDepth 6000 in
theorem t_years (hT : IT σ o o' A) (x y z : Int32) : CallOk Γ 14 8 48 mX8_years [.ref T0, .int x, .int y, .int z] σ (rS (fYears A x y z) false (fun σ' => IT σ' o o' A ∧ Ch cls σ σ')) := by
  have hS := hT.1
  have hK := hT.2.1
  have hto : hR σ T0 3 = o := hT.2.2.1.2.2.1
  have hQ := hT.2.2.2.1
  have ho := hQ.1
  have hw := hT.2.2.2.2.1.1
  have hwo := hT.2.2.2.2.1.2
  have hv := hK.2.2.2.2.1.1
  have hd9 := hK.2.2.2.2.1.2
  have hY := hK.2.2.2.1
  have hO := hK.2.2.1
  have hs9 := hO.1
  have hc6 := hO.2.1
  have hw12 := hO.2.2.1
  have hk8 := hO.2.2.2.1
  refine p_enter rfl rfl (Nat.le_of_ble_eq_true rfl) rfl ?_
  refine p_iload_n 3 1 rfl rfl dX8_years_0 rfl ?_
  refine p_iconst (3) 2 rfl dX8_years_1 rfl ?_
  refine p_cS2n 5 rfl dX8_years_2 (c_needBelow _ 3) ml_X8_257 sl_X8_needBelow (Nat.le_of_ble_eq_true rfl) (Nat.le_of_ble_eq_true rfl) (Nat.le_of_ble_eq_true rfl) (Nat.le_of_ble_eq_true rfl) rfl (fun h2 => ?_) (fun h2 => ⟨by simp [fYears, gd, h2], hT, Ch.rf⟩)
  obtain ⟨w, rfl, hww⟩ := asN h2 (by decide)
  have hwL : w < 2147483648 := by omega
  refine p_iload_n 2 6 rfl rfl dX8_years_5 rfl ?_
  refine p_iconst (0) 7 rfl dX8_years_6 rfl ?_
  refine p_bipush (40) 9 rfl dX8_years_7 rfl ?_
  refine p_cS3n 12 rfl dX8_years_9 (c_needBetween _ 0 40) ml_X8_267 sl_X8_needBetween (Nat.le_of_ble_eq_true rfl) (Nat.le_of_ble_eq_true rfl) (Nat.le_of_ble_eq_true rfl) (Nat.le_of_ble_eq_true rfl) rfl (fun h9 => ?_) (fun h9 => ⟨by simp [fYears, gd, h2, h9], hT, Ch.rf⟩)
  obtain ⟨k, rfl, hka, hk⟩ := asB h9 (by decide) (by decide)
  have hkL : k < 2147483648 := by omega
  refine p_aload_n 0 13 rfl rfl dX8_years_12 rfl ?_
  refine p_iconst (0) 14 rfl dX8_years_13 rfl ?_
  refine p_cV1v 0 0 17 rfl dX8_years_14 (c_lookAhead (k := 0) hT (by omega)) ml_X8_271 vl_X8_lookAhead rfl (by decide) rfl (Nat.le_of_ble_eq_true rfl) (Nat.le_of_ble_eq_true rfl) (Nat.le_of_ble_eq_true rfl) (Nat.le_of_ble_eq_true rfl) rfl ?_
  rintro σ1 ⟨h1, hc1⟩
  have hS1 := h1.1.1
  refine p_aload_n 0 18 rfl rfl dX8_years_17 rfl ?_
  refine p_getR 8 15 21 rfl dX8_years_18 fl_X8_88 rfl rfl hS1.2.2.2.2.2.2.2.2.2.2.1 (by decide) ?_
  refine p_iload_n 1 22 rfl rfl dX8_years_21 rfl ?_
  refine p_putI 1 0 25 rfl dX8_years_22 fl_X8_364 rfl rfl (Or.inl rfl) ?_
  have hc2 : Ch (inS [69]) σ1 (sI σ1 dr0 0 x) := Fr.ch (XI := [(dr0, 0)]) (X := []) (Fr.sI (by simp)) (by decide) rfl
  refine p_iconst (0) 26 rfl dX8_years_25 rfl ?_
  refine p_ist_4 28 rfl dX8_years_26 (Nat.le_of_ble_eq_true rfl) rfl ?_
  have e : fYears A x (nI k) (nI w) = (0, if w = 0 then nI (pop (kAll (tO A) (yrs (tO A) k (x, tV A)).2)) else if w = 1 then nI (aS (tO A)) - nI (pop (shAt (tO A) (yrs (tO A) k (x, tV A)).2 0)) else nI (pop (inHd (tO A) (yrs (tO A) k (x, tV A)).2))) := by simp [fYears, gd, h2, h9, iN_nI hkL, iN_nI hwL]
  rw [e]
  exact l_years hT hk hww x (fun i => (yrs (tO A) i (x, tV A)).1) (fun i => (yrs (tO A) i (x, tV A)).2) (fun i _ => yrs_s (pr_eta _)) (fun i hi => (yrs_ok (x := x) hv hO i (by omega)).1) k 0 (sI σ1 dr0 0 x) (by omega) (h1.ch hc2 (by decide) (by decide)) (hI_sI _ _ _ _) (hc1.w.tr (hc2.more (by decide)))
end C58
