/-! ===== forging, undoing, hearing, the image, feeding ===== -/
def hrOk (A : AT) (z : Int32) : Bool := decide ((tH A).length < 8) && btw z 0 12
def fHear (A : AT) (x y z : Int32) : Nat × Int32 := gd (inR x (aC (tO A))) 1 (gd (inR y (aW (tO A))) 1 (0, if hrOk A z = true then nI ((tH A).length + 1) else -1))
def nHear (A : AT) (x y z : Int32) (b : Bool) : AT := if inR x (aC (tO A)) = true ∧ inR y (aW (tO A)) = true then (if hrOk A z = true then uH A (tH A ++ [(iN x, iN y, iN z, b)]) else uR A 2) else A
def nImage (A : AT) : AT := uI A (some (tV A, tA A, tH A))
def nRestore (A : AT) : AT := match tI A with
  | none => A
  | some q => (tB A, tN A, tF A, tO A, q.1, q.2.1, q.2.2, tI A, tX A, tY A, tZ A)
/-- a number's four bytes at the tape's end -/
def byt (x : Int32) (j : Nat) : Nat := x.toUInt32.toNat / 2 ^ (24 - 8 * j) % 256
def putB (b : Nat → Nat) (n : Nat) (x : Int32) (j : Nat) : Nat → Nat := fun i => if n ≤ i ∧ i < n + j then byt x (i - n) else b i
def feedB (b : Nat → Nat) (n : Nat) (xs : List Int32) : Nat → Nat := match xs with
  | [] => b
  | x :: r => feedB (putB b n x 4) (n + 4) r
def fFeed (A : AT) : Nat × Int32 := (0, if tN A + 20 ≤ 700 then nI (tN A + 20) else -1)
def nFeed (A : AT) (a b c d e : Int32) : AT := if tN A + 20 ≤ 700 then uT A (feedB (tB A) (tN A) [a, b, c, d, e]) (tN A + 20) else A
theorem byt_lt (x : Int32) (j : Nat) : byt x j < 256 := Nat.mod_lt _ (by decide)
theorem putB_0 (b : Nat → Nat) (n : Nat) (x : Int32) : putB b n x 0 = b := by
  funext i
  unfold putB
  rw [if_neg (by omega)]
theorem putB_ok {b : Nat → Nat} (h : ∀ i, b i < 256) (n : Nat) (x : Int32) (j : Nat) : ∀ i, putB b n x j i < 256 := by
  intro i; unfold putB; split
  · exact byt_lt _ _
  · exact h i
section C53
variable {Γ : Gm} {σ : PH} {o o' : Nat} {A : AT}
set_option maxRecDepth 6000 in
theorem t_forge (hT : IT σ o o' A) (x y z : Int32) : CallOk Γ 14 8 48 mX8_forge [.ref T0, .int x, .int y, .int z] σ (rS (fForge A x y z) false (fun σ' => IT σ' o o' (nForge A x y z) ∧ Ch cls σ σ')) := by
  have hS := hT.1
  have hK := hT.2.1
  have hto : hR σ T0 3 = o := hT.2.2.1.2.2.1
  have hQ := hT.2.2.2.1
  have ho := hQ.1
  have hw := hT.2.2.2.2.1.1
  have hwo := hT.2.2.2.2.1.2
  have hv := hK.2.2.2.2.1.1
  have hd9 := hK.2.2.2.2.1.2
  have hY := hK.2.2.2.1
  have hO := hK.2.2.1
  have hs9 := hO.1
  have hc6 := hO.2.1
  have hw12 := hO.2.2.1
  have hk8 := hO.2.2.2.1
  refine p_enter rfl rfl (Nat.le_of_ble_eq_true rfl) rfl ?_
  refine p_aload_n 0 1 rfl rfl dX8_forge_0 rfl ?_
  refine p_iload_n 1 2 rfl rfl dX8_forge_1 rfl ?_
  refine p_cV1n 5 rfl dX8_forge_2 (c_needSheet hto hQ _) ml_X8_172 vl_X8_needSheet rfl (by decide) rfl (Nat.le_of_ble_eq_true rfl) (Nat.le_of_ble_eq_true rfl) (Nat.le_of_ble_eq_true rfl) (Nat.le_of_ble_eq_true rfl) rfl (fun h2 => ?_) (fun h2 => ⟨by simp [fForge, gd, frOk, h2], by rw [nForge, if_neg (by simp [frOk, h2])]; exact hT, Ch.rf⟩)
  obtain ⟨s, rfl, hs⟩ := asN h2 (by omega)
  have hsL : s < 2147483648 := by omega
  refine p_iload_n 2 6 rfl rfl dX8_forge_5 rfl ?_
  refine p_iconst (2) 7 rfl dX8_forge_6 rfl ?_
  refine p_cS2n 10 rfl dX8_forge_7 (c_needBelow _ 2) ml_X8_257 sl_X8_needBelow (Nat.le_of_ble_eq_true rfl) (Nat.le_of_ble_eq_true rfl) (Nat.le_of_ble_eq_true rfl) (Nat.le_of_ble_eq_true rfl) rfl (fun h7 => ?_) (fun h7 => ⟨by simp [fForge, gd, frOk, h7], by rw [nForge, if_neg (by simp [frOk, h7])]; exact hT, Ch.rf⟩)
  obtain ⟨k, rfl, hk⟩ := asN h7 (by omega)
  have hkL : k < 2147483648 := by omega
  refine p_iload_n 3 11 rfl rfl dX8_forge_10 rfl ?_
  refine p_bipush (8) 13 rfl dX8_forge_11 rfl ?_
  refine p_cS2n 16 rfl dX8_forge_13 (c_needBelow _ 8) ml_X8_257 sl_X8_needBelow (Nat.le_of_ble_eq_true rfl) (Nat.le_of_ble_eq_true rfl) (Nat.le_of_ble_eq_true rfl) (Nat.le_of_ble_eq_true rfl) rfl (fun h13 => ?_) (fun h13 => ⟨by simp [fForge, gd, frOk, h13], by rw [nForge, if_neg (by simp [frOk, h13])]; exact hT, Ch.rf⟩)
  obtain ⟨z, rfl, hz⟩ := asN h13 (by omega)
  have hzL : z < 2147483648 := by omega
  have hfr : frOk A (nI s) (nI k) (nI z) = true := by simp [frOk, h2, h7, h13]
  refine p_aload_n 0 17 rfl rfl dX8_forge_16 rfl ?_
  refine p_getR 8 6 20 rfl dX8_forge_17 fl_X8_44 rfl rfl hS.2.2.1 (by decide) ?_
  refine p_getR 7 4 23 rfl dX8_forge_20 fl_X8_254 rfl rfl hw.1.2.2.2.1 (mk0 (Nat.succ_ne_zero _)) ?_
  refine p_iload_n 1 24 rfl rfl dX8_forge_23 rfl ?_
  refine p_ialdE 25 rfl dX8_forge_24 (kd16 _ _) (lt9 (by omega)) (hw.2.2.1 s (by omega)).2.2 ?_
  refine p_iconst (-1) 26 rfl dX8_forge_25 rfl ?_
  refine p_icmp_ne 41 29 rfl rfl dX8_forge_26 (fun h26 => ?_) (fun h26 => ?_)
  · refine p_aload_n 0 42 rfl rfl dX8_forge_41 rfl ?_
    refine p_getR 8 8 45 rfl dX8_forge_42 fl_X8_54 rfl rfl hS.2.2.2.2.1 (by decide) ?_
    refine p_aload_n 0 46 rfl rfl dX8_forge_45 rfl ?_
    refine p_getR 8 6 49 rfl dX8_forge_46 fl_X8_44 rfl rfl hS.2.2.1 (by decide) ?_
    refine p_cV1v 0 0 52 rfl dX8_forge_49 (c_keep (V := tV A) hT.2.2.2.2.2.2.1 hw (fun s hs => hv.2.1 s hs)) ml_X8_248 vl_X0_keep rfl (by decide) rfl (Nat.le_of_ble_eq_true rfl) (Nat.le_of_ble_eq_true rfl) (Nat.le_of_ble_eq_true rfl) (Nat.le_of_ble_eq_true rfl) rfl ?_
    rintro σ1 ⟨hA1, hF1⟩
    have hK1 := hT.keep hA1 hF1
    have hT1 := hK1.1
    have hS1 := hT1.1
    have hto1 : hR σ1 T0 3 = o := hT1.2.2.1.2.2.1
    have hQ1 : RpQ σ1 o (tO A) := hT1.2.2.2.1
    have ho1 := hQ1.1
    have hw1 : RpW σ1 wN (tV A) := hT1.2.2.2.2.1.1
    have hwo1 := hT1.2.2.2.2.1.2
    refine p_iload_n 2 53 rfl rfl dX8_forge_52 rfl ?_
    refine p_if_ne 66 56 rfl rfl dX8_forge_53 (fun h53 => ?_) (fun h53 => ?_)
    · refine p_aload_n 0 67 rfl rfl dX8_forge_66 rfl ?_
      refine p_getR 8 6 70 rfl dX8_forge_67 fl_X8_44 rfl rfl hS1.2.2.1 (by decide) ?_
      refine p_getR 7 3 73 rfl dX8_forge_70 fl_X8_178 rfl rfl hw1.1.2.2.1 (mk0 (Nat.succ_ne_zero _)) ?_
      refine p_ast_4 75 rfl dX8_forge_73 (Nat.le_of_ble_eq_true rfl) rfl ?_
      refine p_aload 4 77 rfl dX8_forge_75 rfl ?_
      refine p_iload_n 1 78 rfl rfl dX8_forge_77 rfl ?_
      refine p_dup2 79 rfl dX8_forge_78 rfl rfl ?_
      refine p_ialdE 80 rfl dX8_forge_79 (kd16 _ _) (lt9 (by omega)) (hw1.2.2.1 s (by omega)).2.1 ?_
      refine p_iconst (1) 81 rfl dX8_forge_80 rfl ?_
      refine p_iload_n 3 82 rfl rfl dX8_forge_81 rfl ?_
      refine p_ishl 83 rfl dX8_forge_82 ?_
      refine p_ixor 84 rfl dX8_forge_83 ?_
      rw [one_shl _ (by omega), nx_xor]
      refine p_iastE 85 rfl dX8_forge_84 (kd16 _ _) (lt9 (by omega)) ?_
      refine p_aload 4 87 rfl dX8_forge_85 rfl ?_
      refine p_iload_n 1 88 rfl rfl dX8_forge_87 rfl ?_
      refine p_ialdE 89 rfl dX8_forge_88 (kd16 _ _) (lt9 (by omega)) ((congrFun (sA_s _ _ _ _) s).trans pk_us) ?_
      exact p_iret dX8_forge_89 rfl (by
        have e : ¬ vP (tV A) s = 0 := fun q => h26 (by rw [q]; rfl)
        have ek : ¬ k = 0 := fun q => h53 (by rw [q]; rfl)
        have hfg : forged (tV A) s k z = wRt (tV A) (va_up (vR (tV A)) s (vR (tV A) s ^^^ 2 ^ z)) := by simp [forged, ek]
        have hN := (hT1.now (A := uV A (tV A) (kp (tA A) (tV A))) (σ' := sA σ1 (wR wN) s (nI (vR (tV A) s ^^^ 2 ^ z))) (V := forged (tV A) s k z) (Fr.ch (XI := []) (X := [wR wN]) (Fr.sA (by simp)) rfl (by decide)) (by rw [hfg]; exact hw1.setR) hwo1 (OkU_forged hK.2.2.2.2.1 (by omega) (by omega)))
        exact ⟨by rw [fForge, gd, if_pos hfr, iN_nI hsL, iN_nI hkL, iN_nI hzL, if_neg e]; simp [ek], by rw [nForge, if_pos hfr, iN_nI hsL, iN_nI hkL, iN_nI hzL, if_neg e]; exact hN.1, (hK1.2.tr hN.2).act⟩)
    · refine p_aload_n 0 57 rfl rfl dX8_forge_56 rfl ?_
      refine p_getR 8 6 60 rfl dX8_forge_57 fl_X8_44 rfl rfl hS1.2.2.1 (by decide) ?_
      refine p_getR 7 2 63 rfl dX8_forge_60 fl_X8_175 rfl rfl hw1.1.2.1 (mk0 (Nat.succ_ne_zero _)) ?_
      refine p_goto 73 rfl dX8_forge_63 ?_
      refine p_ast_4 75 rfl dX8_forge_73 (Nat.le_of_ble_eq_true rfl) rfl ?_
      refine p_aload 4 77 rfl dX8_forge_75 rfl ?_
      refine p_iload_n 1 78 rfl rfl dX8_forge_77 rfl ?_
      refine p_dup2 79 rfl dX8_forge_78 rfl rfl ?_
      refine p_ialdE 80 rfl dX8_forge_79 (kd16 _ _) (lt9 (by omega)) (hw1.2.2.1 s (by omega)).1 ?_
      refine p_iconst (1) 81 rfl dX8_forge_80 rfl ?_
      refine p_iload_n 3 82 rfl rfl dX8_forge_81 rfl ?_
      refine p_ishl 83 rfl dX8_forge_82 ?_
      refine p_ixor 84 rfl dX8_forge_83 ?_
      rw [one_shl _ (by omega), nx_xor]
      refine p_iastE 85 rfl dX8_forge_84 (kd16 _ _) (lt9 (by omega)) ?_
      refine p_aload 4 87 rfl dX8_forge_85 rfl ?_
      refine p_iload_n 1 88 rfl rfl dX8_forge_87 rfl ?_
      refine p_ialdE 89 rfl dX8_forge_88 (kd16 _ _) (lt9 (by omega)) ((congrFun (sA_s _ _ _ _) s).trans pk_us) ?_
      exact p_iret dX8_forge_89 rfl (by
        have e : ¬ vP (tV A) s = 0 := fun q => h26 (by rw [q]; rfl)
        have ek : k = 0 := by
          rcases Nat.eq_zero_or_pos k with q | q
          · exact q
          · exact absurd h53 (nI_ne0 q (by omega))
        have hfg : forged (tV A) s k z = wLf (tV A) (va_up (vL (tV A)) s (vL (tV A) s ^^^ 2 ^ z)) := by simp [forged, ek]
        have hN := (hT1.now (A := uV A (tV A) (kp (tA A) (tV A))) (σ' := sA σ1 (wL wN) s (nI (vL (tV A) s ^^^ 2 ^ z))) (V := forged (tV A) s k z) (Fr.ch (XI := []) (X := [wL wN]) (Fr.sA (by simp)) rfl (by decide)) (by rw [hfg]; exact hw1.setL) hwo1 (OkU_forged hK.2.2.2.2.1 (by omega) (by omega)))
        exact ⟨by rw [fForge, gd, if_pos hfr, iN_nI hsL, iN_nI hkL, iN_nI hzL, if_neg e]; simp [ek], by rw [nForge, if_pos hfr, iN_nI hsL, iN_nI hkL, iN_nI hzL, if_neg e]; exact hN.1, (hK1.2.tr hN.2).act⟩)
  · refine p_aload_n 0 30 rfl rfl dX8_forge_29 rfl ?_
    refine p_getR 8 16 33 rfl dX8_forge_30 fl_X8_92 rfl rfl hS.2.2.2.2.2.2.2.2.2.2.2.1 (by decide) ?_
    refine p_iconst (1) 34 rfl dX8_forge_33 rfl ?_
    refine p_dup2 35 rfl dX8_forge_34 rfl rfl ?_
    refine p_ialdE 36 rfl dX8_forge_35 (i := 1) rfl (by decide) rfl ?_
    refine p_iconst (1) 37 rfl dX8_forge_36 rfl ?_
    refine p_iadd 38 rfl dX8_forge_37 ?_
    refine p_iastE 39 rfl dX8_forge_38 (i := 1) rfl (by decide) ?_
    refine p_iconst (-1) 40 rfl dX8_forge_39 rfl ?_
    exact p_iret dX8_forge_40 rfl ⟨by
        have e := (pI_m1 (by have := (hv.2.1 s (by omega)).2.2; omega)).mp h26
        simp [fForge, gd, hfr, iN_nI hsL, e], by
        have e := (pI_m1 (by have := (hv.2.1 s (by omega)).2.2; omega)).mp h26
        rw [nForge, if_pos hfr, iN_nI hsL, if_pos e]; exact (hT.refuse (i := 1) (by decide)).1, (hT.refuse (i := 1) (by decide)).2⟩
set_option maxRecDepth 6000 in
theorem t_undo (hT : IT σ o o' A)  : CallOk Γ 14 8 48 mX8_undo [.ref T0] σ (rS (fUndo A) false (fun σ' => IT σ' o o' (nUndo A) ∧ Ch cls σ σ')) := by
  have hS := hT.1
  have hK := hT.2.1
  have hto : hR σ T0 3 = o := hT.2.2.1.2.2.1
  have hQ := hT.2.2.2.1
  have ho := hQ.1
  have hw := hT.2.2.2.2.1.1
  have hwo := hT.2.2.2.2.1.2
  have hv := hK.2.2.2.2.1.1
  have hd9 := hK.2.2.2.2.1.2
  have hY := hK.2.2.2.1
  have hO := hK.2.2.1
  have hs9 := hO.1
  have hc6 := hO.2.1
  have hw12 := hO.2.2.1
  have hk8 := hO.2.2.2.1
  refine p_enter rfl rfl (Nat.le_of_ble_eq_true rfl) rfl ?_
  refine p_aload_n 0 1 rfl rfl dX8_undo_0 rfl ?_
  refine p_getR 8 8 4 rfl dX8_undo_1 fl_X8_54 rfl rfl hS.2.2.2.2.1 (by decide) ?_
  refine p_getIE 0 0 7 rfl dX8_undo_4 fl_X8_163 rfl rfl hT.2.2.2.2.2.2.1.2.2.2.1 ?_
  refine p_if_ne 12 10 rfl rfl dX8_undo_7 (fun h7 => ?_) (fun h7 => ?_)
  · have hne : (tA A).length ≠ 0 := fun q => h7 (by rw [q]; rfl)
    obtain ⟨V, hV⟩ : ∃ V, (tA A).getLast? = some V := by
      cases hl : tA A with
      | nil => rw [hl] at hne; exact absurd rfl hne
      | cons a l => exact ⟨_, List.getLast?_eq_getLast (List.cons_ne_nil a l)⟩
    have hsp : (tA A).dropLast ++ [V] = tA A := by
      obtain ⟨l, hl⟩ := List.getLast?_eq_some_iff.mp hV
      rw [hl]; simp
    have hmem : V ∈ tA A := by rw [← hsp]; simp
    have hlen : (tA A).dropLast.length = (tA A).length - 1 := List.length_dropLast
    have hAa := hT.2.2.2.2.2.2.1
    rw [← hsp] at hAa
    refine p_aload_n 0 13 rfl rfl dX8_undo_12 rfl ?_
    refine p_getR 8 8 16 rfl dX8_undo_13 fl_X8_54 rfl rfl hS.2.2.2.2.1 (by decide) ?_
    refine p_aload_n 0 17 rfl rfl dX8_undo_16 rfl ?_
    refine p_getR 8 6 20 rfl dX8_undo_17 fl_X8_44 rfl rfl hS.2.2.1 (by decide) ?_
    refine p_cV1v 0 0 23 rfl dX8_undo_20 (c_takeBack hAa hw) ml_X8_264 vl_X0_takeBack rfl (by decide) rfl (Nat.le_of_ble_eq_true rfl) (Nat.le_of_ble_eq_true rfl) (Nat.le_of_ble_eq_true rfl) (Nat.le_of_ble_eq_true rfl) rfl ?_
    rintro σ1 ⟨hA1, hw1, hF1⟩
    have hc1 : Ch (inS [32, 33, 34, 35, 36, 44]) σ σ1 := hF1.ch (by decide) (by decide)
    have n0 : hR σ1 wN = hR σ wN := by rw [hF1.2.2.2.1]
    have rf := hc1.2.2.2.2 18350192 rfl
    have hT1 : IT σ1 o o' (uV A V (tA A).dropLast) := by
      refine hT.act (hc1.more (by decide)) ⟨hK.1, hK.2.1, hK.2.2.1, hK.2.2.2.1, hK.2.2.2.2.2.2.1 V hmem, ?_, fun W hW => ?_, hK.2.2.2.2.2.2.2⟩ rfl rfl rfl rfl rfl ⟨hw1, by rw [n0]; exact hwo⟩ hA1 (hT.2.2.2.2.2.2.2.1.ch hc1 (by decide)) (by rw [rf.2.1]; exact hT.2.2.2.2.2.2.2.2.2.2.2)
      · have := hK.2.2.2.2.2.1
        show (tA A).dropLast.length ≤ 40
        omega
      · exact hK.2.2.2.2.2.2.1 W (List.dropLast_subset _ hW)
    refine p_aload_n 0 24 rfl rfl dX8_undo_23 rfl ?_
    refine p_getR 8 8 27 rfl dX8_undo_24 fl_X8_54 rfl rfl hT1.1.2.2.2.2.1 (by decide) ?_
    refine p_getIE 0 0 30 rfl dX8_undo_27 fl_X8_163 rfl rfl hA1.2.2.2.1 ?_
    exact p_iret dX8_undo_30 rfl (by
      exact ⟨by rw [hlen]; simp [fUndo, hne], by rw [nUndo, hV]; exact hT1, hc1.toC (by decide)⟩)
  · refine p_iconst (-1) 11 rfl dX8_undo_10 rfl ?_
    exact p_iret dX8_undo_11 rfl (by
      have e : (tA A).length = 0 := by
        rcases Nat.eq_zero_or_pos (tA A).length with q | q
        · exact q
        · exact absurd h7 (nI_ne0 q (by have := hK.2.2.2.2.2.1; omega))
      have e2 : tA A = [] := List.length_eq_zero_iff.mp e
      exact ⟨by simp [fUndo, e], by rw [nUndo, e2]; exact hT, Ch.rf⟩)
set_option maxRecDepth 6000 in
theorem t_hear (hT : IT σ o o' A) (x y z : Int32) (b : Bool) : CallOk Γ 14 8 48 mX8_hear [.ref T0, .int x, .int y, .int z, .int (b2i b)] σ (rS (fHear A x y z) false (fun σ' => IT σ' o o' (nHear A x y z b) ∧ Ch cls σ σ')) := by
  have hS := hT.1
  have hK := hT.2.1
  have hto : hR σ T0 3 = o := hT.2.2.1.2.2.1
  have hQ := hT.2.2.2.1
  have ho := hQ.1
  have hw := hT.2.2.2.2.1.1
  have hwo := hT.2.2.2.2.1.2
  have hv := hK.2.2.2.2.1.1
  have hd9 := hK.2.2.2.2.1.2
  have hY := hK.2.2.2.1
  have hO := hK.2.2.1
  have hs9 := hO.1
  have hc6 := hO.2.1
  have hw12 := hO.2.2.1
  have hk8 := hO.2.2.2.1
  refine p_enter rfl rfl (Nat.le_of_ble_eq_true rfl) rfl ?_
  refine p_aload_n 0 1 rfl rfl dX8_hear_0 rfl ?_
  refine p_iload_n 1 2 rfl rfl dX8_hear_1 rfl ?_
  refine p_cV1n 5 rfl dX8_hear_2 (c_needClerk hto hQ _) ml_X8_194 vl_X8_needClerk rfl (by decide) rfl (Nat.le_of_ble_eq_true rfl) (Nat.le_of_ble_eq_true rfl) (Nat.le_of_ble_eq_true rfl) (Nat.le_of_ble_eq_true rfl) rfl (fun h2 => ?_) (fun h2 => ⟨by simp [fHear, gd, h2], by rw [nHear, if_neg (fun z => h2 (by simp_all))]; exact hT, Ch.rf⟩)
  obtain ⟨s, rfl, hs⟩ := asN h2 (by omega)
  have hsL : s < 2147483648 := by omega
  refine p_aload_n 0 6 rfl rfl dX8_hear_5 rfl ?_
  refine p_iload_n 2 7 rfl rfl dX8_hear_6 rfl ?_
  refine p_cV1n 10 rfl dX8_hear_7 (c_needWord hto hQ _) ml_X8_211 vl_X8_needWord rfl (by decide) rfl (Nat.le_of_ble_eq_true rfl) (Nat.le_of_ble_eq_true rfl) (Nat.le_of_ble_eq_true rfl) (Nat.le_of_ble_eq_true rfl) rfl (fun h7 => ?_) (fun h7 => ⟨by simp [fHear, gd, h2, h7], by rw [nHear, if_neg (fun z => h7 (by simp_all))]; exact hT, Ch.rf⟩)
  obtain ⟨k, rfl, hk⟩ := asN h7 (by omega)
  have hkL : k < 2147483648 := by omega
  refine p_aload_n 0 11 rfl rfl dX8_hear_10 rfl ?_
  refine p_getR 8 9 14 rfl dX8_hear_11 fl_X8_61 rfl rfl hS.2.2.2.2.2.1 (by decide) ?_
  refine p_getIE 3 0 17 rfl dX8_hear_14 fl_X8_166 rfl rfl hT.2.2.2.2.2.2.2.1.2.2.1 ?_
  refine p_bipush (8) 19 rfl dX8_hear_17 rfl ?_
  refine p_icmp_ge 32 22 rfl rfl dX8_hear_19 (fun h19 => ?_) (fun h19 => ?_)
  · refine p_aload_n 0 33 rfl rfl dX8_hear_32 rfl ?_
    refine p_getR 8 16 36 rfl dX8_hear_33 fl_X8_92 rfl rfl hS.2.2.2.2.2.2.2.2.2.2.2.1 (by decide) ?_
    refine p_iconst (2) 37 rfl dX8_hear_36 rfl ?_
    refine p_dup2 38 rfl dX8_hear_37 rfl rfl ?_
    refine p_ialdE 39 rfl dX8_hear_38 (i := 2) rfl (by decide) rfl ?_
    refine p_iconst (1) 40 rfl dX8_hear_39 rfl ?_
    refine p_iadd 41 rfl dX8_hear_40 ?_
    refine p_iastE 42 rfl dX8_hear_41 (i := 2) rfl (by decide) ?_
    refine p_iconst (-1) 43 rfl dX8_hear_42 rfl ?_
    exact p_iret dX8_hear_43 rfl (by
      have hn : ¬ hrOk A z = true := by have : ¬ (tH A).length < 8 := fun q => nI_ge (b := 8) q (by decide) h19; simp [hrOk, this]
      exact ⟨by simp [fHear, gd, h2, h7, hn], by rw [nHear, if_pos ⟨h2, h7⟩, if_neg hn]; exact (hT.refuse (i := 2) (by decide)).1, (hT.refuse (i := 2) (by decide)).2⟩)
  · refine p_iload_n 3 23 rfl rfl dX8_hear_22 rfl ?_
    refine p_if_lt 32 26 rfl rfl dX8_hear_23 (fun h23 => ?_) (fun h23 => ?_)
    · refine p_aload_n 0 33 rfl rfl dX8_hear_32 rfl ?_
      refine p_getR 8 16 36 rfl dX8_hear_33 fl_X8_92 rfl rfl hS.2.2.2.2.2.2.2.2.2.2.2.1 (by decide) ?_
      refine p_iconst (2) 37 rfl dX8_hear_36 rfl ?_
      refine p_dup2 38 rfl dX8_hear_37 rfl rfl ?_
      refine p_ialdE 39 rfl dX8_hear_38 (i := 2) rfl (by decide) rfl ?_
      refine p_iconst (1) 40 rfl dX8_hear_39 rfl ?_
      refine p_iadd 41 rfl dX8_hear_40 ?_
      refine p_iastE 42 rfl dX8_hear_41 (i := 2) rfl (by decide) ?_
      refine p_iconst (-1) 43 rfl dX8_hear_42 rfl ?_
      exact p_iret dX8_hear_43 rfl (by
      have hn : ¬ hrOk A z = true := by simp [hrOk, btw, Int32.not_le.mpr (show z < nI 0 from h23)]
      exact ⟨by simp [fHear, gd, h2, h7, hn], by rw [nHear, if_pos ⟨h2, h7⟩, if_neg hn]; exact (hT.refuse (i := 2) (by decide)).1, (hT.refuse (i := 2) (by decide)).2⟩)
    · refine p_iload_n 3 27 rfl rfl dX8_hear_26 rfl ?_
      refine p_bipush (12) 29 rfl dX8_hear_27 rfl ?_
      refine p_icmp_le 44 32 rfl rfl dX8_hear_29 (fun h29 => ?_) (fun h29 => ?_)
      · have hb : btw z 0 12 = true := by simp only [btw, Bool.and_eq_true, decide_eq_true_eq]; exact ⟨Int32.not_lt.mp h23, h29⟩
        obtain ⟨q, rfl, hqa, hq⟩ := asB hb (by decide) (by decide)
        have hqL : q < 2147483648 := by omega
        have hl8 : (tH A).length < 8 := Nat.lt_of_not_le (fun z => h19 (nI_le (a := 8) z (by have := hK.2.2.2.2.2.2.2.1.1; omega)))
        have hok : hrOk A (nI q) = true := by simp [hrOk, hl8, hb]
        refine p_aload_n 0 45 rfl rfl dX8_hear_44 rfl ?_
        refine p_getR 8 9 48 rfl dX8_hear_45 fl_X8_61 rfl rfl hS.2.2.2.2.2.1 (by decide) ?_
        refine p_iload_n 1 49 rfl rfl dX8_hear_48 rfl ?_
        refine p_iload_n 2 50 rfl rfl dX8_hear_49 rfl ?_
        refine p_iload_n 3 51 rfl rfl dX8_hear_50 rfl ?_
        refine p_iload 4 53 rfl dX8_hear_51 rfl ?_
        refine p_cV4v 0 0 56 rfl dX8_hear_53 (c_Hadd hT.2.2.2.2.2.2.2.1 hl8 s k q b) ml_X8_327 vl_X3_add rfl (by decide) rfl (Nat.le_of_ble_eq_true rfl) (Nat.le_of_ble_eq_true rfl) (Nat.le_of_ble_eq_true rfl) (Nat.le_of_ble_eq_true rfl) rfl ?_
        rintro σ1 ⟨hH1, hF1⟩
        have hc1 : Ch (inS [46, 47, 48, 49, 50]) σ σ1 := hF1.ch (by decide) (by decide)
        have n0 := hc1.2.2.2.2 wN rfl
        have rf := hc1.2.2.2.2 18350192 rfl
        have hT1 : IT σ1 o o' (uH A (tH A ++ [(s, k, q, b)])) := by
          refine hT.act (hc1.more (by decide)) ⟨hK.1, hK.2.1, hK.2.2.1, hK.2.2.2.1, hK.2.2.2.2.1, hK.2.2.2.2.2.1, hK.2.2.2.2.2.2.1, ⟨?_, fun e he => ?_⟩, hK.2.2.2.2.2.2.2.2⟩ rfl rfl rfl rfl rfl ⟨hw.ch hc1 (by decide), by rw [n0.2.2]; exact hwo⟩ (hT.2.2.2.2.2.2.1.ch hc1 (by decide)) hH1 (by rw [rf.2.1]; exact hT.2.2.2.2.2.2.2.2.2.2.2)
          · show (tH A ++ [(s, k, q, b)]).length ≤ 8
            simp; omega
          · rcases List.mem_append.mp he with g | g
            · exact hK.2.2.2.2.2.2.2.1.2 e g
            · rw [List.mem_singleton] at g; subst g; exact ⟨hs, hk, hq⟩
        refine p_aload_n 0 57 rfl rfl dX8_hear_56 rfl ?_
        refine p_getR 8 9 60 rfl dX8_hear_57 fl_X8_61 rfl rfl hT1.1.2.2.2.2.2.1 (by decide) ?_
        refine p_getIE 3 0 63 rfl dX8_hear_60 fl_X8_166 rfl rfl hH1.2.2.1 ?_
        exact p_iret dX8_hear_63 rfl (by
      exact ⟨by simp [fHear, gd, h2, h7, hok], by rw [nHear, if_pos ⟨h2, h7⟩, if_pos hok, iN_nI hsL, iN_nI hkL, iN_nI hqL]; exact hT1, hc1.toC (by decide)⟩)
      · refine p_aload_n 0 33 rfl rfl dX8_hear_32 rfl ?_
        refine p_getR 8 16 36 rfl dX8_hear_33 fl_X8_92 rfl rfl hS.2.2.2.2.2.2.2.2.2.2.2.1 (by decide) ?_
        refine p_iconst (2) 37 rfl dX8_hear_36 rfl ?_
        refine p_dup2 38 rfl dX8_hear_37 rfl rfl ?_
        refine p_ialdE 39 rfl dX8_hear_38 (i := 2) rfl (by decide) rfl ?_
        refine p_iconst (1) 40 rfl dX8_hear_39 rfl ?_
        refine p_iadd 41 rfl dX8_hear_40 ?_
        refine p_iastE 42 rfl dX8_hear_41 (i := 2) rfl (by decide) ?_
        refine p_iconst (-1) 43 rfl dX8_hear_42 rfl ?_
        exact p_iret dX8_hear_43 rfl (by
      have hn : ¬ hrOk A z = true := by simp [hrOk, btw, Int32.not_le.mp (show ¬ z ≤ nI 12 from h29)]
      exact ⟨by simp [fHear, gd, h2, h7, hn], by rw [nHear, if_pos ⟨h2, h7⟩, if_neg hn]; exact (hT.refuse (i := 2) (by decide)).1, (hT.refuse (i := 2) (by decide)).2⟩)
set_option maxRecDepth 4000 in
theorem t_forget (hT : IT σ o o' A) : CallOk Γ 14 8 48 mX8_forget [.ref T0] σ (rV (fun σ' => IT σ' o o' (uH A []) ∧ Ch cls σ σ')) := by
  have hS := hT.1
  have hK := hT.2.1
  have hto : hR σ T0 3 = o := hT.2.2.1.2.2.1
  have hQ := hT.2.2.2.1
  have ho := hQ.1
  have hw := hT.2.2.2.2.1.1
  have hwo := hT.2.2.2.2.1.2
  have hv := hK.2.2.2.2.1.1
  have hd9 := hK.2.2.2.2.1.2
  have hY := hK.2.2.2.1
  have hO := hK.2.2.1
  have hs9 := hO.1
  have hc6 := hO.2.1
  have hw12 := hO.2.2.1
  have hk8 := hO.2.2.2.1
  refine p_enter rfl rfl (Nat.le_of_ble_eq_true rfl) rfl ?_
  refine p_aload_n 0 1 rfl rfl dX8_forget_0 rfl ?_
  refine p_getR 8 9 4 rfl dX8_forget_1 fl_X8_61 rfl rfl hS.2.2.2.2.2.1 (by decide) ?_
  refine p_cV0v 0 0 7 rfl dX8_forget_4 (c_Hclear hT.2.2.2.2.2.2.2.1.1) ml_X8_130 vl_X3_clear rfl (by decide) rfl (Nat.le_of_ble_eq_true rfl) (Nat.le_of_ble_eq_true rfl) (Nat.le_of_ble_eq_true rfl) (Nat.le_of_ble_eq_true rfl) rfl ?_
  rintro σ1 ⟨hH1, hF1⟩
  have hc1 : Ch (inS [46]) σ σ1 := hF1.ch (by decide) (by decide)
  have n0 := hc1.2.2.2.2 wN rfl
  have rf := hc1.2.2.2.2 18350192 rfl
  have hT1 : IT σ1 o o' (uH A []) := by
    refine hT.act (hc1.more (by decide)) ⟨hK.1, hK.2.1, hK.2.2.1, hK.2.2.2.1, hK.2.2.2.2.1, hK.2.2.2.2.2.1, hK.2.2.2.2.2.2.1, ⟨Nat.zero_le _, fun e he => absurd he (by simp [uH, tH])⟩, hK.2.2.2.2.2.2.2.2⟩ rfl rfl rfl rfl rfl ⟨hw.ch hc1 (by decide), by rw [n0.2.2]; exact hwo⟩ (hT.2.2.2.2.2.2.1.ch hc1 (by decide)) hH1 (by rw [rf.2.1]; exact hT.2.2.2.2.2.2.2.2.2.2.2)
  exact p_vret dX8_forget_7 rfl ⟨rfl, hT1, hc1.toC (by decide)⟩
end C53
