/-! ===== acts ===== -/
def uV (A : AT) (V : AW) (Ls : List AW) : AT := (tB A, tN A, tF A, tO A, V, Ls, tH A, tI A, tX A, tY A, tZ A)
def uR (A : AT) (i : Nat) : AT := (tB A, tN A, tF A, tO A, tV A, tA A, tH A, tI A, if i = 0 then tX A + 1 else tX A, if i = 1 then tY A + 1 else tY A, if i = 2 then tZ A + 1 else tZ A)
def uH (A : AT) (Hs : List Hr) : AT := (tB A, tN A, tF A, tO A, tV A, tA A, Hs, tI A, tX A, tY A, tZ A)
def uI (A : AT) (im : Option (AW × List AW × List Hr)) : AT := (tB A, tN A, tF A, tO A, tV A, tA A, tH A, im, tX A, tY A, tZ A)
def uT (A : AT) (b : Nat → Nat) (n : Nat) : AT := (b, n, tF A, tO A, tV A, tA A, tH A, tI A, tX A, tY A, tZ A)
def sBig : List Nat := [1, 2, 13, 16, 27, 30, 31, 32, 33, 34, 35, 36, 37, 38, 39, 40, 41, 42, 43, 44, 45, 46, 47, 48, 49, 50, 51, 52, 53, 54, 55, 56, 57, 58, 59, 60, 61, 62, 63, 64, 65, 66, 67, 68, 69, 70, 71]
/-- all that may change under a call that reads no text, given part by part -/
theorem IT.chg {σ σ' : PH} {o o' : Nat} {A A' : AT} {S : List Nat} (h : IT σ o o' A) (hc : Ch (inS S) σ σ') (hS : S.all (fun s => sBig.contains s) = true) (h3 : hR σ' T0 3 = o ∧ hR σ' T0 4 = o') (hk : OkT A') (hO : tO A' = tO A)
    (hw : RpW σ' wN (tV A') ∧ hR σ' wN 0 = o) (hAa : RpA σ' 11534336 (tA A')) (hH : RpH σ' 12058627 (tH A')) (hI' : RpI σ' o (tI A')) (hI2 : ∃ l, RpA σ' 14942208 l) (ht : hI σ' T0 1 = nI (tN A') ∧ hI σ' T0 2 = tF A' ∧ ∀ i, i < tN A' → hA σ' 546705 i = tb (tB A' i)) (hX : hA σ' 18350192 0 = tX A' ∧ hA σ' 18350192 1 = tY A' ∧ hA σ' 18350192 2 = tZ A') : IT σ' o o' A' := by
  have hc' := hc.more hS
  obtain ⟨h1, h2, ⟨a1, a2, a3, a4, a5⟩, h4, ⟨b1, b2⟩, ⟨c1, c2⟩, h7, h8, h9, ⟨d1, d2⟩, e, f⟩ := h
  have ho := h4.1.1.1
  refine ⟨h1.ch hc, hk, ⟨a1, a2, h3.1, h3.2, a5.ch hc' (by decide)⟩, ?_, hw, ⟨c1.ch hc, c2.ch hc⟩, hAa, hH, hI', ⟨hI2, d2.ch hc⟩, ht, hX⟩
  rw [hO]
  refine h4.ch hc' ?_
  rcases ho with rfl | rfl <;> decide
theorem RpI.ch {σ σ' : PH} {o : Nat} {im : Option (AW × List AW × List Hr)} {S : List Nat} (h : RpI σ o im) (hc : Ch (inS S) σ σ') (hd : [1, 51, 52, 53, 54, 55, 56, 57, 58, 59, 60, 61, 62, 63].all (fun s => !S.contains s) = true) : RpI σ' o im := by
  have e : ∀ s, s ∈ [1, 51, 52, 53, 54, 55, 56, 57, 58, 59, 60, 61, 62, 63] → inS S s = false := fun s hs => by simpa [inS] using List.all_eq_true.mp hd s hs
  have t0 := hc.2.2.2.2 T0 (e 1 (by simp))
  have i0 := hc.2.2.2.2 wI (e 51 (by simp))
  have sub : ∀ l : List Nat, l.all (fun s => [1, 51, 52, 53, 54, 55, 56, 57, 58, 59, 60, 61, 62, 63].contains s) = true → l.all (fun s => !S.contains s) = true := by
    intro l hl
    refine List.all_eq_true.mpr (fun s hs => ?_)
    have := List.all_eq_true.mp hl s hs
    exact List.all_eq_true.mp hd s (by simpa using this)
  cases im with
  | none => show hI σ' T0 10 = 0; rw [t0.1]; exact h
  | some q =>
    show hI σ' T0 10 = 1 ∧ RpW σ' wI q.1 ∧ hR σ' wI 0 = o ∧ RpA σ' 14942208 q.2.1 ∧ RpH σ' 15466499 q.2.2
    rw [t0.1, i0.2.2]
    exact ⟨h.1, h.2.1.ch hc (sub _ (by decide)), h.2.2.1, h.2.2.2.1.ch hc (sub _ (by decide)), h.2.2.2.2.ch hc (sub _ (by decide))⟩
/-- the cells of the world now, of acts, of what was heard and of what was refused may change -/
def sAct : List Nat := [13, 16, 27, 30, 32, 33, 34, 35, 36, 37, 44, 45, 46, 47, 48, 49, 50, 70]
theorem IT.act {σ σ' : PH} {o o' : Nat} {A A' : AT} (h : IT σ o o' A) (hc : Ch (inS sAct) σ σ') (hk : OkT A') (hO : tO A' = tO A) (hB : tB A' = tB A) (hN : tN A' = tN A) (hF : tF A' = tF A) (hI' : tI A' = tI A) (hw : RpW σ' wN (tV A') ∧ hR σ' wN 0 = o) (hAa : RpA σ' 11534336 (tA A')) (hH : RpH σ' 12058627 (tH A')) (hX : hA σ' 18350192 0 = tX A' ∧ hA σ' 18350192 1 = tY A' ∧ hA σ' 18350192 2 = tZ A') : IT σ' o o' A' := by
  have t0 := hc.2.2.2.2 T0 rfl
  have tp := hc.2.2.2.2 546705 rfl
  obtain ⟨l, hl⟩ := h.2.2.2.2.2.2.2.2.2.1.1
  refine h.chg hc (by decide) (by rw [t0.2.2]; exact ⟨h.2.2.1.2.2.1, h.2.2.1.2.2.2.1⟩) hk hO hw hAa hH (by rw [hI']; exact h.2.2.2.2.2.2.2.2.1.ch hc (by decide)) ⟨l, hl.ch hc (by decide)⟩ ?_ hX
  have ht := h.2.2.2.2.2.2.2.2.2.2.1
  rw [t0.1, tp.2.1, hB, hN, hF]; exact ht
theorem IT.refuse {σ : PH} {o o' : Nat} {A : AT} (h : IT σ o o' A) {i : Nat} (hi : i < 3) : IT (sA σ 18350192 i (hA σ 18350192 i + 1)) o o' (uR A i) ∧ Ch cls σ (sA σ 18350192 i (hA σ 18350192 i + 1)) := by
  have hc : Ch (inS [70]) σ (sA σ 18350192 i (hA σ 18350192 i + 1)) := Fr.ch (XI := []) (X := [18350192]) (Fr.sA (by simp)) rfl (by decide)
  have hc2 : Ch (inS sAct) σ (sA σ 18350192 i (hA σ 18350192 i + 1)) := hc.more (by decide)
  refine ⟨h.act hc2 h.2.1 rfl rfl rfl rfl rfl ⟨h.2.2.2.2.1.1.ch hc (by decide), h.2.2.2.2.1.2⟩ (h.2.2.2.2.2.2.1.ch hc (by decide)) (h.2.2.2.2.2.2.2.1.ch hc (by decide)) ?_, hc.toC (by decide)⟩
  have hf := h.2.2.2.2.2.2.2.2.2.2.2
  have e : hA (sA σ 18350192 i (hA σ 18350192 i + 1)) 18350192 = upd (hA σ 18350192) i (hA σ 18350192 i + 1) := hA_sF _ _ _
  rw [e]
  have h3 : i = 0 ∨ i = 1 ∨ i = 2 := by omega
  rcases h3 with rfl | rfl | rfl
  · rw [pk_us, pk_un (by decide), pk_un (by decide)]; exact ⟨by rw [hf.1]; rfl, hf.2.1, hf.2.2⟩
  · rw [pk_us, pk_un (by decide), pk_un (by decide)]; exact ⟨hf.1, by rw [hf.2.1]; rfl, hf.2.2⟩
  · rw [pk_us, pk_un (by decide), pk_un (by decide)]; exact ⟨hf.1, hf.2.1, by rw [hf.2.2]; rfl⟩
theorem kp_len {Ls : List AW} {V : AW} (h : Ls.length ≤ 40) : (kp Ls V).length ≤ 40 := by
  unfold kp; split <;> simp <;> omega
theorem kp_mem {Ls : List AW} {V W : AW} (h : W ∈ kp Ls V) : W ∈ Ls ∨ W = V := by
  unfold kp at h
  split at h
  · simpa using h
  · rcases List.mem_append.mp h with g | g
    · exact Or.inl (List.mem_of_mem_tail g)
    · exact Or.inr (by simpa using g)
theorem IT.keep {σ σ' : PH} {o o' : Nat} {A : AT} (h : IT σ o o' A) (hAa : RpA σ' 11534336 (kp (tA A) (tV A))) (hF : Fr [(11534336, 0), (11534336, 1)] [aWd 11534336] σ σ') : IT σ' o o' (uV A (tV A) (kp (tA A) (tV A))) ∧ Ch (inS sAct) σ σ' := by
  have hc : Ch (inS [44, 45]) σ σ' := hF.ch (by decide) (by decide)
  have hk := h.2.1
  have rf := hc.2.2.2.2 18350192 rfl
  have n0 := hc.2.2.2.2 wN rfl
  refine ⟨h.act (hc.more (by decide)) ⟨hk.1, hk.2.1, hk.2.2.1, hk.2.2.2.1, hk.2.2.2.2.1, kp_len hk.2.2.2.2.2.1, fun W hW => ?_, hk.2.2.2.2.2.2.2.1, hk.2.2.2.2.2.2.2.2⟩ rfl rfl rfl rfl rfl ⟨h.2.2.2.2.1.1.ch hc (by decide), by rw [n0.2.2]; exact h.2.2.2.2.1.2⟩ hAa (h.2.2.2.2.2.2.2.1.ch hc (by decide)) (by rw [rf.2.1]; exact h.2.2.2.2.2.2.2.2.2.2.2), hc.more (by decide)⟩
  rcases kp_mem hW with g | g
  · exact hk.2.2.2.2.2.2.1 W g
  · subst g; exact hk.2.2.2.2.1
theorem IT.now {σ σ' : PH} {o o' : Nat} {A : AT} {V : AW} (h : IT σ o o' A) (hc : Ch (inS (sW wN ++ sPl)) σ σ') (hw : RpW σ' wN V) (hwo : hR σ' wN 0 = o) (hV : OkU (tO A) V) : IT σ' o o' (uV A V (tA A)) ∧ Ch (inS sAct) σ σ' := by
  have hk := h.2.1
  have rf := hc.2.2.2.2 18350192 rfl
  exact ⟨h.act (hc.more (by decide)) ⟨hk.1, hk.2.1, hk.2.2.1, hk.2.2.2.1, hV, hk.2.2.2.2.2⟩ rfl rfl rfl rfl rfl ⟨hw, hwo⟩ (h.2.2.2.2.2.2.1.ch hc (by decide)) (h.2.2.2.2.2.2.2.1.ch hc (by decide)) (by rw [rf.2.1]; exact h.2.2.2.2.2.2.2.2.2.2.2), hc.more (by decide)⟩
theorem Ch.act {σ σ' : PH} (h : Ch (inS sAct) σ σ') : Ch cls σ σ' := h.toC (by decide)
theorem pI_hand (c : Nat) : (4 : Int32) + nI c = pI (c + 5) := by
  rw [show c + 5 = (c + 4) + 1 by omega, pI_town, show (4 : Int32) = nI 4 from rfl, nI_add, Nat.add_comm]
def daysOk (A : AT) (x : Int32) : Bool := btw x 1 20 && decide (vD (tV A) + iN x ≤ 999)
def fDays (A : AT) (x : Int32) : Nat × Int32 := if daysOk A x = true then (0, nI (vD (tV A) + iN x)) else (0, -1)
def nDays (A : AT) (x : Int32) : AT := if daysOk A x = true then uV A (daysF (tO A) (iN x) (tV A)) (kp (tA A) (tV A)) else uR A 1
def fTake (A : AT) (x y : Int32) : Nat × Int32 := gd (inR x (aC (tO A))) 1 (gd (inR y (aS (tO A))) 1 (0, b2i (vP (tV A) (iN y) == tOn (tO A) (iN x) (vD (tV A)) + 1)))
def plc (A : AT) (s q : Nat) : AT := uV A (wPl (tV A) (va_up (vP (tV A)) s q)) (kp (tA A) (tV A))
def nTake (A : AT) (x y : Int32) : AT := if inR x (aC (tO A)) = true ∧ inR y (aS (tO A)) = true then (if vP (tV A) (iN y) = tOn (tO A) (iN x) (vD (tV A)) + 1 then plc A (iN y) (iN x + 5) else uR A 1) else A
def fLeave (A : AT) (x y : Int32) : Nat × Int32 := gd (inR x (aC (tO A))) 1 (gd (inR y (aS (tO A))) 1 (0, if vP (tV A) (iN y) = iN x + 5 then nI (tOn (tO A) (iN x) (vD (tV A))) else -1))
def nLeave (A : AT) (x y : Int32) : AT := if inR x (aC (tO A)) = true ∧ inR y (aS (tO A)) = true then (if vP (tV A) (iN y) = iN x + 5 then plc A (iN y) (tOn (tO A) (iN x) (vD (tV A)) + 1) else uR A 1) else A
def fFire (A : AT) (x : Int32) : Nat × Int32 := gd (inR x 4) 1 (0, if shAt (tO A) (tV A) (iN x + 1) = 0 then -1 else nI (shAt (tO A) (tV A) (iN x + 1)))
def nFire (A : AT) (x : Int32) : AT := if inR x 4 = true then (if shAt (tO A) (tV A) (iN x + 1) = 0 then uR A 1 else uV A (brn (tO A) (tV A) (iN x)) (kp (tA A) (tV A))) else A
def fUndo (A : AT) : Nat × Int32 := (0, if (tA A).length = 0 then -1 else nI ((tA A).length - 1))
def nUndo (A : AT) : AT := match (tA A).getLast? with
  | none => A
  | some V => uV A V (tA A).dropLast
def forged (V : AW) (s sd st : Nat) : AW := if sd = 0 then wLf V (va_up (vL V) s (vL V s ^^^ 2 ^ st)) else wRt V (va_up (vR V) s (vR V s ^^^ 2 ^ st))
def frOk (A : AT) (x y z : Int32) : Bool := inR x (aS (tO A)) && inR y 2 && inR z 8
def fForge (A : AT) (x y z : Int32) : Nat × Int32 := gd (frOk A x y z) 1 (0, if vP (tV A) (iN x) = 0 then -1 else nI ((if iN y = 0 then vL (tV A) (iN x) else vR (tV A) (iN x)) ^^^ 2 ^ iN z))
def nForge (A : AT) (x y z : Int32) : AT := if frOk A x y z = true then (if vP (tV A) (iN x) = 0 then uR A 1 else uV A (forged (tV A) (iN x) (iN y) (iN z)) (kp (tA A) (tV A))) else A
theorem OkU.pl {O : AO} {V : AW} (h : OkU O V) {s q : Nat} (hq : q < 11) (hq2 : q < 5 + aC O) : OkU O (wPl V (va_up (vP V) s q)) := by
  obtain ⟨⟨h1, h2, h3, h4⟩, h5⟩ := h
  refine ⟨⟨h1, fun r hr => ⟨(h2 r hr).1, (h2 r hr).2.1, ?_⟩, fun r hr => ?_, h4⟩, h5⟩
  · show va_up (vP V) s q r < 11
    by_cases e : r = s
    · subst e; rw [va_ups]; exact hq
    · rw [va_upo e]; exact (h2 r hr).2.2
  · show va_up (vP V) s q r < 5 + aC O
    by_cases e : r = s
    · subst e; rw [va_ups]; exact hq2
    · rw [va_upo e]; exact h3 r hr
theorem OkU_forged {O : AO} {V : AW} (h : OkU O V) {s sd st : Nat} (hs : s < 9) (hst : st < 8) : OkU O (forged V s sd st) := by
  obtain ⟨⟨h1, h2, h3, h4⟩, h5⟩ := h
  have hp : 2 ^ st < 256 := Nat.lt_of_lt_of_le (Nat.pow_lt_pow_right (by decide) hst) (by decide)
  rw [show forged V s sd st = (if sd = 0 then wLf V (va_up (vL V) s (vL V s ^^^ 2 ^ st)) else wRt V (va_up (vR V) s (vR V s ^^^ 2 ^ st))) from rfl]
  split
  · refine ⟨⟨h1, fun r hr => ⟨?_, (h2 r hr).2.1, (h2 r hr).2.2⟩, h3, h4⟩, h5⟩
    show va_up (vL V) s _ r < 256
    by_cases e : r = s
    · subst e; rw [va_ups]; exact Nat.xor_lt_two_pow (n := 8) (h2 r hr).1 hp
    · rw [va_upo e]; exact (h2 r hr).1
  · refine ⟨⟨h1, fun r hr => ⟨(h2 r hr).1, ?_, (h2 r hr).2.2⟩, h3, h4⟩, h5⟩
    show va_up (vR V) s _ r < 256
    by_cases e : r = s
    · subst e; rw [va_ups]; exact Nat.xor_lt_two_pow (n := 8) (h2 r hr).2.1 hp
    · rw [va_upo e]; exact (h2 r hr).2.1
theorem OkV_brn {O : AO} {V : AW} (h : OkV O V) (t : Nat) : OkV O (brn O V t) := by
  obtain ⟨h1, h2, h3, h4⟩ := h
  refine ⟨h1, fun r hr => ⟨(h2 r hr).1, (h2 r hr).2.1, ?_⟩, fun r hr => ?_, h4⟩
  · show bP V t (aS O) r < 11
    unfold bP; split
    · decide
    · exact (h2 r hr).2.2
  · show bP V t (aS O) r < 5 + aC O
    unfold bP; split
    · omega
    · exact h3 r hr
section C51
variable {Γ : Gm} {σ : PH} {o o' : Nat} {A : AT}
set_option maxRecDepth 6000 in
theorem t_days (hT : IT σ o o' A) (x : Int32) : CallOk Γ 14 8 48 mX8_days [.ref T0, .int x] σ (rS (fDays A x) false (fun σ' => IT σ' o o' (nDays A x) ∧ Ch cls σ σ')) := by
  have hS := hT.1
  have hK := hT.2.1
  have hto : hR σ T0 3 = o := hT.2.2.1.2.2.1
  have hQ := hT.2.2.2.1
  have ho := hQ.1
  have hw := hT.2.2.2.2.1.1
  have hwo := hT.2.2.2.2.1.2
  have hv := hK.2.2.2.2.1.1
  have hd9 := hK.2.2.2.2.1.2
  have hY := hK.2.2.2.1
  have hO := hK.2.2.1
  have hs9 := hO.1
  have hc6 := hO.2.1
  have hw12 := hO.2.2.1
  have hk8 := hO.2.2.2.1
  refine p_enter rfl rfl (Nat.le_of_ble_eq_true rfl) rfl ?_
  refine p_iload_n 1 1 rfl rfl dX8_days_0 rfl ?_
  refine p_iconst (1) 2 rfl dX8_days_1 rfl ?_
  refine p_icmp_lt 26 5 rfl rfl dX8_days_2 (fun h2 => ?_) (fun h2 => ?_)
  · refine p_aload_n 0 27 rfl rfl dX8_days_26 rfl ?_
    refine p_getR 8 16 30 rfl dX8_days_27 fl_X8_92 rfl rfl hS.2.2.2.2.2.2.2.2.2.2.2.1 (by decide) ?_
    refine p_iconst (1) 31 rfl dX8_days_30 rfl ?_
    refine p_dup2 32 rfl dX8_days_31 rfl rfl ?_
    refine p_ialdE 33 rfl dX8_days_32 (i := 1) rfl (by decide) rfl ?_
    refine p_iconst (1) 34 rfl dX8_days_33 rfl ?_
    refine p_iadd 35 rfl dX8_days_34 ?_
    refine p_iastE 36 rfl dX8_days_35 (i := 1) rfl (by decide) ?_
    refine p_iconst (-1) 37 rfl dX8_days_36 rfl ?_
    exact p_iret dX8_days_37 rfl ⟨by
        have hn : ¬ daysOk A x = true := by simp [daysOk, btw, Int32.not_le.mpr (show x < nI 1 from h2)]
        simp [fDays, hn], by
        have hn : ¬ daysOk A x = true := by simp [daysOk, btw, Int32.not_le.mpr (show x < nI 1 from h2)]
        rw [nDays, if_neg hn]; exact (hT.refuse (i := 1) (by decide)).1, (hT.refuse (i := 1) (by decide)).2⟩
  · refine p_iload_n 1 6 rfl rfl dX8_days_5 rfl ?_
    refine p_bipush (20) 8 rfl dX8_days_6 rfl ?_
    refine p_icmp_gt 26 11 rfl rfl dX8_days_8 (fun h8 => ?_) (fun h8 => ?_)
    · refine p_aload_n 0 27 rfl rfl dX8_days_26 rfl ?_
      refine p_getR 8 16 30 rfl dX8_days_27 fl_X8_92 rfl rfl hS.2.2.2.2.2.2.2.2.2.2.2.1 (by decide) ?_
      refine p_iconst (1) 31 rfl dX8_days_30 rfl ?_
      refine p_dup2 32 rfl dX8_days_31 rfl rfl ?_
      refine p_ialdE 33 rfl dX8_days_32 (i := 1) rfl (by decide) rfl ?_
      refine p_iconst (1) 34 rfl dX8_days_33 rfl ?_
      refine p_iadd 35 rfl dX8_days_34 ?_
      refine p_iastE 36 rfl dX8_days_35 (i := 1) rfl (by decide) ?_
      refine p_iconst (-1) 37 rfl dX8_days_36 rfl ?_
      exact p_iret dX8_days_37 rfl ⟨by
        have hn : ¬ daysOk A x = true := by simp [daysOk, btw, Int32.not_le.mpr (show nI 20 < x from h8)]
        simp [fDays, hn], by
        have hn : ¬ daysOk A x = true := by simp [daysOk, btw, Int32.not_le.mpr (show nI 20 < x from h8)]
        rw [nDays, if_neg hn]; exact (hT.refuse (i := 1) (by decide)).1, (hT.refuse (i := 1) (by decide)).2⟩
    · have hb : btw x 1 20 = true := by simp only [btw, Bool.and_eq_true, decide_eq_true_eq]; exact ⟨Int32.not_lt.mp h2, Int32.not_lt.mp h8⟩
      obtain ⟨k, rfl, hka, hk⟩ := asB hb (by decide) (by decide)
      have hkL : k < 2147483648 := by omega
      refine p_aload_n 0 12 rfl rfl dX8_days_11 rfl ?_
      refine p_getR 8 6 15 rfl dX8_days_12 fl_X8_44 rfl rfl hS.2.2.1 (by decide) ?_
      refine p_getIE 7 1 18 rfl dX8_days_15 fl_X8_143 rfl rfl hw.2.1 ?_
      refine p_iload_n 1 19 rfl rfl dX8_days_18 rfl ?_
      refine p_iadd 20 rfl dX8_days_19 ?_
      rw [nI_add]
      refine p_sipush (999) 23 rfl dX8_days_20 rfl ?_
      refine p_icmp_le 38 26 rfl rfl dX8_days_23 (fun h23 => ?_) (fun h23 => ?_)
      · have hle : vD (tV A) + k ≤ 999 := (nI_leI (b := 999) (by omega) (by decide)).mp h23
        refine p_aload_n 0 39 rfl rfl dX8_days_38 rfl ?_
        refine p_getR 8 8 42 rfl dX8_days_39 fl_X8_54 rfl rfl hS.2.2.2.2.1 (by decide) ?_
        refine p_aload_n 0 43 rfl rfl dX8_days_42 rfl ?_
        refine p_getR 8 6 46 rfl dX8_days_43 fl_X8_44 rfl rfl hS.2.2.1 (by decide) ?_
        refine p_cV1v 0 0 49 rfl dX8_days_46 (c_keep (V := tV A) hT.2.2.2.2.2.2.1 hw (fun s hs => hv.2.1 s hs)) ml_X8_248 vl_X0_keep rfl (by decide) rfl (Nat.le_of_ble_eq_true rfl) (Nat.le_of_ble_eq_true rfl) (Nat.le_of_ble_eq_true rfl) (Nat.le_of_ble_eq_true rfl) rfl ?_
        rintro σ1 ⟨hA1, hF1⟩
        have hK1 := hT.keep hA1 hF1
        have hT1 := hK1.1
        have hS1 := hT1.1
        have hto1 : hR σ1 T0 3 = o := hT1.2.2.1.2.2.1
        have hQ1 : RpQ σ1 o (tO A) := hT1.2.2.2.1
        have ho1 := hQ1.1
        have hw1 : RpW σ1 wN (tV A) := hT1.2.2.2.2.1.1
        have hwo1 := hT1.2.2.2.2.1.2
        refine p_aload_n 0 50 rfl rfl dX8_days_49 rfl ?_
        refine p_getR 8 6 53 rfl dX8_days_50 fl_X8_44 rfl rfl hS1.2.2.1 (by decide) ?_
        refine p_iload_n 1 54 rfl rfl dX8_days_53 rfl ?_
        refine p_cV1v 0 0 57 rfl dX8_days_54 (c_passDays hQ1 hY hw1 hv hwo1 (k := k) (by omega)) ml_X8_251 vl_X7_passDays rfl (by decide) rfl (Nat.le_of_ble_eq_true rfl) (Nat.le_of_ble_eq_true rfl) (Nat.le_of_ble_eq_true rfl) (Nat.le_of_ble_eq_true rfl) rfl ?_
        rintro σ2 ⟨hw2, hF2⟩
        have hwo2 : hR σ2 wN 0 = o := by rw [hF2.2.2.2.1]; exact hwo1
        have hT2 := hT1.now (hF2.ch (Or.inl rfl) ho.1.1) hw2 hwo2 ⟨daysF_ok hO hv k (by omega), by rw [daysF_day]; omega⟩
        refine p_aload_n 0 58 rfl rfl dX8_days_57 rfl ?_
        refine p_getR 8 6 61 rfl dX8_days_58 fl_X8_44 rfl rfl hT2.1.1.2.2.1 (by decide) ?_
        refine p_getIE 7 1 64 rfl dX8_days_61 fl_X8_143 rfl rfl hw2.2.1 ?_
        exact p_iret dX8_days_64 rfl ⟨by
        have hn : daysOk A (nI k) = true := by
          have : vD (tV A) + k ≤ 999 := hle
          simp [daysOk, iN_nI hkL, this, hb]
        simp [fDays, hn, iN_nI hkL, daysF_day], by
        have hn : daysOk A (nI k) = true := by
          have : vD (tV A) + k ≤ 999 := hle
          simp [daysOk, iN_nI hkL, this, hb]
        rw [nDays, if_pos hn, iN_nI hkL]; exact hT2.1, (hK1.2.tr hT2.2).act⟩
      · refine p_aload_n 0 27 rfl rfl dX8_days_26 rfl ?_
        refine p_getR 8 16 30 rfl dX8_days_27 fl_X8_92 rfl rfl hS.2.2.2.2.2.2.2.2.2.2.2.1 (by decide) ?_
        refine p_iconst (1) 31 rfl dX8_days_30 rfl ?_
        refine p_dup2 32 rfl dX8_days_31 rfl rfl ?_
        refine p_ialdE 33 rfl dX8_days_32 (i := 1) rfl (by decide) rfl ?_
        refine p_iconst (1) 34 rfl dX8_days_33 rfl ?_
        refine p_iadd 35 rfl dX8_days_34 ?_
        refine p_iastE 36 rfl dX8_days_35 (i := 1) rfl (by decide) ?_
        refine p_iconst (-1) 37 rfl dX8_days_36 rfl ?_
        exact p_iret dX8_days_37 rfl ⟨by
        have hn : ¬ daysOk A (nI k) = true := by have : ¬ vD (tV A) + k ≤ 999 := fun z => h23 (nI_le (b := 999) z (by decide)); simp [daysOk, iN_nI hkL, this]
        simp [fDays, hn], by
        have hn : ¬ daysOk A (nI k) = true := by have : ¬ vD (tV A) + k ≤ 999 := fun z => h23 (nI_le (b := 999) z (by decide)); simp [daysOk, iN_nI hkL, this]
        rw [nDays, if_neg hn]; exact (hT.refuse (i := 1) (by decide)).1, (hT.refuse (i := 1) (by decide)).2⟩
set_option maxRecDepth 6000 in
theorem t_take (hT : IT σ o o' A) (x y : Int32) : CallOk Γ 14 8 48 mX8_take [.ref T0, .int x, .int y] σ (rS (fTake A x y) false (fun σ' => IT σ' o o' (nTake A x y) ∧ Ch cls σ σ')) := by
  have hS := hT.1
  have hK := hT.2.1
  have hto : hR σ T0 3 = o := hT.2.2.1.2.2.1
  have hQ := hT.2.2.2.1
  have ho := hQ.1
  have hw := hT.2.2.2.2.1.1
  have hwo := hT.2.2.2.2.1.2
  have hv := hK.2.2.2.2.1.1
  have hd9 := hK.2.2.2.2.1.2
  have hY := hK.2.2.2.1
  have hO := hK.2.2.1
  have hs9 := hO.1
  have hc6 := hO.2.1
  have hw12 := hO.2.2.1
  have hk8 := hO.2.2.2.1
  refine p_enter rfl rfl (Nat.le_of_ble_eq_true rfl) rfl ?_
  refine p_aload_n 0 1 rfl rfl dX8_take_0 rfl ?_
  refine p_iload_n 1 2 rfl rfl dX8_take_1 rfl ?_
  refine p_cV1n 5 rfl dX8_take_2 (c_needClerk hto hQ _) ml_X8_194 vl_X8_needClerk rfl (by decide) rfl (Nat.le_of_ble_eq_true rfl) (Nat.le_of_ble_eq_true rfl) (Nat.le_of_ble_eq_true rfl) (Nat.le_of_ble_eq_true rfl) rfl (fun h2 => ?_) (fun h2 => ⟨by simp [fTake, gd, h2], by rw [nTake, if_neg (fun z => h2 (by simp_all))]; exact hT, Ch.rf⟩)
  obtain ⟨s, rfl, hs⟩ := asN h2 (by omega)
  have hsL : s < 2147483648 := by omega
  refine p_aload_n 0 6 rfl rfl dX8_take_5 rfl ?_
  refine p_iload_n 2 7 rfl rfl dX8_take_6 rfl ?_
  refine p_cV1n 10 rfl dX8_take_7 (c_needSheet hto hQ _) ml_X8_172 vl_X8_needSheet rfl (by decide) rfl (Nat.le_of_ble_eq_true rfl) (Nat.le_of_ble_eq_true rfl) (Nat.le_of_ble_eq_true rfl) (Nat.le_of_ble_eq_true rfl) rfl (fun h7 => ?_) (fun h7 => ⟨by simp [fTake, gd, h2, h7], by rw [nTake, if_neg (fun z => h7 (by simp_all))]; exact hT, Ch.rf⟩)
  obtain ⟨k, rfl, hk⟩ := asN h7 (by omega)
  have hkL : k < 2147483648 := by omega
  refine p_aload_n 0 11 rfl rfl dX8_take_10 rfl ?_
  refine p_getR 8 6 14 rfl dX8_take_11 fl_X8_44 rfl rfl hS.2.2.1 (by decide) ?_
  refine p_getR 7 4 17 rfl dX8_take_14 fl_X8_254 rfl rfl hw.1.2.2.2.1 (mk0 (Nat.succ_ne_zero _)) ?_
  refine p_iload_n 2 18 rfl rfl dX8_take_17 rfl ?_
  refine p_ialdE 19 rfl dX8_take_18 (kd16 _ _) (lt9 (by omega)) (hw.2.2.1 k (by omega)).2.2 ?_
  refine p_aload_n 0 20 rfl rfl dX8_take_19 rfl ?_
  refine p_getR 8 3 23 rfl dX8_take_20 fl_X8_23 rfl rfl hto ho.1.1.ne0 ?_
  refine p_iload_n 1 24 rfl rfl dX8_take_23 rfl ?_
  refine p_aload_n 0 25 rfl rfl dX8_take_24 rfl ?_
  refine p_getR 8 6 28 rfl dX8_take_25 fl_X8_44 rfl rfl hS.2.2.1 (by decide) ?_
  refine p_getIE 7 1 31 rfl dX8_take_28 fl_X8_143 rfl rfl hw.2.1 ?_
  refine p_cV2i 34 rfl dX8_take_31 (c_townOn ho hs (by omega)) ml_X8_197 vl_X4_townOn ho.1.1.kd (by decide) rfl (Nat.le_of_ble_eq_true rfl) (Nat.le_of_ble_eq_true rfl) rfl ?_
  have htn := tOn_lt hO (c := s) (d := vD (tV A)) hs
  refine p_icmp_eq 49 37 rfl rfl dX8_take_34 (fun h34 => ?_) (fun h34 => ?_)
  · refine p_aload_n 0 50 rfl rfl dX8_take_49 rfl ?_
    refine p_getR 8 8 53 rfl dX8_take_50 fl_X8_54 rfl rfl hS.2.2.2.2.1 (by decide) ?_
    refine p_aload_n 0 54 rfl rfl dX8_take_53 rfl ?_
    refine p_getR 8 6 57 rfl dX8_take_54 fl_X8_44 rfl rfl hS.2.2.1 (by decide) ?_
    refine p_cV1v 0 0 60 rfl dX8_take_57 (c_keep (V := tV A) hT.2.2.2.2.2.2.1 hw (fun s hs => hv.2.1 s hs)) ml_X8_248 vl_X0_keep rfl (by decide) rfl (Nat.le_of_ble_eq_true rfl) (Nat.le_of_ble_eq_true rfl) (Nat.le_of_ble_eq_true rfl) (Nat.le_of_ble_eq_true rfl) rfl ?_
    rintro σ1 ⟨hA1, hF1⟩
    have hK1 := hT.keep hA1 hF1
    have hT1 := hK1.1
    have hS1 := hT1.1
    have hto1 : hR σ1 T0 3 = o := hT1.2.2.1.2.2.1
    have hQ1 : RpQ σ1 o (tO A) := hT1.2.2.2.1
    have ho1 := hQ1.1
    have hw1 : RpW σ1 wN (tV A) := hT1.2.2.2.2.1.1
    have hwo1 := hT1.2.2.2.2.1.2
    refine p_aload_n 0 61 rfl rfl dX8_take_60 rfl ?_
    refine p_getR 8 6 64 rfl dX8_take_61 fl_X8_44 rfl rfl hS1.2.2.1 (by decide) ?_
    refine p_getR 7 4 67 rfl dX8_take_64 fl_X8_254 rfl rfl hw1.1.2.2.2.1 (mk0 (Nat.succ_ne_zero _)) ?_
    refine p_iload_n 2 68 rfl rfl dX8_take_67 rfl ?_
    refine p_iconst (4) 69 rfl dX8_take_68 rfl ?_
    refine p_iload_n 1 70 rfl rfl dX8_take_69 rfl ?_
    refine p_iadd 71 rfl dX8_take_70 ?_
    rw [pI_hand]
    refine p_iastE 72 rfl dX8_take_71 (kd16 _ _) (lt9 (by omega)) ?_
    refine p_iconst (1) 73 rfl dX8_take_72 rfl ?_
    exact p_zret dX8_take_73 rfl rfl ⟨by
        have e := (pI_nI (by have := (hv.2.1 k (by omega)).2.2; omega) (by omega)).mp h34
        simp [fTake, gd, h2, h7, iN_nI hsL, iN_nI hkL, e, b2i], by
        have e := (pI_nI (by have := (hv.2.1 k (by omega)).2.2; omega) (by omega)).mp h34
        rw [nTake, if_pos ⟨h2, h7⟩, iN_nI hsL, iN_nI hkL, if_pos e]; exact (hT1.now (A := uV A (tV A) (kp (tA A) (tV A))) (σ' := sA σ1 (wP wN) k (pI (s + 5))) (Fr.ch (XI := []) (X := [wP wN]) (Fr.sA (by simp)) rfl (by decide)) hw1.setP hwo1 (hK.2.2.2.2.1.pl (by omega) (by omega))).1, (hK1.2.tr (hT1.now (A := uV A (tV A) (kp (tA A) (tV A))) (σ' := sA σ1 (wP wN) k (pI (s + 5))) (Fr.ch (XI := []) (X := [wP wN]) (Fr.sA (by simp)) rfl (by decide)) hw1.setP hwo1 (hK.2.2.2.2.1.pl (by omega) (by omega))).2).act⟩
  · refine p_aload_n 0 38 rfl rfl dX8_take_37 rfl ?_
    refine p_getR 8 16 41 rfl dX8_take_38 fl_X8_92 rfl rfl hS.2.2.2.2.2.2.2.2.2.2.2.1 (by decide) ?_
    refine p_iconst (1) 42 rfl dX8_take_41 rfl ?_
    refine p_dup2 43 rfl dX8_take_42 rfl rfl ?_
    refine p_ialdE 44 rfl dX8_take_43 (i := 1) rfl (by decide) rfl ?_
    refine p_iconst (1) 45 rfl dX8_take_44 rfl ?_
    refine p_iadd 46 rfl dX8_take_45 ?_
    refine p_iastE 47 rfl dX8_take_46 (i := 1) rfl (by decide) ?_
    refine p_iconst (0) 48 rfl dX8_take_47 rfl ?_
    exact p_zret dX8_take_48 rfl rfl ⟨by
        have e : ¬ vP (tV A) k = tOn (tO A) s (vD (tV A)) + 1 := fun z => h34 ((pI_nI (by have := (hv.2.1 k (by omega)).2.2; omega) (by omega)).mpr z)
        simp [fTake, gd, h2, h7, iN_nI hsL, iN_nI hkL, e, b2i], by
        have e : ¬ vP (tV A) k = tOn (tO A) s (vD (tV A)) + 1 := fun z => h34 ((pI_nI (by have := (hv.2.1 k (by omega)).2.2; omega) (by omega)).mpr z)
        rw [nTake, if_pos ⟨h2, h7⟩, iN_nI hsL, iN_nI hkL, if_neg e]; exact (hT.refuse (i := 1) (by decide)).1, (hT.refuse (i := 1) (by decide)).2⟩
set_option maxRecDepth 6000 in
theorem t_leave (hT : IT σ o o' A) (x y : Int32) : CallOk Γ 14 8 48 mX8_leave [.ref T0, .int x, .int y] σ (rS (fLeave A x y) false (fun σ' => IT σ' o o' (nLeave A x y) ∧ Ch cls σ σ')) := by
  have hS := hT.1
  have hK := hT.2.1
  have hto : hR σ T0 3 = o := hT.2.2.1.2.2.1
  have hQ := hT.2.2.2.1
  have ho := hQ.1
  have hw := hT.2.2.2.2.1.1
  have hwo := hT.2.2.2.2.1.2
  have hv := hK.2.2.2.2.1.1
  have hd9 := hK.2.2.2.2.1.2
  have hY := hK.2.2.2.1
  have hO := hK.2.2.1
  have hs9 := hO.1
  have hc6 := hO.2.1
  have hw12 := hO.2.2.1
  have hk8 := hO.2.2.2.1
  refine p_enter rfl rfl (Nat.le_of_ble_eq_true rfl) rfl ?_
  refine p_aload_n 0 1 rfl rfl dX8_leave_0 rfl ?_
  refine p_iload_n 1 2 rfl rfl dX8_leave_1 rfl ?_
  refine p_cV1n 5 rfl dX8_leave_2 (c_needClerk hto hQ _) ml_X8_194 vl_X8_needClerk rfl (by decide) rfl (Nat.le_of_ble_eq_true rfl) (Nat.le_of_ble_eq_true rfl) (Nat.le_of_ble_eq_true rfl) (Nat.le_of_ble_eq_true rfl) rfl (fun h2 => ?_) (fun h2 => ⟨by simp [fLeave, gd, h2], by rw [nLeave, if_neg (fun z => h2 (by simp_all))]; exact hT, Ch.rf⟩)
  obtain ⟨s, rfl, hs⟩ := asN h2 (by omega)
  have hsL : s < 2147483648 := by omega
  refine p_aload_n 0 6 rfl rfl dX8_leave_5 rfl ?_
  refine p_iload_n 2 7 rfl rfl dX8_leave_6 rfl ?_
  refine p_cV1n 10 rfl dX8_leave_7 (c_needSheet hto hQ _) ml_X8_172 vl_X8_needSheet rfl (by decide) rfl (Nat.le_of_ble_eq_true rfl) (Nat.le_of_ble_eq_true rfl) (Nat.le_of_ble_eq_true rfl) (Nat.le_of_ble_eq_true rfl) rfl (fun h7 => ?_) (fun h7 => ⟨by simp [fLeave, gd, h2, h7], by rw [nLeave, if_neg (fun z => h7 (by simp_all))]; exact hT, Ch.rf⟩)
  obtain ⟨k, rfl, hk⟩ := asN h7 (by omega)
  have hkL : k < 2147483648 := by omega
  refine p_aload_n 0 11 rfl rfl dX8_leave_10 rfl ?_
  refine p_getR 8 6 14 rfl dX8_leave_11 fl_X8_44 rfl rfl hS.2.2.1 (by decide) ?_
  refine p_getR 7 4 17 rfl dX8_leave_14 fl_X8_254 rfl rfl hw.1.2.2.2.1 (mk0 (Nat.succ_ne_zero _)) ?_
  refine p_iload_n 2 18 rfl rfl dX8_leave_17 rfl ?_
  refine p_ialdE 19 rfl dX8_leave_18 (kd16 _ _) (lt9 (by omega)) (hw.2.2.1 k (by omega)).2.2 ?_
  refine p_iconst (4) 20 rfl dX8_leave_19 rfl ?_
  refine p_iload_n 1 21 rfl rfl dX8_leave_20 rfl ?_
  refine p_iadd 22 rfl dX8_leave_21 ?_
  rw [pI_hand]
  have htn := tOn_lt hO (c := s) (d := vD (tV A)) hs
  refine p_icmp_eq 37 25 rfl rfl dX8_leave_22 (fun h22 => ?_) (fun h22 => ?_)
  · refine p_aload_n 0 38 rfl rfl dX8_leave_37 rfl ?_
    refine p_getR 8 8 41 rfl dX8_leave_38 fl_X8_54 rfl rfl hS.2.2.2.2.1 (by decide) ?_
    refine p_aload_n 0 42 rfl rfl dX8_leave_41 rfl ?_
    refine p_getR 8 6 45 rfl dX8_leave_42 fl_X8_44 rfl rfl hS.2.2.1 (by decide) ?_
    refine p_cV1v 0 0 48 rfl dX8_leave_45 (c_keep (V := tV A) hT.2.2.2.2.2.2.1 hw (fun s hs => hv.2.1 s hs)) ml_X8_248 vl_X0_keep rfl (by decide) rfl (Nat.le_of_ble_eq_true rfl) (Nat.le_of_ble_eq_true rfl) (Nat.le_of_ble_eq_true rfl) (Nat.le_of_ble_eq_true rfl) rfl ?_
    rintro σ1 ⟨hA1, hF1⟩
    have hK1 := hT.keep hA1 hF1
    have hT1 := hK1.1
    have hS1 := hT1.1
    have hto1 : hR σ1 T0 3 = o := hT1.2.2.1.2.2.1
    have hQ1 : RpQ σ1 o (tO A) := hT1.2.2.2.1
    have ho1 := hQ1.1
    have hw1 : RpW σ1 wN (tV A) := hT1.2.2.2.2.1.1
    have hwo1 := hT1.2.2.2.2.1.2
    refine p_aload_n 0 49 rfl rfl dX8_leave_48 rfl ?_
    refine p_getR 8 6 52 rfl dX8_leave_49 fl_X8_44 rfl rfl hS1.2.2.1 (by decide) ?_
    refine p_getR 7 4 55 rfl dX8_leave_52 fl_X8_254 rfl rfl hw1.1.2.2.2.1 (mk0 (Nat.succ_ne_zero _)) ?_
    refine p_iload_n 2 56 rfl rfl dX8_leave_55 rfl ?_
    refine p_aload_n 0 57 rfl rfl dX8_leave_56 rfl ?_
    refine p_getR 8 3 60 rfl dX8_leave_57 fl_X8_23 rfl rfl hto1 ho1.1.1.ne0 ?_
    refine p_iload_n 1 61 rfl rfl dX8_leave_60 rfl ?_
    refine p_aload_n 0 62 rfl rfl dX8_leave_61 rfl ?_
    refine p_getR 8 6 65 rfl dX8_leave_62 fl_X8_44 rfl rfl hS1.2.2.1 (by decide) ?_
    refine p_getIE 7 1 68 rfl dX8_leave_65 fl_X8_143 rfl rfl hw1.2.1 ?_
    refine p_cV2i 71 rfl dX8_leave_68 (c_townOn ho1 hs (by omega)) ml_X8_197 vl_X4_townOn ho1.1.1.kd (by decide) rfl (Nat.le_of_ble_eq_true rfl) (Nat.le_of_ble_eq_true rfl) rfl ?_
    rw [← pI_town (tOn (tO A) s (vD (tV A)))]
    refine p_iastE 72 rfl dX8_leave_71 (kd16 _ _) (lt9 (by omega)) ?_
    refine p_aload_n 0 73 rfl rfl dX8_leave_72 rfl ?_
    refine p_getR 8 6 76 rfl dX8_leave_73 fl_X8_44 rfl rfl hS1.2.2.1 (by decide) ?_
    refine p_getR 7 4 79 rfl dX8_leave_76 fl_X8_254 rfl rfl hw1.1.2.2.2.1 (mk0 (Nat.succ_ne_zero _)) ?_
    refine p_iload_n 2 80 rfl rfl dX8_leave_79 rfl ?_
    refine p_ialdE 81 rfl dX8_leave_80 (kd16 _ _) (lt9 (by omega)) (show _ = pI (tOn (tO A) s (vD (tV A)) + 1) by rw [show hA (sA σ1 (wP wN) k (pI (tOn (tO A) s (vD (tV A)) + 1))) (wP wN) = upd (hA σ1 (wP wN)) k (pI (tOn (tO A) s (vD (tV A)) + 1)) from hA_sF _ _ _, pk_us]) ?_
    exact p_iret dX8_leave_81 rfl ⟨by
        have e := (pI_inj (by have := (hv.2.1 k (by omega)).2.2; omega) (by omega)).mp h22
        simp [fLeave, gd, h2, h7, iN_nI hsL, iN_nI hkL, e, pI_town], by
        have e := (pI_inj (by have := (hv.2.1 k (by omega)).2.2; omega) (by omega)).mp h22
        rw [nLeave, if_pos ⟨h2, h7⟩, iN_nI hsL, iN_nI hkL, if_pos e]; exact (hT1.now (A := uV A (tV A) (kp (tA A) (tV A))) (σ' := sA σ1 (wP wN) k (pI (tOn (tO A) s (vD (tV A)) + 1))) (Fr.ch (XI := []) (X := [wP wN]) (Fr.sA (by simp)) rfl (by decide)) hw1.setP hwo1 (hK.2.2.2.2.1.pl (by omega) (by omega))).1, (hK1.2.tr (hT1.now (A := uV A (tV A) (kp (tA A) (tV A))) (σ' := sA σ1 (wP wN) k (pI (tOn (tO A) s (vD (tV A)) + 1))) (Fr.ch (XI := []) (X := [wP wN]) (Fr.sA (by simp)) rfl (by decide)) hw1.setP hwo1 (hK.2.2.2.2.1.pl (by omega) (by omega))).2).act⟩
  · refine p_aload_n 0 26 rfl rfl dX8_leave_25 rfl ?_
    refine p_getR 8 16 29 rfl dX8_leave_26 fl_X8_92 rfl rfl hS.2.2.2.2.2.2.2.2.2.2.2.1 (by decide) ?_
    refine p_iconst (1) 30 rfl dX8_leave_29 rfl ?_
    refine p_dup2 31 rfl dX8_leave_30 rfl rfl ?_
    refine p_ialdE 32 rfl dX8_leave_31 (i := 1) rfl (by decide) rfl ?_
    refine p_iconst (1) 33 rfl dX8_leave_32 rfl ?_
    refine p_iadd 34 rfl dX8_leave_33 ?_
    refine p_iastE 35 rfl dX8_leave_34 (i := 1) rfl (by decide) ?_
    refine p_iconst (-1) 36 rfl dX8_leave_35 rfl ?_
    exact p_iret dX8_leave_36 rfl ⟨by
        have e : ¬ vP (tV A) k = s + 5 := fun z => h22 (by rw [z])
        simp [fLeave, gd, h2, h7, iN_nI hsL, iN_nI hkL, e], by
        have e : ¬ vP (tV A) k = s + 5 := fun z => h22 (by rw [z])
        rw [nLeave, if_pos ⟨h2, h7⟩, iN_nI hsL, iN_nI hkL, if_neg e]; exact (hT.refuse (i := 1) (by decide)).1, (hT.refuse (i := 1) (by decide)).2⟩
set_option maxRecDepth 6000 in
theorem t_fire (hT : IT σ o o' A) (x : Int32) : CallOk Γ 14 8 48 mX8_fire [.ref T0, .int x] σ (rS (fFire A x) false (fun σ' => IT σ' o o' (nFire A x) ∧ Ch cls σ σ')) := by
  have hS := hT.1
  have hK := hT.2.1
  have hto : hR σ T0 3 = o := hT.2.2.1.2.2.1
  have hQ := hT.2.2.2.1
  have ho := hQ.1
  have hw := hT.2.2.2.2.1.1
  have hwo := hT.2.2.2.2.1.2
  have hv := hK.2.2.2.2.1.1
  have hd9 := hK.2.2.2.2.1.2
  have hY := hK.2.2.2.1
  have hO := hK.2.2.1
  have hs9 := hO.1
  have hc6 := hO.2.1
  have hw12 := hO.2.2.1
  have hk8 := hO.2.2.2.1
  refine p_enter rfl rfl (Nat.le_of_ble_eq_true rfl) rfl ?_
  refine p_iload_n 1 1 rfl rfl dX8_fire_0 rfl ?_
  refine p_cS1n 4 rfl dX8_fire_1 (c_needTown _) ml_X8_228 sl_X8_needTown (Nat.le_of_ble_eq_true rfl) (Nat.le_of_ble_eq_true rfl) (Nat.le_of_ble_eq_true rfl) (Nat.le_of_ble_eq_true rfl) rfl (fun h1 => ?_) (fun h1 => ⟨by simp [fFire, gd, h1], by rw [nFire, if_neg (fun z => h1 (by simp_all))]; exact hT, Ch.rf⟩)
  obtain ⟨t, rfl, ht⟩ := asN h1 (by omega)
  have htL : t < 2147483648 := by omega
  have har := shAt_lt hO (tV A) (t + 1)
  refine p_aload_n 0 5 rfl rfl dX8_fire_4 rfl ?_
  refine p_getR 8 6 8 rfl dX8_fire_5 fl_X8_44 rfl rfl hS.2.2.1 (by decide) ?_
  refine p_iload_n 1 9 rfl rfl dX8_fire_8 rfl ?_
  refine p_cV1i 12 rfl dX8_fire_9 (c_archive ho hw hv hwo (by omega)) ml_X8_231 vl_X7_archive rfl (by decide) rfl (Nat.le_of_ble_eq_true rfl) (Nat.le_of_ble_eq_true rfl) rfl ?_
  refine p_ist_n2 13 rfl rfl dX8_fire_12 (Nat.le_of_ble_eq_true rfl) rfl ?_
  refine p_iload_n 2 14 rfl rfl dX8_fire_13 rfl ?_
  refine p_if_ne 29 17 rfl rfl dX8_fire_14 (fun h14 => ?_) (fun h14 => ?_)
  · refine p_aload_n 0 30 rfl rfl dX8_fire_29 rfl ?_
    refine p_getR 8 8 33 rfl dX8_fire_30 fl_X8_54 rfl rfl hS.2.2.2.2.1 (by decide) ?_
    refine p_aload_n 0 34 rfl rfl dX8_fire_33 rfl ?_
    refine p_getR 8 6 37 rfl dX8_fire_34 fl_X8_44 rfl rfl hS.2.2.1 (by decide) ?_
    refine p_cV1v 0 0 40 rfl dX8_fire_37 (c_keep (V := tV A) hT.2.2.2.2.2.2.1 hw (fun s hs => hv.2.1 s hs)) ml_X8_248 vl_X0_keep rfl (by decide) rfl (Nat.le_of_ble_eq_true rfl) (Nat.le_of_ble_eq_true rfl) (Nat.le_of_ble_eq_true rfl) (Nat.le_of_ble_eq_true rfl) rfl ?_
    rintro σ1 ⟨hA1, hF1⟩
    have hK1 := hT.keep hA1 hF1
    have hT1 := hK1.1
    have hS1 := hT1.1
    have hto1 : hR σ1 T0 3 = o := hT1.2.2.1.2.2.1
    have hQ1 : RpQ σ1 o (tO A) := hT1.2.2.2.1
    have ho1 := hQ1.1
    have hw1 : RpW σ1 wN (tV A) := hT1.2.2.2.2.1.1
    have hwo1 := hT1.2.2.2.2.1.2
    refine p_aload_n 0 41 rfl rfl dX8_fire_40 rfl ?_
    refine p_getR 8 6 44 rfl dX8_fire_41 fl_X8_44 rfl rfl hS1.2.2.1 (by decide) ?_
    refine p_iload_n 1 45 rfl rfl dX8_fire_44 rfl ?_
    refine p_cV1v 0 0 48 rfl dX8_fire_45 (c_burn ho1 hw1 hv hwo1 ht) ml_X8_261 vl_X7_burn rfl (by decide) rfl (Nat.le_of_ble_eq_true rfl) (Nat.le_of_ble_eq_true rfl) (Nat.le_of_ble_eq_true rfl) (Nat.le_of_ble_eq_true rfl) rfl ?_
    rintro σ2 ⟨hw2, hF2⟩
    have hwo2 : hR σ2 wN 0 = o := by rw [hF2.2.2.2.1]; exact hwo1
    have hT2 := hT1.now (hF2.ch (Or.inl rfl) ho.1.1) hw2 hwo2 ⟨OkV_brn hv t, hd9⟩
    refine p_iload_n 2 49 rfl rfl dX8_fire_48 rfl ?_
    exact p_iret dX8_fire_49 rfl ⟨by
        have e : ¬ shAt (tO A) (tV A) (t + 1) = 0 := fun z => h14 (by rw [z]; rfl)
        simp [fFire, gd, h1, iN_nI htL, e], by
        have e : ¬ shAt (tO A) (tV A) (t + 1) = 0 := fun z => h14 (by rw [z]; rfl)
        rw [nFire, if_pos h1, iN_nI htL, if_neg e]; exact hT2.1, (hK1.2.tr hT2.2).act⟩
  · refine p_aload_n 0 18 rfl rfl dX8_fire_17 rfl ?_
    refine p_getR 8 16 21 rfl dX8_fire_18 fl_X8_92 rfl rfl hS.2.2.2.2.2.2.2.2.2.2.2.1 (by decide) ?_
    refine p_iconst (1) 22 rfl dX8_fire_21 rfl ?_
    refine p_dup2 23 rfl dX8_fire_22 rfl rfl ?_
    refine p_ialdE 24 rfl dX8_fire_23 (i := 1) rfl (by decide) rfl ?_
    refine p_iconst (1) 25 rfl dX8_fire_24 rfl ?_
    refine p_iadd 26 rfl dX8_fire_25 ?_
    refine p_iastE 27 rfl dX8_fire_26 (i := 1) rfl (by decide) ?_
    refine p_iconst (-1) 28 rfl dX8_fire_27 rfl ?_
    exact p_iret dX8_fire_28 rfl ⟨by
        have e : shAt (tO A) (tV A) (t + 1) = 0 := by
          rcases Nat.eq_zero_or_pos (shAt (tO A) (tV A) (t + 1)) with q | q
          · exact q
          · exact absurd h14 (nI_ne0 q (by omega))
        simp [fFire, gd, h1, iN_nI htL, e], by
        have e : shAt (tO A) (tV A) (t + 1) = 0 := by
          rcases Nat.eq_zero_or_pos (shAt (tO A) (tV A) (t + 1)) with q | q
          · exact q
          · exact absurd h14 (nI_ne0 q (by omega))
        rw [nFire, if_pos h1, iN_nI htL, if_pos e]; exact (hT.refuse (i := 1) (by decide)).1, (hT.refuse (i := 1) (by decide)).2⟩
end C51
