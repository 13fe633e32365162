/-! ===== methods with tables of exceptions: entry, calls in them, calls of them ===== -/
def AST (cc : ByteArray) (h i q : Nat) : Prop := (∃ j : Fin 4, decode cc h = .ok (.astore_n j, 1) ∧ (j : Nat) = i ∧ h + 1 = q) ∨ (decode cc h = .ok (.astore i, 2) ∧ h + 2 = q)
/-- the row that takes x, at pc -/
def CTK (mi : MI) (pc x q : Nat) : Prop := ∃ (pre : List ExceptionTableEntry) (y : ExceptionTableEntry) (suf : List ExceptionTableEntry) (i : Nat), tableOf (mH mi) = pre ++ y :: suf ∧ (∀ z ∈ pre, covers z pc = true ∧ z.catchType ≠ 0 ∧ x = 2 ∧ Cond.classLink (mO mi) z.catchType (exn 1) ∈ TB) ∧ covers y pc = true ∧ y.catchType ≠ 0 ∧ Cond.classLink (mO mi) y.catchType (exn x) ∈ TB ∧ AST (mC mi) y.handlerPc i q ∧ i < mL mi
section Cb3
variable {Γ : Gm} {d mc ms : Nat} {mi : MI} {pc : Nat} {L : List (Option Value)} {st : List Value} {σ : PH} {Q : PO → PH → Prop}
theorem p_enterH {as : List Value} (hp : plainName (mO mi) = true) (hh : mH mi ≠ []) (hlen : as.length ≤ mL mi) (hcat : as.all (fun v => v.category == 1) = true)
    (k : Ok Γ d mc ms mi 0 (as.map some ++ List.replicate (mL mi - as.length) none) [] σ Q) : CallOk Γ d mc ms mi as σ Q := by
  intro ρ al hal
  have hcat' : ∀ w ∈ as, w.category = 1 := fun w hw => by simpa using List.all_eq_true.mp hcat w hw
  have hcat2 : ∀ w ∈ as.map (cv ρ), w.category = 1 := fun w hw => by
    obtain ⟨v, hv, rfl⟩ := List.mem_map.mp hw
    rw [cv_cat]; exact hcat' v hv
  have hmW : mW mi = Cond.codeWith (mY mi) (mC mi) (mL mi) (mR mi) (mH mi) :: TB := by unfold mW; rw [if_neg hh]
  refine vx_ofWH (cc := mC mi) (maxL := mL mi) (ret := mR mi) (hh := mH mi) (ws' := TB) hp hmW ?_
  intro p e s m args below meth c s₁ B hml hv
  obtain ⟨rfl, hH, hK, hO⟩ := hv
  have hts := atoms_spec (ws := mW mi) B.pre
  have htb : c.exceptionTable.toList = tableOf (mH mi) := vx_table (x := mY mi) B (hts _ (by rw [hmW]; exact List.mem_cons_self))
  have hl := lv_entry (as.map (cv ρ)) (n := mL mi) (by rw [lg_sl_len _ hcat2]; simpa using hlen)
  rw [lg_entry_eq]
  generalize (lg_sl (as.map (cv ρ)) ++ List.replicate (mL mi - (lg_sl (as.map (cv ρ))).length) Slot.unset).toArray = ls at hl ⊢
  refine k p e _ s m _ below meth c s.heap [] 0 0 ls ρ al ρ al mc ms ⟨B.exec, B.bytes, B.returns, hml, findClass_of_methodNamed B.named, fun w hw => hts w (by rw [hmW]; exact List.mem_cons_of_mem _ hw), B.notSynchronized, htb, (name_of_methodNamed B.named B.method).1, hO, hK, Nat.le_refl _, Nat.le_refl _⟩ hH va_S.rf ⟨hl.1, hl.2.1, fun i v hi => ?_⟩ (fun v h => by cases h) Ext.rf (by omega) (by omega) (Nat.le_refl _) (Nat.le_refl _)
  have hlt : i < as.length := by
    rcases Nat.lt_or_ge i as.length with h | h
    · exact h
    · rw [List.getElem?_append_right (by simpa using h)] at hi
      have := List.mem_of_getElem? hi
      rw [List.mem_replicate] at this
      exact absurd this.2 (by simp)
  rw [List.getElem?_append_left (by simpa using hlt)] at hi
  have hi2 : as[i]? = some v := by
    simp only [List.getElem?_map] at hi
    cases ha : as[i]? with
    | none => rw [ha] at hi; simp at hi
    | some w => rw [ha] at hi; simp at hi; rw [hi]
  refine ⟨?_, hal v (List.mem_of_getElem? hi2)⟩
  have := hl.2.2 _ (lv_args_mem (as.map (cv ρ)) 0 i (cv ρ v) hcat2 (by simp [hi2]))
  rw [Nat.zero_add] at this
  exact this
/-- behind a call whose exception is caught here -/
theorem run_nextH {p : Program} {e : Env} {R : Room} {s : State} {m : MethodId} {args : Array Value} {below : List Frame} {meth : Method} {c : Code} {H : Heap} {locs : List Loc} {cells slots : Nat} {ls : Array Slot} {ρ : Nat → Nat} {al : List Nat} {ρ0 : Nat → Nat} {al0 : List Nat} {MC MS : Nat} {mc1 ms1 mc2 ms2 : Nat} {st0 : List Value} {a : Array Value} {Q1 : PO → PH → Prop} (C : Cx Γ mi d p R s m args meth c) (hS : va_S (fA Γ) s.heap H locs) (hl : LR ρ al (mL mi) ls L) (hst : ∀ v ∈ st, lvv al v) (hE : Ext ρ0 al0 ρ al) (a1 : cells + mc ≤ MC) (a2 : slots + ms ≤ MS) (a3 : MC ≤ R.cells) (a4 : MS ≤ R.slots)
    (hr : vx_Run p (gl Γ) e R s m args below meth c H locs cells slots mc1 ms1 (F0 m pc ls st0) (st.map (cv ρ)) (QR Γ ρ al Q1 a) (QX Γ ρ al Q1) (fA Γ)) (hm1 : mc1 + mc2 ≤ mc) (hm2 : ms1 + ms2 ≤ ms)
    (kr : ∀ v σ', Q1 (.inl v) σ' → Ok Γ d mc2 ms2 mi (pc + 3) L (v.toList ++ st) σ' Q) (kc : ∀ x σ', Q1 (.inr x) σ' → ∃ q, CTK mi pc x q ∧ Ok Γ d mc2 ms2 mi q [] [] σ' Q) :
    W p (gl Γ) e R s m args below meth c H locs cells slots (vx_MQ below (QR Γ ρ0 al0 Q) (QX Γ ρ0 al0 Q) args s MC MS (fA Γ)) (F0 m pc ls st0) := by
  intro T hT X
  rcases hr T hT X with ⟨v, st₀, t, T', L', h0, X', hL, e1, e2, hq, stp⟩ | ⟨q, st₀, t, T', L', E, ce, h0, X', hL, e1, e2, hx, hce, hcv, hcl, stp⟩
  · obtain ⟨v0, σ', ρ', al', c1, c2, c3, c4, c5, c6⟩ := hq
    obtain ⟨-, -, k3⟩ := vx_keep h0 e1 hS (fun q _ h => h) (fun q h => h) hL c6
    have hv : v = v0.map (cv ρ') := Outcome.returned.inj c1
    have go := kr v0 σ' c2 p e R s m args below meth c T'.heap (locs ++ L') (cells + mc1) (slots + ms1) ls ρ' al' ρ0 al0 MC MS C (by rw [e1]; exact c5) k3 (hl.up c4) (fun w hw => by
      rcases List.mem_append.mp hw with hw | hw
      · cases v0 with
        | none => simp at hw
        | some w0 =>
          have : w = w0 := by simpa using hw
          exact c3 w (by rw [this])
      · exact (hst w hw).up c4.1) (hE.tr c4) (by omega) (by omega) a3 a4
    rw [List.map_append, map_ext hst c4.2] at go
    have e3 : v0.toList.map (cv ρ') = v.toList := by rw [hv]; cases v0 <;> rfl
    rw [e3] at go
    obtain ⟨t2, b1, b2⟩ := go T' rfl X'
    exact ⟨t2, stp t2 b1, b2⟩
  · obtain ⟨x, σ', ρ', al', c1, c2, c4, c5, c6⟩ := hx
    obtain ⟨-, -, k3⟩ := vx_keep h0 e1 hS (fun q _ h => h) (fun q h => h) hL c6
    obtain ⟨qq, ⟨pre, y, suf, i, t1, t2, t3, t4, t5, t7, t8⟩, kO⟩ := kc x σ' c2
    subst c1
    have hTB := C.2.2.2.2.2.1
    have kk : W p (gl Γ) e R s m args below meth c T'.heap (locs ++ L') (cells + mc1) (slots + ms1) (vx_MQ below (QR Γ ρ0 al0 Q) (QX Γ ρ0 al0 Q) args s MC MS (fA Γ)) (F0 m y.handlerPc ls [.ref q]) := by
      have fin : ∀ ls' lv, lv_has ls' (mL mi) lv → W p (gl Γ) e R s m args below meth c T'.heap (locs ++ L') (cells + mc1) (slots + ms1) (vx_MQ below (QR Γ ρ0 al0 Q) (QX Γ ρ0 al0 Q) args s MC MS (fA Γ)) (F0 m qq ls' []) := fun ls' lv h' =>
        kO p e R s m args below meth c T'.heap (locs ++ L') (cells + mc1) (slots + ms1) ls' ρ' al' ρ0 al0 MC MS C (by rw [e1]; exact c5) k3 ⟨h'.1, h'.2.1, fun i v h => by cases h⟩ (fun v h => by cases h) (hE.tr c4) (by omega) (by omega) a3 a4
      rcases t7 with ⟨j, h1, h2, h3⟩ | ⟨h1, h3⟩
      · subst h3
        exact lv_astore_n C.1 C.2.1 h1 h2 hl.has t8 rfl (fun ls' h' => fin ls' _ h')
      · subst h3
        exact lv_astore C.1 C.2.1 h1 hl.has t8 rfl (fun ls' h' => fin ls' _ h')
    have go := ct_catch (p := p) (l := gl Γ) (e := e) (R := R) (s := s) (m := m) (args := args) (below := below) (meth := meth) (c := c) (H := T'.heap) (locs := locs ++ L') (cells := cells + mc1) (slots := slots + ms1) (ls := ls) (rest := st.map (cv ρ)) (pc := pc) (own := mO mi) (E := exn x) (ce := ce) (q := q) C.2.2.2.2.1 pre y suf (C.2.2.2.2.2.2.2.1.trans t1) (fun z hz => by
      obtain ⟨z1, z2, z3, z4⟩ := t2 z hz
      subst z3
      exact ⟨z1, z2, exn 1, hTB _ z4, C.2.2.2.2.2.2.2.2.2.1.2.2.2.2.2.2.2.2.2.1⟩) t3 t4 (hTB _ t5) (by rw [e1]; exact hce) hcv hcl kk
    obtain ⟨t9, b1, b2⟩ := go T' rfl X'
    exact ⟨t9, stp.trans b1, b2⟩
/-- invokevirtual where the exception is caught -/
theorem p_callVH {idx n d1 mc1 ms1 mc2 ms2 r c : Nat} {mi1 : MI} {as stk : List Value} {Q1 : PO → PH → Prop} (q : Nat) (hq : pc + 3 = q) (hd : decode (mC mi) pc = .ok (.invokevirtual idx, 3)) (hM : CallOk Γ d1 mc1 ms1 mi1 (.ref r :: as) σ Q1) (hm : ML (mO mi) idx mi1 n) (hv : VL mi1) (hk : kd r = c) (hc : c < 10) (hcl : RR c = mO mi1) (hn : as.length = n) (hstk : stk = as.reverse ++ .ref r :: st) (hw8 : (st.map fun v => v.category).sum ≤ 8) (hdd : d1 + 1 ≤ d) (hm1 : mc1 + mc2 ≤ mc) (hm2 : ms1 + ms2 ≤ ms)
    (kr : ∀ v σ', Q1 (.inl v) σ' → Ok Γ d mc2 ms2 mi q L (v.toList ++ st) σ' Q) (kc : ∀ x σ', Q1 (.inr x) σ' → ∃ q, CTK mi pc x q ∧ Ok Γ d mc2 ms2 mi q [] [] σ' Q) : Ok Γ d mc ms mi pc L stk σ Q := by
  subst hq; subst hstk
  intro p e R s m args below meth c' H locs cells slots ls ρ al ρ0 al0 MC MS C hH hS hl hst hE a1 a2 a3 a4
  have hst2 : ∀ v ∈ Value.ref r :: as, lvv al v := fun v hv => hst v (by
    rcases List.mem_cons.mp hv with rfl | hv
    · exact List.mem_append_right _ List.mem_cons_self
    · exact List.mem_append_left _ (List.mem_reverse.mpr hv))
  have hst3 : ∀ v ∈ st, lvv al v := fun v hv => hst v (List.mem_append_right _ (List.mem_cons_of_mem _ hv))
  have hr : r ∈ al := live_al (hst2 _ List.mem_cons_self) (by omega)
  obtain ⟨j, hj, he⟩ := hw_get (cy := gc Γ) (ρ := ρ) (σ := σ) hr
  rw [cE_obj hk hc] at he
  have hrecv := va_recv (q := (RR c, TT c, nf c)) C.2.2.2.2.2.2.2.2.2.2.1 hH.1 (vwCl_at c hc) he
  have hrun := vx_runV (Ts := TB) (C := mO mi1) (As := as.map (cv ρ)) (b := ρ r) (rest := st.map (cv ρ)) (locs := locs) (cells := cells) (slots := slots) (below := below) (meth := meth) (e := e) (g := F0 m pc ls ((as.reverse ++ .ref r :: st).map (cv ρ))) ⟨C.1, C.2.1, C.2.2.2.1, C.2.2.2.2.1, C.2.2.2.2.2.1⟩ (hM ρ al hst2) ⟨ml_B C hm hdd, C.2.2.2.2.2.1 _ hv.1, C.2.2.2.2.2.1 _ hv.2⟩ ⟨blind_CallOk, by rw [← hcl]; exact hrecv, pre_U C hH hS (.ref r :: as)⟩ rfl (by simpa using hn) hl.1 (by show List.map (cv ρ) (as.reverse ++ .ref r :: st) = _; rw [List.map_append, List.map_reverse]; rfl) (by show 2 * 0 + _ ≤ 8; rw [cat_map]; omega) hd ⟨by omega, by omega⟩
  exact run_nextH C hS hl hst3 hE a1 a2 a3 a4 hrun hm1 hm2 kr kc
/-- a static method with a table -/
def MH (own : String) (idx : Nat) (mi : MI) (n : Nat) : Prop := Cond.methodLink own idx (mY mi) ∈ TB ∧ Cond.initialized (mO mi) ∈ TB ∧ Cond.codeWith (mY mi) (mC mi) (mL mi) (mR mi) (mH mi) ∈ TB ∧ mH mi ≠ [] ∧ (mO mi ≠ "java/lang/invoke/MethodHandle" ∧ mO mi ≠ "java/lang/invoke/VarHandle" ∧ (parseMethodDescriptor (mY mi).desc).map (fun d => d.parameters.length) = some n) ∧ mL mi ≤ 40
theorem p_callSH {idx n d1 mc1 ms1 mc2 ms2 : Nat} {mi1 : MI} {as stk : List Value} {Q1 : PO → PH → Prop} (q : Nat) (hq : pc + 3 = q) (hd : decode (mC mi) pc = .ok (.invokestatic idx, 3)) (hM : CallOk Γ d1 mc1 ms1 mi1 as σ Q1) (hx : ∀ x σ', ¬ Q1 (.inr x) σ') (hm : MH (mO mi) idx mi1 n) (hv : SL mi1) (hn : as.length = n) (hstk : stk = as.reverse ++ st) (hw8 : (st.map fun v => v.category).sum ≤ 8) (hdd : d1 + 1 ≤ d) (hm1 : mc1 + mc2 ≤ mc) (hm2 : ms1 + ms2 ≤ ms)
    (kr : ∀ v σ', Q1 (.inl v) σ' → Ok Γ d mc2 ms2 mi q L (v.toList ++ st) σ' Q) : Ok Γ d mc ms mi pc L stk σ Q := by
  subst hq; subst hstk
  intro p e R s m args below meth c' H locs cells slots ls ρ al ρ0 al0 MC MS C hH hS hl hst hE a1 a2 a3 a4
  have hst2 : ∀ v ∈ as, lvv al v := fun v hv => hst v (List.mem_append_left _ (List.mem_reverse.mpr hv))
  have hst3 : ∀ v ∈ st, lvv al v := fun v hv => hst v (List.mem_append_right _ hv)
  obtain ⟨m1, m2, m3, m4, m5, m6⟩ := hm
  have hC12 := C.2.2.2.2.2.2.2.2.2.2.2.1
  have hC13 := C.2.2.2.2.2.2.2.2.2.2.2.2
  have hmW : mW mi1 = Cond.codeWith (mY mi1) (mC mi1) (mL mi1) (mR mi1) (mH mi1) :: TB := by unfold mW; rw [if_neg m4]
  have hG : GoodIn TB (va_wsS (mO mi) idx (mY mi1) (mW mi1)) := by
    intro w hw
    have hw' : w ∈ TB := by
      unfold va_wsS at hw
      rw [hmW] at hw
      rcases List.mem_append.mp hw with hw | hw
      · simp only [List.mem_cons, List.not_mem_nil, or_false] at hw
        rcases hw with rfl | rfl | rfl
        · exact m1
        · exact hv
        · exact m2
      · rcases List.mem_cons.mp hw with rfl | hw
        · exact m3
        · exact hw
    exact ⟨hw', TB_good hw'⟩
  have hB := vx_cwSW (R := R) (s := s) (args := args) (rm := { frames := d1, cells := mc1, slots := ms1, locals := 100 * d1 }) (mc := mc1) (ms := ms1) n C.2.2.2.2.2.1 hG hmW rfl rfl m5 ⟨by show d1 + 1 ≤ R.frames; omega, by show 8 + (mL mi1 + 11) + 100 * d1 ≤ R.locals; omega⟩
  have hrun := vx_runSW (Ts := TB) (As := as.map (cv ρ)) (rest := st.map (cv ρ)) (locs := locs) (cells := cells) (slots := slots) (below := below) (meth := meth) (e := e) (g := F0 m pc ls ((as.reverse ++ st).map (cv ρ))) ⟨C.1, C.2.1, C.2.2.2.1, C.2.2.2.2.1, C.2.2.2.2.2.1⟩ (hM.met hx hst2) hB ⟨blind_CallOk, pre_U C hH hS as⟩ rfl (by simpa using hn) hl.1 (by show List.map (cv ρ) (as.reverse ++ st) = _; rw [List.map_append, List.map_reverse]) (by show 2 * 0 + _ ≤ 8; rw [cat_map]; omega) hd ⟨by omega, by omega⟩
  exact run_next0 C hS hl hst3 hE a1 a2 a3 a4 hrun hm1 hm2 kr
end Cb3
