/-! ===== entering a method, calling one ===== -/
theorem lv_args_mem : ∀ (vs : List Value) (i j : Nat) (v : Value), (∀ w ∈ vs, w.category = 1) → vs[j]? = some v → (i + j, v) ∈ lv_args i vs := by
  intro vs
  induction vs with
  | nil => intro i j v _ h; simp at h
  | cons a t ih =>
    intro i j v hc h
    have ha : ¬ a.category = 2 := by rw [hc a List.mem_cons_self]; decide
    simp only [lv_args, if_neg ha]
    cases j with
    | zero =>
      simp at h
      subst h
      exact List.mem_cons_self
    | succ j =>
      have := ih (i + 1) j v (fun w hw => hc w (List.mem_cons_of_mem _ hw)) (by simpa using h)
      rw [show i + (j + 1) = i + 1 + j by omega]
      exact List.mem_cons_of_mem _ this
theorem lg_sl_len : ∀ (vs : List Value), (∀ w ∈ vs, w.category = 1) → (lg_sl vs).length = vs.length := by
  intro vs
  induction vs with
  | nil => intro _; simp [lg_sl]
  | cons a t ih =>
    intro hc
    have ha : a.category = 1 := hc a List.mem_cons_self
    have := ih (fun w hw => hc w (List.mem_cons_of_mem _ hw))
    simp [lg_sl, ha] at this ⊢
    omega
theorem blind_CallOk {Γ : Gm} {as : List Value} {σ : PH} {ρ : Nat → Nat} {al : List Nat} : FrameBlind (fun v U => v = (as.map (cv ρ)).toArray ∧ HR Γ ρ al σ U.heap ∧ va_K (gD Γ) vwCl (gtys (gc Γ)) U ∧ OF Γ U) := by
  rintro a U g mk ⟨h1, h2, h3, h4⟩
  exact ⟨h1, h2, va_K.moved (u := U) (U := U.calling g mk a) (Vm.Alike.refl U.vm) h3, h4.same rfl rfl⟩
theorem p_enter {Γ : Gm} {d mc ms : Nat} {mi : MI} {as : List Value} {σ : PH} {Q : PO → PH → Prop} (hp : plainName (mO mi) = true) (hh : mH mi = []) (hlen : as.length ≤ mL mi) (hcat : as.all (fun v => v.category == 1) = true)
    (k : Ok Γ d mc ms mi 0 (as.map some ++ List.replicate (mL mi - as.length) none) [] σ Q) : CallOk Γ d mc ms mi as σ Q := by
  intro ρ al hal
  have hcat' : ∀ w ∈ as, w.category = 1 := fun w hw => by simpa using List.all_eq_true.mp hcat w hw
  have hcat2 : ∀ w ∈ as.map (cv ρ), w.category = 1 := fun w hw => by
    obtain ⟨v, hv, rfl⟩ := List.mem_map.mp hw
    rw [cv_cat]; exact hcat' v hv
  refine vx_ofW (cc := mC mi) (maxL := mL mi) (ret := mR mi) (ws' := TB) hp (by unfold mW; rw [if_pos hh]) ?_
  intro p e s m args below meth c s₁ B hml ht hv
  obtain ⟨rfl, hH, hK, hO⟩ := hv
  have hts := atoms_spec (ws := mW mi) B.pre
  have hl := lv_entry (as.map (cv ρ)) (n := mL mi) (by rw [lg_sl_len _ hcat2]; simpa using hlen)
  rw [lg_entry_eq]
  generalize (lg_sl (as.map (cv ρ)) ++ List.replicate (mL mi - (lg_sl (as.map (cv ρ))).length) Slot.unset).toArray = ls at hl ⊢
  refine k p e _ s m _ below meth c s.heap [] 0 0 ls ρ al ρ al mc ms ⟨B.exec, B.bytes, B.returns, hml, findClass_of_methodNamed B.named, fun w hw => hts w (List.mem_cons_of_mem _ hw), B.notSynchronized, ?_, (name_of_methodNamed B.named B.method).1, hO, hK, Nat.le_refl _, Nat.le_refl _⟩ hH va_S.rf ⟨hl.1, hl.2.1, fun i v hi => ?_⟩ (fun v h => by cases h) Ext.rf (by omega) (by omega) (Nat.le_refl _) (Nat.le_refl _)
  · rw [hh]
    have : c.exceptionTable.toList = [] := by
      cases hc : c.exceptionTable.toList with
      | nil => rfl
      | cons a t => exact (ht a (by rw [hc]; exact List.mem_cons_self)).elim
    rw [this]; rfl
  · have hlt : i < as.length := by
      rcases Nat.lt_or_ge i as.length with h | h
      · exact h
      · rw [List.getElem?_append_right (by simpa using h)] at hi
        have := List.mem_of_getElem? hi
        rw [List.mem_replicate] at this
        exact absurd this.2 (by simp)
    rw [List.getElem?_append_left (by simpa using hlt)] at hi
    have hi2 : as[i]? = some v := by
      simp only [List.getElem?_map] at hi
      cases ha : as[i]? with
      | none => rw [ha] at hi; simp at hi
      | some w => rw [ha] at hi; simp at hi; rw [hi]
    refine ⟨?_, hal v (List.mem_of_getElem? hi2)⟩
    have := hl.2.2 _ (lv_args_mem (as.map (cv ρ)) 0 i (cv ρ v) hcat2 (by simp [hi2]))
    rw [Nat.zero_add] at this
    exact this
theorem CallOk.mono {Γ : Gm} {d mc ms : Nat} {mi : MI} {as : List Value} {σ : PH} {Q Q' : PO → PH → Prop} (k : CallOk Γ d mc ms mi as σ Q) (h : ∀ o σ', Q o σ' → Q' o σ') : CallOk Γ d mc ms mi as σ Q' := by
  intro ρ al hal p e h1 h2 h3 s m args below h4 h5 h6 h7
  obtain ⟨n, o, b1, b2, b3, b4⟩ := k ρ al hal p e h1 h2 h3 s m args below h4 h5 h6 h7
  refine ⟨n, o, b1, b2, b3, ?_⟩
  rcases b4 with ⟨⟨v, σ', ρ', al', c1, c2, c3, c4, c5, c6⟩, b5⟩ | ⟨q, b5, E, ce, Ls, ⟨x, σ', ρ', al', c1, c2, c3, c4, c5⟩, b6⟩
  · exact Or.inl ⟨⟨v, σ', ρ', al', c1, h _ _ c2, c3, c4, c5, c6⟩, b5⟩
  · exact Or.inr ⟨q, b5, E, ce, Ls, ⟨x, σ', ρ', al', c1, h _ _ c2, c3, c4, c5⟩, b6⟩
theorem CallOk.met {Γ : Gm} {d mc ms : Nat} {mi : MI} {as : List Value} {σ : PH} {Q : PO → PH → Prop} (k : CallOk Γ d mc ms mi as σ Q) (hx : ∀ x σ', ¬ Q (.inr x) σ') {ρ : Nat → Nat} {al : List Nat} (hal : ∀ v ∈ as, lvv al v) :
    Met (gl Γ) (mY mi) (mW mi) ({ frames := d, cells := mc, slots := ms, locals := 100 * d }) (fun v U => v = (as.map (cv ρ)).toArray ∧ HR Γ ρ al σ U.heap ∧ va_K (gD Γ) vwCl (gtys (gc Γ)) U ∧ OF Γ U) (QR Γ ρ al Q) mc ms (fA Γ) := by
  intro p e h1 h2 h3 s m args below h4 h5 h6 h7
  obtain ⟨n, o, b1, b2, b3, b4⟩ := k ρ al hal p e h1 h2 h3 s m args below h4 h5 h6 h7
  refine ⟨n, o, b1, b2, b3, ?_⟩
  rcases b4 with b4 | ⟨q, b5, E, ce, Ls, ⟨x, σ', ρ', al', c1, c2, c3, c4, c5⟩, b6⟩
  · exact b4
  · exact (hx _ _ c2).elim
/-- what a call of mi by a name needs of the tables -/
def ML (own : String) (idx : Nat) (mi : MI) (n : Nat) : Prop := Cond.methodLink own idx (mY mi) ∈ TB ∧ Cond.initialized (mO mi) ∈ TB ∧ Cond.code (mY mi) (mC mi) (mL mi) (mR mi) ∈ TB ∧ mH mi = [] ∧ (mO mi ≠ "java/lang/invoke/MethodHandle" ∧ mO mi ≠ "java/lang/invoke/VarHandle" ∧ (parseMethodDescriptor (mY mi).desc).map (fun d => d.parameters.length) = some n) ∧ mL mi ≤ 40
def VL (mi : MI) : Prop := Cond.instanceMethod (mY mi) ∈ TB ∧ Cond.selects (mO mi) (mY mi) (mY mi) ∈ TB
def SL (mi : MI) : Prop := Cond.static (mY mi) ∈ TB
def IL (mi : MI) : Prop := mN mi = "<init>" ∧ mR mi = none ∧ Cond.instanceMethod (mY mi) ∈ TB
theorem mW_eq {mi : MI} (h : mH mi = []) : mW mi = Cond.code (mY mi) (mC mi) (mL mi) (mR mi) :: TB := by unfold mW; rw [if_pos h]
theorem mW_good {mi : MI} (h : mH mi = []) (hc : Cond.code (mY mi) (mC mi) (mL mi) (mR mi) ∈ TB) : GoodIn TB (mW mi) := by
  rw [mW_eq h]
  intro w hw
  rcases List.mem_cons.mp hw with rfl | hw
  · exact ⟨hc, TB_good hc⟩
  · exact ⟨hw, TB_good hw⟩
section PRC
variable {Γ : Gm} {d mc ms : Nat} {mi : MI} {pc : Nat} {L : List (Option Value)} {st : List Value} {σ : PH} {Q : PO → PH → Prop}
variable {p : Program} {e : Env} {R : Room} {s : State} {m : MethodId} {args : Array Value} {below : List Frame} {meth : Method} {c : Code} {H : Heap} {locs : List Loc} {cells slots : Nat} {ls : Array Slot} {ρ : Nat → Nat} {al : List Nat} {ρ0 : Nat → Nat} {al0 : List Nat} {MC MS : Nat}
theorem ml_B {idx n d1 mc1 ms1 : Nat} {mi1 : MI} (C : Cx Γ mi d p R s m args meth c) (hm : ML (mO mi) idx mi1 n) (hd : d1 + 1 ≤ d) :
    CallB R s args (mO mi) idx (mY mi1) (mC mi1) (mL mi1) (mR mi1) (mW mi1) ({ frames := d1, cells := mc1, slots := ms1, locals := 100 * d1 }) mc1 ms1 n := by
  obtain ⟨m1, m2, m3, m4, m5, m6⟩ := hm
  have hC12 := C.2.2.2.2.2.2.2.2.2.2.2.1
  have hC13 := C.2.2.2.2.2.2.2.2.2.2.2.2
  exact callB_of n C.2.2.2.2.2.1 (mW_good m4 m3) (mW_eq m4) rfl rfl (C.2.2.2.2.2.1 _ m2) (C.2.2.2.2.2.1 _ m1) m5 ⟨by show d1 + 1 ≤ R.frames; omega, by show 8 + (mL mi1 + 11) + 100 * d1 ≤ R.locals; omega⟩
theorem pre_U (C : Cx Γ mi d p R s m args meth c) (hH : HR Γ ρ al σ H) (hS : va_S (fA Γ) s.heap H locs) (as : List Value) : ∀ U : State, U.heap = H → s.WarmedH U.vm → ((as.map (cv ρ)).toArray = (as.map (cv ρ)).toArray ∧ HR Γ ρ al σ U.heap ∧ va_K (gD Γ) vwCl (gtys (gc Γ)) U ∧ OF Γ U) := by
  intro U hU hW
  exact ⟨rfl, by rw [hU]; exact hH, va_K.moved hW.alike C.2.2.2.2.2.2.2.2.2.2.1, C.2.2.2.2.2.2.2.2.2.1.next hS hU hW⟩
/-- behind a call that may throw -/
theorem run_next {mc1 ms1 mc2 ms2 : Nat} {st0 : List Value} {a : Array Value} {Q1 : PO → PH → Prop} (C : Cx Γ mi d p R s m args meth c) (hS : va_S (fA Γ) s.heap H locs) (hl : LR ρ al (mL mi) ls L) (hst : ∀ v ∈ st, lvv al v) (hE : Ext ρ0 al0 ρ al) (a1 : cells + mc ≤ MC) (a2 : slots + ms ≤ MS) (a3 : MC ≤ R.cells) (a4 : MS ≤ R.slots)
    (hr : vx_Run p (gl Γ) e R s m args below meth c H locs cells slots mc1 ms1 (F0 m pc ls st0) (st.map (cv ρ)) (QR Γ ρ al Q1 a) (QX Γ ρ al Q1) (fA Γ)) (hh : mH mi = []) (hm1 : mc1 + mc2 ≤ mc) (hm2 : ms1 + ms2 ≤ ms)
    (kr : ∀ v σ', Q1 (.inl v) σ' → Ok Γ d mc2 ms2 mi (pc + 3) L (v.toList ++ st) σ' Q) (kt : ∀ x σ', Q1 (.inr x) σ' → Q (.inr x) σ') :
    W p (gl Γ) e R s m args below meth c H locs cells slots (vx_MQ below (QR Γ ρ0 al0 Q) (QX Γ ρ0 al0 Q) args s MC MS (fA Γ)) (F0 m pc ls st0) := by
  intro T hT X
  rcases hr T hT X with ⟨v, st₀, t, T', L', h0, X', hL, e1, e2, hq, stp⟩ | ⟨q, st₀, t, T', L', E, ce, h0, X', hL, e1, e2, hx, hce, hcv, hcl, stp⟩
  · obtain ⟨v0, σ', ρ', al', c1, c2, c3, c4, c5, c6⟩ := hq
    obtain ⟨-, -, k3⟩ := vx_keep h0 e1 hS (fun q _ h => h) (fun q h => h) hL c6
    have hv : v = v0.map (cv ρ') := Outcome.returned.inj c1
    have go := kr v0 σ' c2 p e R s m args below meth c T'.heap (locs ++ L') (cells + mc1) (slots + ms1) ls ρ' al' ρ0 al0 MC MS C (by rw [e1]; exact c5) k3 (hl.up c4) (fun w hw => by
      rcases List.mem_append.mp hw with hw | hw
      · cases v0 with
        | none => simp at hw
        | some w0 =>
          have : w = w0 := by simpa using hw
          exact c3 w (by rw [this])
      · exact (hst w hw).up c4.1) (hE.tr c4) (by omega) (by omega) a3 a4
    rw [List.map_append, map_ext hst c4.2] at go
    have e3 : v0.toList.map (cv ρ') = v.toList := by rw [hv]; cases v0 <;> rfl
    rw [e3] at go
    obtain ⟨t2, b1, b2⟩ := go T' rfl X'
    exact ⟨t2, stp t2 b1, b2⟩
  · obtain ⟨x, σ', ρ', al', c1, c2, c4, c5, c6⟩ := hx
    obtain ⟨-, -, k3⟩ := vx_keep h0 e1 hS (fun q _ h => h) (fun q h => h) hL c6
    have hout : ∀ x ∈ c.exceptionTable.toList, covers x pc = false := by
      intro x hx
      rw [C.2.2.2.2.2.2.2.1, hh] at hx
      cases hx
    have go := vx_out (p := p) (l := gl Γ) (e := e) (R := R) (s := s) (m := m) (args := args) (below := below) (meth := meth) (c := c) (H := T'.heap) (locs := locs ++ L') (cells := cells + mc1) (slots := slots + ms1) (free := fA Γ) (ls := ls) (rest := st.map (cv ρ)) (Qc := QR Γ ρ0 al0 Q) (XC := QX Γ ρ0 al0 Q) (pc := pc) (E := E) (ce := ce) (q := q) (mc := MC) (ms := MS) hout C.2.2.2.2.2.2.1 (by rw [e1]; exact hce) hcv hcl
      (fun t' ht' hA => ⟨x, σ', ρ', al', c1, kt x σ' c2, hE.tr c4, by rw [ht', e1]; exact c5, ⟨by rw [ht']; exact k3.1, fun q h1 h2 => by rw [ht']; exact k3.2.1 q h1 h2⟩⟩) k3.2.2 (by omega) (by omega)
    obtain ⟨t2, b1, b2⟩ := go T' rfl X'
    exact ⟨t2, stp.trans b1, b2⟩
/-- behind a call that doesn't throw -/
theorem run_next0 {mc1 ms1 mc2 ms2 : Nat} {st0 : List Value} {a : Array Value} {Q1 : PO → PH → Prop} (C : Cx Γ mi d p R s m args meth c) (hS : va_S (fA Γ) s.heap H locs) (hl : LR ρ al (mL mi) ls L) (hst : ∀ v ∈ st, lvv al v) (hE : Ext ρ0 al0 ρ al) (a1 : cells + mc ≤ MC) (a2 : slots + ms ≤ MS) (a3 : MC ≤ R.cells) (a4 : MS ≤ R.slots)
    (hr : va_Run p (gl Γ) e R s m args below meth c H locs cells slots mc1 ms1 (F0 m pc ls st0) (st.map (cv ρ)) (QR Γ ρ al Q1 a) (fA Γ)) (hm1 : mc1 + mc2 ≤ mc) (hm2 : ms1 + ms2 ≤ ms)
    (kr : ∀ v σ', Q1 (.inl v) σ' → Ok Γ d mc2 ms2 mi (pc + 3) L (v.toList ++ st) σ' Q) :
    W p (gl Γ) e R s m args below meth c H locs cells slots (vx_MQ below (QR Γ ρ0 al0 Q) (QX Γ ρ0 al0 Q) args s MC MS (fA Γ)) (F0 m pc ls st0) := by
  intro T hT X
  obtain ⟨v, st₀, t, T', L', h0, X', hL, e1, e2, hq, stp⟩ := hr T hT X
  obtain ⟨v0, σ', ρ', al', c1, c2, c3, c4, c5, c6⟩ := hq
  obtain ⟨-, -, k3⟩ := vx_keep h0 e1 hS (fun q _ h => h) (fun q h => h) hL c6
  have hv : v = v0.map (cv ρ') := Outcome.returned.inj c1
  have go := kr v0 σ' c2 p e R s m args below meth c T'.heap (locs ++ L') (cells + mc1) (slots + ms1) ls ρ' al' ρ0 al0 MC MS C (by rw [e1]; exact c5) k3 (hl.up c4) (fun w hw => by
    rcases List.mem_append.mp hw with hw | hw
    · cases v0 with
      | none => simp at hw
      | some w0 =>
        have : w = w0 := by simpa using hw
        exact c3 w (by rw [this])
    · exact (hst w hw).up c4.1) (hE.tr c4) (by omega) (by omega) a3 a4
  rw [List.map_append, map_ext hst c4.2] at go
  have e3 : v0.toList.map (cv ρ') = v.toList := by rw [hv]; cases v0 <;> rfl
  rw [e3] at go
  obtain ⟨t2, b1, b2⟩ := go T' rfl X'
  exact ⟨t2, stp t2 b1, b2⟩
end PRC
section PRC2
variable {Γ : Gm} {d mc ms : Nat} {mi : MI} {pc : Nat} {L : List (Option Value)} {st : List Value} {σ : PH} {Q : PO → PH → Prop}
/-- invokevirtual on an object of the pool -/
theorem p_callV {idx n d1 mc1 ms1 mc2 ms2 r c : Nat} {mi1 : MI} {as stk : List Value} {Q1 : PO → PH → Prop} (q : Nat) (hq : pc + 3 = q) (hd : decode (mC mi) pc = .ok (.invokevirtual idx, 3)) (hM : CallOk Γ d1 mc1 ms1 mi1 (.ref r :: as) σ Q1) (hm : ML (mO mi) idx mi1 n) (hv : VL mi1) (hk : kd r = c) (hc : c < 10) (hcl : RR c = mO mi1) (hn : as.length = n) (hstk : stk = as.reverse ++ .ref r :: st) (hw8 : (st.map fun v => v.category).sum ≤ 8) (hdd : d1 + 1 ≤ d) (hm1 : mc1 + mc2 ≤ mc) (hm2 : ms1 + ms2 ≤ ms) (hh : mH mi = [])
    (kr : ∀ v σ', Q1 (.inl v) σ' → Ok Γ d mc2 ms2 mi q L (v.toList ++ st) σ' Q) (kt : ∀ x σ', Q1 (.inr x) σ' → Q (.inr x) σ') : Ok Γ d mc ms mi pc L stk σ Q := by
  subst hq; subst hstk
  intro p e R s m args below meth c' H locs cells slots ls ρ al ρ0 al0 MC MS C hH hS hl hst hE a1 a2 a3 a4
  have hst2 : ∀ v ∈ Value.ref r :: as, lvv al v := fun v hv => hst v (by
    rcases List.mem_cons.mp hv with rfl | hv
    · exact List.mem_append_right _ List.mem_cons_self
    · exact List.mem_append_left _ (List.mem_reverse.mpr hv))
  have hst3 : ∀ v ∈ st, lvv al v := fun v hv => hst v (List.mem_append_right _ (List.mem_cons_of_mem _ hv))
  have hr : r ∈ al := live_al (hst2 _ List.mem_cons_self) (by omega)
  obtain ⟨j, hj, he⟩ := hw_get (cy := gc Γ) (ρ := ρ) (σ := σ) hr
  rw [cE_obj hk hc] at he
  have hrecv := va_recv (q := (RR c, TT c, nf c)) C.2.2.2.2.2.2.2.2.2.2.1 hH.1 (vwCl_at c hc) he
  have hrun := vx_runV (Ts := TB) (C := mO mi1) (As := as.map (cv ρ)) (b := ρ r) (rest := st.map (cv ρ)) (locs := locs) (cells := cells) (slots := slots) (below := below) (meth := meth) (e := e) (g := F0 m pc ls ((as.reverse ++ .ref r :: st).map (cv ρ))) ⟨C.1, C.2.1, C.2.2.2.1, C.2.2.2.2.1, C.2.2.2.2.2.1⟩ (hM ρ al hst2) ⟨ml_B C hm hdd, C.2.2.2.2.2.1 _ hv.1, C.2.2.2.2.2.1 _ hv.2⟩ ⟨blind_CallOk, by rw [← hcl]; exact hrecv, pre_U C hH hS (.ref r :: as)⟩ rfl (by simpa using hn) hl.1 (by show List.map (cv ρ) (as.reverse ++ .ref r :: st) = _; rw [List.map_append, List.map_reverse]; rfl) (by show 2 * 0 + _ ≤ 8; rw [cat_map]; omega) hd ⟨by omega, by omega⟩
  exact run_next C hS hl hst3 hE a1 a2 a3 a4 hrun hh hm1 hm2 kr kt
theorem p_callS {idx n d1 mc1 ms1 mc2 ms2 : Nat} {mi1 : MI} {as stk : List Value} {Q1 : PO → PH → Prop} (q : Nat) (hq : pc + 3 = q) (hd : decode (mC mi) pc = .ok (.invokestatic idx, 3)) (hM : CallOk Γ d1 mc1 ms1 mi1 as σ Q1) (hm : ML (mO mi) idx mi1 n) (hv : SL mi1) (hn : as.length = n) (hstk : stk = as.reverse ++ st) (hw8 : (st.map fun v => v.category).sum ≤ 8) (hdd : d1 + 1 ≤ d) (hm1 : mc1 + mc2 ≤ mc) (hm2 : ms1 + ms2 ≤ ms) (hh : mH mi = [])
    (kr : ∀ v σ', Q1 (.inl v) σ' → Ok Γ d mc2 ms2 mi q L (v.toList ++ st) σ' Q) (kt : ∀ x σ', Q1 (.inr x) σ' → Q (.inr x) σ') : Ok Γ d mc ms mi pc L stk σ Q := by
  subst hq; subst hstk
  intro p e R s m args below meth c' H locs cells slots ls ρ al ρ0 al0 MC MS C hH hS hl hst hE a1 a2 a3 a4
  have hst2 : ∀ v ∈ as, lvv al v := fun v hv => hst v (List.mem_append_left _ (List.mem_reverse.mpr hv))
  have hst3 : ∀ v ∈ st, lvv al v := fun v hv => hst v (List.mem_append_right _ hv)
  have hrun := vx_runS (Ts := TB) (As := as.map (cv ρ)) (rest := st.map (cv ρ)) (locs := locs) (cells := cells) (slots := slots) (below := below) (meth := meth) (e := e) (g := F0 m pc ls ((as.reverse ++ st).map (cv ρ))) ⟨C.1, C.2.1, C.2.2.2.1, C.2.2.2.2.1, C.2.2.2.2.2.1⟩ (hM ρ al hst2) ⟨ml_B C hm hdd, C.2.2.2.2.2.1 _ hv⟩ ⟨blind_CallOk, pre_U C hH hS as⟩ rfl (by simpa using hn) hl.1 (by show List.map (cv ρ) (as.reverse ++ st) = _; rw [List.map_append, List.map_reverse]) (by show 2 * 0 + _ ≤ 8; rw [cat_map]; omega) hd ⟨by omega, by omega⟩
  exact run_next C hS hl hst3 hE a1 a2 a3 a4 hrun hh hm1 hm2 kr kt
/-- a constructor -/
theorem p_callI {idx n d1 mc1 ms1 mc2 ms2 r : Nat} {mi1 : MI} {as stk : List Value} {Q1 : PO → PH → Prop} (q : Nat) (hq : pc + 3 = q) (hd : decode (mC mi) pc = .ok (.invokespecial idx, 3)) (hM : CallOk Γ d1 mc1 ms1 mi1 (.ref r :: as) σ Q1) (hx : ∀ x σ', ¬ Q1 (.inr x) σ') (hm : ML (mO mi) idx mi1 n) (hv : IL mi1) (hn : as.length = n) (hstk : stk = as.reverse ++ .ref r :: st) (hw8 : (st.map fun v => v.category).sum ≤ 8) (hdd : d1 + 1 ≤ d) (hm1 : mc1 + mc2 ≤ mc) (hm2 : ms1 + ms2 ≤ ms)
    (kr : ∀ v σ', Q1 (.inl v) σ' → Ok Γ d mc2 ms2 mi q L (v.toList ++ st) σ' Q) : Ok Γ d mc ms mi pc L stk σ Q := by
  subst hq; subst hstk
  intro p e R s m args below meth c' H locs cells slots ls ρ al ρ0 al0 MC MS C hH hS hl hst hE a1 a2 a3 a4
  have hst2 : ∀ v ∈ Value.ref r :: as, lvv al v := fun v hv => hst v (by
    rcases List.mem_cons.mp hv with rfl | hv
    · exact List.mem_append_right _ List.mem_cons_self
    · exact List.mem_append_left _ (List.mem_reverse.mpr hv))
  have hst3 : ∀ v ∈ st, lvv al v := fun v hv => hst v (List.mem_append_right _ (List.mem_cons_of_mem _ hv))
  have hB := ml_B (mc1 := mc1) (ms1 := ms1) C hm hdd
  rw [hv.2.1] at hB
  have hrun := va_runI (Ts := TB) (As := as.map (cv ρ)) (b := ρ r) (rest := st.map (cv ρ)) (locs := locs) (cells := cells) (slots := slots) (below := below) (meth := meth) (e := e) (g := F0 m pc ls ((as.reverse ++ .ref r :: st).map (cv ρ))) ⟨C.1, C.2.1, C.2.2.2.1, C.2.2.2.2.1, C.2.2.2.2.2.1⟩ (hM.met hx hst2) ⟨hB, hv.1, C.2.2.2.2.2.1 _ hv.2.2⟩ ⟨blind_CallOk, pre_U C hH hS (.ref r :: as)⟩ rfl (by simpa using hn) hl.1 (by show List.map (cv ρ) (as.reverse ++ .ref r :: st) = _; rw [List.map_append, List.map_reverse]; rfl) (by show 2 * 0 + _ ≤ 8; rw [cat_map]; omega) hd ⟨by omega, by omega⟩
  exact run_next0 C hS hl hst3 hE a1 a2 a3 a4 hrun hm1 hm2 kr
/-- the same between nest mates -/
def MN (own : String) (idx : Nat) (mi : MI) (n : Nat) : Prop := Cond.methodLinkNest own idx (mY mi) "TwinInk" ∈ NB ∧ Cond.initialized (mO mi) ∈ TB ∧ Cond.code (mY mi) (mC mi) (mL mi) (mR mi) ∈ TB ∧ mH mi = [] ∧ (mO mi ≠ "java/lang/invoke/MethodHandle" ∧ mO mi ≠ "java/lang/invoke/VarHandle" ∧ (parseMethodDescriptor (mY mi).desc).map (fun d => d.parameters.length) = some n) ∧ mL mi ≤ 40
theorem mn_B {p : Program} {R : Room} {s : State} {m : MethodId} {args : Array Value} {meth : Method} {c : Code} {idx n d1 mc1 ms1 : Nat} {mi1 : MI} (C : Cx Γ mi d p R s m args meth c) (hm : MN (mO mi) idx mi1 n) (hd : d1 + 1 ≤ d) :
    va_CN R s args (mO mi) idx (mY mi1) "TwinInk" (mC mi1) (mL mi1) (mR mi1) (mW mi1) ({ frames := d1, cells := mc1, slots := ms1, locals := 100 * d1 }) mc1 ms1 n := by
  obtain ⟨m1, m2, m3, m4, m5, m6⟩ := hm
  have hC12 := C.2.2.2.2.2.2.2.2.2.2.2.1
  have hC13 := C.2.2.2.2.2.2.2.2.2.2.2.2
  exact va_cnB n C.2.2.2.2.2.1 (mW_good m4 m3) (mW_eq m4) rfl rfl (C.2.2.2.2.2.2.2.2.2.1.2.2.2.2.2.2.2.2.2.2 _ m1) (C.2.2.2.2.2.1 _ m2) m5 ⟨by show d1 + 1 ≤ R.frames; omega, by show 8 + (mL mi1 + 11) + 100 * d1 ≤ R.locals; omega⟩
theorem p_callIN {idx n d1 mc1 ms1 mc2 ms2 r : Nat} {mi1 : MI} {as stk : List Value} {Q1 : PO → PH → Prop} (q : Nat) (hq : pc + 3 = q) (hd : decode (mC mi) pc = .ok (.invokespecial idx, 3)) (hM : CallOk Γ d1 mc1 ms1 mi1 (.ref r :: as) σ Q1) (hx : ∀ x σ', ¬ Q1 (.inr x) σ') (hm : MN (mO mi) idx mi1 n) (hv : IL mi1) (hn : as.length = n) (hstk : stk = as.reverse ++ .ref r :: st) (hw8 : (st.map fun v => v.category).sum ≤ 8) (hdd : d1 + 1 ≤ d) (hm1 : mc1 + mc2 ≤ mc) (hm2 : ms1 + ms2 ≤ ms)
    (kr : ∀ v σ', Q1 (.inl v) σ' → Ok Γ d mc2 ms2 mi q L (v.toList ++ st) σ' Q) : Ok Γ d mc ms mi pc L stk σ Q := by
  subst hq; subst hstk
  intro p e R s m args below meth c' H locs cells slots ls ρ al ρ0 al0 MC MS C hH hS hl hst hE a1 a2 a3 a4
  have hst2 : ∀ v ∈ Value.ref r :: as, lvv al v := fun v hv => hst v (by
    rcases List.mem_cons.mp hv with rfl | hv
    · exact List.mem_append_right _ List.mem_cons_self
    · exact List.mem_append_left _ (List.mem_reverse.mpr hv))
  have hst3 : ∀ v ∈ st, lvv al v := fun v hv => hst v (List.mem_append_right _ (List.mem_cons_of_mem _ hv))
  have hB := mn_B (mc1 := mc1) (ms1 := ms1) C hm hdd
  rw [hv.2.1] at hB
  have hrun := va_runIN (Ts := TB) (As := as.map (cv ρ)) (b := ρ r) (rest := st.map (cv ρ)) (locs := locs) (cells := cells) (slots := slots) (below := below) (meth := meth) (e := e) (g := F0 m pc ls ((as.reverse ++ .ref r :: st).map (cv ρ))) ⟨C.1, C.2.1, C.2.2.2.1, C.2.2.2.2.1, C.2.2.2.2.2.1⟩ (hM.met hx hst2) ⟨hB, hv.1, C.2.2.2.2.2.1 _ hv.2.2⟩ ⟨blind_CallOk, pre_U C hH hS (.ref r :: as)⟩ rfl (by simpa using hn) hl.1 (by show List.map (cv ρ) (as.reverse ++ .ref r :: st) = _; rw [List.map_append, List.map_reverse]; rfl) (by show 2 * 0 + _ ≤ 8; rw [cat_map]; omega) hd ⟨by omega, by omega⟩
  exact run_next0 C hS hl hst3 hE a1 a2 a3 a4 hrun hm1 hm2 kr
theorem p_callSN {idx n d1 mc1 ms1 mc2 ms2 : Nat} {mi1 : MI} {as stk : List Value} {Q1 : PO → PH → Prop} (q : Nat) (hq : pc + 3 = q) (hd : decode (mC mi) pc = .ok (.invokestatic idx, 3)) (hM : CallOk Γ d1 mc1 ms1 mi1 as σ Q1) (hx : ∀ x σ', ¬ Q1 (.inr x) σ') (hm : MN (mO mi) idx mi1 n) (hv : SL mi1) (hn : as.length = n) (hstk : stk = as.reverse ++ st) (hw8 : (st.map fun v => v.category).sum ≤ 8) (hdd : d1 + 1 ≤ d) (hm1 : mc1 + mc2 ≤ mc) (hm2 : ms1 + ms2 ≤ ms)
    (kr : ∀ v σ', Q1 (.inl v) σ' → Ok Γ d mc2 ms2 mi q L (v.toList ++ st) σ' Q) : Ok Γ d mc ms mi pc L stk σ Q := by
  subst hq; subst hstk
  intro p e R s m args below meth c' H locs cells slots ls ρ al ρ0 al0 MC MS C hH hS hl hst hE a1 a2 a3 a4
  have hst2 : ∀ v ∈ as, lvv al v := fun v hv => hst v (List.mem_append_left _ (List.mem_reverse.mpr hv))
  have hst3 : ∀ v ∈ st, lvv al v := fun v hv => hst v (List.mem_append_right _ hv)
  have hrun := va_runSN (Ts := TB) (As := as.map (cv ρ)) (rest := st.map (cv ρ)) (locs := locs) (cells := cells) (slots := slots) (below := below) (meth := meth) (e := e) (g := F0 m pc ls ((as.reverse ++ st).map (cv ρ))) ⟨C.1, C.2.1, C.2.2.2.1, C.2.2.2.2.1, C.2.2.2.2.2.1⟩ (hM.met hx hst2) ⟨mn_B C hm hdd, C.2.2.2.2.2.1 _ hv, trivial⟩ ⟨blind_CallOk, pre_U C hH hS as⟩ rfl (by simpa using hn) hl.1 (by show List.map (cv ρ) (as.reverse ++ st) = _; rw [List.map_append, List.map_reverse]) (by show 2 * 0 + _ ≤ 8; rw [cat_map]; omega) hd ⟨by omega, by omega⟩
  exact run_next0 C hS hl hst3 hE a1 a2 a3 a4 hrun hm1 hm2 kr
end PRC2
