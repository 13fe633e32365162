/-! ===== a call whose exception is caught ===== -/
section Cct
/-- a row of the table that covers the place: her class is linked; she takes what comes, or the search goes on -/
theorem ct_rowW {e : Env} {s0 S : State} {f : JFrame} {a : Addr} {ce : Cell} {cy : ClassId} {x : ExceptionTableEntry} (b : Bool) (hW : s0.WarmedH S.vm) (hk : ∃ k, s0.vm.classes[ce.cls]? = some k) (hl : s0.vm.ClassLinks e.platform f.method.cls x.catchType cy) (hce : S.heap[a]? = some ce) (ho : ∀ k, ce.vm ≠ .statics k) (hb : s0.vm.assignable ce.cls cy = b) (hx : covers x f.pc = true) (h0 : x.catchType ≠ 0) :
    ∃ vm', s0.WarmedH vm' ∧ ∀ (Q : Handler → Pre) (E : CtlPost) (d : Bool) (acts : List Action) (t : List ExceptionTableEntry), wp (findHandler.go f a (x :: t)) Q E e d acts S ↔ (if b = true then Q (.found x.handlerPc) d acts (S.setVm vm') else wp (findHandler.go f a t) Q E e d acts (S.setVm vm')) := by
  obtain ⟨k0, hk0⟩ := hk
  obtain ⟨k1, hk1, -⟩ := hW.alike.2.2 _ _ hk0
  obtain ⟨dk, _, _, kt, hd, _, _, _, _, hkt, _, hopen⟩ := hl.here
  obtain ⟨k2, hk2, -⟩ := hW.alike.2.2 _ _ hkt
  refine ⟨S.vm.noted f.method.cls x.catchType (.cls cy), hW.noted hd hopen (State.rightAt_cls hl), fun Q E d acts t => ?_⟩
  obtain ⟨ha, ht⟩ := (resolveClass_links e.toSetting (hW.classLinks hl)).op (op := VmOp.resolveClass f.method.cls x.catchType) rfl
  have hal : S.vm.Alike (S.vm.noted f.method.cls x.catchType (.cls cy)) := (Vm.Alike.refl S.vm).noted _ _ _
  obtain ⟨k1', hk1', -⟩ := hal.2.2 _ _ hk1
  obtain ⟨k2', hk2', -⟩ := hal.2.2 _ _ hk2
  have hb' : (S.vm.noted f.method.cls x.catchType (.cls cy)).assignable ce.cls cy = b := by rw [hal.assignable, hW.alike.assignable]; exact hb
  simp only [covers] at hx
  cases b with
  | true => simp [findHandler.go, hx, h0, ha, ht, hce, ho, hk1', hk2', hb', VmOp.dirties, VmOp.acts]
  | false => simp [findHandler.go, hx, h0, ha, ht, hce, ho, hk1', hk2', hb', VmOp.dirties, VmOp.acts]
theorem ct_find {e : Env} {s0 : State} {f : JFrame} {a : Addr} {ce : Cell} {cx : ClassId} {x : ExceptionTableEntry} {suf : List ExceptionTableEntry} (hk : ∃ k, s0.vm.classes[ce.cls]? = some k) (ho : ∀ k, ce.vm ≠ .statics k) (hl : s0.vm.ClassLinks e.platform f.method.cls x.catchType cx) (hb : s0.vm.assignable ce.cls cx = true) (hx : covers x f.pc = true) (h0 : x.catchType ≠ 0) :
    ∀ (pre : List ExceptionTableEntry) (S : State), s0.WarmedH S.vm → S.heap[a]? = some ce → (∀ y ∈ pre, covers y f.pc = true ∧ y.catchType ≠ 0 ∧ ∃ cy, s0.vm.ClassLinks e.platform f.method.cls y.catchType cy ∧ s0.vm.assignable ce.cls cy = false) →
      ∃ vm', s0.WarmedH vm' ∧ ∀ (Q : Handler → Pre) (E : CtlPost) (d : Bool) (acts : List Action), wp (findHandler.go f a (pre ++ x :: suf)) Q E e d acts S ↔ Q (.found x.handlerPc) d acts (S.setVm vm') := by
  intro pre
  induction pre with
  | nil =>
    intro S hW hce _
    obtain ⟨vm', w, h⟩ := ct_rowW true hW hk hl hce ho hb hx h0
    exact ⟨vm', w, fun Q E d acts => by rw [List.nil_append, h Q E d acts suf, if_pos rfl]⟩
  | cons y ys ih =>
    intro S hW hce hp
    obtain ⟨p1, p2, cy, p3, p4⟩ := hp y List.mem_cons_self
    obtain ⟨vm1, w1, h1⟩ := ct_rowW false hW hk p3 hce ho p4 p1 p2
    obtain ⟨vm2, w2, h2⟩ := ih (S.setVm vm1) w1 hce (fun z hz => hp z (List.mem_cons_of_mem _ hz))
    exact ⟨vm2, w2, fun Q E d acts => by rw [List.cons_append, h1 Q E d acts, if_neg (by decide)]; exact h2 Q E d acts⟩
theorem ct_step {e : Env} {S : State} {a : Addr} {f : JFrame} {r : List Frame} {pc : Nat} {vm' : Vm} (h : ∀ (Q : Handler → Pre) (E : CtlPost) (d : Bool) (acts : List Action), wp (findHandler f a) Q E e d acts S ↔ Q (.found pc) d acts (S.setVm vm')) :
    (stepThrowing e S a (.java f :: r)).Is ((S.setVm vm').setFrames (.java { f with pc := pc, stack := [.ref a] } :: r)) [] := by
  simp only [stepThrowing, searchFrame, vmDo]
  generalize hr : Sem.go _ e false [] S = res
  obtain ⟨as, rfl, ha⟩ := Sem.eq_ok_of hr (a := Handler.found pc) (s' := S.setVm vm') (acts' := []) (by simp [h _ _ _ _])
  exact ⟨rfl, ha⟩
variable {p : Program} {l : Launch} {e : Env} {R : Room} {s : State} {m : MethodId} {args : Array Value} {below : List Frame} {meth : Method} {c : Code} {H : Heap} {locs : List Loc} {cells slots : Nat} {Q : State → Prop} {ls : Array Slot} {rest : List Value} {pc : Nat}
theorem ct_steps {T : State} (X : Stand p l e R s m args below meth c T locs cells slots) {a : Addr} {g : JFrame} (hg : g.method = m) {h : Nat} {vm' : Vm} {t : State} (hf : ∀ (Q : Handler → Pre) (E : CtlPost) (d : Bool) (acts : List Action), wp (findHandler g a) Q E e d acts ((T.setTop g).pushFrame (.throwing a)) ↔ Q (.found h) d acts (((T.setTop g).pushFrame (.throwing a)).setVm vm'))
    (hr : Steps p.tables e below ((T.setVm vm').setTop { g with pc := h, stack := [.ref a] }) t) : Steps p.tables e below ((T.setTop g).pushFrame (.throwing a)) t := by
  have hat : At T g.method c below := by rw [hg]; exact X.here
  obtain ⟨hgo, hw⟩ := hat.throwing a
  refine Steps.head hgo hw ?_
  rw [stepThread_throwing (frames_entered hat.top _), (ct_step (S := (T.setTop g).pushFrame (.throwing a)) hf).1]
  obtain ⟨g0, hg0⟩ := Option.isSome_iff_exists.mp hat.top
  obtain ⟨r, hfr⟩ := State.topJava?_eq_some.mp hg0
  have hfr2 : (T.setVm vm').frames = .java g0 :: r := hfr
  have e1 : ∀ (u : State) (F G : List Frame), ((u.setFrames F).setVm vm').setFrames G = (u.setVm vm').setFrames G := fun u F G => by
    show ((u.setVm vm').setFrames F).setFrames G = _
    rw [State.setFrames_setFrames]
  rw [State.setTop_of_frames _ hfr2] at hr
  rw [hfr, List.tail_cons, State.pushFrame, e1, State.setTop_of_frames _ hfr, e1]
  exact hr
/-- caught: the rows ahead don't take it, this one does -/
theorem ct_catch {own E : String} {ce : Cell} {q : Addr} (hown : s.vm.findClass own = some m.cls) (pre : List ExceptionTableEntry) (x : ExceptionTableEntry) (suf : List ExceptionTableEntry) (hsplit : c.exceptionTable.toList = pre ++ x :: suf)
    (hpass : ∀ z ∈ pre, covers z pc = true ∧ z.catchType ≠ 0 ∧ ∃ nm : String, (Cond.classLink own z.catchType nm).before args s = true ∧ va_Nc E nm s) (hx : covers x pc = true) (h0 : x.catchType ≠ 0)
    (hlink : (Cond.classLink own x.catchType E).before args s = true) (hcell : H[q]? = some ce) (hv : ce.vm = .none) (hcl : s.vm.findClass E = some ce.cls)
    (kk : W p l e R s m args below meth c H locs cells slots Q (F0 m x.handlerPc ls [.ref q])) : vx_W p l e R s m args below meth c H locs cells slots Q (F0 m pc ls rest) q := by
  intro T hT X
  have hpl : e.platform.magicAccessors = ({} : Platform).magicAccessors := by rw [X.admits.platform]
  obtain ⟨c5, hc5, hcl5⟩ := Cond.classLink_spec hown hlink e.platform hpl
  cases Option.some.inj (hcl.symm.trans hc5)
  have hasg : s.vm.assignable ce.cls ce.cls = true := Vm.assignable_self _ _
  obtain ⟨k9, h9, -⟩ := Vm.findClass_spec hcl
  obtain ⟨vm', w, hq⟩ := ct_find (e := e) (s0 := s) (f := F0 m pc ls rest) (a := q) (ce := ce) (cx := ce.cls) (x := x) (suf := suf) ⟨k9, h9⟩ (fun k => by rw [hv]; exact fun z => by cases z) hcl5 hasg hx h0 pre ((T.setTop (F0 m pc ls rest)).pushFrame (.throwing q)) (by rw [Stand.throwing_vm]; exact X.warmed) (by rw [Stand.throwing_heap, hT]; exact hcell) (fun z hz => by
    obtain ⟨p1, p2, nm, p3, a8, b8, h1, h2, h3⟩ := hpass z hz
    obtain ⟨c6, hc6, hcl6⟩ := Cond.classLink_spec hown p3 e.platform hpl
    cases Option.some.inj (h1.symm.trans hcl)
    cases Option.some.inj (h2.symm.trans hc6)
    exact ⟨p1, p2, _, hcl6, h3⟩)
  obtain ⟨t, a1, b1⟩ := kk (T.setVm vm') hT (X.noted w)
  refine ⟨t, ct_steps X (g := F0 m pc ls rest) rfl (vm' := vm') (h := x.handlerPc) (fun Q E d acts => ?_) a1, b1⟩
  rw [W.findHandler_eq (meth := meth) (code := c) (by rw [Stand.throwing_vm]; exact X.method') X.code, hsplit]
  exact hq Q E d acts
end Cct
