/-! ===== throwing: new, dup, the text, the constructor, athrow ===== -/
section NXW
variable {p : Program} {l : Launch} {e : Env} {R : Room} {s : State} {m : MethodId} {args : Array Value} {below : List Frame} {meth : Method} {c : Code} {H : Heap} {locs : List Loc} {cells slots : Nat}
variable {free : Addr → Prop} {ls : Array Slot} {rest : List Value} {Qc : Array Value → State → Outcome → State → Prop} {XC : String → State → State → Prop}
theorem nx_throwS {cc : ByteArray} {pc : Nat} (hexec : p.tables.exec = Jvm.exec) (hb : c.code = cc) (hl : l.stackTraces = false) {own cls text Y : String} {r : List String} {ik is ic ix mc ms sa : Nat} {bts : ByteArray} {A : Nat → Prop}
    (hown : s.vm.findClass own = some m.cls) (hcls : Bundle.fit cls = true) (hY : Bundle.fit Y = true) (hnames : ∀ n ∈ r, Bundle.fit n = true)
    (b0 : decode bts 0 = .ok (.aload_n 0, 1)) (b1 : decode bts 1 = .ok (.aload_n 1, 1)) (b2 : decode bts 2 = .ok (.invokespecial ix, 3)) (b5 : decode bts 5 = .ok (.return_, 1))
    (hk : (Cond.classLink own ik cls).before args s = true) (hini : (Cond.initialized cls).before args s = true) (hstr : vk_R own is text sa s) (hat : ∀ w ∈ (nx_atoms own ic cls Y r ix bts).filter vx_no, w.before args s = true)
    (hgood : ∀ w ∈ Cond.classLink own ik cls :: Cond.initialized cls :: (nx_atoms own ic cls Y r ix bts).filter vx_no, vx_ot w = true)
    (hU : vx_Zq Bundle.tN "UNASSIGNED_STACK" Bundle.steD A s s.heap) (hN : vx_Zq Bundle.tN "SUPPRESSED_SENTINEL" Bundle.listD A s s.heap) (hS : va_S A s.heap H locs) (hsize : ls.size = c.maxLocals)
    (d0 : decode cc pc = .ok (.new ik, 3)) (d3 : decode cc (pc + 3) = .ok (.dup, 1)) (d4 : decode cc (pc + 4) = .ok (.ldc is, 2)) (d6 : decode cc (pc + 6) = .ok (.invokespecial ic, 3)) (d9 : decode cc (pc + 9) = .ok (.athrow, 1))
    (hout : ∀ x ∈ c.exceptionTable.toList, covers x (pc + 9) = false)
    (hRframes : r.length + 4 < R.frames) (hRlocals : (rest.map fun v => v.category).sum + (13 * (r.length + 2) + 43) ≤ R.locals) (hRcells : cells + 1 ≤ R.cells) (hRslots : slots + 6 ≤ R.slots) (hlocks : meth.locks = false)
    (hx : ∀ t : State, s.vm.Alike t.vm → H.size ≤ t.heap.size → (∀ q : Nat, q < H.size → t.heap[q]? = H[q]?) → XC cls s t)
    (hf : ∀ z ∈ locs, free z.base) (hc : cells + 1 ≤ mc) (hs : slots + 6 ≤ ms) :
    W p l e R s m args below meth c H locs cells slots (vx_MQ below Qc XC args s mc ms free) (F0 m pc ls rest) := by
  intro T hT X
  have htr : e.platform.stackTraces = false := (show e.platform.stackTraces = l.stackTraces by rw [X.admits.platform]).trans hl
  have Yb := vx_rebase X (R' := { frames := R.frames, locals := R.locals, cells := 1, slots := 6 }) (Nat.le_refl _) (Nat.le_refl _) hRcells hRslots
  obtain ⟨s', hA⟩ : ∃ z, z = (T.setVm s.vm).setFrames (.invoking m args :: below) := ⟨_, rfl⟩
  rw [← hA] at Yb
  have hvm : s'.vm = s.vm := by rw [hA]; rfl
  have hhp : s'.heap = H := by rw [hA]; exact hT
  have hW0 : s.WarmedH s'.vm := by rw [hvm]; exact State.WarmedH.refl s
  have hat' : ∀ w ∈ (nx_atoms own ic cls Y r ix bts).filter vx_no, w.before args s' = true := fun w hw => vx_ot_at hW0 hvm.symm (hgood w (List.mem_cons_of_mem _ (List.mem_cons_of_mem _ hw))) (hat w hw)
  have hk' : (Cond.classLink own ik cls).before args s' = true := vx_ot_at hW0 hvm.symm (hgood _ List.mem_cons_self) hk
  have hini' : (Cond.initialized cls).before args s' = true := vx_ot_at hW0 hvm.symm (hgood _ (List.mem_cons_of_mem _ List.mem_cons_self)) hini
  have hU' : vx_Zq Bundle.tN "UNASSIGNED_STACK" Bundle.steD A s' s'.heap := by rw [hhp]; exact vx_Zq.moved hW0.alike (hU.kept hS.2.1)
  have hN' : vx_Zq Bundle.tN "SUPPRESSED_SENTINEL" Bundle.listD A s' s'.heap := by rw [hhp]; exact vx_Zq.moved hW0.alike (hN.kept hS.2.1)
  have h : ∀ w ∈ nx_atoms own ic cls Y r ix bts, w.before args s' = true := vx_own hat' (vx_isRefq hU'.1) (vx_isRefq hN'.1) hU'.2.word hN'.2.word
  have hown' : s'.vm.findClass own = some m.cls := by rw [hvm]; exact hown
  have hins : (Cond.instantiable cls 6).before args s' = true := h _ (by simp [nx_atoms])
  obtain ⟨vm₁, cX, kX, hfX, hkX, -, -, X₁, st1⟩ := Yb.newCold hexec (own := own) (C := cls) (index := ik) (n := 6) hown' hk' hins hini'
    (g := F0 m pc ls rest) rfl (by rw [hb]; exact d0) (Nat.le_refl _) (Nat.le_refl _)
  generalize hT1 : (T.setVm vm₁).pushCell { cls := cX, slots := kX.instanceTypes.map defaultValue, vm := .none } = T1 at X₁ st1
  have hcat : (Value.ref T.heap.size).category = 1 := rfl
  have hcellA : T1.heap[T.heap.size]? = some (freshCell cX kX) := by rw [← hT1]; exact State.heap_pushCell_size _ _
  have d3' : decode c.code (pc + 3) = .ok (.dup, 1) := by rw [hb]; exact d3
  have d4' : decode c.code (pc + 4) = .ok (.ldc is, 2) := by rw [hb]; exact d4
  have hstr' : vk_R own is text sa s' := vk_R.warm hW0 hstr
  obtain ⟨U, hsteps, hrun, hend, hW, hsame, ce, hce, hOv, hOc⟩ := nx_ctor X₁ hexec htr (own := own) (cls := cls) (Y := Y) (r := r) (ic := ic) (ix := ix) (bts := bts) hown' hcls hY hnames b0 b1 b2 b5 h (fun x hx => nomatch hx) hfX hkX hcellA (by rw [hhp, hT]; exact Nat.le_refl _) (msg := .ref sa) rfl
    (g := { method := m, pc := pc + 6, locals := ls, stack := .ref sa :: .ref T.heap.size :: .ref T.heap.size :: rest, locked := none }) rfl hsize rfl rfl (rest := rest) rfl
    (by rw [hb]; exact d6) (by rw [hb]; exact d9) hout hRframes (by
      show 2 * 0 + _ + _ ≤ R.locals
      simp only [List.map_cons, List.sum_cons, hcat]; omega) hlocks
  obtain ⟨f1, f2⟩ := vx_frame hsame
  rw [hhp] at f1 f2
  have hWs : s.WarmedH U.vm := State.WarmedH.trans hW0 hW
  have hcl : s.vm.findClass cls = some ce.cls := by
    rw [hvm] at hOc
    exact hOc
  have hall : s.sameButNew ({ U with vm := s.vm } : State) locs mc ms := by
    subst hA
    obtain ⟨e1, e2⟩ := hsame
    rw [State.setFrames_setFrames] at e1
    have h2 : (T.setVm s.vm).sameButNew ({ U with vm := s.vm } : State) [] (0 + 1) (0 + 6) := ⟨e1, e2⟩
    have h3 := X.same.trans h2
    rw [List.append_nil] at h3
    exact h3.mono hc hs
  refine ⟨U, ?_, .threw T.heap.size, hrun, hend, Or.inr ⟨T.heap.size, rfl, cls, ce, locs, hx U hWs.alike f1 (fun q hq => f2 q hq (fun z hz => nomatch hz)), hce, hOv, hcl, hWs, hall, hf⟩⟩
  refine st1 _ ?_
  show Steps p.tables e below (T1.setTop { method := m, pc := pc + 3, locals := ls, stack := .ref T.heap.size :: rest, locked := none }) _
  jvm_step X₁.here [X₁.here.top, hexec, d3', Value.category]
  exact X₁.ldcString hexec (own := own) (text := text) (index := is) (a := sa) hown' hstr'.1 hstr'.2
    (g := { method := m, pc := pc + 4, locals := ls, stack := .ref T.heap.size :: .ref T.heap.size :: rest, locked := none }) rfl d4' _ hsteps
theorem nx_throwSW {cc : ByteArray} {pc : Nat} (hexec : p.tables.exec = Jvm.exec) (hb : c.code = cc) (hl : l.stackTraces = false) {own cls text Y : String} {r : List String} {ik is ic ix mc ms sa : Nat} {bts : ByteArray} {A : Nat → Prop}
    (hown : s.vm.findClass own = some m.cls) (hcls : Bundle.fit cls = true) (hY : Bundle.fit Y = true) (hnames : ∀ n ∈ r, Bundle.fit n = true)
    (b0 : decode bts 0 = .ok (.aload_n 0, 1)) (b1 : decode bts 1 = .ok (.aload_n 1, 1)) (b2 : decode bts 2 = .ok (.invokespecial ix, 3)) (b5 : decode bts 5 = .ok (.return_, 1))
    (hk : (Cond.classLink own ik cls).before args s = true) (hini : (Cond.initialized cls).before args s = true) (hstr : vk_R own is text sa s) (hat : ∀ w ∈ (nx_atoms own ic cls Y r ix bts).filter vx_no, w.before args s = true)
    (hgood : ∀ w ∈ Cond.classLink own ik cls :: Cond.initialized cls :: (nx_atoms own ic cls Y r ix bts).filter vx_no, vx_ot w = true)
    (hU : vx_Zq Bundle.tN "UNASSIGNED_STACK" Bundle.steD A s s.heap) (hN : vx_Zq Bundle.tN "SUPPRESSED_SENTINEL" Bundle.listD A s s.heap) (hS : va_S A s.heap H locs) (hsize : ls.size = c.maxLocals)
    (d0 : decode cc pc = .ok (.new ik, 3)) (d3 : decode cc (pc + 3) = .ok (.dup, 1)) (d4 : decode cc (pc + 4) = .ok (.ldc_w is, 3)) (d6 : decode cc (pc + 7) = .ok (.invokespecial ic, 3)) (d9 : decode cc (pc + 10) = .ok (.athrow, 1))
    (hout : ∀ x ∈ c.exceptionTable.toList, covers x (pc + 10) = false)
    (hRframes : r.length + 4 < R.frames) (hRlocals : (rest.map fun v => v.category).sum + (13 * (r.length + 2) + 43) ≤ R.locals) (hRcells : cells + 1 ≤ R.cells) (hRslots : slots + 6 ≤ R.slots) (hlocks : meth.locks = false)
    (hx : ∀ t : State, s.vm.Alike t.vm → H.size ≤ t.heap.size → (∀ q : Nat, q < H.size → t.heap[q]? = H[q]?) → XC cls s t)
    (hf : ∀ z ∈ locs, free z.base) (hc : cells + 1 ≤ mc) (hs : slots + 6 ≤ ms) :
    W p l e R s m args below meth c H locs cells slots (vx_MQ below Qc XC args s mc ms free) (F0 m pc ls rest) := by
  intro T hT X
  have htr : e.platform.stackTraces = false := (show e.platform.stackTraces = l.stackTraces by rw [X.admits.platform]).trans hl
  have Yb := vx_rebase X (R' := { frames := R.frames, locals := R.locals, cells := 1, slots := 6 }) (Nat.le_refl _) (Nat.le_refl _) hRcells hRslots
  obtain ⟨s', hA⟩ : ∃ z, z = (T.setVm s.vm).setFrames (.invoking m args :: below) := ⟨_, rfl⟩
  rw [← hA] at Yb
  have hvm : s'.vm = s.vm := by rw [hA]; rfl
  have hhp : s'.heap = H := by rw [hA]; exact hT
  have hW0 : s.WarmedH s'.vm := by rw [hvm]; exact State.WarmedH.refl s
  have hat' : ∀ w ∈ (nx_atoms own ic cls Y r ix bts).filter vx_no, w.before args s' = true := fun w hw => vx_ot_at hW0 hvm.symm (hgood w (List.mem_cons_of_mem _ (List.mem_cons_of_mem _ hw))) (hat w hw)
  have hk' : (Cond.classLink own ik cls).before args s' = true := vx_ot_at hW0 hvm.symm (hgood _ List.mem_cons_self) hk
  have hini' : (Cond.initialized cls).before args s' = true := vx_ot_at hW0 hvm.symm (hgood _ (List.mem_cons_of_mem _ List.mem_cons_self)) hini
  have hU' : vx_Zq Bundle.tN "UNASSIGNED_STACK" Bundle.steD A s' s'.heap := by rw [hhp]; exact vx_Zq.moved hW0.alike (hU.kept hS.2.1)
  have hN' : vx_Zq Bundle.tN "SUPPRESSED_SENTINEL" Bundle.listD A s' s'.heap := by rw [hhp]; exact vx_Zq.moved hW0.alike (hN.kept hS.2.1)
  have h : ∀ w ∈ nx_atoms own ic cls Y r ix bts, w.before args s' = true := vx_own hat' (vx_isRefq hU'.1) (vx_isRefq hN'.1) hU'.2.word hN'.2.word
  have hown' : s'.vm.findClass own = some m.cls := by rw [hvm]; exact hown
  have hins : (Cond.instantiable cls 6).before args s' = true := h _ (by simp [nx_atoms])
  obtain ⟨vm₁, cX, kX, hfX, hkX, -, -, X₁, st1⟩ := Yb.newCold hexec (own := own) (C := cls) (index := ik) (n := 6) hown' hk' hins hini'
    (g := F0 m pc ls rest) rfl (by rw [hb]; exact d0) (Nat.le_refl _) (Nat.le_refl _)
  generalize hT1 : (T.setVm vm₁).pushCell { cls := cX, slots := kX.instanceTypes.map defaultValue, vm := .none } = T1 at X₁ st1
  have hcat : (Value.ref T.heap.size).category = 1 := rfl
  have hcellA : T1.heap[T.heap.size]? = some (freshCell cX kX) := by rw [← hT1]; exact State.heap_pushCell_size _ _
  have d3' : decode c.code (pc + 3) = .ok (.dup, 1) := by rw [hb]; exact d3
  have d4' : decode c.code (pc + 4) = .ok (.ldc_w is, 3) := by rw [hb]; exact d4
  have hstr' : vk_R own is text sa s' := vk_R.warm hW0 hstr
  obtain ⟨U, hsteps, hrun, hend, hW, hsame, ce, hce, hOv, hOc⟩ := nx_ctor X₁ hexec htr (own := own) (cls := cls) (Y := Y) (r := r) (ic := ic) (ix := ix) (bts := bts) hown' hcls hY hnames b0 b1 b2 b5 h (fun x hx => nomatch hx) hfX hkX hcellA (by rw [hhp, hT]; exact Nat.le_refl _) (msg := .ref sa) rfl
    (g := { method := m, pc := pc + 7, locals := ls, stack := .ref sa :: .ref T.heap.size :: .ref T.heap.size :: rest, locked := none }) rfl hsize rfl rfl (rest := rest) rfl
    (by rw [hb]; exact d6) (by rw [hb]; exact d9) hout hRframes (by
      show 2 * 0 + _ + _ ≤ R.locals
      simp only [List.map_cons, List.sum_cons, hcat]; omega) hlocks
  obtain ⟨f1, f2⟩ := vx_frame hsame
  rw [hhp] at f1 f2
  have hWs : s.WarmedH U.vm := State.WarmedH.trans hW0 hW
  have hcl : s.vm.findClass cls = some ce.cls := by
    rw [hvm] at hOc
    exact hOc
  have hall : s.sameButNew ({ U with vm := s.vm } : State) locs mc ms := by
    subst hA
    obtain ⟨e1, e2⟩ := hsame
    rw [State.setFrames_setFrames] at e1
    have h2 : (T.setVm s.vm).sameButNew ({ U with vm := s.vm } : State) [] (0 + 1) (0 + 6) := ⟨e1, e2⟩
    have h3 := X.same.trans h2
    rw [List.append_nil] at h3
    exact h3.mono hc hs
  refine ⟨U, ?_, .threw T.heap.size, hrun, hend, Or.inr ⟨T.heap.size, rfl, cls, ce, locs, hx U hWs.alike f1 (fun q hq => f2 q hq (fun z hz => nomatch hz)), hce, hOv, hcl, hWs, hall, hf⟩⟩
  refine st1 _ ?_
  show Steps p.tables e below (T1.setTop { method := m, pc := pc + 3, locals := ls, stack := .ref T.heap.size :: rest, locked := none }) _
  jvm_step X₁.here [X₁.here.top, hexec, d3', Value.category]
  exact X₁.ldcStringW hexec (own := own) (text := text) (index := is) (a := sa) hown' hstr'.1 hstr'.2
    (g := { method := m, pc := pc + 4, locals := ls, stack := .ref T.heap.size :: .ref T.heap.size :: rest, locked := none }) rfl d4' _ hsteps
end NXW
def exix (x : Nat) : Nat := if x = 1 then 13 else 7
def exbt (x : Nat) : ByteArray := if x = 1 then ⟨#[0x2a, 0x2b, 0xb7, 0x00, 0x0d, 0xb1]⟩ else ⟨#[0x2a, 0x2b, 0xb7, 0x00, 0x07, 0xb1]⟩
theorem exbt0 (x : Nat) : decode (exbt x) 0 = .ok (.aload_n 0, 1) := by unfold exbt; split <;> decide +kernel
theorem exbt1 (x : Nat) : decode (exbt x) 1 = .ok (.aload_n 1, 1) := by unfold exbt; split <;> decide +kernel
theorem exbt2 (x : Nat) : decode (exbt x) 2 = .ok (.invokespecial (exix x), 3) := by unfold exbt exix; split <;> decide +kernel
theorem exbt5 (x : Nat) : decode (exbt x) 5 = .ok (.return_, 1) := by unfold exbt; split <;> decide +kernel
theorem exn_fit (x : Nat) : Bundle.fit (exn x) = true := by unfold exn; split <;> decide
def ex_at (own : String) (ic x : Nat) : List Cond := (nx_atoms own ic (exn x) "java/lang/RuntimeException" ["java/lang/Exception"] (exix x) (exbt x)).filter vx_no
def thw (own : String) (ic x : Nat) : Bool := (ex_at own ic x).all (fun w => decide (w ∈ lw_tbl) && (goodWord w || nbw w) && vx_ot w)
theorem thw1 : thw "TwinInk" 171 1 = true := by decide +kernel
theorem thw2 : thw "TwinInk" 107 2 = true := by decide +kernel
section PRT
variable {Γ : Gm} {d mc ms : Nat} {mi : MI} {pc : Nat} {L : List (Option Value)} {st : List Value} {σ : PH} {Q : PO → PH → Prop}
def TL (mi : MI) (x ik is ic i : Nat) : Prop := Cond.classLink (mO mi) ik (exn x) ∈ TB ∧ Cond.initialized (exn x) ∈ TB ∧ thw (mO mi) ic x = true ∧ i < 31 ∧ mO mi = sow i ∧ is = six i ∧ mH mi = []
theorem thw_hat {p : Program} {R : Room} {s : State} {m : MethodId} {args : Array Value} {meth : Method} {c : Code} {ic x : Nat} (C : Cx Γ mi d p R s m args meth c) (h : thw (mO mi) ic x = true) : ∀ w ∈ ex_at (mO mi) ic x, w.before args s = true ∧ vx_ot w = true := by
  intro w hw
  have h1 := List.all_eq_true.mp h w hw
  simp only [Bool.and_eq_true, Bool.or_eq_true, decide_eq_true_eq] at h1
  refine ⟨?_, h1.2⟩
  rcases h1.1.2 with g | g
  · exact C.2.2.2.2.2.1 w (TB_in h1.1.1 g)
  · have hn := C.2.2.2.2.2.2.2.2.2.1.2.2.2.2.2.2.2.2.2.2 w (List.mem_filter.mpr ⟨h1.1.1, g⟩)
    refine va_Nw.use ?_ hn
    cases w <;> first | rfl | (simp [nbw] at g)
theorem HR.grow {ρ : Nat → Nat} {al : List Nat} {H H1 : Heap} (hH : HR Γ ρ al σ H) (hq : ∀ q : Nat, q < H.size → H1[q]? = H[q]?) : HR Γ ρ al σ H1 :=
  ⟨hH.1.kept (fun k x hx => hq x.1 ((hH.1 k x hx).lt)), hH.2⟩
theorem p_throw {x ik is ic i : Nat} (d0 : decode (mC mi) pc = .ok (.new ik, 3)) (d3 : decode (mC mi) (pc + 3) = .ok (.dup, 1)) (d4 : decode (mC mi) (pc + 4) = .ok (.ldc is, 2)) (d6 : decode (mC mi) (pc + 6) = .ok (.invokespecial ic, 3)) (d9 : decode (mC mi) (pc + 9) = .ok (.athrow, 1))
    (hT : TL mi x ik is ic i) (hd : 6 ≤ d) (hm : 1 ≤ mc) (hs : 6 ≤ ms) (hst8 : (st.map fun v => v.category).sum ≤ 8) (hq : Q (.inr x) σ) : Ok Γ d mc ms mi pc L st σ Q := by
  intro p e R s m args below meth c H locs cells slots ls ρ al ρ0 al0 MC MS C hH hS hl hst hE a1 a2 a3 a4
  obtain ⟨t1, t2, t3, t4, t5, t6, t7⟩ := hT
  have hC12 := C.2.2.2.2.2.2.2.2.2.2.2.1
  have hC13 := C.2.2.2.2.2.2.2.2.2.2.2.2
  have hOF := C.2.2.2.2.2.2.2.2.2.1
  have hat := thw_hat C t3
  have hZ := hOF.2.2.2.2.2.1 i t4
  rw [← t5, ← t6] at hZ
  refine nx_throwS (Y := "java/lang/RuntimeException") (r := ["java/lang/Exception"]) (ix := exix x) (bts := exbt x) (A := fA Γ) C.1 C.2.1 hOF.1 C.2.2.2.2.1 (exn_fit x) (by decide) (by decide) (exbt0 x) (exbt1 x) (exbt2 x) (exbt5 x) (C.2.2.2.2.2.1 _ t1) (C.2.2.2.2.2.1 _ t2) hZ (fun w hw => (hat w hw).1) (fun w hw => ?_) hOF.2.2.2.2.2.2.1 hOF.2.2.2.2.2.2.2.1 hS (hl.1.trans C.2.2.2.1.symm) d0 d3 d4 d6 d9 (fun z hz => by rw [C.2.2.2.2.2.2.2.1, t7] at hz; cases hz) (by show 1 + 4 < R.frames; omega) (by rw [cat_map]; show _ + (13 * (1 + 2) + 43) ≤ R.locals; omega) (by omega) (by omega) C.2.2.2.2.2.2.1 (fun t hA hz hk => ⟨x, σ, ρ, al, rfl, hq, hE, hH.grow hk, ⟨Nat.le_trans hS.1 hz, fun q h1 h2 => (hk q (Nat.lt_of_lt_of_le h1 hS.1)).trans (hS.2.1 q h1 h2)⟩⟩) hS.2.2 (by omega) (by omega)
  rcases List.mem_cons.mp hw with rfl | hw
  · rfl
  · rcases List.mem_cons.mp hw with rfl | hw
    · rfl
    · exact (hat w hw).2
theorem p_throwW {x ik is ic i : Nat} (d0 : decode (mC mi) pc = .ok (.new ik, 3)) (d3 : decode (mC mi) (pc + 3) = .ok (.dup, 1)) (d4 : decode (mC mi) (pc + 4) = .ok (.ldc_w is, 3)) (d6 : decode (mC mi) (pc + 7) = .ok (.invokespecial ic, 3)) (d9 : decode (mC mi) (pc + 10) = .ok (.athrow, 1))
    (hT : TL mi x ik is ic i) (hd : 6 ≤ d) (hm : 1 ≤ mc) (hs : 6 ≤ ms) (hst8 : (st.map fun v => v.category).sum ≤ 8) (hq : Q (.inr x) σ) : Ok Γ d mc ms mi pc L st σ Q := by
  intro p e R s m args below meth c H locs cells slots ls ρ al ρ0 al0 MC MS C hH hS hl hst hE a1 a2 a3 a4
  obtain ⟨t1, t2, t3, t4, t5, t6, t7⟩ := hT
  have hC12 := C.2.2.2.2.2.2.2.2.2.2.2.1
  have hC13 := C.2.2.2.2.2.2.2.2.2.2.2.2
  have hOF := C.2.2.2.2.2.2.2.2.2.1
  have hat := thw_hat C t3
  have hZ := hOF.2.2.2.2.2.1 i t4
  rw [← t5, ← t6] at hZ
  refine nx_throwSW (Y := "java/lang/RuntimeException") (r := ["java/lang/Exception"]) (ix := exix x) (bts := exbt x) (A := fA Γ) C.1 C.2.1 hOF.1 C.2.2.2.2.1 (exn_fit x) (by decide) (by decide) (exbt0 x) (exbt1 x) (exbt2 x) (exbt5 x) (C.2.2.2.2.2.1 _ t1) (C.2.2.2.2.2.1 _ t2) hZ (fun w hw => (hat w hw).1) (fun w hw => ?_) hOF.2.2.2.2.2.2.1 hOF.2.2.2.2.2.2.2.1 hS (hl.1.trans C.2.2.2.1.symm) d0 d3 d4 d6 d9 (fun z hz => by rw [C.2.2.2.2.2.2.2.1, t7] at hz; cases hz) (by show 1 + 4 < R.frames; omega) (by rw [cat_map]; show _ + (13 * (1 + 2) + 43) ≤ R.locals; omega) (by omega) (by omega) C.2.2.2.2.2.2.1 (fun t hA hz hk => ⟨x, σ, ρ, al, rfl, hq, hE, hH.grow hk, ⟨Nat.le_trans hS.1 hz, fun q h1 h2 => (hk q (Nat.lt_of_lt_of_le h1 hS.1)).trans (hS.2.1 q h1 h2)⟩⟩) hS.2.2 (by omega) (by omega)
  rcases List.mem_cons.mp hw with rfl | hw
  · rfl
  · rcases List.mem_cons.mp hw with rfl | hw
    · rfl
    · exact (hat w hw).2
end PRT
