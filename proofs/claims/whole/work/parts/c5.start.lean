/-! ===== the start: from the entry the law comes to its end ===== -/
/-- what holds at the law's entry -/
def lw_At (p : Program) (s : State) (m : MethodId) (meth : Method) (c : Code) (b L : Nat) (xs : Nat → Int32) : Prop :=
  p.tables.exec = Jvm.exec ∧ c.code = code ∧ meth.sig.returnType = ret ∧ c.maxLocals = 7 ∧ s.vm.findClass R_law = some m.cls ∧ (∀ w ∈ lw_tbl, w.before #[Value.ref b] s = true) ∧ va_X b L xs s s.heap ∧ b < s.heap.size ∧ meth.locks = false ∧ (Jvm.Cond.and given_1 narrow_1).before #[Value.ref b] s = true
def r0 (b : Nat) (gk gv : Nat → Nat) (r : Nat) : Nat := if r = 27 then b else if r % 32 = 26 then gk (r / 32) else gv (r / 32)
def σ0 : PH := (1, fun _ _ => 0, fun _ _ => 0, fun _ _ => 0, fun _ _ => 0, fun _ _ => 0)
theorem r0_27 {b : Nat} {gk gv : Nat → Nat} : r0 b gk gv 27 = b := if_pos rfl
theorem r0_26 {b : Nat} {gk gv : Nat → Nat} (i : Nat) : r0 b gk gv (i * 32 + 26) = gk i := by
  unfold r0
  rw [if_neg (by omega), if_pos (by omega), show (i * 32 + 26) / 32 = i by omega]
theorem r0_28 {b : Nat} {gk gv : Nat → Nat} (i : Nat) : r0 b gk gv (i * 32 + 28) = gv i := by
  unfold r0
  rw [if_neg (by omega), if_neg (by omega), show (i * 32 + 28) / 32 = i by omega]
theorem hr_0 {Γ : Gm} {H : Heap} : HR Γ (r0 (gs Γ) (gK Γ) (gV Γ)) [] σ0 H := by
  refine ⟨fun k q h => ?_, ⟨fun i j p q h => ?_, fun k q h => ?_⟩, List.nodup_nil, fun r h => ?_, fun r h => ?_, ⟨fun i _ => r0_26 i, fun i _ => r0_28 i⟩, r0_27⟩
  · have h : ([] : va_W)[k]? = some q := h
    simp at h
  · have h : ([] : va_W)[i]? = some p := h
    simp at h
  · have h : ([] : va_W)[k]? = some q := h
    simp at h
  · cases h
  · cases h
theorem one_cat {b : Nat} : ∀ w ∈ [Value.ref b], w.category = 1 := by
  intro w hw
  have e : w = .ref b := by simpa using hw
  rw [e]
  rfl
theorem lr_0 {ρ : Nat → Nat} {b : Nat} (hρ : ρ 27 = b) {ls : Array Slot} (h : lv_has ls 7 (lv_args 0 [Value.ref b])) : LR ρ [] 7 ls [some (.ref 27), none, none, none, none, none, none] := by
  refine ⟨h.1, h.2.1, fun i v hi => ?_⟩
  match i, hi with
  | 0, hi =>
    have e : v = .ref 27 := by simpa using hi.symm
    subst e
    refine ⟨?_, fun r hr => ?_⟩
    · have := h.2.2 _ (lv_args_mem [Value.ref b] 0 0 (.ref b) one_cat (by simp))
      show ls[0]? = some (.val (.ref (ρ 27)))
      rw [hρ]
      exact this
    · injection hr with hr
      exact Or.inr (by rw [← hr]; decide)
  | 1, hi => simp at hi
  | 2, hi => simp at hi
  | 3, hi => simp at hi
  | 4, hi => simp at hi
  | 5, hi => simp at hi
  | 6, hi => simp at hi
  | n + 7, hi => simp at hi
theorem st_W {Γ : Gm} {p : Program} {e : Env} {s : State} {m : MethodId} {below : List Frame} {meth : Method} {c : Code} {b : Nat} (hL : gL Γ ≤ 384) (hgs : gs Γ = b) (hgb : gb Γ = s.heap.size) (hC : Cx Γ mL_law 60 p room_1 s m #[Value.ref b] meth c) :
    W p (gl Γ) e room_1 s m #[Value.ref b] below meth c s.heap [] 0 0 (lw_Z below #[Value.ref b] s) (entryFrame m ([Value.ref b] : List Value).toArray 7) := by
  have hl := lv_entry [Value.ref b] (n := 7) (by
    rw [lg_sl_len _ one_cat]
    simp)
  rw [lg_entry_eq]
  generalize (lg_sl [Value.ref b] ++ List.replicate (7 - (lg_sl [Value.ref b]).length) Slot.unset).toArray = ls at hl ⊢
  have hρ : r0 (gs Γ) (gK Γ) (gV Γ) 27 = b := r0_27.trans hgs
  have K := law_head (Γ := Γ) (σ := σ0) hL rfl p e room_1 s m #[Value.ref b] below meth c s.heap [] 0 0 ls (r0 (gs Γ) (gK Γ) (gV Γ)) [] (r0 (gs Γ) (gK Γ) (gV Γ)) [] 612 23860 hC hr_0 va_S.rf (lr_0 hρ hl) (fun v h => by cases h) Ext.rf (Nat.le_refl _) (Nat.le_refl _) (Nat.le_of_ble_eq_true rfl) (Nat.le_of_ble_eq_true rfl)
  intro T hT X
  obtain ⟨t, a, z⟩ := K T hT X
  exact ⟨t, a, end_Z hgb (Nat.le_of_ble_eq_true rfl) (Nat.le_of_ble_eq_true rfl) z⟩
/-- from the entry, for every script of at most 384 ints, the law comes to its end with true -/
theorem whole_start {p : Program} {e : Env} {s : State} {m : MethodId} {below : List Frame} {meth : Method} {c : Code} (l : Launch) (hl : l.stackTraces = false) {b L : Nat} {xs : Nat → Int32} (hL : L ≤ 384) (htb : c.exceptionTable.toList = []) (hnm : meth.name = "law") (C0 : lw_At p s m meth c b L xs) : W p l e room_1 s m #[Value.ref b] below meth c s.heap [] 0 0 (lw_Z below #[Value.ref b] s) (entryFrame m ([Value.ref b] : List Value).toArray 7) := by
  obtain ⟨hx, hcode, hret, hml, hown, hts, hX, hb, hlk, hgv⟩ := C0
  have hTB : ∀ w ∈ TB, w.before #[Value.ref b] s = true := fun w hw => hts w (List.mem_filter.mp hw).1
  obtain ⟨D, cy, hK⟩ := kn_K hTB
  obtain ⟨gk, gv, hO⟩ := ow_OF hl hts hgv hX hb D cy
  exact st_W (Γ := (l, D, cy, s.heap.size, gk, gv, b, L, xs)) hL rfl rfl ⟨hx, hcode, hret, hml, hown, hTB, hlk, htb, hnm, hO, hK, Nat.le_of_ble_eq_true rfl, Nat.le_of_ble_eq_true rfl⟩
