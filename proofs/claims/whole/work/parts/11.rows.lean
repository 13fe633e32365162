/-! ===== rows of the pure machine: straight instructions, locals, branches ===== -/
theorem cv_cat (ρ : Nat → Nat) (v : Value) : (cv ρ v).category = v.category := by cases v <;> rfl
theorem lv_i (al : List Nat) (x : Int32) : lvv al (.int x) := fun r h => by cases h
theorem lv_l (al : List Nat) (x : Int64) : lvv al (.long x) := fun r h => by cases h
theorem lv_z (al : List Nat) : lvv al .null := fun r h => by cases h
theorem lcs {al : List Nat} {v : Value} {st : List Value} (h : lvv al v) (t : ∀ w ∈ st, lvv al w) : ∀ w ∈ v :: st, lvv al w := fun w hw => by
  rcases List.mem_cons.mp hw with rfl | hw
  · exact h
  · exact t w hw
theorem lhd {al : List Nat} {v : Value} {st : List Value} (h : ∀ w ∈ v :: st, lvv al w) : lvv al v := h v List.mem_cons_self
theorem ltl {al : List Nat} {v : Value} {st : List Value} (h : ∀ w ∈ v :: st, lvv al w) : ∀ w ∈ st, lvv al w := fun w hw => h w (List.mem_cons_of_mem _ hw)
def prs (ρ : Nat → Nat) : Nat → List (Option Value) → List (Nat × Value)
  | _, [] => []
  | i, none :: t => prs ρ (i + 1) t
  | i, some v :: t => (i, cv ρ v) :: prs ρ (i + 1) t
theorem mem_prs {ρ : Nat → Nat} : ∀ (L : List (Option Value)) (i : Nat) (q : Nat × Value), q ∈ prs ρ i L ↔ ∃ (k : Nat) (v : Value), L[k]? = some (some v) ∧ q = (i + k, cv ρ v) := by
  intro L
  induction L with
  | nil => intro i q; simp [prs]
  | cons a t ih =>
    intro i q
    have hstep : (∃ (k : Nat) (v : Value), t[k]? = some (some v) ∧ q = (i + 1 + k, cv ρ v)) ↔ ∃ (k : Nat) (v : Value), (a :: t)[k + 1]? = some (some v) ∧ q = (i + (k + 1), cv ρ v) := by
      constructor <;> rintro ⟨k, v, h1, h2⟩ <;> exact ⟨k, v, by simpa using h1, by rw [h2, show i + 1 + k = i + (k + 1) by omega]⟩
    cases a with
    | none =>
      simp only [prs]
      rw [ih, hstep]
      constructor
      · rintro ⟨k, v, h1, h2⟩; exact ⟨k + 1, v, h1, h2⟩
      · rintro ⟨k, v, h1, h2⟩
        cases k with
        | zero => simp at h1
        | succ k => exact ⟨k, v, h1, h2⟩
    | some v0 =>
      simp only [prs, List.mem_cons]
      rw [ih, hstep]
      constructor
      · rintro (h | ⟨k, v, h1, h2⟩)
        · exact ⟨0, v0, by simp, by simpa using h⟩
        · exact ⟨k + 1, v, h1, h2⟩
      · rintro ⟨k, v, h1, h2⟩
        cases k with
        | zero => simp at h1; subst h1; exact Or.inl (by simpa using h2)
        | succ k => exact Or.inr ⟨k, v, h1, h2⟩
theorem LR.has {ρ : Nat → Nat} {al : List Nat} {nL : Nat} {ls : Array Slot} {L : List (Option Value)} (h : LR ρ al nL ls L) : lv_has ls nL (prs ρ 0 L) := by
  refine ⟨h.1, h.2.1, fun q hq => ?_⟩
  obtain ⟨k, v, h1, rfl⟩ := (mem_prs L 0 q).mp hq
  rw [Nat.zero_add]
  exact (h.2.2 k v h1).1
/-- no long stands just below place i -/
def nlb (L : List (Option Value)) (i : Nat) : Prop := ∀ (j : Nat) (v : Value), j + 1 = i → L[j]? = some (some v) → v.category = 1
theorem nlb0 (L : List (Option Value)) : nlb L 0 := fun j v h => by omega
theorem LR.set1 {ρ : Nat → Nat} {al : List Nat} {nL i : Nat} {ls ls' : Array Slot} {L : List (Option Value)} {v : Value} (h : LR ρ al nL ls L) (hv : lvv al v) (hn : nlb L i)
    (h' : lv_has ls' nL ((i, cv ρ v) :: (prs ρ 0 L).filter (fun q => !(q.1 == i) && !(q.1 + 1 == i && q.2.category == 2)))) : LR ρ al nL ls' (L.set i (some v)) := by
  refine ⟨h'.1, h'.2.1, fun j w hj => ?_⟩
  by_cases hji : j = i
  · subst hji
    have hlt : j < L.length := by
      have := (List.getElem?_eq_some_iff.mp hj).1
      simpa using this
    rw [List.getElem?_set_self hlt] at hj
    cases hj
    exact ⟨h'.2.2 (j, cv ρ v) List.mem_cons_self, hv⟩
  · rw [List.getElem?_set_ne (Ne.symm hji)] at hj
    refine ⟨h'.2.2 (j, cv ρ w) (List.mem_cons_of_mem _ (List.mem_filter.mpr ⟨(mem_prs L 0 _).mpr ⟨j, w, hj, by rw [Nat.zero_add]⟩, ?_⟩)), (h.2.2 j w hj).2⟩
    simp only [Bool.and_eq_true, Bool.not_eq_true', beq_eq_false_iff_ne, ne_eq, hji, not_false_eq_true, true_and, Bool.and_eq_false_iff]
    by_cases hj1 : j + 1 = i
    · right
      rw [cv_cat, hn j w hj1 hj]
      decide
    · left; exact hj1
theorem LR.set2 {ρ : Nat → Nat} {al : List Nat} {nL i : Nat} {ls ls' : Array Slot} {L : List (Option Value)} {x : Int64} (h : LR ρ al nL ls L) (hn : nlb L i)
    (h' : lv_has ls' nL ((i, .long x) :: (prs ρ 0 L).filter (fun q => !(q.1 == i) && (!(q.1 == i + 1) && !(q.1 + 1 == i && q.2.category == 2))))) : LR ρ al nL ls' ((L.set i (some (.long x))).set (i + 1) none) := by
  refine ⟨h'.1, h'.2.1, fun j w hj => ?_⟩
  by_cases hj2 : j = i + 1
  · subst hj2
    have hlt : i + 1 < (L.set i (some (.long x))).length := by
      have := (List.getElem?_eq_some_iff.mp hj).1
      simpa using this
    rw [List.getElem?_set_self hlt] at hj
    cases hj
  · rw [List.getElem?_set_ne (Ne.symm hj2)] at hj
    by_cases hji : j = i
    · subst hji
      have hlt : j < L.length := by
        have := (List.getElem?_eq_some_iff.mp hj).1
        simpa using this
      rw [List.getElem?_set_self hlt] at hj
      cases hj
      exact ⟨h'.2.2 (j, .long x) List.mem_cons_self, lv_l _ _⟩
    · rw [List.getElem?_set_ne (Ne.symm hji)] at hj
      refine ⟨h'.2.2 (j, cv ρ w) (List.mem_cons_of_mem _ (List.mem_filter.mpr ⟨(mem_prs L 0 _).mpr ⟨j, w, hj, by rw [Nat.zero_add]⟩, ?_⟩)), (h.2.2 j w hj).2⟩
      simp only [Bool.and_eq_true, Bool.not_eq_true', beq_eq_false_iff_ne, ne_eq, hji, hj2, not_false_eq_true, true_and, Bool.and_eq_false_iff]
      by_cases hj1 : j + 1 = i
      · right
        rw [cv_cat, hn j w hj1 hj]
        decide
      · left; exact hj1
section PR
variable {Γ : Gm} {d mc ms : Nat} {mi : MI} {pc : Nat} {L : List (Option Value)} {st : List Value} {σ : PH} {Q : PO → PH → Prop}
theorem Ok.mono {Q' : PO → PH → Prop} (k : Ok Γ d mc ms mi pc L st σ Q) (h : ∀ o σ', Q o σ' → Q' o σ') : Ok Γ d mc ms mi pc L st σ Q' := by
  intro p e R s m args below meth c H locs cells slots ls ρ al ρ0 al0 MC MS C hH hS hl hst hE a1 a2 a3 a4 T hT X
  obtain ⟨t, b1, o, b2, b3, b4⟩ := k p e R s m args below meth c H locs cells slots ls ρ al ρ0 al0 MC MS C hH hS hl hst hE a1 a2 a3 a4 T hT X
  refine ⟨t, b1, o, b2, b3, ?_⟩
  rcases b4 with ⟨⟨v, σ', ρ', al', c1, c2, c3, c4, c5, c6⟩, b5⟩ | ⟨q, b5, E, ce, Ls, ⟨x, σ', ρ', al', c1, c2, c3, c4, c5⟩, b6⟩
  · exact Or.inl ⟨⟨v, σ', ρ', al', c1, h _ _ c2, c3, c4, c5, c6⟩, b5⟩
  · exact Or.inr ⟨q, b5, E, ce, Ls, ⟨x, σ', ρ', al', c1, h _ _ c2, c3, c4, c5⟩, b6⟩
theorem Ok.sub {d' mc' ms' : Nat} (k : Ok Γ d mc ms mi pc L st σ Q) (h1 : d ≤ d') (h2 : mc ≤ mc') (h3 : ms ≤ ms') : Ok Γ d' mc' ms' mi pc L st σ Q := by
  intro p e R s m args below meth c H locs cells slots ls ρ al ρ0 al0 MC MS C hH hS hl hst hE a1 a2 a3 a4
  obtain ⟨c1, c2, c3, c4, c5, c6, c7, c8, c9, c10, c11, c12, c13⟩ := C
  exact k p e R s m args below meth c H locs cells slots ls ρ al ρ0 al0 MC MS ⟨c1, c2, c3, c4, c5, c6, c7, c8, c9, c10, c11, by omega, by omega⟩ hH hS hl hst hE (by omega) (by omega) a3 a4

theorem p_iadd {x y : Int32} (q : Nat) (hq : pc + 1 = q) (hd : decode (mC mi) pc = .ok (.iadd, 1)) (k : Ok Γ d mc ms mi q L (.int (x + y) :: st) σ Q) : Ok Γ d mc ms mi pc L (.int y :: .int x :: st) σ Q := by
  subst hq
  intro p e R s m args below meth c H locs cells slots ls ρ al ρ0 al0 MC MS C hH hS hl hst hE a1 a2 a3 a4
  exact lv_iadd C.1 C.2.1 hd (k p e R s m args below meth c H locs cells slots ls ρ al ρ0 al0 MC MS C hH hS hl (lcs (lv_i _ _) (ltl (ltl hst))) hE a1 a2 a3 a4)
theorem p_isub {x y : Int32} (q : Nat) (hq : pc + 1 = q) (hd : decode (mC mi) pc = .ok (.isub, 1)) (k : Ok Γ d mc ms mi q L (.int (x - y) :: st) σ Q) : Ok Γ d mc ms mi pc L (.int y :: .int x :: st) σ Q := by
  subst hq
  intro p e R s m args below meth c H locs cells slots ls ρ al ρ0 al0 MC MS C hH hS hl hst hE a1 a2 a3 a4
  exact lv_isub C.1 C.2.1 hd (k p e R s m args below meth c H locs cells slots ls ρ al ρ0 al0 MC MS C hH hS hl (lcs (lv_i _ _) (ltl (ltl hst))) hE a1 a2 a3 a4)
theorem p_imul {x y : Int32} (q : Nat) (hq : pc + 1 = q) (hd : decode (mC mi) pc = .ok (.imul, 1)) (k : Ok Γ d mc ms mi q L (.int (x * y) :: st) σ Q) : Ok Γ d mc ms mi pc L (.int y :: .int x :: st) σ Q := by
  subst hq
  intro p e R s m args below meth c H locs cells slots ls ρ al ρ0 al0 MC MS C hH hS hl hst hE a1 a2 a3 a4
  exact lv_imul C.1 C.2.1 hd (k p e R s m args below meth c H locs cells slots ls ρ al ρ0 al0 MC MS C hH hS hl (lcs (lv_i _ _) (ltl (ltl hst))) hE a1 a2 a3 a4)
theorem p_iand {x y : Int32} (q : Nat) (hq : pc + 1 = q) (hd : decode (mC mi) pc = .ok (.iand, 1)) (k : Ok Γ d mc ms mi q L (.int (x &&& y) :: st) σ Q) : Ok Γ d mc ms mi pc L (.int y :: .int x :: st) σ Q := by
  subst hq
  intro p e R s m args below meth c H locs cells slots ls ρ al ρ0 al0 MC MS C hH hS hl hst hE a1 a2 a3 a4
  exact lv_iand C.1 C.2.1 hd (k p e R s m args below meth c H locs cells slots ls ρ al ρ0 al0 MC MS C hH hS hl (lcs (lv_i _ _) (ltl (ltl hst))) hE a1 a2 a3 a4)
theorem p_ior {x y : Int32} (q : Nat) (hq : pc + 1 = q) (hd : decode (mC mi) pc = .ok (.ior, 1)) (k : Ok Γ d mc ms mi q L (.int (x ||| y) :: st) σ Q) : Ok Γ d mc ms mi pc L (.int y :: .int x :: st) σ Q := by
  subst hq
  intro p e R s m args below meth c H locs cells slots ls ρ al ρ0 al0 MC MS C hH hS hl hst hE a1 a2 a3 a4
  exact lv_ior C.1 C.2.1 hd (k p e R s m args below meth c H locs cells slots ls ρ al ρ0 al0 MC MS C hH hS hl (lcs (lv_i _ _) (ltl (ltl hst))) hE a1 a2 a3 a4)
theorem p_ixor {x y : Int32} (q : Nat) (hq : pc + 1 = q) (hd : decode (mC mi) pc = .ok (.ixor, 1)) (k : Ok Γ d mc ms mi q L (.int (x ^^^ y) :: st) σ Q) : Ok Γ d mc ms mi pc L (.int y :: .int x :: st) σ Q := by
  subst hq
  intro p e R s m args below meth c H locs cells slots ls ρ al ρ0 al0 MC MS C hH hS hl hst hE a1 a2 a3 a4
  exact lv_ixor C.1 C.2.1 hd (k p e R s m args below meth c H locs cells slots ls ρ al ρ0 al0 MC MS C hH hS hl (lcs (lv_i _ _) (ltl (ltl hst))) hE a1 a2 a3 a4)
theorem p_ishl {x y : Int32} (q : Nat) (hq : pc + 1 = q) (hd : decode (mC mi) pc = .ok (.ishl, 1)) (k : Ok Γ d mc ms mi q L (.int (x <<< (y &&& 31)) :: st) σ Q) : Ok Γ d mc ms mi pc L (.int y :: .int x :: st) σ Q := by
  subst hq
  intro p e R s m args below meth c H locs cells slots ls ρ al ρ0 al0 MC MS C hH hS hl hst hE a1 a2 a3 a4
  exact lv_ishl C.1 C.2.1 hd (k p e R s m args below meth c H locs cells slots ls ρ al ρ0 al0 MC MS C hH hS hl (lcs (lv_i _ _) (ltl (ltl hst))) hE a1 a2 a3 a4)
theorem p_ishr {x y : Int32} (q : Nat) (hq : pc + 1 = q) (hd : decode (mC mi) pc = .ok (.ishr, 1)) (k : Ok Γ d mc ms mi q L (.int (x >>> (y &&& 31)) :: st) σ Q) : Ok Γ d mc ms mi pc L (.int y :: .int x :: st) σ Q := by
  subst hq
  intro p e R s m args below meth c H locs cells slots ls ρ al ρ0 al0 MC MS C hH hS hl hst hE a1 a2 a3 a4
  exact lv_ishr C.1 C.2.1 hd (k p e R s m args below meth c H locs cells slots ls ρ al ρ0 al0 MC MS C hH hS hl (lcs (lv_i _ _) (ltl (ltl hst))) hE a1 a2 a3 a4)
theorem p_iushr {x y : Int32} (q : Nat) (hq : pc + 1 = q) (hd : decode (mC mi) pc = .ok (.iushr, 1)) (k : Ok Γ d mc ms mi q L (.int ((x.toUInt32 >>> (y.toUInt32 &&& Int32.toUInt32 31)).toInt32) :: st) σ Q) : Ok Γ d mc ms mi pc L (.int y :: .int x :: st) σ Q := by
  subst hq
  intro p e R s m args below meth c H locs cells slots ls ρ al ρ0 al0 MC MS C hH hS hl hst hE a1 a2 a3 a4
  exact lv_iushr C.1 C.2.1 hd rfl (k p e R s m args below meth c H locs cells slots ls ρ al ρ0 al0 MC MS C hH hS hl (lcs (lv_i _ _) (ltl (ltl hst))) hE a1 a2 a3 a4)
theorem p_idiv {x y : Int32} (q : Nat) (hq : pc + 1 = q) (hd : decode (mC mi) pc = .ok (.idiv, 1)) (hne : ¬ y = 0) (k : Ok Γ d mc ms mi q L (.int (x / y) :: st) σ Q) : Ok Γ d mc ms mi pc L (.int y :: .int x :: st) σ Q := by
  subst hq
  intro p e R s m args below meth c H locs cells slots ls ρ al ρ0 al0 MC MS C hH hS hl hst hE a1 a2 a3 a4
  exact lv_idiv C.1 C.2.1 hd hne (k p e R s m args below meth c H locs cells slots ls ρ al ρ0 al0 MC MS C hH hS hl (lcs (lv_i _ _) (ltl (ltl hst))) hE a1 a2 a3 a4)
theorem p_irem {x y : Int32} (q : Nat) (hq : pc + 1 = q) (hd : decode (mC mi) pc = .ok (.irem, 1)) (hne : ¬ y = 0) (k : Ok Γ d mc ms mi q L (.int (x - x / y * y) :: st) σ Q) : Ok Γ d mc ms mi pc L (.int y :: .int x :: st) σ Q := by
  subst hq
  intro p e R s m args below meth c H locs cells slots ls ρ al ρ0 al0 MC MS C hH hS hl hst hE a1 a2 a3 a4
  exact lv_irem C.1 C.2.1 hd hne (k p e R s m args below meth c H locs cells slots ls ρ al ρ0 al0 MC MS C hH hS hl (lcs (lv_i _ _) (ltl (ltl hst))) hE a1 a2 a3 a4)
theorem p_i2l {x : Int32} (q : Nat) (hq : pc + 1 = q) (hd : decode (mC mi) pc = .ok (.i2l, 1)) (k : Ok Γ d mc ms mi q L (.long x.toInt64 :: st) σ Q) : Ok Γ d mc ms mi pc L (.int x :: st) σ Q := by
  subst hq
  intro p e R s m args below meth c H locs cells slots ls ρ al ρ0 al0 MC MS C hH hS hl hst hE a1 a2 a3 a4
  exact lv_i2l C.1 C.2.1 hd rfl (k p e R s m args below meth c H locs cells slots ls ρ al ρ0 al0 MC MS C hH hS hl (lcs (lv_l _ _) (ltl hst)) hE a1 a2 a3 a4)
theorem p_i2b {x : Int32} (q : Nat) (hq : pc + 1 = q) (hd : decode (mC mi) pc = .ok (.i2b, 1)) (k : Ok Γ d mc ms mi q L (.int x.toInt8.toInt32 :: st) σ Q) : Ok Γ d mc ms mi pc L (.int x :: st) σ Q := by
  subst hq
  intro p e R s m args below meth c H locs cells slots ls ρ al ρ0 al0 MC MS C hH hS hl hst hE a1 a2 a3 a4
  exact lv_i2b C.1 C.2.1 hd rfl (k p e R s m args below meth c H locs cells slots ls ρ al ρ0 al0 MC MS C hH hS hl (lcs (lv_i _ _) (ltl hst)) hE a1 a2 a3 a4)
theorem p_i2c {x : Int32} (q : Nat) (hq : pc + 1 = q) (hd : decode (mC mi) pc = .ok (.i2c, 1)) (k : Ok Γ d mc ms mi q L (.int (x.toUInt32 % 65536).toInt32 :: st) σ Q) : Ok Γ d mc ms mi pc L (.int x :: st) σ Q := by
  subst hq
  intro p e R s m args below meth c H locs cells slots ls ρ al ρ0 al0 MC MS C hH hS hl hst hE a1 a2 a3 a4
  exact lv_i2c C.1 C.2.1 hd rfl (k p e R s m args below meth c H locs cells slots ls ρ al ρ0 al0 MC MS C hH hS hl (lcs (lv_i _ _) (ltl hst)) hE a1 a2 a3 a4)
theorem p_lsub {x y : Int64} (q : Nat) (hq : pc + 1 = q) (hd : decode (mC mi) pc = .ok (.lsub, 1)) (k : Ok Γ d mc ms mi q L (.long (x - y) :: st) σ Q) : Ok Γ d mc ms mi pc L (.long y :: .long x :: st) σ Q := by
  subst hq
  intro p e R s m args below meth c H locs cells slots ls ρ al ρ0 al0 MC MS C hH hS hl hst hE a1 a2 a3 a4
  exact lv_lsub C.1 C.2.1 hd (k p e R s m args below meth c H locs cells slots ls ρ al ρ0 al0 MC MS C hH hS hl (lcs (lv_l _ _) (ltl (ltl hst))) hE a1 a2 a3 a4)
theorem p_lor {x y : Int64} (q : Nat) (hq : pc + 1 = q) (hd : decode (mC mi) pc = .ok (.lor, 1)) (k : Ok Γ d mc ms mi q L (.long (x ||| y) :: st) σ Q) : Ok Γ d mc ms mi pc L (.long y :: .long x :: st) σ Q := by
  subst hq
  intro p e R s m args below meth c H locs cells slots ls ρ al ρ0 al0 MC MS C hH hS hl hst hE a1 a2 a3 a4
  exact lv_lor C.1 C.2.1 hd (k p e R s m args below meth c H locs cells slots ls ρ al ρ0 al0 MC MS C hH hS hl (lcs (lv_l _ _) (ltl (ltl hst))) hE a1 a2 a3 a4)
theorem p_lshl {x : Int64} {y : Int32} (q : Nat) (hq : pc + 1 = q) (hd : decode (mC mi) pc = .ok (.lshl, 1)) (k : Ok Γ d mc ms mi q L (.long (x <<< (y.toInt64 &&& 63)) :: st) σ Q) : Ok Γ d mc ms mi pc L (.int y :: .long x :: st) σ Q := by
  subst hq
  intro p e R s m args below meth c H locs cells slots ls ρ al ρ0 al0 MC MS C hH hS hl hst hE a1 a2 a3 a4
  exact lv_lshl C.1 C.2.1 hd rfl (k p e R s m args below meth c H locs cells slots ls ρ al ρ0 al0 MC MS C hH hS hl (lcs (lv_l _ _) (ltl (ltl hst))) hE a1 a2 a3 a4)
theorem p_lcmp {x y : Int64} (q : Nat) (hq : pc + 1 = q) (hd : decode (mC mi) pc = .ok (.lcmp, 1)) (k : Ok Γ d mc ms mi q L (.int (lg_cmp x y) :: st) σ Q) : Ok Γ d mc ms mi pc L (.long y :: .long x :: st) σ Q := by
  subst hq
  intro p e R s m args below meth c H locs cells slots ls ρ al ρ0 al0 MC MS C hH hS hl hst hE a1 a2 a3 a4
  exact W.lcmp C.1 C.2.1 hd (k p e R s m args below meth c H locs cells slots ls ρ al ρ0 al0 MC MS C hH hS hl (lcs (lv_i _ _) (ltl (ltl hst))) hE a1 a2 a3 a4)
theorem p_iconst {n : Int} (v : Int32) (q : Nat) (hq : pc + 1 = q) (hd : decode (mC mi) pc = .ok (.iconst n, 1)) (hv : Int32.ofInt n = v) (k : Ok Γ d mc ms mi q L (.int v :: st) σ Q) : Ok Γ d mc ms mi pc L (st) σ Q := by
  subst hq
  intro p e R s m args below meth c H locs cells slots ls ρ al ρ0 al0 MC MS C hH hS hl hst hE a1 a2 a3 a4
  exact lv_iconst C.1 C.2.1 hd hv (k p e R s m args below meth c H locs cells slots ls ρ al ρ0 al0 MC MS C hH hS hl (lcs (lv_i _ _) hst) hE a1 a2 a3 a4)
theorem p_bipush {n : Int} (v : Int32) (q : Nat) (hq : pc + 2 = q) (hd : decode (mC mi) pc = .ok (.bipush n, 2)) (hv : (Int8.ofInt n).toInt32 = v) (k : Ok Γ d mc ms mi q L (.int v :: st) σ Q) : Ok Γ d mc ms mi pc L (st) σ Q := by
  subst hq
  intro p e R s m args below meth c H locs cells slots ls ρ al ρ0 al0 MC MS C hH hS hl hst hE a1 a2 a3 a4
  exact lv_bipush C.1 C.2.1 hd hv (k p e R s m args below meth c H locs cells slots ls ρ al ρ0 al0 MC MS C hH hS hl (lcs (lv_i _ _) hst) hE a1 a2 a3 a4)
theorem p_sipush {n : Int} (v : Int32) (q : Nat) (hq : pc + 3 = q) (hd : decode (mC mi) pc = .ok (.sipush n, 3)) (hv : (Int16.ofInt n).toInt32 = v) (k : Ok Γ d mc ms mi q L (.int v :: st) σ Q) : Ok Γ d mc ms mi pc L (st) σ Q := by
  subst hq
  intro p e R s m args below meth c H locs cells slots ls ρ al ρ0 al0 MC MS C hH hS hl hst hE a1 a2 a3 a4
  exact lv_sipush C.1 C.2.1 hd hv (k p e R s m args below meth c H locs cells slots ls ρ al ρ0 al0 MC MS C hH hS hl (lcs (lv_i _ _) hst) hE a1 a2 a3 a4)
theorem p_lconst {n : Fin 2} (v : Int64) (q : Nat) (hq : pc + 1 = q) (hd : decode (mC mi) pc = .ok (.lconst n, 1)) (hv : Int64.ofNat (n : Nat) = v) (k : Ok Γ d mc ms mi q L (.long v :: st) σ Q) : Ok Γ d mc ms mi pc L (st) σ Q := by
  subst hq
  intro p e R s m args below meth c H locs cells slots ls ρ al ρ0 al0 MC MS C hH hS hl hst hE a1 a2 a3 a4
  exact lv_lconst C.1 C.2.1 hd hv (k p e R s m args below meth c H locs cells slots ls ρ al ρ0 al0 MC MS C hH hS hl (lcs (lv_l _ _) hst) hE a1 a2 a3 a4)
theorem p_ldc {index : Nat} {v : Int32} (q : Nat) (hq : pc + 2 = q) (hd : decode (mC mi) pc = .ok (.ldc index, 2)) (hc : Cond.constant (mO mi) index v ∈ TB) (k : Ok Γ d mc ms mi q L (.int v :: st) σ Q) : Ok Γ d mc ms mi pc L st σ Q := by
  subst hq
  intro p e R s m args below meth c H locs cells slots ls ρ al ρ0 al0 MC MS C hH hS hl hst hE a1 a2 a3 a4
  exact lv_ldc C.1 C.2.1 C.2.2.2.2.1 (C.2.2.2.2.2.1 _ hc) hd (k p e R s m args below meth c H locs cells slots ls ρ al ρ0 al0 MC MS C hH hS hl (lcs (lv_i _ _) hst) hE a1 a2 a3 a4)
theorem p_ldcw {index : Nat} {v : Int32} (q : Nat) (hq : pc + 3 = q) (hd : decode (mC mi) pc = .ok (.ldc_w index, 3)) (hc : Cond.constant (mO mi) index v ∈ TB) (k : Ok Γ d mc ms mi q L (.int v :: st) σ Q) : Ok Γ d mc ms mi pc L st σ Q := by
  subst hq
  intro p e R s m args below meth c H locs cells slots ls ρ al ρ0 al0 MC MS C hH hS hl hst hE a1 a2 a3 a4
  exact lv_ldcw C.1 C.2.1 C.2.2.2.2.1 (C.2.2.2.2.2.1 _ hc) hd (k p e R s m args below meth c H locs cells slots ls ρ al ρ0 al0 MC MS C hH hS hl (lcs (lv_i _ _) hst) hE a1 a2 a3 a4)
theorem p_ldc2 {index : Nat} {v : Int64} (q : Nat) (hq : pc + 3 = q) (hd : decode (mC mi) pc = .ok (.ldc2_w index, 3)) (hc : Cond.constantLong (mO mi) index v ∈ TB) (k : Ok Γ d mc ms mi q L (.long v :: st) σ Q) : Ok Γ d mc ms mi pc L st σ Q := by
  subst hq
  intro p e R s m args below meth c H locs cells slots ls ρ al ρ0 al0 MC MS C hH hS hl hst hE a1 a2 a3 a4
  exact lv_ldc2 C.1 C.2.1 C.2.2.2.2.1 (C.2.2.2.2.2.1 _ hc) hd (k p e R s m args below meth c H locs cells slots ls ρ al ρ0 al0 MC MS C hH hS hl (lcs (lv_l _ _) hst) hE a1 a2 a3 a4)
theorem p_dup {a : Value} (q : Nat) (hq : pc + 1 = q) (hd : decode (mC mi) pc = .ok (.dup, 1)) (ha : a.category = 1) (k : Ok Γ d mc ms mi q L (a :: a :: st) σ Q) : Ok Γ d mc ms mi pc L (a :: st) σ Q := by
  subst hq
  intro p e R s m args below meth c H locs cells slots ls ρ al ρ0 al0 MC MS C hH hS hl hst hE a1 a2 a3 a4
  exact lv_dup C.1 C.2.1 hd ((cv_cat _ _).trans ha) (k p e R s m args below meth c H locs cells slots ls ρ al ρ0 al0 MC MS C hH hS hl (lcs (lhd hst) hst) hE a1 a2 a3 a4)
theorem p_dup2 {a b : Value} (q : Nat) (hq : pc + 1 = q) (hd : decode (mC mi) pc = .ok (.dup2, 1)) (ha : a.category = 1) (hb : b.category = 1) (k : Ok Γ d mc ms mi q L (a :: b :: a :: b :: st) σ Q) : Ok Γ d mc ms mi pc L (a :: b :: st) σ Q := by
  subst hq
  intro p e R s m args below meth c H locs cells slots ls ρ al ρ0 al0 MC MS C hH hS hl hst hE a1 a2 a3 a4
  exact lv_dup2_11 C.1 C.2.1 hd ((cv_cat _ _).trans ha) ((cv_cat _ _).trans hb) (k p e R s m args below meth c H locs cells slots ls ρ al ρ0 al0 MC MS C hH hS hl (lcs (lhd hst) (lcs (lhd (ltl hst)) hst)) hE a1 a2 a3 a4)
theorem p_dup_x1 {a b : Value} (q : Nat) (hq : pc + 1 = q) (hd : decode (mC mi) pc = .ok (.dup_x1, 1)) (ha : a.category = 1) (hb : b.category = 1) (k : Ok Γ d mc ms mi q L (a :: b :: a :: st) σ Q) : Ok Γ d mc ms mi pc L (a :: b :: st) σ Q := by
  subst hq
  intro p e R s m args below meth c H locs cells slots ls ρ al ρ0 al0 MC MS C hH hS hl hst hE a1 a2 a3 a4
  exact lv_dup_x1 C.1 C.2.1 hd ((cv_cat _ _).trans ha) ((cv_cat _ _).trans hb) (k p e R s m args below meth c H locs cells slots ls ρ al ρ0 al0 MC MS C hH hS hl (lcs (lhd hst) (lcs (lhd (ltl hst)) (lcs (lhd hst) (ltl (ltl hst))))) hE a1 a2 a3 a4)
theorem p_pop {a : Value} (q : Nat) (hq : pc + 1 = q) (hd : decode (mC mi) pc = .ok (.pop, 1)) (ha : a.category = 1) (k : Ok Γ d mc ms mi q L (st) σ Q) : Ok Γ d mc ms mi pc L (a :: st) σ Q := by
  subst hq
  intro p e R s m args below meth c H locs cells slots ls ρ al ρ0 al0 MC MS C hH hS hl hst hE a1 a2 a3 a4
  exact lv_pop C.1 C.2.1 hd ((cv_cat _ _).trans ha) (k p e R s m args below meth c H locs cells slots ls ρ al ρ0 al0 MC MS C hH hS hl (ltl hst) hE a1 a2 a3 a4)
theorem p_goto {off : Int} (q : Nat) (hq : (pc : Int) + off = (q : Int)) (hd : decode (mC mi) pc = .ok (.goto off, 3)) (k : Ok Γ d mc ms mi q L st σ Q) : Ok Γ d mc ms mi pc L st σ Q := by
  intro p e R s m args below meth c H locs cells slots ls ρ al ρ0 al0 MC MS C hH hS hl hst hE a1 a2 a3 a4
  exact lv_goto C.1 C.2.1 hd hq (k p e R s m args below meth c H locs cells slots ls ρ al ρ0 al0 MC MS C hH hS hl (hst) hE a1 a2 a3 a4)
theorem p_if_eq {x : Int32} {off : Int} (q q2 : Nat) (hq : (pc : Int) + off = (q : Int)) (hq2 : pc + 3 = q2) (hd : decode (mC mi) pc = .ok (.ifCond .eq off, 3)) (kt : x = 0 → Ok Γ d mc ms mi q L st σ Q) (kf : ¬ x = 0 → Ok Γ d mc ms mi q2 L st σ Q) : Ok Γ d mc ms mi pc L (.int x :: st) σ Q := by
  subst hq2
  intro p e R s m args below meth c H locs cells slots ls ρ al ρ0 al0 MC MS C hH hS hl hst hE a1 a2 a3 a4
  exact lv_if_eq C.1 C.2.1 hd hq (fun h => (kt h p e R s m args below meth c H locs cells slots ls ρ al ρ0 al0 MC MS C hH hS hl (ltl hst) hE a1 a2 a3 a4)) (fun h => (kf h p e R s m args below meth c H locs cells slots ls ρ al ρ0 al0 MC MS C hH hS hl (ltl hst) hE a1 a2 a3 a4))
theorem p_if_ne {x : Int32} {off : Int} (q q2 : Nat) (hq : (pc : Int) + off = (q : Int)) (hq2 : pc + 3 = q2) (hd : decode (mC mi) pc = .ok (.ifCond .ne off, 3)) (kt : ¬ x = 0 → Ok Γ d mc ms mi q L st σ Q) (kf : x = 0 → Ok Γ d mc ms mi q2 L st σ Q) : Ok Γ d mc ms mi pc L (.int x :: st) σ Q := by
  subst hq2
  intro p e R s m args below meth c H locs cells slots ls ρ al ρ0 al0 MC MS C hH hS hl hst hE a1 a2 a3 a4
  exact lv_if_ne C.1 C.2.1 hd hq (fun h => (kt h p e R s m args below meth c H locs cells slots ls ρ al ρ0 al0 MC MS C hH hS hl (ltl hst) hE a1 a2 a3 a4)) (fun h => (kf h p e R s m args below meth c H locs cells slots ls ρ al ρ0 al0 MC MS C hH hS hl (ltl hst) hE a1 a2 a3 a4))
theorem p_if_lt {x : Int32} {off : Int} (q q2 : Nat) (hq : (pc : Int) + off = (q : Int)) (hq2 : pc + 3 = q2) (hd : decode (mC mi) pc = .ok (.ifCond .lt off, 3)) (kt : x < 0 → Ok Γ d mc ms mi q L st σ Q) (kf : ¬ x < 0 → Ok Γ d mc ms mi q2 L st σ Q) : Ok Γ d mc ms mi pc L (.int x :: st) σ Q := by
  subst hq2
  intro p e R s m args below meth c H locs cells slots ls ρ al ρ0 al0 MC MS C hH hS hl hst hE a1 a2 a3 a4
  exact lv_if_lt C.1 C.2.1 hd hq (fun h => (kt h p e R s m args below meth c H locs cells slots ls ρ al ρ0 al0 MC MS C hH hS hl (ltl hst) hE a1 a2 a3 a4)) (fun h => (kf h p e R s m args below meth c H locs cells slots ls ρ al ρ0 al0 MC MS C hH hS hl (ltl hst) hE a1 a2 a3 a4))
theorem p_if_ge {x : Int32} {off : Int} (q q2 : Nat) (hq : (pc : Int) + off = (q : Int)) (hq2 : pc + 3 = q2) (hd : decode (mC mi) pc = .ok (.ifCond .ge off, 3)) (kt : 0 ≤ x → Ok Γ d mc ms mi q L st σ Q) (kf : ¬ 0 ≤ x → Ok Γ d mc ms mi q2 L st σ Q) : Ok Γ d mc ms mi pc L (.int x :: st) σ Q := by
  subst hq2
  intro p e R s m args below meth c H locs cells slots ls ρ al ρ0 al0 MC MS C hH hS hl hst hE a1 a2 a3 a4
  exact lv_if_ge C.1 C.2.1 hd hq (fun h => (kt h p e R s m args below meth c H locs cells slots ls ρ al ρ0 al0 MC MS C hH hS hl (ltl hst) hE a1 a2 a3 a4)) (fun h => (kf h p e R s m args below meth c H locs cells slots ls ρ al ρ0 al0 MC MS C hH hS hl (ltl hst) hE a1 a2 a3 a4))
theorem p_if_gt {x : Int32} {off : Int} (q q2 : Nat) (hq : (pc : Int) + off = (q : Int)) (hq2 : pc + 3 = q2) (hd : decode (mC mi) pc = .ok (.ifCond .gt off, 3)) (kt : 0 < x → Ok Γ d mc ms mi q L st σ Q) (kf : ¬ 0 < x → Ok Γ d mc ms mi q2 L st σ Q) : Ok Γ d mc ms mi pc L (.int x :: st) σ Q := by
  subst hq2
  intro p e R s m args below meth c H locs cells slots ls ρ al ρ0 al0 MC MS C hH hS hl hst hE a1 a2 a3 a4
  exact lv_if_gt C.1 C.2.1 hd hq (fun h => (kt h p e R s m args below meth c H locs cells slots ls ρ al ρ0 al0 MC MS C hH hS hl (ltl hst) hE a1 a2 a3 a4)) (fun h => (kf h p e R s m args below meth c H locs cells slots ls ρ al ρ0 al0 MC MS C hH hS hl (ltl hst) hE a1 a2 a3 a4))
theorem p_if_le {x : Int32} {off : Int} (q q2 : Nat) (hq : (pc : Int) + off = (q : Int)) (hq2 : pc + 3 = q2) (hd : decode (mC mi) pc = .ok (.ifCond .le off, 3)) (kt : x ≤ 0 → Ok Γ d mc ms mi q L st σ Q) (kf : ¬ x ≤ 0 → Ok Γ d mc ms mi q2 L st σ Q) : Ok Γ d mc ms mi pc L (.int x :: st) σ Q := by
  subst hq2
  intro p e R s m args below meth c H locs cells slots ls ρ al ρ0 al0 MC MS C hH hS hl hst hE a1 a2 a3 a4
  exact lv_if_le C.1 C.2.1 hd hq (fun h => (kt h p e R s m args below meth c H locs cells slots ls ρ al ρ0 al0 MC MS C hH hS hl (ltl hst) hE a1 a2 a3 a4)) (fun h => (kf h p e R s m args below meth c H locs cells slots ls ρ al ρ0 al0 MC MS C hH hS hl (ltl hst) hE a1 a2 a3 a4))
theorem p_icmp_eq {x y : Int32} {off : Int} (q q2 : Nat) (hq : (pc : Int) + off = (q : Int)) (hq2 : pc + 3 = q2) (hd : decode (mC mi) pc = .ok (.if_icmp .eq off, 3)) (kt : x = y → Ok Γ d mc ms mi q L st σ Q) (kf : ¬ x = y → Ok Γ d mc ms mi q2 L st σ Q) : Ok Γ d mc ms mi pc L (.int y :: .int x :: st) σ Q := by
  subst hq2
  intro p e R s m args below meth c H locs cells slots ls ρ al ρ0 al0 MC MS C hH hS hl hst hE a1 a2 a3 a4
  exact lv_icmp_eq C.1 C.2.1 hd hq (fun h => (kt h p e R s m args below meth c H locs cells slots ls ρ al ρ0 al0 MC MS C hH hS hl (ltl (ltl hst)) hE a1 a2 a3 a4)) (fun h => (kf h p e R s m args below meth c H locs cells slots ls ρ al ρ0 al0 MC MS C hH hS hl (ltl (ltl hst)) hE a1 a2 a3 a4))
theorem p_icmp_ne {x y : Int32} {off : Int} (q q2 : Nat) (hq : (pc : Int) + off = (q : Int)) (hq2 : pc + 3 = q2) (hd : decode (mC mi) pc = .ok (.if_icmp .ne off, 3)) (kt : ¬ x = y → Ok Γ d mc ms mi q L st σ Q) (kf : x = y → Ok Γ d mc ms mi q2 L st σ Q) : Ok Γ d mc ms mi pc L (.int y :: .int x :: st) σ Q := by
  subst hq2
  intro p e R s m args below meth c H locs cells slots ls ρ al ρ0 al0 MC MS C hH hS hl hst hE a1 a2 a3 a4
  exact lv_icmp_ne C.1 C.2.1 hd hq (fun h => (kt h p e R s m args below meth c H locs cells slots ls ρ al ρ0 al0 MC MS C hH hS hl (ltl (ltl hst)) hE a1 a2 a3 a4)) (fun h => (kf h p e R s m args below meth c H locs cells slots ls ρ al ρ0 al0 MC MS C hH hS hl (ltl (ltl hst)) hE a1 a2 a3 a4))
theorem p_icmp_lt {x y : Int32} {off : Int} (q q2 : Nat) (hq : (pc : Int) + off = (q : Int)) (hq2 : pc + 3 = q2) (hd : decode (mC mi) pc = .ok (.if_icmp .lt off, 3)) (kt : x < y → Ok Γ d mc ms mi q L st σ Q) (kf : ¬ x < y → Ok Γ d mc ms mi q2 L st σ Q) : Ok Γ d mc ms mi pc L (.int y :: .int x :: st) σ Q := by
  subst hq2
  intro p e R s m args below meth c H locs cells slots ls ρ al ρ0 al0 MC MS C hH hS hl hst hE a1 a2 a3 a4
  exact lv_icmp_lt C.1 C.2.1 hd hq (fun h => (kt h p e R s m args below meth c H locs cells slots ls ρ al ρ0 al0 MC MS C hH hS hl (ltl (ltl hst)) hE a1 a2 a3 a4)) (fun h => (kf h p e R s m args below meth c H locs cells slots ls ρ al ρ0 al0 MC MS C hH hS hl (ltl (ltl hst)) hE a1 a2 a3 a4))
theorem p_icmp_ge {x y : Int32} {off : Int} (q q2 : Nat) (hq : (pc : Int) + off = (q : Int)) (hq2 : pc + 3 = q2) (hd : decode (mC mi) pc = .ok (.if_icmp .ge off, 3)) (kt : y ≤ x → Ok Γ d mc ms mi q L st σ Q) (kf : ¬ y ≤ x → Ok Γ d mc ms mi q2 L st σ Q) : Ok Γ d mc ms mi pc L (.int y :: .int x :: st) σ Q := by
  subst hq2
  intro p e R s m args below meth c H locs cells slots ls ρ al ρ0 al0 MC MS C hH hS hl hst hE a1 a2 a3 a4
  exact lv_icmp_ge C.1 C.2.1 hd hq (fun h => (kt h p e R s m args below meth c H locs cells slots ls ρ al ρ0 al0 MC MS C hH hS hl (ltl (ltl hst)) hE a1 a2 a3 a4)) (fun h => (kf h p e R s m args below meth c H locs cells slots ls ρ al ρ0 al0 MC MS C hH hS hl (ltl (ltl hst)) hE a1 a2 a3 a4))
theorem p_icmp_gt {x y : Int32} {off : Int} (q q2 : Nat) (hq : (pc : Int) + off = (q : Int)) (hq2 : pc + 3 = q2) (hd : decode (mC mi) pc = .ok (.if_icmp .gt off, 3)) (kt : y < x → Ok Γ d mc ms mi q L st σ Q) (kf : ¬ y < x → Ok Γ d mc ms mi q2 L st σ Q) : Ok Γ d mc ms mi pc L (.int y :: .int x :: st) σ Q := by
  subst hq2
  intro p e R s m args below meth c H locs cells slots ls ρ al ρ0 al0 MC MS C hH hS hl hst hE a1 a2 a3 a4
  exact lv_icmp_gt C.1 C.2.1 hd hq (fun h => (kt h p e R s m args below meth c H locs cells slots ls ρ al ρ0 al0 MC MS C hH hS hl (ltl (ltl hst)) hE a1 a2 a3 a4)) (fun h => (kf h p e R s m args below meth c H locs cells slots ls ρ al ρ0 al0 MC MS C hH hS hl (ltl (ltl hst)) hE a1 a2 a3 a4))
theorem p_icmp_le {x y : Int32} {off : Int} (q q2 : Nat) (hq : (pc : Int) + off = (q : Int)) (hq2 : pc + 3 = q2) (hd : decode (mC mi) pc = .ok (.if_icmp .le off, 3)) (kt : x ≤ y → Ok Γ d mc ms mi q L st σ Q) (kf : ¬ x ≤ y → Ok Γ d mc ms mi q2 L st σ Q) : Ok Γ d mc ms mi pc L (.int y :: .int x :: st) σ Q := by
  subst hq2
  intro p e R s m args below meth c H locs cells slots ls ρ al ρ0 al0 MC MS C hH hS hl hst hE a1 a2 a3 a4
  exact lv_icmp_le C.1 C.2.1 hd hq (fun h => (kt h p e R s m args below meth c H locs cells slots ls ρ al ρ0 al0 MC MS C hH hS hl (ltl (ltl hst)) hE a1 a2 a3 a4)) (fun h => (kf h p e R s m args below meth c H locs cells slots ls ρ al ρ0 al0 MC MS C hH hS hl (ltl (ltl hst)) hE a1 a2 a3 a4))
theorem p_tswOut {x : Int32} {dflt lo hi : Int} {offs : Array Int} {len : Nat} (q : Nat) (hq : (pc : Int) + dflt = (q : Int)) (hd : decode (mC mi) pc = .ok (.tableswitch dflt lo hi offs, len)) (h : x.toInt < lo ∨ hi < x.toInt) (k : Ok Γ d mc ms mi q L st σ Q) : Ok Γ d mc ms mi pc L (.int x :: st) σ Q := by
  intro p e R s m args below meth c H locs cells slots ls ρ al ρ0 al0 MC MS C hH hS hl hst hE a1 a2 a3 a4
  exact lv_tableOut C.1 C.2.1 hd h hq (k p e R s m args below meth c H locs cells slots ls ρ al ρ0 al0 MC MS C hH hS hl (ltl hst) hE a1 a2 a3 a4)
theorem p_tswIn {x : Int32} {dflt lo hi off : Int} {offs : Array Int} {len : Nat} (q : Nat) (hq : (pc : Int) + off = (q : Int)) (hd : decode (mC mi) pc = .ok (.tableswitch dflt lo hi offs, len)) (h1 : ¬ x.toInt < lo) (h2 : ¬ hi < x.toInt) (ho : offs[(x.toInt - lo).toNat]? = some off) (k : Ok Γ d mc ms mi q L st σ Q) : Ok Γ d mc ms mi pc L (.int x :: st) σ Q := by
  intro p e R s m args below meth c H locs cells slots ls ρ al ρ0 al0 MC MS C hH hS hl hst hE a1 a2 a3 a4
  exact lv_tableIn C.1 C.2.1 hd h1 h2 ho hq (k p e R s m args below meth c H locs cells slots ls ρ al ρ0 al0 MC MS C hH hS hl (ltl hst) hE a1 a2 a3 a4)
theorem p_iload_n {j : Fin 4} {x : Int32} (i q : Nat) (hq : pc + 1 = q) (hi : (j : Nat) = i) (hd : decode (mC mi) pc = .ok (.iload_n j, 1)) (hx : L[i]? = some (some (.int x))) (k : Ok Γ d mc ms mi q L (.int x :: st) σ Q) : Ok Γ d mc ms mi pc L st σ Q := by
  subst hq
  intro p e R s m args below meth c H locs cells slots ls ρ al ρ0 al0 MC MS C hH hS hl hst hE a1 a2 a3 a4
  exact lv_iload_n C.1 C.2.1 hd hi (hl.2.2 i _ hx).1 (k p e R s m args below meth c H locs cells slots ls ρ al ρ0 al0 MC MS C hH hS hl (lcs (hl.2.2 i _ hx).2 hst) hE a1 a2 a3 a4)
theorem p_iload {x : Int32} (i q : Nat) (hq : pc + 2 = q) (hd : decode (mC mi) pc = .ok (.iload i, 2)) (hx : L[i]? = some (some (.int x))) (k : Ok Γ d mc ms mi q L (.int x :: st) σ Q) : Ok Γ d mc ms mi pc L st σ Q := by
  subst hq
  intro p e R s m args below meth c H locs cells slots ls ρ al ρ0 al0 MC MS C hH hS hl hst hE a1 a2 a3 a4
  exact lv_iload C.1 C.2.1 hd (hl.2.2 i _ hx).1 (k p e R s m args below meth c H locs cells slots ls ρ al ρ0 al0 MC MS C hH hS hl (lcs (hl.2.2 i _ hx).2 hst) hE a1 a2 a3 a4)
theorem p_lload_n {j : Fin 4} {x : Int64} (i q : Nat) (hq : pc + 1 = q) (hi : (j : Nat) = i) (hd : decode (mC mi) pc = .ok (.lload_n j, 1)) (hx : L[i]? = some (some (.long x))) (k : Ok Γ d mc ms mi q L (.long x :: st) σ Q) : Ok Γ d mc ms mi pc L st σ Q := by
  subst hq
  intro p e R s m args below meth c H locs cells slots ls ρ al ρ0 al0 MC MS C hH hS hl hst hE a1 a2 a3 a4
  exact lv_lload_n C.1 C.2.1 hd hi (hl.2.2 i _ hx).1 (k p e R s m args below meth c H locs cells slots ls ρ al ρ0 al0 MC MS C hH hS hl (lcs (hl.2.2 i _ hx).2 hst) hE a1 a2 a3 a4)
theorem p_lload {x : Int64} (i q : Nat) (hq : pc + 2 = q) (hd : decode (mC mi) pc = .ok (.lload i, 2)) (hx : L[i]? = some (some (.long x))) (k : Ok Γ d mc ms mi q L (.long x :: st) σ Q) : Ok Γ d mc ms mi pc L st σ Q := by
  subst hq
  intro p e R s m args below meth c H locs cells slots ls ρ al ρ0 al0 MC MS C hH hS hl hst hE a1 a2 a3 a4
  exact lv_lload C.1 C.2.1 hd (hl.2.2 i _ hx).1 (k p e R s m args below meth c H locs cells slots ls ρ al ρ0 al0 MC MS C hH hS hl (lcs (hl.2.2 i _ hx).2 hst) hE a1 a2 a3 a4)
theorem p_aload_n {j : Fin 4} {x : Nat} (i q : Nat) (hq : pc + 1 = q) (hi : (j : Nat) = i) (hd : decode (mC mi) pc = .ok (.aload_n j, 1)) (hx : L[i]? = some (some (.ref x))) (k : Ok Γ d mc ms mi q L (.ref x :: st) σ Q) : Ok Γ d mc ms mi pc L st σ Q := by
  subst hq
  intro p e R s m args below meth c H locs cells slots ls ρ al ρ0 al0 MC MS C hH hS hl hst hE a1 a2 a3 a4
  exact lv_aload_n C.1 C.2.1 hd hi (hl.2.2 i _ hx).1 (k p e R s m args below meth c H locs cells slots ls ρ al ρ0 al0 MC MS C hH hS hl (lcs (hl.2.2 i _ hx).2 hst) hE a1 a2 a3 a4)
theorem p_aload {x : Nat} (i q : Nat) (hq : pc + 2 = q) (hd : decode (mC mi) pc = .ok (.aload i, 2)) (hx : L[i]? = some (some (.ref x))) (k : Ok Γ d mc ms mi q L (.ref x :: st) σ Q) : Ok Γ d mc ms mi pc L st σ Q := by
  subst hq
  intro p e R s m args below meth c H locs cells slots ls ρ al ρ0 al0 MC MS C hH hS hl hst hE a1 a2 a3 a4
  exact lv_aload C.1 C.2.1 hd (hl.2.2 i _ hx).1 (k p e R s m args below meth c H locs cells slots ls ρ al ρ0 al0 MC MS C hH hS hl (lcs (hl.2.2 i _ hx).2 hst) hE a1 a2 a3 a4)
theorem p_istore_nG {j : Fin 4} {x : Int32} (i q : Nat) (hq : pc + 1 = q) (hi : (j : Nat) = i) (hd : decode (mC mi) pc = .ok (.istore_n j, 1)) (hn : i < mL mi) (hb : nlb L i) (k : Ok Γ d mc ms mi q (L.set i (some (.int x))) st σ Q) : Ok Γ d mc ms mi pc L (.int x :: st) σ Q := by
  subst hq
  intro p e R s m args below meth c H locs cells slots ls ρ al ρ0 al0 MC MS C hH hS hl hst hE a1 a2 a3 a4
  exact lv_istore_n C.1 C.2.1 hd hi hl.has hn rfl (fun ls' h' => (k p e R s m args below meth c H locs cells slots ls' ρ al ρ0 al0 MC MS C hH hS (hl.set1 (lhd hst) hb h') (ltl hst) hE a1 a2 a3 a4))
theorem p_istoreG {x : Int32} (i q : Nat) (hq : pc + 2 = q) (hd : decode (mC mi) pc = .ok (.istore i, 2)) (hn : i < mL mi) (hb : nlb L i) (k : Ok Γ d mc ms mi q (L.set i (some (.int x))) st σ Q) : Ok Γ d mc ms mi pc L (.int x :: st) σ Q := by
  subst hq
  intro p e R s m args below meth c H locs cells slots ls ρ al ρ0 al0 MC MS C hH hS hl hst hE a1 a2 a3 a4
  exact lv_istore C.1 C.2.1 hd hl.has hn rfl (fun ls' h' => (k p e R s m args below meth c H locs cells slots ls' ρ al ρ0 al0 MC MS C hH hS (hl.set1 (lhd hst) hb h') (ltl hst) hE a1 a2 a3 a4))
theorem p_astore_nG {j : Fin 4} {x : Nat} (i q : Nat) (hq : pc + 1 = q) (hi : (j : Nat) = i) (hd : decode (mC mi) pc = .ok (.astore_n j, 1)) (hn : i < mL mi) (hb : nlb L i) (k : Ok Γ d mc ms mi q (L.set i (some (.ref x))) st σ Q) : Ok Γ d mc ms mi pc L (.ref x :: st) σ Q := by
  subst hq
  intro p e R s m args below meth c H locs cells slots ls ρ al ρ0 al0 MC MS C hH hS hl hst hE a1 a2 a3 a4
  exact lv_astore_n C.1 C.2.1 hd hi hl.has hn rfl (fun ls' h' => (k p e R s m args below meth c H locs cells slots ls' ρ al ρ0 al0 MC MS C hH hS (hl.set1 (lhd hst) hb h') (ltl hst) hE a1 a2 a3 a4))
theorem p_astoreG {x : Nat} (i q : Nat) (hq : pc + 2 = q) (hd : decode (mC mi) pc = .ok (.astore i, 2)) (hn : i < mL mi) (hb : nlb L i) (k : Ok Γ d mc ms mi q (L.set i (some (.ref x))) st σ Q) : Ok Γ d mc ms mi pc L (.ref x :: st) σ Q := by
  subst hq
  intro p e R s m args below meth c H locs cells slots ls ρ al ρ0 al0 MC MS C hH hS hl hst hE a1 a2 a3 a4
  exact lv_astore C.1 C.2.1 hd hl.has hn rfl (fun ls' h' => (k p e R s m args below meth c H locs cells slots ls' ρ al ρ0 al0 MC MS C hH hS (hl.set1 (lhd hst) hb h') (ltl hst) hE a1 a2 a3 a4))
theorem p_lstore_nG {j : Fin 4} {x : Int64} (i q : Nat) (hq : pc + 1 = q) (hi : (j : Nat) = i) (hd : decode (mC mi) pc = .ok (.lstore_n j, 1)) (hn : i + 1 < mL mi) (hb : nlb L i) (k : Ok Γ d mc ms mi q ((L.set i (some (.long x))).set (i + 1) none) st σ Q) : Ok Γ d mc ms mi pc L (.long x :: st) σ Q := by
  subst hq
  intro p e R s m args below meth c H locs cells slots ls ρ al ρ0 al0 MC MS C hH hS hl hst hE a1 a2 a3 a4
  exact lv_lstore_n C.1 C.2.1 hd hi hl.has hn rfl (fun ls' h' => (k p e R s m args below meth c H locs cells slots ls' ρ al ρ0 al0 MC MS C hH hS (hl.set2 hb h') (ltl hst) hE a1 a2 a3 a4))
theorem p_lstoreG {x : Int64} (i q : Nat) (hq : pc + 2 = q) (hd : decode (mC mi) pc = .ok (.lstore i, 2)) (hn : i + 1 < mL mi) (hb : nlb L i) (k : Ok Γ d mc ms mi q ((L.set i (some (.long x))).set (i + 1) none) st σ Q) : Ok Γ d mc ms mi pc L (.long x :: st) σ Q := by
  subst hq
  intro p e R s m args below meth c H locs cells slots ls ρ al ρ0 al0 MC MS C hH hS hl hst hE a1 a2 a3 a4
  exact lv_lstore C.1 C.2.1 hd hl.has hn rfl (fun ls' h' => (k p e R s m args below meth c H locs cells slots ls' ρ al ρ0 al0 MC MS C hH hS (hl.set2 hb h') (ltl hst) hE a1 a2 a3 a4))
theorem p_iincG {x : Int32} {n : Int} (i q : Nat) (hq : pc + 3 = q) (hd : decode (mC mi) pc = .ok (.iinc i n, 3)) (hx : L[i]? = some (some (.int x))) (v : Int32) (hv : x + Int32.ofInt n = v) (hn : i < mL mi) (hb : nlb L i) (k : Ok Γ d mc ms mi q (L.set i (some (.int v))) st σ Q) : Ok Γ d mc ms mi pc L st σ Q := by
  subst hq
  intro p e R s m args below meth c H locs cells slots ls ρ al ρ0 al0 MC MS C hH hS hl hst hE a1 a2 a3 a4
  obtain ⟨kk, hkk⟩ := List.mem_iff_getElem?.mp ((mem_prs (ρ := ρ) L 0 (i, .int x)).mpr ⟨i, .int x, hx, by rw [Nat.zero_add]; rfl⟩)
  exact lv_iinc C.1 C.2.1 hd hl.has hkk hv hn rfl (fun ls' h' => (k p e R s m args below meth c H locs cells slots ls' ρ al ρ0 al0 MC MS C hH hS (hl.set1 (v := .int v) (lv_i _ _) hb h') hst hE a1 a2 a3 a4))
theorem p_vret (hd : decode (mC mi) pc = .ok (.return_, 1)) (hr : mR mi = none) (hq : Q (.inl none) σ) : Ok Γ d mc ms mi pc L [] σ Q := by
  intro p e R s m args below meth c H locs cells slots ls ρ al ρ0 al0 MC MS C hH hS hl hst hE a1 a2 a3 a4
  refine vx_ret (W.widen (k := MC) (n := MS) (by omega) (by omega) ?_)
  exact W.vret C.1 C.2.1 (C.2.2.1.trans hr) (fun t ht hW => ⟨none, σ, ρ, al, rfl, hq, (fun w h => by cases h), hE, by rw [ht]; exact hH, ⟨by rw [ht]; exact hS.1, fun q h1 h2 => by rw [ht]; exact hS.2.1 q h1 h2⟩⟩) hS.2.2 hd C.2.2.2.2.2.2.1
theorem p_iret {v : Int32} (hd : decode (mC mi) pc = .ok (.ireturn, 1)) (hr : mR mi = some .int) (hq : Q (.inl (some (.int v))) σ) : Ok Γ d mc ms mi pc L [.int v] σ Q := by
  intro p e R s m args below meth c H locs cells slots ls ρ al ρ0 al0 MC MS C hH hS hl hst hE a1 a2 a3 a4
  refine vx_ret (W.widen (k := MC) (n := MS) (by omega) (by omega) ?_)
  exact W.iret (v := v) C.1 C.2.1 (C.2.2.1.trans hr) (fun t ht hW => ⟨some (.int v), σ, ρ, al, rfl, hq, (fun w h => by cases h; exact lv_i _ _), hE, by rw [ht]; exact hH, ⟨by rw [ht]; exact hS.1, fun q h1 h2 => by rw [ht]; exact hS.2.1 q h1 h2⟩⟩) hS.2.2 hd C.2.2.2.2.2.2.1
theorem p_zret {v : Int32} {ty : FieldType} (hd : decode (mC mi) pc = .ok (.ireturn, 1)) (hr : mR mi = some ty) (hn : narrow ty (.int v) = .int v) (hq : Q (.inl (some (.int v))) σ) : Ok Γ d mc ms mi pc L [.int v] σ Q := by
  intro p e R s m args below meth c H locs cells slots ls ρ al ρ0 al0 MC MS C hH hS hl hst hE a1 a2 a3 a4
  refine vx_ret (W.widen (k := MC) (n := MS) (by omega) (by omega) ?_)
  exact W.zret (v := v) C.1 C.2.1 (C.2.2.1.trans hr) hn (fun t ht hW => ⟨some (.int v), σ, ρ, al, rfl, hq, (fun w h => by cases h; exact lv_i _ _), hE, by rw [ht]; exact hH, ⟨by rw [ht]; exact hS.1, fun q h1 h2 => by rw [ht]; exact hS.2.1 q h1 h2⟩⟩) hS.2.2 hd C.2.2.2.2.2.2.1
theorem p_lret {v : Int64} (hd : decode (mC mi) pc = .ok (.lreturn, 1)) (hr : mR mi = some .long) (hq : Q (.inl (some (.long v))) σ) : Ok Γ d mc ms mi pc L [.long v] σ Q := by
  intro p e R s m args below meth c H locs cells slots ls ρ al ρ0 al0 MC MS C hH hS hl hst hE a1 a2 a3 a4
  refine vx_ret (W.widen (k := MC) (n := MS) (by omega) (by omega) ?_)
  exact W.lret (v := v) C.1 C.2.1 (C.2.2.1.trans hr) (fun t ht hW => ⟨some (.long v), σ, ρ, al, rfl, hq, (fun w h => by cases h; exact lv_l _ _), hE, by rw [ht]; exact hH, ⟨by rw [ht]; exact hS.1, fun q h1 h2 => by rw [ht]; exact hS.2.1 q h1 h2⟩⟩) hS.2.2 hd C.2.2.2.2.2.2.1

end PR
