/-! ===== the pure machine: references as numbers (kind, length, serial), a heap as functions ===== -/
def kd (r : Nat) : Nat := r % 32
def ln (r : Nat) : Nat := r / 32 % 8192
def sn (r : Nat) : Nat := r / 262144
def mkr (s n k : Nat) : Nat := (s * 8192 + n) * 32 + k
theorem kd_mkr {s n k : Nat} (hk : k < 32) : kd (mkr s n k) = k := by unfold kd mkr; omega
theorem ln_mkr {s n k : Nat} (hk : k < 32) (hn : n < 8192) : ln (mkr s n k) = n := by unfold ln mkr; omega
theorem sn_mkr {s n k : Nat} (hk : k < 32) (hn : n < 8192) : sn (mkr s n k) = s := by unfold sn mkr; omega
/-- the next serial; int fields, long fields, reference fields (0 is null), int-like arrays, long arrays -/
abbrev PH : Type := Nat × (Nat → Nat → Int32) × (Nat → Nat → Int64) × (Nat → Nat → Nat) × (Nat → Nat → Int32) × (Nat → Nat → Int64)
def hn (σ : PH) : Nat := σ.1
def hI (σ : PH) : Nat → Nat → Int32 := σ.2.1
def hJ (σ : PH) : Nat → Nat → Int64 := σ.2.2.1
def hR (σ : PH) : Nat → Nat → Nat := σ.2.2.2.1
def hA (σ : PH) : Nat → Nat → Int32 := σ.2.2.2.2.1
def hL (σ : PH) : Nat → Nat → Int64 := σ.2.2.2.2.2
def sI (σ : PH) (r k : Nat) (v : Int32) : PH := (hn σ, va_up (hI σ) r (va_up (hI σ r) k v), hJ σ, hR σ, hA σ, hL σ)
def sJ (σ : PH) (r k : Nat) (v : Int64) : PH := (hn σ, hI σ, va_up (hJ σ) r (va_up (hJ σ r) k v), hR σ, hA σ, hL σ)
def sR (σ : PH) (r k : Nat) (v : Nat) : PH := (hn σ, hI σ, hJ σ, va_up (hR σ) r (va_up (hR σ r) k v), hA σ, hL σ)
def sF (σ : PH) (r : Nat) (f : Nat → Int32) : PH := (hn σ, hI σ, hJ σ, hR σ, va_up (hA σ) r f, hL σ)
def sG (σ : PH) (r : Nat) (f : Nat → Int64) : PH := (hn σ, hI σ, hJ σ, hR σ, hA σ, va_up (hL σ) r f)
def sA (σ : PH) (r i : Nat) (x : Int32) : PH := sF σ r (upd (hA σ r) i x)
def sL (σ : PH) (r i : Nat) (x : Int64) : PH := sG σ r (vp_updL (hL σ r) i x)
def sN (σ : PH) (r : Nat) : PH := (hn σ + 1, va_up (hI σ) r (fun _ => 0), va_up (hJ σ) r (fun _ => 0), va_up (hR σ) r (fun _ => 0), va_up (hA σ) r (fun _ => 0), va_up (hL σ) r (fun _ => 0))
/-- fields' types, by the number of the class in vwCl -/
def ftab : List (Nat → FieldType) := [tyX0, tyX1, tyX2, tyX3, tyX4, tyX5, tyX6, tyX7, tyX8, tyX9]
def ft (c k : Nat) : FieldType := (ftab.getD c (fun _ => .int)) k
def nf (c : Nat) : Nat := [3, 1, 6, 5, 14, 11, 4, 7, 18, 62].getD c 0
abbrev vwCl : List vw_C := [(RX0, TX0, 3), (RX1, TX1, 1), (RX2, TX2, 6), (RX3, TX3, 5), (RX4, TX4, 14), (RX5, TX5, 11), (RX6, TX6, 4), (RX7, TX7, 7), (RX8, TX8, 18), (RX9, TX9, 62)]
def isR : FieldType → Bool
  | .object _ => true
  | .array _ => true
  | _ => false
def isJ : FieldType → Bool
  | .long => true
  | _ => false
def vref (r : Nat) : Value := if r = 0 then .null else .ref r
def fvc (σ : PH) (c r k : Nat) : Value := if isR (ft c k) = true then vref (hR σ r k) else if isJ (ft c k) = true then .long (hJ σ r k) else .int (hI σ r k)
def cv (ρ : Nat → Nat) : Value → Value
  | .ref r => .ref (ρ r)
  | v => v
def cE (cy : Nat → ClassId) (ρ : Nat → Nat) (σ : PH) (r : Nat) : va_E :=
  if kd r < 10 then .inr (kd r, (List.range (nf (kd r))).map (fun k => cv ρ (fvc σ (kd r) r k)))
  else if kd r = 19 then .inl (cy 19, ln r, .inr (.inl (hL σ r)))
  else .inl (cy (kd r), ln r, .inl (hA σ r))
def hw (cy : Nat → ClassId) (ρ : Nat → Nat) (al : List Nat) (σ : PH) : va_W := al.map (fun r => (ρ r, cE cy ρ σ r))
def gtys (cy : Nat → ClassId) : List (ClassId × FieldType) := [(cy 16, .int), (cy 17, .byte), (cy 18, .boolean), (cy 19, .long)]
def live (al : List Nat) (r : Nat) : Prop := r ∈ al ∨ 26 ≤ kd r
def lvv (al : List Nat) (v : Value) : Prop := ∀ r, v = .ref r → live al r
/-- what stays the same for all methods: launch, class numbers, array classes, the first new cell, string constants and their rows, the script -/
abbrev Gm : Type := Launch × va_G × (Nat → ClassId) × Nat × (Nat → Nat) × (Nat → Nat) × Nat × Nat × (Nat → Int32)
def gl (Γ : Gm) : Launch := Γ.1
def gD (Γ : Gm) : va_G := Γ.2.1
def gc (Γ : Gm) : Nat → ClassId := Γ.2.2.1
def gb (Γ : Gm) : Nat := Γ.2.2.2.1
def gK (Γ : Gm) : Nat → Nat := Γ.2.2.2.2.1
def gV (Γ : Gm) : Nat → Nat := Γ.2.2.2.2.2.1
def gs (Γ : Gm) : Nat := Γ.2.2.2.2.2.2.1
def gL (Γ : Gm) : Nat := Γ.2.2.2.2.2.2.2.1
def gx (Γ : Gm) : Nat → Int32 := Γ.2.2.2.2.2.2.2.2
def fA (Γ : Gm) : Nat → Prop := fun q => gb Γ ≤ q
/-- the string constants: owner, place, text -/
def stab : List (String × Nat × String) := [("TwinInk", 105, "the tape has not so many bytes"), ("TwinInk", 169, "no such count"), ("TwinInk", 192, "nothing such of a sheet"), ("TwinInk", 209, "nothing such of a clerk"), ("TwinInk", 226, "nothing such of a word"), ("TwinInk", 246, "nothing such of a town"), ("TwinInk", 322, "nothing so odd"), ("TwinInk", 354, "one clerk is no couple"), ("TwinInk", 382, "no such sheet"), ("TwinInk", 384, "no such clerk"), ("TwinInk", 386, "no such word"), ("TwinInk", 388, "no such town"), ("TwinInk", 390, "nothing such"), ("TwinInk", 392, "not so many"), ("TwinInk$Reader", 85, "sheet"), ("TwinInk$Reader", 94, "clerk"), ("TwinInk$Reader", 99, "word"), ("TwinInk$Reader", 104, "slack"), ("TwinInk$Reader", 109, "lays"), ("TwinInk$Reader", 114, "moulds"), ("TwinInk$Reader", 201, "not"), ("TwinInk$Reader", 203, "or"), ("TwinInk$Reader", 205, "and"), ("TwinInk$Reader", 213, "town"), ("TwinInk$Reader", 217, "day"), ("TwinInk$Reader", 219, "sheets"), ("TwinInk$Reader", 220, "clerks"), ("TwinInk$Reader", 221, "known"), ("TwinInk$Reader", 223, "left"), ("TwinInk$Reader", 225, "right"), ("TwinInk$Reader", 227, "borne")]
def sow (i : Nat) : String := (stab.getD i ("", 0, "")).1
def six (i : Nat) : Nat := (stab.getD i ("", 0, "")).2.1
def stx (i : Nat) : String := (stab.getD i ("", 0, "")).2.2
def sbyt : List (List Int32) := stab.map (fun q => q.2.2.toList.map (fun ch => Int32.ofNat ch.toNat))
def slen : List Nat := sbyt.map List.length
/-- words that a warmer table keeps by laws of their own -/
def nbw : Cond → Bool
  | .methodLinkNest .. => true
  | .declares _ => true
  | .castable .. => true
  | _ => false
def NB : List Cond := lw_tbl.filter nbw
/-- the formatter's static: null, or the one reference -/
def zN (g : Nat) (A : Nat → Prop) (U : State) (H : Heap) : Prop := va_Z "jdk/internal/util/Preconditions" "SIOOBE_FORMATTER" "Ljava/util/function/BiFunction;" .null A U H ∨ va_Z "jdk/internal/util/Preconditions" "SIOOBE_FORMATTER" "Ljava/util/function/BiFunction;" (.ref g) A U H
theorem zN.moved {g : Nat} {A : Nat → Prop} {u U : State} {H : Heap} (hvm : u.vm.Alike U.vm) (h : zN g A u H) : zN g A U H := h.elim (fun h => Or.inl (h.moved hvm)) (fun h => Or.inr (h.moved hvm))
theorem zN.kept {g : Nat} {A : Nat → Prop} {U : State} {H H1 : Heap} (h : zN g A U H) (hq : ∀ a : Nat, a < H.size → ¬ A a → H1[a]? = H[a]?) : zN g A U H1 := h.elim (fun h => Or.inl (h.kept hq)) (fun h => Or.inr (h.kept hq))
/-- what a state knows of the old cells -/
def OF (Γ : Gm) (U : State) : Prop :=
  (gl Γ).stackTraces = false ∧ gb Γ ≤ U.heap.size ∧ gs Γ < gb Γ ∧ va_X (gs Γ) (gL Γ) (gx Γ) U U.heap ∧ vk_S 31 slen sbyt (gK Γ) (gV Γ) (fA Γ) U U.heap ∧ (∀ i, i < 31 → vk_R (sow i) (six i) (stx i) (gK Γ i) U) ∧
  vx_Zq Bundle.tN "UNASSIGNED_STACK" Bundle.steD (fA Γ) U U.heap ∧ vx_Zq Bundle.tN "SUPPRESSED_SENTINEL" Bundle.listD (fA Γ) U U.heap ∧ (va_Z "java/lang/String" "COMPACT_STRINGS" "Z" (.int 1) (fA Γ) U U.heap ∧ zN (gV Γ 31) (fA Γ) U U.heap) ∧
  va_Nc "java/lang/IllegalArgumentException" "java/util/NoSuchElementException" U ∧ ∀ w ∈ NB, va_Nw w U
/-- the words -/
def TB : List Cond := lw_tbl.filter goodWord
theorem TB_in {w : Cond} (h : w ∈ lw_tbl) (g : goodWord w = true) : w ∈ TB := List.mem_filter.mpr ⟨h, g⟩
theorem TB_good {w : Cond} (h : w ∈ TB) : (w.onTables && w.keeps) = true ∨ ∃ ty, w = .arrayClass ty := good_of_word (List.mem_filter.mp h).2
/-- heap and pure heap -/
def HR (Γ : Gm) (ρ : Nat → Nat) (al : List Nat) (σ : PH) (H : Heap) : Prop :=
  va_P (gD Γ) vwCl (hw (gc Γ) ρ al σ) H ∧ va_D (fA Γ) (hw (gc Γ) ρ al σ) ∧ al.Nodup ∧ (∀ r ∈ al, sn r < hn σ ∧ (kd r < 10 ∨ (16 ≤ kd r ∧ kd r < 20))) ∧ (∀ r ∈ al, kd r < 10 → ∀ k, k < nf (kd r) → lvv al (fvc σ (kd r) r k)) ∧
  ((∀ i, i < 31 → ρ (i * 32 + 26) = gK Γ i) ∧ ∀ i, i < 32 → ρ (i * 32 + 28) = gV Γ i) ∧ ρ 27 = gs Γ
def Ext (ρ0 : Nat → Nat) (al0 : List Nat) (ρ : Nat → Nat) (al : List Nat) : Prop := (∀ r, r ∈ al0 → r ∈ al) ∧ ∀ r, live al0 r → ρ r = ρ0 r
def LR (ρ : Nat → Nat) (al : List Nat) (nL : Nat) (ls : Array Slot) (L : List (Option Value)) : Prop := ls.size = nL ∧ lv_wf ls ∧ ∀ (i : Nat) (v : Value), L[i]? = some (some v) → ls[i]? = some (.val (cv ρ v)) ∧ lvv al v
/-- a method: class, name, descriptor, code, locals, result, handlers -/
abbrev MI : Type := String × String × String × ByteArray × Nat × Option FieldType × List (Nat × Nat × Nat × Nat)
def mO (mi : MI) : String := mi.1
def mN (mi : MI) : String := mi.2.1
def mY (mi : MI) : MethodName := ⟨mi.1, mi.2.1, mi.2.2.1⟩
def mC (mi : MI) : ByteArray := mi.2.2.2.1
def mL (mi : MI) : Nat := mi.2.2.2.2.1
def mR (mi : MI) : Option FieldType := mi.2.2.2.2.2.1
def mH (mi : MI) : List (Nat × Nat × Nat × Nat) := mi.2.2.2.2.2.2
def Cx (Γ : Gm) (mi : MI) (d : Nat) (p : Program) (R : Room) (s : State) (m : MethodId) (args : Array Value) (meth : Method) (c : Code) : Prop :=
  p.tables.exec = Jvm.exec ∧ c.code = mC mi ∧ meth.sig.returnType = mR mi ∧ c.maxLocals = mL mi ∧ s.vm.findClass (mO mi) = some m.cls ∧ (∀ w ∈ TB, w.before args s = true) ∧ meth.locks = false ∧ c.exceptionTable.toList = tableOf (mH mi) ∧ meth.name = mN mi ∧ OF Γ s ∧ va_K (gD Γ) vwCl (gtys (gc Γ)) s ∧ d ≤ R.frames ∧ 100 * d ≤ R.locals
/-- how a method ended: with a value, without, or with an exception (1: no such element, 2: illegal argument) -/
abbrev PO : Type := Option Value ⊕ Nat
def exn (x : Nat) : String := if x = 1 then "java/util/NoSuchElementException" else "java/lang/IllegalArgumentException"
def QR (Γ : Gm) (ρ0 : Nat → Nat) (al0 : List Nat) (Q : PO → PH → Prop) : Array Value → State → Outcome → State → Prop := fun _ st o t =>
  ∃ (v : Option Value) (σ' : PH) (ρ' : Nat → Nat) (al' : List Nat), o = .returned (v.map (cv ρ')) ∧ Q (.inl v) σ' ∧ (∀ w, v = some w → lvv al' w) ∧ Ext ρ0 al0 ρ' al' ∧ HR Γ ρ' al' σ' t.heap ∧ va_F (fA Γ) st t
def QX (Γ : Gm) (ρ0 : Nat → Nat) (al0 : List Nat) (Q : PO → PH → Prop) : String → State → State → Prop := fun E st t =>
  ∃ (x : Nat) (σ' : PH) (ρ' : Nat → Nat) (al' : List Nat), E = exn x ∧ Q (.inr x) σ' ∧ Ext ρ0 al0 ρ' al' ∧ HR Γ ρ' al' σ' t.heap ∧ va_F (fA Γ) st t
def mW (mi : MI) : List Cond := (if (mH mi) = [] then Cond.code (mY mi) (mC mi) (mL mi) (mR mi) else Cond.codeWith (mY mi) (mC mi) (mL mi) (mR mi) (mH mi)) :: TB
/-- the contract of a call -/
def CallOk (Γ : Gm) (d mc ms : Nat) (mi : MI) (as : List Value) (σ : PH) (Q : PO → PH → Prop) : Prop :=
  ∀ (ρ : Nat → Nat) (al : List Nat), (∀ v ∈ as, lvv al v) → vx_Met (gl Γ) (mY mi) (mW mi) ({ frames := d, cells := mc, slots := ms, locals := 100 * d }) (fun v U => v = (as.map (cv ρ)).toArray ∧ HR Γ ρ al σ U.heap ∧ va_K (gD Γ) vwCl (gtys (gc Γ)) U ∧ OF Γ U) (QR Γ ρ al Q) (QX Γ ρ al Q) mc ms (fA Γ)
/-- from here the method comes to an end with Q -/
def Ok (Γ : Gm) (d mc ms : Nat) (mi : MI) (pc : Nat) (L : List (Option Value)) (st : List Value) (σ : PH) (Q : PO → PH → Prop) : Prop :=
  ∀ (p : Program) (e : Env) (R : Room) (s : State) (m : MethodId) (args : Array Value) (below : List Frame) (meth : Method) (c : Code) (H : Heap) (locs : List Loc) (cells slots : Nat) (ls : Array Slot) (ρ : Nat → Nat) (al : List Nat) (ρ0 : Nat → Nat) (al0 : List Nat) (MC MS : Nat),
    Cx Γ mi d p R s m args meth c → HR Γ ρ al σ H → va_S (fA Γ) s.heap H locs → LR ρ al (mL mi) ls L → (∀ v ∈ st, lvv al v) → Ext ρ0 al0 ρ al → cells + mc ≤ MC → slots + ms ≤ MS → MC ≤ R.cells → MS ≤ R.slots →
    W p (gl Γ) e R s m args below meth c H locs cells slots (vx_MQ below (QR Γ ρ0 al0 Q) (QX Γ ρ0 al0 Q) args s MC MS (fA Γ)) (F0 m pc ls (st.map (cv ρ)))
