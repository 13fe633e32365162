/-! ===== the start: the old cells are known ===== -/
theorem sr_in : ∀ i, i < 31 → Cond.stringRef (sow i) (six i) (stx i) ∈ lw_tbl := by
  intro i hi
  rcases (show i = 0 ∨ i = 1 ∨ i = 2 ∨ i = 3 ∨ i = 4 ∨ i = 5 ∨ i = 6 ∨ i = 7 ∨ i = 8 ∨ i = 9 ∨ i = 10 ∨ i = 11 ∨ i = 12 ∨ i = 13 ∨ i = 14 ∨ i = 15 ∨ i = 16 ∨ i = 17 ∨ i = 18 ∨ i = 19 ∨ i = 20 ∨ i = 21 ∨ i = 22 ∨ i = 23 ∨ i = 24 ∨ i = 25 ∨ i = 26 ∨ i = 27 ∨ i = 28 ∨ i = 29 ∨ i = 30 by omega) with rfl | rfl | rfl | rfl | rfl | rfl | rfl | rfl | rfl | rfl | rfl | rfl | rfl | rfl | rfl | rfl | rfl | rfl | rfl | rfl | rfl | rfl | rfl | rfl | rfl | rfl | rfl | rfl | rfl | rfl | rfl
  · exact List.mem_of_getElem? (i := 647) (by decide +kernel)
  · exact List.mem_of_getElem? (i := 948) (by decide +kernel)
  · exact List.mem_of_getElem? (i := 973) (by decide +kernel)
  · exact List.mem_of_getElem? (i := 991) (by decide +kernel)
  · exact List.mem_of_getElem? (i := 1012) (by decide +kernel)
  · exact List.mem_of_getElem? (i := 1039) (by decide +kernel)
  · exact List.mem_of_getElem? (i := 1330) (by decide +kernel)
  · exact List.mem_of_getElem? (i := 1248) (by decide +kernel)
  · exact List.mem_of_getElem? (i := 966) (by decide +kernel)
  · exact List.mem_of_getElem? (i := 985) (by decide +kernel)
  · exact List.mem_of_getElem? (i := 1003) (by decide +kernel)
  · exact List.mem_of_getElem? (i := 1023) (by decide +kernel)
  · exact List.mem_of_getElem? (i := 1064) (by decide +kernel)
  · exact List.mem_of_getElem? (i := 1086) (by decide +kernel)
  · exact List.mem_of_getElem? (i := 710) (by decide +kernel)
  · exact List.mem_of_getElem? (i := 783) (by decide +kernel)
  · exact List.mem_of_getElem? (i := 805) (by decide +kernel)
  · exact List.mem_of_getElem? (i := 822) (by decide +kernel)
  · exact List.mem_of_getElem? (i := 827) (by decide +kernel)
  · exact List.mem_of_getElem? (i := 883) (by decide +kernel)
  · exact List.mem_of_getElem? (i := 876) (by decide +kernel)
  · exact List.mem_of_getElem? (i := 881) (by decide +kernel)
  · exact List.mem_of_getElem? (i := 882) (by decide +kernel)
  · exact List.mem_of_getElem? (i := 856) (by decide +kernel)
  · exact List.mem_of_getElem? (i := 857) (by decide +kernel)
  · exact List.mem_of_getElem? (i := 858) (by decide +kernel)
  · exact List.mem_of_getElem? (i := 859) (by decide +kernel)
  · exact List.mem_of_getElem? (i := 860) (by decide +kernel)
  · exact List.mem_of_getElem? (i := 865) (by decide +kernel)
  · exact List.mem_of_getElem? (i := 866) (by decide +kernel)
  · exact List.mem_of_getElem? (i := 867) (by decide +kernel)
theorem ow_u : Cond.isRef (.static "java/lang/Throwable" "UNASSIGNED_STACK" "[Ljava/lang/StackTraceElement;") ∈ flatC gvn := List.mem_of_getElem? (i := 4) (by decide +kernel)
theorem ow_v : Cond.isRef (.static "java/lang/Throwable" "SUPPRESSED_SENTINEL" "Ljava/util/List;") ∈ flatC gvn := List.mem_of_getElem? (i := 5) (by decide +kernel)
theorem ow_q : Cond.isRef (.static "jdk/internal/util/Preconditions" "SIOOBE_FORMATTER" "Ljava/util/function/BiFunction;") ∈ flatC gvn := List.mem_of_getElem? (i := 7) (by decide +kernel)
theorem ow_c : Cond.eq (.static "java/lang/String" "COMPACT_STRINGS" "Z") (.int 1) ∈ flatC gvn := List.mem_of_getElem? (i := 6) (by decide +kernel)
theorem ow_n : Cond.not (Cond.castable "java/lang/IllegalArgumentException" "java/util/NoSuchElementException") ∈ flatC gvn := List.mem_of_getElem? (i := 32) (by decide +kernel)
theorem ol_u : Cond.laysStatic "java/lang/Throwable" "UNASSIGNED_STACK" "[Ljava/lang/StackTraceElement;" ∈ lw_tbl := List.mem_of_getElem? (i := 634) (by decide +kernel)
theorem ol_v : Cond.laysStatic "java/lang/Throwable" "SUPPRESSED_SENTINEL" "Ljava/util/List;" ∈ lw_tbl := List.mem_of_getElem? (i := 636) (by decide +kernel)
theorem ol_c : Cond.laysStatic "java/lang/String" "COMPACT_STRINGS" "Z" ∈ lw_tbl := List.mem_of_getElem? (i := 724) (by decide +kernel)
theorem ol_q : Cond.laysStatic "jdk/internal/util/Preconditions" "SIOOBE_FORMATTER" "Ljava/util/function/BiFunction;" ∈ lw_tbl := List.mem_of_getElem? (i := 740) (by decide +kernel)
theorem oi_t : Cond.initialized "java/lang/Throwable" ∈ lw_tbl := List.mem_of_getElem? (i := 130) (by decide +kernel)
theorem oi_s : Cond.initialized "java/lang/String" ∈ lw_tbl := List.mem_of_getElem? (i := 135) (by decide +kernel)
theorem oi_p : Cond.initialized "jdk/internal/util/Preconditions" ∈ lw_tbl := List.mem_of_getElem? (i := 137) (by decide +kernel)
theorem nb_on {w : Cond} (h : nbw w = true) : w.onTables = true := by
  cases w <;> first | rfl | (exact absurd h (by decide)) | (simp [nbw] at h)
theorem vk_S.low {N : Nat} {len : List Nat} {byt : List (List Int32)} {adK adV adV' : Nat → Nat} {A : Nat → Prop} {U : State} {H : Heap} (h : vk_S N len byt adK adV A U H) (e : ∀ i, i < N → adV' i = adV i) : vk_S N len byt adK adV' A U H :=
  ⟨fun i hi => ⟨(h.1 i hi).1, (h.1 i hi).2.1, by rw [e i hi]; exact (h.1 i hi).2.2.1, by rw [e i hi]; exact (h.1 i hi).2.2.2⟩, h.2⟩
theorem ow_zN {A : Nat → Prop} {s : State} (h : va_Zq "jdk/internal/util/Preconditions" "SIOOBE_FORMATTER" "Ljava/util/function/BiFunction;" A s s.heap) : ∃ g, zN g A s s.heap := by
  rcases h with h | ⟨t, h⟩
  · exact ⟨0, Or.inl h⟩
  · exact ⟨t, Or.inr h⟩
theorem ow_OF {s : State} {args : Array Value} {l : Launch} (hl : l.stackTraces = false) (hts : ∀ w ∈ lw_tbl, w.before args s = true) (hgv : gvn.before args s = true) {b L : Nat} {xs : Nat → Int32} (hX : va_X b L xs s s.heap) (hb : b < s.heap.size) (D : va_G) (cy : Nat → ClassId) :
    ∃ gk gv : Nat → Nat, OF (l, D, cy, s.heap.size, gk, gv, b, L, xs) s := by
  have hs : ∀ c ∈ flatC gvn, c.before args s = true := flat_of_before _ hgv
  have hA : ∀ a : Nat, a < s.heap.size → ¬ (s.heap.size ≤ a) := fun a h => Nat.not_le.mpr h
  obtain ⟨adK, adV, hS, hE⟩ := vk_Sof (args := args) (s := s) (N := 31) (tm := tmS) (len := slen) (byt := sbyt) (A := fun q => s.heap.size ≤ q) st_sm (fun i hi => hs _ (st_ex i hi)) (fun i hi => hs _ (st_co i hi)) (fun i hi => hs _ (st_ar i hi)) (fun i hi => hs _ (st_le i hi)) (fun i hi j hj => hs _ (st_el i hi j hj)) (st_ne hs) hA
  obtain ⟨g, hg⟩ := ow_zN (va_Zqof (A := fun q => s.heap.size ≤ q) (hts _ ol_q) (hts _ oi_p) (hs _ ow_q) hA)
  refine ⟨adK, fun i => if i = 31 then g else adV i, hl, Nat.le_refl _, hb, hX, ?_, ?_, ?_, ?_, ⟨?_, ?_⟩, ?_, ?_⟩
  · exact hS.low (fun i hi => if_neg (by omega))
  · exact fun i hi => vk_R.of (hts _ (sr_in i hi)) (hE i hi)
  · exact vx_Zqof (hts _ ol_u) (hts _ oi_t) (hs _ ow_u) hA
  · exact vx_Zqof (hts _ ol_v) (hts _ oi_t) (hs _ ow_v) hA
  · exact va_Zof (hts _ ol_c) (hts _ oi_s) (va_eqt (hs _ ow_c)) hA
  · show zN (if 31 = 31 then g else adV 31) _ s s.heap
    rw [if_pos rfl]
    exact hg
  · exact va_Nc.of (hs _ ow_n)
  · intro w hw
    obtain ⟨h1, h2⟩ := List.mem_filter.mp hw
    exact va_Nw.of (nb_on h2) (hts _ h1)
