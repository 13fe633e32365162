/-! ===== texts: length and charAt of the string constants ===== -/
theorem fl_S9 : Cond.fieldLink "java/lang/String" 9 "java/lang/String" "value" "[B" ∈ TB := tb_i 2084 (by decide +kernel) rfl
theorem fl_S15 : Cond.fieldLink "java/lang/String" 15 "java/lang/String" "coder" "B" ∈ TB := tb_i 2085 (by decide +kernel) rfl
theorem fl_S38 : Cond.fieldLink "java/lang/String" 38 "java/lang/String" "COMPACT_STRINGS" "Z" ∈ TB := tb_i 723 (by decide +kernel) rfl
theorem fl_S1053 : Cond.fieldLink "java/lang/String" 1053 "jdk/internal/util/Preconditions" "SIOOBE_FORMATTER" "Ljava/util/function/BiFunction;" ∈ TB := tb_i 739 (by decide +kernel) rfl
section PTX
variable {Γ : Gm} {d mc ms : Nat} {mi : MI} {pc : Nat} {L : List (Option Value)} {st : List Value} {σ : PH} {Q : PO → PH → Prop}
theorem p_strV {i : Nat} (q : Nat) (hi : i < 31) (hq : pc + 3 = q) (ho : mO mi = "java/lang/String") (hd : decode (mC mi) pc = .ok (.getfield 9, 3)) (kk : Ok Γ d mc ms mi q L (.ref (i * 32 + 28) :: st) σ Q) : Ok Γ d mc ms mi pc L (.ref (i * 32 + 26) :: st) σ Q := by
  subst hq
  intro p e R s m args below meth c' H locs cells slots ls ρ al ρ0 al0 MC MS C hH hS hl hst hE a1 a2 a3 a4
  have hOF := C.2.2.2.2.2.2.2.2.2.1
  have hV := (hOF.2.2.2.2.1.1 i hi).2.2.1
  have go := kk p e R s m args below meth c' H locs cells slots ls ρ al ρ0 al0 MC MS C hH hS hl (lcs (fun r hr => by cases hr; exact Or.inr (by unfold kd; omega)) (ltl hst)) hE a1 a2 a3 a4
  have e0 : cv ρ (.ref (i * 32 + 26)) = .ref (gK Γ i) := by show Value.ref _ = _; rw [hH.2.2.2.2.2.1.1 i hi]
  have e1 : cv ρ (.ref (i * 32 + 28)) = .ref (gV Γ i) := by show Value.ref _ = _; rw [hH.2.2.2.2.2.1.2 i (by omega)]
  rw [List.map_cons, e1] at go
  rw [List.map_cons, e0]
  exact vk_getf C.1 C.2.1 hV hS (by have := C.2.2.2.2.1; rw [ho] at this; exact this) (C.2.2.2.2.2.1 _ fl_S9) (fun x h => h) hd go
theorem p_strC {i : Nat} (q : Nat) (hi : i < 31) (hq : pc + 3 = q) (ho : mO mi = "java/lang/String") (hd : decode (mC mi) pc = .ok (.getfield 15, 3)) (kk : Ok Γ d mc ms mi q L (.int 0 :: st) σ Q) : Ok Γ d mc ms mi pc L (.ref (i * 32 + 26) :: st) σ Q := by
  subst hq
  intro p e R s m args below meth c' H locs cells slots ls ρ al ρ0 al0 MC MS C hH hS hl hst hE a1 a2 a3 a4
  have hOF := C.2.2.2.2.2.2.2.2.2.1
  have hV := (hOF.2.2.2.2.1.1 i hi).2.1
  have go := kk p e R s m args below meth c' H locs cells slots ls ρ al ρ0 al0 MC MS C hH hS hl (lcs (lv_i _ _) (ltl hst)) hE a1 a2 a3 a4
  have e0 : cv ρ (.ref (i * 32 + 26)) = .ref (gK Γ i) := by show Value.ref _ = _; rw [hH.2.2.2.2.2.1.1 i hi]
  rw [List.map_cons, e0]
  exact vk_getf C.1 C.2.1 hV hS (by have := C.2.2.2.2.1; rw [ho] at this; exact this) (C.2.2.2.2.2.1 _ fl_S15) (fun x h => h) hd go
theorem p_strL {i : Nat} (q : Nat) (hi : i < 31) (hq : pc + 1 = q) (hd : decode (mC mi) pc = .ok (.arraylength, 1)) (kk : Ok Γ d mc ms mi q L (.int (nI (slen.getD i 0)) :: st) σ Q) : Ok Γ d mc ms mi pc L (.ref (i * 32 + 28) :: st) σ Q := by
  subst hq
  intro p e R s m args below meth c' H locs cells slots ls ρ al ρ0 al0 MC MS C hH hS hl hst hE a1 a2 a3 a4
  have hOF := C.2.2.2.2.2.2.2.2.2.1
  have hV := (hOF.2.2.2.2.1.1 i hi).2.2.2
  have go := kk p e R s m args below meth c' H locs cells slots ls ρ al ρ0 al0 MC MS C hH hS hl (lcs (lv_i _ _) (ltl hst)) hE a1 a2 a3 a4
  have e1 : cv ρ (.ref (i * 32 + 28)) = .ref (gV Γ i) := by show Value.ref _ = _; rw [hH.2.2.2.2.2.1.2 i (by omega)]
  rw [List.map_cons, e1]
  exact va_tlen C.1 C.2.1 hV hS rfl hd go
theorem p_strB {i : Nat} {k : Int32} (q : Nat) (hi : i < 31) (hin : vp_in k (slen.getD i 0)) (hq : pc + 1 = q) (hd : decode (mC mi) pc = .ok (.baload, 1)) (kk : Ok Γ d mc ms mi q L (.int ((sbyt.getD i []).getD k.toNatClampNeg 0) :: st) σ Q) : Ok Γ d mc ms mi pc L (.int k :: .ref (i * 32 + 28) :: st) σ Q := by
  subst hq
  intro p e R s m args below meth c' H locs cells slots ls ρ al ρ0 al0 MC MS C hH hS hl hst hE a1 a2 a3 a4
  have hOF := C.2.2.2.2.2.2.2.2.2.1
  have hV := (hOF.2.2.2.2.1.1 i hi).2.2.2
  have go := kk p e R s m args below meth c' H locs cells slots ls ρ al ρ0 al0 MC MS C hH hS hl (lcs (lv_i _ _) (ltl (ltl hst))) hE a1 a2 a3 a4
  have e1 : cv ρ (.ref (i * 32 + 28)) = .ref (gV Γ i) := by show Value.ref _ = _; rw [hH.2.2.2.2.2.1.2 i (by omega)]
  rw [List.map_cons, List.map_cons, e1]
  exact va_tb C.1 C.2.1 hV hS hin rfl hd go
theorem p_gZ (q : Nat) (hq : pc + 3 = q) (ho : mO mi = "java/lang/String") (hd : decode (mC mi) pc = .ok (.getstatic 38, 3)) (kk : Ok Γ d mc ms mi q L (.int 1 :: st) σ Q) : Ok Γ d mc ms mi pc L st σ Q := by
  subst hq
  intro p e R s m args below meth c' H locs cells slots ls ρ al ρ0 al0 MC MS C hH hS hl hst hE a1 a2 a3 a4
  have hOF := C.2.2.2.2.2.2.2.2.2.1
  have hV := hOF.2.2.2.2.2.2.2.2.1.1
  have go := kk p e R s m args below meth c' H locs cells slots ls ρ al ρ0 al0 MC MS C hH hS hl (lcs (lv_i _ _) hst) hE a1 a2 a3 a4
  exact va_gets C.1 C.2.1 hV hS (by have := C.2.2.2.2.1; rw [ho] at this; exact this) (C.2.2.2.2.2.1 _ fl_S38) (fun x h => h) hd go
theorem p_gQ (q : Nat) (hq : pc + 3 = q) (ho : mO mi = "java/lang/String") (hd : decode (mC mi) pc = .ok (.getstatic 1053, 3)) (kk : ∀ w : Value, (w = .null ∨ w = .ref 1020) → Ok Γ d mc ms mi q L (w :: st) σ Q) : Ok Γ d mc ms mi pc L st σ Q := by
  subst hq
  intro p e R s m args below meth c' H locs cells slots ls ρ al ρ0 al0 MC MS C hH hS hl hst hE a1 a2 a3 a4
  have hOF := C.2.2.2.2.2.2.2.2.2.1
  have hV := hOF.2.2.2.2.2.2.2.2.1.2
  rcases hV with hV | hV
  · have go := kk .null (Or.inl rfl) p e R s m args below meth c' H locs cells slots ls ρ al ρ0 al0 MC MS C hH hS hl (lcs (fun r hr => by cases hr) hst) hE a1 a2 a3 a4
    exact va_gets C.1 C.2.1 hV hS (by have := C.2.2.2.2.1; rw [ho] at this; exact this) (C.2.2.2.2.2.1 _ fl_S1053) (fun x h => h) hd go
  · have go := kk (.ref 1020) (Or.inr rfl) p e R s m args below meth c' H locs cells slots ls ρ al ρ0 al0 MC MS C hH hS hl (lcs (fun r hr => by cases hr; exact Or.inr (by decide)) hst) hE a1 a2 a3 a4
    have e1 : cv ρ (.ref 1020) = .ref (gV Γ 31) := by show Value.ref _ = _; rw [← hH.2.2.2.2.2.1.2 31 (by omega)]
    rw [List.map_cons, e1] at go
    exact va_gets C.1 C.2.1 hV hS (by have := C.2.2.2.2.1; rw [ho] at this; exact this) (C.2.2.2.2.2.1 _ fl_S1053) (fun x h => h) hd go
theorem p_callVS {idx n d1 mc1 ms1 mc2 ms2 i : Nat} {mi1 : MI} {as stk : List Value} {Q1 : PO → PH → Prop} (q : Nat) (hq : pc + 3 = q) (hd : decode (mC mi) pc = .ok (.invokevirtual idx, 3)) (hM : CallOk Γ d1 mc1 ms1 mi1 (.ref (i * 32 + 26) :: as) σ Q1) (hm : ML (mO mi) idx mi1 n) (hv : VL mi1) (hi : i < 31) (hcl : mO mi1 = "java/lang/String") (hn : as.length = n) (hstk : stk = as.reverse ++ .ref (i * 32 + 26) :: st) (hw8 : (st.map fun v => v.category).sum ≤ 8) (hdd : d1 + 1 ≤ d) (hm1 : mc1 + mc2 ≤ mc) (hm2 : ms1 + ms2 ≤ ms) (hh : mH mi = [])
    (kr : ∀ v σ', Q1 (.inl v) σ' → Ok Γ d mc2 ms2 mi q L (v.toList ++ st) σ' Q) (kt : ∀ x σ', Q1 (.inr x) σ' → Q (.inr x) σ') : Ok Γ d mc ms mi pc L stk σ Q := by
  subst hq; subst hstk
  intro p e R s m args below meth c' H locs cells slots ls ρ al ρ0 al0 MC MS C hH hS hl hst hE a1 a2 a3 a4
  have hst2 : ∀ v ∈ Value.ref (i * 32 + 26) :: as, lvv al v := fun v hv => hst v (by
    rcases List.mem_cons.mp hv with rfl | hv
    · exact List.mem_append_right _ List.mem_cons_self
    · exact List.mem_append_left _ (List.mem_reverse.mpr hv))
  have hst3 : ∀ v ∈ st, lvv al v := fun v hv => hst v (List.mem_append_right _ (List.mem_cons_of_mem _ hv))
  have hOF := C.2.2.2.2.2.2.2.2.2.1
  have hrecv := vk_recv hOF.2.2.2.2.1 hi hS
  rw [← hH.2.2.2.2.2.1.1 i hi] at hrecv
  have hrun := vx_runV (Ts := TB) (C := mO mi1) (As := as.map (cv ρ)) (b := ρ (i * 32 + 26)) (rest := st.map (cv ρ)) (locs := locs) (cells := cells) (slots := slots) (below := below) (meth := meth) (e := e) (g := F0 m pc ls ((as.reverse ++ .ref (i * 32 + 26) :: st).map (cv ρ))) ⟨C.1, C.2.1, C.2.2.2.1, C.2.2.2.2.1, C.2.2.2.2.2.1⟩ (hM ρ al hst2) ⟨ml_B C hm hdd, C.2.2.2.2.2.1 _ hv.1, C.2.2.2.2.2.1 _ hv.2⟩ ⟨blind_CallOk, by rw [hcl]; exact hrecv, pre_U C hH hS (.ref (i * 32 + 26) :: as)⟩ rfl (by simpa using hn) hl.1 (by show List.map (cv ρ) (as.reverse ++ .ref (i * 32 + 26) :: st) = _; rw [List.map_append, List.map_reverse]; rfl) (by show 2 * 0 + _ ≤ 8; rw [cat_map]; omega) hd ⟨by omega, by omega⟩
  exact run_next C hS hl hst3 hE a1 a2 a3 a4 hrun hh hm1 hm2 kr kt
theorem p_cT0i {idx d1 i : Nat} {mi1 : MI} {v : Int32} (q : Nat) (hq : pc + 3 = q) (hd : decode (mC mi) pc = .ok (.invokevirtual idx, 3)) (hM : CallOk Γ d1 0 0 mi1 [.ref (i * 32 + 26)] σ (rI σ v)) (hm : ML (mO mi) idx mi1 0) (hv : VL mi1) (hi : i < 31) (hcl : mO mi1 = "java/lang/String") (hw8 : (st.map fun v => v.category).sum ≤ 8) (hdd : d1 + 1 ≤ d) (hh : mH mi = []) (k : Ok Γ d mc ms mi q L (.int v :: st) σ Q) : Ok Γ d mc ms mi pc L (.ref (i * 32 + 26) :: st) σ Q :=
  p_callVS (as := []) (st := st) q hq hd hM hm hv hi hcl rfl rfl hw8 hdd (mc2 := mc) (ms2 := ms) (by omega) (by omega) hh (fun v0 σ1 h => by cases h.1; cases h.2; exact k) (fun x σ1 h => by cases h.1)
theorem p_cT1i {idx d1 i : Nat} {mi1 : MI} {u0 : Value} {v : Int32} (q : Nat) (hq : pc + 3 = q) (hd : decode (mC mi) pc = .ok (.invokevirtual idx, 3)) (hM : CallOk Γ d1 0 0 mi1 [.ref (i * 32 + 26), u0] σ (rI σ v)) (hm : ML (mO mi) idx mi1 1) (hv : VL mi1) (hi : i < 31) (hcl : mO mi1 = "java/lang/String") (hw8 : (st.map fun v => v.category).sum ≤ 8) (hdd : d1 + 1 ≤ d) (hh : mH mi = []) (k : Ok Γ d mc ms mi q L (.int v :: st) σ Q) : Ok Γ d mc ms mi pc L (u0 :: .ref (i * 32 + 26) :: st) σ Q :=
  p_callVS (as := [u0]) (st := st) q hq hd hM hm hv hi hcl rfl rfl hw8 hdd (mc2 := mc) (ms2 := ms) (by omega) (by omega) hh (fun v0 σ1 h => by cases h.1; cases h.2; exact k) (fun x σ1 h => by cases h.1)
end PTX
section C61
variable {Γ : Gm} {σ : PH}
/-- the letters of a constant -/
def sch (i k : Nat) : Int32 := (sbyt.getD i []).getD k 0 &&& 255
theorem c_coder {i : Nat} (hi : i < 31) : CallOk Γ 1 0 0 mJ0_coder_7d493 [.ref (i * 32 + 26)] σ (rI σ 0) := by
  refine p_enter rfl rfl (Nat.le_of_ble_eq_true rfl) rfl ?_
  refine p_gZ 3 rfl rfl dJ0_coder_7d493_0 ?_
  refine p_if_eq 13 6 rfl rfl dJ0_coder_7d493_3 (fun h => absurd h (by decide)) (fun _ => ?_)
  refine p_aload_n 0 7 rfl rfl dJ0_coder_7d493_6 rfl ?_
  refine p_strC 10 hi rfl rfl dJ0_coder_7d493_7 ?_
  refine p_goto 14 rfl dJ0_coder_7d493_10 ?_
  exact p_zret dJ0_coder_7d493_14 rfl rfl ⟨rfl, rfl⟩
theorem c_isLatin1 {i : Nat} (hi : i < 31) : CallOk Γ 1 0 0 mJ0_isLatin1_aae02 [.ref (i * 32 + 26)] σ (rI σ 1) := by
  refine p_enter rfl rfl (Nat.le_of_ble_eq_true rfl) rfl ?_
  refine p_gZ 3 rfl rfl dJ0_isLatin1_aae02_0 ?_
  refine p_if_eq 17 6 rfl rfl dJ0_isLatin1_aae02_3 (fun h => absurd h (by decide)) (fun _ => ?_)
  refine p_aload_n 0 7 rfl rfl dJ0_isLatin1_aae02_6 rfl ?_
  refine p_strC 10 hi rfl rfl dJ0_isLatin1_aae02_7 ?_
  refine p_if_ne 17 13 rfl rfl dJ0_isLatin1_aae02_10 (fun h => absurd rfl h) (fun _ => ?_)
  refine p_iconst (1) 14 rfl dJ0_isLatin1_aae02_13 rfl ?_
  refine p_goto 18 rfl dJ0_isLatin1_aae02_14 ?_
  exact p_zret dJ0_isLatin1_aae02_18 rfl rfl ⟨rfl, rfl⟩
theorem slen_lt : ∀ i, i < 31 → slen.getD i 0 < 100 := by decide +kernel
theorem c_strlen {i : Nat} (hi : i < 31) : CallOk Γ 2 0 0 mJ0_length_8abf5 [.ref (i * 32 + 26)] σ (rI σ (nI (slen.getD i 0))) := by
  refine p_enter rfl rfl (Nat.le_of_ble_eq_true rfl) rfl ?_
  refine p_aload_n 0 1 rfl rfl dJ0_length_8abf5_0 rfl ?_
  refine p_strV 4 hi rfl rfl dJ0_length_8abf5_1 ?_
  refine p_strL 5 hi rfl dJ0_length_8abf5_4 ?_
  refine p_aload_n 0 6 rfl rfl dJ0_length_8abf5_5 rfl ?_
  refine p_cT0i 9 rfl dJ0_length_8abf5_6 (c_coder hi) ml_J0_335 vl_J0_coder_7d493 hi rfl (Nat.le_of_ble_eq_true rfl) (Nat.le_of_ble_eq_true rfl) rfl ?_
  refine p_ishr 10 rfl dJ0_length_8abf5_9 ?_
  have := slen_lt i hi
  exact p_iret dJ0_length_8abf5_10 rfl ⟨by rw [sc_shr0 (by omega)], rfl⟩
theorem c_chkP {k n : Nat} {w : Value} (hk : k < n) (hn : n < 1000) (hw : w = .null ∨ w = .ref 1020) : CallOk Γ 1 0 0 mJ3_checkIndex_8e157 [.int (nI k), .int (nI n), w] σ (rI σ (nI k)) := by
  rcases hw with rfl | rfl
  · refine p_enter rfl rfl (Nat.le_of_ble_eq_true rfl) rfl ?_
    refine p_iload_n 0 1 rfl rfl dJ3_checkIndex_8e157_0 rfl ?_
    refine p_if_lt 9 4 rfl rfl dJ3_checkIndex_8e157_1 (fun h => absurd h (nI_pos (by omega))) (fun _ => ?_)
    refine p_iload_n 0 5 rfl rfl dJ3_checkIndex_8e157_4 rfl ?_
    refine p_iload_n 1 6 rfl rfl dJ3_checkIndex_8e157_5 rfl ?_
    refine p_icmp_lt 16 9 rfl rfl dJ3_checkIndex_8e157_6 (fun _ => ?_) (fun h => absurd (nI_lt hk (by omega)) h)
    refine p_iload_n 0 17 rfl rfl dJ3_checkIndex_8e157_16 rfl ?_
    exact p_iret dJ3_checkIndex_8e157_17 rfl ⟨rfl, rfl⟩
  · refine p_enter rfl rfl (Nat.le_of_ble_eq_true rfl) rfl ?_
    refine p_iload_n 0 1 rfl rfl dJ3_checkIndex_8e157_0 rfl ?_
    refine p_if_lt 9 4 rfl rfl dJ3_checkIndex_8e157_1 (fun h => absurd h (nI_pos (by omega))) (fun _ => ?_)
    refine p_iload_n 0 5 rfl rfl dJ3_checkIndex_8e157_4 rfl ?_
    refine p_iload_n 1 6 rfl rfl dJ3_checkIndex_8e157_5 rfl ?_
    refine p_icmp_lt 16 9 rfl rfl dJ3_checkIndex_8e157_6 (fun _ => ?_) (fun h => absurd (nI_lt hk (by omega)) h)
    refine p_iload_n 0 17 rfl rfl dJ3_checkIndex_8e157_16 rfl ?_
    exact p_iret dJ3_checkIndex_8e157_17 rfl ⟨rfl, rfl⟩
theorem c_chkS {k n : Nat} (hk : k < n) (hn : n < 1000) : CallOk Γ 2 0 0 mJ0_checkIndex_df160 [.int (nI k), .int (nI n)] σ (rV (fun σ' => σ' = σ)) := by
  refine p_enter rfl rfl (Nat.le_of_ble_eq_true rfl) rfl ?_
  refine p_iload_n 0 1 rfl rfl dJ0_checkIndex_df160_0 rfl ?_
  refine p_iload_n 1 2 rfl rfl dJ0_checkIndex_df160_1 rfl ?_
  refine p_gQ 5 rfl rfl dJ0_checkIndex_df160_2 (fun w hw => ?_)
  refine p_cS3i 8 rfl dJ0_checkIndex_df160_5 (c_chkP hk hn hw) ml_J0_1059 sl_J3_checkIndex_8e157 (Nat.le_of_ble_eq_true rfl) (Nat.le_of_ble_eq_true rfl) rfl ?_
  refine p_pop 9 rfl dJ0_checkIndex_df160_8 rfl ?_
  exact p_vret dJ0_checkIndex_df160_9 rfl ⟨rfl, rfl⟩
theorem c_chL {i k : Nat} (hi : i < 31) (hk : k < slen.getD i 0) : CallOk Γ 3 0 0 mJ1_charAt_3b067 [.ref (i * 32 + 28), .int (nI k)] σ (rI σ (sch i k)) := by
  have hl := slen_lt i hi
  refine p_enter rfl rfl (Nat.le_of_ble_eq_true rfl) rfl ?_
  refine p_iload_n 1 1 rfl rfl dJ1_charAt_3b067_0 rfl ?_
  refine p_aload_n 0 2 rfl rfl dJ1_charAt_3b067_1 rfl ?_
  refine p_strL 3 hi rfl dJ1_charAt_3b067_2 ?_
  refine p_cS2v 0 0 6 rfl dJ1_charAt_3b067_3 (c_chkS hk (by omega)) ml_J1_9 sl_J0_checkIndex_df160 (Nat.le_of_ble_eq_true rfl) (Nat.le_of_ble_eq_true rfl) (Nat.le_of_ble_eq_true rfl) (Nat.le_of_ble_eq_true rfl) rfl ?_
  rintro σ1 rfl
  refine p_aload_n 0 7 rfl rfl dJ1_charAt_3b067_6 rfl ?_
  refine p_iload_n 1 8 rfl rfl dJ1_charAt_3b067_7 rfl ?_
  refine p_strB 9 hi (vp_in_nI hk (by omega)) rfl dJ1_charAt_3b067_8 ?_
  refine p_sipush (255) 12 rfl dJ1_charAt_3b067_9 rfl ?_
  refine p_iand 13 rfl dJ1_charAt_3b067_12 ?_
  refine p_i2c 14 rfl dJ1_charAt_3b067_13 ?_
  rw [sc_c2, nI_clamp (by omega)]
  exact p_zret dJ1_charAt_3b067_14 rfl (sc_nar _) ⟨rfl, rfl⟩
theorem c_charAt {i k : Nat} (hi : i < 31) (hk : k < slen.getD i 0) : CallOk Γ 4 0 0 mJ0_charAt_5068e [.ref (i * 32 + 26), .int (nI k)] σ (rI σ (sch i k)) := by
  refine p_enter rfl rfl (Nat.le_of_ble_eq_true rfl) rfl ?_
  refine p_aload_n 0 1 rfl rfl dJ0_charAt_5068e_0 rfl ?_
  refine p_cT0i 4 rfl dJ0_charAt_5068e_1 (c_isLatin1 hi) ml_J0_492 vl_J0_isLatin1_aae02 hi rfl (Nat.le_of_ble_eq_true rfl) (Nat.le_of_ble_eq_true rfl) rfl ?_
  refine p_if_eq 16 7 rfl rfl dJ0_charAt_5068e_4 (fun h => absurd h (by decide)) (fun _ => ?_)
  refine p_aload_n 0 8 rfl rfl dJ0_charAt_5068e_7 rfl ?_
  refine p_strV 11 hi rfl rfl dJ0_charAt_5068e_8 ?_
  refine p_iload_n 1 12 rfl rfl dJ0_charAt_5068e_11 rfl ?_
  refine p_cS2i 15 rfl dJ0_charAt_5068e_12 (c_chL hi hk) ml_J0_495 sl_J1_charAt_3b067 (Nat.le_of_ble_eq_true rfl) (Nat.le_of_ble_eq_true rfl) rfl ?_
  exact p_zret dJ0_charAt_5068e_15 rfl (sc_nar _) ⟨rfl, rfl⟩
/-- Arrays.fill with 0: the first n places -/
def f0 (f : Nat → Int32) (v : Int32) (n : Nat) : Nat → Int32 := fun i => if i < n then v else f i
end C61
