/-! ===== the law: one op each ===== -/
def mL_law : MI := (RL, "law", "([I)Z", cL_law, 7, (some .boolean), [])
def rLw : PO → PH → Prop := fun o _ => o = .inl (some (.int 1))
theorem gd_le {b : Bool} {k m : Nat} {r : Nat × Int32} (hr : r.1 ≤ m) (hk : k ≤ m) : (gd b k r).1 ≤ m := by
  unfold gd; split
  · exact hr
  · exact hk
theorem hL_sL (σ : PH) (r i : Nat) (v : Int64) : hL (sL σ r i v) r i = v := by
  show va_up (hL σ) r (vp_updL (hL σ r) i v) r i = v
  rw [va_ups]; unfold vp_updL; simp
section Cb7
variable {Γ : Gm} {σ : PH} {n i : Nat} {A : AT} {x5 x6 : Option Value}
set_option maxRecDepth 8000 in
theorem g_0 (hi : i + 6 ≤ gL Γ) (hL3 : gL Γ ≤ 384) (hB : BO σ A) (kk : ∀ (σ' : PH) (A' : AT) (x5 x6 : Option Value), BO σ' A' → Ok Γ 60 (8 * n) (48 * n) mL_law 2707 [some (.ref 27), some (.ref T0), some (.ref M0), some (.ref oL0), some (.int (nI i)), x5, x6] [] σ' rLw) : Ok Γ 60 (8 * n + 8) (48 * n + 48) mL_law 228 [some (.ref 27), some (.ref T0), some (.ref M0), some (.ref oL0), some (.int (nI i)), x5, x6] [] σ rLw := by
  obtain ⟨⟨o, o2, hI⟩, hR⟩ := hB
  have hz : (fFeed A).1 = 0 := by rfl
  refine p_aload_n 1 229 rfl rfl dL_law_228 rfl ?_
  refine p_aload_n 0 230 rfl rfl dL_law_229 rfl ?_
  refine p_iload 4 232 rfl dL_law_230 rfl ?_
  refine p_iconst (1) 233 rfl dL_law_232 rfl ?_
  refine p_iadd 234 rfl dL_law_233 ?_
  rw [show nI i + 1 = nI (i + 1) from nI_add _ 1]
  refine p_sld 235 rfl dL_law_234 (vp_in_nI (by omega) (by omega)) ?_
  refine p_aload_n 0 236 rfl rfl dL_law_235 rfl ?_
  refine p_iload 4 238 rfl dL_law_236 rfl ?_
  refine p_iconst (2) 239 rfl dL_law_238 rfl ?_
  refine p_iadd 240 rfl dL_law_239 ?_
  rw [show nI i + 2 = nI (i + 2) from nI_add _ 2]
  refine p_sld 241 rfl dL_law_240 (vp_in_nI (by omega) (by omega)) ?_
  refine p_aload_n 0 242 rfl rfl dL_law_241 rfl ?_
  refine p_iload 4 244 rfl dL_law_242 rfl ?_
  refine p_iconst (3) 245 rfl dL_law_244 rfl ?_
  refine p_iadd 246 rfl dL_law_245 ?_
  rw [show nI i + 3 = nI (i + 3) from nI_add _ 3]
  refine p_sld 247 rfl dL_law_246 (vp_in_nI (by omega) (by omega)) ?_
  refine p_aload_n 0 248 rfl rfl dL_law_247 rfl ?_
  refine p_iload 4 250 rfl dL_law_248 rfl ?_
  refine p_iconst (4) 251 rfl dL_law_250 rfl ?_
  refine p_iadd 252 rfl dL_law_251 ?_
  rw [show nI i + 4 = nI (i + 4) from nI_add _ 4]
  refine p_sld 253 rfl dL_law_252 (vp_in_nI (by omega) (by omega)) ?_
  refine p_aload_n 0 254 rfl rfl dL_law_253 rfl ?_
  refine p_iload 4 256 rfl dL_law_254 rfl ?_
  refine p_iconst (5) 257 rfl dL_law_256 rfl ?_
  refine p_iadd 258 rfl dL_law_257 ?_
  rw [show nI i + 5 = nI (i + 5) from nI_add _ 5]
  refine p_sld 259 rfl dL_law_258 (vp_in_nI (by omega) (by omega)) ?_
  refine p_callV (as := [.int (gx Γ (nI (i + 1)).toNatClampNeg), .int (gx Γ (nI (i + 2)).toNatClampNeg), .int (gx Γ (nI (i + 3)).toNatClampNeg), .int (gx Γ (nI (i + 4)).toNatClampNeg), .int (gx Γ (nI (i + 5)).toNatClampNeg)]) (st := []) (mc2 := 8 * n) (ms2 := 48 * n) 262 rfl dL_law_259 (t_feed hI (gx Γ (nI (i + 1)).toNatClampNeg) (gx Γ (nI (i + 2)).toNatClampNeg) (gx Γ (nI (i + 3)).toNatClampNeg) (gx Γ (nI (i + 4)).toNatClampNeg) (gx Γ (nI (i + 5)).toNatClampNeg)) ml_L_127 vl_X8_feed rfl (by decide) rfl rfl rfl (Nat.le_of_ble_eq_true rfl) (Nat.le_of_ble_eq_true rfl) (by omega) (by omega) rfl (fun v σ1 h => ?_) (fun x σ' h => by have he := h.1; rw [if_pos hz] at he; cases he)
  obtain ⟨he, hI1, hC1⟩ := h
  rw [if_pos hz] at he
  injection he with he
  subst he
  have hR1 := hR.c hC1
  refine p_aload_n 2 263 rfl rfl dL_law_262 rfl ?_
  refine p_aload_n 0 264 rfl rfl dL_law_263 rfl ?_
  refine p_iload 4 266 rfl dL_law_264 rfl ?_
  refine p_iconst (1) 267 rfl dL_law_266 rfl ?_
  refine p_iadd 268 rfl dL_law_267 ?_
  rw [show nI i + 1 = nI (i + 1) from nI_add _ 1]
  refine p_sld 269 rfl dL_law_268 (vp_in_nI (by omega) (by omega)) ?_
  refine p_aload_n 0 270 rfl rfl dL_law_269 rfl ?_
  refine p_iload 4 272 rfl dL_law_270 rfl ?_
  refine p_iconst (2) 273 rfl dL_law_272 rfl ?_
  refine p_iadd 274 rfl dL_law_273 ?_
  rw [show nI i + 2 = nI (i + 2) from nI_add _ 2]
  refine p_sld 275 rfl dL_law_274 (vp_in_nI (by omega) (by omega)) ?_
  refine p_aload_n 0 276 rfl rfl dL_law_275 rfl ?_
  refine p_iload 4 278 rfl dL_law_276 rfl ?_
  refine p_iconst (3) 279 rfl dL_law_278 rfl ?_
  refine p_iadd 280 rfl dL_law_279 ?_
  rw [show nI i + 3 = nI (i + 3) from nI_add _ 3]
  refine p_sld 281 rfl dL_law_280 (vp_in_nI (by omega) (by omega)) ?_
  refine p_aload_n 0 282 rfl rfl dL_law_281 rfl ?_
  refine p_iload 4 284 rfl dL_law_282 rfl ?_
  refine p_iconst (4) 285 rfl dL_law_284 rfl ?_
  refine p_iadd 286 rfl dL_law_285 ?_
  rw [show nI i + 4 = nI (i + 4) from nI_add _ 4]
  refine p_sld 287 rfl dL_law_286 (vp_in_nI (by omega) (by omega)) ?_
  refine p_aload_n 0 288 rfl rfl dL_law_287 rfl ?_
  refine p_iload 4 290 rfl dL_law_288 rfl ?_
  refine p_iconst (5) 291 rfl dL_law_290 rfl ?_
  refine p_iadd 292 rfl dL_law_291 ?_
  rw [show nI i + 5 = nI (i + 5) from nI_add _ 5]
  refine p_sld 293 rfl dL_law_292 (vp_in_nI (by omega) (by omega)) ?_
  refine p_callV (as := [.int (gx Γ (nI (i + 1)).toNatClampNeg), .int (gx Γ (nI (i + 2)).toNatClampNeg), .int (gx Γ (nI (i + 3)).toNatClampNeg), .int (gx Γ (nI (i + 4)).toNatClampNeg), .int (gx Γ (nI (i + 5)).toNatClampNeg)]) (st := [.int (fFeed A).2]) (mc2 := 8 * n) (ms2 := 48 * n) 296 rfl dL_law_293 (q_feed hR1 (gx Γ (nI (i + 1)).toNatClampNeg) (gx Γ (nI (i + 2)).toNatClampNeg) (gx Γ (nI (i + 3)).toNatClampNeg) (gx Γ (nI (i + 4)).toNatClampNeg) (gx Γ (nI (i + 5)).toNatClampNeg) hI1.2.1) ml_L_131 vl_X9_feed rfl (by decide) rfl rfl rfl (Nat.le_of_ble_eq_true rfl) (Nat.le_of_ble_eq_true rfl) (by omega) (by omega) rfl (fun v σ2 h => ?_) (fun x σ' h => by obtain ⟨_, h, _⟩ := h; cases h)
  obtain ⟨v0, he, hth, hv, hR2, hC2⟩ := h
  injection he with he
  subst he
  have hI2 := hI1.m hC2
  refine p_icmp_eq 2707 299 rfl rfl dL_law_296 (fun _ => ?_) (fun h => absurd (hv hz).symm h)
  exact kk _ _ _ _ ⟨⟨_, _, hI2⟩, hR2⟩
set_option maxRecDepth 8000 in
theorem g_1 (hi : i + 6 ≤ gL Γ) (hL3 : gL Γ ≤ 384) (hB : BO σ A) (kk : ∀ (σ' : PH) (A' : AT) (x5 x6 : Option Value), BO σ' A' → Ok Γ 60 (8 * n) (48 * n) mL_law 2707 [some (.ref 27), some (.ref T0), some (.ref M0), some (.ref oL0), some (.int (nI i)), x5, x6] [] σ' rLw) : Ok Γ 60 (8 * n + 8) (48 * n + 48) mL_law 301 [some (.ref 27), some (.ref T0), some (.ref M0), some (.ref oL0), some (.int (nI i)), x5, x6] [] σ rLw := by
  obtain ⟨⟨o, o2, hI⟩, hR⟩ := hB
  refine p_aload_n 1 302 rfl rfl dL_law_301 rfl ?_
  refine p_aload_n 0 303 rfl rfl dL_law_302 rfl ?_
  refine p_iload 4 305 rfl dL_law_303 rfl ?_
  refine p_iconst (1) 306 rfl dL_law_305 rfl ?_
  refine p_iadd 307 rfl dL_law_306 ?_
  rw [show nI i + 1 = nI (i + 1) from nI_add _ 1]
  refine p_sld 308 rfl dL_law_307 (vp_in_nI (by omega) (by omega)) ?_
  refine p_aload_n 3 309 rfl rfl dL_law_308 rfl ?_
  obtain ⟨nn, hM⟩ := t_office (Γ := Γ) hI (gx Γ (nI (i + 1)).toNatClampNeg)
  have hle : (fOff A nn (gx Γ (nI (i + 1)).toNatClampNeg)).1 ≤ 1 := by
    unfold fOff; repeat (first | exact Nat.zero_le _ | refine gd_le ?_ (by decide))
  refine p_callSH (as := [.ref T0, .int (gx Γ (nI (i + 1)).toNatClampNeg), .ref oL0]) (st := []) (mc2 := 8 * n) (ms2 := 48 * n) 312 rfl dL_law_309 (w_office (gx Γ (nI (i + 1)).toNatClampNeg) hle hM) (fun x σ' h => by cases h.1) mh_L_132 sl_L_office rfl rfl (Nat.le_of_ble_eq_true rfl) (Nat.le_of_ble_eq_true rfl) (by omega) (by omega) (fun v σ1 h => ?_)
  obtain ⟨he, σ0, ⟨o1, o3, A1, hI0, hN0, hC0⟩, hs⟩ := h
  injection he with he
  subst he
  have hI1 : IT σ1 o1 o3 A1 := by
    rcases hs with ⟨_, e⟩ | ⟨_, e⟩
    · rw [e]; exact hI0.sl
    · rw [e]; exact hI0
  have hR1 : RM σ1 A := by
    rcases hs with ⟨_, e⟩ | ⟨_, e⟩
    · rw [e]; exact (hR.c hC0).sl
    · rw [e]; exact hR.c hC0
  refine p_ist_5 314 rfl dL_law_312 (Nat.le_of_ble_eq_true rfl) rfl ?_
  refine p_aload_n 2 315 rfl rfl dL_law_314 rfl ?_
  refine p_aload_n 0 316 rfl rfl dL_law_315 rfl ?_
  refine p_iload 4 318 rfl dL_law_316 rfl ?_
  refine p_iconst (1) 319 rfl dL_law_318 rfl ?_
  refine p_iadd 320 rfl dL_law_319 ?_
  rw [show nI i + 1 = nI (i + 1) from nI_add _ 1]
  refine p_sld 321 rfl dL_law_320 (vp_in_nI (by omega) (by omega)) ?_
  refine p_callV (as := [.int (gx Γ (nI (i + 1)).toNatClampNeg)]) (st := []) (mc2 := 8 * n) (ms2 := 48 * n) 324 rfl dL_law_321 (q_office hR1 nn (gx Γ (nI (i + 1)).toNatClampNeg)) ml_L_137 vl_X9_office rfl (by decide) rfl rfl rfl (Nat.le_of_ble_eq_true rfl) (Nat.le_of_ble_eq_true rfl) (by omega) (by omega) rfl (fun v σ2 h => ?_) (fun x σ' h => by obtain ⟨_, h, _⟩ := h; cases h)
  obtain ⟨v0, he, hth, hv, hR2, hC2⟩ := h
  injection he with he
  subst he
  have hI2 := hI1.m hC2
  have hR2 := hR2 A1 hI1.2.1 hN0
  refine p_ist_6 326 rfl dL_law_324 (Nat.le_of_ble_eq_true rfl) rfl ?_
  refine p_aload_n 2 327 rfl rfl dL_law_326 rfl ?_
  refine p_cV0i 330 rfl dL_law_327 c_thrown ml_L_138 vl_X9_thrown rfl (by decide) rfl (Nat.le_of_ble_eq_true rfl) (Nat.le_of_ble_eq_true rfl) rfl ?_
  rw [hth]
  refine p_iload 5 332 rfl dL_law_330 rfl ?_
  refine p_icmp_eq 337 335 rfl rfl dL_law_332 (fun _ => ?_) (fun h => absurd rfl h)
  refine p_iload 5 339 rfl dL_law_337 rfl ?_
  refine p_if_ne 354 342 rfl rfl dL_law_339 (fun hne => ?_) (fun h0 => ?_)
  · refine p_goto 2707 rfl dL_law_354 ?_
    exact kk _ _ _ _ ⟨⟨_, _, hI2⟩, hR2⟩
  · have hs0 : (fOff A nn (gx Γ (nI (i + 1)).toNatClampNeg)).1 = 0 := nI_eqI (show nI _ = nI 0 from h0) (by omega) (by decide)
    refine p_aload_n 3 343 rfl rfl dL_law_342 rfl ?_
    refine p_iconst (0) 344 rfl dL_law_343 rfl ?_
    refine p_lald 345 rfl dL_law_344 rfl in_o ?_
    refine p_iload 6 347 rfl dL_law_345 rfl ?_
    refine p_i2l 348 rfl dL_law_347 ?_
    refine p_lcmp 349 rfl dL_law_348 ?_
    refine p_if_eq 354 352 rfl rfl dL_law_349 (fun _ => ?_) (fun h => absurd ((lg_cmp_eq _ _).mpr ?_) h)
    · refine p_goto 2707 rfl dL_law_354 ?_
      exact kk _ _ _ _ ⟨⟨_, _, hI2⟩, hR2⟩
    · rw [hC2.2.1, hv hs0]
      rcases hs with ⟨_, e⟩ | ⟨e, _⟩
      · rw [e]; exact hL_sL _ _ _ _
      · exact absurd hs0 e
set_option maxRecDepth 8000 in
theorem g_2 (hi : i + 6 ≤ gL Γ) (hL3 : gL Γ ≤ 384) (hB : BO σ A) (kk : ∀ (σ' : PH) (A' : AT) (x5 x6 : Option Value), BO σ' A' → Ok Γ 60 (8 * n) (48 * n) mL_law 2707 [some (.ref 27), some (.ref T0), some (.ref M0), some (.ref oL0), some (.int (nI i)), x5, x6] [] σ' rLw) : Ok Γ 60 (8 * n + 8) (48 * n + 48) mL_law 357 [some (.ref 27), some (.ref T0), some (.ref M0), some (.ref oL0), some (.int (nI i)), x5, x6] [] σ rLw := by
  obtain ⟨⟨o, o2, hI⟩, hR⟩ := hB
  have hz : ((0, tF A) : Nat × Int32).1 = 0 := by rfl
  refine p_aload_n 1 358 rfl rfl dL_law_357 rfl ?_
  refine p_callV (as := []) (st := []) (mc2 := 8 * n) (ms2 := 48 * n) 361 rfl dL_law_358 (t_fault hI ) ml_L_142 vl_X8_fault rfl (by decide) rfl rfl rfl (Nat.le_of_ble_eq_true rfl) (Nat.le_of_ble_eq_true rfl) (by omega) (by omega) rfl (fun v σ1 h => ?_) (fun x σ' h => by have he := h.1; rw [if_pos hz] at he; cases he)
  obtain ⟨he, hI1, hC1⟩ := h
  rw [if_pos hz] at he
  injection he with he
  subst he
  have hR1 := hR.c hC1
  refine p_aload_n 2 362 rfl rfl dL_law_361 rfl ?_
  refine p_callV (as := []) (st := [.int ((0, tF A) : Nat × Int32).2]) (mc2 := 8 * n) (ms2 := 48 * n) 365 rfl dL_law_362 (q_fault hR1 ) ml_L_145 vl_X9_fault rfl (by decide) rfl rfl rfl (Nat.le_of_ble_eq_true rfl) (Nat.le_of_ble_eq_true rfl) (by omega) (by omega) rfl (fun v σ2 h => ?_) (fun x σ' h => by obtain ⟨_, h, _⟩ := h; cases h)
  obtain ⟨v0, he, hth, hv, hR2, hC2⟩ := h
  injection he with he
  subst he
  have hI2 := hI1.m hC2
  refine p_icmp_eq 2707 368 rfl rfl dL_law_365 (fun _ => ?_) (fun h => absurd (hv hz).symm h)
  exact kk _ _ _ _ ⟨⟨_, _, hI2⟩, hR2⟩
set_option maxRecDepth 8000 in
theorem g_3 (hi : i + 6 ≤ gL Γ) (hL3 : gL Γ ≤ 384) (hB : BO σ A) (kk : ∀ (σ' : PH) (A' : AT) (x5 x6 : Option Value), BO σ' A' → Ok Γ 60 (8 * n) (48 * n) mL_law 2707 [some (.ref 27), some (.ref T0), some (.ref M0), some (.ref oL0), some (.int (nI i)), x5, x6] [] σ' rLw) : Ok Γ 60 (8 * n + 8) (48 * n + 48) mL_law 370 [some (.ref 27), some (.ref T0), some (.ref M0), some (.ref oL0), some (.int (nI i)), x5, x6] [] σ rLw := by
  obtain ⟨⟨o, o2, hI⟩, hR⟩ := hB
  refine p_aload_n 1 371 rfl rfl dL_law_370 rfl ?_
  refine p_aload_n 0 372 rfl rfl dL_law_371 rfl ?_
  refine p_iload 4 374 rfl dL_law_372 rfl ?_
  refine p_iconst (1) 375 rfl dL_law_374 rfl ?_
  refine p_iadd 376 rfl dL_law_375 ?_
  rw [show nI i + 1 = nI (i + 1) from nI_add _ 1]
  refine p_sld 377 rfl dL_law_376 (vp_in_nI (by omega) (by omega)) ?_
  refine p_aload_n 3 378 rfl rfl dL_law_377 rfl ?_
  have hle : (fCount A (gx Γ (nI (i + 1)).toNatClampNeg)).1 ≤ 1 := by
    unfold fCount; repeat (first | exact Nat.zero_le _ | refine gd_le ?_ (by decide))
  refine p_callSH (as := [.ref T0, .int (gx Γ (nI (i + 1)).toNatClampNeg), .ref oL0]) (st := []) (mc2 := 8 * n) (ms2 := 48 * n) 381 rfl dL_law_378 (w_count (gx Γ (nI (i + 1)).toNatClampNeg) hle (t_count hI (gx Γ (nI (i + 1)).toNatClampNeg))) (fun x σ' h => by cases h.1) mh_L_146 sl_L_count rfl rfl (Nat.le_of_ble_eq_true rfl) (Nat.le_of_ble_eq_true rfl) (by omega) (by omega) (fun v σ1 h => ?_)
  obtain ⟨he, σ0, ⟨hI0, hC0⟩, hs⟩ := h
  injection he with he
  subst he
  have hI1 : IT σ1 o o2 A := by
    rcases hs with ⟨_, e⟩ | ⟨_, e⟩
    · rw [e]; exact hI0.sl
    · rw [e]; exact hI0
  have hR1 : RM σ1 A := by
    rcases hs with ⟨_, e⟩ | ⟨_, e⟩
    · rw [e]; exact (hR.c hC0).sl
    · rw [e]; exact hR.c hC0
  refine p_ist_5 383 rfl dL_law_381 (Nat.le_of_ble_eq_true rfl) rfl ?_
  refine p_aload_n 2 384 rfl rfl dL_law_383 rfl ?_
  refine p_aload_n 0 385 rfl rfl dL_law_384 rfl ?_
  refine p_iload 4 387 rfl dL_law_385 rfl ?_
  refine p_iconst (1) 388 rfl dL_law_387 rfl ?_
  refine p_iadd 389 rfl dL_law_388 ?_
  rw [show nI i + 1 = nI (i + 1) from nI_add _ 1]
  refine p_sld 390 rfl dL_law_389 (vp_in_nI (by omega) (by omega)) ?_
  refine p_callV (as := [.int (gx Γ (nI (i + 1)).toNatClampNeg)]) (st := []) (mc2 := 8 * n) (ms2 := 48 * n) 393 rfl dL_law_390 (q_count hR1 (gx Γ (nI (i + 1)).toNatClampNeg)) ml_L_148 vl_X9_count rfl (by decide) rfl rfl rfl (Nat.le_of_ble_eq_true rfl) (Nat.le_of_ble_eq_true rfl) (by omega) (by omega) rfl (fun v σ2 h => ?_) (fun x σ' h => by obtain ⟨_, h, _⟩ := h; cases h)
  obtain ⟨v0, he, hth, hv, hR2, hC2⟩ := h
  injection he with he
  subst he
  have hI2 := hI1.m hC2
  refine p_ist_6 395 rfl dL_law_393 (Nat.le_of_ble_eq_true rfl) rfl ?_
  refine p_aload_n 2 396 rfl rfl dL_law_395 rfl ?_
  refine p_cV0i 399 rfl dL_law_396 c_thrown ml_L_138 vl_X9_thrown rfl (by decide) rfl (Nat.le_of_ble_eq_true rfl) (Nat.le_of_ble_eq_true rfl) rfl ?_
  rw [hth]
  refine p_iload 5 401 rfl dL_law_399 rfl ?_
  refine p_icmp_eq 406 404 rfl rfl dL_law_401 (fun _ => ?_) (fun h => absurd rfl h)
  refine p_iload 5 408 rfl dL_law_406 rfl ?_
  refine p_if_ne 423 411 rfl rfl dL_law_408 (fun hne => ?_) (fun h0 => ?_)
  · refine p_goto 2707 rfl dL_law_423 ?_
    exact kk _ _ _ _ ⟨⟨_, _, hI2⟩, hR2⟩
  · have hs0 : (fCount A (gx Γ (nI (i + 1)).toNatClampNeg)).1 = 0 := nI_eqI (show nI _ = nI 0 from h0) (by omega) (by decide)
    refine p_aload_n 3 412 rfl rfl dL_law_411 rfl ?_
    refine p_iconst (0) 413 rfl dL_law_412 rfl ?_
    refine p_lald 414 rfl dL_law_413 rfl in_o ?_
    refine p_iload 6 416 rfl dL_law_414 rfl ?_
    refine p_i2l 417 rfl dL_law_416 ?_
    refine p_lcmp 418 rfl dL_law_417 ?_
    refine p_if_eq 423 421 rfl rfl dL_law_418 (fun _ => ?_) (fun h => absurd ((lg_cmp_eq _ _).mpr ?_) h)
    · refine p_goto 2707 rfl dL_law_423 ?_
      exact kk _ _ _ _ ⟨⟨_, _, hI2⟩, hR2⟩
    · rw [hC2.2.1, hv hs0]
      rcases hs with ⟨_, e⟩ | ⟨e, _⟩
      · rw [e]; exact hL_sL _ _ _ _
      · exact absurd hs0 e
set_option maxRecDepth 8000 in
theorem g_4 (hi : i + 6 ≤ gL Γ) (hL3 : gL Γ ≤ 384) (hB : BO σ A) (kk : ∀ (σ' : PH) (A' : AT) (x5 x6 : Option Value), BO σ' A' → Ok Γ 60 (8 * n) (48 * n) mL_law 2707 [some (.ref 27), some (.ref T0), some (.ref M0), some (.ref oL0), some (.int (nI i)), x5, x6] [] σ' rLw) : Ok Γ 60 (8 * n + 8) (48 * n + 48) mL_law 426 [some (.ref 27), some (.ref T0), some (.ref M0), some (.ref oL0), some (.int (nI i)), x5, x6] [] σ rLw := by
  obtain ⟨⟨o, o2, hI⟩, hR⟩ := hB
  refine p_aload_n 1 427 rfl rfl dL_law_426 rfl ?_
  refine p_aload_n 0 428 rfl rfl dL_law_427 rfl ?_
  refine p_iload 4 430 rfl dL_law_428 rfl ?_
  refine p_iconst (1) 431 rfl dL_law_430 rfl ?_
  refine p_iadd 432 rfl dL_law_431 ?_
  rw [show nI i + 1 = nI (i + 1) from nI_add _ 1]
  refine p_sld 433 rfl dL_law_432 (vp_in_nI (by omega) (by omega)) ?_
  refine p_aload_n 0 434 rfl rfl dL_law_433 rfl ?_
  refine p_iload 4 436 rfl dL_law_434 rfl ?_
  refine p_iconst (2) 437 rfl dL_law_436 rfl ?_
  refine p_iadd 438 rfl dL_law_437 ?_
  rw [show nI i + 2 = nI (i + 2) from nI_add _ 2]
  refine p_sld 439 rfl dL_law_438 (vp_in_nI (by omega) (by omega)) ?_
  refine p_aload_n 3 440 rfl rfl dL_law_439 rfl ?_
  have hle : (fSheet A (gx Γ (nI (i + 1)).toNatClampNeg) (gx Γ (nI (i + 2)).toNatClampNeg)).1 ≤ 1 := by
    unfold fSheet; repeat (first | exact Nat.zero_le _ | refine gd_le ?_ (by decide))
  refine p_callSH (as := [.ref T0, .int (gx Γ (nI (i + 1)).toNatClampNeg), .int (gx Γ (nI (i + 2)).toNatClampNeg), .ref oL0]) (st := []) (mc2 := 8 * n) (ms2 := 48 * n) 443 rfl dL_law_440 (w_sheet (gx Γ (nI (i + 1)).toNatClampNeg) (gx Γ (nI (i + 2)).toNatClampNeg) hle (t_sheet hI (gx Γ (nI (i + 1)).toNatClampNeg) (gx Γ (nI (i + 2)).toNatClampNeg))) (fun x σ' h => by cases h.1) mh_L_149 sl_L_sheet rfl rfl (Nat.le_of_ble_eq_true rfl) (Nat.le_of_ble_eq_true rfl) (by omega) (by omega) (fun v σ1 h => ?_)
  obtain ⟨he, σ0, ⟨hI0, hC0⟩, hs⟩ := h
  injection he with he
  subst he
  have hI1 : IT σ1 o o2 A := by
    rcases hs with ⟨_, e⟩ | ⟨_, e⟩
    · rw [e]; exact hI0.sl
    · rw [e]; exact hI0
  have hR1 : RM σ1 A := by
    rcases hs with ⟨_, e⟩ | ⟨_, e⟩
    · rw [e]; exact (hR.c hC0).sl
    · rw [e]; exact hR.c hC0
  refine p_ist_5 445 rfl dL_law_443 (Nat.le_of_ble_eq_true rfl) rfl ?_
  refine p_aload_n 2 446 rfl rfl dL_law_445 rfl ?_
  refine p_aload_n 0 447 rfl rfl dL_law_446 rfl ?_
  refine p_iload 4 449 rfl dL_law_447 rfl ?_
  refine p_iconst (1) 450 rfl dL_law_449 rfl ?_
  refine p_iadd 451 rfl dL_law_450 ?_
  rw [show nI i + 1 = nI (i + 1) from nI_add _ 1]
  refine p_sld 452 rfl dL_law_451 (vp_in_nI (by omega) (by omega)) ?_
  refine p_aload_n 0 453 rfl rfl dL_law_452 rfl ?_
  refine p_iload 4 455 rfl dL_law_453 rfl ?_
  refine p_iconst (2) 456 rfl dL_law_455 rfl ?_
  refine p_iadd 457 rfl dL_law_456 ?_
  rw [show nI i + 2 = nI (i + 2) from nI_add _ 2]
  refine p_sld 458 rfl dL_law_457 (vp_in_nI (by omega) (by omega)) ?_
  refine p_callV (as := [.int (gx Γ (nI (i + 1)).toNatClampNeg), .int (gx Γ (nI (i + 2)).toNatClampNeg)]) (st := []) (mc2 := 8 * n) (ms2 := 48 * n) 461 rfl dL_law_458 (q_sheet hR1 (gx Γ (nI (i + 1)).toNatClampNeg) (gx Γ (nI (i + 2)).toNatClampNeg)) ml_L_152 vl_X9_sheet rfl (by decide) rfl rfl rfl (Nat.le_of_ble_eq_true rfl) (Nat.le_of_ble_eq_true rfl) (by omega) (by omega) rfl (fun v σ2 h => ?_) (fun x σ' h => by obtain ⟨_, h, _⟩ := h; cases h)
  obtain ⟨v0, he, hth, hv, hR2, hC2⟩ := h
  injection he with he
  subst he
  have hI2 := hI1.m hC2
  refine p_ist_6 463 rfl dL_law_461 (Nat.le_of_ble_eq_true rfl) rfl ?_
  refine p_aload_n 2 464 rfl rfl dL_law_463 rfl ?_
  refine p_cV0i 467 rfl dL_law_464 c_thrown ml_L_138 vl_X9_thrown rfl (by decide) rfl (Nat.le_of_ble_eq_true rfl) (Nat.le_of_ble_eq_true rfl) rfl ?_
  rw [hth]
  refine p_iload 5 469 rfl dL_law_467 rfl ?_
  refine p_icmp_eq 474 472 rfl rfl dL_law_469 (fun _ => ?_) (fun h => absurd rfl h)
  refine p_iload 5 476 rfl dL_law_474 rfl ?_
  refine p_if_ne 491 479 rfl rfl dL_law_476 (fun hne => ?_) (fun h0 => ?_)
  · refine p_goto 2707 rfl dL_law_491 ?_
    exact kk _ _ _ _ ⟨⟨_, _, hI2⟩, hR2⟩
  · have hs0 : (fSheet A (gx Γ (nI (i + 1)).toNatClampNeg) (gx Γ (nI (i + 2)).toNatClampNeg)).1 = 0 := nI_eqI (show nI _ = nI 0 from h0) (by omega) (by decide)
    refine p_aload_n 3 480 rfl rfl dL_law_479 rfl ?_
    refine p_iconst (0) 481 rfl dL_law_480 rfl ?_
    refine p_lald 482 rfl dL_law_481 rfl in_o ?_
    refine p_iload 6 484 rfl dL_law_482 rfl ?_
    refine p_i2l 485 rfl dL_law_484 ?_
    refine p_lcmp 486 rfl dL_law_485 ?_
    refine p_if_eq 491 489 rfl rfl dL_law_486 (fun _ => ?_) (fun h => absurd ((lg_cmp_eq _ _).mpr ?_) h)
    · refine p_goto 2707 rfl dL_law_491 ?_
      exact kk _ _ _ _ ⟨⟨_, _, hI2⟩, hR2⟩
    · rw [hC2.2.1, hv hs0]
      rcases hs with ⟨_, e⟩ | ⟨e, _⟩
      · rw [e]; exact hL_sL _ _ _ _
      · exact absurd hs0 e
set_option maxRecDepth 8000 in
theorem g_5 (hi : i + 6 ≤ gL Γ) (hL3 : gL Γ ≤ 384) (hB : BO σ A) (kk : ∀ (σ' : PH) (A' : AT) (x5 x6 : Option Value), BO σ' A' → Ok Γ 60 (8 * n) (48 * n) mL_law 2707 [some (.ref 27), some (.ref T0), some (.ref M0), some (.ref oL0), some (.int (nI i)), x5, x6] [] σ' rLw) : Ok Γ 60 (8 * n + 8) (48 * n + 48) mL_law 494 [some (.ref 27), some (.ref T0), some (.ref M0), some (.ref oL0), some (.int (nI i)), x5, x6] [] σ rLw := by
  obtain ⟨⟨o, o2, hI⟩, hR⟩ := hB
  refine p_aload_n 1 495 rfl rfl dL_law_494 rfl ?_
  refine p_aload_n 0 496 rfl rfl dL_law_495 rfl ?_
  refine p_iload 4 498 rfl dL_law_496 rfl ?_
  refine p_iconst (1) 499 rfl dL_law_498 rfl ?_
  refine p_iadd 500 rfl dL_law_499 ?_
  rw [show nI i + 1 = nI (i + 1) from nI_add _ 1]
  refine p_sld 501 rfl dL_law_500 (vp_in_nI (by omega) (by omega)) ?_
  refine p_aload_n 0 502 rfl rfl dL_law_501 rfl ?_
  refine p_iload 4 504 rfl dL_law_502 rfl ?_
  refine p_iconst (2) 505 rfl dL_law_504 rfl ?_
  refine p_iadd 506 rfl dL_law_505 ?_
  rw [show nI i + 2 = nI (i + 2) from nI_add _ 2]
  refine p_sld 507 rfl dL_law_506 (vp_in_nI (by omega) (by omega)) ?_
  refine p_aload_n 3 508 rfl rfl dL_law_507 rfl ?_
  have hle : (fClerk A (gx Γ (nI (i + 1)).toNatClampNeg) (gx Γ (nI (i + 2)).toNatClampNeg)).1 ≤ 1 := by
    unfold fClerk; repeat (first | exact Nat.zero_le _ | refine gd_le ?_ (by decide))
  refine p_callSH (as := [.ref T0, .int (gx Γ (nI (i + 1)).toNatClampNeg), .int (gx Γ (nI (i + 2)).toNatClampNeg), .ref oL0]) (st := []) (mc2 := 8 * n) (ms2 := 48 * n) 511 rfl dL_law_508 (w_clerk (gx Γ (nI (i + 1)).toNatClampNeg) (gx Γ (nI (i + 2)).toNatClampNeg) hle (t_clerk hI (gx Γ (nI (i + 1)).toNatClampNeg) (gx Γ (nI (i + 2)).toNatClampNeg))) (fun x σ' h => by cases h.1) mh_L_153 sl_L_clerk rfl rfl (Nat.le_of_ble_eq_true rfl) (Nat.le_of_ble_eq_true rfl) (by omega) (by omega) (fun v σ1 h => ?_)
  obtain ⟨he, σ0, ⟨hI0, hC0⟩, hs⟩ := h
  injection he with he
  subst he
  have hI1 : IT σ1 o o2 A := by
    rcases hs with ⟨_, e⟩ | ⟨_, e⟩
    · rw [e]; exact hI0.sl
    · rw [e]; exact hI0
  have hR1 : RM σ1 A := by
    rcases hs with ⟨_, e⟩ | ⟨_, e⟩
    · rw [e]; exact (hR.c hC0).sl
    · rw [e]; exact hR.c hC0
  refine p_ist_5 513 rfl dL_law_511 (Nat.le_of_ble_eq_true rfl) rfl ?_
  refine p_aload_n 2 514 rfl rfl dL_law_513 rfl ?_
  refine p_aload_n 0 515 rfl rfl dL_law_514 rfl ?_
  refine p_iload 4 517 rfl dL_law_515 rfl ?_
  refine p_iconst (1) 518 rfl dL_law_517 rfl ?_
  refine p_iadd 519 rfl dL_law_518 ?_
  rw [show nI i + 1 = nI (i + 1) from nI_add _ 1]
  refine p_sld 520 rfl dL_law_519 (vp_in_nI (by omega) (by omega)) ?_
  refine p_aload_n 0 521 rfl rfl dL_law_520 rfl ?_
  refine p_iload 4 523 rfl dL_law_521 rfl ?_
  refine p_iconst (2) 524 rfl dL_law_523 rfl ?_
  refine p_iadd 525 rfl dL_law_524 ?_
  rw [show nI i + 2 = nI (i + 2) from nI_add _ 2]
  refine p_sld 526 rfl dL_law_525 (vp_in_nI (by omega) (by omega)) ?_
  refine p_callV (as := [.int (gx Γ (nI (i + 1)).toNatClampNeg), .int (gx Γ (nI (i + 2)).toNatClampNeg)]) (st := []) (mc2 := 8 * n) (ms2 := 48 * n) 529 rfl dL_law_526 (q_clerk hR1 (gx Γ (nI (i + 1)).toNatClampNeg) (gx Γ (nI (i + 2)).toNatClampNeg)) ml_L_155 vl_X9_clerk rfl (by decide) rfl rfl rfl (Nat.le_of_ble_eq_true rfl) (Nat.le_of_ble_eq_true rfl) (by omega) (by omega) rfl (fun v σ2 h => ?_) (fun x σ' h => by obtain ⟨_, h, _⟩ := h; cases h)
  obtain ⟨v0, he, hth, hv, hR2, hC2⟩ := h
  injection he with he
  subst he
  have hI2 := hI1.m hC2
  refine p_ist_6 531 rfl dL_law_529 (Nat.le_of_ble_eq_true rfl) rfl ?_
  refine p_aload_n 2 532 rfl rfl dL_law_531 rfl ?_
  refine p_cV0i 535 rfl dL_law_532 c_thrown ml_L_138 vl_X9_thrown rfl (by decide) rfl (Nat.le_of_ble_eq_true rfl) (Nat.le_of_ble_eq_true rfl) rfl ?_
  rw [hth]
  refine p_iload 5 537 rfl dL_law_535 rfl ?_
  refine p_icmp_eq 542 540 rfl rfl dL_law_537 (fun _ => ?_) (fun h => absurd rfl h)
  refine p_iload 5 544 rfl dL_law_542 rfl ?_
  refine p_if_ne 559 547 rfl rfl dL_law_544 (fun hne => ?_) (fun h0 => ?_)
  · refine p_goto 2707 rfl dL_law_559 ?_
    exact kk _ _ _ _ ⟨⟨_, _, hI2⟩, hR2⟩
  · have hs0 : (fClerk A (gx Γ (nI (i + 1)).toNatClampNeg) (gx Γ (nI (i + 2)).toNatClampNeg)).1 = 0 := nI_eqI (show nI _ = nI 0 from h0) (by omega) (by decide)
    refine p_aload_n 3 548 rfl rfl dL_law_547 rfl ?_
    refine p_iconst (0) 549 rfl dL_law_548 rfl ?_
    refine p_lald 550 rfl dL_law_549 rfl in_o ?_
    refine p_iload 6 552 rfl dL_law_550 rfl ?_
    refine p_i2l 553 rfl dL_law_552 ?_
    refine p_lcmp 554 rfl dL_law_553 ?_
    refine p_if_eq 559 557 rfl rfl dL_law_554 (fun _ => ?_) (fun h => absurd ((lg_cmp_eq _ _).mpr ?_) h)
    · refine p_goto 2707 rfl dL_law_559 ?_
      exact kk _ _ _ _ ⟨⟨_, _, hI2⟩, hR2⟩
    · rw [hC2.2.1, hv hs0]
      rcases hs with ⟨_, e⟩ | ⟨e, _⟩
      · rw [e]; exact hL_sL _ _ _ _
      · exact absurd hs0 e
set_option maxRecDepth 8000 in
theorem g_6 (hi : i + 6 ≤ gL Γ) (hL3 : gL Γ ≤ 384) (hB : BO σ A) (kk : ∀ (σ' : PH) (A' : AT) (x5 x6 : Option Value), BO σ' A' → Ok Γ 60 (8 * n) (48 * n) mL_law 2707 [some (.ref 27), some (.ref T0), some (.ref M0), some (.ref oL0), some (.int (nI i)), x5, x6] [] σ' rLw) : Ok Γ 60 (8 * n + 8) (48 * n + 48) mL_law 562 [some (.ref 27), some (.ref T0), some (.ref M0), some (.ref oL0), some (.int (nI i)), x5, x6] [] σ rLw := by
  obtain ⟨⟨o, o2, hI⟩, hR⟩ := hB
  refine p_aload_n 1 563 rfl rfl dL_law_562 rfl ?_
  refine p_aload_n 0 564 rfl rfl dL_law_563 rfl ?_
  refine p_iload 4 566 rfl dL_law_564 rfl ?_
  refine p_iconst (1) 567 rfl dL_law_566 rfl ?_
  refine p_iadd 568 rfl dL_law_567 ?_
  rw [show nI i + 1 = nI (i + 1) from nI_add _ 1]
  refine p_sld 569 rfl dL_law_568 (vp_in_nI (by omega) (by omega)) ?_
  refine p_aload_n 0 570 rfl rfl dL_law_569 rfl ?_
  refine p_iload 4 572 rfl dL_law_570 rfl ?_
  refine p_iconst (2) 573 rfl dL_law_572 rfl ?_
  refine p_iadd 574 rfl dL_law_573 ?_
  rw [show nI i + 2 = nI (i + 2) from nI_add _ 2]
  refine p_sld 575 rfl dL_law_574 (vp_in_nI (by omega) (by omega)) ?_
  refine p_aload_n 3 576 rfl rfl dL_law_575 rfl ?_
  have hle : (fWord A (gx Γ (nI (i + 1)).toNatClampNeg) (gx Γ (nI (i + 2)).toNatClampNeg)).1 ≤ 1 := by
    unfold fWord; repeat (first | exact Nat.zero_le _ | refine gd_le ?_ (by decide))
  refine p_callSH (as := [.ref T0, .int (gx Γ (nI (i + 1)).toNatClampNeg), .int (gx Γ (nI (i + 2)).toNatClampNeg), .ref oL0]) (st := []) (mc2 := 8 * n) (ms2 := 48 * n) 579 rfl dL_law_576 (w_word (gx Γ (nI (i + 1)).toNatClampNeg) (gx Γ (nI (i + 2)).toNatClampNeg) hle (t_word hI (gx Γ (nI (i + 1)).toNatClampNeg) (gx Γ (nI (i + 2)).toNatClampNeg))) (fun x σ' h => by cases h.1) mh_L_156 sl_L_word rfl rfl (Nat.le_of_ble_eq_true rfl) (Nat.le_of_ble_eq_true rfl) (by omega) (by omega) (fun v σ1 h => ?_)
  obtain ⟨he, σ0, ⟨hI0, hC0⟩, hs⟩ := h
  injection he with he
  subst he
  have hI1 : IT σ1 o o2 A := by
    rcases hs with ⟨_, e⟩ | ⟨_, e⟩
    · rw [e]; exact hI0.sl
    · rw [e]; exact hI0
  have hR1 : RM σ1 A := by
    rcases hs with ⟨_, e⟩ | ⟨_, e⟩
    · rw [e]; exact (hR.c hC0).sl
    · rw [e]; exact hR.c hC0
  refine p_ist_5 581 rfl dL_law_579 (Nat.le_of_ble_eq_true rfl) rfl ?_
  refine p_aload_n 2 582 rfl rfl dL_law_581 rfl ?_
  refine p_aload_n 0 583 rfl rfl dL_law_582 rfl ?_
  refine p_iload 4 585 rfl dL_law_583 rfl ?_
  refine p_iconst (1) 586 rfl dL_law_585 rfl ?_
  refine p_iadd 587 rfl dL_law_586 ?_
  rw [show nI i + 1 = nI (i + 1) from nI_add _ 1]
  refine p_sld 588 rfl dL_law_587 (vp_in_nI (by omega) (by omega)) ?_
  refine p_aload_n 0 589 rfl rfl dL_law_588 rfl ?_
  refine p_iload 4 591 rfl dL_law_589 rfl ?_
  refine p_iconst (2) 592 rfl dL_law_591 rfl ?_
  refine p_iadd 593 rfl dL_law_592 ?_
  rw [show nI i + 2 = nI (i + 2) from nI_add _ 2]
  refine p_sld 594 rfl dL_law_593 (vp_in_nI (by omega) (by omega)) ?_
  refine p_callV (as := [.int (gx Γ (nI (i + 1)).toNatClampNeg), .int (gx Γ (nI (i + 2)).toNatClampNeg)]) (st := []) (mc2 := 8 * n) (ms2 := 48 * n) 597 rfl dL_law_594 (q_word hR1 (gx Γ (nI (i + 1)).toNatClampNeg) (gx Γ (nI (i + 2)).toNatClampNeg)) ml_L_158 vl_X9_word rfl (by decide) rfl rfl rfl (Nat.le_of_ble_eq_true rfl) (Nat.le_of_ble_eq_true rfl) (by omega) (by omega) rfl (fun v σ2 h => ?_) (fun x σ' h => by obtain ⟨_, h, _⟩ := h; cases h)
  obtain ⟨v0, he, hth, hv, hR2, hC2⟩ := h
  injection he with he
  subst he
  have hI2 := hI1.m hC2
  refine p_ist_6 599 rfl dL_law_597 (Nat.le_of_ble_eq_true rfl) rfl ?_
  refine p_aload_n 2 600 rfl rfl dL_law_599 rfl ?_
  refine p_cV0i 603 rfl dL_law_600 c_thrown ml_L_138 vl_X9_thrown rfl (by decide) rfl (Nat.le_of_ble_eq_true rfl) (Nat.le_of_ble_eq_true rfl) rfl ?_
  rw [hth]
  refine p_iload 5 605 rfl dL_law_603 rfl ?_
  refine p_icmp_eq 610 608 rfl rfl dL_law_605 (fun _ => ?_) (fun h => absurd rfl h)
  refine p_iload 5 612 rfl dL_law_610 rfl ?_
  refine p_if_ne 627 615 rfl rfl dL_law_612 (fun hne => ?_) (fun h0 => ?_)
  · refine p_goto 2707 rfl dL_law_627 ?_
    exact kk _ _ _ _ ⟨⟨_, _, hI2⟩, hR2⟩
  · have hs0 : (fWord A (gx Γ (nI (i + 1)).toNatClampNeg) (gx Γ (nI (i + 2)).toNatClampNeg)).1 = 0 := nI_eqI (show nI _ = nI 0 from h0) (by omega) (by decide)
    refine p_aload_n 3 616 rfl rfl dL_law_615 rfl ?_
    refine p_iconst (0) 617 rfl dL_law_616 rfl ?_
    refine p_lald 618 rfl dL_law_617 rfl in_o ?_
    refine p_iload 6 620 rfl dL_law_618 rfl ?_
    refine p_i2l 621 rfl dL_law_620 ?_
    refine p_lcmp 622 rfl dL_law_621 ?_
    refine p_if_eq 627 625 rfl rfl dL_law_622 (fun _ => ?_) (fun h => absurd ((lg_cmp_eq _ _).mpr ?_) h)
    · refine p_goto 2707 rfl dL_law_627 ?_
      exact kk _ _ _ _ ⟨⟨_, _, hI2⟩, hR2⟩
    · rw [hC2.2.1, hv hs0]
      rcases hs with ⟨_, e⟩ | ⟨e, _⟩
      · rw [e]; exact hL_sL _ _ _ _
      · exact absurd hs0 e
set_option maxRecDepth 8000 in
theorem g_7 (hi : i + 6 ≤ gL Γ) (hL3 : gL Γ ≤ 384) (hB : BO σ A) (kk : ∀ (σ' : PH) (A' : AT) (x5 x6 : Option Value), BO σ' A' → Ok Γ 60 (8 * n) (48 * n) mL_law 2707 [some (.ref 27), some (.ref T0), some (.ref M0), some (.ref oL0), some (.int (nI i)), x5, x6] [] σ' rLw) : Ok Γ 60 (8 * n + 8) (48 * n + 48) mL_law 630 [some (.ref 27), some (.ref T0), some (.ref M0), some (.ref oL0), some (.int (nI i)), x5, x6] [] σ rLw := by
  obtain ⟨⟨o, o2, hI⟩, hR⟩ := hB
  refine p_aload_n 1 631 rfl rfl dL_law_630 rfl ?_
  refine p_aload_n 0 632 rfl rfl dL_law_631 rfl ?_
  refine p_iload 4 634 rfl dL_law_632 rfl ?_
  refine p_iconst (1) 635 rfl dL_law_634 rfl ?_
  refine p_iadd 636 rfl dL_law_635 ?_
  rw [show nI i + 1 = nI (i + 1) from nI_add _ 1]
  refine p_sld 637 rfl dL_law_636 (vp_in_nI (by omega) (by omega)) ?_
  refine p_aload_n 0 638 rfl rfl dL_law_637 rfl ?_
  refine p_iload 4 640 rfl dL_law_638 rfl ?_
  refine p_iconst (2) 641 rfl dL_law_640 rfl ?_
  refine p_iadd 642 rfl dL_law_641 ?_
  rw [show nI i + 2 = nI (i + 2) from nI_add _ 2]
  refine p_sld 643 rfl dL_law_642 (vp_in_nI (by omega) (by omega)) ?_
  refine p_aload_n 3 644 rfl rfl dL_law_643 rfl ?_
  have hle : (fTown A (gx Γ (nI (i + 1)).toNatClampNeg) (gx Γ (nI (i + 2)).toNatClampNeg)).1 ≤ 1 := by
    unfold fTown; repeat (first | exact Nat.zero_le _ | refine gd_le ?_ (by decide))
  refine p_callSH (as := [.ref T0, .int (gx Γ (nI (i + 1)).toNatClampNeg), .int (gx Γ (nI (i + 2)).toNatClampNeg), .ref oL0]) (st := []) (mc2 := 8 * n) (ms2 := 48 * n) 647 rfl dL_law_644 (w_town (gx Γ (nI (i + 1)).toNatClampNeg) (gx Γ (nI (i + 2)).toNatClampNeg) hle (t_town hI (gx Γ (nI (i + 1)).toNatClampNeg) (gx Γ (nI (i + 2)).toNatClampNeg))) (fun x σ' h => by cases h.1) mh_L_159 sl_L_town rfl rfl (Nat.le_of_ble_eq_true rfl) (Nat.le_of_ble_eq_true rfl) (by omega) (by omega) (fun v σ1 h => ?_)
  obtain ⟨he, σ0, ⟨hI0, hC0⟩, hs⟩ := h
  injection he with he
  subst he
  have hI1 : IT σ1 o o2 A := by
    rcases hs with ⟨_, e⟩ | ⟨_, e⟩
    · rw [e]; exact hI0.sl
    · rw [e]; exact hI0
  have hR1 : RM σ1 A := by
    rcases hs with ⟨_, e⟩ | ⟨_, e⟩
    · rw [e]; exact (hR.c hC0).sl
    · rw [e]; exact hR.c hC0
  refine p_ist_5 649 rfl dL_law_647 (Nat.le_of_ble_eq_true rfl) rfl ?_
  refine p_aload_n 2 650 rfl rfl dL_law_649 rfl ?_
  refine p_aload_n 0 651 rfl rfl dL_law_650 rfl ?_
  refine p_iload 4 653 rfl dL_law_651 rfl ?_
  refine p_iconst (1) 654 rfl dL_law_653 rfl ?_
  refine p_iadd 655 rfl dL_law_654 ?_
  rw [show nI i + 1 = nI (i + 1) from nI_add _ 1]
  refine p_sld 656 rfl dL_law_655 (vp_in_nI (by omega) (by omega)) ?_
  refine p_aload_n 0 657 rfl rfl dL_law_656 rfl ?_
  refine p_iload 4 659 rfl dL_law_657 rfl ?_
  refine p_iconst (2) 660 rfl dL_law_659 rfl ?_
  refine p_iadd 661 rfl dL_law_660 ?_
  rw [show nI i + 2 = nI (i + 2) from nI_add _ 2]
  refine p_sld 662 rfl dL_law_661 (vp_in_nI (by omega) (by omega)) ?_
  refine p_callV (as := [.int (gx Γ (nI (i + 1)).toNatClampNeg), .int (gx Γ (nI (i + 2)).toNatClampNeg)]) (st := []) (mc2 := 8 * n) (ms2 := 48 * n) 665 rfl dL_law_662 (q_town hR1 (gx Γ (nI (i + 1)).toNatClampNeg) (gx Γ (nI (i + 2)).toNatClampNeg)) ml_L_161 vl_X9_town rfl (by decide) rfl rfl rfl (Nat.le_of_ble_eq_true rfl) (Nat.le_of_ble_eq_true rfl) (by omega) (by omega) rfl (fun v σ2 h => ?_) (fun x σ' h => by obtain ⟨_, h, _⟩ := h; cases h)
  obtain ⟨v0, he, hth, hv, hR2, hC2⟩ := h
  injection he with he
  subst he
  have hI2 := hI1.m hC2
  refine p_ist_6 667 rfl dL_law_665 (Nat.le_of_ble_eq_true rfl) rfl ?_
  refine p_aload_n 2 668 rfl rfl dL_law_667 rfl ?_
  refine p_cV0i 671 rfl dL_law_668 c_thrown ml_L_138 vl_X9_thrown rfl (by decide) rfl (Nat.le_of_ble_eq_true rfl) (Nat.le_of_ble_eq_true rfl) rfl ?_
  rw [hth]
  refine p_iload 5 673 rfl dL_law_671 rfl ?_
  refine p_icmp_eq 678 676 rfl rfl dL_law_673 (fun _ => ?_) (fun h => absurd rfl h)
  refine p_iload 5 680 rfl dL_law_678 rfl ?_
  refine p_if_ne 695 683 rfl rfl dL_law_680 (fun hne => ?_) (fun h0 => ?_)
  · refine p_goto 2707 rfl dL_law_695 ?_
    exact kk _ _ _ _ ⟨⟨_, _, hI2⟩, hR2⟩
  · have hs0 : (fTown A (gx Γ (nI (i + 1)).toNatClampNeg) (gx Γ (nI (i + 2)).toNatClampNeg)).1 = 0 := nI_eqI (show nI _ = nI 0 from h0) (by omega) (by decide)
    refine p_aload_n 3 684 rfl rfl dL_law_683 rfl ?_
    refine p_iconst (0) 685 rfl dL_law_684 rfl ?_
    refine p_lald 686 rfl dL_law_685 rfl in_o ?_
    refine p_iload 6 688 rfl dL_law_686 rfl ?_
    refine p_i2l 689 rfl dL_law_688 ?_
    refine p_lcmp 690 rfl dL_law_689 ?_
    refine p_if_eq 695 693 rfl rfl dL_law_690 (fun _ => ?_) (fun h => absurd ((lg_cmp_eq _ _).mpr ?_) h)
    · refine p_goto 2707 rfl dL_law_695 ?_
      exact kk _ _ _ _ ⟨⟨_, _, hI2⟩, hR2⟩
    · rw [hC2.2.1, hv hs0]
      rcases hs with ⟨_, e⟩ | ⟨e, _⟩
      · rw [e]; exact hL_sL _ _ _ _
      · exact absurd hs0 e
set_option maxRecDepth 8000 in
theorem g_8 (hi : i + 6 ≤ gL Γ) (hL3 : gL Γ ≤ 384) (hB : BO σ A) (kk : ∀ (σ' : PH) (A' : AT) (x5 x6 : Option Value), BO σ' A' → Ok Γ 60 (8 * n) (48 * n) mL_law 2707 [some (.ref 27), some (.ref T0), some (.ref M0), some (.ref oL0), some (.int (nI i)), x5, x6] [] σ' rLw) : Ok Γ 60 (8 * n + 8) (48 * n + 48) mL_law 698 [some (.ref 27), some (.ref T0), some (.ref M0), some (.ref oL0), some (.int (nI i)), x5, x6] [] σ rLw := by
  obtain ⟨⟨o, o2, hI⟩, hR⟩ := hB
  have hz : (fDays A (gx Γ (nI (i + 1)).toNatClampNeg)).1 = 0 := by unfold fDays; split <;> rfl
  refine p_aload_n 1 699 rfl rfl dL_law_698 rfl ?_
  refine p_aload_n 0 700 rfl rfl dL_law_699 rfl ?_
  refine p_iload 4 702 rfl dL_law_700 rfl ?_
  refine p_iconst (1) 703 rfl dL_law_702 rfl ?_
  refine p_iadd 704 rfl dL_law_703 ?_
  rw [show nI i + 1 = nI (i + 1) from nI_add _ 1]
  refine p_sld 705 rfl dL_law_704 (vp_in_nI (by omega) (by omega)) ?_
  refine p_callV (as := [.int (gx Γ (nI (i + 1)).toNatClampNeg)]) (st := []) (mc2 := 8 * n) (ms2 := 48 * n) 708 rfl dL_law_705 (t_days hI (gx Γ (nI (i + 1)).toNatClampNeg)) ml_L_162 vl_X8_days rfl (by decide) rfl rfl rfl (Nat.le_of_ble_eq_true rfl) (Nat.le_of_ble_eq_true rfl) (by omega) (by omega) rfl (fun v σ1 h => ?_) (fun x σ' h => by have he := h.1; rw [if_pos hz] at he; cases he)
  obtain ⟨he, hI1, hC1⟩ := h
  rw [if_pos hz] at he
  injection he with he
  subst he
  have hR1 := hR.c hC1
  refine p_aload_n 2 709 rfl rfl dL_law_708 rfl ?_
  refine p_aload_n 0 710 rfl rfl dL_law_709 rfl ?_
  refine p_iload 4 712 rfl dL_law_710 rfl ?_
  refine p_iconst (1) 713 rfl dL_law_712 rfl ?_
  refine p_iadd 714 rfl dL_law_713 ?_
  rw [show nI i + 1 = nI (i + 1) from nI_add _ 1]
  refine p_sld 715 rfl dL_law_714 (vp_in_nI (by omega) (by omega)) ?_
  refine p_callV (as := [.int (gx Γ (nI (i + 1)).toNatClampNeg)]) (st := [.int (fDays A (gx Γ (nI (i + 1)).toNatClampNeg)).2]) (mc2 := 8 * n) (ms2 := 48 * n) 718 rfl dL_law_715 (q_days hR1 (gx Γ (nI (i + 1)).toNatClampNeg) hI1.2.1) ml_L_165 vl_X9_days rfl (by decide) rfl rfl rfl (Nat.le_of_ble_eq_true rfl) (Nat.le_of_ble_eq_true rfl) (by omega) (by omega) rfl (fun v σ2 h => ?_) (fun x σ' h => by obtain ⟨_, h, _⟩ := h; cases h)
  obtain ⟨v0, he, hth, hv, hR2, hC2⟩ := h
  injection he with he
  subst he
  have hI2 := hI1.m hC2
  refine p_icmp_eq 2707 721 rfl rfl dL_law_718 (fun _ => ?_) (fun h => absurd (hv hz).symm h)
  exact kk _ _ _ _ ⟨⟨_, _, hI2⟩, hR2⟩
set_option maxRecDepth 8000 in
theorem g_9 (hi : i + 6 ≤ gL Γ) (hL3 : gL Γ ≤ 384) (hB : BO σ A) (kk : ∀ (σ' : PH) (A' : AT) (x5 x6 : Option Value), BO σ' A' → Ok Γ 60 (8 * n) (48 * n) mL_law 2707 [some (.ref 27), some (.ref T0), some (.ref M0), some (.ref oL0), some (.int (nI i)), x5, x6] [] σ' rLw) : Ok Γ 60 (8 * n + 8) (48 * n + 48) mL_law 723 [some (.ref 27), some (.ref T0), some (.ref M0), some (.ref oL0), some (.int (nI i)), x5, x6] [] σ rLw := by
  obtain ⟨⟨o, o2, hI⟩, hR⟩ := hB
  refine p_aload_n 1 724 rfl rfl dL_law_723 rfl ?_
  refine p_aload_n 0 725 rfl rfl dL_law_724 rfl ?_
  refine p_iload 4 727 rfl dL_law_725 rfl ?_
  refine p_iconst (1) 728 rfl dL_law_727 rfl ?_
  refine p_iadd 729 rfl dL_law_728 ?_
  rw [show nI i + 1 = nI (i + 1) from nI_add _ 1]
  refine p_sld 730 rfl dL_law_729 (vp_in_nI (by omega) (by omega)) ?_
  refine p_aload_n 0 731 rfl rfl dL_law_730 rfl ?_
  refine p_iload 4 733 rfl dL_law_731 rfl ?_
  refine p_iconst (2) 734 rfl dL_law_733 rfl ?_
  refine p_iadd 735 rfl dL_law_734 ?_
  rw [show nI i + 2 = nI (i + 2) from nI_add _ 2]
  refine p_sld 736 rfl dL_law_735 (vp_in_nI (by omega) (by omega)) ?_
  refine p_aload_n 3 737 rfl rfl dL_law_736 rfl ?_
  have hle : (fTake A (gx Γ (nI (i + 1)).toNatClampNeg) (gx Γ (nI (i + 2)).toNatClampNeg)).1 ≤ 1 := by
    unfold fTake; repeat (first | exact Nat.zero_le _ | refine gd_le ?_ (by decide))
  have hb : (fTake A (gx Γ (nI (i + 1)).toNatClampNeg) (gx Γ (nI (i + 2)).toNatClampNeg)).2 = 0 ∨ (fTake A (gx Γ (nI (i + 1)).toNatClampNeg) (gx Γ (nI (i + 2)).toNatClampNeg)).2 = 1 := by
    unfold fTake gd; repeat' split
    · generalize (vP (tV A) _ == _) = b
      cases b
      · exact Or.inl rfl
      · exact Or.inr rfl
    · exact Or.inl rfl
    · exact Or.inl rfl
  refine p_callSH (as := [.ref T0, .int (gx Γ (nI (i + 1)).toNatClampNeg), .int (gx Γ (nI (i + 2)).toNatClampNeg), .ref oL0]) (st := []) (mc2 := 8 * n) (ms2 := 48 * n) 740 rfl dL_law_737 (w_take (gx Γ (nI (i + 1)).toNatClampNeg) (gx Γ (nI (i + 2)).toNatClampNeg) hle hb (t_take hI (gx Γ (nI (i + 1)).toNatClampNeg) (gx Γ (nI (i + 2)).toNatClampNeg))) (fun x σ' h => by cases h.1) mh_L_166 sl_L_take rfl rfl (Nat.le_of_ble_eq_true rfl) (Nat.le_of_ble_eq_true rfl) (by omega) (by omega) (fun v σ1 h => ?_)
  obtain ⟨he, σ0, ⟨hI0, hC0⟩, hs⟩ := h
  injection he with he
  subst he
  have hI1 : IT σ1 o o2 (nTake A (gx Γ (nI (i + 1)).toNatClampNeg) (gx Γ (nI (i + 2)).toNatClampNeg)) := by
    rcases hs with ⟨_, e⟩ | ⟨_, e⟩
    · rw [e]; exact hI0.sl
    · rw [e]; exact hI0
  have hR1 : RM σ1 A := by
    rcases hs with ⟨_, e⟩ | ⟨_, e⟩
    · rw [e]; exact (hR.c hC0).sl
    · rw [e]; exact hR.c hC0
  refine p_ist_5 742 rfl dL_law_740 (Nat.le_of_ble_eq_true rfl) rfl ?_
  refine p_aload_n 2 743 rfl rfl dL_law_742 rfl ?_
  refine p_aload_n 0 744 rfl rfl dL_law_743 rfl ?_
  refine p_iload 4 746 rfl dL_law_744 rfl ?_
  refine p_iconst (1) 747 rfl dL_law_746 rfl ?_
  refine p_iadd 748 rfl dL_law_747 ?_
  rw [show nI i + 1 = nI (i + 1) from nI_add _ 1]
  refine p_sld 749 rfl dL_law_748 (vp_in_nI (by omega) (by omega)) ?_
  refine p_aload_n 0 750 rfl rfl dL_law_749 rfl ?_
  refine p_iload 4 752 rfl dL_law_750 rfl ?_
  refine p_iconst (2) 753 rfl dL_law_752 rfl ?_
  refine p_iadd 754 rfl dL_law_753 ?_
  rw [show nI i + 2 = nI (i + 2) from nI_add _ 2]
  refine p_sld 755 rfl dL_law_754 (vp_in_nI (by omega) (by omega)) ?_
  refine p_callV (as := [.int (gx Γ (nI (i + 1)).toNatClampNeg), .int (gx Γ (nI (i + 2)).toNatClampNeg)]) (st := []) (mc2 := 8 * n) (ms2 := 48 * n) 758 rfl dL_law_755 (q_take hR1 (gx Γ (nI (i + 1)).toNatClampNeg) (gx Γ (nI (i + 2)).toNatClampNeg) hI1.2.1) ml_L_168 vl_X9_take rfl (by decide) rfl rfl rfl (Nat.le_of_ble_eq_true rfl) (Nat.le_of_ble_eq_true rfl) (by omega) (by omega) rfl (fun v σ2 h => ?_) (fun x σ' h => by obtain ⟨_, h, _⟩ := h; cases h)
  obtain ⟨v0, he, hth, hv, hR2, hC2⟩ := h
  injection he with he
  subst he
  have hI2 := hI1.m hC2
  refine p_ist_6 760 rfl dL_law_758 (Nat.le_of_ble_eq_true rfl) rfl ?_
  refine p_aload_n 2 761 rfl rfl dL_law_760 rfl ?_
  refine p_cV0i 764 rfl dL_law_761 c_thrown ml_L_138 vl_X9_thrown rfl (by decide) rfl (Nat.le_of_ble_eq_true rfl) (Nat.le_of_ble_eq_true rfl) rfl ?_
  rw [hth]
  refine p_iload 5 766 rfl dL_law_764 rfl ?_
  refine p_icmp_eq 771 769 rfl rfl dL_law_766 (fun _ => ?_) (fun h => absurd rfl h)
  refine p_iload 5 773 rfl dL_law_771 rfl ?_
  refine p_if_ne 795 776 rfl rfl dL_law_773 (fun hne => ?_) (fun h0 => ?_)
  · refine p_goto 2707 rfl dL_law_795 ?_
    exact kk _ _ _ _ ⟨⟨_, _, hI2⟩, hR2⟩
  · have hs0 : (fTake A (gx Γ (nI (i + 1)).toNatClampNeg) (gx Γ (nI (i + 2)).toNatClampNeg)).1 = 0 := nI_eqI (show nI _ = nI 0 from h0) (by omega) (by decide)
    refine p_aload_n 3 777 rfl rfl dL_law_776 rfl ?_
    refine p_iconst (0) 778 rfl dL_law_777 rfl ?_
    refine p_lald 779 rfl dL_law_778 rfl in_o ?_
    refine p_iload 6 781 rfl dL_law_779 rfl ?_
    have hEQ : hL σ2 oL0 0 = v0.toInt64 := by
      rw [hC2.2.1, hv hs0]
      rcases hs with ⟨_, e⟩ | ⟨e, _⟩
      · rw [e]; exact hL_sL _ _ _ _
      · exact absurd hs0 e
    rw [hv hs0] at hEQ
    rw [hv hs0]
    refine p_if_eq 788 784 rfl rfl dL_law_781 (fun h6 => ?_) (fun h6 => ?_)
    · refine p_lconst 0 789 rfl dL_law_788 rfl ?_
      refine p_lcmp 790 rfl dL_law_789 ?_
      refine p_if_eq 795 793 rfl rfl dL_law_790 (fun _ => ?_) (fun h => absurd ((lg_cmp_eq _ _).mpr (hEQ.trans (by rw [h6]; rfl))) h)
      refine p_goto 2707 rfl dL_law_795 ?_
      exact kk _ _ _ _ ⟨⟨_, _, hI2⟩, hR2⟩
    · refine p_lconst 1 785 rfl dL_law_784 rfl ?_
      refine p_goto 789 rfl dL_law_785 ?_
      refine p_lcmp 790 rfl dL_law_789 ?_
      refine p_if_eq 795 793 rfl rfl dL_law_790 (fun _ => ?_) (fun h => absurd ((lg_cmp_eq _ _).mpr (hEQ.trans (by rw [hb.resolve_left h6]; rfl))) h)
      refine p_goto 2707 rfl dL_law_795 ?_
      exact kk _ _ _ _ ⟨⟨_, _, hI2⟩, hR2⟩
set_option maxRecDepth 8000 in
theorem g_10 (hi : i + 6 ≤ gL Γ) (hL3 : gL Γ ≤ 384) (hB : BO σ A) (kk : ∀ (σ' : PH) (A' : AT) (x5 x6 : Option Value), BO σ' A' → Ok Γ 60 (8 * n) (48 * n) mL_law 2707 [some (.ref 27), some (.ref T0), some (.ref M0), some (.ref oL0), some (.int (nI i)), x5, x6] [] σ' rLw) : Ok Γ 60 (8 * n + 8) (48 * n + 48) mL_law 798 [some (.ref 27), some (.ref T0), some (.ref M0), some (.ref oL0), some (.int (nI i)), x5, x6] [] σ rLw := by
  obtain ⟨⟨o, o2, hI⟩, hR⟩ := hB
  refine p_aload_n 1 799 rfl rfl dL_law_798 rfl ?_
  refine p_aload_n 0 800 rfl rfl dL_law_799 rfl ?_
  refine p_iload 4 802 rfl dL_law_800 rfl ?_
  refine p_iconst (1) 803 rfl dL_law_802 rfl ?_
  refine p_iadd 804 rfl dL_law_803 ?_
  rw [show nI i + 1 = nI (i + 1) from nI_add _ 1]
  refine p_sld 805 rfl dL_law_804 (vp_in_nI (by omega) (by omega)) ?_
  refine p_aload_n 0 806 rfl rfl dL_law_805 rfl ?_
  refine p_iload 4 808 rfl dL_law_806 rfl ?_
  refine p_iconst (2) 809 rfl dL_law_808 rfl ?_
  refine p_iadd 810 rfl dL_law_809 ?_
  rw [show nI i + 2 = nI (i + 2) from nI_add _ 2]
  refine p_sld 811 rfl dL_law_810 (vp_in_nI (by omega) (by omega)) ?_
  refine p_aload_n 3 812 rfl rfl dL_law_811 rfl ?_
  have hle : (fLeave A (gx Γ (nI (i + 1)).toNatClampNeg) (gx Γ (nI (i + 2)).toNatClampNeg)).1 ≤ 1 := by
    unfold fLeave; repeat (first | exact Nat.zero_le _ | refine gd_le ?_ (by decide))
  refine p_callSH (as := [.ref T0, .int (gx Γ (nI (i + 1)).toNatClampNeg), .int (gx Γ (nI (i + 2)).toNatClampNeg), .ref oL0]) (st := []) (mc2 := 8 * n) (ms2 := 48 * n) 815 rfl dL_law_812 (w_leave (gx Γ (nI (i + 1)).toNatClampNeg) (gx Γ (nI (i + 2)).toNatClampNeg) hle (t_leave hI (gx Γ (nI (i + 1)).toNatClampNeg) (gx Γ (nI (i + 2)).toNatClampNeg))) (fun x σ' h => by cases h.1) mh_L_169 sl_L_leave rfl rfl (Nat.le_of_ble_eq_true rfl) (Nat.le_of_ble_eq_true rfl) (by omega) (by omega) (fun v σ1 h => ?_)
  obtain ⟨he, σ0, ⟨hI0, hC0⟩, hs⟩ := h
  injection he with he
  subst he
  have hI1 : IT σ1 o o2 (nLeave A (gx Γ (nI (i + 1)).toNatClampNeg) (gx Γ (nI (i + 2)).toNatClampNeg)) := by
    rcases hs with ⟨_, e⟩ | ⟨_, e⟩
    · rw [e]; exact hI0.sl
    · rw [e]; exact hI0
  have hR1 : RM σ1 A := by
    rcases hs with ⟨_, e⟩ | ⟨_, e⟩
    · rw [e]; exact (hR.c hC0).sl
    · rw [e]; exact hR.c hC0
  refine p_ist_5 817 rfl dL_law_815 (Nat.le_of_ble_eq_true rfl) rfl ?_
  refine p_aload_n 2 818 rfl rfl dL_law_817 rfl ?_
  refine p_aload_n 0 819 rfl rfl dL_law_818 rfl ?_
  refine p_iload 4 821 rfl dL_law_819 rfl ?_
  refine p_iconst (1) 822 rfl dL_law_821 rfl ?_
  refine p_iadd 823 rfl dL_law_822 ?_
  rw [show nI i + 1 = nI (i + 1) from nI_add _ 1]
  refine p_sld 824 rfl dL_law_823 (vp_in_nI (by omega) (by omega)) ?_
  refine p_aload_n 0 825 rfl rfl dL_law_824 rfl ?_
  refine p_iload 4 827 rfl dL_law_825 rfl ?_
  refine p_iconst (2) 828 rfl dL_law_827 rfl ?_
  refine p_iadd 829 rfl dL_law_828 ?_
  rw [show nI i + 2 = nI (i + 2) from nI_add _ 2]
  refine p_sld 830 rfl dL_law_829 (vp_in_nI (by omega) (by omega)) ?_
  refine p_callV (as := [.int (gx Γ (nI (i + 1)).toNatClampNeg), .int (gx Γ (nI (i + 2)).toNatClampNeg)]) (st := []) (mc2 := 8 * n) (ms2 := 48 * n) 833 rfl dL_law_830 (q_leave hR1 (gx Γ (nI (i + 1)).toNatClampNeg) (gx Γ (nI (i + 2)).toNatClampNeg) hI1.2.1) ml_L_171 vl_X9_leave rfl (by decide) rfl rfl rfl (Nat.le_of_ble_eq_true rfl) (Nat.le_of_ble_eq_true rfl) (by omega) (by omega) rfl (fun v σ2 h => ?_) (fun x σ' h => by obtain ⟨_, h, _⟩ := h; cases h)
  obtain ⟨v0, he, hth, hv, hR2, hC2⟩ := h
  injection he with he
  subst he
  have hI2 := hI1.m hC2
  refine p_ist_6 835 rfl dL_law_833 (Nat.le_of_ble_eq_true rfl) rfl ?_
  refine p_aload_n 2 836 rfl rfl dL_law_835 rfl ?_
  refine p_cV0i 839 rfl dL_law_836 c_thrown ml_L_138 vl_X9_thrown rfl (by decide) rfl (Nat.le_of_ble_eq_true rfl) (Nat.le_of_ble_eq_true rfl) rfl ?_
  rw [hth]
  refine p_iload 5 841 rfl dL_law_839 rfl ?_
  refine p_icmp_eq 846 844 rfl rfl dL_law_841 (fun _ => ?_) (fun h => absurd rfl h)
  refine p_iload 5 848 rfl dL_law_846 rfl ?_
  refine p_if_ne 863 851 rfl rfl dL_law_848 (fun hne => ?_) (fun h0 => ?_)
  · refine p_goto 2707 rfl dL_law_863 ?_
    exact kk _ _ _ _ ⟨⟨_, _, hI2⟩, hR2⟩
  · have hs0 : (fLeave A (gx Γ (nI (i + 1)).toNatClampNeg) (gx Γ (nI (i + 2)).toNatClampNeg)).1 = 0 := nI_eqI (show nI _ = nI 0 from h0) (by omega) (by decide)
    refine p_aload_n 3 852 rfl rfl dL_law_851 rfl ?_
    refine p_iconst (0) 853 rfl dL_law_852 rfl ?_
    refine p_lald 854 rfl dL_law_853 rfl in_o ?_
    refine p_iload 6 856 rfl dL_law_854 rfl ?_
    refine p_i2l 857 rfl dL_law_856 ?_
    refine p_lcmp 858 rfl dL_law_857 ?_
    refine p_if_eq 863 861 rfl rfl dL_law_858 (fun _ => ?_) (fun h => absurd ((lg_cmp_eq _ _).mpr ?_) h)
    · refine p_goto 2707 rfl dL_law_863 ?_
      exact kk _ _ _ _ ⟨⟨_, _, hI2⟩, hR2⟩
    · rw [hC2.2.1, hv hs0]
      rcases hs with ⟨_, e⟩ | ⟨e, _⟩
      · rw [e]; exact hL_sL _ _ _ _
      · exact absurd hs0 e
set_option maxRecDepth 8000 in
theorem g_11 (hi : i + 6 ≤ gL Γ) (hL3 : gL Γ ≤ 384) (hB : BO σ A) (kk : ∀ (σ' : PH) (A' : AT) (x5 x6 : Option Value), BO σ' A' → Ok Γ 60 (8 * n) (48 * n) mL_law 2707 [some (.ref 27), some (.ref T0), some (.ref M0), some (.ref oL0), some (.int (nI i)), x5, x6] [] σ' rLw) : Ok Γ 60 (8 * n + 8) (48 * n + 48) mL_law 866 [some (.ref 27), some (.ref T0), some (.ref M0), some (.ref oL0), some (.int (nI i)), x5, x6] [] σ rLw := by
  obtain ⟨⟨o, o2, hI⟩, hR⟩ := hB
  refine p_aload_n 1 867 rfl rfl dL_law_866 rfl ?_
  refine p_aload_n 0 868 rfl rfl dL_law_867 rfl ?_
  refine p_iload 4 870 rfl dL_law_868 rfl ?_
  refine p_iconst (1) 871 rfl dL_law_870 rfl ?_
  refine p_iadd 872 rfl dL_law_871 ?_
  rw [show nI i + 1 = nI (i + 1) from nI_add _ 1]
  refine p_sld 873 rfl dL_law_872 (vp_in_nI (by omega) (by omega)) ?_
  refine p_aload_n 0 874 rfl rfl dL_law_873 rfl ?_
  refine p_iload 4 876 rfl dL_law_874 rfl ?_
  refine p_iconst (2) 877 rfl dL_law_876 rfl ?_
  refine p_iadd 878 rfl dL_law_877 ?_
  rw [show nI i + 2 = nI (i + 2) from nI_add _ 2]
  refine p_sld 879 rfl dL_law_878 (vp_in_nI (by omega) (by omega)) ?_
  refine p_aload_n 0 880 rfl rfl dL_law_879 rfl ?_
  refine p_iload 4 882 rfl dL_law_880 rfl ?_
  refine p_iconst (3) 883 rfl dL_law_882 rfl ?_
  refine p_iadd 884 rfl dL_law_883 ?_
  rw [show nI i + 3 = nI (i + 3) from nI_add _ 3]
  refine p_sld 885 rfl dL_law_884 (vp_in_nI (by omega) (by omega)) ?_
  refine p_aload_n 3 886 rfl rfl dL_law_885 rfl ?_
  have hle : (fForge A (gx Γ (nI (i + 1)).toNatClampNeg) (gx Γ (nI (i + 2)).toNatClampNeg) (gx Γ (nI (i + 3)).toNatClampNeg)).1 ≤ 1 := by
    unfold fForge; repeat (first | exact Nat.zero_le _ | refine gd_le ?_ (by decide))
  refine p_callSH (as := [.ref T0, .int (gx Γ (nI (i + 1)).toNatClampNeg), .int (gx Γ (nI (i + 2)).toNatClampNeg), .int (gx Γ (nI (i + 3)).toNatClampNeg), .ref oL0]) (st := []) (mc2 := 8 * n) (ms2 := 48 * n) 889 rfl dL_law_886 (w_forge (gx Γ (nI (i + 1)).toNatClampNeg) (gx Γ (nI (i + 2)).toNatClampNeg) (gx Γ (nI (i + 3)).toNatClampNeg) hle (t_forge hI (gx Γ (nI (i + 1)).toNatClampNeg) (gx Γ (nI (i + 2)).toNatClampNeg) (gx Γ (nI (i + 3)).toNatClampNeg))) (fun x σ' h => by cases h.1) mh_L_172 sl_L_forge rfl rfl (Nat.le_of_ble_eq_true rfl) (Nat.le_of_ble_eq_true rfl) (by omega) (by omega) (fun v σ1 h => ?_)
  obtain ⟨he, σ0, ⟨hI0, hC0⟩, hs⟩ := h
  injection he with he
  subst he
  have hI1 : IT σ1 o o2 (nForge A (gx Γ (nI (i + 1)).toNatClampNeg) (gx Γ (nI (i + 2)).toNatClampNeg) (gx Γ (nI (i + 3)).toNatClampNeg)) := by
    rcases hs with ⟨_, e⟩ | ⟨_, e⟩
    · rw [e]; exact hI0.sl
    · rw [e]; exact hI0
  have hR1 : RM σ1 A := by
    rcases hs with ⟨_, e⟩ | ⟨_, e⟩
    · rw [e]; exact (hR.c hC0).sl
    · rw [e]; exact hR.c hC0
  refine p_ist_5 891 rfl dL_law_889 (Nat.le_of_ble_eq_true rfl) rfl ?_
  refine p_aload_n 2 892 rfl rfl dL_law_891 rfl ?_
  refine p_aload_n 0 893 rfl rfl dL_law_892 rfl ?_
  refine p_iload 4 895 rfl dL_law_893 rfl ?_
  refine p_iconst (1) 896 rfl dL_law_895 rfl ?_
  refine p_iadd 897 rfl dL_law_896 ?_
  rw [show nI i + 1 = nI (i + 1) from nI_add _ 1]
  refine p_sld 898 rfl dL_law_897 (vp_in_nI (by omega) (by omega)) ?_
  refine p_aload_n 0 899 rfl rfl dL_law_898 rfl ?_
  refine p_iload 4 901 rfl dL_law_899 rfl ?_
  refine p_iconst (2) 902 rfl dL_law_901 rfl ?_
  refine p_iadd 903 rfl dL_law_902 ?_
  rw [show nI i + 2 = nI (i + 2) from nI_add _ 2]
  refine p_sld 904 rfl dL_law_903 (vp_in_nI (by omega) (by omega)) ?_
  refine p_aload_n 0 905 rfl rfl dL_law_904 rfl ?_
  refine p_iload 4 907 rfl dL_law_905 rfl ?_
  refine p_iconst (3) 908 rfl dL_law_907 rfl ?_
  refine p_iadd 909 rfl dL_law_908 ?_
  rw [show nI i + 3 = nI (i + 3) from nI_add _ 3]
  refine p_sld 910 rfl dL_law_909 (vp_in_nI (by omega) (by omega)) ?_
  refine p_callV (as := [.int (gx Γ (nI (i + 1)).toNatClampNeg), .int (gx Γ (nI (i + 2)).toNatClampNeg), .int (gx Γ (nI (i + 3)).toNatClampNeg)]) (st := []) (mc2 := 8 * n) (ms2 := 48 * n) 913 rfl dL_law_910 (q_forge hR1 (gx Γ (nI (i + 1)).toNatClampNeg) (gx Γ (nI (i + 2)).toNatClampNeg) (gx Γ (nI (i + 3)).toNatClampNeg) hI1.2.1) ml_L_175 vl_X9_forge rfl (by decide) rfl rfl rfl (Nat.le_of_ble_eq_true rfl) (Nat.le_of_ble_eq_true rfl) (by omega) (by omega) rfl (fun v σ2 h => ?_) (fun x σ' h => by obtain ⟨_, h, _⟩ := h; cases h)
  obtain ⟨v0, he, hth, hv, hR2, hC2⟩ := h
  injection he with he
  subst he
  have hI2 := hI1.m hC2
  refine p_ist_6 915 rfl dL_law_913 (Nat.le_of_ble_eq_true rfl) rfl ?_
  refine p_aload_n 2 916 rfl rfl dL_law_915 rfl ?_
  refine p_cV0i 919 rfl dL_law_916 c_thrown ml_L_138 vl_X9_thrown rfl (by decide) rfl (Nat.le_of_ble_eq_true rfl) (Nat.le_of_ble_eq_true rfl) rfl ?_
  rw [hth]
  refine p_iload 5 921 rfl dL_law_919 rfl ?_
  refine p_icmp_eq 926 924 rfl rfl dL_law_921 (fun _ => ?_) (fun h => absurd rfl h)
  refine p_iload 5 928 rfl dL_law_926 rfl ?_
  refine p_if_ne 943 931 rfl rfl dL_law_928 (fun hne => ?_) (fun h0 => ?_)
  · refine p_goto 2707 rfl dL_law_943 ?_
    exact kk _ _ _ _ ⟨⟨_, _, hI2⟩, hR2⟩
  · have hs0 : (fForge A (gx Γ (nI (i + 1)).toNatClampNeg) (gx Γ (nI (i + 2)).toNatClampNeg) (gx Γ (nI (i + 3)).toNatClampNeg)).1 = 0 := nI_eqI (show nI _ = nI 0 from h0) (by omega) (by decide)
    refine p_aload_n 3 932 rfl rfl dL_law_931 rfl ?_
    refine p_iconst (0) 933 rfl dL_law_932 rfl ?_
    refine p_lald 934 rfl dL_law_933 rfl in_o ?_
    refine p_iload 6 936 rfl dL_law_934 rfl ?_
    refine p_i2l 937 rfl dL_law_936 ?_
    refine p_lcmp 938 rfl dL_law_937 ?_
    refine p_if_eq 943 941 rfl rfl dL_law_938 (fun _ => ?_) (fun h => absurd ((lg_cmp_eq _ _).mpr ?_) h)
    · refine p_goto 2707 rfl dL_law_943 ?_
      exact kk _ _ _ _ ⟨⟨_, _, hI2⟩, hR2⟩
    · rw [hC2.2.1, hv hs0]
      rcases hs with ⟨_, e⟩ | ⟨e, _⟩
      · rw [e]; exact hL_sL _ _ _ _
      · exact absurd hs0 e
set_option maxRecDepth 8000 in
theorem g_12 (hi : i + 6 ≤ gL Γ) (hL3 : gL Γ ≤ 384) (hB : BO σ A) (kk : ∀ (σ' : PH) (A' : AT) (x5 x6 : Option Value), BO σ' A' → Ok Γ 60 (8 * n) (48 * n) mL_law 2707 [some (.ref 27), some (.ref T0), some (.ref M0), some (.ref oL0), some (.int (nI i)), x5, x6] [] σ' rLw) : Ok Γ 60 (8 * n + 8) (48 * n + 48) mL_law 946 [some (.ref 27), some (.ref T0), some (.ref M0), some (.ref oL0), some (.int (nI i)), x5, x6] [] σ rLw := by
  obtain ⟨⟨o, o2, hI⟩, hR⟩ := hB
  refine p_aload_n 1 947 rfl rfl dL_law_946 rfl ?_
  refine p_aload_n 0 948 rfl rfl dL_law_947 rfl ?_
  refine p_iload 4 950 rfl dL_law_948 rfl ?_
  refine p_iconst (1) 951 rfl dL_law_950 rfl ?_
  refine p_iadd 952 rfl dL_law_951 ?_
  rw [show nI i + 1 = nI (i + 1) from nI_add _ 1]
  refine p_sld 953 rfl dL_law_952 (vp_in_nI (by omega) (by omega)) ?_
  refine p_aload_n 3 954 rfl rfl dL_law_953 rfl ?_
  have hle : (fFire A (gx Γ (nI (i + 1)).toNatClampNeg)).1 ≤ 1 := by
    unfold fFire; repeat (first | exact Nat.zero_le _ | refine gd_le ?_ (by decide))
  refine p_callSH (as := [.ref T0, .int (gx Γ (nI (i + 1)).toNatClampNeg), .ref oL0]) (st := []) (mc2 := 8 * n) (ms2 := 48 * n) 957 rfl dL_law_954 (w_fire (gx Γ (nI (i + 1)).toNatClampNeg) hle (t_fire hI (gx Γ (nI (i + 1)).toNatClampNeg))) (fun x σ' h => by cases h.1) mh_L_176 sl_L_fire rfl rfl (Nat.le_of_ble_eq_true rfl) (Nat.le_of_ble_eq_true rfl) (by omega) (by omega) (fun v σ1 h => ?_)
  obtain ⟨he, σ0, ⟨hI0, hC0⟩, hs⟩ := h
  injection he with he
  subst he
  have hI1 : IT σ1 o o2 (nFire A (gx Γ (nI (i + 1)).toNatClampNeg)) := by
    rcases hs with ⟨_, e⟩ | ⟨_, e⟩
    · rw [e]; exact hI0.sl
    · rw [e]; exact hI0
  have hR1 : RM σ1 A := by
    rcases hs with ⟨_, e⟩ | ⟨_, e⟩
    · rw [e]; exact (hR.c hC0).sl
    · rw [e]; exact hR.c hC0
  refine p_ist_5 959 rfl dL_law_957 (Nat.le_of_ble_eq_true rfl) rfl ?_
  refine p_aload_n 2 960 rfl rfl dL_law_959 rfl ?_
  refine p_aload_n 0 961 rfl rfl dL_law_960 rfl ?_
  refine p_iload 4 963 rfl dL_law_961 rfl ?_
  refine p_iconst (1) 964 rfl dL_law_963 rfl ?_
  refine p_iadd 965 rfl dL_law_964 ?_
  rw [show nI i + 1 = nI (i + 1) from nI_add _ 1]
  refine p_sld 966 rfl dL_law_965 (vp_in_nI (by omega) (by omega)) ?_
  refine p_callV (as := [.int (gx Γ (nI (i + 1)).toNatClampNeg)]) (st := []) (mc2 := 8 * n) (ms2 := 48 * n) 969 rfl dL_law_966 (q_fire hR1 (gx Γ (nI (i + 1)).toNatClampNeg) hI1.2.1) ml_L_178 vl_X9_fire rfl (by decide) rfl rfl rfl (Nat.le_of_ble_eq_true rfl) (Nat.le_of_ble_eq_true rfl) (by omega) (by omega) rfl (fun v σ2 h => ?_) (fun x σ' h => by obtain ⟨_, h, _⟩ := h; cases h)
  obtain ⟨v0, he, hth, hv, hR2, hC2⟩ := h
  injection he with he
  subst he
  have hI2 := hI1.m hC2
  refine p_ist_6 971 rfl dL_law_969 (Nat.le_of_ble_eq_true rfl) rfl ?_
  refine p_aload_n 2 972 rfl rfl dL_law_971 rfl ?_
  refine p_cV0i 975 rfl dL_law_972 c_thrown ml_L_138 vl_X9_thrown rfl (by decide) rfl (Nat.le_of_ble_eq_true rfl) (Nat.le_of_ble_eq_true rfl) rfl ?_
  rw [hth]
  refine p_iload 5 977 rfl dL_law_975 rfl ?_
  refine p_icmp_eq 982 980 rfl rfl dL_law_977 (fun _ => ?_) (fun h => absurd rfl h)
  refine p_iload 5 984 rfl dL_law_982 rfl ?_
  refine p_if_ne 999 987 rfl rfl dL_law_984 (fun hne => ?_) (fun h0 => ?_)
  · refine p_goto 2707 rfl dL_law_999 ?_
    exact kk _ _ _ _ ⟨⟨_, _, hI2⟩, hR2⟩
  · have hs0 : (fFire A (gx Γ (nI (i + 1)).toNatClampNeg)).1 = 0 := nI_eqI (show nI _ = nI 0 from h0) (by omega) (by decide)
    refine p_aload_n 3 988 rfl rfl dL_law_987 rfl ?_
    refine p_iconst (0) 989 rfl dL_law_988 rfl ?_
    refine p_lald 990 rfl dL_law_989 rfl in_o ?_
    refine p_iload 6 992 rfl dL_law_990 rfl ?_
    refine p_i2l 993 rfl dL_law_992 ?_
    refine p_lcmp 994 rfl dL_law_993 ?_
    refine p_if_eq 999 997 rfl rfl dL_law_994 (fun _ => ?_) (fun h => absurd ((lg_cmp_eq _ _).mpr ?_) h)
    · refine p_goto 2707 rfl dL_law_999 ?_
      exact kk _ _ _ _ ⟨⟨_, _, hI2⟩, hR2⟩
    · rw [hC2.2.1, hv hs0]
      rcases hs with ⟨_, e⟩ | ⟨e, _⟩
      · rw [e]; exact hL_sL _ _ _ _
      · exact absurd hs0 e
set_option maxRecDepth 8000 in
theorem g_13 (hi : i + 6 ≤ gL Γ) (hL3 : gL Γ ≤ 384) (hB : BO σ A) (kk : ∀ (σ' : PH) (A' : AT) (x5 x6 : Option Value), BO σ' A' → Ok Γ 60 (8 * n) (48 * n) mL_law 2707 [some (.ref 27), some (.ref T0), some (.ref M0), some (.ref oL0), some (.int (nI i)), x5, x6] [] σ' rLw) : Ok Γ 60 (8 * n + 8) (48 * n + 48) mL_law 1002 [some (.ref 27), some (.ref T0), some (.ref M0), some (.ref oL0), some (.int (nI i)), x5, x6] [] σ rLw := by
  obtain ⟨⟨o, o2, hI⟩, hR⟩ := hB
  have hz : (fUndo A).1 = 0 := by rfl
  refine p_aload_n 1 1003 rfl rfl dL_law_1002 rfl ?_
  refine p_callV (as := []) (st := []) (mc2 := 8 * n) (ms2 := 48 * n) 1006 rfl dL_law_1003 (t_undo hI ) ml_L_179 vl_X8_undo rfl (by decide) rfl rfl rfl (Nat.le_of_ble_eq_true rfl) (Nat.le_of_ble_eq_true rfl) (by omega) (by omega) rfl (fun v σ1 h => ?_) (fun x σ' h => by have he := h.1; rw [if_pos hz] at he; cases he)
  obtain ⟨he, hI1, hC1⟩ := h
  rw [if_pos hz] at he
  injection he with he
  subst he
  have hR1 := hR.c hC1
  refine p_aload_n 2 1007 rfl rfl dL_law_1006 rfl ?_
  refine p_callV (as := []) (st := [.int (fUndo A).2]) (mc2 := 8 * n) (ms2 := 48 * n) 1010 rfl dL_law_1007 (q_undo hR1  hI1.2.1) ml_L_182 vl_X9_undo rfl (by decide) rfl rfl rfl (Nat.le_of_ble_eq_true rfl) (Nat.le_of_ble_eq_true rfl) (by omega) (by omega) rfl (fun v σ2 h => ?_) (fun x σ' h => by obtain ⟨_, h, _⟩ := h; cases h)
  obtain ⟨v0, he, hth, hv, hR2, hC2⟩ := h
  injection he with he
  subst he
  have hI2 := hI1.m hC2
  refine p_icmp_eq 2707 1013 rfl rfl dL_law_1010 (fun _ => ?_) (fun h => absurd (hv hz).symm h)
  exact kk _ _ _ _ ⟨⟨_, _, hI2⟩, hR2⟩
set_option maxRecDepth 8000 in
theorem g_14 (hi : i + 6 ≤ gL Γ) (hL3 : gL Γ ≤ 384) (hB : BO σ A) (kk : ∀ (σ' : PH) (A' : AT) (x5 x6 : Option Value), BO σ' A' → Ok Γ 60 (8 * n) (48 * n) mL_law 2707 [some (.ref 27), some (.ref T0), some (.ref M0), some (.ref oL0), some (.int (nI i)), x5, x6] [] σ' rLw) : Ok Γ 60 (8 * n + 8) (48 * n + 48) mL_law 1015 [some (.ref 27), some (.ref T0), some (.ref M0), some (.ref oL0), some (.int (nI i)), x5, x6] [] σ rLw := by
  obtain ⟨⟨o, o2, hI⟩, hR⟩ := hB
  refine p_aload_n 1 1016 rfl rfl dL_law_1015 rfl ?_
  refine p_aload_n 0 1017 rfl rfl dL_law_1016 rfl ?_
  refine p_iload 4 1019 rfl dL_law_1017 rfl ?_
  refine p_iconst (1) 1020 rfl dL_law_1019 rfl ?_
  refine p_iadd 1021 rfl dL_law_1020 ?_
  rw [show nI i + 1 = nI (i + 1) from nI_add _ 1]
  refine p_sld 1022 rfl dL_law_1021 (vp_in_nI (by omega) (by omega)) ?_
  refine p_aload_n 0 1023 rfl rfl dL_law_1022 rfl ?_
  refine p_iload 4 1025 rfl dL_law_1023 rfl ?_
  refine p_iconst (2) 1026 rfl dL_law_1025 rfl ?_
  refine p_iadd 1027 rfl dL_law_1026 ?_
  rw [show nI i + 2 = nI (i + 2) from nI_add _ 2]
  refine p_sld 1028 rfl dL_law_1027 (vp_in_nI (by omega) (by omega)) ?_
  refine p_aload_n 0 1029 rfl rfl dL_law_1028 rfl ?_
  refine p_iload 4 1031 rfl dL_law_1029 rfl ?_
  refine p_iconst (3) 1032 rfl dL_law_1031 rfl ?_
  refine p_iadd 1033 rfl dL_law_1032 ?_
  rw [show nI i + 3 = nI (i + 3) from nI_add _ 3]
  refine p_sld 1034 rfl dL_law_1033 (vp_in_nI (by omega) (by omega)) ?_
  refine p_aload_n 3 1035 rfl rfl dL_law_1034 rfl ?_
  have hle : (fThen A (gx Γ (nI (i + 1)).toNatClampNeg) (gx Γ (nI (i + 2)).toNatClampNeg) (gx Γ (nI (i + 3)).toNatClampNeg)).1 ≤ 2 := by
    unfold fThen; repeat (first | exact Nat.zero_le _ | refine gd_le ?_ (by decide))
  refine p_callSH (as := [.ref T0, .int (gx Γ (nI (i + 1)).toNatClampNeg), .int (gx Γ (nI (i + 2)).toNatClampNeg), .int (gx Γ (nI (i + 3)).toNatClampNeg), .ref oL0]) (st := []) (mc2 := 8 * n) (ms2 := 48 * n) 1038 rfl dL_law_1035 (w_then (gx Γ (nI (i + 1)).toNatClampNeg) (gx Γ (nI (i + 2)).toNatClampNeg) (gx Γ (nI (i + 3)).toNatClampNeg) hle (t_then hI (gx Γ (nI (i + 1)).toNatClampNeg) (gx Γ (nI (i + 2)).toNatClampNeg) (gx Γ (nI (i + 3)).toNatClampNeg))) (fun x σ' h => by cases h.1) mh_L_183 sl_L_then rfl rfl (Nat.le_of_ble_eq_true rfl) (Nat.le_of_ble_eq_true rfl) (by omega) (by omega) (fun v σ1 h => ?_)
  obtain ⟨he, σ0, ⟨hI0, hC0⟩, hs⟩ := h
  injection he with he
  subst he
  have hI1 : IT σ1 o o2 A := by
    rcases hs with ⟨_, e⟩ | ⟨_, e⟩
    · rw [e]; exact hI0.sl
    · rw [e]; exact hI0
  have hR1 : RM σ1 A := by
    rcases hs with ⟨_, e⟩ | ⟨_, e⟩
    · rw [e]; exact (hR.c hC0).sl
    · rw [e]; exact hR.c hC0
  refine p_ist_5 1040 rfl dL_law_1038 (Nat.le_of_ble_eq_true rfl) rfl ?_
  refine p_aload_n 2 1041 rfl rfl dL_law_1040 rfl ?_
  refine p_aload_n 0 1042 rfl rfl dL_law_1041 rfl ?_
  refine p_iload 4 1044 rfl dL_law_1042 rfl ?_
  refine p_iconst (1) 1045 rfl dL_law_1044 rfl ?_
  refine p_iadd 1046 rfl dL_law_1045 ?_
  rw [show nI i + 1 = nI (i + 1) from nI_add _ 1]
  refine p_sld 1047 rfl dL_law_1046 (vp_in_nI (by omega) (by omega)) ?_
  refine p_aload_n 0 1048 rfl rfl dL_law_1047 rfl ?_
  refine p_iload 4 1050 rfl dL_law_1048 rfl ?_
  refine p_iconst (2) 1051 rfl dL_law_1050 rfl ?_
  refine p_iadd 1052 rfl dL_law_1051 ?_
  rw [show nI i + 2 = nI (i + 2) from nI_add _ 2]
  refine p_sld 1053 rfl dL_law_1052 (vp_in_nI (by omega) (by omega)) ?_
  refine p_aload_n 0 1054 rfl rfl dL_law_1053 rfl ?_
  refine p_iload 4 1056 rfl dL_law_1054 rfl ?_
  refine p_iconst (3) 1057 rfl dL_law_1056 rfl ?_
  refine p_iadd 1058 rfl dL_law_1057 ?_
  rw [show nI i + 3 = nI (i + 3) from nI_add _ 3]
  refine p_sld 1059 rfl dL_law_1058 (vp_in_nI (by omega) (by omega)) ?_
  refine p_callV (as := [.int (gx Γ (nI (i + 1)).toNatClampNeg), .int (gx Γ (nI (i + 2)).toNatClampNeg), .int (gx Γ (nI (i + 3)).toNatClampNeg)]) (st := []) (mc2 := 8 * n) (ms2 := 48 * n) 1062 rfl dL_law_1059 (q_then hR1 (gx Γ (nI (i + 1)).toNatClampNeg) (gx Γ (nI (i + 2)).toNatClampNeg) (gx Γ (nI (i + 3)).toNatClampNeg)) ml_L_185 vl_X9_then rfl (by decide) rfl rfl rfl (Nat.le_of_ble_eq_true rfl) (Nat.le_of_ble_eq_true rfl) (by omega) (by omega) rfl (fun v σ2 h => ?_) (fun x σ' h => by obtain ⟨_, h, _⟩ := h; cases h)
  obtain ⟨v0, he, hth, hv, hR2, hC2⟩ := h
  injection he with he
  subst he
  have hI2 := hI1.m hC2
  refine p_ist_6 1064 rfl dL_law_1062 (Nat.le_of_ble_eq_true rfl) rfl ?_
  refine p_aload_n 2 1065 rfl rfl dL_law_1064 rfl ?_
  refine p_cV0i 1068 rfl dL_law_1065 c_thrown ml_L_138 vl_X9_thrown rfl (by decide) rfl (Nat.le_of_ble_eq_true rfl) (Nat.le_of_ble_eq_true rfl) rfl ?_
  rw [hth]
  refine p_iload 5 1070 rfl dL_law_1068 rfl ?_
  refine p_icmp_eq 1075 1073 rfl rfl dL_law_1070 (fun _ => ?_) (fun h => absurd rfl h)
  refine p_iload 5 1077 rfl dL_law_1075 rfl ?_
  refine p_if_ne 1092 1080 rfl rfl dL_law_1077 (fun hne => ?_) (fun h0 => ?_)
  · refine p_goto 2707 rfl dL_law_1092 ?_
    exact kk _ _ _ _ ⟨⟨_, _, hI2⟩, hR2⟩
  · have hs0 : (fThen A (gx Γ (nI (i + 1)).toNatClampNeg) (gx Γ (nI (i + 2)).toNatClampNeg) (gx Γ (nI (i + 3)).toNatClampNeg)).1 = 0 := nI_eqI (show nI _ = nI 0 from h0) (by omega) (by decide)
    refine p_aload_n 3 1081 rfl rfl dL_law_1080 rfl ?_
    refine p_iconst (0) 1082 rfl dL_law_1081 rfl ?_
    refine p_lald 1083 rfl dL_law_1082 rfl in_o ?_
    refine p_iload 6 1085 rfl dL_law_1083 rfl ?_
    refine p_i2l 1086 rfl dL_law_1085 ?_
    refine p_lcmp 1087 rfl dL_law_1086 ?_
    refine p_if_eq 1092 1090 rfl rfl dL_law_1087 (fun _ => ?_) (fun h => absurd ((lg_cmp_eq _ _).mpr ?_) h)
    · refine p_goto 2707 rfl dL_law_1092 ?_
      exact kk _ _ _ _ ⟨⟨_, _, hI2⟩, hR2⟩
    · rw [hC2.2.1, hv hs0]
      rcases hs with ⟨_, e⟩ | ⟨e, _⟩
      · rw [e]; exact hL_sL _ _ _ _
      · exact absurd hs0 e
set_option maxRecDepth 8000 in
theorem g_15 (hi : i + 6 ≤ gL Γ) (hL3 : gL Γ ≤ 384) (hB : BO σ A) (kk : ∀ (σ' : PH) (A' : AT) (x5 x6 : Option Value), BO σ' A' → Ok Γ 60 (8 * n) (48 * n) mL_law 2707 [some (.ref 27), some (.ref T0), some (.ref M0), some (.ref oL0), some (.int (nI i)), x5, x6] [] σ' rLw) : Ok Γ 60 (8 * n + 8) (48 * n + 48) mL_law 1095 [some (.ref 27), some (.ref T0), some (.ref M0), some (.ref oL0), some (.int (nI i)), x5, x6] [] σ rLw := by
  obtain ⟨⟨o, o2, hI⟩, hR⟩ := hB
  refine p_aload_n 1 1096 rfl rfl dL_law_1095 rfl ?_
  refine p_aload_n 0 1097 rfl rfl dL_law_1096 rfl ?_
  refine p_iload 4 1099 rfl dL_law_1097 rfl ?_
  refine p_iconst (1) 1100 rfl dL_law_1099 rfl ?_
  refine p_iadd 1101 rfl dL_law_1100 ?_
  rw [show nI i + 1 = nI (i + 1) from nI_add _ 1]
  refine p_sld 1102 rfl dL_law_1101 (vp_in_nI (by omega) (by omega)) ?_
  refine p_aload_n 0 1103 rfl rfl dL_law_1102 rfl ?_
  refine p_iload 4 1105 rfl dL_law_1103 rfl ?_
  refine p_iconst (2) 1106 rfl dL_law_1105 rfl ?_
  refine p_iadd 1107 rfl dL_law_1106 ?_
  rw [show nI i + 2 = nI (i + 2) from nI_add _ 2]
  refine p_sld 1108 rfl dL_law_1107 (vp_in_nI (by omega) (by omega)) ?_
  refine p_aload_n 3 1109 rfl rfl dL_law_1108 rfl ?_
  have hle : (fWhere A (gx Γ (nI (i + 1)).toNatClampNeg) (gx Γ (nI (i + 2)).toNatClampNeg)).1 ≤ 2 := by
    unfold fWhere; repeat (first | exact Nat.zero_le _ | refine gd_le ?_ (by decide))
  refine p_callSH (as := [.ref T0, .int (gx Γ (nI (i + 1)).toNatClampNeg), .int (gx Γ (nI (i + 2)).toNatClampNeg), .ref oL0]) (st := []) (mc2 := 8 * n) (ms2 := 48 * n) 1112 rfl dL_law_1109 (w_where (gx Γ (nI (i + 1)).toNatClampNeg) (gx Γ (nI (i + 2)).toNatClampNeg) hle (t_where hI (gx Γ (nI (i + 1)).toNatClampNeg) (gx Γ (nI (i + 2)).toNatClampNeg))) (fun x σ' h => by cases h.1) mh_L_186 sl_L_where rfl rfl (Nat.le_of_ble_eq_true rfl) (Nat.le_of_ble_eq_true rfl) (by omega) (by omega) (fun v σ1 h => ?_)
  obtain ⟨he, σ0, ⟨hI0, hC0⟩, hs⟩ := h
  injection he with he
  subst he
  have hI1 : IT σ1 o o2 A := by
    rcases hs with ⟨_, e⟩ | ⟨_, e⟩
    · rw [e]; exact hI0.sl
    · rw [e]; exact hI0
  have hR1 : RM σ1 A := by
    rcases hs with ⟨_, e⟩ | ⟨_, e⟩
    · rw [e]; exact (hR.c hC0).sl
    · rw [e]; exact hR.c hC0
  refine p_ist_5 1114 rfl dL_law_1112 (Nat.le_of_ble_eq_true rfl) rfl ?_
  refine p_aload_n 2 1115 rfl rfl dL_law_1114 rfl ?_
  refine p_aload_n 0 1116 rfl rfl dL_law_1115 rfl ?_
  refine p_iload 4 1118 rfl dL_law_1116 rfl ?_
  refine p_iconst (1) 1119 rfl dL_law_1118 rfl ?_
  refine p_iadd 1120 rfl dL_law_1119 ?_
  rw [show nI i + 1 = nI (i + 1) from nI_add _ 1]
  refine p_sld 1121 rfl dL_law_1120 (vp_in_nI (by omega) (by omega)) ?_
  refine p_aload_n 0 1122 rfl rfl dL_law_1121 rfl ?_
  refine p_iload 4 1124 rfl dL_law_1122 rfl ?_
  refine p_iconst (2) 1125 rfl dL_law_1124 rfl ?_
  refine p_iadd 1126 rfl dL_law_1125 ?_
  rw [show nI i + 2 = nI (i + 2) from nI_add _ 2]
  refine p_sld 1127 rfl dL_law_1126 (vp_in_nI (by omega) (by omega)) ?_
  refine p_callV (as := [.int (gx Γ (nI (i + 1)).toNatClampNeg), .int (gx Γ (nI (i + 2)).toNatClampNeg)]) (st := []) (mc2 := 8 * n) (ms2 := 48 * n) 1130 rfl dL_law_1127 (q_where hR1 (gx Γ (nI (i + 1)).toNatClampNeg) (gx Γ (nI (i + 2)).toNatClampNeg)) ml_L_188 vl_X9_where rfl (by decide) rfl rfl rfl (Nat.le_of_ble_eq_true rfl) (Nat.le_of_ble_eq_true rfl) (by omega) (by omega) rfl (fun v σ2 h => ?_) (fun x σ' h => by obtain ⟨_, h, _⟩ := h; cases h)
  obtain ⟨v0, he, hth, hv, hR2, hC2⟩ := h
  injection he with he
  subst he
  have hI2 := hI1.m hC2
  refine p_ist_6 1132 rfl dL_law_1130 (Nat.le_of_ble_eq_true rfl) rfl ?_
  refine p_aload_n 2 1133 rfl rfl dL_law_1132 rfl ?_
  refine p_cV0i 1136 rfl dL_law_1133 c_thrown ml_L_138 vl_X9_thrown rfl (by decide) rfl (Nat.le_of_ble_eq_true rfl) (Nat.le_of_ble_eq_true rfl) rfl ?_
  rw [hth]
  refine p_iload 5 1138 rfl dL_law_1136 rfl ?_
  refine p_icmp_eq 1143 1141 rfl rfl dL_law_1138 (fun _ => ?_) (fun h => absurd rfl h)
  refine p_iload 5 1145 rfl dL_law_1143 rfl ?_
  refine p_if_ne 1160 1148 rfl rfl dL_law_1145 (fun hne => ?_) (fun h0 => ?_)
  · refine p_goto 2707 rfl dL_law_1160 ?_
    exact kk _ _ _ _ ⟨⟨_, _, hI2⟩, hR2⟩
  · have hs0 : (fWhere A (gx Γ (nI (i + 1)).toNatClampNeg) (gx Γ (nI (i + 2)).toNatClampNeg)).1 = 0 := nI_eqI (show nI _ = nI 0 from h0) (by omega) (by decide)
    refine p_aload_n 3 1149 rfl rfl dL_law_1148 rfl ?_
    refine p_iconst (0) 1150 rfl dL_law_1149 rfl ?_
    refine p_lald 1151 rfl dL_law_1150 rfl in_o ?_
    refine p_iload 6 1153 rfl dL_law_1151 rfl ?_
    refine p_i2l 1154 rfl dL_law_1153 ?_
    refine p_lcmp 1155 rfl dL_law_1154 ?_
    refine p_if_eq 1160 1158 rfl rfl dL_law_1155 (fun _ => ?_) (fun h => absurd ((lg_cmp_eq _ _).mpr ?_) h)
    · refine p_goto 2707 rfl dL_law_1160 ?_
      exact kk _ _ _ _ ⟨⟨_, _, hI2⟩, hR2⟩
    · rw [hC2.2.1, hv hs0]
      rcases hs with ⟨_, e⟩ | ⟨e, _⟩
      · rw [e]; exact hL_sL _ _ _ _
      · exact absurd hs0 e
set_option maxRecDepth 8000 in
theorem g_16 (hi : i + 6 ≤ gL Γ) (hL3 : gL Γ ≤ 384) (hB : BO σ A) (kk : ∀ (σ' : PH) (A' : AT) (x5 x6 : Option Value), BO σ' A' → Ok Γ 60 (8 * n) (48 * n) mL_law 2707 [some (.ref 27), some (.ref T0), some (.ref M0), some (.ref oL0), some (.int (nI i)), x5, x6] [] σ' rLw) : Ok Γ 60 (8 * n + 8) (48 * n + 48) mL_law 1163 [some (.ref 27), some (.ref T0), some (.ref M0), some (.ref oL0), some (.int (nI i)), x5, x6] [] σ rLw := by
  obtain ⟨⟨o, o2, hI⟩, hR⟩ := hB
  refine p_aload_n 1 1164 rfl rfl dL_law_1163 rfl ?_
  refine p_aload_n 0 1165 rfl rfl dL_law_1164 rfl ?_
  refine p_iload 4 1167 rfl dL_law_1165 rfl ?_
  refine p_iconst (1) 1168 rfl dL_law_1167 rfl ?_
  refine p_iadd 1169 rfl dL_law_1168 ?_
  rw [show nI i + 1 = nI (i + 1) from nI_add _ 1]
  refine p_sld 1170 rfl dL_law_1169 (vp_in_nI (by omega) (by omega)) ?_
  refine p_aload_n 0 1171 rfl rfl dL_law_1170 rfl ?_
  refine p_iload 4 1173 rfl dL_law_1171 rfl ?_
  refine p_iconst (2) 1174 rfl dL_law_1173 rfl ?_
  refine p_iadd 1175 rfl dL_law_1174 ?_
  rw [show nI i + 2 = nI (i + 2) from nI_add _ 2]
  refine p_sld 1176 rfl dL_law_1175 (vp_in_nI (by omega) (by omega)) ?_
  refine p_aload_n 3 1177 rfl rfl dL_law_1176 rfl ?_
  have hle : (fFirst A (gx Γ (nI (i + 1)).toNatClampNeg) (gx Γ (nI (i + 2)).toNatClampNeg)).1 ≤ 1 := by
    unfold fFirst; repeat (first | exact Nat.zero_le _ | refine gd_le ?_ (by decide))
  refine p_callSH (as := [.ref T0, .int (gx Γ (nI (i + 1)).toNatClampNeg), .int (gx Γ (nI (i + 2)).toNatClampNeg), .ref oL0]) (st := []) (mc2 := 8 * n) (ms2 := 48 * n) 1180 rfl dL_law_1177 (w_first (gx Γ (nI (i + 1)).toNatClampNeg) (gx Γ (nI (i + 2)).toNatClampNeg) hle (t_first hI (gx Γ (nI (i + 1)).toNatClampNeg) (gx Γ (nI (i + 2)).toNatClampNeg))) (fun x σ' h => by cases h.1) mh_L_189 sl_L_first rfl rfl (Nat.le_of_ble_eq_true rfl) (Nat.le_of_ble_eq_true rfl) (by omega) (by omega) (fun v σ1 h => ?_)
  obtain ⟨he, σ0, ⟨hI0, hC0⟩, hs⟩ := h
  injection he with he
  subst he
  have hI1 : IT σ1 o o2 A := by
    rcases hs with ⟨_, e⟩ | ⟨_, e⟩
    · rw [e]; exact hI0.sl
    · rw [e]; exact hI0
  have hR1 : RM σ1 A := by
    rcases hs with ⟨_, e⟩ | ⟨_, e⟩
    · rw [e]; exact (hR.c hC0).sl
    · rw [e]; exact hR.c hC0
  refine p_ist_5 1182 rfl dL_law_1180 (Nat.le_of_ble_eq_true rfl) rfl ?_
  refine p_aload_n 2 1183 rfl rfl dL_law_1182 rfl ?_
  refine p_aload_n 0 1184 rfl rfl dL_law_1183 rfl ?_
  refine p_iload 4 1186 rfl dL_law_1184 rfl ?_
  refine p_iconst (1) 1187 rfl dL_law_1186 rfl ?_
  refine p_iadd 1188 rfl dL_law_1187 ?_
  rw [show nI i + 1 = nI (i + 1) from nI_add _ 1]
  refine p_sld 1189 rfl dL_law_1188 (vp_in_nI (by omega) (by omega)) ?_
  refine p_aload_n 0 1190 rfl rfl dL_law_1189 rfl ?_
  refine p_iload 4 1192 rfl dL_law_1190 rfl ?_
  refine p_iconst (2) 1193 rfl dL_law_1192 rfl ?_
  refine p_iadd 1194 rfl dL_law_1193 ?_
  rw [show nI i + 2 = nI (i + 2) from nI_add _ 2]
  refine p_sld 1195 rfl dL_law_1194 (vp_in_nI (by omega) (by omega)) ?_
  refine p_callV (as := [.int (gx Γ (nI (i + 1)).toNatClampNeg), .int (gx Γ (nI (i + 2)).toNatClampNeg)]) (st := []) (mc2 := 8 * n) (ms2 := 48 * n) 1198 rfl dL_law_1195 (q_first hR1 (gx Γ (nI (i + 1)).toNatClampNeg) (gx Γ (nI (i + 2)).toNatClampNeg)) ml_L_191 vl_X9_first rfl (by decide) rfl rfl rfl (Nat.le_of_ble_eq_true rfl) (Nat.le_of_ble_eq_true rfl) (by omega) (by omega) rfl (fun v σ2 h => ?_) (fun x σ' h => by obtain ⟨_, h, _⟩ := h; cases h)
  obtain ⟨v0, he, hth, hv, hR2, hC2⟩ := h
  injection he with he
  subst he
  have hI2 := hI1.m hC2
  refine p_ist_6 1200 rfl dL_law_1198 (Nat.le_of_ble_eq_true rfl) rfl ?_
  refine p_aload_n 2 1201 rfl rfl dL_law_1200 rfl ?_
  refine p_cV0i 1204 rfl dL_law_1201 c_thrown ml_L_138 vl_X9_thrown rfl (by decide) rfl (Nat.le_of_ble_eq_true rfl) (Nat.le_of_ble_eq_true rfl) rfl ?_
  rw [hth]
  refine p_iload 5 1206 rfl dL_law_1204 rfl ?_
  refine p_icmp_eq 1211 1209 rfl rfl dL_law_1206 (fun _ => ?_) (fun h => absurd rfl h)
  refine p_iload 5 1213 rfl dL_law_1211 rfl ?_
  refine p_if_ne 1228 1216 rfl rfl dL_law_1213 (fun hne => ?_) (fun h0 => ?_)
  · refine p_goto 2707 rfl dL_law_1228 ?_
    exact kk _ _ _ _ ⟨⟨_, _, hI2⟩, hR2⟩
  · have hs0 : (fFirst A (gx Γ (nI (i + 1)).toNatClampNeg) (gx Γ (nI (i + 2)).toNatClampNeg)).1 = 0 := nI_eqI (show nI _ = nI 0 from h0) (by omega) (by decide)
    refine p_aload_n 3 1217 rfl rfl dL_law_1216 rfl ?_
    refine p_iconst (0) 1218 rfl dL_law_1217 rfl ?_
    refine p_lald 1219 rfl dL_law_1218 rfl in_o ?_
    refine p_iload 6 1221 rfl dL_law_1219 rfl ?_
    refine p_i2l 1222 rfl dL_law_1221 ?_
    refine p_lcmp 1223 rfl dL_law_1222 ?_
    refine p_if_eq 1228 1226 rfl rfl dL_law_1223 (fun _ => ?_) (fun h => absurd ((lg_cmp_eq _ _).mpr ?_) h)
    · refine p_goto 2707 rfl dL_law_1228 ?_
      exact kk _ _ _ _ ⟨⟨_, _, hI2⟩, hR2⟩
    · rw [hC2.2.1, hv hs0]
      rcases hs with ⟨_, e⟩ | ⟨e, _⟩
      · rw [e]; exact hL_sL _ _ _ _
      · exact absurd hs0 e
set_option maxRecDepth 8000 in
theorem g_17 (hi : i + 6 ≤ gL Γ) (hL3 : gL Γ ≤ 384) (hB : BO σ A) (kk : ∀ (σ' : PH) (A' : AT) (x5 x6 : Option Value), BO σ' A' → Ok Γ 60 (8 * n) (48 * n) mL_law 2707 [some (.ref 27), some (.ref T0), some (.ref M0), some (.ref oL0), some (.int (nI i)), x5, x6] [] σ' rLw) : Ok Γ 60 (8 * n + 8) (48 * n + 48) mL_law 1231 [some (.ref 27), some (.ref T0), some (.ref M0), some (.ref oL0), some (.int (nI i)), x5, x6] [] σ rLw := by
  obtain ⟨⟨o, o2, hI⟩, hR⟩ := hB
  refine p_aload_n 1 1232 rfl rfl dL_law_1231 rfl ?_
  refine p_aload_n 0 1233 rfl rfl dL_law_1232 rfl ?_
  refine p_iload 4 1235 rfl dL_law_1233 rfl ?_
  refine p_iconst (1) 1236 rfl dL_law_1235 rfl ?_
  refine p_iadd 1237 rfl dL_law_1236 ?_
  rw [show nI i + 1 = nI (i + 1) from nI_add _ 1]
  refine p_sld 1238 rfl dL_law_1237 (vp_in_nI (by omega) (by omega)) ?_
  refine p_aload_n 0 1239 rfl rfl dL_law_1238 rfl ?_
  refine p_iload 4 1241 rfl dL_law_1239 rfl ?_
  refine p_iconst (2) 1242 rfl dL_law_1241 rfl ?_
  refine p_iadd 1243 rfl dL_law_1242 ?_
  rw [show nI i + 2 = nI (i + 2) from nI_add _ 2]
  refine p_sld 1244 rfl dL_law_1243 (vp_in_nI (by omega) (by omega)) ?_
  refine p_aload_n 3 1245 rfl rfl dL_law_1244 rfl ?_
  have hle : (fRead A (gx Γ (nI (i + 1)).toNatClampNeg) (gx Γ (nI (i + 2)).toNatClampNeg)).1 ≤ 2 := by
    unfold fRead; repeat (first | exact Nat.zero_le _ | refine gd_le ?_ (by decide))
  refine p_callSH (as := [.ref T0, .int (gx Γ (nI (i + 1)).toNatClampNeg), .int (gx Γ (nI (i + 2)).toNatClampNeg), .ref oL0]) (st := []) (mc2 := 8 * n) (ms2 := 48 * n) 1248 rfl dL_law_1245 (w_read (gx Γ (nI (i + 1)).toNatClampNeg) (gx Γ (nI (i + 2)).toNatClampNeg) hle (t_read hI (gx Γ (nI (i + 1)).toNatClampNeg) (gx Γ (nI (i + 2)).toNatClampNeg))) (fun x σ' h => by cases h.1) mh_L_192 sl_L_read rfl rfl (Nat.le_of_ble_eq_true rfl) (Nat.le_of_ble_eq_true rfl) (by omega) (by omega) (fun v σ1 h => ?_)
  obtain ⟨he, σ0, ⟨hI0, hC0⟩, hs⟩ := h
  injection he with he
  subst he
  have hI1 : IT σ1 o o2 A := by
    rcases hs with ⟨_, e⟩ | ⟨_, e⟩
    · rw [e]; exact hI0.sl
    · rw [e]; exact hI0
  have hR1 : RM σ1 A := by
    rcases hs with ⟨_, e⟩ | ⟨_, e⟩
    · rw [e]; exact (hR.c hC0).sl
    · rw [e]; exact hR.c hC0
  refine p_ist_5 1250 rfl dL_law_1248 (Nat.le_of_ble_eq_true rfl) rfl ?_
  refine p_aload_n 2 1251 rfl rfl dL_law_1250 rfl ?_
  refine p_aload_n 0 1252 rfl rfl dL_law_1251 rfl ?_
  refine p_iload 4 1254 rfl dL_law_1252 rfl ?_
  refine p_iconst (1) 1255 rfl dL_law_1254 rfl ?_
  refine p_iadd 1256 rfl dL_law_1255 ?_
  rw [show nI i + 1 = nI (i + 1) from nI_add _ 1]
  refine p_sld 1257 rfl dL_law_1256 (vp_in_nI (by omega) (by omega)) ?_
  refine p_aload_n 0 1258 rfl rfl dL_law_1257 rfl ?_
  refine p_iload 4 1260 rfl dL_law_1258 rfl ?_
  refine p_iconst (2) 1261 rfl dL_law_1260 rfl ?_
  refine p_iadd 1262 rfl dL_law_1261 ?_
  rw [show nI i + 2 = nI (i + 2) from nI_add _ 2]
  refine p_sld 1263 rfl dL_law_1262 (vp_in_nI (by omega) (by omega)) ?_
  refine p_callV (as := [.int (gx Γ (nI (i + 1)).toNatClampNeg), .int (gx Γ (nI (i + 2)).toNatClampNeg)]) (st := []) (mc2 := 8 * n) (ms2 := 48 * n) 1266 rfl dL_law_1263 (q_read hR1 (gx Γ (nI (i + 1)).toNatClampNeg) (gx Γ (nI (i + 2)).toNatClampNeg)) ml_L_194 vl_X9_read rfl (by decide) rfl rfl rfl (Nat.le_of_ble_eq_true rfl) (Nat.le_of_ble_eq_true rfl) (by omega) (by omega) rfl (fun v σ2 h => ?_) (fun x σ' h => by obtain ⟨_, h, _⟩ := h; cases h)
  obtain ⟨v0, he, hth, hv, hR2, hC2⟩ := h
  injection he with he
  subst he
  have hI2 := hI1.m hC2
  refine p_ist_6 1268 rfl dL_law_1266 (Nat.le_of_ble_eq_true rfl) rfl ?_
  refine p_aload_n 2 1269 rfl rfl dL_law_1268 rfl ?_
  refine p_cV0i 1272 rfl dL_law_1269 c_thrown ml_L_138 vl_X9_thrown rfl (by decide) rfl (Nat.le_of_ble_eq_true rfl) (Nat.le_of_ble_eq_true rfl) rfl ?_
  rw [hth]
  refine p_iload 5 1274 rfl dL_law_1272 rfl ?_
  refine p_icmp_eq 1279 1277 rfl rfl dL_law_1274 (fun _ => ?_) (fun h => absurd rfl h)
  refine p_iload 5 1281 rfl dL_law_1279 rfl ?_
  refine p_if_ne 1296 1284 rfl rfl dL_law_1281 (fun hne => ?_) (fun h0 => ?_)
  · refine p_goto 2707 rfl dL_law_1296 ?_
    exact kk _ _ _ _ ⟨⟨_, _, hI2⟩, hR2⟩
  · have hs0 : (fRead A (gx Γ (nI (i + 1)).toNatClampNeg) (gx Γ (nI (i + 2)).toNatClampNeg)).1 = 0 := nI_eqI (show nI _ = nI 0 from h0) (by omega) (by decide)
    refine p_aload_n 3 1285 rfl rfl dL_law_1284 rfl ?_
    refine p_iconst (0) 1286 rfl dL_law_1285 rfl ?_
    refine p_lald 1287 rfl dL_law_1286 rfl in_o ?_
    refine p_iload 6 1289 rfl dL_law_1287 rfl ?_
    refine p_i2l 1290 rfl dL_law_1289 ?_
    refine p_lcmp 1291 rfl dL_law_1290 ?_
    refine p_if_eq 1296 1294 rfl rfl dL_law_1291 (fun _ => ?_) (fun h => absurd ((lg_cmp_eq _ _).mpr ?_) h)
    · refine p_goto 2707 rfl dL_law_1296 ?_
      exact kk _ _ _ _ ⟨⟨_, _, hI2⟩, hR2⟩
    · rw [hC2.2.1, hv hs0]
      rcases hs with ⟨_, e⟩ | ⟨e, _⟩
      · rw [e]; exact hL_sL _ _ _ _
      · exact absurd hs0 e
set_option maxRecDepth 8000 in
theorem g_18 (hi : i + 6 ≤ gL Γ) (hL3 : gL Γ ≤ 384) (hB : BO σ A) (kk : ∀ (σ' : PH) (A' : AT) (x5 x6 : Option Value), BO σ' A' → Ok Γ 60 (8 * n) (48 * n) mL_law 2707 [some (.ref 27), some (.ref T0), some (.ref M0), some (.ref oL0), some (.int (nI i)), x5, x6] [] σ' rLw) : Ok Γ 60 (8 * n + 8) (48 * n + 48) mL_law 1299 [some (.ref 27), some (.ref T0), some (.ref M0), some (.ref oL0), some (.int (nI i)), x5, x6] [] σ rLw := by
  obtain ⟨⟨o, o2, hI⟩, hR⟩ := hB
  refine p_aload_n 1 1300 rfl rfl dL_law_1299 rfl ?_
  refine p_aload_n 0 1301 rfl rfl dL_law_1300 rfl ?_
  refine p_iload 4 1303 rfl dL_law_1301 rfl ?_
  refine p_iconst (1) 1304 rfl dL_law_1303 rfl ?_
  refine p_iadd 1305 rfl dL_law_1304 ?_
  rw [show nI i + 1 = nI (i + 1) from nI_add _ 1]
  refine p_sld 1306 rfl dL_law_1305 (vp_in_nI (by omega) (by omega)) ?_
  refine p_aload_n 3 1307 rfl rfl dL_law_1306 rfl ?_
  have hle : (fMould A (gx Γ (nI (i + 1)).toNatClampNeg)).1 ≤ 1 := by
    unfold fMould; repeat (first | exact Nat.zero_le _ | refine gd_le ?_ (by decide))
  refine p_callSH (as := [.ref T0, .int (gx Γ (nI (i + 1)).toNatClampNeg), .ref oL0]) (st := []) (mc2 := 8 * n) (ms2 := 48 * n) 1310 rfl dL_law_1307 (w_mould (gx Γ (nI (i + 1)).toNatClampNeg) hle (t_mould hI (gx Γ (nI (i + 1)).toNatClampNeg))) (fun x σ' h => by cases h.1) mh_L_195 sl_L_mould rfl rfl (Nat.le_of_ble_eq_true rfl) (Nat.le_of_ble_eq_true rfl) (by omega) (by omega) (fun v σ1 h => ?_)
  obtain ⟨he, σ0, ⟨hI0, hC0⟩, hs⟩ := h
  injection he with he
  subst he
  have hI1 : IT σ1 o o2 A := by
    rcases hs with ⟨_, e⟩ | ⟨_, e⟩
    · rw [e]; exact hI0.sl
    · rw [e]; exact hI0
  have hR1 : RM σ1 A := by
    rcases hs with ⟨_, e⟩ | ⟨_, e⟩
    · rw [e]; exact (hR.c hC0).sl
    · rw [e]; exact hR.c hC0
  refine p_ist_5 1312 rfl dL_law_1310 (Nat.le_of_ble_eq_true rfl) rfl ?_
  refine p_aload_n 2 1313 rfl rfl dL_law_1312 rfl ?_
  refine p_aload_n 0 1314 rfl rfl dL_law_1313 rfl ?_
  refine p_iload 4 1316 rfl dL_law_1314 rfl ?_
  refine p_iconst (1) 1317 rfl dL_law_1316 rfl ?_
  refine p_iadd 1318 rfl dL_law_1317 ?_
  rw [show nI i + 1 = nI (i + 1) from nI_add _ 1]
  refine p_sld 1319 rfl dL_law_1318 (vp_in_nI (by omega) (by omega)) ?_
  refine p_callV (as := [.int (gx Γ (nI (i + 1)).toNatClampNeg)]) (st := []) (mc2 := 8 * n) (ms2 := 48 * n) 1322 rfl dL_law_1319 (q_mould hR1 (gx Γ (nI (i + 1)).toNatClampNeg)) ml_L_197 vl_X9_mould rfl (by decide) rfl rfl rfl (Nat.le_of_ble_eq_true rfl) (Nat.le_of_ble_eq_true rfl) (by omega) (by omega) rfl (fun v σ2 h => ?_) (fun x σ' h => by obtain ⟨_, h, _⟩ := h; cases h)
  obtain ⟨v0, he, hth, hv, hR2, hC2⟩ := h
  injection he with he
  subst he
  have hI2 := hI1.m hC2
  refine p_ist_6 1324 rfl dL_law_1322 (Nat.le_of_ble_eq_true rfl) rfl ?_
  refine p_aload_n 2 1325 rfl rfl dL_law_1324 rfl ?_
  refine p_cV0i 1328 rfl dL_law_1325 c_thrown ml_L_138 vl_X9_thrown rfl (by decide) rfl (Nat.le_of_ble_eq_true rfl) (Nat.le_of_ble_eq_true rfl) rfl ?_
  rw [hth]
  refine p_iload 5 1330 rfl dL_law_1328 rfl ?_
  refine p_icmp_eq 1335 1333 rfl rfl dL_law_1330 (fun _ => ?_) (fun h => absurd rfl h)
  refine p_iload 5 1337 rfl dL_law_1335 rfl ?_
  refine p_if_ne 1352 1340 rfl rfl dL_law_1337 (fun hne => ?_) (fun h0 => ?_)
  · refine p_goto 2707 rfl dL_law_1352 ?_
    exact kk _ _ _ _ ⟨⟨_, _, hI2⟩, hR2⟩
  · have hs0 : (fMould A (gx Γ (nI (i + 1)).toNatClampNeg)).1 = 0 := nI_eqI (show nI _ = nI 0 from h0) (by omega) (by decide)
    refine p_aload_n 3 1341 rfl rfl dL_law_1340 rfl ?_
    refine p_iconst (0) 1342 rfl dL_law_1341 rfl ?_
    refine p_lald 1343 rfl dL_law_1342 rfl in_o ?_
    refine p_iload 6 1345 rfl dL_law_1343 rfl ?_
    refine p_i2l 1346 rfl dL_law_1345 ?_
    refine p_lcmp 1347 rfl dL_law_1346 ?_
    refine p_if_eq 1352 1350 rfl rfl dL_law_1347 (fun _ => ?_) (fun h => absurd ((lg_cmp_eq _ _).mpr ?_) h)
    · refine p_goto 2707 rfl dL_law_1352 ?_
      exact kk _ _ _ _ ⟨⟨_, _, hI2⟩, hR2⟩
    · rw [hC2.2.1, hv hs0]
      rcases hs with ⟨_, e⟩ | ⟨e, _⟩
      · rw [e]; exact hL_sL _ _ _ _
      · exact absurd hs0 e
set_option maxRecDepth 8000 in
theorem g_19 (hi : i + 6 ≤ gL Γ) (hL3 : gL Γ ≤ 384) (hB : BO σ A) (kk : ∀ (σ' : PH) (A' : AT) (x5 x6 : Option Value), BO σ' A' → Ok Γ 60 (8 * n) (48 * n) mL_law 2707 [some (.ref 27), some (.ref T0), some (.ref M0), some (.ref oL0), some (.int (nI i)), x5, x6] [] σ' rLw) : Ok Γ 60 (8 * n + 8) (48 * n + 48) mL_law 1355 [some (.ref 27), some (.ref T0), some (.ref M0), some (.ref oL0), some (.int (nI i)), x5, x6] [] σ rLw := by
  obtain ⟨⟨o, o2, hI⟩, hR⟩ := hB
  refine p_aload_n 1 1356 rfl rfl dL_law_1355 rfl ?_
  refine p_aload_n 0 1357 rfl rfl dL_law_1356 rfl ?_
  refine p_iload 4 1359 rfl dL_law_1357 rfl ?_
  refine p_iconst (1) 1360 rfl dL_law_1359 rfl ?_
  refine p_iadd 1361 rfl dL_law_1360 ?_
  rw [show nI i + 1 = nI (i + 1) from nI_add _ 1]
  refine p_sld 1362 rfl dL_law_1361 (vp_in_nI (by omega) (by omega)) ?_
  refine p_aload_n 0 1363 rfl rfl dL_law_1362 rfl ?_
  refine p_iload 4 1365 rfl dL_law_1363 rfl ?_
  refine p_iconst (2) 1366 rfl dL_law_1365 rfl ?_
  refine p_iadd 1367 rfl dL_law_1366 ?_
  rw [show nI i + 2 = nI (i + 2) from nI_add _ 2]
  refine p_sld 1368 rfl dL_law_1367 (vp_in_nI (by omega) (by omega)) ?_
  refine p_aload_n 3 1369 rfl rfl dL_law_1368 rfl ?_
  have hle : (fMeet A (gx Γ (nI (i + 1)).toNatClampNeg) (gx Γ (nI (i + 2)).toNatClampNeg)).1 ≤ 1 := by
    unfold fMeet; repeat (first | exact Nat.zero_le _ | refine gd_le ?_ (by decide))
  refine p_callSH (as := [.ref T0, .int (gx Γ (nI (i + 1)).toNatClampNeg), .int (gx Γ (nI (i + 2)).toNatClampNeg), .ref oL0]) (st := []) (mc2 := 8 * n) (ms2 := 48 * n) 1372 rfl dL_law_1369 (w_meet (gx Γ (nI (i + 1)).toNatClampNeg) (gx Γ (nI (i + 2)).toNatClampNeg) hle (t_meet hI (gx Γ (nI (i + 1)).toNatClampNeg) (gx Γ (nI (i + 2)).toNatClampNeg))) (fun x σ' h => by cases h.1) mh_L_198 sl_L_meet rfl rfl (Nat.le_of_ble_eq_true rfl) (Nat.le_of_ble_eq_true rfl) (by omega) (by omega) (fun v σ1 h => ?_)
  obtain ⟨he, σ0, ⟨hI0, hC0⟩, hs⟩ := h
  injection he with he
  subst he
  have hI1 : IT σ1 o o2 A := by
    rcases hs with ⟨_, e⟩ | ⟨_, e⟩
    · rw [e]; exact hI0.sl
    · rw [e]; exact hI0
  have hR1 : RM σ1 A := by
    rcases hs with ⟨_, e⟩ | ⟨_, e⟩
    · rw [e]; exact (hR.c hC0).sl
    · rw [e]; exact hR.c hC0
  refine p_ist_5 1374 rfl dL_law_1372 (Nat.le_of_ble_eq_true rfl) rfl ?_
  refine p_aload_n 2 1375 rfl rfl dL_law_1374 rfl ?_
  refine p_aload_n 0 1376 rfl rfl dL_law_1375 rfl ?_
  refine p_iload 4 1378 rfl dL_law_1376 rfl ?_
  refine p_iconst (1) 1379 rfl dL_law_1378 rfl ?_
  refine p_iadd 1380 rfl dL_law_1379 ?_
  rw [show nI i + 1 = nI (i + 1) from nI_add _ 1]
  refine p_sld 1381 rfl dL_law_1380 (vp_in_nI (by omega) (by omega)) ?_
  refine p_aload_n 0 1382 rfl rfl dL_law_1381 rfl ?_
  refine p_iload 4 1384 rfl dL_law_1382 rfl ?_
  refine p_iconst (2) 1385 rfl dL_law_1384 rfl ?_
  refine p_iadd 1386 rfl dL_law_1385 ?_
  rw [show nI i + 2 = nI (i + 2) from nI_add _ 2]
  refine p_sld 1387 rfl dL_law_1386 (vp_in_nI (by omega) (by omega)) ?_
  refine p_callV (as := [.int (gx Γ (nI (i + 1)).toNatClampNeg), .int (gx Γ (nI (i + 2)).toNatClampNeg)]) (st := []) (mc2 := 8 * n) (ms2 := 48 * n) 1390 rfl dL_law_1387 (q_meet hR1 (gx Γ (nI (i + 1)).toNatClampNeg) (gx Γ (nI (i + 2)).toNatClampNeg)) ml_L_200 vl_X9_meet rfl (by decide) rfl rfl rfl (Nat.le_of_ble_eq_true rfl) (Nat.le_of_ble_eq_true rfl) (by omega) (by omega) rfl (fun v σ2 h => ?_) (fun x σ' h => by obtain ⟨_, h, _⟩ := h; cases h)
  obtain ⟨v0, he, hth, hv, hR2, hC2⟩ := h
  injection he with he
  subst he
  have hI2 := hI1.m hC2
  refine p_ist_6 1392 rfl dL_law_1390 (Nat.le_of_ble_eq_true rfl) rfl ?_
  refine p_aload_n 2 1393 rfl rfl dL_law_1392 rfl ?_
  refine p_cV0i 1396 rfl dL_law_1393 c_thrown ml_L_138 vl_X9_thrown rfl (by decide) rfl (Nat.le_of_ble_eq_true rfl) (Nat.le_of_ble_eq_true rfl) rfl ?_
  rw [hth]
  refine p_iload 5 1398 rfl dL_law_1396 rfl ?_
  refine p_icmp_eq 1403 1401 rfl rfl dL_law_1398 (fun _ => ?_) (fun h => absurd rfl h)
  refine p_iload 5 1405 rfl dL_law_1403 rfl ?_
  refine p_if_ne 1420 1408 rfl rfl dL_law_1405 (fun hne => ?_) (fun h0 => ?_)
  · refine p_goto 2707 rfl dL_law_1420 ?_
    exact kk _ _ _ _ ⟨⟨_, _, hI2⟩, hR2⟩
  · have hs0 : (fMeet A (gx Γ (nI (i + 1)).toNatClampNeg) (gx Γ (nI (i + 2)).toNatClampNeg)).1 = 0 := nI_eqI (show nI _ = nI 0 from h0) (by omega) (by decide)
    refine p_aload_n 3 1409 rfl rfl dL_law_1408 rfl ?_
    refine p_iconst (0) 1410 rfl dL_law_1409 rfl ?_
    refine p_lald 1411 rfl dL_law_1410 rfl in_o ?_
    refine p_iload 6 1413 rfl dL_law_1411 rfl ?_
    refine p_i2l 1414 rfl dL_law_1413 ?_
    refine p_lcmp 1415 rfl dL_law_1414 ?_
    refine p_if_eq 1420 1418 rfl rfl dL_law_1415 (fun _ => ?_) (fun h => absurd ((lg_cmp_eq _ _).mpr ?_) h)
    · refine p_goto 2707 rfl dL_law_1420 ?_
      exact kk _ _ _ _ ⟨⟨_, _, hI2⟩, hR2⟩
    · rw [hC2.2.1, hv hs0]
      rcases hs with ⟨_, e⟩ | ⟨e, _⟩
      · rw [e]; exact hL_sL _ _ _ _
      · exact absurd hs0 e
set_option maxRecDepth 8000 in
theorem g_20 (hi : i + 6 ≤ gL Γ) (hL3 : gL Γ ≤ 384) (hB : BO σ A) (kk : ∀ (σ' : PH) (A' : AT) (x5 x6 : Option Value), BO σ' A' → Ok Γ 60 (8 * n) (48 * n) mL_law 2707 [some (.ref 27), some (.ref T0), some (.ref M0), some (.ref oL0), some (.int (nI i)), x5, x6] [] σ' rLw) : Ok Γ 60 (8 * n + 8) (48 * n + 48) mL_law 1423 [some (.ref 27), some (.ref T0), some (.ref M0), some (.ref oL0), some (.int (nI i)), x5, x6] [] σ rLw := by
  obtain ⟨⟨o, o2, hI⟩, hR⟩ := hB
  refine p_aload_n 1 1424 rfl rfl dL_law_1423 rfl ?_
  refine p_aload_n 0 1425 rfl rfl dL_law_1424 rfl ?_
  refine p_iload 4 1427 rfl dL_law_1425 rfl ?_
  refine p_iconst (1) 1428 rfl dL_law_1427 rfl ?_
  refine p_iadd 1429 rfl dL_law_1428 ?_
  rw [show nI i + 1 = nI (i + 1) from nI_add _ 1]
  refine p_sld 1430 rfl dL_law_1429 (vp_in_nI (by omega) (by omega)) ?_
  refine p_aload_n 3 1431 rfl rfl dL_law_1430 rfl ?_
  have hle : (fGath A (gx Γ (nI (i + 1)).toNatClampNeg)).1 ≤ 1 := by
    unfold fGath; repeat (first | exact Nat.zero_le _ | refine gd_le ?_ (by decide))
  refine p_callSH (as := [.ref T0, .int (gx Γ (nI (i + 1)).toNatClampNeg), .ref oL0]) (st := []) (mc2 := 8 * n) (ms2 := 48 * n) 1434 rfl dL_law_1431 (w_gathering (gx Γ (nI (i + 1)).toNatClampNeg) hle (t_gathering hI (gx Γ (nI (i + 1)).toNatClampNeg))) (fun x σ' h => by cases h.1) mh_L_201 sl_L_gathering rfl rfl (Nat.le_of_ble_eq_true rfl) (Nat.le_of_ble_eq_true rfl) (by omega) (by omega) (fun v σ1 h => ?_)
  obtain ⟨he, σ0, ⟨hI0, hC0⟩, hs⟩ := h
  injection he with he
  subst he
  have hI1 : IT σ1 o o2 A := by
    rcases hs with ⟨_, e⟩ | ⟨_, e⟩
    · rw [e]; exact hI0.sl
    · rw [e]; exact hI0
  have hR1 : RM σ1 A := by
    rcases hs with ⟨_, e⟩ | ⟨_, e⟩
    · rw [e]; exact (hR.c hC0).sl
    · rw [e]; exact hR.c hC0
  refine p_ist_5 1436 rfl dL_law_1434 (Nat.le_of_ble_eq_true rfl) rfl ?_
  refine p_aload_n 2 1437 rfl rfl dL_law_1436 rfl ?_
  refine p_aload_n 0 1438 rfl rfl dL_law_1437 rfl ?_
  refine p_iload 4 1440 rfl dL_law_1438 rfl ?_
  refine p_iconst (1) 1441 rfl dL_law_1440 rfl ?_
  refine p_iadd 1442 rfl dL_law_1441 ?_
  rw [show nI i + 1 = nI (i + 1) from nI_add _ 1]
  refine p_sld 1443 rfl dL_law_1442 (vp_in_nI (by omega) (by omega)) ?_
  refine p_callV (as := [.int (gx Γ (nI (i + 1)).toNatClampNeg)]) (st := []) (mc2 := 8 * n) (ms2 := 48 * n) 1446 rfl dL_law_1443 (q_gathering hR1 (gx Γ (nI (i + 1)).toNatClampNeg)) ml_L_203 vl_X9_gathering rfl (by decide) rfl rfl rfl (Nat.le_of_ble_eq_true rfl) (Nat.le_of_ble_eq_true rfl) (by omega) (by omega) rfl (fun v σ2 h => ?_) (fun x σ' h => by obtain ⟨_, h, _⟩ := h; cases h)
  obtain ⟨v0, he, hth, hv, hR2, hC2⟩ := h
  injection he with he
  subst he
  have hI2 := hI1.m hC2
  refine p_ist_6 1448 rfl dL_law_1446 (Nat.le_of_ble_eq_true rfl) rfl ?_
  refine p_aload_n 2 1449 rfl rfl dL_law_1448 rfl ?_
  refine p_cV0i 1452 rfl dL_law_1449 c_thrown ml_L_138 vl_X9_thrown rfl (by decide) rfl (Nat.le_of_ble_eq_true rfl) (Nat.le_of_ble_eq_true rfl) rfl ?_
  rw [hth]
  refine p_iload 5 1454 rfl dL_law_1452 rfl ?_
  refine p_icmp_eq 1459 1457 rfl rfl dL_law_1454 (fun _ => ?_) (fun h => absurd rfl h)
  refine p_iload 5 1461 rfl dL_law_1459 rfl ?_
  refine p_if_ne 1476 1464 rfl rfl dL_law_1461 (fun hne => ?_) (fun h0 => ?_)
  · refine p_goto 2707 rfl dL_law_1476 ?_
    exact kk _ _ _ _ ⟨⟨_, _, hI2⟩, hR2⟩
  · have hs0 : (fGath A (gx Γ (nI (i + 1)).toNatClampNeg)).1 = 0 := nI_eqI (show nI _ = nI 0 from h0) (by omega) (by decide)
    refine p_aload_n 3 1465 rfl rfl dL_law_1464 rfl ?_
    refine p_iconst (0) 1466 rfl dL_law_1465 rfl ?_
    refine p_lald 1467 rfl dL_law_1466 rfl in_o ?_
    refine p_iload 6 1469 rfl dL_law_1467 rfl ?_
    refine p_i2l 1470 rfl dL_law_1469 ?_
    refine p_lcmp 1471 rfl dL_law_1470 ?_
    refine p_if_eq 1476 1474 rfl rfl dL_law_1471 (fun _ => ?_) (fun h => absurd ((lg_cmp_eq _ _).mpr ?_) h)
    · refine p_goto 2707 rfl dL_law_1476 ?_
      exact kk _ _ _ _ ⟨⟨_, _, hI2⟩, hR2⟩
    · rw [hC2.2.1, hv hs0]
      rcases hs with ⟨_, e⟩ | ⟨e, _⟩
      · rw [e]; exact hL_sL _ _ _ _
      · exact absurd hs0 e
set_option maxRecDepth 8000 in
theorem g_21 (hi : i + 6 ≤ gL Γ) (hL3 : gL Γ ≤ 384) (hB : BO σ A) (kk : ∀ (σ' : PH) (A' : AT) (x5 x6 : Option Value), BO σ' A' → Ok Γ 60 (8 * n) (48 * n) mL_law 2707 [some (.ref 27), some (.ref T0), some (.ref M0), some (.ref oL0), some (.int (nI i)), x5, x6] [] σ' rLw) : Ok Γ 60 (8 * n + 8) (48 * n + 48) mL_law 1479 [some (.ref 27), some (.ref T0), some (.ref M0), some (.ref oL0), some (.int (nI i)), x5, x6] [] σ rLw := by
  obtain ⟨⟨o, o2, hI⟩, hR⟩ := hB
  refine p_aload_n 1 1480 rfl rfl dL_law_1479 rfl ?_
  refine p_aload_n 0 1481 rfl rfl dL_law_1480 rfl ?_
  refine p_iload 4 1483 rfl dL_law_1481 rfl ?_
  refine p_iconst (1) 1484 rfl dL_law_1483 rfl ?_
  refine p_iadd 1485 rfl dL_law_1484 ?_
  rw [show nI i + 1 = nI (i + 1) from nI_add _ 1]
  refine p_sld 1486 rfl dL_law_1485 (vp_in_nI (by omega) (by omega)) ?_
  refine p_aload_n 3 1487 rfl rfl dL_law_1486 rfl ?_
  have hle : (fRow A (gx Γ (nI (i + 1)).toNatClampNeg)).1 ≤ 1 := by
    unfold fRow; split
    · exact Nat.zero_le _
    · exact gd_le (Nat.zero_le _) (by decide)
  refine p_callSH (as := [.ref T0, .int (gx Γ (nI (i + 1)).toNatClampNeg), .ref oL0]) (st := []) (mc2 := 8 * n) (ms2 := 48 * n) 1490 rfl dL_law_1487 (w_row (gx Γ (nI (i + 1)).toNatClampNeg) hle (t_row hI (gx Γ (nI (i + 1)).toNatClampNeg))) (fun x σ' h => by cases h.1) mh_L_204 sl_L_row rfl rfl (Nat.le_of_ble_eq_true rfl) (Nat.le_of_ble_eq_true rfl) (by omega) (by omega) (fun v σ1 h => ?_)
  obtain ⟨he, σ0, ⟨hI0, hC0⟩, hs⟩ := h
  injection he with he
  subst he
  have hI1 : IT σ1 o o2 A := by
    rcases hs with ⟨_, e⟩ | ⟨_, e⟩
    · rw [e]; exact hI0.sl
    · rw [e]; exact hI0
  have hR1 : RM σ1 A := by
    rcases hs with ⟨_, e⟩ | ⟨_, e⟩
    · rw [e]; exact (hR.c hC0).sl
    · rw [e]; exact hR.c hC0
  refine p_ist_5 1492 rfl dL_law_1490 (Nat.le_of_ble_eq_true rfl) rfl ?_
  refine p_aload_n 2 1493 rfl rfl dL_law_1492 rfl ?_
  refine p_aload_n 0 1494 rfl rfl dL_law_1493 rfl ?_
  refine p_iload 4 1496 rfl dL_law_1494 rfl ?_
  refine p_iconst (1) 1497 rfl dL_law_1496 rfl ?_
  refine p_iadd 1498 rfl dL_law_1497 ?_
  rw [show nI i + 1 = nI (i + 1) from nI_add _ 1]
  refine p_sld 1499 rfl dL_law_1498 (vp_in_nI (by omega) (by omega)) ?_
  refine p_callV (as := [.int (gx Γ (nI (i + 1)).toNatClampNeg)]) (st := []) (mc2 := 8 * n) (ms2 := 48 * n) 1502 rfl dL_law_1499 (q_row hR1 (gx Γ (nI (i + 1)).toNatClampNeg)) ml_L_206 vl_X9_row rfl (by decide) rfl rfl rfl (Nat.le_of_ble_eq_true rfl) (Nat.le_of_ble_eq_true rfl) (by omega) (by omega) rfl (fun v σ2 h => ?_) (fun x σ' h => by obtain ⟨_, h, _⟩ := h; cases h)
  obtain ⟨v0, he, hth, hv, hR2, hC2⟩ := h
  injection he with he
  subst he
  have hI2 := hI1.m hC2
  refine p_ist_6 1504 rfl dL_law_1502 (Nat.le_of_ble_eq_true rfl) rfl ?_
  refine p_aload_n 2 1505 rfl rfl dL_law_1504 rfl ?_
  refine p_cV0i 1508 rfl dL_law_1505 c_thrown ml_L_138 vl_X9_thrown rfl (by decide) rfl (Nat.le_of_ble_eq_true rfl) (Nat.le_of_ble_eq_true rfl) rfl ?_
  rw [hth]
  refine p_iload 5 1510 rfl dL_law_1508 rfl ?_
  refine p_icmp_eq 1515 1513 rfl rfl dL_law_1510 (fun _ => ?_) (fun h => absurd rfl h)
  refine p_iload 5 1517 rfl dL_law_1515 rfl ?_
  refine p_if_ne 1532 1520 rfl rfl dL_law_1517 (fun hne => ?_) (fun h0 => ?_)
  · refine p_goto 2707 rfl dL_law_1532 ?_
    exact kk _ _ _ _ ⟨⟨_, _, hI2⟩, hR2⟩
  · have hs0 : (fRow A (gx Γ (nI (i + 1)).toNatClampNeg)).1 = 0 := nI_eqI (show nI _ = nI 0 from h0) (by omega) (by decide)
    refine p_aload_n 3 1521 rfl rfl dL_law_1520 rfl ?_
    refine p_iconst (0) 1522 rfl dL_law_1521 rfl ?_
    refine p_lald 1523 rfl dL_law_1522 rfl in_o ?_
    refine p_iload 6 1525 rfl dL_law_1523 rfl ?_
    refine p_i2l 1526 rfl dL_law_1525 ?_
    refine p_lcmp 1527 rfl dL_law_1526 ?_
    refine p_if_eq 1532 1530 rfl rfl dL_law_1527 (fun _ => ?_) (fun h => absurd ((lg_cmp_eq _ _).mpr ?_) h)
    · refine p_goto 2707 rfl dL_law_1532 ?_
      exact kk _ _ _ _ ⟨⟨_, _, hI2⟩, hR2⟩
    · rw [hC2.2.1, hv hs0]
      rcases hs with ⟨_, e⟩ | ⟨e, _⟩
      · rw [e]; exact hL_sL _ _ _ _
      · exact absurd hs0 e
set_option maxRecDepth 8000 in
theorem g_22 (hi : i + 6 ≤ gL Γ) (hL3 : gL Γ ≤ 384) (hB : BO σ A) (kk : ∀ (σ' : PH) (A' : AT) (x5 x6 : Option Value), BO σ' A' → Ok Γ 60 (8 * n) (48 * n) mL_law 2707 [some (.ref 27), some (.ref T0), some (.ref M0), some (.ref oL0), some (.int (nI i)), x5, x6] [] σ' rLw) : Ok Γ 60 (8 * n + 8) (48 * n + 48) mL_law 1535 [some (.ref 27), some (.ref T0), some (.ref M0), some (.ref oL0), some (.int (nI i)), x5, x6] [] σ rLw := by
  obtain ⟨⟨o, o2, hI⟩, hR⟩ := hB
  refine p_aload_n 1 1536 rfl rfl dL_law_1535 rfl ?_
  refine p_aload_n 0 1537 rfl rfl dL_law_1536 rfl ?_
  refine p_iload 4 1539 rfl dL_law_1537 rfl ?_
  refine p_iconst (1) 1540 rfl dL_law_1539 rfl ?_
  refine p_iadd 1541 rfl dL_law_1540 ?_
  rw [show nI i + 1 = nI (i + 1) from nI_add _ 1]
  refine p_sld 1542 rfl dL_law_1541 (vp_in_nI (by omega) (by omega)) ?_
  refine p_aload_n 0 1543 rfl rfl dL_law_1542 rfl ?_
  refine p_iload 4 1545 rfl dL_law_1543 rfl ?_
  refine p_iconst (2) 1546 rfl dL_law_1545 rfl ?_
  refine p_iadd 1547 rfl dL_law_1546 ?_
  rw [show nI i + 2 = nI (i + 2) from nI_add _ 2]
  refine p_sld 1548 rfl dL_law_1547 (vp_in_nI (by omega) (by omega)) ?_
  refine p_aload_n 3 1549 rfl rfl dL_law_1548 rfl ?_
  have hle : (fToForge A (gx Γ (nI (i + 1)).toNatClampNeg) (gx Γ (nI (i + 2)).toNatClampNeg)).1 ≤ 1 := by
    unfold fToForge; repeat (first | exact Nat.zero_le _ | refine gd_le ?_ (by decide))
  refine p_callSH (as := [.ref T0, .int (gx Γ (nI (i + 1)).toNatClampNeg), .int (gx Γ (nI (i + 2)).toNatClampNeg), .ref oL0]) (st := []) (mc2 := 8 * n) (ms2 := 48 * n) 1552 rfl dL_law_1549 (w_toForge (gx Γ (nI (i + 1)).toNatClampNeg) (gx Γ (nI (i + 2)).toNatClampNeg) hle (t_toForge hI (gx Γ (nI (i + 1)).toNatClampNeg) (gx Γ (nI (i + 2)).toNatClampNeg))) (fun x σ' h => by cases h.1) mh_L_207 sl_L_toForge rfl rfl (Nat.le_of_ble_eq_true rfl) (Nat.le_of_ble_eq_true rfl) (by omega) (by omega) (fun v σ1 h => ?_)
  obtain ⟨he, σ0, ⟨hI0, hC0⟩, hs⟩ := h
  injection he with he
  subst he
  have hI1 : IT σ1 o o2 A := by
    rcases hs with ⟨_, e⟩ | ⟨_, e⟩
    · rw [e]; exact hI0.sl
    · rw [e]; exact hI0
  have hR1 : RM σ1 A := by
    rcases hs with ⟨_, e⟩ | ⟨_, e⟩
    · rw [e]; exact (hR.c hC0).sl
    · rw [e]; exact hR.c hC0
  refine p_ist_5 1554 rfl dL_law_1552 (Nat.le_of_ble_eq_true rfl) rfl ?_
  refine p_aload_n 2 1555 rfl rfl dL_law_1554 rfl ?_
  refine p_aload_n 0 1556 rfl rfl dL_law_1555 rfl ?_
  refine p_iload 4 1558 rfl dL_law_1556 rfl ?_
  refine p_iconst (1) 1559 rfl dL_law_1558 rfl ?_
  refine p_iadd 1560 rfl dL_law_1559 ?_
  rw [show nI i + 1 = nI (i + 1) from nI_add _ 1]
  refine p_sld 1561 rfl dL_law_1560 (vp_in_nI (by omega) (by omega)) ?_
  refine p_aload_n 0 1562 rfl rfl dL_law_1561 rfl ?_
  refine p_iload 4 1564 rfl dL_law_1562 rfl ?_
  refine p_iconst (2) 1565 rfl dL_law_1564 rfl ?_
  refine p_iadd 1566 rfl dL_law_1565 ?_
  rw [show nI i + 2 = nI (i + 2) from nI_add _ 2]
  refine p_sld 1567 rfl dL_law_1566 (vp_in_nI (by omega) (by omega)) ?_
  refine p_callV (as := [.int (gx Γ (nI (i + 1)).toNatClampNeg), .int (gx Γ (nI (i + 2)).toNatClampNeg)]) (st := []) (mc2 := 8 * n) (ms2 := 48 * n) 1570 rfl dL_law_1567 (q_toForge hR1 (gx Γ (nI (i + 1)).toNatClampNeg) (gx Γ (nI (i + 2)).toNatClampNeg)) ml_L_209 vl_X9_toForge rfl (by decide) rfl rfl rfl (Nat.le_of_ble_eq_true rfl) (Nat.le_of_ble_eq_true rfl) (by omega) (by omega) rfl (fun v σ2 h => ?_) (fun x σ' h => by obtain ⟨_, h, _⟩ := h; cases h)
  obtain ⟨v0, he, hth, hv, hR2, hC2⟩ := h
  injection he with he
  subst he
  have hI2 := hI1.m hC2
  refine p_ist_6 1572 rfl dL_law_1570 (Nat.le_of_ble_eq_true rfl) rfl ?_
  refine p_aload_n 2 1573 rfl rfl dL_law_1572 rfl ?_
  refine p_cV0i 1576 rfl dL_law_1573 c_thrown ml_L_138 vl_X9_thrown rfl (by decide) rfl (Nat.le_of_ble_eq_true rfl) (Nat.le_of_ble_eq_true rfl) rfl ?_
  rw [hth]
  refine p_iload 5 1578 rfl dL_law_1576 rfl ?_
  refine p_icmp_eq 1583 1581 rfl rfl dL_law_1578 (fun _ => ?_) (fun h => absurd rfl h)
  refine p_iload 5 1585 rfl dL_law_1583 rfl ?_
  refine p_if_ne 1600 1588 rfl rfl dL_law_1585 (fun hne => ?_) (fun h0 => ?_)
  · refine p_goto 2707 rfl dL_law_1600 ?_
    exact kk _ _ _ _ ⟨⟨_, _, hI2⟩, hR2⟩
  · have hs0 : (fToForge A (gx Γ (nI (i + 1)).toNatClampNeg) (gx Γ (nI (i + 2)).toNatClampNeg)).1 = 0 := nI_eqI (show nI _ = nI 0 from h0) (by omega) (by decide)
    refine p_aload_n 3 1589 rfl rfl dL_law_1588 rfl ?_
    refine p_iconst (0) 1590 rfl dL_law_1589 rfl ?_
    refine p_lald 1591 rfl dL_law_1590 rfl in_o ?_
    refine p_iload 6 1593 rfl dL_law_1591 rfl ?_
    refine p_i2l 1594 rfl dL_law_1593 ?_
    refine p_lcmp 1595 rfl dL_law_1594 ?_
    refine p_if_eq 1600 1598 rfl rfl dL_law_1595 (fun _ => ?_) (fun h => absurd ((lg_cmp_eq _ _).mpr ?_) h)
    · refine p_goto 2707 rfl dL_law_1600 ?_
      exact kk _ _ _ _ ⟨⟨_, _, hI2⟩, hR2⟩
    · rw [hC2.2.1, hv hs0]
      rcases hs with ⟨_, e⟩ | ⟨e, _⟩
      · rw [e]; exact hL_sL _ _ _ _
      · exact absurd hs0 e
set_option maxRecDepth 8000 in
theorem g_23 (hi : i + 6 ≤ gL Γ) (hL3 : gL Γ ≤ 384) (hB : BO σ A) (kk : ∀ (σ' : PH) (A' : AT) (x5 x6 : Option Value), BO σ' A' → Ok Γ 60 (8 * n) (48 * n) mL_law 2707 [some (.ref 27), some (.ref T0), some (.ref M0), some (.ref oL0), some (.int (nI i)), x5, x6] [] σ' rLw) : Ok Γ 60 (8 * n + 8) (48 * n + 48) mL_law 1603 [some (.ref 27), some (.ref T0), some (.ref M0), some (.ref oL0), some (.int (nI i)), x5, x6] [] σ rLw := by
  obtain ⟨⟨o, o2, hI⟩, hR⟩ := hB
  refine p_aload_n 1 1604 rfl rfl dL_law_1603 rfl ?_
  refine p_aload_n 0 1605 rfl rfl dL_law_1604 rfl ?_
  refine p_iload 4 1607 rfl dL_law_1605 rfl ?_
  refine p_iconst (1) 1608 rfl dL_law_1607 rfl ?_
  refine p_iadd 1609 rfl dL_law_1608 ?_
  rw [show nI i + 1 = nI (i + 1) from nI_add _ 1]
  refine p_sld 1610 rfl dL_law_1609 (vp_in_nI (by omega) (by omega)) ?_
  refine p_aload_n 3 1611 rfl rfl dL_law_1610 rfl ?_
  have hle : (fToSave A (gx Γ (nI (i + 1)).toNatClampNeg)).1 ≤ 1 := by
    unfold fToSave; repeat (first | exact Nat.zero_le _ | refine gd_le ?_ (by decide))
  refine p_callSH (as := [.ref T0, .int (gx Γ (nI (i + 1)).toNatClampNeg), .ref oL0]) (st := []) (mc2 := 8 * n) (ms2 := 48 * n) 1614 rfl dL_law_1611 (w_toSave (gx Γ (nI (i + 1)).toNatClampNeg) hle (t_toSave hI (gx Γ (nI (i + 1)).toNatClampNeg))) (fun x σ' h => by cases h.1) mh_L_210 sl_L_toSave rfl rfl (Nat.le_of_ble_eq_true rfl) (Nat.le_of_ble_eq_true rfl) (by omega) (by omega) (fun v σ1 h => ?_)
  obtain ⟨he, σ0, ⟨hI0, hC0⟩, hs⟩ := h
  injection he with he
  subst he
  have hI1 : IT σ1 o o2 A := by
    rcases hs with ⟨_, e⟩ | ⟨_, e⟩
    · rw [e]; exact hI0.sl
    · rw [e]; exact hI0
  have hR1 : RM σ1 A := by
    rcases hs with ⟨_, e⟩ | ⟨_, e⟩
    · rw [e]; exact (hR.c hC0).sl
    · rw [e]; exact hR.c hC0
  refine p_ist_5 1616 rfl dL_law_1614 (Nat.le_of_ble_eq_true rfl) rfl ?_
  refine p_aload_n 2 1617 rfl rfl dL_law_1616 rfl ?_
  refine p_aload_n 0 1618 rfl rfl dL_law_1617 rfl ?_
  refine p_iload 4 1620 rfl dL_law_1618 rfl ?_
  refine p_iconst (1) 1621 rfl dL_law_1620 rfl ?_
  refine p_iadd 1622 rfl dL_law_1621 ?_
  rw [show nI i + 1 = nI (i + 1) from nI_add _ 1]
  refine p_sld 1623 rfl dL_law_1622 (vp_in_nI (by omega) (by omega)) ?_
  refine p_callV (as := [.int (gx Γ (nI (i + 1)).toNatClampNeg)]) (st := []) (mc2 := 8 * n) (ms2 := 48 * n) 1626 rfl dL_law_1623 (q_toSave hR1 (gx Γ (nI (i + 1)).toNatClampNeg)) ml_L_212 vl_X9_toSave rfl (by decide) rfl rfl rfl (Nat.le_of_ble_eq_true rfl) (Nat.le_of_ble_eq_true rfl) (by omega) (by omega) rfl (fun v σ2 h => ?_) (fun x σ' h => by obtain ⟨_, h, _⟩ := h; cases h)
  obtain ⟨v0, he, hth, hv, hR2, hC2⟩ := h
  injection he with he
  subst he
  have hI2 := hI1.m hC2
  refine p_ist_6 1628 rfl dL_law_1626 (Nat.le_of_ble_eq_true rfl) rfl ?_
  refine p_aload_n 2 1629 rfl rfl dL_law_1628 rfl ?_
  refine p_cV0i 1632 rfl dL_law_1629 c_thrown ml_L_138 vl_X9_thrown rfl (by decide) rfl (Nat.le_of_ble_eq_true rfl) (Nat.le_of_ble_eq_true rfl) rfl ?_
  rw [hth]
  refine p_iload 5 1634 rfl dL_law_1632 rfl ?_
  refine p_icmp_eq 1639 1637 rfl rfl dL_law_1634 (fun _ => ?_) (fun h => absurd rfl h)
  refine p_iload 5 1641 rfl dL_law_1639 rfl ?_
  refine p_if_ne 1656 1644 rfl rfl dL_law_1641 (fun hne => ?_) (fun h0 => ?_)
  · refine p_goto 2707 rfl dL_law_1656 ?_
    exact kk _ _ _ _ ⟨⟨_, _, hI2⟩, hR2⟩
  · have hs0 : (fToSave A (gx Γ (nI (i + 1)).toNatClampNeg)).1 = 0 := nI_eqI (show nI _ = nI 0 from h0) (by omega) (by decide)
    refine p_aload_n 3 1645 rfl rfl dL_law_1644 rfl ?_
    refine p_iconst (0) 1646 rfl dL_law_1645 rfl ?_
    refine p_lald 1647 rfl dL_law_1646 rfl in_o ?_
    refine p_iload 6 1649 rfl dL_law_1647 rfl ?_
    refine p_i2l 1650 rfl dL_law_1649 ?_
    refine p_lcmp 1651 rfl dL_law_1650 ?_
    refine p_if_eq 1656 1654 rfl rfl dL_law_1651 (fun _ => ?_) (fun h => absurd ((lg_cmp_eq _ _).mpr ?_) h)
    · refine p_goto 2707 rfl dL_law_1656 ?_
      exact kk _ _ _ _ ⟨⟨_, _, hI2⟩, hR2⟩
    · rw [hC2.2.1, hv hs0]
      rcases hs with ⟨_, e⟩ | ⟨e, _⟩
      · rw [e]; exact hL_sL _ _ _ _
      · exact absurd hs0 e
set_option maxRecDepth 8000 in
theorem g_24 (hi : i + 6 ≤ gL Γ) (hL3 : gL Γ ≤ 384) (hB : BO σ A) (kk : ∀ (σ' : PH) (A' : AT) (x5 x6 : Option Value), BO σ' A' → Ok Γ 60 (8 * n) (48 * n) mL_law 2707 [some (.ref 27), some (.ref T0), some (.ref M0), some (.ref oL0), some (.int (nI i)), x5, x6] [] σ' rLw) : Ok Γ 60 (8 * n + 8) (48 * n + 48) mL_law 1659 [some (.ref 27), some (.ref T0), some (.ref M0), some (.ref oL0), some (.int (nI i)), x5, x6] [] σ rLw := by
  obtain ⟨⟨o, o2, hI⟩, hR⟩ := hB
  have hz : ((0, nI (rdF (tO A) (tV A) (aW (tO A)))) : Nat × Int32).1 = 0 := by rfl
  refine p_aload_n 1 1660 rfl rfl dL_law_1659 rfl ?_
  refine p_callV (as := []) (st := []) (mc2 := 8 * n) (ms2 := 48 * n) 1663 rfl dL_law_1660 (t_toRead hI ) ml_L_213 vl_X8_toRead rfl (by decide) rfl rfl rfl (Nat.le_of_ble_eq_true rfl) (Nat.le_of_ble_eq_true rfl) (by omega) (by omega) rfl (fun v σ1 h => ?_) (fun x σ' h => by have he := h.1; rw [if_pos hz] at he; cases he)
  obtain ⟨he, hI1, hC1⟩ := h
  rw [if_pos hz] at he
  injection he with he
  subst he
  have hR1 := hR.c hC1
  refine p_aload_n 2 1664 rfl rfl dL_law_1663 rfl ?_
  refine p_callV (as := []) (st := [.int ((0, nI (rdF (tO A) (tV A) (aW (tO A)))) : Nat × Int32).2]) (mc2 := 8 * n) (ms2 := 48 * n) 1667 rfl dL_law_1664 (q_toRead hR1 ) ml_L_216 vl_X9_toRead rfl (by decide) rfl rfl rfl (Nat.le_of_ble_eq_true rfl) (Nat.le_of_ble_eq_true rfl) (by omega) (by omega) rfl (fun v σ2 h => ?_) (fun x σ' h => by obtain ⟨_, h, _⟩ := h; cases h)
  obtain ⟨v0, he, hth, hv, hR2, hC2⟩ := h
  injection he with he
  subst he
  have hI2 := hI1.m hC2
  refine p_icmp_eq 2707 1670 rfl rfl dL_law_1667 (fun _ => ?_) (fun h => absurd (hv hz).symm h)
  exact kk _ _ _ _ ⟨⟨_, _, hI2⟩, hR2⟩
set_option maxRecDepth 8000 in
theorem g_25 (hi : i + 6 ≤ gL Γ) (hL3 : gL Γ ≤ 384) (hB : BO σ A) (kk : ∀ (σ' : PH) (A' : AT) (x5 x6 : Option Value), BO σ' A' → Ok Γ 60 (8 * n) (48 * n) mL_law 2707 [some (.ref 27), some (.ref T0), some (.ref M0), some (.ref oL0), some (.int (nI i)), x5, x6] [] σ' rLw) : Ok Γ 60 (8 * n + 8) (48 * n + 48) mL_law 1672 [some (.ref 27), some (.ref T0), some (.ref M0), some (.ref oL0), some (.int (nI i)), x5, x6] [] σ rLw := by
  obtain ⟨⟨o, o2, hI⟩, hR⟩ := hB
  refine p_aload_n 1 1673 rfl rfl dL_law_1672 rfl ?_
  refine p_aload_n 0 1674 rfl rfl dL_law_1673 rfl ?_
  refine p_iload 4 1676 rfl dL_law_1674 rfl ?_
  refine p_iconst (1) 1677 rfl dL_law_1676 rfl ?_
  refine p_iadd 1678 rfl dL_law_1677 ?_
  rw [show nI i + 1 = nI (i + 1) from nI_add _ 1]
  refine p_sld 1679 rfl dL_law_1678 (vp_in_nI (by omega) (by omega)) ?_
  refine p_aload_n 0 1680 rfl rfl dL_law_1679 rfl ?_
  refine p_iload 4 1682 rfl dL_law_1680 rfl ?_
  refine p_iconst (2) 1683 rfl dL_law_1682 rfl ?_
  refine p_iadd 1684 rfl dL_law_1683 ?_
  rw [show nI i + 2 = nI (i + 2) from nI_add _ 2]
  refine p_sld 1685 rfl dL_law_1684 (vp_in_nI (by omega) (by omega)) ?_
  refine p_aload_n 3 1686 rfl rfl dL_law_1685 rfl ?_
  have hle : (fChain A (gx Γ (nI (i + 1)).toNatClampNeg) (gx Γ (nI (i + 2)).toNatClampNeg)).1 ≤ 1 := by
    unfold fChain; repeat (first | exact Nat.zero_le _ | refine gd_le ?_ (by decide))
  refine p_callSH (as := [.ref T0, .int (gx Γ (nI (i + 1)).toNatClampNeg), .int (gx Γ (nI (i + 2)).toNatClampNeg), .ref oL0]) (st := []) (mc2 := 8 * n) (ms2 := 48 * n) 1689 rfl dL_law_1686 (w_chain (gx Γ (nI (i + 1)).toNatClampNeg) (gx Γ (nI (i + 2)).toNatClampNeg) hle (t_chain hI (gx Γ (nI (i + 1)).toNatClampNeg) (gx Γ (nI (i + 2)).toNatClampNeg))) (fun x σ' h => by cases h.1) mh_L_217 sl_L_chain rfl rfl (Nat.le_of_ble_eq_true rfl) (Nat.le_of_ble_eq_true rfl) (by omega) (by omega) (fun v σ1 h => ?_)
  obtain ⟨he, σ0, ⟨hI0, hC0⟩, hs⟩ := h
  injection he with he
  subst he
  have hI1 : IT σ1 o o2 A := by
    rcases hs with ⟨_, e⟩ | ⟨_, e⟩
    · rw [e]; exact hI0.sl
    · rw [e]; exact hI0
  have hR1 : RM σ1 A := by
    rcases hs with ⟨_, e⟩ | ⟨_, e⟩
    · rw [e]; exact (hR.c hC0).sl
    · rw [e]; exact hR.c hC0
  refine p_ist_5 1691 rfl dL_law_1689 (Nat.le_of_ble_eq_true rfl) rfl ?_
  refine p_aload_n 2 1692 rfl rfl dL_law_1691 rfl ?_
  refine p_aload_n 0 1693 rfl rfl dL_law_1692 rfl ?_
  refine p_iload 4 1695 rfl dL_law_1693 rfl ?_
  refine p_iconst (1) 1696 rfl dL_law_1695 rfl ?_
  refine p_iadd 1697 rfl dL_law_1696 ?_
  rw [show nI i + 1 = nI (i + 1) from nI_add _ 1]
  refine p_sld 1698 rfl dL_law_1697 (vp_in_nI (by omega) (by omega)) ?_
  refine p_aload_n 0 1699 rfl rfl dL_law_1698 rfl ?_
  refine p_iload 4 1701 rfl dL_law_1699 rfl ?_
  refine p_iconst (2) 1702 rfl dL_law_1701 rfl ?_
  refine p_iadd 1703 rfl dL_law_1702 ?_
  rw [show nI i + 2 = nI (i + 2) from nI_add _ 2]
  refine p_sld 1704 rfl dL_law_1703 (vp_in_nI (by omega) (by omega)) ?_
  refine p_callV (as := [.int (gx Γ (nI (i + 1)).toNatClampNeg), .int (gx Γ (nI (i + 2)).toNatClampNeg)]) (st := []) (mc2 := 8 * n) (ms2 := 48 * n) 1707 rfl dL_law_1704 (q_chain hR1 (gx Γ (nI (i + 1)).toNatClampNeg) (gx Γ (nI (i + 2)).toNatClampNeg)) ml_L_219 vl_X9_chain rfl (by decide) rfl rfl rfl (Nat.le_of_ble_eq_true rfl) (Nat.le_of_ble_eq_true rfl) (by omega) (by omega) rfl (fun v σ2 h => ?_) (fun x σ' h => by obtain ⟨_, h, _⟩ := h; cases h)
  obtain ⟨v0, he, hth, hv, hR2, hC2⟩ := h
  injection he with he
  subst he
  have hI2 := hI1.m hC2
  refine p_ist_6 1709 rfl dL_law_1707 (Nat.le_of_ble_eq_true rfl) rfl ?_
  refine p_aload_n 2 1710 rfl rfl dL_law_1709 rfl ?_
  refine p_cV0i 1713 rfl dL_law_1710 c_thrown ml_L_138 vl_X9_thrown rfl (by decide) rfl (Nat.le_of_ble_eq_true rfl) (Nat.le_of_ble_eq_true rfl) rfl ?_
  rw [hth]
  refine p_iload 5 1715 rfl dL_law_1713 rfl ?_
  refine p_icmp_eq 1720 1718 rfl rfl dL_law_1715 (fun _ => ?_) (fun h => absurd rfl h)
  refine p_iload 5 1722 rfl dL_law_1720 rfl ?_
  refine p_if_ne 1737 1725 rfl rfl dL_law_1722 (fun hne => ?_) (fun h0 => ?_)
  · refine p_goto 2707 rfl dL_law_1737 ?_
    exact kk _ _ _ _ ⟨⟨_, _, hI2⟩, hR2⟩
  · have hs0 : (fChain A (gx Γ (nI (i + 1)).toNatClampNeg) (gx Γ (nI (i + 2)).toNatClampNeg)).1 = 0 := nI_eqI (show nI _ = nI 0 from h0) (by omega) (by decide)
    refine p_aload_n 3 1726 rfl rfl dL_law_1725 rfl ?_
    refine p_iconst (0) 1727 rfl dL_law_1726 rfl ?_
    refine p_lald 1728 rfl dL_law_1727 rfl in_o ?_
    refine p_iload 6 1730 rfl dL_law_1728 rfl ?_
    refine p_i2l 1731 rfl dL_law_1730 ?_
    refine p_lcmp 1732 rfl dL_law_1731 ?_
    refine p_if_eq 1737 1735 rfl rfl dL_law_1732 (fun _ => ?_) (fun h => absurd ((lg_cmp_eq _ _).mpr ?_) h)
    · refine p_goto 2707 rfl dL_law_1737 ?_
      exact kk _ _ _ _ ⟨⟨_, _, hI2⟩, hR2⟩
    · rw [hC2.2.1, hv hs0]
      rcases hs with ⟨_, e⟩ | ⟨e, _⟩
      · rw [e]; exact hL_sL _ _ _ _
      · exact absurd hs0 e
set_option maxRecDepth 8000 in
theorem g_26 (hi : i + 6 ≤ gL Γ) (hL3 : gL Γ ≤ 384) (hB : BO σ A) (kk : ∀ (σ' : PH) (A' : AT) (x5 x6 : Option Value), BO σ' A' → Ok Γ 60 (8 * n) (48 * n) mL_law 2707 [some (.ref 27), some (.ref T0), some (.ref M0), some (.ref oL0), some (.int (nI i)), x5, x6] [] σ' rLw) : Ok Γ 60 (8 * n + 8) (48 * n + 48) mL_law 1740 [some (.ref 27), some (.ref T0), some (.ref M0), some (.ref oL0), some (.int (nI i)), x5, x6] [] σ rLw := by
  obtain ⟨⟨o, o2, hI⟩, hR⟩ := hB
  refine p_aload_n 1 1741 rfl rfl dL_law_1740 rfl ?_
  refine p_aload_n 0 1742 rfl rfl dL_law_1741 rfl ?_
  refine p_iload 4 1744 rfl dL_law_1742 rfl ?_
  refine p_iconst (1) 1745 rfl dL_law_1744 rfl ?_
  refine p_iadd 1746 rfl dL_law_1745 ?_
  rw [show nI i + 1 = nI (i + 1) from nI_add _ 1]
  refine p_sld 1747 rfl dL_law_1746 (vp_in_nI (by omega) (by omega)) ?_
  refine p_aload_n 0 1748 rfl rfl dL_law_1747 rfl ?_
  refine p_iload 4 1750 rfl dL_law_1748 rfl ?_
  refine p_iconst (2) 1751 rfl dL_law_1750 rfl ?_
  refine p_iadd 1752 rfl dL_law_1751 ?_
  rw [show nI i + 2 = nI (i + 2) from nI_add _ 2]
  refine p_sld 1753 rfl dL_law_1752 (vp_in_nI (by omega) (by omega)) ?_
  refine p_aload_n 0 1754 rfl rfl dL_law_1753 rfl ?_
  refine p_iload 4 1756 rfl dL_law_1754 rfl ?_
  refine p_iconst (3) 1757 rfl dL_law_1756 rfl ?_
  refine p_iadd 1758 rfl dL_law_1757 ?_
  rw [show nI i + 3 = nI (i + 3) from nI_add _ 3]
  refine p_sld 1759 rfl dL_law_1758 (vp_in_nI (by omega) (by omega)) ?_
  refine p_aload_n 0 1760 rfl rfl dL_law_1759 rfl ?_
  refine p_iload 4 1762 rfl dL_law_1760 rfl ?_
  refine p_iconst (4) 1763 rfl dL_law_1762 rfl ?_
  refine p_iadd 1764 rfl dL_law_1763 ?_
  rw [show nI i + 4 = nI (i + 4) from nI_add _ 4]
  refine p_sld 1765 rfl dL_law_1764 (vp_in_nI (by omega) (by omega)) ?_
  refine p_if_eq 1772 1768 rfl rfl dL_law_1765 (fun hz => ?_) (fun hz => ?_)
  · refine p_iconst (0) 1773 rfl dL_law_1772 rfl ?_
    refine p_aload_n 3 1774 rfl rfl dL_law_1773 rfl ?_
    have hle : (fHear A (gx Γ (nI (i + 1)).toNatClampNeg) (gx Γ (nI (i + 2)).toNatClampNeg) (gx Γ (nI (i + 3)).toNatClampNeg)).1 ≤ 1 := by
      unfold fHear; repeat (first | exact Nat.zero_le _ | refine gd_le ?_ (by decide))
    refine p_callSH (as := [.ref T0, .int (gx Γ (nI (i + 1)).toNatClampNeg), .int (gx Γ (nI (i + 2)).toNatClampNeg), .int (gx Γ (nI (i + 3)).toNatClampNeg), .int (b2i false), .ref oL0]) (st := []) (mc2 := 8 * n) (ms2 := 48 * n) 1777 rfl dL_law_1774 (w_hear (gx Γ (nI (i + 1)).toNatClampNeg) (gx Γ (nI (i + 2)).toNatClampNeg) (gx Γ (nI (i + 3)).toNatClampNeg) false hle (t_hear hI (gx Γ (nI (i + 1)).toNatClampNeg) (gx Γ (nI (i + 2)).toNatClampNeg) (gx Γ (nI (i + 3)).toNatClampNeg) false)) (fun x σ' h => by cases h.1) mh_L_220 sl_L_hear rfl rfl (Nat.le_of_ble_eq_true rfl) (Nat.le_of_ble_eq_true rfl) (by omega) (by omega) (fun v σ1 h => ?_)
    obtain ⟨he, σ0, ⟨hI0, hC0⟩, hs⟩ := h
    injection he with he
    subst he
    have hI1 : IT σ1 o o2 (nHear A (gx Γ (nI (i + 1)).toNatClampNeg) (gx Γ (nI (i + 2)).toNatClampNeg) (gx Γ (nI (i + 3)).toNatClampNeg) false) := by
      rcases hs with ⟨_, e⟩ | ⟨_, e⟩
      · rw [e]; exact hI0.sl
      · rw [e]; exact hI0
    have hR1 : RM σ1 A := by
      rcases hs with ⟨_, e⟩ | ⟨_, e⟩
      · rw [e]; exact (hR.c hC0).sl
      · rw [e]; exact hR.c hC0
    refine p_ist_5 1779 rfl dL_law_1777 (Nat.le_of_ble_eq_true rfl) rfl ?_
    refine p_aload_n 2 1780 rfl rfl dL_law_1779 rfl ?_
    refine p_aload_n 0 1781 rfl rfl dL_law_1780 rfl ?_
    refine p_iload 4 1783 rfl dL_law_1781 rfl ?_
    refine p_iconst (1) 1784 rfl dL_law_1783 rfl ?_
    refine p_iadd 1785 rfl dL_law_1784 ?_
    rw [show nI i + 1 = nI (i + 1) from nI_add _ 1]
    refine p_sld 1786 rfl dL_law_1785 (vp_in_nI (by omega) (by omega)) ?_
    refine p_aload_n 0 1787 rfl rfl dL_law_1786 rfl ?_
    refine p_iload 4 1789 rfl dL_law_1787 rfl ?_
    refine p_iconst (2) 1790 rfl dL_law_1789 rfl ?_
    refine p_iadd 1791 rfl dL_law_1790 ?_
    rw [show nI i + 2 = nI (i + 2) from nI_add _ 2]
    refine p_sld 1792 rfl dL_law_1791 (vp_in_nI (by omega) (by omega)) ?_
    refine p_aload_n 0 1793 rfl rfl dL_law_1792 rfl ?_
    refine p_iload 4 1795 rfl dL_law_1793 rfl ?_
    refine p_iconst (3) 1796 rfl dL_law_1795 rfl ?_
    refine p_iadd 1797 rfl dL_law_1796 ?_
    rw [show nI i + 3 = nI (i + 3) from nI_add _ 3]
    refine p_sld 1798 rfl dL_law_1797 (vp_in_nI (by omega) (by omega)) ?_
    refine p_aload_n 0 1799 rfl rfl dL_law_1798 rfl ?_
    refine p_iload 4 1801 rfl dL_law_1799 rfl ?_
    refine p_iconst (4) 1802 rfl dL_law_1801 rfl ?_
    refine p_iadd 1803 rfl dL_law_1802 ?_
    rw [show nI i + 4 = nI (i + 4) from nI_add _ 4]
    refine p_sld 1804 rfl dL_law_1803 (vp_in_nI (by omega) (by omega)) ?_
    refine p_if_eq 1811 1807 rfl rfl dL_law_1804 (fun _ => ?_) (fun h => absurd hz h)
    refine p_iconst (0) 1812 rfl dL_law_1811 rfl ?_
    refine p_callV (as := [.int (gx Γ (nI (i + 1)).toNatClampNeg), .int (gx Γ (nI (i + 2)).toNatClampNeg), .int (gx Γ (nI (i + 3)).toNatClampNeg), .int (b2i false)]) (st := []) (mc2 := 8 * n) (ms2 := 48 * n) 1815 rfl dL_law_1812 (q_hear hR1 (gx Γ (nI (i + 1)).toNatClampNeg) (gx Γ (nI (i + 2)).toNatClampNeg) (gx Γ (nI (i + 3)).toNatClampNeg) false hI1.2.1) ml_L_223 vl_X9_hear rfl (by decide) rfl rfl rfl (Nat.le_of_ble_eq_true rfl) (Nat.le_of_ble_eq_true rfl) (by omega) (by omega) rfl (fun v σ2 h => ?_) (fun x σ' h => by obtain ⟨_, h, _⟩ := h; cases h)
    obtain ⟨v0, he, hth, hv, hR2, hC2⟩ := h
    injection he with he
    subst he
    have hI2 := hI1.m hC2
    refine p_ist_6 1817 rfl dL_law_1815 (Nat.le_of_ble_eq_true rfl) rfl ?_
    refine p_aload_n 2 1818 rfl rfl dL_law_1817 rfl ?_
    refine p_cV0i 1821 rfl dL_law_1818 c_thrown ml_L_138 vl_X9_thrown rfl (by decide) rfl (Nat.le_of_ble_eq_true rfl) (Nat.le_of_ble_eq_true rfl) rfl ?_
    rw [hth]
    refine p_iload 5 1823 rfl dL_law_1821 rfl ?_
    refine p_icmp_eq 1828 1826 rfl rfl dL_law_1823 (fun _ => ?_) (fun h => absurd rfl h)
    refine p_iload 5 1830 rfl dL_law_1828 rfl ?_
    refine p_if_ne 1845 1833 rfl rfl dL_law_1830 (fun hne => ?_) (fun h0 => ?_)
    · refine p_goto 2707 rfl dL_law_1845 ?_
      exact kk _ _ _ _ ⟨⟨_, _, hI2⟩, hR2⟩
    · have hs0 : (fHear A (gx Γ (nI (i + 1)).toNatClampNeg) (gx Γ (nI (i + 2)).toNatClampNeg) (gx Γ (nI (i + 3)).toNatClampNeg)).1 = 0 := nI_eqI (show nI _ = nI 0 from h0) (by omega) (by decide)
      refine p_aload_n 3 1834 rfl rfl dL_law_1833 rfl ?_
      refine p_iconst (0) 1835 rfl dL_law_1834 rfl ?_
      refine p_lald 1836 rfl dL_law_1835 rfl in_o ?_
      refine p_iload 6 1838 rfl dL_law_1836 rfl ?_
      refine p_i2l 1839 rfl dL_law_1838 ?_
      refine p_lcmp 1840 rfl dL_law_1839 ?_
      refine p_if_eq 1845 1843 rfl rfl dL_law_1840 (fun _ => ?_) (fun h => absurd ((lg_cmp_eq _ _).mpr ?_) h)
      · refine p_goto 2707 rfl dL_law_1845 ?_
        exact kk _ _ _ _ ⟨⟨_, _, hI2⟩, hR2⟩
      · rw [hC2.2.1, hv hs0]
        rcases hs with ⟨_, e⟩ | ⟨e, _⟩
        · rw [e]; exact hL_sL _ _ _ _
        · exact absurd hs0 e
  · refine p_iconst (1) 1769 rfl dL_law_1768 rfl ?_
    refine p_goto 1773 rfl dL_law_1769 ?_
    refine p_aload_n 3 1774 rfl rfl dL_law_1773 rfl ?_
    have hle : (fHear A (gx Γ (nI (i + 1)).toNatClampNeg) (gx Γ (nI (i + 2)).toNatClampNeg) (gx Γ (nI (i + 3)).toNatClampNeg)).1 ≤ 1 := by
      unfold fHear; repeat (first | exact Nat.zero_le _ | refine gd_le ?_ (by decide))
    refine p_callSH (as := [.ref T0, .int (gx Γ (nI (i + 1)).toNatClampNeg), .int (gx Γ (nI (i + 2)).toNatClampNeg), .int (gx Γ (nI (i + 3)).toNatClampNeg), .int (b2i true), .ref oL0]) (st := []) (mc2 := 8 * n) (ms2 := 48 * n) 1777 rfl dL_law_1774 (w_hear (gx Γ (nI (i + 1)).toNatClampNeg) (gx Γ (nI (i + 2)).toNatClampNeg) (gx Γ (nI (i + 3)).toNatClampNeg) true hle (t_hear hI (gx Γ (nI (i + 1)).toNatClampNeg) (gx Γ (nI (i + 2)).toNatClampNeg) (gx Γ (nI (i + 3)).toNatClampNeg) true)) (fun x σ' h => by cases h.1) mh_L_220 sl_L_hear rfl rfl (Nat.le_of_ble_eq_true rfl) (Nat.le_of_ble_eq_true rfl) (by omega) (by omega) (fun v σ1 h => ?_)
    obtain ⟨he, σ0, ⟨hI0, hC0⟩, hs⟩ := h
    injection he with he
    subst he
    have hI1 : IT σ1 o o2 (nHear A (gx Γ (nI (i + 1)).toNatClampNeg) (gx Γ (nI (i + 2)).toNatClampNeg) (gx Γ (nI (i + 3)).toNatClampNeg) true) := by
      rcases hs with ⟨_, e⟩ | ⟨_, e⟩
      · rw [e]; exact hI0.sl
      · rw [e]; exact hI0
    have hR1 : RM σ1 A := by
      rcases hs with ⟨_, e⟩ | ⟨_, e⟩
      · rw [e]; exact (hR.c hC0).sl
      · rw [e]; exact hR.c hC0
    refine p_ist_5 1779 rfl dL_law_1777 (Nat.le_of_ble_eq_true rfl) rfl ?_
    refine p_aload_n 2 1780 rfl rfl dL_law_1779 rfl ?_
    refine p_aload_n 0 1781 rfl rfl dL_law_1780 rfl ?_
    refine p_iload 4 1783 rfl dL_law_1781 rfl ?_
    refine p_iconst (1) 1784 rfl dL_law_1783 rfl ?_
    refine p_iadd 1785 rfl dL_law_1784 ?_
    rw [show nI i + 1 = nI (i + 1) from nI_add _ 1]
    refine p_sld 1786 rfl dL_law_1785 (vp_in_nI (by omega) (by omega)) ?_
    refine p_aload_n 0 1787 rfl rfl dL_law_1786 rfl ?_
    refine p_iload 4 1789 rfl dL_law_1787 rfl ?_
    refine p_iconst (2) 1790 rfl dL_law_1789 rfl ?_
    refine p_iadd 1791 rfl dL_law_1790 ?_
    rw [show nI i + 2 = nI (i + 2) from nI_add _ 2]
    refine p_sld 1792 rfl dL_law_1791 (vp_in_nI (by omega) (by omega)) ?_
    refine p_aload_n 0 1793 rfl rfl dL_law_1792 rfl ?_
    refine p_iload 4 1795 rfl dL_law_1793 rfl ?_
    refine p_iconst (3) 1796 rfl dL_law_1795 rfl ?_
    refine p_iadd 1797 rfl dL_law_1796 ?_
    rw [show nI i + 3 = nI (i + 3) from nI_add _ 3]
    refine p_sld 1798 rfl dL_law_1797 (vp_in_nI (by omega) (by omega)) ?_
    refine p_aload_n 0 1799 rfl rfl dL_law_1798 rfl ?_
    refine p_iload 4 1801 rfl dL_law_1799 rfl ?_
    refine p_iconst (4) 1802 rfl dL_law_1801 rfl ?_
    refine p_iadd 1803 rfl dL_law_1802 ?_
    rw [show nI i + 4 = nI (i + 4) from nI_add _ 4]
    refine p_sld 1804 rfl dL_law_1803 (vp_in_nI (by omega) (by omega)) ?_
    refine p_if_eq 1811 1807 rfl rfl dL_law_1804 (fun h => absurd h hz) (fun _ => ?_)
    refine p_iconst (1) 1808 rfl dL_law_1807 rfl ?_
    refine p_goto 1812 rfl dL_law_1808 ?_
    refine p_callV (as := [.int (gx Γ (nI (i + 1)).toNatClampNeg), .int (gx Γ (nI (i + 2)).toNatClampNeg), .int (gx Γ (nI (i + 3)).toNatClampNeg), .int (b2i true)]) (st := []) (mc2 := 8 * n) (ms2 := 48 * n) 1815 rfl dL_law_1812 (q_hear hR1 (gx Γ (nI (i + 1)).toNatClampNeg) (gx Γ (nI (i + 2)).toNatClampNeg) (gx Γ (nI (i + 3)).toNatClampNeg) true hI1.2.1) ml_L_223 vl_X9_hear rfl (by decide) rfl rfl rfl (Nat.le_of_ble_eq_true rfl) (Nat.le_of_ble_eq_true rfl) (by omega) (by omega) rfl (fun v σ2 h => ?_) (fun x σ' h => by obtain ⟨_, h, _⟩ := h; cases h)
    obtain ⟨v0, he, hth, hv, hR2, hC2⟩ := h
    injection he with he
    subst he
    have hI2 := hI1.m hC2
    refine p_ist_6 1817 rfl dL_law_1815 (Nat.le_of_ble_eq_true rfl) rfl ?_
    refine p_aload_n 2 1818 rfl rfl dL_law_1817 rfl ?_
    refine p_cV0i 1821 rfl dL_law_1818 c_thrown ml_L_138 vl_X9_thrown rfl (by decide) rfl (Nat.le_of_ble_eq_true rfl) (Nat.le_of_ble_eq_true rfl) rfl ?_
    rw [hth]
    refine p_iload 5 1823 rfl dL_law_1821 rfl ?_
    refine p_icmp_eq 1828 1826 rfl rfl dL_law_1823 (fun _ => ?_) (fun h => absurd rfl h)
    refine p_iload 5 1830 rfl dL_law_1828 rfl ?_
    refine p_if_ne 1845 1833 rfl rfl dL_law_1830 (fun hne => ?_) (fun h0 => ?_)
    · refine p_goto 2707 rfl dL_law_1845 ?_
      exact kk _ _ _ _ ⟨⟨_, _, hI2⟩, hR2⟩
    · have hs0 : (fHear A (gx Γ (nI (i + 1)).toNatClampNeg) (gx Γ (nI (i + 2)).toNatClampNeg) (gx Γ (nI (i + 3)).toNatClampNeg)).1 = 0 := nI_eqI (show nI _ = nI 0 from h0) (by omega) (by decide)
      refine p_aload_n 3 1834 rfl rfl dL_law_1833 rfl ?_
      refine p_iconst (0) 1835 rfl dL_law_1834 rfl ?_
      refine p_lald 1836 rfl dL_law_1835 rfl in_o ?_
      refine p_iload 6 1838 rfl dL_law_1836 rfl ?_
      refine p_i2l 1839 rfl dL_law_1838 ?_
      refine p_lcmp 1840 rfl dL_law_1839 ?_
      refine p_if_eq 1845 1843 rfl rfl dL_law_1840 (fun _ => ?_) (fun h => absurd ((lg_cmp_eq _ _).mpr ?_) h)
      · refine p_goto 2707 rfl dL_law_1845 ?_
        exact kk _ _ _ _ ⟨⟨_, _, hI2⟩, hR2⟩
      · rw [hC2.2.1, hv hs0]
        rcases hs with ⟨_, e⟩ | ⟨e, _⟩
        · rw [e]; exact hL_sL _ _ _ _
        · exact absurd hs0 e
set_option maxRecDepth 8000 in
theorem g_27 (hi : i + 6 ≤ gL Γ) (hL3 : gL Γ ≤ 384) (hB : BO σ A) (kk : ∀ (σ' : PH) (A' : AT) (x5 x6 : Option Value), BO σ' A' → Ok Γ 60 (8 * n) (48 * n) mL_law 2707 [some (.ref 27), some (.ref T0), some (.ref M0), some (.ref oL0), some (.int (nI i)), x5, x6] [] σ' rLw) : Ok Γ 60 (8 * n + 8) (48 * n + 48) mL_law 1848 [some (.ref 27), some (.ref T0), some (.ref M0), some (.ref oL0), some (.int (nI i)), x5, x6] [] σ rLw := by
  obtain ⟨⟨o, o2, hI⟩, hR⟩ := hB
  refine p_aload_n 1 1849 rfl rfl dL_law_1848 rfl ?_
  refine p_cV0v (8 * n) (48 * n) 1852 rfl dL_law_1849 (t_forget hI) ml_L_224 vl_X8_forget rfl (by decide) rfl (Nat.le_of_ble_eq_true rfl) (Nat.le_of_ble_eq_true rfl) (by omega) (by omega) rfl ?_
  rintro σ1 ⟨hI1, hC1⟩
  have hR1 := hR.c hC1
  refine p_aload_n 2 1853 rfl rfl dL_law_1852 rfl ?_
  refine p_cV0v (8 * n) (48 * n) 1856 rfl dL_law_1853 (q_forget hR1) ml_L_227 vl_X9_forget rfl (by decide) rfl (Nat.le_of_ble_eq_true rfl) (Nat.le_of_ble_eq_true rfl) (by omega) (by omega) rfl ?_
  rintro σ2 ⟨hR2, hC2⟩
  have hI2 := hI1.m hC2
  refine p_goto 2707 rfl dL_law_1856 ?_
  exact kk _ _ _ _ ⟨⟨_, _, hI2⟩, hR2⟩
set_option maxRecDepth 8000 in
theorem g_28 (hi : i + 6 ≤ gL Γ) (hL3 : gL Γ ≤ 384) (hB : BO σ A) (kk : ∀ (σ' : PH) (A' : AT) (x5 x6 : Option Value), BO σ' A' → Ok Γ 60 (8 * n) (48 * n) mL_law 2707 [some (.ref 27), some (.ref T0), some (.ref M0), some (.ref oL0), some (.int (nI i)), x5, x6] [] σ' rLw) : Ok Γ 60 (8 * n + 8) (48 * n + 48) mL_law 1859 [some (.ref 27), some (.ref T0), some (.ref M0), some (.ref oL0), some (.int (nI i)), x5, x6] [] σ rLw := by
  obtain ⟨⟨o, o2, hI⟩, hR⟩ := hB
  refine p_aload_n 1 1860 rfl rfl dL_law_1859 rfl ?_
  refine p_aload_n 0 1861 rfl rfl dL_law_1860 rfl ?_
  refine p_iload 4 1863 rfl dL_law_1861 rfl ?_
  refine p_iconst (1) 1864 rfl dL_law_1863 rfl ?_
  refine p_iadd 1865 rfl dL_law_1864 ?_
  rw [show nI i + 1 = nI (i + 1) from nI_add _ 1]
  refine p_sld 1866 rfl dL_law_1865 (vp_in_nI (by omega) (by omega)) ?_
  refine p_aload_n 3 1867 rfl rfl dL_law_1866 rfl ?_
  have hle : (fBorne A (gx Γ (nI (i + 1)).toNatClampNeg)).1 ≤ 1 := by
    unfold fBorne; repeat (first | exact Nat.zero_le _ | refine gd_le ?_ (by decide))
  refine p_callSH (as := [.ref T0, .int (gx Γ (nI (i + 1)).toNatClampNeg), .ref oL0]) (st := []) (mc2 := 8 * n) (ms2 := 48 * n) 1870 rfl dL_law_1867 (w_borne (gx Γ (nI (i + 1)).toNatClampNeg) hle (t_borne hI (gx Γ (nI (i + 1)).toNatClampNeg))) (fun x σ' h => by cases h.1) mh_L_228 sl_L_borne rfl rfl (Nat.le_of_ble_eq_true rfl) (Nat.le_of_ble_eq_true rfl) (by omega) (by omega) (fun v σ1 h => ?_)
  obtain ⟨he, σ0, ⟨hI0, hC0⟩, hs⟩ := h
  injection he with he
  subst he
  have hI1 : IT σ1 o o2 A := by
    rcases hs with ⟨_, e⟩ | ⟨_, e⟩
    · rw [e]; exact hI0.sl
    · rw [e]; exact hI0
  have hR1 : RM σ1 A := by
    rcases hs with ⟨_, e⟩ | ⟨_, e⟩
    · rw [e]; exact (hR.c hC0).sl
    · rw [e]; exact hR.c hC0
  refine p_ist_5 1872 rfl dL_law_1870 (Nat.le_of_ble_eq_true rfl) rfl ?_
  refine p_aload_n 2 1873 rfl rfl dL_law_1872 rfl ?_
  refine p_aload_n 0 1874 rfl rfl dL_law_1873 rfl ?_
  refine p_iload 4 1876 rfl dL_law_1874 rfl ?_
  refine p_iconst (1) 1877 rfl dL_law_1876 rfl ?_
  refine p_iadd 1878 rfl dL_law_1877 ?_
  rw [show nI i + 1 = nI (i + 1) from nI_add _ 1]
  refine p_sld 1879 rfl dL_law_1878 (vp_in_nI (by omega) (by omega)) ?_
  refine p_callV (as := [.int (gx Γ (nI (i + 1)).toNatClampNeg)]) (st := []) (mc2 := 8 * n) (ms2 := 48 * n) 1882 rfl dL_law_1879 (q_borne hR1 (gx Γ (nI (i + 1)).toNatClampNeg)) ml_L_230 vl_X9_borne rfl (by decide) rfl rfl rfl (Nat.le_of_ble_eq_true rfl) (Nat.le_of_ble_eq_true rfl) (by omega) (by omega) rfl (fun v σ2 h => ?_) (fun x σ' h => by obtain ⟨_, h, _⟩ := h; cases h)
  obtain ⟨v0, he, hth, hv, hR2, hC2⟩ := h
  injection he with he
  subst he
  have hI2 := hI1.m hC2
  refine p_ist_6 1884 rfl dL_law_1882 (Nat.le_of_ble_eq_true rfl) rfl ?_
  refine p_aload_n 2 1885 rfl rfl dL_law_1884 rfl ?_
  refine p_cV0i 1888 rfl dL_law_1885 c_thrown ml_L_138 vl_X9_thrown rfl (by decide) rfl (Nat.le_of_ble_eq_true rfl) (Nat.le_of_ble_eq_true rfl) rfl ?_
  rw [hth]
  refine p_iload 5 1890 rfl dL_law_1888 rfl ?_
  refine p_icmp_eq 1895 1893 rfl rfl dL_law_1890 (fun _ => ?_) (fun h => absurd rfl h)
  refine p_iload 5 1897 rfl dL_law_1895 rfl ?_
  refine p_if_ne 1912 1900 rfl rfl dL_law_1897 (fun hne => ?_) (fun h0 => ?_)
  · refine p_goto 2707 rfl dL_law_1912 ?_
    exact kk _ _ _ _ ⟨⟨_, _, hI2⟩, hR2⟩
  · have hs0 : (fBorne A (gx Γ (nI (i + 1)).toNatClampNeg)).1 = 0 := nI_eqI (show nI _ = nI 0 from h0) (by omega) (by decide)
    refine p_aload_n 3 1901 rfl rfl dL_law_1900 rfl ?_
    refine p_iconst (0) 1902 rfl dL_law_1901 rfl ?_
    refine p_lald 1903 rfl dL_law_1902 rfl in_o ?_
    refine p_iload 6 1905 rfl dL_law_1903 rfl ?_
    refine p_i2l 1906 rfl dL_law_1905 ?_
    refine p_lcmp 1907 rfl dL_law_1906 ?_
    refine p_if_eq 1912 1910 rfl rfl dL_law_1907 (fun _ => ?_) (fun h => absurd ((lg_cmp_eq _ _).mpr ?_) h)
    · refine p_goto 2707 rfl dL_law_1912 ?_
      exact kk _ _ _ _ ⟨⟨_, _, hI2⟩, hR2⟩
    · rw [hC2.2.1, hv hs0]
      rcases hs with ⟨_, e⟩ | ⟨e, _⟩
      · rw [e]; exact hL_sL _ _ _ _
      · exact absurd hs0 e
set_option maxRecDepth 8000 in
theorem g_29 (hi : i + 6 ≤ gL Γ) (hL3 : gL Γ ≤ 384) (hB : BO σ A) (kk : ∀ (σ' : PH) (A' : AT) (x5 x6 : Option Value), BO σ' A' → Ok Γ 60 (8 * n) (48 * n) mL_law 2707 [some (.ref 27), some (.ref T0), some (.ref M0), some (.ref oL0), some (.int (nI i)), x5, x6] [] σ' rLw) : Ok Γ 60 (8 * n + 8) (48 * n + 48) mL_law 1915 [some (.ref 27), some (.ref T0), some (.ref M0), some (.ref oL0), some (.int (nI i)), x5, x6] [] σ rLw := by
  obtain ⟨⟨o, o2, hI⟩, hR⟩ := hB
  refine p_aload_n 1 1916 rfl rfl dL_law_1915 rfl ?_
  refine p_aload_n 0 1917 rfl rfl dL_law_1916 rfl ?_
  refine p_iload 4 1919 rfl dL_law_1917 rfl ?_
  refine p_iconst (1) 1920 rfl dL_law_1919 rfl ?_
  refine p_iadd 1921 rfl dL_law_1920 ?_
  rw [show nI i + 1 = nI (i + 1) from nI_add _ 1]
  refine p_sld 1922 rfl dL_law_1921 (vp_in_nI (by omega) (by omega)) ?_
  refine p_aload_n 3 1923 rfl rfl dL_law_1922 rfl ?_
  have hle : (fAsk A (gx Γ (nI (i + 1)).toNatClampNeg)).1 ≤ 1 := by
    unfold fAsk; repeat (first | exact Nat.zero_le _ | refine gd_le ?_ (by decide))
  refine p_callSH (as := [.ref T0, .int (gx Γ (nI (i + 1)).toNatClampNeg), .ref oL0]) (st := []) (mc2 := 8 * n) (ms2 := 48 * n) 1926 rfl dL_law_1923 (w_ask (gx Γ (nI (i + 1)).toNatClampNeg) hle (t_ask hI (gx Γ (nI (i + 1)).toNatClampNeg))) (fun x σ' h => by cases h.1) mh_L_231 sl_L_ask rfl rfl (Nat.le_of_ble_eq_true rfl) (Nat.le_of_ble_eq_true rfl) (by omega) (by omega) (fun v σ1 h => ?_)
  obtain ⟨he, σ0, ⟨hI0, hC0⟩, hs⟩ := h
  injection he with he
  subst he
  have hI1 : IT σ1 o o2 A := by
    rcases hs with ⟨_, e⟩ | ⟨_, e⟩
    · rw [e]; exact hI0.sl
    · rw [e]; exact hI0
  have hR1 : RM σ1 A := by
    rcases hs with ⟨_, e⟩ | ⟨_, e⟩
    · rw [e]; exact (hR.c hC0).sl
    · rw [e]; exact hR.c hC0
  refine p_ist_5 1928 rfl dL_law_1926 (Nat.le_of_ble_eq_true rfl) rfl ?_
  refine p_aload_n 2 1929 rfl rfl dL_law_1928 rfl ?_
  refine p_aload_n 0 1930 rfl rfl dL_law_1929 rfl ?_
  refine p_iload 4 1932 rfl dL_law_1930 rfl ?_
  refine p_iconst (1) 1933 rfl dL_law_1932 rfl ?_
  refine p_iadd 1934 rfl dL_law_1933 ?_
  rw [show nI i + 1 = nI (i + 1) from nI_add _ 1]
  refine p_sld 1935 rfl dL_law_1934 (vp_in_nI (by omega) (by omega)) ?_
  refine p_callV (as := [.int (gx Γ (nI (i + 1)).toNatClampNeg)]) (st := []) (mc2 := 8 * n) (ms2 := 48 * n) 1938 rfl dL_law_1935 (q_ask hR1 (gx Γ (nI (i + 1)).toNatClampNeg)) ml_L_233 vl_X9_ask rfl (by decide) rfl rfl rfl (Nat.le_of_ble_eq_true rfl) (Nat.le_of_ble_eq_true rfl) (by omega) (by omega) rfl (fun v σ2 h => ?_) (fun x σ' h => by obtain ⟨_, h, _⟩ := h; cases h)
  obtain ⟨v0, he, hth, hv, hR2, hC2⟩ := h
  injection he with he
  subst he
  have hI2 := hI1.m hC2
  refine p_ist_6 1940 rfl dL_law_1938 (Nat.le_of_ble_eq_true rfl) rfl ?_
  refine p_aload_n 2 1941 rfl rfl dL_law_1940 rfl ?_
  refine p_cV0i 1944 rfl dL_law_1941 c_thrown ml_L_138 vl_X9_thrown rfl (by decide) rfl (Nat.le_of_ble_eq_true rfl) (Nat.le_of_ble_eq_true rfl) rfl ?_
  rw [hth]
  refine p_iload 5 1946 rfl dL_law_1944 rfl ?_
  refine p_icmp_eq 1951 1949 rfl rfl dL_law_1946 (fun _ => ?_) (fun h => absurd rfl h)
  refine p_iload 5 1953 rfl dL_law_1951 rfl ?_
  refine p_if_ne 1968 1956 rfl rfl dL_law_1953 (fun hne => ?_) (fun h0 => ?_)
  · refine p_goto 2707 rfl dL_law_1968 ?_
    exact kk _ _ _ _ ⟨⟨_, _, hI2⟩, hR2⟩
  · have hs0 : (fAsk A (gx Γ (nI (i + 1)).toNatClampNeg)).1 = 0 := nI_eqI (show nI _ = nI 0 from h0) (by omega) (by decide)
    refine p_aload_n 3 1957 rfl rfl dL_law_1956 rfl ?_
    refine p_iconst (0) 1958 rfl dL_law_1957 rfl ?_
    refine p_lald 1959 rfl dL_law_1958 rfl in_o ?_
    refine p_iload 6 1961 rfl dL_law_1959 rfl ?_
    refine p_i2l 1962 rfl dL_law_1961 ?_
    refine p_lcmp 1963 rfl dL_law_1962 ?_
    refine p_if_eq 1968 1966 rfl rfl dL_law_1963 (fun _ => ?_) (fun h => absurd ((lg_cmp_eq _ _).mpr ?_) h)
    · refine p_goto 2707 rfl dL_law_1968 ?_
      exact kk _ _ _ _ ⟨⟨_, _, hI2⟩, hR2⟩
    · rw [hC2.2.1, hv hs0]
      rcases hs with ⟨_, e⟩ | ⟨e, _⟩
      · rw [e]; exact hL_sL _ _ _ _
      · exact absurd hs0 e
set_option maxRecDepth 8000 in
theorem g_30 (hi : i + 6 ≤ gL Γ) (hL3 : gL Γ ≤ 384) (hB : BO σ A) (kk : ∀ (σ' : PH) (A' : AT) (x5 x6 : Option Value), BO σ' A' → Ok Γ 60 (8 * n) (48 * n) mL_law 2707 [some (.ref 27), some (.ref T0), some (.ref M0), some (.ref oL0), some (.int (nI i)), x5, x6] [] σ' rLw) : Ok Γ 60 (8 * n + 8) (48 * n + 48) mL_law 1971 [some (.ref 27), some (.ref T0), some (.ref M0), some (.ref oL0), some (.int (nI i)), x5, x6] [] σ rLw := by
  obtain ⟨⟨o, o2, hI⟩, hR⟩ := hB
  refine p_aload_n 1 1972 rfl rfl dL_law_1971 rfl ?_
  refine p_aload_n 0 1973 rfl rfl dL_law_1972 rfl ?_
  refine p_iload 4 1975 rfl dL_law_1973 rfl ?_
  refine p_iconst (1) 1976 rfl dL_law_1975 rfl ?_
  refine p_iadd 1977 rfl dL_law_1976 ?_
  rw [show nI i + 1 = nI (i + 1) from nI_add _ 1]
  refine p_sld 1978 rfl dL_law_1977 (vp_in_nI (by omega) (by omega)) ?_
  refine p_aload_n 0 1979 rfl rfl dL_law_1978 rfl ?_
  refine p_iload 4 1981 rfl dL_law_1979 rfl ?_
  refine p_iconst (2) 1982 rfl dL_law_1981 rfl ?_
  refine p_iadd 1983 rfl dL_law_1982 ?_
  rw [show nI i + 2 = nI (i + 2) from nI_add _ 2]
  refine p_sld 1984 rfl dL_law_1983 (vp_in_nI (by omega) (by omega)) ?_
  refine p_aload_n 3 1985 rfl rfl dL_law_1984 rfl ?_
  have hle : (fFires A (gx Γ (nI (i + 1)).toNatClampNeg) (gx Γ (nI (i + 2)).toNatClampNeg)).1 ≤ 2 := by
    unfold fFires; repeat (first | exact Nat.zero_le _ | refine gd_le ?_ (by decide))
  refine p_callSH (as := [.ref T0, .int (gx Γ (nI (i + 1)).toNatClampNeg), .int (gx Γ (nI (i + 2)).toNatClampNeg), .ref oL0]) (st := []) (mc2 := 8 * n) (ms2 := 48 * n) 1988 rfl dL_law_1985 (w_fires (gx Γ (nI (i + 1)).toNatClampNeg) (gx Γ (nI (i + 2)).toNatClampNeg) hle (t_fires hI (gx Γ (nI (i + 1)).toNatClampNeg) (gx Γ (nI (i + 2)).toNatClampNeg))) (fun x σ' h => by cases h.1) mh_L_234 sl_L_fires rfl rfl (Nat.le_of_ble_eq_true rfl) (Nat.le_of_ble_eq_true rfl) (by omega) (by omega) (fun v σ1 h => ?_)
  obtain ⟨he, σ0, ⟨hI0, hC0⟩, hs⟩ := h
  injection he with he
  subst he
  have hI1 : IT σ1 o o2 A := by
    rcases hs with ⟨_, e⟩ | ⟨_, e⟩
    · rw [e]; exact hI0.sl
    · rw [e]; exact hI0
  have hR1 : RM σ1 A := by
    rcases hs with ⟨_, e⟩ | ⟨_, e⟩
    · rw [e]; exact (hR.c hC0).sl
    · rw [e]; exact hR.c hC0
  refine p_ist_5 1990 rfl dL_law_1988 (Nat.le_of_ble_eq_true rfl) rfl ?_
  refine p_aload_n 2 1991 rfl rfl dL_law_1990 rfl ?_
  refine p_aload_n 0 1992 rfl rfl dL_law_1991 rfl ?_
  refine p_iload 4 1994 rfl dL_law_1992 rfl ?_
  refine p_iconst (1) 1995 rfl dL_law_1994 rfl ?_
  refine p_iadd 1996 rfl dL_law_1995 ?_
  rw [show nI i + 1 = nI (i + 1) from nI_add _ 1]
  refine p_sld 1997 rfl dL_law_1996 (vp_in_nI (by omega) (by omega)) ?_
  refine p_aload_n 0 1998 rfl rfl dL_law_1997 rfl ?_
  refine p_iload 4 2000 rfl dL_law_1998 rfl ?_
  refine p_iconst (2) 2001 rfl dL_law_2000 rfl ?_
  refine p_iadd 2002 rfl dL_law_2001 ?_
  rw [show nI i + 2 = nI (i + 2) from nI_add _ 2]
  refine p_sld 2003 rfl dL_law_2002 (vp_in_nI (by omega) (by omega)) ?_
  refine p_callV (as := [.int (gx Γ (nI (i + 1)).toNatClampNeg), .int (gx Γ (nI (i + 2)).toNatClampNeg)]) (st := []) (mc2 := 8 * n) (ms2 := 48 * n) 2006 rfl dL_law_2003 (q_fires hR1 (gx Γ (nI (i + 1)).toNatClampNeg) (gx Γ (nI (i + 2)).toNatClampNeg)) ml_L_236 vl_X9_fires rfl (by decide) rfl rfl rfl (Nat.le_of_ble_eq_true rfl) (Nat.le_of_ble_eq_true rfl) (by omega) (by omega) rfl (fun v σ2 h => ?_) (fun x σ' h => by obtain ⟨_, h, _⟩ := h; cases h)
  obtain ⟨v0, he, hth, hv, hR2, hC2⟩ := h
  injection he with he
  subst he
  have hI2 := hI1.m hC2
  refine p_ist_6 2008 rfl dL_law_2006 (Nat.le_of_ble_eq_true rfl) rfl ?_
  refine p_aload_n 2 2009 rfl rfl dL_law_2008 rfl ?_
  refine p_cV0i 2012 rfl dL_law_2009 c_thrown ml_L_138 vl_X9_thrown rfl (by decide) rfl (Nat.le_of_ble_eq_true rfl) (Nat.le_of_ble_eq_true rfl) rfl ?_
  rw [hth]
  refine p_iload 5 2014 rfl dL_law_2012 rfl ?_
  refine p_icmp_eq 2019 2017 rfl rfl dL_law_2014 (fun _ => ?_) (fun h => absurd rfl h)
  refine p_iload 5 2021 rfl dL_law_2019 rfl ?_
  refine p_if_ne 2036 2024 rfl rfl dL_law_2021 (fun hne => ?_) (fun h0 => ?_)
  · refine p_goto 2707 rfl dL_law_2036 ?_
    exact kk _ _ _ _ ⟨⟨_, _, hI2⟩, hR2⟩
  · have hs0 : (fFires A (gx Γ (nI (i + 1)).toNatClampNeg) (gx Γ (nI (i + 2)).toNatClampNeg)).1 = 0 := nI_eqI (show nI _ = nI 0 from h0) (by omega) (by decide)
    refine p_aload_n 3 2025 rfl rfl dL_law_2024 rfl ?_
    refine p_iconst (0) 2026 rfl dL_law_2025 rfl ?_
    refine p_lald 2027 rfl dL_law_2026 rfl in_o ?_
    refine p_iload 6 2029 rfl dL_law_2027 rfl ?_
    refine p_i2l 2030 rfl dL_law_2029 ?_
    refine p_lcmp 2031 rfl dL_law_2030 ?_
    refine p_if_eq 2036 2034 rfl rfl dL_law_2031 (fun _ => ?_) (fun h => absurd ((lg_cmp_eq _ _).mpr ?_) h)
    · refine p_goto 2707 rfl dL_law_2036 ?_
      exact kk _ _ _ _ ⟨⟨_, _, hI2⟩, hR2⟩
    · rw [hC2.2.1, hv hs0]
      rcases hs with ⟨_, e⟩ | ⟨e, _⟩
      · rw [e]; exact hL_sL _ _ _ _
      · exact absurd hs0 e
set_option maxRecDepth 8000 in
theorem g_31 (hi : i + 6 ≤ gL Γ) (hL3 : gL Γ ≤ 384) (hB : BO σ A) (kk : ∀ (σ' : PH) (A' : AT) (x5 x6 : Option Value), BO σ' A' → Ok Γ 60 (8 * n) (48 * n) mL_law 2707 [some (.ref 27), some (.ref T0), some (.ref M0), some (.ref oL0), some (.int (nI i)), x5, x6] [] σ' rLw) : Ok Γ 60 (8 * n + 8) (48 * n + 48) mL_law 2039 [some (.ref 27), some (.ref T0), some (.ref M0), some (.ref oL0), some (.int (nI i)), x5, x6] [] σ rLw := by
  obtain ⟨⟨o, o2, hI⟩, hR⟩ := hB
  refine p_aload_n 1 2040 rfl rfl dL_law_2039 rfl ?_
  refine p_aload_n 0 2041 rfl rfl dL_law_2040 rfl ?_
  refine p_iload 4 2043 rfl dL_law_2041 rfl ?_
  refine p_iconst (1) 2044 rfl dL_law_2043 rfl ?_
  refine p_iadd 2045 rfl dL_law_2044 ?_
  rw [show nI i + 1 = nI (i + 1) from nI_add _ 1]
  refine p_sld 2046 rfl dL_law_2045 (vp_in_nI (by omega) (by omega)) ?_
  refine p_aload_n 0 2047 rfl rfl dL_law_2046 rfl ?_
  refine p_iload 4 2049 rfl dL_law_2047 rfl ?_
  refine p_iconst (2) 2050 rfl dL_law_2049 rfl ?_
  refine p_iadd 2051 rfl dL_law_2050 ?_
  rw [show nI i + 2 = nI (i + 2) from nI_add _ 2]
  refine p_sld 2052 rfl dL_law_2051 (vp_in_nI (by omega) (by omega)) ?_
  refine p_aload_n 0 2053 rfl rfl dL_law_2052 rfl ?_
  refine p_iload 4 2055 rfl dL_law_2053 rfl ?_
  refine p_iconst (3) 2056 rfl dL_law_2055 rfl ?_
  refine p_iadd 2057 rfl dL_law_2056 ?_
  rw [show nI i + 3 = nI (i + 3) from nI_add _ 3]
  refine p_sld 2058 rfl dL_law_2057 (vp_in_nI (by omega) (by omega)) ?_
  refine p_aload_n 3 2059 rfl rfl dL_law_2058 rfl ?_
  have hle : (fGame A (gx Γ (nI (i + 1)).toNatClampNeg) (gx Γ (nI (i + 2)).toNatClampNeg) (gx Γ (nI (i + 3)).toNatClampNeg)).1 ≤ 2 := by
    unfold fGame; repeat (first | exact Nat.zero_le _ | refine gd_le ?_ (by decide))
  refine p_callSH (as := [.ref T0, .int (gx Γ (nI (i + 1)).toNatClampNeg), .int (gx Γ (nI (i + 2)).toNatClampNeg), .int (gx Γ (nI (i + 3)).toNatClampNeg), .ref oL0]) (st := []) (mc2 := 8 * n) (ms2 := 48 * n) 2062 rfl dL_law_2059 (w_game (gx Γ (nI (i + 1)).toNatClampNeg) (gx Γ (nI (i + 2)).toNatClampNeg) (gx Γ (nI (i + 3)).toNatClampNeg) hle (t_game hI (gx Γ (nI (i + 1)).toNatClampNeg) (gx Γ (nI (i + 2)).toNatClampNeg) (gx Γ (nI (i + 3)).toNatClampNeg))) (fun x σ' h => by cases h.1) mh_L_237 sl_L_game rfl rfl (Nat.le_of_ble_eq_true rfl) (Nat.le_of_ble_eq_true rfl) (by omega) (by omega) (fun v σ1 h => ?_)
  obtain ⟨he, σ0, ⟨hI0, hC0⟩, hs⟩ := h
  injection he with he
  subst he
  have hI1 : IT σ1 o o2 A := by
    rcases hs with ⟨_, e⟩ | ⟨_, e⟩
    · rw [e]; exact hI0.sl
    · rw [e]; exact hI0
  have hR1 : RM σ1 A := by
    rcases hs with ⟨_, e⟩ | ⟨_, e⟩
    · rw [e]; exact (hR.c hC0).sl
    · rw [e]; exact hR.c hC0
  refine p_ist_5 2064 rfl dL_law_2062 (Nat.le_of_ble_eq_true rfl) rfl ?_
  refine p_aload_n 2 2065 rfl rfl dL_law_2064 rfl ?_
  refine p_aload_n 0 2066 rfl rfl dL_law_2065 rfl ?_
  refine p_iload 4 2068 rfl dL_law_2066 rfl ?_
  refine p_iconst (1) 2069 rfl dL_law_2068 rfl ?_
  refine p_iadd 2070 rfl dL_law_2069 ?_
  rw [show nI i + 1 = nI (i + 1) from nI_add _ 1]
  refine p_sld 2071 rfl dL_law_2070 (vp_in_nI (by omega) (by omega)) ?_
  refine p_aload_n 0 2072 rfl rfl dL_law_2071 rfl ?_
  refine p_iload 4 2074 rfl dL_law_2072 rfl ?_
  refine p_iconst (2) 2075 rfl dL_law_2074 rfl ?_
  refine p_iadd 2076 rfl dL_law_2075 ?_
  rw [show nI i + 2 = nI (i + 2) from nI_add _ 2]
  refine p_sld 2077 rfl dL_law_2076 (vp_in_nI (by omega) (by omega)) ?_
  refine p_aload_n 0 2078 rfl rfl dL_law_2077 rfl ?_
  refine p_iload 4 2080 rfl dL_law_2078 rfl ?_
  refine p_iconst (3) 2081 rfl dL_law_2080 rfl ?_
  refine p_iadd 2082 rfl dL_law_2081 ?_
  rw [show nI i + 3 = nI (i + 3) from nI_add _ 3]
  refine p_sld 2083 rfl dL_law_2082 (vp_in_nI (by omega) (by omega)) ?_
  refine p_callV (as := [.int (gx Γ (nI (i + 1)).toNatClampNeg), .int (gx Γ (nI (i + 2)).toNatClampNeg), .int (gx Γ (nI (i + 3)).toNatClampNeg)]) (st := []) (mc2 := 8 * n) (ms2 := 48 * n) 2086 rfl dL_law_2083 (q_game hR1 (gx Γ (nI (i + 1)).toNatClampNeg) (gx Γ (nI (i + 2)).toNatClampNeg) (gx Γ (nI (i + 3)).toNatClampNeg)) ml_L_239 vl_X9_game rfl (by decide) rfl rfl rfl (Nat.le_of_ble_eq_true rfl) (Nat.le_of_ble_eq_true rfl) (by omega) (by omega) rfl (fun v σ2 h => ?_) (fun x σ' h => by obtain ⟨_, h, _⟩ := h; cases h)
  obtain ⟨v0, he, hth, hv, hR2, hC2⟩ := h
  injection he with he
  subst he
  have hI2 := hI1.m hC2
  refine p_ist_6 2088 rfl dL_law_2086 (Nat.le_of_ble_eq_true rfl) rfl ?_
  refine p_aload_n 2 2089 rfl rfl dL_law_2088 rfl ?_
  refine p_cV0i 2092 rfl dL_law_2089 c_thrown ml_L_138 vl_X9_thrown rfl (by decide) rfl (Nat.le_of_ble_eq_true rfl) (Nat.le_of_ble_eq_true rfl) rfl ?_
  rw [hth]
  refine p_iload 5 2094 rfl dL_law_2092 rfl ?_
  refine p_icmp_eq 2099 2097 rfl rfl dL_law_2094 (fun _ => ?_) (fun h => absurd rfl h)
  refine p_iload 5 2101 rfl dL_law_2099 rfl ?_
  refine p_if_ne 2116 2104 rfl rfl dL_law_2101 (fun hne => ?_) (fun h0 => ?_)
  · refine p_goto 2707 rfl dL_law_2116 ?_
    exact kk _ _ _ _ ⟨⟨_, _, hI2⟩, hR2⟩
  · have hs0 : (fGame A (gx Γ (nI (i + 1)).toNatClampNeg) (gx Γ (nI (i + 2)).toNatClampNeg) (gx Γ (nI (i + 3)).toNatClampNeg)).1 = 0 := nI_eqI (show nI _ = nI 0 from h0) (by omega) (by decide)
    refine p_aload_n 3 2105 rfl rfl dL_law_2104 rfl ?_
    refine p_iconst (0) 2106 rfl dL_law_2105 rfl ?_
    refine p_lald 2107 rfl dL_law_2106 rfl in_o ?_
    refine p_iload 6 2109 rfl dL_law_2107 rfl ?_
    refine p_i2l 2110 rfl dL_law_2109 ?_
    refine p_lcmp 2111 rfl dL_law_2110 ?_
    refine p_if_eq 2116 2114 rfl rfl dL_law_2111 (fun _ => ?_) (fun h => absurd ((lg_cmp_eq _ _).mpr ?_) h)
    · refine p_goto 2707 rfl dL_law_2116 ?_
      exact kk _ _ _ _ ⟨⟨_, _, hI2⟩, hR2⟩
    · rw [hC2.2.1, hv hs0]
      rcases hs with ⟨_, e⟩ | ⟨e, _⟩
      · rw [e]; exact hL_sL _ _ _ _
      · exact absurd hs0 e
set_option maxRecDepth 8000 in
theorem g_32 (hi : i + 6 ≤ gL Γ) (hL3 : gL Γ ≤ 384) (hB : BO σ A) (kk : ∀ (σ' : PH) (A' : AT) (x5 x6 : Option Value), BO σ' A' → Ok Γ 60 (8 * n) (48 * n) mL_law 2707 [some (.ref 27), some (.ref T0), some (.ref M0), some (.ref oL0), some (.int (nI i)), x5, x6] [] σ' rLw) : Ok Γ 60 (8 * n + 8) (48 * n + 48) mL_law 2119 [some (.ref 27), some (.ref T0), some (.ref M0), some (.ref oL0), some (.int (nI i)), x5, x6] [] σ rLw := by
  obtain ⟨⟨o, o2, hI⟩, hR⟩ := hB
  refine p_aload_n 1 2120 rfl rfl dL_law_2119 rfl ?_
  refine p_aload_n 0 2121 rfl rfl dL_law_2120 rfl ?_
  refine p_iload 4 2123 rfl dL_law_2121 rfl ?_
  refine p_iconst (1) 2124 rfl dL_law_2123 rfl ?_
  refine p_iadd 2125 rfl dL_law_2124 ?_
  rw [show nI i + 1 = nI (i + 1) from nI_add _ 1]
  refine p_sld 2126 rfl dL_law_2125 (vp_in_nI (by omega) (by omega)) ?_
  refine p_aload_n 0 2127 rfl rfl dL_law_2126 rfl ?_
  refine p_iload 4 2129 rfl dL_law_2127 rfl ?_
  refine p_iconst (2) 2130 rfl dL_law_2129 rfl ?_
  refine p_iadd 2131 rfl dL_law_2130 ?_
  rw [show nI i + 2 = nI (i + 2) from nI_add _ 2]
  refine p_sld 2132 rfl dL_law_2131 (vp_in_nI (by omega) (by omega)) ?_
  refine p_aload_n 0 2133 rfl rfl dL_law_2132 rfl ?_
  refine p_iload 4 2135 rfl dL_law_2133 rfl ?_
  refine p_iconst (3) 2136 rfl dL_law_2135 rfl ?_
  refine p_iadd 2137 rfl dL_law_2136 ?_
  rw [show nI i + 3 = nI (i + 3) from nI_add _ 3]
  refine p_sld 2138 rfl dL_law_2137 (vp_in_nI (by omega) (by omega)) ?_
  refine p_aload_n 3 2139 rfl rfl dL_law_2138 rfl ?_
  have hle : (fYears A (gx Γ (nI (i + 1)).toNatClampNeg) (gx Γ (nI (i + 2)).toNatClampNeg) (gx Γ (nI (i + 3)).toNatClampNeg)).1 ≤ 2 := by
    unfold fYears; repeat (first | exact Nat.zero_le _ | refine gd_le ?_ (by decide))
  refine p_callSH (as := [.ref T0, .int (gx Γ (nI (i + 1)).toNatClampNeg), .int (gx Γ (nI (i + 2)).toNatClampNeg), .int (gx Γ (nI (i + 3)).toNatClampNeg), .ref oL0]) (st := []) (mc2 := 8 * n) (ms2 := 48 * n) 2142 rfl dL_law_2139 (w_years (gx Γ (nI (i + 1)).toNatClampNeg) (gx Γ (nI (i + 2)).toNatClampNeg) (gx Γ (nI (i + 3)).toNatClampNeg) hle (t_years hI (gx Γ (nI (i + 1)).toNatClampNeg) (gx Γ (nI (i + 2)).toNatClampNeg) (gx Γ (nI (i + 3)).toNatClampNeg))) (fun x σ' h => by cases h.1) mh_L_240 sl_L_years rfl rfl (Nat.le_of_ble_eq_true rfl) (Nat.le_of_ble_eq_true rfl) (by omega) (by omega) (fun v σ1 h => ?_)
  obtain ⟨he, σ0, ⟨hI0, hC0⟩, hs⟩ := h
  injection he with he
  subst he
  have hI1 : IT σ1 o o2 A := by
    rcases hs with ⟨_, e⟩ | ⟨_, e⟩
    · rw [e]; exact hI0.sl
    · rw [e]; exact hI0
  have hR1 : RM σ1 A := by
    rcases hs with ⟨_, e⟩ | ⟨_, e⟩
    · rw [e]; exact (hR.c hC0).sl
    · rw [e]; exact hR.c hC0
  refine p_ist_5 2144 rfl dL_law_2142 (Nat.le_of_ble_eq_true rfl) rfl ?_
  refine p_aload_n 2 2145 rfl rfl dL_law_2144 rfl ?_
  refine p_aload_n 0 2146 rfl rfl dL_law_2145 rfl ?_
  refine p_iload 4 2148 rfl dL_law_2146 rfl ?_
  refine p_iconst (1) 2149 rfl dL_law_2148 rfl ?_
  refine p_iadd 2150 rfl dL_law_2149 ?_
  rw [show nI i + 1 = nI (i + 1) from nI_add _ 1]
  refine p_sld 2151 rfl dL_law_2150 (vp_in_nI (by omega) (by omega)) ?_
  refine p_aload_n 0 2152 rfl rfl dL_law_2151 rfl ?_
  refine p_iload 4 2154 rfl dL_law_2152 rfl ?_
  refine p_iconst (2) 2155 rfl dL_law_2154 rfl ?_
  refine p_iadd 2156 rfl dL_law_2155 ?_
  rw [show nI i + 2 = nI (i + 2) from nI_add _ 2]
  refine p_sld 2157 rfl dL_law_2156 (vp_in_nI (by omega) (by omega)) ?_
  refine p_aload_n 0 2158 rfl rfl dL_law_2157 rfl ?_
  refine p_iload 4 2160 rfl dL_law_2158 rfl ?_
  refine p_iconst (3) 2161 rfl dL_law_2160 rfl ?_
  refine p_iadd 2162 rfl dL_law_2161 ?_
  rw [show nI i + 3 = nI (i + 3) from nI_add _ 3]
  refine p_sld 2163 rfl dL_law_2162 (vp_in_nI (by omega) (by omega)) ?_
  refine p_callV (as := [.int (gx Γ (nI (i + 1)).toNatClampNeg), .int (gx Γ (nI (i + 2)).toNatClampNeg), .int (gx Γ (nI (i + 3)).toNatClampNeg)]) (st := []) (mc2 := 8 * n) (ms2 := 48 * n) 2166 rfl dL_law_2163 (q_years hR1 (gx Γ (nI (i + 1)).toNatClampNeg) (gx Γ (nI (i + 2)).toNatClampNeg) (gx Γ (nI (i + 3)).toNatClampNeg)) ml_L_242 vl_X9_years rfl (by decide) rfl rfl rfl (Nat.le_of_ble_eq_true rfl) (Nat.le_of_ble_eq_true rfl) (by omega) (by omega) rfl (fun v σ2 h => ?_) (fun x σ' h => by obtain ⟨_, h, _⟩ := h; cases h)
  obtain ⟨v0, he, hth, hv, hR2, hC2⟩ := h
  injection he with he
  subst he
  have hI2 := hI1.m hC2
  refine p_ist_6 2168 rfl dL_law_2166 (Nat.le_of_ble_eq_true rfl) rfl ?_
  refine p_aload_n 2 2169 rfl rfl dL_law_2168 rfl ?_
  refine p_cV0i 2172 rfl dL_law_2169 c_thrown ml_L_138 vl_X9_thrown rfl (by decide) rfl (Nat.le_of_ble_eq_true rfl) (Nat.le_of_ble_eq_true rfl) rfl ?_
  rw [hth]
  refine p_iload 5 2174 rfl dL_law_2172 rfl ?_
  refine p_icmp_eq 2179 2177 rfl rfl dL_law_2174 (fun _ => ?_) (fun h => absurd rfl h)
  refine p_iload 5 2181 rfl dL_law_2179 rfl ?_
  refine p_if_ne 2196 2184 rfl rfl dL_law_2181 (fun hne => ?_) (fun h0 => ?_)
  · refine p_goto 2707 rfl dL_law_2196 ?_
    exact kk _ _ _ _ ⟨⟨_, _, hI2⟩, hR2⟩
  · have hs0 : (fYears A (gx Γ (nI (i + 1)).toNatClampNeg) (gx Γ (nI (i + 2)).toNatClampNeg) (gx Γ (nI (i + 3)).toNatClampNeg)).1 = 0 := nI_eqI (show nI _ = nI 0 from h0) (by omega) (by decide)
    refine p_aload_n 3 2185 rfl rfl dL_law_2184 rfl ?_
    refine p_iconst (0) 2186 rfl dL_law_2185 rfl ?_
    refine p_lald 2187 rfl dL_law_2186 rfl in_o ?_
    refine p_iload 6 2189 rfl dL_law_2187 rfl ?_
    refine p_i2l 2190 rfl dL_law_2189 ?_
    refine p_lcmp 2191 rfl dL_law_2190 ?_
    refine p_if_eq 2196 2194 rfl rfl dL_law_2191 (fun _ => ?_) (fun h => absurd ((lg_cmp_eq _ _).mpr ?_) h)
    · refine p_goto 2707 rfl dL_law_2196 ?_
      exact kk _ _ _ _ ⟨⟨_, _, hI2⟩, hR2⟩
    · rw [hC2.2.1, hv hs0]
      rcases hs with ⟨_, e⟩ | ⟨e, _⟩
      · rw [e]; exact hL_sL _ _ _ _
      · exact absurd hs0 e
set_option maxRecDepth 8000 in
theorem g_33 (hi : i + 6 ≤ gL Γ) (hL3 : gL Γ ≤ 384) (hB : BO σ A) (kk : ∀ (σ' : PH) (A' : AT) (x5 x6 : Option Value), BO σ' A' → Ok Γ 60 (8 * n) (48 * n) mL_law 2707 [some (.ref 27), some (.ref T0), some (.ref M0), some (.ref oL0), some (.int (nI i)), x5, x6] [] σ' rLw) : Ok Γ 60 (8 * n + 8) (48 * n + 48) mL_law 2199 [some (.ref 27), some (.ref T0), some (.ref M0), some (.ref oL0), some (.int (nI i)), x5, x6] [] σ rLw := by
  obtain ⟨⟨o, o2, hI⟩, hR⟩ := hB
  refine p_aload_n 1 2200 rfl rfl dL_law_2199 rfl ?_
  refine p_aload_n 0 2201 rfl rfl dL_law_2200 rfl ?_
  refine p_iload 4 2203 rfl dL_law_2201 rfl ?_
  refine p_iconst (1) 2204 rfl dL_law_2203 rfl ?_
  refine p_iadd 2205 rfl dL_law_2204 ?_
  rw [show nI i + 1 = nI (i + 1) from nI_add _ 1]
  refine p_sld 2206 rfl dL_law_2205 (vp_in_nI (by omega) (by omega)) ?_
  refine p_aload_n 3 2207 rfl rfl dL_law_2206 rfl ?_
  have hle : (fWisest A (gx Γ (nI (i + 1)).toNatClampNeg)).1 ≤ 1 := by
    unfold fWisest; repeat (first | exact Nat.zero_le _ | refine gd_le ?_ (by decide))
  refine p_callSH (as := [.ref T0, .int (gx Γ (nI (i + 1)).toNatClampNeg), .ref oL0]) (st := []) (mc2 := 8 * n) (ms2 := 48 * n) 2210 rfl dL_law_2207 (w_wisest (gx Γ (nI (i + 1)).toNatClampNeg) hle (t_wisest hI (gx Γ (nI (i + 1)).toNatClampNeg))) (fun x σ' h => by cases h.1) mh_L_243 sl_L_wisest rfl rfl (Nat.le_of_ble_eq_true rfl) (Nat.le_of_ble_eq_true rfl) (by omega) (by omega) (fun v σ1 h => ?_)
  obtain ⟨he, σ0, ⟨hI0, hC0⟩, hs⟩ := h
  injection he with he
  subst he
  have hI1 : IT σ1 o o2 A := by
    rcases hs with ⟨_, e⟩ | ⟨_, e⟩
    · rw [e]; exact hI0.sl
    · rw [e]; exact hI0
  have hR1 : RM σ1 A := by
    rcases hs with ⟨_, e⟩ | ⟨_, e⟩
    · rw [e]; exact (hR.c hC0).sl
    · rw [e]; exact hR.c hC0
  refine p_ist_5 2212 rfl dL_law_2210 (Nat.le_of_ble_eq_true rfl) rfl ?_
  refine p_aload_n 2 2213 rfl rfl dL_law_2212 rfl ?_
  refine p_aload_n 0 2214 rfl rfl dL_law_2213 rfl ?_
  refine p_iload 4 2216 rfl dL_law_2214 rfl ?_
  refine p_iconst (1) 2217 rfl dL_law_2216 rfl ?_
  refine p_iadd 2218 rfl dL_law_2217 ?_
  rw [show nI i + 1 = nI (i + 1) from nI_add _ 1]
  refine p_sld 2219 rfl dL_law_2218 (vp_in_nI (by omega) (by omega)) ?_
  refine p_callV (as := [.int (gx Γ (nI (i + 1)).toNatClampNeg)]) (st := []) (mc2 := 8 * n) (ms2 := 48 * n) 2222 rfl dL_law_2219 (q_wisest hR1 (gx Γ (nI (i + 1)).toNatClampNeg)) ml_L_245 vl_X9_wisest rfl (by decide) rfl rfl rfl (Nat.le_of_ble_eq_true rfl) (Nat.le_of_ble_eq_true rfl) (by omega) (by omega) rfl (fun v σ2 h => ?_) (fun x σ' h => by obtain ⟨_, h, _⟩ := h; cases h)
  obtain ⟨v0, he, hth, hv, hR2, hC2⟩ := h
  injection he with he
  subst he
  have hI2 := hI1.m hC2
  refine p_ist_6 2224 rfl dL_law_2222 (Nat.le_of_ble_eq_true rfl) rfl ?_
  refine p_aload_n 2 2225 rfl rfl dL_law_2224 rfl ?_
  refine p_cV0i 2228 rfl dL_law_2225 c_thrown ml_L_138 vl_X9_thrown rfl (by decide) rfl (Nat.le_of_ble_eq_true rfl) (Nat.le_of_ble_eq_true rfl) rfl ?_
  rw [hth]
  refine p_iload 5 2230 rfl dL_law_2228 rfl ?_
  refine p_icmp_eq 2235 2233 rfl rfl dL_law_2230 (fun _ => ?_) (fun h => absurd rfl h)
  refine p_iload 5 2237 rfl dL_law_2235 rfl ?_
  refine p_if_ne 2252 2240 rfl rfl dL_law_2237 (fun hne => ?_) (fun h0 => ?_)
  · refine p_goto 2707 rfl dL_law_2252 ?_
    exact kk _ _ _ _ ⟨⟨_, _, hI2⟩, hR2⟩
  · have hs0 : (fWisest A (gx Γ (nI (i + 1)).toNatClampNeg)).1 = 0 := nI_eqI (show nI _ = nI 0 from h0) (by omega) (by decide)
    refine p_aload_n 3 2241 rfl rfl dL_law_2240 rfl ?_
    refine p_iconst (0) 2242 rfl dL_law_2241 rfl ?_
    refine p_lald 2243 rfl dL_law_2242 rfl in_o ?_
    refine p_iload 6 2245 rfl dL_law_2243 rfl ?_
    refine p_i2l 2246 rfl dL_law_2245 ?_
    refine p_lcmp 2247 rfl dL_law_2246 ?_
    refine p_if_eq 2252 2250 rfl rfl dL_law_2247 (fun _ => ?_) (fun h => absurd ((lg_cmp_eq _ _).mpr ?_) h)
    · refine p_goto 2707 rfl dL_law_2252 ?_
      exact kk _ _ _ _ ⟨⟨_, _, hI2⟩, hR2⟩
    · rw [hC2.2.1, hv hs0]
      rcases hs with ⟨_, e⟩ | ⟨e, _⟩
      · rw [e]; exact hL_sL _ _ _ _
      · exact absurd hs0 e
set_option maxRecDepth 8000 in
theorem g_34 (hi : i + 6 ≤ gL Γ) (hL3 : gL Γ ≤ 384) (hB : BO σ A) (kk : ∀ (σ' : PH) (A' : AT) (x5 x6 : Option Value), BO σ' A' → Ok Γ 60 (8 * n) (48 * n) mL_law 2707 [some (.ref 27), some (.ref T0), some (.ref M0), some (.ref oL0), some (.int (nI i)), x5, x6] [] σ' rLw) : Ok Γ 60 (8 * n + 8) (48 * n + 48) mL_law 2255 [some (.ref 27), some (.ref T0), some (.ref M0), some (.ref oL0), some (.int (nI i)), x5, x6] [] σ rLw := by
  obtain ⟨⟨o, o2, hI⟩, hR⟩ := hB
  refine p_aload_n 1 2256 rfl rfl dL_law_2255 rfl ?_
  refine p_aload_n 0 2257 rfl rfl dL_law_2256 rfl ?_
  refine p_iload 4 2259 rfl dL_law_2257 rfl ?_
  refine p_iconst (1) 2260 rfl dL_law_2259 rfl ?_
  refine p_iadd 2261 rfl dL_law_2260 ?_
  rw [show nI i + 1 = nI (i + 1) from nI_add _ 1]
  refine p_sld 2262 rfl dL_law_2261 (vp_in_nI (by omega) (by omega)) ?_
  refine p_aload_n 0 2263 rfl rfl dL_law_2262 rfl ?_
  refine p_iload 4 2265 rfl dL_law_2263 rfl ?_
  refine p_iconst (2) 2266 rfl dL_law_2265 rfl ?_
  refine p_iadd 2267 rfl dL_law_2266 ?_
  rw [show nI i + 2 = nI (i + 2) from nI_add _ 2]
  refine p_sld 2268 rfl dL_law_2267 (vp_in_nI (by omega) (by omega)) ?_
  refine p_aload_n 0 2269 rfl rfl dL_law_2268 rfl ?_
  refine p_iload 4 2271 rfl dL_law_2269 rfl ?_
  refine p_iconst (3) 2272 rfl dL_law_2271 rfl ?_
  refine p_iadd 2273 rfl dL_law_2272 ?_
  rw [show nI i + 3 = nI (i + 3) from nI_add _ 3]
  refine p_sld 2274 rfl dL_law_2273 (vp_in_nI (by omega) (by omega)) ?_
  refine p_aload_n 3 2275 rfl rfl dL_law_2274 rfl ?_
  have hle : (fCompany A (gx Γ (nI (i + 1)).toNatClampNeg) (gx Γ (nI (i + 2)).toNatClampNeg) (gx Γ (nI (i + 3)).toNatClampNeg)).1 ≤ 2 := by
    unfold fCompany; repeat (first | exact Nat.zero_le _ | refine gd_le ?_ (by decide))
  refine p_callSH (as := [.ref T0, .int (gx Γ (nI (i + 1)).toNatClampNeg), .int (gx Γ (nI (i + 2)).toNatClampNeg), .int (gx Γ (nI (i + 3)).toNatClampNeg), .ref oL0]) (st := []) (mc2 := 8 * n) (ms2 := 48 * n) 2278 rfl dL_law_2275 (w_company (gx Γ (nI (i + 1)).toNatClampNeg) (gx Γ (nI (i + 2)).toNatClampNeg) (gx Γ (nI (i + 3)).toNatClampNeg) hle (t_company hI (gx Γ (nI (i + 1)).toNatClampNeg) (gx Γ (nI (i + 2)).toNatClampNeg) (gx Γ (nI (i + 3)).toNatClampNeg))) (fun x σ' h => by cases h.1) mh_L_246 sl_L_company rfl rfl (Nat.le_of_ble_eq_true rfl) (Nat.le_of_ble_eq_true rfl) (by omega) (by omega) (fun v σ1 h => ?_)
  obtain ⟨he, σ0, ⟨hI0, hC0⟩, hs⟩ := h
  injection he with he
  subst he
  have hI1 : IT σ1 o o2 A := by
    rcases hs with ⟨_, e⟩ | ⟨_, e⟩
    · rw [e]; exact hI0.sl
    · rw [e]; exact hI0
  have hR1 : RM σ1 A := by
    rcases hs with ⟨_, e⟩ | ⟨_, e⟩
    · rw [e]; exact (hR.c hC0).sl
    · rw [e]; exact hR.c hC0
  refine p_ist_5 2280 rfl dL_law_2278 (Nat.le_of_ble_eq_true rfl) rfl ?_
  refine p_aload_n 2 2281 rfl rfl dL_law_2280 rfl ?_
  refine p_aload_n 0 2282 rfl rfl dL_law_2281 rfl ?_
  refine p_iload 4 2284 rfl dL_law_2282 rfl ?_
  refine p_iconst (1) 2285 rfl dL_law_2284 rfl ?_
  refine p_iadd 2286 rfl dL_law_2285 ?_
  rw [show nI i + 1 = nI (i + 1) from nI_add _ 1]
  refine p_sld 2287 rfl dL_law_2286 (vp_in_nI (by omega) (by omega)) ?_
  refine p_aload_n 0 2288 rfl rfl dL_law_2287 rfl ?_
  refine p_iload 4 2290 rfl dL_law_2288 rfl ?_
  refine p_iconst (2) 2291 rfl dL_law_2290 rfl ?_
  refine p_iadd 2292 rfl dL_law_2291 ?_
  rw [show nI i + 2 = nI (i + 2) from nI_add _ 2]
  refine p_sld 2293 rfl dL_law_2292 (vp_in_nI (by omega) (by omega)) ?_
  refine p_aload_n 0 2294 rfl rfl dL_law_2293 rfl ?_
  refine p_iload 4 2296 rfl dL_law_2294 rfl ?_
  refine p_iconst (3) 2297 rfl dL_law_2296 rfl ?_
  refine p_iadd 2298 rfl dL_law_2297 ?_
  rw [show nI i + 3 = nI (i + 3) from nI_add _ 3]
  refine p_sld 2299 rfl dL_law_2298 (vp_in_nI (by omega) (by omega)) ?_
  refine p_callV (as := [.int (gx Γ (nI (i + 1)).toNatClampNeg), .int (gx Γ (nI (i + 2)).toNatClampNeg), .int (gx Γ (nI (i + 3)).toNatClampNeg)]) (st := []) (mc2 := 8 * n) (ms2 := 48 * n) 2302 rfl dL_law_2299 (q_company hR1 (gx Γ (nI (i + 1)).toNatClampNeg) (gx Γ (nI (i + 2)).toNatClampNeg) (gx Γ (nI (i + 3)).toNatClampNeg)) ml_L_248 vl_X9_company rfl (by decide) rfl rfl rfl (Nat.le_of_ble_eq_true rfl) (Nat.le_of_ble_eq_true rfl) (by omega) (by omega) rfl (fun v σ2 h => ?_) (fun x σ' h => by obtain ⟨_, h, _⟩ := h; cases h)
  obtain ⟨v0, he, hth, hv, hR2, hC2⟩ := h
  injection he with he
  subst he
  have hI2 := hI1.m hC2
  refine p_ist_6 2304 rfl dL_law_2302 (Nat.le_of_ble_eq_true rfl) rfl ?_
  refine p_aload_n 2 2305 rfl rfl dL_law_2304 rfl ?_
  refine p_cV0i 2308 rfl dL_law_2305 c_thrown ml_L_138 vl_X9_thrown rfl (by decide) rfl (Nat.le_of_ble_eq_true rfl) (Nat.le_of_ble_eq_true rfl) rfl ?_
  rw [hth]
  refine p_iload 5 2310 rfl dL_law_2308 rfl ?_
  refine p_icmp_eq 2315 2313 rfl rfl dL_law_2310 (fun _ => ?_) (fun h => absurd rfl h)
  refine p_iload 5 2317 rfl dL_law_2315 rfl ?_
  refine p_if_ne 2332 2320 rfl rfl dL_law_2317 (fun hne => ?_) (fun h0 => ?_)
  · refine p_goto 2707 rfl dL_law_2332 ?_
    exact kk _ _ _ _ ⟨⟨_, _, hI2⟩, hR2⟩
  · have hs0 : (fCompany A (gx Γ (nI (i + 1)).toNatClampNeg) (gx Γ (nI (i + 2)).toNatClampNeg) (gx Γ (nI (i + 3)).toNatClampNeg)).1 = 0 := nI_eqI (show nI _ = nI 0 from h0) (by omega) (by decide)
    refine p_aload_n 3 2321 rfl rfl dL_law_2320 rfl ?_
    refine p_iconst (0) 2322 rfl dL_law_2321 rfl ?_
    refine p_lald 2323 rfl dL_law_2322 rfl in_o ?_
    refine p_iload 6 2325 rfl dL_law_2323 rfl ?_
    refine p_i2l 2326 rfl dL_law_2325 ?_
    refine p_lcmp 2327 rfl dL_law_2326 ?_
    refine p_if_eq 2332 2330 rfl rfl dL_law_2327 (fun _ => ?_) (fun h => absurd ((lg_cmp_eq _ _).mpr ?_) h)
    · refine p_goto 2707 rfl dL_law_2332 ?_
      exact kk _ _ _ _ ⟨⟨_, _, hI2⟩, hR2⟩
    · rw [hC2.2.1, hv hs0]
      rcases hs with ⟨_, e⟩ | ⟨e, _⟩
      · rw [e]; exact hL_sL _ _ _ _
      · exact absurd hs0 e
set_option maxRecDepth 8000 in
theorem g_35 (hi : i + 6 ≤ gL Γ) (hL3 : gL Γ ≤ 384) (hB : BO σ A) (kk : ∀ (σ' : PH) (A' : AT) (x5 x6 : Option Value), BO σ' A' → Ok Γ 60 (8 * n) (48 * n) mL_law 2707 [some (.ref 27), some (.ref T0), some (.ref M0), some (.ref oL0), some (.int (nI i)), x5, x6] [] σ' rLw) : Ok Γ 60 (8 * n + 8) (48 * n + 48) mL_law 2335 [some (.ref 27), some (.ref T0), some (.ref M0), some (.ref oL0), some (.int (nI i)), x5, x6] [] σ rLw := by
  obtain ⟨⟨o, o2, hI⟩, hR⟩ := hB
  refine p_aload_n 1 2336 rfl rfl dL_law_2335 rfl ?_
  refine p_aload_n 0 2337 rfl rfl dL_law_2336 rfl ?_
  refine p_iload 4 2339 rfl dL_law_2337 rfl ?_
  refine p_iconst (1) 2340 rfl dL_law_2339 rfl ?_
  refine p_iadd 2341 rfl dL_law_2340 ?_
  rw [show nI i + 1 = nI (i + 1) from nI_add _ 1]
  refine p_sld 2342 rfl dL_law_2341 (vp_in_nI (by omega) (by omega)) ?_
  refine p_aload_n 3 2343 rfl rfl dL_law_2342 rfl ?_
  have hle : (fTogether A (gx Γ (nI (i + 1)).toNatClampNeg)).1 ≤ 1 := by
    unfold fTogether; repeat (first | exact Nat.zero_le _ | refine gd_le ?_ (by decide))
  refine p_callSH (as := [.ref T0, .int (gx Γ (nI (i + 1)).toNatClampNeg), .ref oL0]) (st := []) (mc2 := 8 * n) (ms2 := 48 * n) 2346 rfl dL_law_2343 (w_together (gx Γ (nI (i + 1)).toNatClampNeg) hle (t_together hI (gx Γ (nI (i + 1)).toNatClampNeg))) (fun x σ' h => by cases h.1) mh_L_249 sl_L_together rfl rfl (Nat.le_of_ble_eq_true rfl) (Nat.le_of_ble_eq_true rfl) (by omega) (by omega) (fun v σ1 h => ?_)
  obtain ⟨he, σ0, ⟨hI0, hC0⟩, hs⟩ := h
  injection he with he
  subst he
  have hI1 : IT σ1 o o2 A := by
    rcases hs with ⟨_, e⟩ | ⟨_, e⟩
    · rw [e]; exact hI0.sl
    · rw [e]; exact hI0
  have hR1 : RM σ1 A := by
    rcases hs with ⟨_, e⟩ | ⟨_, e⟩
    · rw [e]; exact (hR.c hC0).sl
    · rw [e]; exact hR.c hC0
  refine p_ist_5 2348 rfl dL_law_2346 (Nat.le_of_ble_eq_true rfl) rfl ?_
  refine p_aload_n 2 2349 rfl rfl dL_law_2348 rfl ?_
  refine p_aload_n 0 2350 rfl rfl dL_law_2349 rfl ?_
  refine p_iload 4 2352 rfl dL_law_2350 rfl ?_
  refine p_iconst (1) 2353 rfl dL_law_2352 rfl ?_
  refine p_iadd 2354 rfl dL_law_2353 ?_
  rw [show nI i + 1 = nI (i + 1) from nI_add _ 1]
  refine p_sld 2355 rfl dL_law_2354 (vp_in_nI (by omega) (by omega)) ?_
  refine p_callV (as := [.int (gx Γ (nI (i + 1)).toNatClampNeg)]) (st := []) (mc2 := 8 * n) (ms2 := 48 * n) 2358 rfl dL_law_2355 (q_together hR1 (gx Γ (nI (i + 1)).toNatClampNeg)) ml_L_251 vl_X9_together rfl (by decide) rfl rfl rfl (Nat.le_of_ble_eq_true rfl) (Nat.le_of_ble_eq_true rfl) (by omega) (by omega) rfl (fun v σ2 h => ?_) (fun x σ' h => by obtain ⟨_, h, _⟩ := h; cases h)
  obtain ⟨v0, he, hth, hv, hR2, hC2⟩ := h
  injection he with he
  subst he
  have hI2 := hI1.m hC2
  refine p_ist_6 2360 rfl dL_law_2358 (Nat.le_of_ble_eq_true rfl) rfl ?_
  refine p_aload_n 2 2361 rfl rfl dL_law_2360 rfl ?_
  refine p_cV0i 2364 rfl dL_law_2361 c_thrown ml_L_138 vl_X9_thrown rfl (by decide) rfl (Nat.le_of_ble_eq_true rfl) (Nat.le_of_ble_eq_true rfl) rfl ?_
  rw [hth]
  refine p_iload 5 2366 rfl dL_law_2364 rfl ?_
  refine p_icmp_eq 2371 2369 rfl rfl dL_law_2366 (fun _ => ?_) (fun h => absurd rfl h)
  refine p_iload 5 2373 rfl dL_law_2371 rfl ?_
  refine p_if_ne 2388 2376 rfl rfl dL_law_2373 (fun hne => ?_) (fun h0 => ?_)
  · refine p_goto 2707 rfl dL_law_2388 ?_
    exact kk _ _ _ _ ⟨⟨_, _, hI2⟩, hR2⟩
  · have hs0 : (fTogether A (gx Γ (nI (i + 1)).toNatClampNeg)).1 = 0 := nI_eqI (show nI _ = nI 0 from h0) (by omega) (by decide)
    refine p_aload_n 3 2377 rfl rfl dL_law_2376 rfl ?_
    refine p_iconst (0) 2378 rfl dL_law_2377 rfl ?_
    refine p_lald 2379 rfl dL_law_2378 rfl in_o ?_
    refine p_iload 6 2381 rfl dL_law_2379 rfl ?_
    refine p_i2l 2382 rfl dL_law_2381 ?_
    refine p_lcmp 2383 rfl dL_law_2382 ?_
    refine p_if_eq 2388 2386 rfl rfl dL_law_2383 (fun _ => ?_) (fun h => absurd ((lg_cmp_eq _ _).mpr ?_) h)
    · refine p_goto 2707 rfl dL_law_2388 ?_
      exact kk _ _ _ _ ⟨⟨_, _, hI2⟩, hR2⟩
    · rw [hC2.2.1, hv hs0]
      rcases hs with ⟨_, e⟩ | ⟨e, _⟩
      · rw [e]; exact hL_sL _ _ _ _
      · exact absurd hs0 e
set_option maxRecDepth 8000 in
theorem g_36 (hi : i + 6 ≤ gL Γ) (hL3 : gL Γ ≤ 384) (hB : BO σ A) (kk : ∀ (σ' : PH) (A' : AT) (x5 x6 : Option Value), BO σ' A' → Ok Γ 60 (8 * n) (48 * n) mL_law 2707 [some (.ref 27), some (.ref T0), some (.ref M0), some (.ref oL0), some (.int (nI i)), x5, x6] [] σ' rLw) : Ok Γ 60 (8 * n + 8) (48 * n + 48) mL_law 2391 [some (.ref 27), some (.ref T0), some (.ref M0), some (.ref oL0), some (.int (nI i)), x5, x6] [] σ rLw := by
  obtain ⟨⟨o, o2, hI⟩, hR⟩ := hB
  refine p_aload_n 1 2392 rfl rfl dL_law_2391 rfl ?_
  refine p_aload_n 0 2393 rfl rfl dL_law_2392 rfl ?_
  refine p_iload 4 2395 rfl dL_law_2393 rfl ?_
  refine p_iconst (1) 2396 rfl dL_law_2395 rfl ?_
  refine p_iadd 2397 rfl dL_law_2396 ?_
  rw [show nI i + 1 = nI (i + 1) from nI_add _ 1]
  refine p_sld 2398 rfl dL_law_2397 (vp_in_nI (by omega) (by omega)) ?_
  refine p_aload_n 3 2399 rfl rfl dL_law_2398 rfl ?_
  have hle : (fOdd A (gx Γ (nI (i + 1)).toNatClampNeg)).1 ≤ 1 := by
    unfold fOdd; repeat (first | exact Nat.zero_le _ | refine gd_le ?_ (by decide))
  refine p_callSH (as := [.ref T0, .int (gx Γ (nI (i + 1)).toNatClampNeg), .ref oL0]) (st := []) (mc2 := 8 * n) (ms2 := 48 * n) 2402 rfl dL_law_2399 (w_odd (gx Γ (nI (i + 1)).toNatClampNeg) hle (t_odd hI (gx Γ (nI (i + 1)).toNatClampNeg))) (fun x σ' h => by cases h.1) mh_L_252 sl_L_odd rfl rfl (Nat.le_of_ble_eq_true rfl) (Nat.le_of_ble_eq_true rfl) (by omega) (by omega) (fun v σ1 h => ?_)
  obtain ⟨he, σ0, ⟨hI0, hC0⟩, hs⟩ := h
  injection he with he
  subst he
  have hI1 : IT σ1 o o2 A := by
    rcases hs with ⟨_, e⟩ | ⟨_, e⟩
    · rw [e]; exact hI0.sl
    · rw [e]; exact hI0
  have hR1 : RM σ1 A := by
    rcases hs with ⟨_, e⟩ | ⟨_, e⟩
    · rw [e]; exact (hR.c hC0).sl
    · rw [e]; exact hR.c hC0
  refine p_ist_5 2404 rfl dL_law_2402 (Nat.le_of_ble_eq_true rfl) rfl ?_
  refine p_aload_n 2 2405 rfl rfl dL_law_2404 rfl ?_
  refine p_aload_n 0 2406 rfl rfl dL_law_2405 rfl ?_
  refine p_iload 4 2408 rfl dL_law_2406 rfl ?_
  refine p_iconst (1) 2409 rfl dL_law_2408 rfl ?_
  refine p_iadd 2410 rfl dL_law_2409 ?_
  rw [show nI i + 1 = nI (i + 1) from nI_add _ 1]
  refine p_sld 2411 rfl dL_law_2410 (vp_in_nI (by omega) (by omega)) ?_
  refine p_callV (as := [.int (gx Γ (nI (i + 1)).toNatClampNeg)]) (st := []) (mc2 := 8 * n) (ms2 := 48 * n) 2414 rfl dL_law_2411 (q_odd hR1 (gx Γ (nI (i + 1)).toNatClampNeg)) ml_L_254 vl_X9_odd rfl (by decide) rfl rfl rfl (Nat.le_of_ble_eq_true rfl) (Nat.le_of_ble_eq_true rfl) (by omega) (by omega) rfl (fun v σ2 h => ?_) (fun x σ' h => by obtain ⟨_, h, _⟩ := h; cases h)
  obtain ⟨v0, he, hth, hv, hR2, hC2⟩ := h
  injection he with he
  subst he
  have hI2 := hI1.m hC2
  refine p_ist_6 2416 rfl dL_law_2414 (Nat.le_of_ble_eq_true rfl) rfl ?_
  refine p_aload_n 2 2417 rfl rfl dL_law_2416 rfl ?_
  refine p_cV0i 2420 rfl dL_law_2417 c_thrown ml_L_138 vl_X9_thrown rfl (by decide) rfl (Nat.le_of_ble_eq_true rfl) (Nat.le_of_ble_eq_true rfl) rfl ?_
  rw [hth]
  refine p_iload 5 2422 rfl dL_law_2420 rfl ?_
  refine p_icmp_eq 2427 2425 rfl rfl dL_law_2422 (fun _ => ?_) (fun h => absurd rfl h)
  refine p_iload 5 2429 rfl dL_law_2427 rfl ?_
  refine p_if_ne 2444 2432 rfl rfl dL_law_2429 (fun hne => ?_) (fun h0 => ?_)
  · refine p_goto 2707 rfl dL_law_2444 ?_
    exact kk _ _ _ _ ⟨⟨_, _, hI2⟩, hR2⟩
  · have hs0 : (fOdd A (gx Γ (nI (i + 1)).toNatClampNeg)).1 = 0 := nI_eqI (show nI _ = nI 0 from h0) (by omega) (by decide)
    refine p_aload_n 3 2433 rfl rfl dL_law_2432 rfl ?_
    refine p_iconst (0) 2434 rfl dL_law_2433 rfl ?_
    refine p_lald 2435 rfl dL_law_2434 rfl in_o ?_
    refine p_iload 6 2437 rfl dL_law_2435 rfl ?_
    refine p_i2l 2438 rfl dL_law_2437 ?_
    refine p_lcmp 2439 rfl dL_law_2438 ?_
    refine p_if_eq 2444 2442 rfl rfl dL_law_2439 (fun _ => ?_) (fun h => absurd ((lg_cmp_eq _ _).mpr ?_) h)
    · refine p_goto 2707 rfl dL_law_2444 ?_
      exact kk _ _ _ _ ⟨⟨_, _, hI2⟩, hR2⟩
    · rw [hC2.2.1, hv hs0]
      rcases hs with ⟨_, e⟩ | ⟨e, _⟩
      · rw [e]; exact hL_sL _ _ _ _
      · exact absurd hs0 e
set_option maxRecDepth 8000 in
theorem g_37 (hi : i + 6 ≤ gL Γ) (hL3 : gL Γ ≤ 384) (hB : BO σ A) (kk : ∀ (σ' : PH) (A' : AT) (x5 x6 : Option Value), BO σ' A' → Ok Γ 60 (8 * n) (48 * n) mL_law 2707 [some (.ref 27), some (.ref T0), some (.ref M0), some (.ref oL0), some (.int (nI i)), x5, x6] [] σ' rLw) : Ok Γ 60 (8 * n + 8) (48 * n + 48) mL_law 2447 [some (.ref 27), some (.ref T0), some (.ref M0), some (.ref oL0), some (.int (nI i)), x5, x6] [] σ rLw := by
  obtain ⟨⟨o, o2, hI⟩, hR⟩ := hB
  refine p_aload_n 1 2448 rfl rfl dL_law_2447 rfl ?_
  refine p_aload_n 0 2449 rfl rfl dL_law_2448 rfl ?_
  refine p_iload 4 2451 rfl dL_law_2449 rfl ?_
  refine p_iconst (1) 2452 rfl dL_law_2451 rfl ?_
  refine p_iadd 2453 rfl dL_law_2452 ?_
  rw [show nI i + 1 = nI (i + 1) from nI_add _ 1]
  refine p_sld 2454 rfl dL_law_2453 (vp_in_nI (by omega) (by omega)) ?_
  refine p_aload_n 0 2455 rfl rfl dL_law_2454 rfl ?_
  refine p_iload 4 2457 rfl dL_law_2455 rfl ?_
  refine p_iconst (2) 2458 rfl dL_law_2457 rfl ?_
  refine p_iadd 2459 rfl dL_law_2458 ?_
  rw [show nI i + 2 = nI (i + 2) from nI_add _ 2]
  refine p_sld 2460 rfl dL_law_2459 (vp_in_nI (by omega) (by omega)) ?_
  refine p_aload_n 3 2461 rfl rfl dL_law_2460 rfl ?_
  have hle : (fFar A (gx Γ (nI (i + 1)).toNatClampNeg) (gx Γ (nI (i + 2)).toNatClampNeg)).1 ≤ 1 := by
    unfold fFar; repeat (first | exact Nat.zero_le _ | refine gd_le ?_ (by decide))
  refine p_callSH (as := [.ref T0, .int (gx Γ (nI (i + 1)).toNatClampNeg), .int (gx Γ (nI (i + 2)).toNatClampNeg), .ref oL0]) (st := []) (mc2 := 8 * n) (ms2 := 48 * n) 2464 rfl dL_law_2461 (w_far (gx Γ (nI (i + 1)).toNatClampNeg) (gx Γ (nI (i + 2)).toNatClampNeg) hle (t_far hI (gx Γ (nI (i + 1)).toNatClampNeg) (gx Γ (nI (i + 2)).toNatClampNeg))) (fun x σ' h => by cases h.1) mh_L_255 sl_L_far rfl rfl (Nat.le_of_ble_eq_true rfl) (Nat.le_of_ble_eq_true rfl) (by omega) (by omega) (fun v σ1 h => ?_)
  obtain ⟨he, σ0, ⟨hI0, hC0⟩, hs⟩ := h
  injection he with he
  subst he
  have hI1 : IT σ1 o o2 A := by
    rcases hs with ⟨_, e⟩ | ⟨_, e⟩
    · rw [e]; exact hI0.sl
    · rw [e]; exact hI0
  have hR1 : RM σ1 A := by
    rcases hs with ⟨_, e⟩ | ⟨_, e⟩
    · rw [e]; exact (hR.c hC0).sl
    · rw [e]; exact hR.c hC0
  refine p_ist_5 2466 rfl dL_law_2464 (Nat.le_of_ble_eq_true rfl) rfl ?_
  refine p_aload_n 2 2467 rfl rfl dL_law_2466 rfl ?_
  refine p_aload_n 0 2468 rfl rfl dL_law_2467 rfl ?_
  refine p_iload 4 2470 rfl dL_law_2468 rfl ?_
  refine p_iconst (1) 2471 rfl dL_law_2470 rfl ?_
  refine p_iadd 2472 rfl dL_law_2471 ?_
  rw [show nI i + 1 = nI (i + 1) from nI_add _ 1]
  refine p_sld 2473 rfl dL_law_2472 (vp_in_nI (by omega) (by omega)) ?_
  refine p_aload_n 0 2474 rfl rfl dL_law_2473 rfl ?_
  refine p_iload 4 2476 rfl dL_law_2474 rfl ?_
  refine p_iconst (2) 2477 rfl dL_law_2476 rfl ?_
  refine p_iadd 2478 rfl dL_law_2477 ?_
  rw [show nI i + 2 = nI (i + 2) from nI_add _ 2]
  refine p_sld 2479 rfl dL_law_2478 (vp_in_nI (by omega) (by omega)) ?_
  refine p_callV (as := [.int (gx Γ (nI (i + 1)).toNatClampNeg), .int (gx Γ (nI (i + 2)).toNatClampNeg)]) (st := []) (mc2 := 8 * n) (ms2 := 48 * n) 2482 rfl dL_law_2479 (q_far hR1 (gx Γ (nI (i + 1)).toNatClampNeg) (gx Γ (nI (i + 2)).toNatClampNeg)) ml_L_257 vl_X9_far rfl (by decide) rfl rfl rfl (Nat.le_of_ble_eq_true rfl) (Nat.le_of_ble_eq_true rfl) (by omega) (by omega) rfl (fun v σ2 h => ?_) (fun x σ' h => by obtain ⟨_, h, _⟩ := h; cases h)
  obtain ⟨v0, he, hth, hv, hR2, hC2⟩ := h
  injection he with he
  subst he
  have hI2 := hI1.m hC2
  refine p_ist_6 2484 rfl dL_law_2482 (Nat.le_of_ble_eq_true rfl) rfl ?_
  refine p_aload_n 2 2485 rfl rfl dL_law_2484 rfl ?_
  refine p_cV0i 2488 rfl dL_law_2485 c_thrown ml_L_138 vl_X9_thrown rfl (by decide) rfl (Nat.le_of_ble_eq_true rfl) (Nat.le_of_ble_eq_true rfl) rfl ?_
  rw [hth]
  refine p_iload 5 2490 rfl dL_law_2488 rfl ?_
  refine p_icmp_eq 2495 2493 rfl rfl dL_law_2490 (fun _ => ?_) (fun h => absurd rfl h)
  refine p_iload 5 2497 rfl dL_law_2495 rfl ?_
  refine p_if_ne 2512 2500 rfl rfl dL_law_2497 (fun hne => ?_) (fun h0 => ?_)
  · refine p_goto 2707 rfl dL_law_2512 ?_
    exact kk _ _ _ _ ⟨⟨_, _, hI2⟩, hR2⟩
  · have hs0 : (fFar A (gx Γ (nI (i + 1)).toNatClampNeg) (gx Γ (nI (i + 2)).toNatClampNeg)).1 = 0 := nI_eqI (show nI _ = nI 0 from h0) (by omega) (by decide)
    refine p_aload_n 3 2501 rfl rfl dL_law_2500 rfl ?_
    refine p_iconst (0) 2502 rfl dL_law_2501 rfl ?_
    refine p_lald 2503 rfl dL_law_2502 rfl in_o ?_
    refine p_iload 6 2505 rfl dL_law_2503 rfl ?_
    refine p_i2l 2506 rfl dL_law_2505 ?_
    refine p_lcmp 2507 rfl dL_law_2506 ?_
    refine p_if_eq 2512 2510 rfl rfl dL_law_2507 (fun _ => ?_) (fun h => absurd ((lg_cmp_eq _ _).mpr ?_) h)
    · refine p_goto 2707 rfl dL_law_2512 ?_
      exact kk _ _ _ _ ⟨⟨_, _, hI2⟩, hR2⟩
    · rw [hC2.2.1, hv hs0]
      rcases hs with ⟨_, e⟩ | ⟨e, _⟩
      · rw [e]; exact hL_sL _ _ _ _
      · exact absurd hs0 e
set_option maxRecDepth 8000 in
theorem g_38 (hi : i + 6 ≤ gL Γ) (hL3 : gL Γ ≤ 384) (hB : BO σ A) (kk : ∀ (σ' : PH) (A' : AT) (x5 x6 : Option Value), BO σ' A' → Ok Γ 60 (8 * n) (48 * n) mL_law 2707 [some (.ref 27), some (.ref T0), some (.ref M0), some (.ref oL0), some (.int (nI i)), x5, x6] [] σ' rLw) : Ok Γ 60 (8 * n + 8) (48 * n + 48) mL_law 2515 [some (.ref 27), some (.ref T0), some (.ref M0), some (.ref oL0), some (.int (nI i)), x5, x6] [] σ rLw := by
  obtain ⟨⟨o, o2, hI⟩, hR⟩ := hB
  refine p_aload_n 1 2516 rfl rfl dL_law_2515 rfl ?_
  refine p_aload_n 0 2517 rfl rfl dL_law_2516 rfl ?_
  refine p_iload 4 2519 rfl dL_law_2517 rfl ?_
  refine p_iconst (1) 2520 rfl dL_law_2519 rfl ?_
  refine p_iadd 2521 rfl dL_law_2520 ?_
  rw [show nI i + 1 = nI (i + 1) from nI_add _ 1]
  refine p_sld 2522 rfl dL_law_2521 (vp_in_nI (by omega) (by omega)) ?_
  refine p_aload_n 3 2523 rfl rfl dL_law_2522 rfl ?_
  have hle : (fUnread A (gx Γ (nI (i + 1)).toNatClampNeg)).1 ≤ 1 := by
    unfold fUnread; repeat (first | exact Nat.zero_le _ | refine gd_le ?_ (by decide))
  refine p_callSH (as := [.ref T0, .int (gx Γ (nI (i + 1)).toNatClampNeg), .ref oL0]) (st := []) (mc2 := 8 * n) (ms2 := 48 * n) 2526 rfl dL_law_2523 (w_unread (gx Γ (nI (i + 1)).toNatClampNeg) hle (t_unread hI (gx Γ (nI (i + 1)).toNatClampNeg))) (fun x σ' h => by cases h.1) mh_L_258 sl_L_unread rfl rfl (Nat.le_of_ble_eq_true rfl) (Nat.le_of_ble_eq_true rfl) (by omega) (by omega) (fun v σ1 h => ?_)
  obtain ⟨he, σ0, ⟨hI0, hC0⟩, hs⟩ := h
  injection he with he
  subst he
  have hI1 : IT σ1 o o2 A := by
    rcases hs with ⟨_, e⟩ | ⟨_, e⟩
    · rw [e]; exact hI0.sl
    · rw [e]; exact hI0
  have hR1 : RM σ1 A := by
    rcases hs with ⟨_, e⟩ | ⟨_, e⟩
    · rw [e]; exact (hR.c hC0).sl
    · rw [e]; exact hR.c hC0
  refine p_ist_5 2528 rfl dL_law_2526 (Nat.le_of_ble_eq_true rfl) rfl ?_
  refine p_aload_n 2 2529 rfl rfl dL_law_2528 rfl ?_
  refine p_aload_n 0 2530 rfl rfl dL_law_2529 rfl ?_
  refine p_iload 4 2532 rfl dL_law_2530 rfl ?_
  refine p_iconst (1) 2533 rfl dL_law_2532 rfl ?_
  refine p_iadd 2534 rfl dL_law_2533 ?_
  rw [show nI i + 1 = nI (i + 1) from nI_add _ 1]
  refine p_sld 2535 rfl dL_law_2534 (vp_in_nI (by omega) (by omega)) ?_
  refine p_callV (as := [.int (gx Γ (nI (i + 1)).toNatClampNeg)]) (st := []) (mc2 := 8 * n) (ms2 := 48 * n) 2538 rfl dL_law_2535 (q_unread hR1 (gx Γ (nI (i + 1)).toNatClampNeg)) ml_L_260 vl_X9_unread rfl (by decide) rfl rfl rfl (Nat.le_of_ble_eq_true rfl) (Nat.le_of_ble_eq_true rfl) (by omega) (by omega) rfl (fun v σ2 h => ?_) (fun x σ' h => by obtain ⟨_, h, _⟩ := h; cases h)
  obtain ⟨v0, he, hth, hv, hR2, hC2⟩ := h
  injection he with he
  subst he
  have hI2 := hI1.m hC2
  refine p_ist_6 2540 rfl dL_law_2538 (Nat.le_of_ble_eq_true rfl) rfl ?_
  refine p_aload_n 2 2541 rfl rfl dL_law_2540 rfl ?_
  refine p_cV0i 2544 rfl dL_law_2541 c_thrown ml_L_138 vl_X9_thrown rfl (by decide) rfl (Nat.le_of_ble_eq_true rfl) (Nat.le_of_ble_eq_true rfl) rfl ?_
  rw [hth]
  refine p_iload 5 2546 rfl dL_law_2544 rfl ?_
  refine p_icmp_eq 2551 2549 rfl rfl dL_law_2546 (fun _ => ?_) (fun h => absurd rfl h)
  refine p_iload 5 2553 rfl dL_law_2551 rfl ?_
  refine p_if_ne 2568 2556 rfl rfl dL_law_2553 (fun hne => ?_) (fun h0 => ?_)
  · refine p_goto 2707 rfl dL_law_2568 ?_
    exact kk _ _ _ _ ⟨⟨_, _, hI2⟩, hR2⟩
  · have hs0 : (fUnread A (gx Γ (nI (i + 1)).toNatClampNeg)).1 = 0 := nI_eqI (show nI _ = nI 0 from h0) (by omega) (by decide)
    refine p_aload_n 3 2557 rfl rfl dL_law_2556 rfl ?_
    refine p_iconst (0) 2558 rfl dL_law_2557 rfl ?_
    refine p_lald 2559 rfl dL_law_2558 rfl in_o ?_
    refine p_iload 6 2561 rfl dL_law_2559 rfl ?_
    refine p_i2l 2562 rfl dL_law_2561 ?_
    refine p_lcmp 2563 rfl dL_law_2562 ?_
    refine p_if_eq 2568 2566 rfl rfl dL_law_2563 (fun _ => ?_) (fun h => absurd ((lg_cmp_eq _ _).mpr ?_) h)
    · refine p_goto 2707 rfl dL_law_2568 ?_
      exact kk _ _ _ _ ⟨⟨_, _, hI2⟩, hR2⟩
    · rw [hC2.2.1, hv hs0]
      rcases hs with ⟨_, e⟩ | ⟨e, _⟩
      · rw [e]; exact hL_sL _ _ _ _
      · exact absurd hs0 e
set_option maxRecDepth 8000 in
theorem g_39 (hi : i + 6 ≤ gL Γ) (hL3 : gL Γ ≤ 384) (hB : BO σ A) (kk : ∀ (σ' : PH) (A' : AT) (x5 x6 : Option Value), BO σ' A' → Ok Γ 60 (8 * n) (48 * n) mL_law 2707 [some (.ref 27), some (.ref T0), some (.ref M0), some (.ref oL0), some (.int (nI i)), x5, x6] [] σ' rLw) : Ok Γ 60 (8 * n + 8) (48 * n + 48) mL_law 2571 [some (.ref 27), some (.ref T0), some (.ref M0), some (.ref oL0), some (.int (nI i)), x5, x6] [] σ rLw := by
  obtain ⟨⟨o, o2, hI⟩, hR⟩ := hB
  refine p_aload_n 1 2572 rfl rfl dL_law_2571 rfl ?_
  refine p_aload_n 0 2573 rfl rfl dL_law_2572 rfl ?_
  refine p_iload 4 2575 rfl dL_law_2573 rfl ?_
  refine p_iconst (1) 2576 rfl dL_law_2575 rfl ?_
  refine p_iadd 2577 rfl dL_law_2576 ?_
  rw [show nI i + 1 = nI (i + 1) from nI_add _ 1]
  refine p_sld 2578 rfl dL_law_2577 (vp_in_nI (by omega) (by omega)) ?_
  refine p_aload_n 3 2579 rfl rfl dL_law_2578 rfl ?_
  have hle : (fHeir A (gx Γ (nI (i + 1)).toNatClampNeg)).1 ≤ 1 := by
    unfold fHeir; repeat (first | exact Nat.zero_le _ | refine gd_le ?_ (by decide))
  refine p_callSH (as := [.ref T0, .int (gx Γ (nI (i + 1)).toNatClampNeg), .ref oL0]) (st := []) (mc2 := 8 * n) (ms2 := 48 * n) 2582 rfl dL_law_2579 (w_heir (gx Γ (nI (i + 1)).toNatClampNeg) hle (t_heir hI (gx Γ (nI (i + 1)).toNatClampNeg))) (fun x σ' h => by cases h.1) mh_L_261 sl_L_heir rfl rfl (Nat.le_of_ble_eq_true rfl) (Nat.le_of_ble_eq_true rfl) (by omega) (by omega) (fun v σ1 h => ?_)
  obtain ⟨he, σ0, ⟨hI0, hC0⟩, hs⟩ := h
  injection he with he
  subst he
  have hI1 : IT σ1 o o2 A := by
    rcases hs with ⟨_, e⟩ | ⟨_, e⟩
    · rw [e]; exact hI0.sl
    · rw [e]; exact hI0
  have hR1 : RM σ1 A := by
    rcases hs with ⟨_, e⟩ | ⟨_, e⟩
    · rw [e]; exact (hR.c hC0).sl
    · rw [e]; exact hR.c hC0
  refine p_ist_5 2584 rfl dL_law_2582 (Nat.le_of_ble_eq_true rfl) rfl ?_
  refine p_aload_n 2 2585 rfl rfl dL_law_2584 rfl ?_
  refine p_aload_n 0 2586 rfl rfl dL_law_2585 rfl ?_
  refine p_iload 4 2588 rfl dL_law_2586 rfl ?_
  refine p_iconst (1) 2589 rfl dL_law_2588 rfl ?_
  refine p_iadd 2590 rfl dL_law_2589 ?_
  rw [show nI i + 1 = nI (i + 1) from nI_add _ 1]
  refine p_sld 2591 rfl dL_law_2590 (vp_in_nI (by omega) (by omega)) ?_
  refine p_callV (as := [.int (gx Γ (nI (i + 1)).toNatClampNeg)]) (st := []) (mc2 := 8 * n) (ms2 := 48 * n) 2594 rfl dL_law_2591 (q_heir hR1 (gx Γ (nI (i + 1)).toNatClampNeg)) ml_L_263 vl_X9_heir rfl (by decide) rfl rfl rfl (Nat.le_of_ble_eq_true rfl) (Nat.le_of_ble_eq_true rfl) (by omega) (by omega) rfl (fun v σ2 h => ?_) (fun x σ' h => by obtain ⟨_, h, _⟩ := h; cases h)
  obtain ⟨v0, he, hth, hv, hR2, hC2⟩ := h
  injection he with he
  subst he
  have hI2 := hI1.m hC2
  refine p_ist_6 2596 rfl dL_law_2594 (Nat.le_of_ble_eq_true rfl) rfl ?_
  refine p_aload_n 2 2597 rfl rfl dL_law_2596 rfl ?_
  refine p_cV0i 2600 rfl dL_law_2597 c_thrown ml_L_138 vl_X9_thrown rfl (by decide) rfl (Nat.le_of_ble_eq_true rfl) (Nat.le_of_ble_eq_true rfl) rfl ?_
  rw [hth]
  refine p_iload 5 2602 rfl dL_law_2600 rfl ?_
  refine p_icmp_eq 2607 2605 rfl rfl dL_law_2602 (fun _ => ?_) (fun h => absurd rfl h)
  refine p_iload 5 2609 rfl dL_law_2607 rfl ?_
  refine p_if_ne 2624 2612 rfl rfl dL_law_2609 (fun hne => ?_) (fun h0 => ?_)
  · refine p_goto 2707 rfl dL_law_2624 ?_
    exact kk _ _ _ _ ⟨⟨_, _, hI2⟩, hR2⟩
  · have hs0 : (fHeir A (gx Γ (nI (i + 1)).toNatClampNeg)).1 = 0 := nI_eqI (show nI _ = nI 0 from h0) (by omega) (by decide)
    refine p_aload_n 3 2613 rfl rfl dL_law_2612 rfl ?_
    refine p_iconst (0) 2614 rfl dL_law_2613 rfl ?_
    refine p_lald 2615 rfl dL_law_2614 rfl in_o ?_
    refine p_iload 6 2617 rfl dL_law_2615 rfl ?_
    refine p_i2l 2618 rfl dL_law_2617 ?_
    refine p_lcmp 2619 rfl dL_law_2618 ?_
    refine p_if_eq 2624 2622 rfl rfl dL_law_2619 (fun _ => ?_) (fun h => absurd ((lg_cmp_eq _ _).mpr ?_) h)
    · refine p_goto 2707 rfl dL_law_2624 ?_
      exact kk _ _ _ _ ⟨⟨_, _, hI2⟩, hR2⟩
    · rw [hC2.2.1, hv hs0]
      rcases hs with ⟨_, e⟩ | ⟨e, _⟩
      · rw [e]; exact hL_sL _ _ _ _
      · exact absurd hs0 e
set_option maxRecDepth 8000 in
theorem g_40 (hi : i + 6 ≤ gL Γ) (hL3 : gL Γ ≤ 384) (hB : BO σ A) (kk : ∀ (σ' : PH) (A' : AT) (x5 x6 : Option Value), BO σ' A' → Ok Γ 60 (8 * n) (48 * n) mL_law 2707 [some (.ref 27), some (.ref T0), some (.ref M0), some (.ref oL0), some (.int (nI i)), x5, x6] [] σ' rLw) : Ok Γ 60 (8 * n + 8) (48 * n + 48) mL_law 2627 [some (.ref 27), some (.ref T0), some (.ref M0), some (.ref oL0), some (.int (nI i)), x5, x6] [] σ rLw := by
  obtain ⟨⟨o, o2, hI⟩, hR⟩ := hB
  refine p_aload_n 1 2628 rfl rfl dL_law_2627 rfl ?_
  refine p_aload_n 0 2629 rfl rfl dL_law_2628 rfl ?_
  refine p_iload 4 2631 rfl dL_law_2629 rfl ?_
  refine p_iconst (1) 2632 rfl dL_law_2631 rfl ?_
  refine p_iadd 2633 rfl dL_law_2632 ?_
  rw [show nI i + 1 = nI (i + 1) from nI_add _ 1]
  refine p_sld 2634 rfl dL_law_2633 (vp_in_nI (by omega) (by omega)) ?_
  refine p_aload_n 3 2635 rfl rfl dL_law_2634 rfl ?_
  have hle : (fLaid A (gx Γ (nI (i + 1)).toNatClampNeg)).1 ≤ 1 := by
    unfold fLaid; repeat (first | exact Nat.zero_le _ | refine gd_le ?_ (by decide))
  refine p_callSH (as := [.ref T0, .int (gx Γ (nI (i + 1)).toNatClampNeg), .ref oL0]) (st := []) (mc2 := 8 * n) (ms2 := 48 * n) 2638 rfl dL_law_2635 (w_laid (gx Γ (nI (i + 1)).toNatClampNeg) hle (t_laid hI (gx Γ (nI (i + 1)).toNatClampNeg))) (fun x σ' h => by cases h.1) mh_L_264 sl_L_laid rfl rfl (Nat.le_of_ble_eq_true rfl) (Nat.le_of_ble_eq_true rfl) (by omega) (by omega) (fun v σ1 h => ?_)
  obtain ⟨he, σ0, ⟨hI0, hC0⟩, hs⟩ := h
  injection he with he
  subst he
  have hI1 : IT σ1 o o2 A := by
    rcases hs with ⟨_, e⟩ | ⟨_, e⟩
    · rw [e]; exact hI0.sl
    · rw [e]; exact hI0
  have hR1 : RM σ1 A := by
    rcases hs with ⟨_, e⟩ | ⟨_, e⟩
    · rw [e]; exact (hR.c hC0).sl
    · rw [e]; exact hR.c hC0
  refine p_ist_5 2640 rfl dL_law_2638 (Nat.le_of_ble_eq_true rfl) rfl ?_
  refine p_aload_n 2 2641 rfl rfl dL_law_2640 rfl ?_
  refine p_aload_n 0 2642 rfl rfl dL_law_2641 rfl ?_
  refine p_iload 4 2644 rfl dL_law_2642 rfl ?_
  refine p_iconst (1) 2645 rfl dL_law_2644 rfl ?_
  refine p_iadd 2646 rfl dL_law_2645 ?_
  rw [show nI i + 1 = nI (i + 1) from nI_add _ 1]
  refine p_sld 2647 rfl dL_law_2646 (vp_in_nI (by omega) (by omega)) ?_
  refine p_callV (as := [.int (gx Γ (nI (i + 1)).toNatClampNeg)]) (st := []) (mc2 := 8 * n) (ms2 := 48 * n) 2650 rfl dL_law_2647 (q_laid hR1 (gx Γ (nI (i + 1)).toNatClampNeg)) ml_L_266 vl_X9_laid rfl (by decide) rfl rfl rfl (Nat.le_of_ble_eq_true rfl) (Nat.le_of_ble_eq_true rfl) (by omega) (by omega) rfl (fun v σ2 h => ?_) (fun x σ' h => by obtain ⟨_, h, _⟩ := h; cases h)
  obtain ⟨v0, he, hth, hv, hR2, hC2⟩ := h
  injection he with he
  subst he
  have hI2 := hI1.m hC2
  refine p_ist_6 2652 rfl dL_law_2650 (Nat.le_of_ble_eq_true rfl) rfl ?_
  refine p_aload_n 2 2653 rfl rfl dL_law_2652 rfl ?_
  refine p_cV0i 2656 rfl dL_law_2653 c_thrown ml_L_138 vl_X9_thrown rfl (by decide) rfl (Nat.le_of_ble_eq_true rfl) (Nat.le_of_ble_eq_true rfl) rfl ?_
  rw [hth]
  refine p_iload 5 2658 rfl dL_law_2656 rfl ?_
  refine p_icmp_eq 2663 2661 rfl rfl dL_law_2658 (fun _ => ?_) (fun h => absurd rfl h)
  refine p_iload 5 2665 rfl dL_law_2663 rfl ?_
  refine p_if_ne 2680 2668 rfl rfl dL_law_2665 (fun hne => ?_) (fun h0 => ?_)
  · refine p_goto 2707 rfl dL_law_2680 ?_
    exact kk _ _ _ _ ⟨⟨_, _, hI2⟩, hR2⟩
  · have hs0 : (fLaid A (gx Γ (nI (i + 1)).toNatClampNeg)).1 = 0 := nI_eqI (show nI _ = nI 0 from h0) (by omega) (by decide)
    refine p_aload_n 3 2669 rfl rfl dL_law_2668 rfl ?_
    refine p_iconst (0) 2670 rfl dL_law_2669 rfl ?_
    refine p_lald 2671 rfl dL_law_2670 rfl in_o ?_
    refine p_iload 6 2673 rfl dL_law_2671 rfl ?_
    refine p_i2l 2674 rfl dL_law_2673 ?_
    refine p_lcmp 2675 rfl dL_law_2674 ?_
    refine p_if_eq 2680 2678 rfl rfl dL_law_2675 (fun _ => ?_) (fun h => absurd ((lg_cmp_eq _ _).mpr ?_) h)
    · refine p_goto 2707 rfl dL_law_2680 ?_
      exact kk _ _ _ _ ⟨⟨_, _, hI2⟩, hR2⟩
    · rw [hC2.2.1, hv hs0]
      rcases hs with ⟨_, e⟩ | ⟨e, _⟩
      · rw [e]; exact hL_sL _ _ _ _
      · exact absurd hs0 e
set_option maxRecDepth 8000 in
theorem g_41 (hi : i + 6 ≤ gL Γ) (hL3 : gL Γ ≤ 384) (hB : BO σ A) (kk : ∀ (σ' : PH) (A' : AT) (x5 x6 : Option Value), BO σ' A' → Ok Γ 60 (8 * n) (48 * n) mL_law 2707 [some (.ref 27), some (.ref T0), some (.ref M0), some (.ref oL0), some (.int (nI i)), x5, x6] [] σ' rLw) : Ok Γ 60 (8 * n + 8) (48 * n + 48) mL_law 2683 [some (.ref 27), some (.ref T0), some (.ref M0), some (.ref oL0), some (.int (nI i)), x5, x6] [] σ rLw := by
  obtain ⟨⟨o, o2, hI⟩, hR⟩ := hB
  refine p_aload_n 1 2684 rfl rfl dL_law_2683 rfl ?_
  refine p_cV0v (8 * n) (48 * n) 2687 rfl dL_law_2684 (t_image hI) ml_L_267 vl_X8_image rfl (by decide) rfl (Nat.le_of_ble_eq_true rfl) (Nat.le_of_ble_eq_true rfl) (by omega) (by omega) rfl ?_
  rintro σ1 ⟨hI1, hC1⟩
  have hR1 := hR.c hC1
  refine p_aload_n 2 2688 rfl rfl dL_law_2687 rfl ?_
  refine p_cV0v (8 * n) (48 * n) 2691 rfl dL_law_2688 (q_image hR1 hI1.2.1) ml_L_270 vl_X9_image rfl (by decide) rfl (Nat.le_of_ble_eq_true rfl) (Nat.le_of_ble_eq_true rfl) (by omega) (by omega) rfl ?_
  rintro σ2 ⟨hR2, hC2⟩
  have hI2 := hI1.m hC2
  refine p_goto 2707 rfl dL_law_2691 ?_
  exact kk _ _ _ _ ⟨⟨_, _, hI2⟩, hR2⟩
set_option maxRecDepth 8000 in
theorem g_42 (hi : i + 6 ≤ gL Γ) (hL3 : gL Γ ≤ 384) (hB : BO σ A) (kk : ∀ (σ' : PH) (A' : AT) (x5 x6 : Option Value), BO σ' A' → Ok Γ 60 (8 * n) (48 * n) mL_law 2707 [some (.ref 27), some (.ref T0), some (.ref M0), some (.ref oL0), some (.int (nI i)), x5, x6] [] σ' rLw) : Ok Γ 60 (8 * n + 8) (48 * n + 48) mL_law 2694 [some (.ref 27), some (.ref T0), some (.ref M0), some (.ref oL0), some (.int (nI i)), x5, x6] [] σ rLw := by
  obtain ⟨⟨o, o2, hI⟩, hR⟩ := hB
  have hz : ((0, if (tI A).isSome = true then 1 else 0) : Nat × Int32).1 = 0 := by rfl
  refine p_aload_n 1 2695 rfl rfl dL_law_2694 rfl ?_
  refine p_callV (as := []) (st := []) (mc2 := 8 * n) (ms2 := 48 * n) 2698 rfl dL_law_2695 (t_restore hI ) ml_L_271 vl_X8_restore rfl (by decide) rfl rfl rfl (Nat.le_of_ble_eq_true rfl) (Nat.le_of_ble_eq_true rfl) (by omega) (by omega) rfl (fun v σ1 h => ?_) (fun x σ' h => by have he := h.1; rw [if_pos hz] at he; cases he)
  obtain ⟨he, hI1, hC1⟩ := h
  rw [if_pos hz] at he
  injection he with he
  subst he
  have hR1 := hR.c hC1
  refine p_aload_n 2 2699 rfl rfl dL_law_2698 rfl ?_
  refine p_callV (as := []) (st := [.int ((0, if (tI A).isSome = true then 1 else 0) : Nat × Int32).2]) (mc2 := 8 * n) (ms2 := 48 * n) 2702 rfl dL_law_2699 (q_restore hR1  hI1.2.1) ml_L_275 vl_X9_restore rfl (by decide) rfl rfl rfl (Nat.le_of_ble_eq_true rfl) (Nat.le_of_ble_eq_true rfl) (by omega) (by omega) rfl (fun v σ2 h => ?_) (fun x σ' h => by obtain ⟨_, h, _⟩ := h; cases h)
  obtain ⟨v0, he, hth, hv, hR2, hC2⟩ := h
  injection he with he
  subst he
  have hI2 := hI1.m hC2
  refine p_icmp_eq 2707 2705 rfl rfl dL_law_2702 (fun _ => ?_) (fun h => absurd (hv hz).symm h)
  exact kk _ _ _ _ ⟨⟨_, _, hI2⟩, hR2⟩
end Cb7
