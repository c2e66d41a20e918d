theorem two {A B1 B2 : Prop} {z1 z2 u : Int} (h1 : (¬ A ∧ z1 = u) ∨ (A ∧ B1)) (h2 : (¬ A ∧ z2 = u) ∨ (A ∧ B2)) (hu : B1 → B2 → z1 = z2) : z1 = z2 := by
  rcases h1 with ⟨x1, y1⟩ | ⟨x1, y1⟩
  · rcases h2 with ⟨x2, y2⟩ | ⟨x2, y2⟩
    · exact y1.trans y2.symm
    · exact absurd x2 x1
  · rcases h2 with ⟨x2, y2⟩ | ⟨x2, y2⟩
    · exact absurd x1 x2
    · exact hu y1 y2
theorem bar_ne {D : SG} {L M : Int} (h : bar D L M) (h0 : D 9 0 ≠ 0) : L = M ∧ 0 ≤ L ∧ L < D 9 0 := by
  rcases h with ⟨a, b⟩ | h
  · exact absurd a h0
  · exact h
theorem bar_if {D : SG} {L M : Int} (h : bar D L M) : L = if D 9 0 = 0 then -1 else M := by
  rcases h with ⟨a, b⟩ | ⟨a, b, c⟩
  · rw [if_pos a]; exact b
  · rw [if_neg (by omega)]; exact a
theorem jd_same {D : SG} {S X L : Int} {wy : Int → Int} {bn w z1 z2 : Int} (h1 : ∃ y : Int, isW (fun k => ¬ can D (bpos L wy k.toNat) (S + k + 1) (wy k)) bn y ∧ z1 = if w = 0 then y else bpl D X L wy (if y = -1 then bn else y).toNat) (h2 : ∃ y : Int, isW (fun k => ¬ can D (bpos L wy k.toNat) (S + k + 1) (wy k)) bn y ∧ z2 = if w = 0 then y else bpl D X L wy (if y = -1 then bn else y).toNat) : z1 = z2 := by
  obtain ⟨y1, a1, b1⟩ := h1
  obtain ⟨y2, a2, b2⟩ := h2
  have e := isW_uniq a1 a2
  subst e
  exact b1.trans b2.symm
theorem jd_all {D σ τ1 : SG} {S X L M : Int} {wy : Int → Int} {bn w z1 z2 : Int} (hb : bar D L M) (h1 : ((w < 0 ∨ 1 < w) ∧ τ1 = σ ∧ z1 = -1000000002) ∨ (¬ (w < 0 ∨ 1 < w) ∧ D 9 0 = 0 ∧ τ1 = σ ∧ z1 = -1000000003) ∨ (¬ (w < 0 ∨ 1 < w) ∧ D 9 0 ≠ 0 ∧ (∀ k, k ≠ 54 → k ≠ 56 → τ1 k = σ k) ∧ τ1 54 2 = bn ∧ ∃ y : Int, isW (fun k => ¬ can D (bpos L wy k.toNat) (S + k + 1) (wy k)) bn y ∧ z1 = if w = 0 then y else bpl D X L wy (if y = -1 then bn else y).toNat))
    (h2 : ((w < 0 ∨ 1 < w) ∧ z2 = -1000000002) ∨ (¬ (w < 0 ∨ 1 < w) ∧ D 9 0 = 0 ∧ z2 = -1000000003) ∨ (¬ (w < 0 ∨ 1 < w) ∧ D 9 0 ≠ 0 ∧ ∃ y : Int, isW (fun k => ¬ can D (bpos M wy k.toNat) (S + k + 1) (wy k)) bn y ∧ z2 = if w = 0 then y else bpl D X M wy (if y = -1 then bn else y).toNat)) : z1 = z2 := by
  rcases h1 with ⟨a, -, c⟩ | ⟨a, b, -, c⟩ | ⟨a, b, -, -, c⟩
  · rcases h2 with ⟨-, d⟩ | ⟨d, -⟩ | ⟨d, -⟩
    · exact c.trans d.symm
    · exact absurd a d
    · exact absurd a d
  · rcases h2 with ⟨d, -⟩ | ⟨-, -, d⟩ | ⟨-, d, -⟩
    · exact absurd d a
    · exact c.trans d.symm
    · exact absurd b d
  · rcases h2 with ⟨d, -⟩ | ⟨-, d, -⟩ | ⟨-, -, d⟩
    · exact absurd d a
    · exact absurd d b
    · have e := (bar_ne hb b).1
      subst e
      exact jd_same c d
set_option maxRecDepth 100000 in
set_option maxHeartbeats 4000000 in
theorem law_fault {p : Program} {l : Launch} {e : Env} {s : State} {m : MethodId} {below : List Frame} {meth : Method} {c : Code} {Q : State → Prop} {K : WK} {H0 : Heap} {a L0 : Nat} {xs : Nat → Int32} {σ : SG} {N : Nat} {i : Int} (B : CB p s m #[.ref a] c cL_law RL 4 K) (hS0 : SCR a L0 xs s H0 K) (hN : N ≤ 63) (hi : 0 ≤ i ∧ i + 5 ≤ L0) (hI : INV N σ) (kk : ∀ τ : SG, INV (N + 1) τ → LG p l e s m below meth c Q K H0 a i τ 1197 []) : LG p l e s m below meth c Q K H0 a i σ 232 [] := by
  obtain ⟨b, D, S, X, L, M, P, v, sl, E, Y, bn, wy, tx, n, f, T, U, hc, hm, hr, g0, g1⟩ := hI
  obtain ⟨⟨hb, hcb, hsp, hS⟩, hnw, hv, hsl, hE, hY, hB, hX, hf, hT⟩ := id hc
  obtain ⟨⟨hF, hR, hO, hH⟩, hSX, hbar, hvr, hrT⟩ := id hr
  refine g_aload_n (pc' := 233) B 2 rfl rfl dL_law_232 rfl ?_
  refine g_callVI (pc' := 236) (As := []) B (c_X11_fault l K _  ) vt_X11_fault tw_463 rfl rfl ⟨by decide, by decide⟩ rfl (Nat.le_of_ble_eq_true rfl) ⟨Nat.le_of_ble_eq_true rfl, Nat.le_of_ble_eq_true rfl⟩ rfl dL_law_233 rfl (fun z1 τ1 h1 => ?_)
  obtain ⟨rfl, rfl⟩ := h1
  have e1 : ∀ k, k ≠ 9 → k ≠ 23 → k ≠ 43 → k ≠ 44 → k ≠ 48 → k ≠ 49 → k ≠ 54 → k ≠ 56 → σ k = σ k := fun k _ _ _ _ _ _ _ _ => rfl
  have e54 : σ 54 2 = σ 54 2 := rfl
  have hm1 := hm.k57 (τ := σ) (fun k hk => e1 k (by omega) (by omega) (by omega) (by omega) (by omega) (by omega) (by omega) (by omega))
  obtain ⟨hM1, hmn1, hmv1, hms1, hmE1, hmY1, hmB1, hmX1, hmf1, hmT1⟩ := id hm1
  refine g_aload_n (pc' := 237) B 1 rfl rfl dL_law_236 rfl ?_
  refine g_callVI (pc' := 240) (As := []) B (c_X12_fault l K _  ) vt_X12_fault tw_1084 rfl rfl ⟨by decide, by decide⟩ rfl (Nat.le_of_ble_eq_true rfl) ⟨Nat.le_of_ble_eq_true rfl, Nat.le_of_ble_eq_true rfl⟩ rfl dL_law_237 rfl (fun z2 τ2 h2 => ?_)
  obtain ⟨rfl, rfl⟩ := h2
  have e2 : ∀ k, k ≠ 65 → k ≠ 68 → k ≠ 72 → σ k = σ k := fun k _ _ _ => rfl
  exact g_same B 1197 (hf.trans hmf1.symm) dL_law_240 (by decide) (kk _ (q_end hc hm hr g0 g1 e1 e54 e2))
set_option maxRecDepth 100000 in
set_option maxHeartbeats 4000000 in
theorem law_told {p : Program} {l : Launch} {e : Env} {s : State} {m : MethodId} {below : List Frame} {meth : Method} {c : Code} {Q : State → Prop} {K : WK} {H0 : Heap} {a L0 : Nat} {xs : Nat → Int32} {σ : SG} {N : Nat} {i : Int} (B : CB p s m #[.ref a] c cL_law RL 4 K) (hS0 : SCR a L0 xs s H0 K) (hN : N ≤ 63) (hi : 0 ≤ i ∧ i + 5 ≤ L0) (hI : INV N σ) (kk : ∀ τ : SG, INV (N + 1) τ → LG p l e s m below meth c Q K H0 a i τ 1197 []) : LG p l e s m below meth c Q K H0 a i σ 245 [] := by
  obtain ⟨b, D, S, X, L, M, P, v, sl, E, Y, bn, wy, tx, n, f, T, U, hc, hm, hr, g0, g1⟩ := hI
  obtain ⟨⟨hb, hcb, hsp, hS⟩, hnw, hv, hsl, hE, hY, hB, hX, hf, hT⟩ := id hc
  obtain ⟨⟨hF, hR, hO, hH⟩, hSX, hbar, hvr, hrT⟩ := id hr
  refine g_aload_n (pc' := 246) B 2 rfl rfl dL_law_245 rfl ?_
  refine g_aload_n (pc' := 247) B 3 rfl rfl dL_law_246 rfl ?_
  refine g_iload_n (pc' := 248) B 0 rfl rfl dL_law_247 rfl ?_
  refine g_iconst (pc' := 249) B dL_law_248 rfl ?_
  refine g_iadd (pc' := 250) B dL_law_249 rfl ?_
  refine g_sld (pc' := 251) B hS0 (by omega) dL_law_250 rfl ?_
  refine g_callVI (pc' := 254) (As := [.int (iI (xv xs (i + 1)))]) B (c_X11_told l K _ (b := b) (D := D) (S := S) (X := X) (L := L) (P := P) (sl := sl) (w := xv xs (i + 1)) hb hcb hS hF hR hO hH hnw (by omega) hsl (xv_rng _ _)) vt_X11_told tw_467 rfl rfl ⟨by decide, by decide⟩ rfl (Nat.le_of_ble_eq_true rfl) ⟨Nat.le_of_ble_eq_true rfl, Nat.le_of_ble_eq_true rfl⟩ rfl dL_law_251 rfl (fun z1 τ1 h1 => ?_)
  obtain ⟨rfl, rfl⟩ := h1
  have e1 : ∀ k, k ≠ 9 → k ≠ 23 → k ≠ 43 → k ≠ 44 → k ≠ 48 → k ≠ 49 → k ≠ 54 → k ≠ 56 → σ k = σ k := fun k _ _ _ _ _ _ _ _ => rfl
  have e54 : σ 54 2 = σ 54 2 := rfl
  have hm1 := hm.k57 (τ := σ) (fun k hk => e1 k (by omega) (by omega) (by omega) (by omega) (by omega) (by omega) (by omega) (by omega))
  obtain ⟨hM1, hmn1, hmv1, hms1, hmE1, hmY1, hmB1, hmX1, hmf1, hmT1⟩ := id hm1
  refine g_aload_n (pc' := 255) B 1 rfl rfl dL_law_254 rfl ?_
  refine g_aload_n (pc' := 256) B 3 rfl rfl dL_law_255 rfl ?_
  refine g_iload_n (pc' := 257) B 0 rfl rfl dL_law_256 rfl ?_
  refine g_iconst (pc' := 258) B dL_law_257 rfl ?_
  refine g_iadd (pc' := 259) B dL_law_258 rfl ?_
  refine g_sld (pc' := 260) B hS0 (by omega) dL_law_259 rfl ?_
  refine g_callVI (pc' := 263) (As := [.int (iI (xv xs (i + 1)))]) B (c_X12_told l K _ (D := D) (S := S) (X := X) (L := M) (P := P) (sl := sl) (w := xv xs (i + 1)) hM1 hF hR hO hH hmn1 (by omega) hms1 (xv_rng _ _)) vt_X12_told tw_1088 rfl rfl ⟨by decide, by decide⟩ rfl (Nat.le_of_ble_eq_true rfl) ⟨Nat.le_of_ble_eq_true rfl, Nat.le_of_ble_eq_true rfl⟩ rfl dL_law_260 rfl (fun z2 τ2 h2 => ?_)
  obtain ⟨rfl, rfl⟩ := h2
  have e2 : ∀ k, k ≠ 65 → k ≠ 68 → k ≠ 72 → σ k = σ k := fun k _ _ _ => rfl
  exact g_same B 1197 (by rw [hX.1, hE.1, hY.1, hB.1, hT.2.1, hmX1.1, hmE1.1, hmY1.1, hmB1.1, hmT1.1, hrT.1, ← bar_if hbar]) dL_law_263 (by decide) (kk _ (q_end hc hm hr g0 g1 e1 e54 e2))
set_option maxRecDepth 100000 in
set_option maxHeartbeats 4000000 in
theorem law_field {p : Program} {l : Launch} {e : Env} {s : State} {m : MethodId} {below : List Frame} {meth : Method} {c : Code} {Q : State → Prop} {K : WK} {H0 : Heap} {a L0 : Nat} {xs : Nat → Int32} {σ : SG} {N : Nat} {i : Int} (B : CB p s m #[.ref a] c cL_law RL 4 K) (hS0 : SCR a L0 xs s H0 K) (hN : N ≤ 63) (hi : 0 ≤ i ∧ i + 5 ≤ L0) (hI : INV N σ) (kk : ∀ τ : SG, INV (N + 1) τ → LG p l e s m below meth c Q K H0 a i τ 1197 []) : LG p l e s m below meth c Q K H0 a i σ 268 [] := by
  obtain ⟨b, D, S, X, L, M, P, v, sl, E, Y, bn, wy, tx, n, f, T, U, hc, hm, hr, g0, g1⟩ := hI
  obtain ⟨⟨hb, hcb, hsp, hS⟩, hnw, hv, hsl, hE, hY, hB, hX, hf, hT⟩ := id hc
  obtain ⟨⟨hF, hR, hO, hH⟩, hSX, hbar, hvr, hrT⟩ := id hr
  refine g_aload_n (pc' := 269) B 2 rfl rfl dL_law_268 rfl ?_
  refine g_aload_n (pc' := 270) B 3 rfl rfl dL_law_269 rfl ?_
  refine g_iload_n (pc' := 271) B 0 rfl rfl dL_law_270 rfl ?_
  refine g_iconst (pc' := 272) B dL_law_271 rfl ?_
  refine g_iadd (pc' := 273) B dL_law_272 rfl ?_
  refine g_sld (pc' := 274) B hS0 (by omega) dL_law_273 rfl ?_
  refine g_aload_n (pc' := 275) B 3 rfl rfl dL_law_274 rfl ?_
  refine g_iload_n (pc' := 276) B 0 rfl rfl dL_law_275 rfl ?_
  refine g_iconst (pc' := 277) B dL_law_276 rfl ?_
  refine g_iadd (pc' := 278) B dL_law_277 rfl ?_
  refine g_sld (pc' := 279) B hS0 (by omega) dL_law_278 rfl ?_
  refine g_callVI (pc' := 282) (As := [.int (iI (xv xs (i + 1))), .int (iI (xv xs (i + 2)))]) B (c_X11_field l K _ (b := b) (D := D) (S := S) (X := X) (L := L) (P := P) (f := xv xs (i + 1)) (w := xv xs (i + 2)) hb hcb hS hF hR hO hH hnw (by omega) (xv_rng _ _) (xv_rng _ _)) vt_X11_field tw_528 rfl rfl ⟨by decide, by decide⟩ rfl (Nat.le_of_ble_eq_true rfl) ⟨Nat.le_of_ble_eq_true rfl, Nat.le_of_ble_eq_true rfl⟩ rfl dL_law_279 rfl (fun z1 τ1 h1 => ?_)
  obtain ⟨rfl, rfl⟩ := h1
  have e1 : ∀ k, k ≠ 9 → k ≠ 23 → k ≠ 43 → k ≠ 44 → k ≠ 48 → k ≠ 49 → k ≠ 54 → k ≠ 56 → σ k = σ k := fun k _ _ _ _ _ _ _ _ => rfl
  have e54 : σ 54 2 = σ 54 2 := rfl
  have hm1 := hm.k57 (τ := σ) (fun k hk => e1 k (by omega) (by omega) (by omega) (by omega) (by omega) (by omega) (by omega) (by omega))
  obtain ⟨hM1, hmn1, hmv1, hms1, hmE1, hmY1, hmB1, hmX1, hmf1, hmT1⟩ := id hm1
  refine g_aload_n (pc' := 283) B 1 rfl rfl dL_law_282 rfl ?_
  refine g_aload_n (pc' := 284) B 3 rfl rfl dL_law_283 rfl ?_
  refine g_iload_n (pc' := 285) B 0 rfl rfl dL_law_284 rfl ?_
  refine g_iconst (pc' := 286) B dL_law_285 rfl ?_
  refine g_iadd (pc' := 287) B dL_law_286 rfl ?_
  refine g_sld (pc' := 288) B hS0 (by omega) dL_law_287 rfl ?_
  refine g_aload_n (pc' := 289) B 3 rfl rfl dL_law_288 rfl ?_
  refine g_iload_n (pc' := 290) B 0 rfl rfl dL_law_289 rfl ?_
  refine g_iconst (pc' := 291) B dL_law_290 rfl ?_
  refine g_iadd (pc' := 292) B dL_law_291 rfl ?_
  refine g_sld (pc' := 293) B hS0 (by omega) dL_law_292 rfl ?_
  refine g_callVI (pc' := 296) (As := [.int (iI (xv xs (i + 1))), .int (iI (xv xs (i + 2)))]) B (c_X12_field l K _ (D := D) (S := S) (X := X) (L := M) (P := P) (f := xv xs (i + 1)) (w := xv xs (i + 2)) hM1 hF hR hO hH hmn1 (by omega) (xv_rng _ _) (xv_rng _ _)) vt_X12_field tw_1125 rfl rfl ⟨by decide, by decide⟩ rfl (Nat.le_of_ble_eq_true rfl) ⟨Nat.le_of_ble_eq_true rfl, Nat.le_of_ble_eq_true rfl⟩ rfl dL_law_293 rfl (fun z2 τ2 h2 => ?_)
  obtain ⟨rfl, rfl⟩ := h2
  have e2 : ∀ k, k ≠ 65 → k ≠ 68 → k ≠ 72 → σ k = σ k := fun k _ _ _ => rfl
  exact g_same B 1197 (rfl) dL_law_296 (by decide) (kk _ (q_end hc hm hr g0 g1 e1 e54 e2))
set_option maxRecDepth 100000 in
set_option maxHeartbeats 4000000 in
theorem law_height {p : Program} {l : Launch} {e : Env} {s : State} {m : MethodId} {below : List Frame} {meth : Method} {c : Code} {Q : State → Prop} {K : WK} {H0 : Heap} {a L0 : Nat} {xs : Nat → Int32} {σ : SG} {N : Nat} {i : Int} (B : CB p s m #[.ref a] c cL_law RL 4 K) (hS0 : SCR a L0 xs s H0 K) (hN : N ≤ 63) (hi : 0 ≤ i ∧ i + 5 ≤ L0) (hI : INV N σ) (kk : ∀ τ : SG, INV (N + 1) τ → LG p l e s m below meth c Q K H0 a i τ 1197 []) : LG p l e s m below meth c Q K H0 a i σ 301 [] := by
  obtain ⟨b, D, S, X, L, M, P, v, sl, E, Y, bn, wy, tx, n, f, T, U, hc, hm, hr, g0, g1⟩ := hI
  obtain ⟨⟨hb, hcb, hsp, hS⟩, hnw, hv, hsl, hE, hY, hB, hX, hf, hT⟩ := id hc
  obtain ⟨⟨hF, hR, hO, hH⟩, hSX, hbar, hvr, hrT⟩ := id hr
  refine g_aload_n (pc' := 302) B 2 rfl rfl dL_law_301 rfl ?_
  refine g_aload_n (pc' := 303) B 3 rfl rfl dL_law_302 rfl ?_
  refine g_iload_n (pc' := 304) B 0 rfl rfl dL_law_303 rfl ?_
  refine g_iconst (pc' := 305) B dL_law_304 rfl ?_
  refine g_iadd (pc' := 306) B dL_law_305 rfl ?_
  refine g_sld (pc' := 307) B hS0 (by omega) dL_law_306 rfl ?_
  refine g_aload_n (pc' := 308) B 3 rfl rfl dL_law_307 rfl ?_
  refine g_iload_n (pc' := 309) B 0 rfl rfl dL_law_308 rfl ?_
  refine g_iconst (pc' := 310) B dL_law_309 rfl ?_
  refine g_iadd (pc' := 311) B dL_law_310 rfl ?_
  refine g_sld (pc' := 312) B hS0 (by omega) dL_law_311 rfl ?_
  refine g_callVI (pc' := 315) (As := [.int (iI (xv xs (i + 1))), .int (iI (xv xs (i + 2)))]) B (c_X11_height l K _ (b := b) (D := D) (f := xv xs (i + 1)) (x := xv xs (i + 2)) hb hcb hS hF hR hO hH (xv_rng _ _) (xv_rng _ _)) vt_X11_height tw_536 rfl rfl ⟨by decide, by decide⟩ rfl (Nat.le_of_ble_eq_true rfl) ⟨Nat.le_of_ble_eq_true rfl, Nat.le_of_ble_eq_true rfl⟩ rfl dL_law_312 rfl (fun z1 τ1 h1 => ?_)
  obtain ⟨rfl, rfl⟩ := h1
  have e1 : ∀ k, k ≠ 9 → k ≠ 23 → k ≠ 43 → k ≠ 44 → k ≠ 48 → k ≠ 49 → k ≠ 54 → k ≠ 56 → σ k = σ k := fun k _ _ _ _ _ _ _ _ => rfl
  have e54 : σ 54 2 = σ 54 2 := rfl
  have hm1 := hm.k57 (τ := σ) (fun k hk => e1 k (by omega) (by omega) (by omega) (by omega) (by omega) (by omega) (by omega) (by omega))
  obtain ⟨hM1, hmn1, hmv1, hms1, hmE1, hmY1, hmB1, hmX1, hmf1, hmT1⟩ := id hm1
  refine g_aload_n (pc' := 316) B 1 rfl rfl dL_law_315 rfl ?_
  refine g_aload_n (pc' := 317) B 3 rfl rfl dL_law_316 rfl ?_
  refine g_iload_n (pc' := 318) B 0 rfl rfl dL_law_317 rfl ?_
  refine g_iconst (pc' := 319) B dL_law_318 rfl ?_
  refine g_iadd (pc' := 320) B dL_law_319 rfl ?_
  refine g_sld (pc' := 321) B hS0 (by omega) dL_law_320 rfl ?_
  refine g_aload_n (pc' := 322) B 3 rfl rfl dL_law_321 rfl ?_
  refine g_iload_n (pc' := 323) B 0 rfl rfl dL_law_322 rfl ?_
  refine g_iconst (pc' := 324) B dL_law_323 rfl ?_
  refine g_iadd (pc' := 325) B dL_law_324 rfl ?_
  refine g_sld (pc' := 326) B hS0 (by omega) dL_law_325 rfl ?_
  refine g_callVI (pc' := 329) (As := [.int (iI (xv xs (i + 1))), .int (iI (xv xs (i + 2)))]) B (c_X12_height l K _ (D := D) (f := xv xs (i + 1)) (x := xv xs (i + 2)) hM1 hF hR hO hH (xv_rng _ _) (xv_rng _ _)) vt_X12_height tw_1135 rfl rfl ⟨by decide, by decide⟩ rfl (Nat.le_of_ble_eq_true rfl) ⟨Nat.le_of_ble_eq_true rfl, Nat.le_of_ble_eq_true rfl⟩ rfl dL_law_326 rfl (fun z2 τ2 h2 => ?_)
  obtain ⟨rfl, rfl⟩ := h2
  have e2 : ∀ k, k ≠ 65 → k ≠ 68 → k ≠ 72 → σ k = σ k := fun k _ _ _ => rfl
  exact g_same B 1197 (rfl) dL_law_329 (by decide) (kk _ (q_end hc hm hr g0 g1 e1 e54 e2))
set_option maxRecDepth 100000 in
set_option maxHeartbeats 4000000 in
theorem law_house {p : Program} {l : Launch} {e : Env} {s : State} {m : MethodId} {below : List Frame} {meth : Method} {c : Code} {Q : State → Prop} {K : WK} {H0 : Heap} {a L0 : Nat} {xs : Nat → Int32} {σ : SG} {N : Nat} {i : Int} (B : CB p s m #[.ref a] c cL_law RL 4 K) (hS0 : SCR a L0 xs s H0 K) (hN : N ≤ 63) (hi : 0 ≤ i ∧ i + 5 ≤ L0) (hI : INV N σ) (kk : ∀ τ : SG, INV (N + 1) τ → LG p l e s m below meth c Q K H0 a i τ 1197 []) : LG p l e s m below meth c Q K H0 a i σ 334 [] := by
  obtain ⟨b, D, S, X, L, M, P, v, sl, E, Y, bn, wy, tx, n, f, T, U, hc, hm, hr, g0, g1⟩ := hI
  obtain ⟨⟨hb, hcb, hsp, hS⟩, hnw, hv, hsl, hE, hY, hB, hX, hf, hT⟩ := id hc
  obtain ⟨⟨hF, hR, hO, hH⟩, hSX, hbar, hvr, hrT⟩ := id hr
  refine g_aload_n (pc' := 335) B 2 rfl rfl dL_law_334 rfl ?_
  refine g_aload_n (pc' := 336) B 3 rfl rfl dL_law_335 rfl ?_
  refine g_iload_n (pc' := 337) B 0 rfl rfl dL_law_336 rfl ?_
  refine g_iconst (pc' := 338) B dL_law_337 rfl ?_
  refine g_iadd (pc' := 339) B dL_law_338 rfl ?_
  refine g_sld (pc' := 340) B hS0 (by omega) dL_law_339 rfl ?_
  refine g_aload_n (pc' := 341) B 3 rfl rfl dL_law_340 rfl ?_
  refine g_iload_n (pc' := 342) B 0 rfl rfl dL_law_341 rfl ?_
  refine g_iconst (pc' := 343) B dL_law_342 rfl ?_
  refine g_iadd (pc' := 344) B dL_law_343 rfl ?_
  refine g_sld (pc' := 345) B hS0 (by omega) dL_law_344 rfl ?_
  refine g_callVI (pc' := 348) (As := [.int (iI (xv xs (i + 1))), .int (iI (xv xs (i + 2)))]) B (c_X11_house l K _ (b := b) (D := D) (sl := sl) (h := xv xs (i + 1)) (w := xv xs (i + 2)) hb hcb hS hF hR hO hH hsl (xv_rng _ _) (xv_rng _ _)) vt_X11_house tw_541 rfl rfl ⟨by decide, by decide⟩ rfl (Nat.le_of_ble_eq_true rfl) ⟨Nat.le_of_ble_eq_true rfl, Nat.le_of_ble_eq_true rfl⟩ rfl dL_law_345 rfl (fun z1 τ1 h1 => ?_)
  obtain ⟨rfl, rfl⟩ := h1
  have e1 : ∀ k, k ≠ 9 → k ≠ 23 → k ≠ 43 → k ≠ 44 → k ≠ 48 → k ≠ 49 → k ≠ 54 → k ≠ 56 → σ k = σ k := fun k _ _ _ _ _ _ _ _ => rfl
  have e54 : σ 54 2 = σ 54 2 := rfl
  have hm1 := hm.k57 (τ := σ) (fun k hk => e1 k (by omega) (by omega) (by omega) (by omega) (by omega) (by omega) (by omega) (by omega))
  obtain ⟨hM1, hmn1, hmv1, hms1, hmE1, hmY1, hmB1, hmX1, hmf1, hmT1⟩ := id hm1
  refine g_aload_n (pc' := 349) B 1 rfl rfl dL_law_348 rfl ?_
  refine g_aload_n (pc' := 350) B 3 rfl rfl dL_law_349 rfl ?_
  refine g_iload_n (pc' := 351) B 0 rfl rfl dL_law_350 rfl ?_
  refine g_iconst (pc' := 352) B dL_law_351 rfl ?_
  refine g_iadd (pc' := 353) B dL_law_352 rfl ?_
  refine g_sld (pc' := 354) B hS0 (by omega) dL_law_353 rfl ?_
  refine g_aload_n (pc' := 355) B 3 rfl rfl dL_law_354 rfl ?_
  refine g_iload_n (pc' := 356) B 0 rfl rfl dL_law_355 rfl ?_
  refine g_iconst (pc' := 357) B dL_law_356 rfl ?_
  refine g_iadd (pc' := 358) B dL_law_357 rfl ?_
  refine g_sld (pc' := 359) B hS0 (by omega) dL_law_358 rfl ?_
  refine g_callVI (pc' := 362) (As := [.int (iI (xv xs (i + 1))), .int (iI (xv xs (i + 2)))]) B (c_X12_house l K _ (D := D) (sl := sl) (h := xv xs (i + 1)) (w := xv xs (i + 2)) hM1 hF hR hO hH hms1 (xv_rng _ _) (xv_rng _ _)) vt_X12_house tw_1140 rfl rfl ⟨by decide, by decide⟩ rfl (Nat.le_of_ble_eq_true rfl) ⟨Nat.le_of_ble_eq_true rfl, Nat.le_of_ble_eq_true rfl⟩ rfl dL_law_359 rfl (fun z2 τ2 h2 => ?_)
  obtain ⟨rfl, rfl⟩ := h2
  have e2 : ∀ k, k ≠ 65 → k ≠ 68 → k ≠ 72 → σ k = σ k := fun k _ _ _ => rfl
  exact g_same B 1197 (rfl) dL_law_362 (by decide) (kk _ (q_end hc hm hr g0 g1 e1 e54 e2))
set_option maxRecDepth 100000 in
set_option maxHeartbeats 4000000 in
theorem law_seam {p : Program} {l : Launch} {e : Env} {s : State} {m : MethodId} {below : List Frame} {meth : Method} {c : Code} {Q : State → Prop} {K : WK} {H0 : Heap} {a L0 : Nat} {xs : Nat → Int32} {σ : SG} {N : Nat} {i : Int} (B : CB p s m #[.ref a] c cL_law RL 4 K) (hS0 : SCR a L0 xs s H0 K) (hN : N ≤ 63) (hi : 0 ≤ i ∧ i + 5 ≤ L0) (hI : INV N σ) (kk : ∀ τ : SG, INV (N + 1) τ → LG p l e s m below meth c Q K H0 a i τ 1197 []) : LG p l e s m below meth c Q K H0 a i σ 367 [] := by
  obtain ⟨b, D, S, X, L, M, P, v, sl, E, Y, bn, wy, tx, n, f, T, U, hc, hm, hr, g0, g1⟩ := hI
  obtain ⟨⟨hb, hcb, hsp, hS⟩, hnw, hv, hsl, hE, hY, hB, hX, hf, hT⟩ := id hc
  obtain ⟨⟨hF, hR, hO, hH⟩, hSX, hbar, hvr, hrT⟩ := id hr
  refine g_aload_n (pc' := 368) B 2 rfl rfl dL_law_367 rfl ?_
  refine g_aload_n (pc' := 369) B 3 rfl rfl dL_law_368 rfl ?_
  refine g_iload_n (pc' := 370) B 0 rfl rfl dL_law_369 rfl ?_
  refine g_iconst (pc' := 371) B dL_law_370 rfl ?_
  refine g_iadd (pc' := 372) B dL_law_371 rfl ?_
  refine g_sld (pc' := 373) B hS0 (by omega) dL_law_372 rfl ?_
  refine g_aload_n (pc' := 374) B 3 rfl rfl dL_law_373 rfl ?_
  refine g_iload_n (pc' := 375) B 0 rfl rfl dL_law_374 rfl ?_
  refine g_iconst (pc' := 376) B dL_law_375 rfl ?_
  refine g_iadd (pc' := 377) B dL_law_376 rfl ?_
  refine g_sld (pc' := 378) B hS0 (by omega) dL_law_377 rfl ?_
  refine g_callVI (pc' := 381) (As := [.int (iI (xv xs (i + 1))), .int (iI (xv xs (i + 2)))]) B (c_X11_seam l K _ (b := b) (D := D) (s := xv xs (i + 1)) (w := xv xs (i + 2)) hb hcb hS hF hR hO hH (xv_rng _ _) (xv_rng _ _)) vt_X11_seam tw_559 rfl rfl ⟨by decide, by decide⟩ rfl (Nat.le_of_ble_eq_true rfl) ⟨Nat.le_of_ble_eq_true rfl, Nat.le_of_ble_eq_true rfl⟩ rfl dL_law_378 rfl (fun z1 τ1 h1 => ?_)
  obtain ⟨rfl, rfl⟩ := h1
  have e1 : ∀ k, k ≠ 9 → k ≠ 23 → k ≠ 43 → k ≠ 44 → k ≠ 48 → k ≠ 49 → k ≠ 54 → k ≠ 56 → σ k = σ k := fun k _ _ _ _ _ _ _ _ => rfl
  have e54 : σ 54 2 = σ 54 2 := rfl
  have hm1 := hm.k57 (τ := σ) (fun k hk => e1 k (by omega) (by omega) (by omega) (by omega) (by omega) (by omega) (by omega) (by omega))
  obtain ⟨hM1, hmn1, hmv1, hms1, hmE1, hmY1, hmB1, hmX1, hmf1, hmT1⟩ := id hm1
  refine g_aload_n (pc' := 382) B 1 rfl rfl dL_law_381 rfl ?_
  refine g_aload_n (pc' := 383) B 3 rfl rfl dL_law_382 rfl ?_
  refine g_iload_n (pc' := 384) B 0 rfl rfl dL_law_383 rfl ?_
  refine g_iconst (pc' := 385) B dL_law_384 rfl ?_
  refine g_iadd (pc' := 386) B dL_law_385 rfl ?_
  refine g_sld (pc' := 387) B hS0 (by omega) dL_law_386 rfl ?_
  refine g_aload_n (pc' := 388) B 3 rfl rfl dL_law_387 rfl ?_
  refine g_iload_n (pc' := 389) B 0 rfl rfl dL_law_388 rfl ?_
  refine g_iconst (pc' := 390) B dL_law_389 rfl ?_
  refine g_iadd (pc' := 391) B dL_law_390 rfl ?_
  refine g_sld (pc' := 392) B hS0 (by omega) dL_law_391 rfl ?_
  refine g_callVI (pc' := 395) (As := [.int (iI (xv xs (i + 1))), .int (iI (xv xs (i + 2)))]) B (c_X12_seam l K _ (D := D) (s := xv xs (i + 1)) (w := xv xs (i + 2)) hM1 hF hR hO hH (xv_rng _ _) (xv_rng _ _)) vt_X12_seam tw_1148 rfl rfl ⟨by decide, by decide⟩ rfl (Nat.le_of_ble_eq_true rfl) ⟨Nat.le_of_ble_eq_true rfl, Nat.le_of_ble_eq_true rfl⟩ rfl dL_law_392 rfl (fun z2 τ2 h2 => ?_)
  obtain ⟨rfl, rfl⟩ := h2
  have e2 : ∀ k, k ≠ 65 → k ≠ 68 → k ≠ 72 → σ k = σ k := fun k _ _ _ => rfl
  exact g_same B 1197 (rfl) dL_law_395 (by decide) (kk _ (q_end hc hm hr g0 g1 e1 e54 e2))
set_option maxRecDepth 100000 in
set_option maxHeartbeats 4000000 in
theorem law_worst {p : Program} {l : Launch} {e : Env} {s : State} {m : MethodId} {below : List Frame} {meth : Method} {c : Code} {Q : State → Prop} {K : WK} {H0 : Heap} {a L0 : Nat} {xs : Nat → Int32} {σ : SG} {N : Nat} {i : Int} (B : CB p s m #[.ref a] c cL_law RL 4 K) (hS0 : SCR a L0 xs s H0 K) (hN : N ≤ 63) (hi : 0 ≤ i ∧ i + 5 ≤ L0) (hI : INV N σ) (kk : ∀ τ : SG, INV (N + 1) τ → LG p l e s m below meth c Q K H0 a i τ 1197 []) : LG p l e s m below meth c Q K H0 a i σ 571 [] := by
  obtain ⟨b, D, S, X, L, M, P, v, sl, E, Y, bn, wy, tx, n, f, T, U, hc, hm, hr, g0, g1⟩ := hI
  obtain ⟨⟨hb, hcb, hsp, hS⟩, hnw, hv, hsl, hE, hY, hB, hX, hf, hT⟩ := id hc
  obtain ⟨⟨hF, hR, hO, hH⟩, hSX, hbar, hvr, hrT⟩ := id hr
  refine g_aload_n (pc' := 572) B 2 rfl rfl dL_law_571 rfl ?_
  refine g_callVI (pc' := 575) (As := []) B (c_X11_worst l K _ (b := b) (D := D) (sl := sl) hb hcb hS hF hR hO hH hsl) vt_X11_worst tw_649 rfl rfl ⟨by decide, by decide⟩ rfl (Nat.le_of_ble_eq_true rfl) ⟨Nat.le_of_ble_eq_true rfl, Nat.le_of_ble_eq_true rfl⟩ rfl dL_law_572 rfl (fun z1 τ1 h1 => ?_)
  obtain ⟨rfl, rfl⟩ := h1
  have e1 : ∀ k, k ≠ 9 → k ≠ 23 → k ≠ 43 → k ≠ 44 → k ≠ 48 → k ≠ 49 → k ≠ 54 → k ≠ 56 → σ k = σ k := fun k _ _ _ _ _ _ _ _ => rfl
  have e54 : σ 54 2 = σ 54 2 := rfl
  have hm1 := hm.k57 (τ := σ) (fun k hk => e1 k (by omega) (by omega) (by omega) (by omega) (by omega) (by omega) (by omega) (by omega))
  obtain ⟨hM1, hmn1, hmv1, hms1, hmE1, hmY1, hmB1, hmX1, hmf1, hmT1⟩ := id hm1
  refine g_aload_n (pc' := 576) B 1 rfl rfl dL_law_575 rfl ?_
  refine g_callVI (pc' := 579) (As := []) B (c_X12_worst l K _ (D := D) (sl := sl) hM1 hF hR hO hH hms1) vt_X12_worst tw_1214 rfl rfl ⟨by decide, by decide⟩ rfl (Nat.le_of_ble_eq_true rfl) ⟨Nat.le_of_ble_eq_true rfl, Nat.le_of_ble_eq_true rfl⟩ rfl dL_law_576 rfl (fun z2 τ2 h2 => ?_)
  obtain ⟨rfl, rfl⟩ := h2
  have e2 : ∀ k, k ≠ 65 → k ≠ 68 → k ≠ 72 → σ k = σ k := fun k _ _ _ => rfl
  exact g_same B 1197 (rfl) dL_law_579 (by decide) (kk _ (q_end hc hm hr g0 g1 e1 e54 e2))
set_option maxRecDepth 100000 in
set_option maxHeartbeats 4000000 in
theorem law_water {p : Program} {l : Launch} {e : Env} {s : State} {m : MethodId} {below : List Frame} {meth : Method} {c : Code} {Q : State → Prop} {K : WK} {H0 : Heap} {a L0 : Nat} {xs : Nat → Int32} {σ : SG} {N : Nat} {i : Int} (B : CB p s m #[.ref a] c cL_law RL 4 K) (hS0 : SCR a L0 xs s H0 K) (hN : N ≤ 63) (hi : 0 ≤ i ∧ i + 5 ≤ L0) (hI : INV N σ) (kk : ∀ τ : SG, INV (N + 1) τ → LG p l e s m below meth c Q K H0 a i τ 1197 []) : LG p l e s m below meth c Q K H0 a i σ 584 [] := by
  obtain ⟨b, D, S, X, L, M, P, v, sl, E, Y, bn, wy, tx, n, f, T, U, hc, hm, hr, g0, g1⟩ := hI
  obtain ⟨⟨hb, hcb, hsp, hS⟩, hnw, hv, hsl, hE, hY, hB, hX, hf, hT⟩ := id hc
  obtain ⟨⟨hF, hR, hO, hH⟩, hSX, hbar, hvr, hrT⟩ := id hr
  refine g_aload_n (pc' := 585) B 2 rfl rfl dL_law_584 rfl ?_
  refine g_aload_n (pc' := 586) B 3 rfl rfl dL_law_585 rfl ?_
  refine g_iload_n (pc' := 587) B 0 rfl rfl dL_law_586 rfl ?_
  refine g_iconst (pc' := 588) B dL_law_587 rfl ?_
  refine g_iadd (pc' := 589) B dL_law_588 rfl ?_
  refine g_sld (pc' := 590) B hS0 (by omega) dL_law_589 rfl ?_
  refine g_aload_n (pc' := 591) B 3 rfl rfl dL_law_590 rfl ?_
  refine g_iload_n (pc' := 592) B 0 rfl rfl dL_law_591 rfl ?_
  refine g_iconst (pc' := 593) B dL_law_592 rfl ?_
  refine g_iadd (pc' := 594) B dL_law_593 rfl ?_
  refine g_sld (pc' := 595) B hS0 (by omega) dL_law_594 rfl ?_
  refine g_callVI (pc' := 598) (As := [.int (iI (xv xs (i + 1))), .int (iI (xv xs (i + 2)))]) B (c_X11_water l K _ (b := b) (D := D) (S := S) (X := X) (L := L) (P := P) (f := xv xs (i + 1)) (n := xv xs (i + 2)) hb hcb hS hF hR hO hH hnw (by omega) (xv_rng _ _) (xv_rng _ _)) vt_X11_water tw_658 rfl rfl ⟨by decide, by decide⟩ rfl (Nat.le_of_ble_eq_true rfl) ⟨Nat.le_of_ble_eq_true rfl, Nat.le_of_ble_eq_true rfl⟩ rfl dL_law_595 rfl (fun z1 τ1 h1 => ?_)
  obtain ⟨rfl, rfl⟩ := h1
  have e1 : ∀ k, k ≠ 9 → k ≠ 23 → k ≠ 43 → k ≠ 44 → k ≠ 48 → k ≠ 49 → k ≠ 54 → k ≠ 56 → σ k = σ k := fun k _ _ _ _ _ _ _ _ => rfl
  have e54 : σ 54 2 = σ 54 2 := rfl
  have hm1 := hm.k57 (τ := σ) (fun k hk => e1 k (by omega) (by omega) (by omega) (by omega) (by omega) (by omega) (by omega) (by omega))
  obtain ⟨hM1, hmn1, hmv1, hms1, hmE1, hmY1, hmB1, hmX1, hmf1, hmT1⟩ := id hm1
  refine g_aload_n (pc' := 599) B 1 rfl rfl dL_law_598 rfl ?_
  refine g_aload_n (pc' := 600) B 3 rfl rfl dL_law_599 rfl ?_
  refine g_iload_n (pc' := 601) B 0 rfl rfl dL_law_600 rfl ?_
  refine g_iconst (pc' := 602) B dL_law_601 rfl ?_
  refine g_iadd (pc' := 603) B dL_law_602 rfl ?_
  refine g_sld (pc' := 604) B hS0 (by omega) dL_law_603 rfl ?_
  refine g_aload_n (pc' := 605) B 3 rfl rfl dL_law_604 rfl ?_
  refine g_iload_n (pc' := 606) B 0 rfl rfl dL_law_605 rfl ?_
  refine g_iconst (pc' := 607) B dL_law_606 rfl ?_
  refine g_iadd (pc' := 608) B dL_law_607 rfl ?_
  refine g_sld (pc' := 609) B hS0 (by omega) dL_law_608 rfl ?_
  refine g_callVI (pc' := 612) (As := [.int (iI (xv xs (i + 1))), .int (iI (xv xs (i + 2)))]) B (c_X12_water l K _ (D := D) (S := S) (X := X) (L := M) (P := P) (f := xv xs (i + 1)) (n := xv xs (i + 2)) hM1 hF hR hO hH hmn1 (by omega) (xv_rng _ _) (xv_rng _ _)) vt_X12_water tw_1218 rfl rfl ⟨by decide, by decide⟩ rfl (Nat.le_of_ble_eq_true rfl) ⟨Nat.le_of_ble_eq_true rfl, Nat.le_of_ble_eq_true rfl⟩ rfl dL_law_609 rfl (fun z2 τ2 h2 => ?_)
  obtain ⟨rfl, rfl⟩ := h2
  have e2 : ∀ k, k ≠ 65 → k ≠ 68 → k ≠ 72 → σ k = σ k := fun k _ _ _ => rfl
  exact g_same B 1197 (rfl) dL_law_612 (by decide) (kk _ (q_end hc hm hr g0 g1 e1 e54 e2))
set_option maxRecDepth 100000 in
set_option maxHeartbeats 4000000 in
theorem law_mill {p : Program} {l : Launch} {e : Env} {s : State} {m : MethodId} {below : List Frame} {meth : Method} {c : Code} {Q : State → Prop} {K : WK} {H0 : Heap} {a L0 : Nat} {xs : Nat → Int32} {σ : SG} {N : Nat} {i : Int} (B : CB p s m #[.ref a] c cL_law RL 4 K) (hS0 : SCR a L0 xs s H0 K) (hN : N ≤ 63) (hi : 0 ≤ i ∧ i + 5 ≤ L0) (hI : INV N σ) (kk : ∀ τ : SG, INV (N + 1) τ → LG p l e s m below meth c Q K H0 a i τ 1197 []) : LG p l e s m below meth c Q K H0 a i σ 617 [] := by
  obtain ⟨b, D, S, X, L, M, P, v, sl, E, Y, bn, wy, tx, n, f, T, U, hc, hm, hr, g0, g1⟩ := hI
  obtain ⟨⟨hb, hcb, hsp, hS⟩, hnw, hv, hsl, hE, hY, hB, hX, hf, hT⟩ := id hc
  obtain ⟨⟨hF, hR, hO, hH⟩, hSX, hbar, hvr, hrT⟩ := id hr
  refine g_aload_n (pc' := 618) B 2 rfl rfl dL_law_617 rfl ?_
  refine g_aload_n (pc' := 619) B 3 rfl rfl dL_law_618 rfl ?_
  refine g_iload_n (pc' := 620) B 0 rfl rfl dL_law_619 rfl ?_
  refine g_iconst (pc' := 621) B dL_law_620 rfl ?_
  refine g_iadd (pc' := 622) B dL_law_621 rfl ?_
  refine g_sld (pc' := 623) B hS0 (by omega) dL_law_622 rfl ?_
  refine g_aload_n (pc' := 624) B 3 rfl rfl dL_law_623 rfl ?_
  refine g_iload_n (pc' := 625) B 0 rfl rfl dL_law_624 rfl ?_
  refine g_iconst (pc' := 626) B dL_law_625 rfl ?_
  refine g_iadd (pc' := 627) B dL_law_626 rfl ?_
  refine g_sld (pc' := 628) B hS0 (by omega) dL_law_627 rfl ?_
  refine g_callVI (pc' := 631) (As := [.int (iI (xv xs (i + 1))), .int (iI (xv xs (i + 2)))]) B (c_X11_mill l K _ (b := b) (D := D) (f := xv xs (i + 1)) (w := xv xs (i + 2)) hb hcb hS hF hR hO hH (xv_rng _ _) (xv_rng _ _)) vt_X11_mill tw_670 rfl rfl ⟨by decide, by decide⟩ rfl (Nat.le_of_ble_eq_true rfl) ⟨Nat.le_of_ble_eq_true rfl, Nat.le_of_ble_eq_true rfl⟩ rfl dL_law_628 rfl (fun z1 τ1 h1 => ?_)
  obtain ⟨rfl, rfl⟩ := h1
  have e1 : ∀ k, k ≠ 9 → k ≠ 23 → k ≠ 43 → k ≠ 44 → k ≠ 48 → k ≠ 49 → k ≠ 54 → k ≠ 56 → σ k = σ k := fun k _ _ _ _ _ _ _ _ => rfl
  have e54 : σ 54 2 = σ 54 2 := rfl
  have hm1 := hm.k57 (τ := σ) (fun k hk => e1 k (by omega) (by omega) (by omega) (by omega) (by omega) (by omega) (by omega) (by omega))
  obtain ⟨hM1, hmn1, hmv1, hms1, hmE1, hmY1, hmB1, hmX1, hmf1, hmT1⟩ := id hm1
  refine g_aload_n (pc' := 632) B 1 rfl rfl dL_law_631 rfl ?_
  refine g_aload_n (pc' := 633) B 3 rfl rfl dL_law_632 rfl ?_
  refine g_iload_n (pc' := 634) B 0 rfl rfl dL_law_633 rfl ?_
  refine g_iconst (pc' := 635) B dL_law_634 rfl ?_
  refine g_iadd (pc' := 636) B dL_law_635 rfl ?_
  refine g_sld (pc' := 637) B hS0 (by omega) dL_law_636 rfl ?_
  refine g_aload_n (pc' := 638) B 3 rfl rfl dL_law_637 rfl ?_
  refine g_iload_n (pc' := 639) B 0 rfl rfl dL_law_638 rfl ?_
  refine g_iconst (pc' := 640) B dL_law_639 rfl ?_
  refine g_iadd (pc' := 641) B dL_law_640 rfl ?_
  refine g_sld (pc' := 642) B hS0 (by omega) dL_law_641 rfl ?_
  refine g_callVI (pc' := 645) (As := [.int (iI (xv xs (i + 1))), .int (iI (xv xs (i + 2)))]) B (c_X12_mill l K _ (D := D) (S := S) (X := X) (L := M) (P := P) (f := xv xs (i + 1)) (w := xv xs (i + 2)) hM1 hF hR hO hH hmn1 (by omega) (xv_rng _ _) (xv_rng _ _)) vt_X12_mill tw_1226 rfl rfl ⟨by decide, by decide⟩ rfl (Nat.le_of_ble_eq_true rfl) ⟨Nat.le_of_ble_eq_true rfl, Nat.le_of_ble_eq_true rfl⟩ rfl dL_law_642 rfl (fun z2 τ2 h2 => ?_)
  obtain ⟨rfl, rfl⟩ := h2
  have e2 : ∀ k, k ≠ 65 → k ≠ 68 → k ≠ 72 → σ k = σ k := fun k _ _ _ => rfl
  exact g_same B 1197 (rfl) dL_law_645 (by decide) (kk _ (q_end hc hm hr g0 g1 e1 e54 e2))
set_option maxRecDepth 100000 in
set_option maxHeartbeats 4000000 in
theorem law_bestMill {p : Program} {l : Launch} {e : Env} {s : State} {m : MethodId} {below : List Frame} {meth : Method} {c : Code} {Q : State → Prop} {K : WK} {H0 : Heap} {a L0 : Nat} {xs : Nat → Int32} {σ : SG} {N : Nat} {i : Int} (B : CB p s m #[.ref a] c cL_law RL 4 K) (hS0 : SCR a L0 xs s H0 K) (hN : N ≤ 63) (hi : 0 ≤ i ∧ i + 5 ≤ L0) (hI : INV N σ) (kk : ∀ τ : SG, INV (N + 1) τ → LG p l e s m below meth c Q K H0 a i τ 1197 []) : LG p l e s m below meth c Q K H0 a i σ 650 [] := by
  obtain ⟨b, D, S, X, L, M, P, v, sl, E, Y, bn, wy, tx, n, f, T, U, hc, hm, hr, g0, g1⟩ := hI
  obtain ⟨⟨hb, hcb, hsp, hS⟩, hnw, hv, hsl, hE, hY, hB, hX, hf, hT⟩ := id hc
  obtain ⟨⟨hF, hR, hO, hH⟩, hSX, hbar, hvr, hrT⟩ := id hr
  refine g_aload_n (pc' := 651) B 2 rfl rfl dL_law_650 rfl ?_
  refine g_callVI (pc' := 654) (As := []) B (c_X11_bestMill l K _ (b := b) (D := D) hb hcb hS hF hR hO hH) vt_X11_bestMill tw_682 rfl rfl ⟨by decide, by decide⟩ rfl (Nat.le_of_ble_eq_true rfl) ⟨Nat.le_of_ble_eq_true rfl, Nat.le_of_ble_eq_true rfl⟩ rfl dL_law_651 rfl (fun z1 τ1 h1 => ?_)
  obtain ⟨rfl, rfl⟩ := h1
  have e1 : ∀ k, k ≠ 9 → k ≠ 23 → k ≠ 43 → k ≠ 44 → k ≠ 48 → k ≠ 49 → k ≠ 54 → k ≠ 56 → σ k = σ k := fun k _ _ _ _ _ _ _ _ => rfl
  have e54 : σ 54 2 = σ 54 2 := rfl
  have hm1 := hm.k57 (τ := σ) (fun k hk => e1 k (by omega) (by omega) (by omega) (by omega) (by omega) (by omega) (by omega) (by omega))
  obtain ⟨hM1, hmn1, hmv1, hms1, hmE1, hmY1, hmB1, hmX1, hmf1, hmT1⟩ := id hm1
  refine g_aload_n (pc' := 655) B 1 rfl rfl dL_law_654 rfl ?_
  refine g_callVI (pc' := 658) (As := []) B (c_X12_bestMill l K _ (D := D) (S := S) (X := X) (L := M) (P := P) hM1 hF hR hO hH hmn1 (by omega)) vt_X12_bestMill tw_1234 rfl rfl ⟨by decide, by decide⟩ rfl (Nat.le_of_ble_eq_true rfl) ⟨Nat.le_of_ble_eq_true rfl, Nat.le_of_ble_eq_true rfl⟩ rfl dL_law_655 rfl (fun z2 τ2 h2 => ?_)
  obtain ⟨rfl, rfl⟩ := h2
  have e2 : ∀ k, k ≠ 65 → k ≠ 68 → k ≠ 72 → σ k = σ k := fun k _ _ _ => rfl
  exact g_same B 1197 (rfl) dL_law_658 (by decide) (kk _ (q_end hc hm hr g0 g1 e1 e54 e2))
set_option maxRecDepth 100000 in
set_option maxHeartbeats 4000000 in
theorem law_cellars {p : Program} {l : Launch} {e : Env} {s : State} {m : MethodId} {below : List Frame} {meth : Method} {c : Code} {Q : State → Prop} {K : WK} {H0 : Heap} {a L0 : Nat} {xs : Nat → Int32} {σ : SG} {N : Nat} {i : Int} (B : CB p s m #[.ref a] c cL_law RL 4 K) (hS0 : SCR a L0 xs s H0 K) (hN : N ≤ 63) (hi : 0 ≤ i ∧ i + 5 ≤ L0) (hI : INV N σ) (kk : ∀ τ : SG, INV (N + 1) τ → LG p l e s m below meth c Q K H0 a i τ 1197 []) : LG p l e s m below meth c Q K H0 a i σ 940 [] := by
  obtain ⟨b, D, S, X, L, M, P, v, sl, E, Y, bn, wy, tx, n, f, T, U, hc, hm, hr, g0, g1⟩ := hI
  obtain ⟨⟨hb, hcb, hsp, hS⟩, hnw, hv, hsl, hE, hY, hB, hX, hf, hT⟩ := id hc
  obtain ⟨⟨hF, hR, hO, hH⟩, hSX, hbar, hvr, hrT⟩ := id hr
  refine g_aload_n (pc' := 941) B 2 rfl rfl dL_law_940 rfl ?_
  refine g_aload_n (pc' := 942) B 3 rfl rfl dL_law_941 rfl ?_
  refine g_iload_n (pc' := 943) B 0 rfl rfl dL_law_942 rfl ?_
  refine g_iconst (pc' := 944) B dL_law_943 rfl ?_
  refine g_iadd (pc' := 945) B dL_law_944 rfl ?_
  refine g_sld (pc' := 946) B hS0 (by omega) dL_law_945 rfl ?_
  refine g_aload_n (pc' := 947) B 3 rfl rfl dL_law_946 rfl ?_
  refine g_iload_n (pc' := 948) B 0 rfl rfl dL_law_947 rfl ?_
  refine g_iconst (pc' := 949) B dL_law_948 rfl ?_
  refine g_iadd (pc' := 950) B dL_law_949 rfl ?_
  refine g_sld (pc' := 951) B hS0 (by omega) dL_law_950 rfl ?_
  refine g_callVI (pc' := 954) (As := [.int (iI (xv xs (i + 1))), .int (iI (xv xs (i + 2)))]) B (c_X11_cellars l K _ (b := b) (D := D) (S := S) (X := X) (L := L) (P := P) (v := xv xs (i + 1)) (n := xv xs (i + 2)) hb hcb hS hF hR hO hH hnw (by omega) (xv_rng _ _) (xv_rng _ _)) vt_X11_cellars tw_834 rfl rfl ⟨by decide, by decide⟩ rfl (Nat.le_of_ble_eq_true rfl) ⟨Nat.le_of_ble_eq_true rfl, Nat.le_of_ble_eq_true rfl⟩ rfl dL_law_951 rfl (fun z1 τ1 h1 => ?_)
  obtain ⟨rfl, rfl⟩ := h1
  have e1 : ∀ k, k ≠ 9 → k ≠ 23 → k ≠ 43 → k ≠ 44 → k ≠ 48 → k ≠ 49 → k ≠ 54 → k ≠ 56 → σ k = σ k := fun k _ _ _ _ _ _ _ _ => rfl
  have e54 : σ 54 2 = σ 54 2 := rfl
  have hm1 := hm.k57 (τ := σ) (fun k hk => e1 k (by omega) (by omega) (by omega) (by omega) (by omega) (by omega) (by omega) (by omega))
  obtain ⟨hM1, hmn1, hmv1, hms1, hmE1, hmY1, hmB1, hmX1, hmf1, hmT1⟩ := id hm1
  refine g_aload_n (pc' := 955) B 1 rfl rfl dL_law_954 rfl ?_
  refine g_aload_n (pc' := 956) B 3 rfl rfl dL_law_955 rfl ?_
  refine g_iload_n (pc' := 957) B 0 rfl rfl dL_law_956 rfl ?_
  refine g_iconst (pc' := 958) B dL_law_957 rfl ?_
  refine g_iadd (pc' := 959) B dL_law_958 rfl ?_
  refine g_sld (pc' := 960) B hS0 (by omega) dL_law_959 rfl ?_
  refine g_aload_n (pc' := 961) B 3 rfl rfl dL_law_960 rfl ?_
  refine g_iload_n (pc' := 962) B 0 rfl rfl dL_law_961 rfl ?_
  refine g_iconst (pc' := 963) B dL_law_962 rfl ?_
  refine g_iadd (pc' := 964) B dL_law_963 rfl ?_
  refine g_sld (pc' := 965) B hS0 (by omega) dL_law_964 rfl ?_
  refine g_callVI (pc' := 968) (As := [.int (iI (xv xs (i + 1))), .int (iI (xv xs (i + 2)))]) B (c_X12_cellars l K _ (D := D) (S := S) (X := X) (L := M) (P := P) (v := xv xs (i + 1)) (n := xv xs (i + 2)) hM1 hF hR hO hH hmn1 (by omega) (xv_rng _ _) (xv_rng _ _)) vt_X12_cellars tw_1317 rfl rfl ⟨by decide, by decide⟩ rfl (Nat.le_of_ble_eq_true rfl) ⟨Nat.le_of_ble_eq_true rfl, Nat.le_of_ble_eq_true rfl⟩ rfl dL_law_965 rfl (fun z2 τ2 h2 => ?_)
  obtain ⟨rfl, rfl⟩ := h2
  have e2 : ∀ k, k ≠ 65 → k ≠ 68 → k ≠ 72 → σ k = σ k := fun k _ _ _ => rfl
  exact g_same B 1197 (rfl) dL_law_968 (by decide) (kk _ (q_end hc hm hr g0 g1 e1 e54 e2))
set_option maxRecDepth 100000 in
set_option maxHeartbeats 4000000 in
theorem law_sluices {p : Program} {l : Launch} {e : Env} {s : State} {m : MethodId} {below : List Frame} {meth : Method} {c : Code} {Q : State → Prop} {K : WK} {H0 : Heap} {a L0 : Nat} {xs : Nat → Int32} {σ : SG} {N : Nat} {i : Int} (B : CB p s m #[.ref a] c cL_law RL 4 K) (hS0 : SCR a L0 xs s H0 K) (hN : N ≤ 63) (hi : 0 ≤ i ∧ i + 5 ≤ L0) (hI : INV N σ) (kk : ∀ τ : SG, INV (N + 1) τ → LG p l e s m below meth c Q K H0 a i τ 1197 []) : LG p l e s m below meth c Q K H0 a i σ 973 [] := by
  obtain ⟨b, D, S, X, L, M, P, v, sl, E, Y, bn, wy, tx, n, f, T, U, hc, hm, hr, g0, g1⟩ := hI
  obtain ⟨⟨hb, hcb, hsp, hS⟩, hnw, hv, hsl, hE, hY, hB, hX, hf, hT⟩ := id hc
  obtain ⟨⟨hF, hR, hO, hH⟩, hSX, hbar, hvr, hrT⟩ := id hr
  refine g_aload_n (pc' := 974) B 2 rfl rfl dL_law_973 rfl ?_
  refine g_aload_n (pc' := 975) B 3 rfl rfl dL_law_974 rfl ?_
  refine g_iload_n (pc' := 976) B 0 rfl rfl dL_law_975 rfl ?_
  refine g_iconst (pc' := 977) B dL_law_976 rfl ?_
  refine g_iadd (pc' := 978) B dL_law_977 rfl ?_
  refine g_sld (pc' := 979) B hS0 (by omega) dL_law_978 rfl ?_
  refine g_aload_n (pc' := 980) B 3 rfl rfl dL_law_979 rfl ?_
  refine g_iload_n (pc' := 981) B 0 rfl rfl dL_law_980 rfl ?_
  refine g_iconst (pc' := 982) B dL_law_981 rfl ?_
  refine g_iadd (pc' := 983) B dL_law_982 rfl ?_
  refine g_sld (pc' := 984) B hS0 (by omega) dL_law_983 rfl ?_
  refine g_aload_n (pc' := 985) B 3 rfl rfl dL_law_984 rfl ?_
  refine g_iload_n (pc' := 986) B 0 rfl rfl dL_law_985 rfl ?_
  refine g_iconst (pc' := 987) B dL_law_986 rfl ?_
  refine g_iadd (pc' := 988) B dL_law_987 rfl ?_
  refine g_sld (pc' := 989) B hS0 (by omega) dL_law_988 rfl ?_
  refine g_callVI (pc' := 992) (As := [.int (iI (xv xs (i + 1))), .int (iI (xv xs (i + 2))), .int (iI (xv xs (i + 3)))]) B (c_X11_sluices l K _ (b := b) (D := D) (S := S) (X := X) (L := L) (P := P) (v := xv xs (i + 1)) (n := xv xs (i + 2)) (w := xv xs (i + 3)) hb hcb hS hF hR hO hH hnw (by omega) (xv_rng _ _) (xv_rng _ _) (xv_rng _ _)) vt_X11_sluices tw_842 rfl rfl ⟨by decide, by decide⟩ rfl (Nat.le_of_ble_eq_true rfl) ⟨Nat.le_of_ble_eq_true rfl, Nat.le_of_ble_eq_true rfl⟩ rfl dL_law_989 rfl (fun z1 τ1 h1 => ?_)
  obtain ⟨rfl, rfl⟩ := h1
  have e1 : ∀ k, k ≠ 9 → k ≠ 23 → k ≠ 43 → k ≠ 44 → k ≠ 48 → k ≠ 49 → k ≠ 54 → k ≠ 56 → σ k = σ k := fun k _ _ _ _ _ _ _ _ => rfl
  have e54 : σ 54 2 = σ 54 2 := rfl
  have hm1 := hm.k57 (τ := σ) (fun k hk => e1 k (by omega) (by omega) (by omega) (by omega) (by omega) (by omega) (by omega) (by omega))
  obtain ⟨hM1, hmn1, hmv1, hms1, hmE1, hmY1, hmB1, hmX1, hmf1, hmT1⟩ := id hm1
  refine g_aload_n (pc' := 993) B 1 rfl rfl dL_law_992 rfl ?_
  refine g_aload_n (pc' := 994) B 3 rfl rfl dL_law_993 rfl ?_
  refine g_iload_n (pc' := 995) B 0 rfl rfl dL_law_994 rfl ?_
  refine g_iconst (pc' := 996) B dL_law_995 rfl ?_
  refine g_iadd (pc' := 997) B dL_law_996 rfl ?_
  refine g_sld (pc' := 998) B hS0 (by omega) dL_law_997 rfl ?_
  refine g_aload_n (pc' := 999) B 3 rfl rfl dL_law_998 rfl ?_
  refine g_iload_n (pc' := 1000) B 0 rfl rfl dL_law_999 rfl ?_
  refine g_iconst (pc' := 1001) B dL_law_1000 rfl ?_
  refine g_iadd (pc' := 1002) B dL_law_1001 rfl ?_
  refine g_sld (pc' := 1003) B hS0 (by omega) dL_law_1002 rfl ?_
  refine g_aload_n (pc' := 1004) B 3 rfl rfl dL_law_1003 rfl ?_
  refine g_iload_n (pc' := 1005) B 0 rfl rfl dL_law_1004 rfl ?_
  refine g_iconst (pc' := 1006) B dL_law_1005 rfl ?_
  refine g_iadd (pc' := 1007) B dL_law_1006 rfl ?_
  refine g_sld (pc' := 1008) B hS0 (by omega) dL_law_1007 rfl ?_
  refine g_callVI (pc' := 1011) (As := [.int (iI (xv xs (i + 1))), .int (iI (xv xs (i + 2))), .int (iI (xv xs (i + 3)))]) B (c_X12_sluices l K _ (D := D) (S := S) (X := X) (L := M) (P := P) (v := xv xs (i + 1)) (n := xv xs (i + 2)) (q := xv xs (i + 3)) hM1 hF hR hO hH hmn1 (by omega) (xv_rng _ _) (xv_rng _ _) (xv_rng _ _)) vt_X12_sluices tw_1325 rfl rfl ⟨by decide, by decide⟩ rfl (Nat.le_of_ble_eq_true rfl) ⟨Nat.le_of_ble_eq_true rfl, Nat.le_of_ble_eq_true rfl⟩ rfl dL_law_1008 rfl (fun z2 τ2 h2 => ?_)
  obtain ⟨rfl, rfl⟩ := h2
  have e2 : ∀ k, k ≠ 65 → k ≠ 68 → k ≠ 72 → σ k = σ k := fun k _ _ _ => rfl
  exact g_same B 1197 (rfl) dL_law_1011 (by decide) (kk _ (q_end hc hm hr g0 g1 e1 e54 e2))
set_option maxRecDepth 100000 in
set_option maxHeartbeats 4000000 in
theorem law_cracks {p : Program} {l : Launch} {e : Env} {s : State} {m : MethodId} {below : List Frame} {meth : Method} {c : Code} {Q : State → Prop} {K : WK} {H0 : Heap} {a L0 : Nat} {xs : Nat → Int32} {σ : SG} {N : Nat} {i : Int} (B : CB p s m #[.ref a] c cL_law RL 4 K) (hS0 : SCR a L0 xs s H0 K) (hN : N ≤ 63) (hi : 0 ≤ i ∧ i + 5 ≤ L0) (hI : INV N σ) (kk : ∀ τ : SG, INV (N + 1) τ → LG p l e s m below meth c Q K H0 a i τ 1197 []) : LG p l e s m below meth c Q K H0 a i σ 548 [] := by
  obtain ⟨b, D, S, X, L, M, P, v, sl, E, Y, bn, wy, tx, n, f, T, U, hc, hm, hr, g0, g1⟩ := hI
  obtain ⟨⟨hb, hcb, hsp, hS⟩, hnw, hv, hsl, hE, hY, hB, hX, hf, hT⟩ := id hc
  obtain ⟨⟨hF, hR, hO, hH⟩, hSX, hbar, hvr, hrT⟩ := id hr
  refine g_aload_n (pc' := 549) B 2 rfl rfl dL_law_548 rfl ?_
  refine g_aload_n (pc' := 550) B 3 rfl rfl dL_law_549 rfl ?_
  refine g_iload_n (pc' := 551) B 0 rfl rfl dL_law_550 rfl ?_
  refine g_iconst (pc' := 552) B dL_law_551 rfl ?_
  refine g_iadd (pc' := 553) B dL_law_552 rfl ?_
  refine g_sld (pc' := 554) B hS0 (by omega) dL_law_553 rfl ?_
  refine g_callVI (pc' := 557) (As := [.int (iI (xv xs (i + 1)))]) B (c_X11_cracks l K _ (b := b) (D := D) (S := S) (X := X) (L := L) (P := P) (sl := sl) (h := xv xs (i + 1)) hb hcb hS hF hR hO hH hnw (by omega) hsl (xv_rng _ _)) vt_X11_cracks tw_641 rfl rfl ⟨by decide, by decide⟩ rfl (Nat.le_of_ble_eq_true rfl) ⟨Nat.le_of_ble_eq_true rfl, Nat.le_of_ble_eq_true rfl⟩ rfl dL_law_554 rfl (fun z1 τ1 h1 => ?_)
  obtain ⟨rfl, h1⟩ := h1
  have e1 : ∀ k, k ≠ 9 → k ≠ 23 → k ≠ 43 → k ≠ 44 → k ≠ 48 → k ≠ 49 → k ≠ 54 → k ≠ 56 → σ k = σ k := fun k _ _ _ _ _ _ _ _ => rfl
  have e54 : σ 54 2 = σ 54 2 := rfl
  have hm1 := hm.k57 (τ := σ) (fun k hk => e1 k (by omega) (by omega) (by omega) (by omega) (by omega) (by omega) (by omega) (by omega))
  obtain ⟨hM1, hmn1, hmv1, hms1, hmE1, hmY1, hmB1, hmX1, hmf1, hmT1⟩ := id hm1
  refine g_aload_n (pc' := 558) B 1 rfl rfl dL_law_557 rfl ?_
  refine g_aload_n (pc' := 559) B 3 rfl rfl dL_law_558 rfl ?_
  refine g_iload_n (pc' := 560) B 0 rfl rfl dL_law_559 rfl ?_
  refine g_iconst (pc' := 561) B dL_law_560 rfl ?_
  refine g_iadd (pc' := 562) B dL_law_561 rfl ?_
  refine g_sld (pc' := 563) B hS0 (by omega) dL_law_562 rfl ?_
  refine g_callVI (pc' := 566) (As := [.int (iI (xv xs (i + 1)))]) B (c_X12_cracks l K _ (D := D) (S := S) (X := X) (L := M) (P := P) (sl := sl) (h := xv xs (i + 1)) hM1 hF hR hO hH hmn1 (by omega) hms1 (xv_rng _ _)) vt_X12_cracks tw_1210 rfl rfl ⟨by decide, by decide⟩ rfl (Nat.le_of_ble_eq_true rfl) ⟨Nat.le_of_ble_eq_true rfl, Nat.le_of_ble_eq_true rfl⟩ rfl dL_law_563 rfl (fun z2 τ2 h2 => ?_)
  obtain ⟨rfl, h2⟩ := h2
  have e2 : ∀ k, k ≠ 65 → k ≠ 68 → k ≠ 72 → σ k = σ k := fun k _ _ _ => rfl
  exact g_same B 1197 (two h1 h2 (fun x y => isF_uniq x y)) dL_law_566 (by decide) (kk _ (q_end hc hm hr g0 g1 e1 e54 e2))
set_option maxRecDepth 100000 in
set_option maxHeartbeats 4000000 in
theorem law_soonest {p : Program} {l : Launch} {e : Env} {s : State} {m : MethodId} {below : List Frame} {meth : Method} {c : Code} {Q : State → Prop} {K : WK} {H0 : Heap} {a L0 : Nat} {xs : Nat → Int32} {σ : SG} {N : Nat} {i : Int} (B : CB p s m #[.ref a] c cL_law RL 4 K) (hS0 : SCR a L0 xs s H0 K) (hN : N ≤ 63) (hi : 0 ≤ i ∧ i + 5 ≤ L0) (hI : INV N σ) (kk : ∀ τ : SG, INV (N + 1) τ → LG p l e s m below meth c Q K H0 a i τ 1197 []) : LG p l e s m below meth c Q K H0 a i σ 663 [] := by
  obtain ⟨b, D, S, X, L, M, P, v, sl, E, Y, bn, wy, tx, n, f, T, U, hc, hm, hr, g0, g1⟩ := hI
  obtain ⟨⟨hb, hcb, hsp, hS⟩, hnw, hv, hsl, hE, hY, hB, hX, hf, hT⟩ := id hc
  obtain ⟨⟨hF, hR, hO, hH⟩, hSX, hbar, hvr, hrT⟩ := id hr
  refine g_aload_n (pc' := 664) B 2 rfl rfl dL_law_663 rfl ?_
  refine g_aload_n (pc' := 665) B 3 rfl rfl dL_law_664 rfl ?_
  refine g_iload_n (pc' := 666) B 0 rfl rfl dL_law_665 rfl ?_
  refine g_iconst (pc' := 667) B dL_law_666 rfl ?_
  refine g_iadd (pc' := 668) B dL_law_667 rfl ?_
  refine g_sld (pc' := 669) B hS0 (by omega) dL_law_668 rfl ?_
  refine g_aload_n (pc' := 670) B 3 rfl rfl dL_law_669 rfl ?_
  refine g_iload_n (pc' := 671) B 0 rfl rfl dL_law_670 rfl ?_
  refine g_iconst (pc' := 672) B dL_law_671 rfl ?_
  refine g_iadd (pc' := 673) B dL_law_672 rfl ?_
  refine g_sld (pc' := 674) B hS0 (by omega) dL_law_673 rfl ?_
  refine g_callVI (pc' := 677) (As := [.int (iI (xv xs (i + 1))), .int (iI (xv xs (i + 2)))]) B (c_X11_soonest l K _ (b := b) (D := D) (S := S) (X := X) (L := L) (P := P) (f := xv xs (i + 1)) (g := xv xs (i + 2)) hb hcb hS hF hR hO hH hnw (by omega) (xv_rng _ _) (xv_rng _ _)) vt_X11_soonest tw_691 rfl rfl ⟨by decide, by decide⟩ rfl (Nat.le_of_ble_eq_true rfl) ⟨Nat.le_of_ble_eq_true rfl, Nat.le_of_ble_eq_true rfl⟩ rfl dL_law_674 rfl (fun z1 τ1 h1 => ?_)
  obtain ⟨rfl, h1⟩ := h1
  have e1 : ∀ k, k ≠ 9 → k ≠ 23 → k ≠ 43 → k ≠ 44 → k ≠ 48 → k ≠ 49 → k ≠ 54 → k ≠ 56 → σ k = σ k := fun k _ _ _ _ _ _ _ _ => rfl
  have e54 : σ 54 2 = σ 54 2 := rfl
  have hm1 := hm.k57 (τ := σ) (fun k hk => e1 k (by omega) (by omega) (by omega) (by omega) (by omega) (by omega) (by omega) (by omega))
  obtain ⟨hM1, hmn1, hmv1, hms1, hmE1, hmY1, hmB1, hmX1, hmf1, hmT1⟩ := id hm1
  refine g_aload_n (pc' := 678) B 1 rfl rfl dL_law_677 rfl ?_
  refine g_aload_n (pc' := 679) B 3 rfl rfl dL_law_678 rfl ?_
  refine g_iload_n (pc' := 680) B 0 rfl rfl dL_law_679 rfl ?_
  refine g_iconst (pc' := 681) B dL_law_680 rfl ?_
  refine g_iadd (pc' := 682) B dL_law_681 rfl ?_
  refine g_sld (pc' := 683) B hS0 (by omega) dL_law_682 rfl ?_
  refine g_aload_n (pc' := 684) B 3 rfl rfl dL_law_683 rfl ?_
  refine g_iload_n (pc' := 685) B 0 rfl rfl dL_law_684 rfl ?_
  refine g_iconst (pc' := 686) B dL_law_685 rfl ?_
  refine g_iadd (pc' := 687) B dL_law_686 rfl ?_
  refine g_sld (pc' := 688) B hS0 (by omega) dL_law_687 rfl ?_
  refine g_callVI (pc' := 691) (As := [.int (iI (xv xs (i + 1))), .int (iI (xv xs (i + 2)))]) B (c_X12_soonest l K _ (D := D) (S := S) (X := X) (L := M) (P := P) (f := xv xs (i + 1)) (g := xv xs (i + 2)) hM1 hF hR hO hH hmn1 (by omega) (xv_rng _ _) (xv_rng _ _)) vt_X12_soonest tw_1238 rfl rfl ⟨by decide, by decide⟩ rfl (Nat.le_of_ble_eq_true rfl) ⟨Nat.le_of_ble_eq_true rfl, Nat.le_of_ble_eq_true rfl⟩ rfl dL_law_688 rfl (fun z2 τ2 h2 => ?_)
  obtain ⟨rfl, h2⟩ := h2
  have e2 : ∀ k, k ≠ 65 → k ≠ 68 → k ≠ 72 → σ k = σ k := fun k _ _ _ => rfl
  exact g_same B 1197 (two h1 h2 (fun x y => isW_uniq x y)) dL_law_691 (by decide) (kk _ (q_end hc hm hr g0 g1 e1 e54 e2))
set_option maxRecDepth 100000 in
set_option maxHeartbeats 4000000 in
theorem law_open {p : Program} {l : Launch} {e : Env} {s : State} {m : MethodId} {below : List Frame} {meth : Method} {c : Code} {Q : State → Prop} {K : WK} {H0 : Heap} {a L0 : Nat} {xs : Nat → Int32} {σ : SG} {N : Nat} {i : Int} (B : CB p s m #[.ref a] c cL_law RL 4 K) (hS0 : SCR a L0 xs s H0 K) (hN : N ≤ 63) (hi : 0 ≤ i ∧ i + 5 ≤ L0) (hI : INV N σ) (kk : ∀ τ : SG, INV (N + 1) τ → LG p l e s m below meth c Q K H0 a i τ 1197 []) : LG p l e s m below meth c Q K H0 a i σ 749 [] := by
  obtain ⟨b, D, S, X, L, M, P, v, sl, E, Y, bn, wy, tx, n, f, T, U, hc, hm, hr, g0, g1⟩ := hI
  obtain ⟨⟨hb, hcb, hsp, hS⟩, hnw, hv, hsl, hE, hY, hB, hX, hf, hT⟩ := id hc
  obtain ⟨⟨hF, hR, hO, hH⟩, hSX, hbar, hvr, hrT⟩ := id hr
  refine g_aload_n (pc' := 750) B 2 rfl rfl dL_law_749 rfl ?_
  refine g_aload_n (pc' := 751) B 3 rfl rfl dL_law_750 rfl ?_
  refine g_iload_n (pc' := 752) B 0 rfl rfl dL_law_751 rfl ?_
  refine g_iconst (pc' := 753) B dL_law_752 rfl ?_
  refine g_iadd (pc' := 754) B dL_law_753 rfl ?_
  refine g_sld (pc' := 755) B hS0 (by omega) dL_law_754 rfl ?_
  refine g_callVI (pc' := 758) (As := [.int (iI (xv xs (i + 1)))]) B (c_X11_open l K _ (b := b) (D := D) (S := S) (X := X) (L := L) (P := P) (u := xv xs (i + 1)) hb hcb hS hF hR hO hH hnw (by omega) (xv_rng _ _)) vt_X11_open tw_736 rfl rfl ⟨by decide, by decide⟩ rfl (Nat.le_of_ble_eq_true rfl) ⟨Nat.le_of_ble_eq_true rfl, Nat.le_of_ble_eq_true rfl⟩ rfl dL_law_755 rfl (fun z1 τ1 h1 => ?_)
  obtain ⟨rfl, h1⟩ := h1
  have e1 : ∀ k, k ≠ 9 → k ≠ 23 → k ≠ 43 → k ≠ 44 → k ≠ 48 → k ≠ 49 → k ≠ 54 → k ≠ 56 → σ k = σ k := fun k _ _ _ _ _ _ _ _ => rfl
  have e54 : σ 54 2 = σ 54 2 := rfl
  have hm1 := hm.k57 (τ := σ) (fun k hk => e1 k (by omega) (by omega) (by omega) (by omega) (by omega) (by omega) (by omega) (by omega))
  obtain ⟨hM1, hmn1, hmv1, hms1, hmE1, hmY1, hmB1, hmX1, hmf1, hmT1⟩ := id hm1
  refine g_aload_n (pc' := 759) B 1 rfl rfl dL_law_758 rfl ?_
  refine g_aload_n (pc' := 760) B 3 rfl rfl dL_law_759 rfl ?_
  refine g_iload_n (pc' := 761) B 0 rfl rfl dL_law_760 rfl ?_
  refine g_iconst (pc' := 762) B dL_law_761 rfl ?_
  refine g_iadd (pc' := 763) B dL_law_762 rfl ?_
  refine g_sld (pc' := 764) B hS0 (by omega) dL_law_763 rfl ?_
  refine g_callVI (pc' := 767) (As := [.int (iI (xv xs (i + 1)))]) B (c_X12_open l K _ (D := D) (S := S) (X := X) (L := M) (P := P) (u := xv xs (i + 1)) hM1 hF hR hO hH hmn1 (by omega) (xv_rng _ _)) vt_X12_open tw_1263 rfl rfl ⟨by decide, by decide⟩ rfl (Nat.le_of_ble_eq_true rfl) ⟨Nat.le_of_ble_eq_true rfl, Nat.le_of_ble_eq_true rfl⟩ rfl dL_law_764 rfl (fun z2 τ2 h2 => ?_)
  obtain ⟨rfl, h2⟩ := h2
  have e2 : ∀ k, k ≠ 65 → k ≠ 68 → k ≠ 72 → σ k = σ k := fun k _ _ _ => rfl
  exact g_same B 1197 (two h1 h2 (fun x y => isW_uniq x y)) dL_law_767 (by decide) (kk _ (q_end hc hm hr g0 g1 e1 e54 e2))
set_option maxRecDepth 100000 in
set_option maxHeartbeats 4000000 in
theorem law_longest {p : Program} {l : Launch} {e : Env} {s : State} {m : MethodId} {below : List Frame} {meth : Method} {c : Code} {Q : State → Prop} {K : WK} {H0 : Heap} {a L0 : Nat} {xs : Nat → Int32} {σ : SG} {N : Nat} {i : Int} (B : CB p s m #[.ref a] c cL_law RL 4 K) (hS0 : SCR a L0 xs s H0 K) (hN : N ≤ 63) (hi : 0 ≤ i ∧ i + 5 ≤ L0) (hI : INV N σ) (kk : ∀ τ : SG, INV (N + 1) τ → LG p l e s m below meth c Q K H0 a i τ 1197 []) : LG p l e s m below meth c Q K H0 a i σ 772 [] := by
  obtain ⟨b, D, S, X, L, M, P, v, sl, E, Y, bn, wy, tx, n, f, T, U, hc, hm, hr, g0, g1⟩ := hI
  obtain ⟨⟨hb, hcb, hsp, hS⟩, hnw, hv, hsl, hE, hY, hB, hX, hf, hT⟩ := id hc
  obtain ⟨⟨hF, hR, hO, hH⟩, hSX, hbar, hvr, hrT⟩ := id hr
  refine g_aload_n (pc' := 773) B 2 rfl rfl dL_law_772 rfl ?_
  refine g_aload_n (pc' := 774) B 3 rfl rfl dL_law_773 rfl ?_
  refine g_iload_n (pc' := 775) B 0 rfl rfl dL_law_774 rfl ?_
  refine g_iconst (pc' := 776) B dL_law_775 rfl ?_
  refine g_iadd (pc' := 777) B dL_law_776 rfl ?_
  refine g_sld (pc' := 778) B hS0 (by omega) dL_law_777 rfl ?_
  refine g_callVI (pc' := 781) (As := [.int (iI (xv xs (i + 1)))]) B (c_X11_longest l K _ (b := b) (D := D) (u := xv xs (i + 1)) hb hcb hS hF hR hO hH (xv_rng _ _)) vt_X11_longest tw_761 rfl rfl ⟨by decide, by decide⟩ rfl (Nat.le_of_ble_eq_true rfl) ⟨Nat.le_of_ble_eq_true rfl, Nat.le_of_ble_eq_true rfl⟩ rfl dL_law_778 rfl (fun z1 τ1 h1 => ?_)
  obtain ⟨rfl, h1⟩ := h1
  have e1 : ∀ k, k ≠ 9 → k ≠ 23 → k ≠ 43 → k ≠ 44 → k ≠ 48 → k ≠ 49 → k ≠ 54 → k ≠ 56 → σ k = σ k := fun k _ _ _ _ _ _ _ _ => rfl
  have e54 : σ 54 2 = σ 54 2 := rfl
  have hm1 := hm.k57 (τ := σ) (fun k hk => e1 k (by omega) (by omega) (by omega) (by omega) (by omega) (by omega) (by omega) (by omega))
  obtain ⟨hM1, hmn1, hmv1, hms1, hmE1, hmY1, hmB1, hmX1, hmf1, hmT1⟩ := id hm1
  refine g_aload_n (pc' := 782) B 1 rfl rfl dL_law_781 rfl ?_
  refine g_aload_n (pc' := 783) B 3 rfl rfl dL_law_782 rfl ?_
  refine g_iload_n (pc' := 784) B 0 rfl rfl dL_law_783 rfl ?_
  refine g_iconst (pc' := 785) B dL_law_784 rfl ?_
  refine g_iadd (pc' := 786) B dL_law_785 rfl ?_
  refine g_sld (pc' := 787) B hS0 (by omega) dL_law_786 rfl ?_
  refine g_callVI (pc' := 790) (As := [.int (iI (xv xs (i + 1)))]) B (c_X12_longest l K _ (D := D) (u := xv xs (i + 1)) hM1 hF hR hO hH (xv_rng _ _)) vt_X12_longest tw_1279 rfl rfl ⟨by decide, by decide⟩ rfl (Nat.le_of_ble_eq_true rfl) ⟨Nat.le_of_ble_eq_true rfl, Nat.le_of_ble_eq_true rfl⟩ rfl dL_law_787 rfl (fun z2 τ2 h2 => ?_)
  obtain ⟨rfl, h2⟩ := h2
  have e2 : ∀ k, k ≠ 65 → k ≠ 68 → k ≠ 72 → σ k = σ k := fun k _ _ _ => rfl
  exact g_same B 1197 (two h1 h2 (fun x y => isL_uniq x y)) dL_law_790 (by decide) (kk _ (q_end hc hm hr g0 g1 e1 e54 e2))
set_option maxRecDepth 100000 in
set_option maxHeartbeats 4000000 in
theorem law_rounds {p : Program} {l : Launch} {e : Env} {s : State} {m : MethodId} {below : List Frame} {meth : Method} {c : Code} {Q : State → Prop} {K : WK} {H0 : Heap} {a L0 : Nat} {xs : Nat → Int32} {σ : SG} {N : Nat} {i : Int} (B : CB p s m #[.ref a] c cL_law RL 4 K) (hS0 : SCR a L0 xs s H0 K) (hN : N ≤ 63) (hi : 0 ≤ i ∧ i + 5 ≤ L0) (hI : INV N σ) (kk : ∀ τ : SG, INV (N + 1) τ → LG p l e s m below meth c Q K H0 a i τ 1197 []) : LG p l e s m below meth c Q K H0 a i σ 907 [] := by
  obtain ⟨b, D, S, X, L, M, P, v, sl, E, Y, bn, wy, tx, n, f, T, U, hc, hm, hr, g0, g1⟩ := hI
  obtain ⟨⟨hb, hcb, hsp, hS⟩, hnw, hv, hsl, hE, hY, hB, hX, hf, hT⟩ := id hc
  obtain ⟨⟨hF, hR, hO, hH⟩, hSX, hbar, hvr, hrT⟩ := id hr
  refine g_aload_n (pc' := 908) B 2 rfl rfl dL_law_907 rfl ?_
  refine g_aload_n (pc' := 909) B 3 rfl rfl dL_law_908 rfl ?_
  refine g_iload_n (pc' := 910) B 0 rfl rfl dL_law_909 rfl ?_
  refine g_iconst (pc' := 911) B dL_law_910 rfl ?_
  refine g_iadd (pc' := 912) B dL_law_911 rfl ?_
  refine g_sld (pc' := 913) B hS0 (by omega) dL_law_912 rfl ?_
  refine g_aload_n (pc' := 914) B 3 rfl rfl dL_law_913 rfl ?_
  refine g_iload_n (pc' := 915) B 0 rfl rfl dL_law_914 rfl ?_
  refine g_iconst (pc' := 916) B dL_law_915 rfl ?_
  refine g_iadd (pc' := 917) B dL_law_916 rfl ?_
  refine g_sld (pc' := 918) B hS0 (by omega) dL_law_917 rfl ?_
  refine g_callVI (pc' := 921) (As := [.int (iI (xv xs (i + 1))), .int (iI (xv xs (i + 2)))]) B (c_X11_rounds l K _ (b := b) (D := D) (Y := Y) (f := xv xs (i + 1)) (i := xv xs (i + 2)) hb hcb hS hF hR hO hH hY (xv_rng _ _) (xv_rng _ _)) vt_X11_rounds tw_816 rfl rfl ⟨by decide, by decide⟩ rfl (Nat.le_of_ble_eq_true rfl) ⟨Nat.le_of_ble_eq_true rfl, Nat.le_of_ble_eq_true rfl⟩ rfl dL_law_918 rfl (fun z1 τ1 h1 => ?_)
  obtain ⟨rfl, h1⟩ := h1
  have e1 : ∀ k, k ≠ 9 → k ≠ 23 → k ≠ 43 → k ≠ 44 → k ≠ 48 → k ≠ 49 → k ≠ 54 → k ≠ 56 → σ k = σ k := fun k _ _ _ _ _ _ _ _ => rfl
  have e54 : σ 54 2 = σ 54 2 := rfl
  have hm1 := hm.k57 (τ := σ) (fun k hk => e1 k (by omega) (by omega) (by omega) (by omega) (by omega) (by omega) (by omega) (by omega))
  obtain ⟨hM1, hmn1, hmv1, hms1, hmE1, hmY1, hmB1, hmX1, hmf1, hmT1⟩ := id hm1
  refine g_aload_n (pc' := 922) B 1 rfl rfl dL_law_921 rfl ?_
  refine g_aload_n (pc' := 923) B 3 rfl rfl dL_law_922 rfl ?_
  refine g_iload_n (pc' := 924) B 0 rfl rfl dL_law_923 rfl ?_
  refine g_iconst (pc' := 925) B dL_law_924 rfl ?_
  refine g_iadd (pc' := 926) B dL_law_925 rfl ?_
  refine g_sld (pc' := 927) B hS0 (by omega) dL_law_926 rfl ?_
  refine g_aload_n (pc' := 928) B 3 rfl rfl dL_law_927 rfl ?_
  refine g_iload_n (pc' := 929) B 0 rfl rfl dL_law_928 rfl ?_
  refine g_iconst (pc' := 930) B dL_law_929 rfl ?_
  refine g_iadd (pc' := 931) B dL_law_930 rfl ?_
  refine g_sld (pc' := 932) B hS0 (by omega) dL_law_931 rfl ?_
  refine g_callVI (pc' := 935) (As := [.int (iI (xv xs (i + 1))), .int (iI (xv xs (i + 2)))]) B (c_X12_rounds l K _ (D := D) (Y := Y) (f := xv xs (i + 1)) (i := xv xs (i + 2)) hM1 hF hR hO hH hmY1 (xv_rng _ _) (xv_rng _ _)) vt_X12_rounds tw_1309 rfl rfl ⟨by decide, by decide⟩ rfl (Nat.le_of_ble_eq_true rfl) ⟨Nat.le_of_ble_eq_true rfl, Nat.le_of_ble_eq_true rfl⟩ rfl dL_law_932 rfl (fun z2 τ2 h2 => ?_)
  obtain ⟨rfl, h2⟩ := h2
  have e2 : ∀ k, k ≠ 65 → k ≠ 68 → k ≠ 72 → σ k = σ k := fun k _ _ _ => rfl
  exact g_same B 1197 (two h1 h2 (fun x y => by rcases x with ⟨x1, x2⟩ | ⟨x1, x2⟩ <;> rcases y with ⟨y1, y2⟩ | ⟨y1, y2⟩; exact x2.trans y2.symm; exact absurd x1 y1; exact absurd y1 x1; exact isT_uniq x2 y2)) dL_law_935 (by decide) (kk _ (q_end hc hm hr g0 g1 e1 e54 e2))
set_option maxRecDepth 100000 in
set_option maxHeartbeats 4000000 in
theorem law_least {p : Program} {l : Launch} {e : Env} {s : State} {m : MethodId} {below : List Frame} {meth : Method} {c : Code} {Q : State → Prop} {K : WK} {H0 : Heap} {a L0 : Nat} {xs : Nat → Int32} {σ : SG} {N : Nat} {i : Int} (B : CB p s m #[.ref a] c cL_law RL 4 K) (hS0 : SCR a L0 xs s H0 K) (hN : N ≤ 63) (hi : 0 ≤ i ∧ i + 5 ≤ L0) (hI : INV N σ) (kk : ∀ τ : SG, INV (N + 1) τ → LG p l e s m below meth c Q K H0 a i τ 1197 []) : LG p l e s m below meth c Q K H0 a i σ 696 [] := by
  obtain ⟨b, D, S, X, L, M, P, v, sl, E, Y, bn, wy, tx, n, f, T, U, hc, hm, hr, g0, g1⟩ := hI
  obtain ⟨⟨hb, hcb, hsp, hS⟩, hnw, hv, hsl, hE, hY, hB, hX, hf, hT⟩ := id hc
  obtain ⟨⟨hF, hR, hO, hH⟩, hSX, hbar, hvr, hrT⟩ := id hr
  refine g_aload_n (pc' := 697) B 2 rfl rfl dL_law_696 rfl ?_
  refine g_aload_n (pc' := 698) B 3 rfl rfl dL_law_697 rfl ?_
  refine g_iload_n (pc' := 699) B 0 rfl rfl dL_law_698 rfl ?_
  refine g_iconst (pc' := 700) B dL_law_699 rfl ?_
  refine g_iadd (pc' := 701) B dL_law_700 rfl ?_
  refine g_sld (pc' := 702) B hS0 (by omega) dL_law_701 rfl ?_
  refine g_aload_n (pc' := 703) B 3 rfl rfl dL_law_702 rfl ?_
  refine g_iload_n (pc' := 704) B 0 rfl rfl dL_law_703 rfl ?_
  refine g_iconst (pc' := 705) B dL_law_704 rfl ?_
  refine g_iadd (pc' := 706) B dL_law_705 rfl ?_
  refine g_sld (pc' := 707) B hS0 (by omega) dL_law_706 rfl ?_
  refine g_aload_n (pc' := 708) B 3 rfl rfl dL_law_707 rfl ?_
  refine g_iload_n (pc' := 709) B 0 rfl rfl dL_law_708 rfl ?_
  refine g_iconst (pc' := 710) B dL_law_709 rfl ?_
  refine g_iadd (pc' := 711) B dL_law_710 rfl ?_
  refine g_sld (pc' := 712) B hS0 (by omega) dL_law_711 rfl ?_
  refine g_aload_n (pc' := 713) B 3 rfl rfl dL_law_712 rfl ?_
  refine g_iload_n (pc' := 714) B 0 rfl rfl dL_law_713 rfl ?_
  refine g_iconst (pc' := 715) B dL_law_714 rfl ?_
  refine g_iadd (pc' := 716) B dL_law_715 rfl ?_
  refine g_sld (pc' := 717) B hS0 (by omega) dL_law_716 rfl ?_
  refine g_callVI (pc' := 720) (As := [.int (iI (xv xs (i + 1))), .int (iI (xv xs (i + 2))), .int (iI (xv xs (i + 3))), .int (iI (xv xs (i + 4)))]) B (c_X11_least l K _ (b := b) (D := D) (S := S) (X := X) (L := L) (P := P) (f := xv xs (i + 1)) (g := xv xs (i + 2)) (n := xv xs (i + 3)) (i := xv xs (i + 4)) hb hcb hS hF hR hO hH hnw (by omega) (xv_rng _ _) (xv_rng _ _) (xv_rng _ _) (xv_rng _ _)) vt_X11_least tw_701 rfl rfl ⟨by decide, by decide⟩ rfl (Nat.le_of_ble_eq_true rfl) ⟨Nat.le_of_ble_eq_true rfl, Nat.le_of_ble_eq_true rfl⟩ rfl dL_law_717 rfl (fun z1 τ1 h1 => ?_)
  have e1 : ∀ k, k ≠ 9 → k ≠ 23 → k ≠ 43 → k ≠ 44 → k ≠ 48 → k ≠ 49 → k ≠ 54 → k ≠ 56 → τ1 k = σ k := fun k _ _ a3 a4 _ _ _ _ => h1.1 k a3 a4
  have e54 : τ1 54 2 = σ 54 2 := by rw [h1.1 54 (by decide) (by decide)]
  have hm1 := hm.k57 (τ := τ1) (fun k hk => e1 k (by omega) (by omega) (by omega) (by omega) (by omega) (by omega) (by omega) (by omega))
  obtain ⟨hM1, hmn1, hmv1, hms1, hmE1, hmY1, hmB1, hmX1, hmf1, hmT1⟩ := id hm1
  refine g_aload_n (pc' := 721) B 1 rfl rfl dL_law_720 rfl ?_
  refine g_aload_n (pc' := 722) B 3 rfl rfl dL_law_721 rfl ?_
  refine g_iload_n (pc' := 723) B 0 rfl rfl dL_law_722 rfl ?_
  refine g_iconst (pc' := 724) B dL_law_723 rfl ?_
  refine g_iadd (pc' := 725) B dL_law_724 rfl ?_
  refine g_sld (pc' := 726) B hS0 (by omega) dL_law_725 rfl ?_
  refine g_aload_n (pc' := 727) B 3 rfl rfl dL_law_726 rfl ?_
  refine g_iload_n (pc' := 728) B 0 rfl rfl dL_law_727 rfl ?_
  refine g_iconst (pc' := 729) B dL_law_728 rfl ?_
  refine g_iadd (pc' := 730) B dL_law_729 rfl ?_
  refine g_sld (pc' := 731) B hS0 (by omega) dL_law_730 rfl ?_
  refine g_aload_n (pc' := 732) B 3 rfl rfl dL_law_731 rfl ?_
  refine g_iload_n (pc' := 733) B 0 rfl rfl dL_law_732 rfl ?_
  refine g_iconst (pc' := 734) B dL_law_733 rfl ?_
  refine g_iadd (pc' := 735) B dL_law_734 rfl ?_
  refine g_sld (pc' := 736) B hS0 (by omega) dL_law_735 rfl ?_
  refine g_aload_n (pc' := 737) B 3 rfl rfl dL_law_736 rfl ?_
  refine g_iload_n (pc' := 738) B 0 rfl rfl dL_law_737 rfl ?_
  refine g_iconst (pc' := 739) B dL_law_738 rfl ?_
  refine g_iadd (pc' := 740) B dL_law_739 rfl ?_
  refine g_sld (pc' := 741) B hS0 (by omega) dL_law_740 rfl ?_
  refine g_callVI (pc' := 744) (As := [.int (iI (xv xs (i + 1))), .int (iI (xv xs (i + 2))), .int (iI (xv xs (i + 3))), .int (iI (xv xs (i + 4)))]) B (c_X12_least l K _ (D := D) (S := S) (X := X) (L := M) (P := P) (f := xv xs (i + 1)) (g := xv xs (i + 2)) (n := xv xs (i + 3)) (i := xv xs (i + 4)) hM1 hF hR hO hH hmn1 (by omega) (xv_rng _ _) (xv_rng _ _) (xv_rng _ _) (xv_rng _ _)) vt_X12_least tw_1245 rfl rfl ⟨by decide, by decide⟩ rfl (Nat.le_of_ble_eq_true rfl) ⟨Nat.le_of_ble_eq_true rfl, Nat.le_of_ble_eq_true rfl⟩ rfl dL_law_741 rfl (fun z2 τ2 h2 => ?_)
  have e2 : ∀ k, k ≠ 65 → k ≠ 68 → k ≠ 72 → τ2 k = τ1 k := fun k a1 _ _ => h2.1 k a1
  exact g_same B 1197 (h1.2.trans h2.2.symm) dL_law_744 (by decide) (kk _ (q_end hc hm hr g0 g1 e1 e54 e2))
set_option maxRecDepth 100000 in
set_option maxHeartbeats 4000000 in
theorem law_odds {p : Program} {l : Launch} {e : Env} {s : State} {m : MethodId} {below : List Frame} {meth : Method} {c : Code} {Q : State → Prop} {K : WK} {H0 : Heap} {a L0 : Nat} {xs : Nat → Int32} {σ : SG} {N : Nat} {i : Int} (B : CB p s m #[.ref a] c cL_law RL 4 K) (hS0 : SCR a L0 xs s H0 K) (hN : N ≤ 63) (hi : 0 ≤ i ∧ i + 5 ≤ L0) (hI : INV N σ) (kk : ∀ τ : SG, INV (N + 1) τ → LG p l e s m below meth c Q K H0 a i τ 1197 []) : LG p l e s m below meth c Q K H0 a i σ 1016 [] := by
  obtain ⟨b, D, S, X, L, M, P, v, sl, E, Y, bn, wy, tx, n, f, T, U, hc, hm, hr, g0, g1⟩ := hI
  obtain ⟨⟨hb, hcb, hsp, hS⟩, hnw, hv, hsl, hE, hY, hB, hX, hf, hT⟩ := id hc
  obtain ⟨⟨hF, hR, hO, hH⟩, hSX, hbar, hvr, hrT⟩ := id hr
  refine g_aload_n (pc' := 1017) B 2 rfl rfl dL_law_1016 rfl ?_
  refine g_aload_n (pc' := 1018) B 3 rfl rfl dL_law_1017 rfl ?_
  refine g_iload_n (pc' := 1019) B 0 rfl rfl dL_law_1018 rfl ?_
  refine g_iconst (pc' := 1020) B dL_law_1019 rfl ?_
  refine g_iadd (pc' := 1021) B dL_law_1020 rfl ?_
  refine g_sld (pc' := 1022) B hS0 (by omega) dL_law_1021 rfl ?_
  refine g_aload_n (pc' := 1023) B 3 rfl rfl dL_law_1022 rfl ?_
  refine g_iload_n (pc' := 1024) B 0 rfl rfl dL_law_1023 rfl ?_
  refine g_iconst (pc' := 1025) B dL_law_1024 rfl ?_
  refine g_iadd (pc' := 1026) B dL_law_1025 rfl ?_
  refine g_sld (pc' := 1027) B hS0 (by omega) dL_law_1026 rfl ?_
  refine g_aload_n (pc' := 1028) B 3 rfl rfl dL_law_1027 rfl ?_
  refine g_iload_n (pc' := 1029) B 0 rfl rfl dL_law_1028 rfl ?_
  refine g_iconst (pc' := 1030) B dL_law_1029 rfl ?_
  refine g_iadd (pc' := 1031) B dL_law_1030 rfl ?_
  refine g_sld (pc' := 1032) B hS0 (by omega) dL_law_1031 rfl ?_
  refine g_aload_n (pc' := 1033) B 3 rfl rfl dL_law_1032 rfl ?_
  refine g_iload_n (pc' := 1034) B 0 rfl rfl dL_law_1033 rfl ?_
  refine g_iconst (pc' := 1035) B dL_law_1034 rfl ?_
  refine g_iadd (pc' := 1036) B dL_law_1035 rfl ?_
  refine g_sld (pc' := 1037) B hS0 (by omega) dL_law_1036 rfl ?_
  refine g_callVI (pc' := 1040) (As := [.int (iI (xv xs (i + 1))), .int (iI (xv xs (i + 2))), .int (iI (xv xs (i + 3))), .int (iI (xv xs (i + 4)))]) B (c_X11_odds l K _ (b := b) (D := D) (S := S) (X := X) (L := L) (P := P) (f := xv xs (i + 1)) (v := xv xs (i + 2)) (n := xv xs (i + 3)) (q := xv xs (i + 4)) hb hcb hS hF hR hO hH hnw (by omega) (xv_rng _ _) (xv_rng _ _) (xv_rng _ _) (xv_rng _ _)) vt_X11_odds tw_858 rfl rfl ⟨by decide, by decide⟩ rfl (Nat.le_of_ble_eq_true rfl) ⟨Nat.le_of_ble_eq_true rfl, Nat.le_of_ble_eq_true rfl⟩ rfl dL_law_1037 rfl (fun z1 τ1 h1 => ?_)
  have e1 : ∀ k, k ≠ 9 → k ≠ 23 → k ≠ 43 → k ≠ 44 → k ≠ 48 → k ≠ 49 → k ≠ 54 → k ≠ 56 → τ1 k = σ k := fun k a1 a2 _ _ _ _ _ _ => h1.1 k (by omega)
  have e54 : τ1 54 2 = σ 54 2 := by rw [h1.1 54 (by omega)]
  have hm1 := hm.k57 (τ := τ1) (fun k hk => e1 k (by omega) (by omega) (by omega) (by omega) (by omega) (by omega) (by omega) (by omega))
  obtain ⟨hM1, hmn1, hmv1, hms1, hmE1, hmY1, hmB1, hmX1, hmf1, hmT1⟩ := id hm1
  refine g_aload_n (pc' := 1041) B 1 rfl rfl dL_law_1040 rfl ?_
  refine g_aload_n (pc' := 1042) B 3 rfl rfl dL_law_1041 rfl ?_
  refine g_iload_n (pc' := 1043) B 0 rfl rfl dL_law_1042 rfl ?_
  refine g_iconst (pc' := 1044) B dL_law_1043 rfl ?_
  refine g_iadd (pc' := 1045) B dL_law_1044 rfl ?_
  refine g_sld (pc' := 1046) B hS0 (by omega) dL_law_1045 rfl ?_
  refine g_aload_n (pc' := 1047) B 3 rfl rfl dL_law_1046 rfl ?_
  refine g_iload_n (pc' := 1048) B 0 rfl rfl dL_law_1047 rfl ?_
  refine g_iconst (pc' := 1049) B dL_law_1048 rfl ?_
  refine g_iadd (pc' := 1050) B dL_law_1049 rfl ?_
  refine g_sld (pc' := 1051) B hS0 (by omega) dL_law_1050 rfl ?_
  refine g_aload_n (pc' := 1052) B 3 rfl rfl dL_law_1051 rfl ?_
  refine g_iload_n (pc' := 1053) B 0 rfl rfl dL_law_1052 rfl ?_
  refine g_iconst (pc' := 1054) B dL_law_1053 rfl ?_
  refine g_iadd (pc' := 1055) B dL_law_1054 rfl ?_
  refine g_sld (pc' := 1056) B hS0 (by omega) dL_law_1055 rfl ?_
  refine g_aload_n (pc' := 1057) B 3 rfl rfl dL_law_1056 rfl ?_
  refine g_iload_n (pc' := 1058) B 0 rfl rfl dL_law_1057 rfl ?_
  refine g_iconst (pc' := 1059) B dL_law_1058 rfl ?_
  refine g_iadd (pc' := 1060) B dL_law_1059 rfl ?_
  refine g_sld (pc' := 1061) B hS0 (by omega) dL_law_1060 rfl ?_
  refine g_callVI (pc' := 1064) (As := [.int (iI (xv xs (i + 1))), .int (iI (xv xs (i + 2))), .int (iI (xv xs (i + 3))), .int (iI (xv xs (i + 4)))]) B (c_X12_odds l K _ (D := D) (S := S) (X := X) (L := M) (P := P) (f := xv xs (i + 1)) (v := xv xs (i + 2)) (n := xv xs (i + 3)) (q := xv xs (i + 4)) hM1 hF hR hO hH hmn1 (by omega) (xv_rng _ _) (xv_rng _ _) (xv_rng _ _) (xv_rng _ _)) vt_X12_odds tw_1332 rfl rfl ⟨by decide, by decide⟩ rfl (Nat.le_of_ble_eq_true rfl) ⟨Nat.le_of_ble_eq_true rfl, Nat.le_of_ble_eq_true rfl⟩ rfl dL_law_1061 rfl (fun z2 τ2 h2 => ?_)
  have e2 : ∀ k, k ≠ 65 → k ≠ 68 → k ≠ 72 → τ2 k = τ1 k := fun k _ _ a3 => h2.1 k a3
  exact g_same B 1197 (h1.2.trans h2.2.symm) dL_law_1064 (by decide) (kk _ (q_end hc hm hr g0 g1 e1 e54 e2))
set_option maxRecDepth 100000 in
set_option maxHeartbeats 4000000 in
theorem law_began {p : Program} {l : Launch} {e : Env} {s : State} {m : MethodId} {below : List Frame} {meth : Method} {c : Code} {Q : State → Prop} {K : WK} {H0 : Heap} {a L0 : Nat} {xs : Nat → Int32} {σ : SG} {N : Nat} {i : Int} (B : CB p s m #[.ref a] c cL_law RL 4 K) (hS0 : SCR a L0 xs s H0 K) (hN : N ≤ 63) (hi : 0 ≤ i ∧ i + 5 ≤ L0) (hI : INV N σ) (kk : ∀ τ : SG, INV (N + 1) τ → LG p l e s m below meth c Q K H0 a i τ 1197 []) : LG p l e s m below meth c Q K H0 a i σ 828 [] := by
  obtain ⟨b, D, S, X, L, M, P, v, sl, E, Y, bn, wy, tx, n, f, T, U, hc, hm, hr, g0, g1⟩ := hI
  obtain ⟨⟨hb, hcb, hsp, hS⟩, hnw, hv, hsl, hE, hY, hB, hX, hf, hT⟩ := id hc
  obtain ⟨⟨hF, hR, hO, hH⟩, hSX, hbar, hvr, hrT⟩ := id hr
  refine g_aload_n (pc' := 829) B 2 rfl rfl dL_law_828 rfl ?_
  refine g_aload_n (pc' := 830) B 3 rfl rfl dL_law_829 rfl ?_
  refine g_iload_n (pc' := 831) B 0 rfl rfl dL_law_830 rfl ?_
  refine g_iconst (pc' := 832) B dL_law_831 rfl ?_
  refine g_iadd (pc' := 833) B dL_law_832 rfl ?_
  refine g_sld (pc' := 834) B hS0 (by omega) dL_law_833 rfl ?_
  refine g_callVI (pc' := 837) (As := [.int (iI (xv xs (i + 1)))]) B (c_X11_began l K _ (b := b) (D := D) (E := E) (i := xv xs (i + 1)) hb hcb hS hF hR hO hH hE (xv_rng _ _)) vt_X11_began tw_782 rfl rfl ⟨by decide, by decide⟩ rfl (Nat.le_of_ble_eq_true rfl) ⟨Nat.le_of_ble_eq_true rfl, Nat.le_of_ble_eq_true rfl⟩ rfl dL_law_834 rfl (fun z1 τ1 h1 => ?_)
  have e1 : ∀ k, k ≠ 9 → k ≠ 23 → k ≠ 43 → k ≠ 44 → k ≠ 48 → k ≠ 49 → k ≠ 54 → k ≠ 56 → τ1 k = σ k := fun k _ _ _ _ a5 _ _ _ => h1.1 k a5
  have e54 : τ1 54 2 = σ 54 2 := by rw [h1.1 54 (by decide)]
  have hm1 := hm.k57 (τ := τ1) (fun k hk => e1 k (by omega) (by omega) (by omega) (by omega) (by omega) (by omega) (by omega) (by omega))
  obtain ⟨hM1, hmn1, hmv1, hms1, hmE1, hmY1, hmB1, hmX1, hmf1, hmT1⟩ := id hm1
  refine g_aload_n (pc' := 838) B 1 rfl rfl dL_law_837 rfl ?_
  refine g_aload_n (pc' := 839) B 3 rfl rfl dL_law_838 rfl ?_
  refine g_iload_n (pc' := 840) B 0 rfl rfl dL_law_839 rfl ?_
  refine g_iconst (pc' := 841) B dL_law_840 rfl ?_
  refine g_iadd (pc' := 842) B dL_law_841 rfl ?_
  refine g_sld (pc' := 843) B hS0 (by omega) dL_law_842 rfl ?_
  refine g_callVI (pc' := 846) (As := [.int (iI (xv xs (i + 1)))]) B (c_X12_began l K _ (D := D) (E := E) (i := xv xs (i + 1)) hM1 hF hR hO hH hmE1 (xv_rng _ _)) vt_X12_began tw_1287 rfl rfl ⟨by decide, by decide⟩ rfl (Nat.le_of_ble_eq_true rfl) ⟨Nat.le_of_ble_eq_true rfl, Nat.le_of_ble_eq_true rfl⟩ rfl dL_law_843 rfl (fun z2 τ2 h2 => ?_)
  obtain ⟨rfl, h2⟩ := h2
  have e2 : ∀ k, k ≠ 65 → k ≠ 68 → k ≠ 72 → τ1 k = τ1 k := fun k _ _ _ => rfl
  exact g_same B 1197 (isB_uniq h1.2 h2) dL_law_846 (by decide) (kk _ (q_end hc hm hr g0 g1 e1 e54 e2))
set_option maxRecDepth 100000 in
set_option maxHeartbeats 4000000 in
theorem law_watch {p : Program} {l : Launch} {e : Env} {s : State} {m : MethodId} {below : List Frame} {meth : Method} {c : Code} {Q : State → Prop} {K : WK} {H0 : Heap} {a L0 : Nat} {xs : Nat → Int32} {σ : SG} {N : Nat} {i : Int} (B : CB p s m #[.ref a] c cL_law RL 4 K) (hS0 : SCR a L0 xs s H0 K) (hN : N ≤ 63) (hi : 0 ≤ i ∧ i + 5 ≤ L0) (hI : INV N σ) (kk : ∀ τ : SG, INV (N + 1) τ → LG p l e s m below meth c Q K H0 a i τ 1197 []) : LG p l e s m below meth c Q K H0 a i σ 851 [] := by
  obtain ⟨b, D, S, X, L, M, P, v, sl, E, Y, bn, wy, tx, n, f, T, U, hc, hm, hr, g0, g1⟩ := hI
  obtain ⟨⟨hb, hcb, hsp, hS⟩, hnw, hv, hsl, hE, hY, hB, hX, hf, hT⟩ := id hc
  obtain ⟨⟨hF, hR, hO, hH⟩, hSX, hbar, hvr, hrT⟩ := id hr
  refine g_aload_n (pc' := 852) B 2 rfl rfl dL_law_851 rfl ?_
  refine g_callVI (pc' := 855) (As := []) B (c_X11_watch l K _ (b := b) (D := D) (E := E) hb hcb hS hF hR hO hH hE) vt_X11_watch tw_795 rfl rfl ⟨by decide, by decide⟩ rfl (Nat.le_of_ble_eq_true rfl) ⟨Nat.le_of_ble_eq_true rfl, Nat.le_of_ble_eq_true rfl⟩ rfl dL_law_852 rfl (fun z1 τ1 h1 => ?_)
  have e1 : ∀ k, k ≠ 9 → k ≠ 23 → k ≠ 43 → k ≠ 44 → k ≠ 48 → k ≠ 49 → k ≠ 54 → k ≠ 56 → τ1 k = σ k := fun k _ _ _ _ a5 a6 _ _ => h1.1 k a5 a6
  have e54 : τ1 54 2 = σ 54 2 := by rw [h1.1 54 (by decide) (by decide)]
  have hm1 := hm.k57 (τ := τ1) (fun k hk => e1 k (by omega) (by omega) (by omega) (by omega) (by omega) (by omega) (by omega) (by omega))
  obtain ⟨hM1, hmn1, hmv1, hms1, hmE1, hmY1, hmB1, hmX1, hmf1, hmT1⟩ := id hm1
  refine g_aload_n (pc' := 856) B 1 rfl rfl dL_law_855 rfl ?_
  refine g_callVI (pc' := 859) (As := []) B (c_X12_watch l K _ (D := D) (E := E) hM1 hF hR hO hH hmE1) vt_X12_watch tw_1295 rfl rfl ⟨by decide, by decide⟩ rfl (Nat.le_of_ble_eq_true rfl) ⟨Nat.le_of_ble_eq_true rfl, Nat.le_of_ble_eq_true rfl⟩ rfl dL_law_856 rfl (fun z2 τ2 h2 => ?_)
  have e2 : ∀ k, k ≠ 65 → k ≠ 68 → k ≠ 72 → τ2 k = τ1 k := fun k _ a2 _ => h2.1 k a2
  exact g_same B 1197 (h1.2.trans h2.2.symm) dL_law_859 (by decide) (kk _ (q_end hc hm hr g0 g1 e1 e54 e2))
set_option maxRecDepth 100000 in
set_option maxHeartbeats 4000000 in
theorem law_judge {p : Program} {l : Launch} {e : Env} {s : State} {m : MethodId} {below : List Frame} {meth : Method} {c : Code} {Q : State → Prop} {K : WK} {H0 : Heap} {a L0 : Nat} {xs : Nat → Int32} {σ : SG} {N : Nat} {i : Int} (B : CB p s m #[.ref a] c cL_law RL 4 K) (hS0 : SCR a L0 xs s H0 K) (hN : N ≤ 63) (hi : 0 ≤ i ∧ i + 5 ≤ L0) (hI : INV N σ) (kk : ∀ τ : SG, INV (N + 1) τ → LG p l e s m below meth c Q K H0 a i τ 1197 []) : LG p l e s m below meth c Q K H0 a i σ 1092 [] := by
  obtain ⟨b, D, S, X, L, M, P, v, sl, E, Y, bn, wy, tx, n, f, T, U, hc, hm, hr, g0, g1⟩ := hI
  obtain ⟨⟨hb, hcb, hsp, hS⟩, hnw, hv, hsl, hE, hY, hB, hX, hf, hT⟩ := id hc
  obtain ⟨⟨hF, hR, hO, hH⟩, hSX, hbar, hvr, hrT⟩ := id hr
  refine g_aload_n (pc' := 1093) B 2 rfl rfl dL_law_1092 rfl ?_
  refine g_aload_n (pc' := 1094) B 3 rfl rfl dL_law_1093 rfl ?_
  refine g_iload_n (pc' := 1095) B 0 rfl rfl dL_law_1094 rfl ?_
  refine g_iconst (pc' := 1096) B dL_law_1095 rfl ?_
  refine g_iadd (pc' := 1097) B dL_law_1096 rfl ?_
  refine g_sld (pc' := 1098) B hS0 (by omega) dL_law_1097 rfl ?_
  refine g_callVI (pc' := 1101) (As := [.int (iI (xv xs (i + 1)))]) B (c_X11_judge l K _ (b := b) (D := D) (S := S) (X := X) (L := L) (P := P) (bn := bn) (wy := wy) (w := xv xs (i + 1)) hb hcb hS hF hR hO hH hnw (by omega) hB (fun q9 => (bar_ne hbar q9).2) (xv_rng _ _)) vt_X11_judge tw_880 rfl rfl ⟨by decide, by decide⟩ rfl (Nat.le_of_ble_eq_true rfl) ⟨Nat.le_of_ble_eq_true rfl, Nat.le_of_ble_eq_true rfl⟩ rfl dL_law_1098 rfl (fun z1 τ1 h1 => ?_)
  have e1 : ∀ k, k ≠ 9 → k ≠ 23 → k ≠ 43 → k ≠ 44 → k ≠ 48 → k ≠ 49 → k ≠ 54 → k ≠ 56 → τ1 k = σ k := fun k _ _ _ _ _ _ a7 a8 => by rcases h1 with ⟨_, x, _⟩ | ⟨_, _, x, _⟩ | ⟨_, _, x, _⟩; rw [x]; rw [x]; exact x k a7 a8
  have e54 : τ1 54 2 = σ 54 2 := by rcases h1 with ⟨_, x, _⟩ | ⟨_, _, x, _⟩ | ⟨_, _, _, x, _⟩; rw [x]; rw [x]; rw [x, hB.1]
  have hm1 := hm.k57 (τ := τ1) (fun k hk => e1 k (by omega) (by omega) (by omega) (by omega) (by omega) (by omega) (by omega) (by omega))
  obtain ⟨hM1, hmn1, hmv1, hms1, hmE1, hmY1, hmB1, hmX1, hmf1, hmT1⟩ := id hm1
  refine g_aload_n (pc' := 1102) B 1 rfl rfl dL_law_1101 rfl ?_
  refine g_aload_n (pc' := 1103) B 3 rfl rfl dL_law_1102 rfl ?_
  refine g_iload_n (pc' := 1104) B 0 rfl rfl dL_law_1103 rfl ?_
  refine g_iconst (pc' := 1105) B dL_law_1104 rfl ?_
  refine g_iadd (pc' := 1106) B dL_law_1105 rfl ?_
  refine g_sld (pc' := 1107) B hS0 (by omega) dL_law_1106 rfl ?_
  refine g_callVI (pc' := 1110) (As := [.int (iI (xv xs (i + 1)))]) B (c_X12_judge l K _ (D := D) (S := S) (X := X) (L := M) (P := P) (bn := bn) (wy := wy) (w := xv xs (i + 1)) hM1 hF hR hO hH hmn1 (by omega) hmB1 (fun q9 => by have q8 := bar_ne hbar q9; omega) (xv_rng _ _)) vt_X12_judge tw_1343 rfl rfl ⟨by decide, by decide⟩ rfl (Nat.le_of_ble_eq_true rfl) ⟨Nat.le_of_ble_eq_true rfl, Nat.le_of_ble_eq_true rfl⟩ rfl dL_law_1107 rfl (fun z2 τ2 h2 => ?_)
  obtain ⟨rfl, h2⟩ := h2
  have e2 : ∀ k, k ≠ 65 → k ≠ 68 → k ≠ 72 → τ1 k = τ1 k := fun k _ _ _ => rfl
  exact g_same B 1197 (jd_all hbar h1 h2) dL_law_1110 (by decide) (kk _ (q_end hc hm hr g0 g1 e1 e54 e2))
