theorem inv_same {N : Nat} {σ : SG} {b : Nat} {D : SG} {S X L M P v : Int} {sl : Int → Int} {E Y : SG} {bn : Int} {wy tx : Int → Int} {n f : Int} {T U : SG} (hc : cI σ b D S X L P v sl E Y bn wy tx n f T) (hm : mI σ D S X M P v sl E Y bn wy tx n f U) (hr : rI N D S X L M v T U) (g0 : img σ D N 37 0) (g1 : img σ D N 40 1) : INV (N + 1) σ :=
  q_end (τ1 := σ) hc hm hr g0 g1 (fun _ _ _ _ _ _ _ _ _ => rfl) rfl (fun _ _ _ _ => rfl)
def fu (g : Int → Int) (n a : Int) : Int → Int := fun j => if j = n then a else g j
theorem fu_s (g : Int → Int) (n a : Int) : fu g n a n = a := if_pos rfl
theorem fu_n {g : Int → Int} {n a j : Int} (h : ¬ j = n) : fu g n a j = g j := if_neg h
theorem txD_push {σ τ : SG} {tx : Int → Int} {n a : Int} (h : txD σ tx n) (hn : n < 250) (ha : 0 ≤ a ∧ a ≤ 255) (e1 : τ 1 1 = n + 1) (e2 : τ 2 n = a) (e3 : ∀ j : Int, j ≠ n → τ 2 j = σ 2 j) : txD τ (fu tx n a) (n + 1) := by
  obtain ⟨h1, h2, h3⟩ := h
  refine ⟨e1, by omega, fun j a0 a1 => ?_⟩
  by_cases q : j = n
  · subst q; rw [fu_s]; exact ⟨e2, ha⟩
  · rw [fu_n q, e3 j q]; exact h3 j a0 (by omega)
theorem mtx_push {σ τ : SG} {tx : Int → Int} {n a : Int} (h : mtx σ tx n) (hn : n < 250) (ha : 0 ≤ a ∧ a ≤ 255) (e1 : τ 57 14 = n + 1) (e2 : τ 63 n = a) (e3 : ∀ j : Int, j ≠ n → τ 63 j = σ 63 j) : mtx τ (fu tx n a) (n + 1) := by
  obtain ⟨h1, h2, h3⟩ := h
  refine ⟨e1, by omega, fun j a0 a1 => ?_⟩
  by_cases q : j = n
  · subst q; rw [fu_s]; exact ⟨e2, ha⟩
  · rw [fu_n q, e3 j q]; exact h3 j a0 (by omega)
theorem bk_push {σ τ : SG} {wy : Int → Int} {n a : Int} (h : bkD σ n wy) (hn : n < 30) (ha : 0 ≤ a ∧ a ≤ 2) (e1 : τ 54 2 = n + 1) (e2 : τ 55 n = a) (e3 : ∀ j : Int, j ≠ n → τ 55 j = σ 55 j) : bkD τ (n + 1) (fu wy n a) := by
  obtain ⟨h1, h2, h3⟩ := h
  refine ⟨e1, by omega, fun j a0 a1 => ?_⟩
  by_cases q : j = n
  · subst q; rw [fu_s]; exact ⟨e2, ha⟩
  · rw [fu_n q, e3 j q]; exact h3 j a0 (by omega)
theorem mb_push {σ τ : SG} {wy : Int → Int} {n a : Int} (h : mbD σ n wy) (hn : n < 30) (ha : 0 ≤ a ∧ a ≤ 2) (e1 : τ 57 33 = n + 1) (e2 : τ 73 n = a) (e3 : ∀ j : Int, j ≠ n → τ 73 j = σ 73 j) : mbD τ (n + 1) (fu wy n a) := by
  obtain ⟨h1, h2, h3⟩ := h
  refine ⟨e1, by omega, fun j a0 a1 => ?_⟩
  by_cases q : j = n
  · subst q; rw [fu_s]; exact ⟨e2, ha⟩
  · rw [fu_n q, e3 j q]; exact h3 j a0 (by omega)
theorem me_push {σ τ E : SG} {x a : Int} (h : meD σ E) (hn : E 2 0 < 12) (hx : 0 ≤ x ∧ x ≤ 7) (ha : 0 ≤ a ∧ a ≤ 30) (e1 : τ 57 25 = E 2 0 + 1) (e2 : τ 66 (E 2 0) = x) (e3 : τ 67 (E 2 0) = a) (e4 : ∀ j : Int, j ≠ E 2 0 → τ 66 j = σ 66 j ∧ τ 67 j = σ 67 j) : meD τ (up (up (up E 0 (E 2 0) x) 1 (E 2 0) a) 2 0 (E 2 0 + 1)) := by
  obtain ⟨h1, h2, h3⟩ := h
  have w0 : ∀ j : Int, up (up (up E 0 (E 2 0) x) 1 (E 2 0) a) 2 0 (E 2 0 + 1) 0 j = if j = E 2 0 then x else E 0 j := fun j => by rw [up_row (by decide), up_row (by decide)]; exact up_in
  have w1 : ∀ j : Int, up (up (up E 0 (E 2 0) x) 1 (E 2 0) a) 2 0 (E 2 0 + 1) 1 j = if j = E 2 0 then a else E 1 j := fun j => by rw [up_row (by decide), up_in, up_row (by decide)]
  refine ⟨by rw [up_same]; exact e1, by rw [up_same]; omega, fun j a0 a1 => ?_⟩
  rw [up_same] at a1
  rw [w0, w1]
  by_cases q : j = E 2 0
  · rw [if_pos q, if_pos q, q, e2, e3]; exact ⟨rfl, rfl, hx, ha⟩
  · rw [if_neg q, if_neg q, (e4 j q).1, (e4 j q).2]; exact h3 j a0 (by omega)
theorem my_push {σ τ Y : SG} {x a u : Int} (h : myD σ Y) (hn : Y 3 0 < 12) (hx : 0 ≤ x ∧ x ≤ 7) (ha : 0 ≤ a ∧ a ≤ 9999) (hu : 0 ≤ u ∧ u ≤ 999) (e1 : τ 57 30 = Y 3 0 + 1) (e2 : τ 69 (Y 3 0) = x) (e3 : τ 70 (Y 3 0) = a) (e5 : τ 71 (Y 3 0) = u) (e4 : ∀ j : Int, j ≠ Y 3 0 → τ 69 j = σ 69 j ∧ τ 70 j = σ 70 j ∧ τ 71 j = σ 71 j) : myD τ (up (up (up (up Y 0 (Y 3 0) x) 1 (Y 3 0) a) 2 (Y 3 0) u) 3 0 (Y 3 0 + 1)) := by
  obtain ⟨h1, h2, h3⟩ := h
  have w0 : ∀ j : Int, up (up (up (up Y 0 (Y 3 0) x) 1 (Y 3 0) a) 2 (Y 3 0) u) 3 0 (Y 3 0 + 1) 0 j = if j = Y 3 0 then x else Y 0 j := fun j => by rw [up_row (by decide), up_row (by decide), up_row (by decide)]; exact up_in
  have w1 : ∀ j : Int, up (up (up (up Y 0 (Y 3 0) x) 1 (Y 3 0) a) 2 (Y 3 0) u) 3 0 (Y 3 0 + 1) 1 j = if j = Y 3 0 then a else Y 1 j := fun j => by rw [up_row (by decide), up_row (by decide), up_in, up_row (by decide)]
  have w2 : ∀ j : Int, up (up (up (up Y 0 (Y 3 0) x) 1 (Y 3 0) a) 2 (Y 3 0) u) 3 0 (Y 3 0 + 1) 2 j = if j = Y 3 0 then u else Y 2 j := fun j => by rw [up_row (by decide), up_in, up_row (by decide), up_row (by decide)]
  refine ⟨by rw [up_same]; exact e1, by rw [up_same]; omega, fun j a0 a1 => ?_⟩
  rw [up_same] at a1
  rw [w0, w1, w2]
  by_cases q : j = Y 3 0
  · rw [if_pos q, if_pos q, if_pos q, q, e2, e3, e5]; exact ⟨rfl, rfl, rfl, hx, ha, hu⟩
  · rw [if_neg q, if_neg q, if_neg q, (e4 j q).1, (e4 j q).2.1, (e4 j q).2.2]; exact h3 j a0 (by omega)
theorem tD_zero {σ τ T : SG} (h : tD σ T) (e1 : τ 32 4 = σ 32 4) (e2 : τ 32 5 = 0) : tD τ (up T 4 0 0) := by
  refine ⟨by rw [e1]; exact h.1, by rw [up_same]; exact e2, by rw [up_same]; omega, fun j a b => ?_⟩
  rw [up_same] at b; omega
theorem mtD_zero {τ U : SG} (e2 : τ 57 21 = 0) : mtD τ (up U 4 0 0) := by
  refine ⟨by rw [up_same]; exact e2, by rw [up_same]; omega, fun j a b => ?_⟩
  rw [up_same] at b; omega
theorem rT_zero {N : Nat} {D T U : SG} : rT N D (up T 4 0 0) (up U 4 0 0) := ⟨by rw [up_same, up_same], fun j a b => by rw [up_same] at b; omega⟩
theorem rT_push {N : Nat} {D T U : SG} {s x l q m : Int} (h : rT N D T U) (h0 : 0 ≤ T 4 0 ∧ T 4 0 ≤ 40) (hn : rM N D s x l q s x m q) : rT N D (tP T s x l q) (tP U s x m q) := by
  obtain ⟨e, k⟩ := h
  refine ⟨by rw [tP_n, tP_n, e], fun j a b => ?_⟩
  rw [tP_n] at b
  by_cases c : j + (if T 4 0 = 40 then 1 else 0) < T 4 0
  · have c2 : j + (if U 4 0 = 40 then 1 else 0) < U 4 0 := by rw [← e]; exact c
    rw [tP_old (by decide) c, tP_old (by decide) c, tP_old (by decide) c, tP_old (by decide) c, tP_old (by decide) c2, tP_old (by decide) c2, tP_old (by decide) c2, tP_old (by decide) c2, ← e]
    exact k _ (by split <;> omega) c
  · have c2 : ¬ j + (if U 4 0 = 40 then 1 else 0) < U 4 0 := by rw [← e]; exact c
    rw [tP_new (by decide) c, tP_new (by decide) c, tP_new (by decide) c, tP_new (by decide) c, tP_new (by decide) c2, tP_new (by decide) c2, tP_new (by decide) c2, tP_new (by decide) c2]
    exact hn
theorem rT_steps {N : Nat} {D T U : SG} {S X L M P e : Int} (h : rT N D T U) (h0 : 0 ≤ T 4 0 ∧ T 4 0 ≤ 40) (hb : bar D L M) (he : e = 0 ∨ e = 1) (hs : 0 ≤ X ∧ X ≤ S) : ∀ k : Nat, S + k ≤ 999 * N + 1 → rT N D (tNg T (en0 S X L P e) k) (tNg U (en0 S X M P e) k)
  | 0, _ => h
  | k + 1, hk => by
    have ih := rT_steps (P := P) h h0 hb he hs k (by omega)
    have hn := tNg_n (en0 S X L P e) h0 k
    refine rT_push ih (by rw [hn]; omega) ⟨rfl, rfl, hb, rfl, ?_⟩
    show 0 ≤ X + (k : Int) * e ∧ X + (k : Int) * e ≤ S + (k : Int) ∧ S + (k : Int) ≤ 999 * (N : Int)
    rcases he with rfl | rfl
    · rw [Int.mul_zero]; omega
    · rw [Int.mul_one]; omega
theorem rT_pop {N : Nat} {D T U : SG} {w : Int} (h : rT N D T U) (hw : 0 ≤ w) : rT N D (up T 4 0 (T 4 0 - w)) (up U 4 0 (U 4 0 - w)) := by
  obtain ⟨e, k⟩ := h
  refine ⟨by rw [up_same, up_same, e], fun j a b => ?_⟩
  rw [up_same] at b
  rw [up_row (by decide), up_row (by decide), up_row (by decide), up_row (by decide), up_row (by decide), up_row (by decide), up_row (by decide), up_row (by decide)]
  exact k j a (by omega)
set_option maxHeartbeats 4000000 in
theorem pw_feed {N : Nat} {σ τ1 τ2 : SG} {b : Nat} {D : SG} {S X L M P v : Int} {sl : Int → Int} {E Y : SG} {bn : Int} {wy tx : Int → Int} {n f : Int} {T U : SG} {z1 z2 : Int} {w : Int} (hc : cI σ b D S X L P v sl E Y bn wy tx n f T) (hm : mI σ D S X M P v sl E Y bn wy tx n f U) (hr : rI N D S X L M v T U) (g0 : img σ D N 37 0) (g1 : img σ D N 40 1) (h1 : ((w < 0 ∨ 255 < w) ∧ τ1 = σ ∧ z1 = -1000000002) ∨ (¬ (w < 0 ∨ 255 < w) ∧ 250 ≤ n ∧ τ1 = σ ∧ z1 = -1000000004) ∨ (¬ (w < 0 ∨ 255 < w) ∧ n < 250 ∧ τ1 = up (up σ 2 n w) 1 1 (n + 1) ∧ z1 = n + 1)) (h2 : ((w < 0 ∨ 255 < w) ∧ τ2 = τ1 ∧ z2 = -1000000002) ∨ (¬ (w < 0 ∨ 255 < w) ∧ 250 ≤ n ∧ τ2 = τ1 ∧ z2 = -1000000004) ∨ (¬ (w < 0 ∨ 255 < w) ∧ n < 250 ∧ τ2 = up (up τ1 63 n w) 57 14 (n + 1) ∧ z2 = n + 1)) : z1 = z2 ∧ INV (N + 1) τ2 := by
  obtain ⟨hst, hnw, hv, hsl, hE, hY, hB, hX, hf, hT⟩ := id hc
  obtain ⟨hM, hmn, hmv, hms, hmE, hmY, hmB, hmX, hmf, hmT⟩ := id hm
  obtain ⟨⟨hF, hR, hO, hH⟩, hSX, hbar, hvr, hrT⟩ := id hr
  have hb := hst.1
  have hH0 := hH.1
  rcases h1 with ⟨x1, rfl, y1⟩ | ⟨x1, w1, rfl, y1⟩ | ⟨x1, w1, rfl, y1⟩
  · rcases h2 with ⟨x2, rfl, y2⟩ | ⟨x2, w2, rfl, y2⟩ | ⟨x2, w2, rfl, y2⟩
    · exact ⟨y1.trans y2.symm, inv_same hc hm hr g0 g1⟩
    · exact absurd x1 x2
    · exact absurd x1 x2
  · rcases h2 with ⟨x2, rfl, y2⟩ | ⟨x2, w2, rfl, y2⟩ | ⟨x2, w2, rfl, y2⟩
    · exact absurd x2 x1
    · exact ⟨y1.trans y2.symm, inv_same hc hm hr g0 g1⟩
    · omega
  · rcases h2 with ⟨x2, rfl, y2⟩ | ⟨x2, w2, rfl, y2⟩ | ⟨x2, w2, rfl, y2⟩
    · exact absurd x2 x1
    · omega
    · refine ⟨y1.trans y2.symm, ?_⟩
      have r : ∀ k, k ≠ 2 → k ≠ 1 → k ≠ 63 → k ≠ 57 → up (up (up (up σ 2 n w) 1 1 (n + 1)) 63 n w) 57 14 (n + 1) k = σ k := fun k a1 a2 a3 a4 => by rw [up_row a4, up_row a3, up_row a2, up_row a1]
      have s57 : ∀ j : Int, j ≠ 14 → up (up (up (up σ 2 n w) 1 1 (n + 1)) 63 n w) 57 14 (n + 1) 57 j = σ 57 j := fun j a => by rw [up_col a, up_row (by decide), up_row (by decide), up_row (by decide)]
      exact ⟨b, D, S, X, L, M, P, v, sl, E, Y, bn, wy, (fu tx n w), n + 1, f, T, U, ⟨(hst.keep (congrFun (r 0 (by omega) (by omega) (by omega) (by omega)) _) (congrFun (r 0 (by omega) (by omega) (by omega) (by omega)) _) (fun k q1 q2 q3 => r k (by omega) (by omega) (by omega) (by omega))), (hnw.keep (r 31 (by omega) (by omega) (by omega) (by omega))), ((congrFun (r 0 (by omega) (by omega) (by omega) (by omega)) _).trans hv), (hsl.keep (r (b + 13) (by omega) (by omega) (by omega) (by omega))), (hE.keep2 (congrFun (r 45 (by omega) (by omega) (by omega) (by omega)) _) (r 46 (by omega) (by omega) (by omega) (by omega)) (r 47 (by omega) (by omega) (by omega) (by omega))), (hY.keep2 (congrFun (r 50 (by omega) (by omega) (by omega) (by omega)) _) (r 51 (by omega) (by omega) (by omega) (by omega)) (r 52 (by omega) (by omega) (by omega) (by omega)) (r 53 (by omega) (by omega) (by omega) (by omega))), (hB.keep (congrFun (r 54 (by omega) (by omega) (by omega) (by omega)) _) (r 55 (by omega) (by omega) (by omega) (by omega))), (txD_push hX (by omega) (by omega) (by rw [up_row (by decide), up_row (by decide), up_same]) (by rw [up_row (by decide), up_row (by decide), up_row (by decide), up_same]) (fun j q => by rw [up_row (by decide), up_row (by decide), up_row (by decide), up_col q])), ((congrFun (r 0 (by omega) (by omega) (by omega) (by omega)) _).trans hf), (hT.keep2 (fun k q1 q2 => r k (by omega) (by omega) (by omega) (by omega)))⟩, ⟨(hM.keep (s57 5 (by omega)) (s57 6 (by omega)) (s57 7 (by omega)) (s57 19 (by omega)) (fun k q1 q2 => r k (by omega) (by omega) (by omega) (by omega))), (hmn.keep (congrFun (r 58 (by omega) (by omega) (by omega) (by omega)) _) (congrFun (r 58 (by omega) (by omega) (by omega) (by omega)) _) (congrFun (r 58 (by omega) (by omega) (by omega) (by omega)) _) (congrFun (r 58 (by omega) (by omega) (by omega) (by omega)) _)), ((congrFun (r 58 (by omega) (by omega) (by omega) (by omega)) _).trans hmv), (hms.keep hH (fun j q1 q2 => (congrFun (r 58 (by omega) (by omega) (by omega) (by omega)) _))), (hmE.keep (s57 25 (by omega)) (r 66 (by omega) (by omega) (by omega) (by omega)) (r 67 (by omega) (by omega) (by omega) (by omega))), (hmY.keep (s57 30 (by omega)) (r 69 (by omega) (by omega) (by omega) (by omega)) (r 70 (by omega) (by omega) (by omega) (by omega)) (r 71 (by omega) (by omega) (by omega) (by omega))), (hmB.keep (s57 33 (by omega)) (r 73 (by omega) (by omega) (by omega) (by omega))), (mtx_push hmX (by omega) (by omega) (up_same _ _ _ _) (by rw [up_row (by decide), up_same]) (fun j q => by rw [up_row (by decide), up_col q, up_row (by decide), up_row (by decide)])), ((s57 18 (by omega)).trans hmf), (hmT.keep (s57 21 (by omega)) (r 64 (by omega) (by omega) (by omega) (by omega)))⟩, (hr.mono (by omega)), (g0.keep hH (by omega) (by omega) (r 37 (by omega) (by omega) (by omega) (by omega)) (r 38 (by omega) (by omega) (by omega) (by omega)) (r 39 (by omega) (by omega) (by omega) (by omega)) (congrFun (r 59 (by omega) (by omega) (by omega) (by omega)) _) (fun j q1 => (congrFun (r 58 (by omega) (by omega) (by omega) (by omega)) _))), (g1.keep hH (by omega) (by omega) (r 40 (by omega) (by omega) (by omega) (by omega)) (r 41 (by omega) (by omega) (by omega) (by omega)) (r 42 (by omega) (by omega) (by omega) (by omega)) (congrFun (r 59 (by omega) (by omega) (by omega) (by omega)) _) (fun j q1 => (congrFun (r 58 (by omega) (by omega) (by omega) (by omega)) _)))⟩
set_option maxHeartbeats 4000000 in
theorem pw_slack {N : Nat} {σ τ1 τ2 : SG} {b : Nat} {D : SG} {S X L M P v : Int} {sl : Int → Int} {E Y : SG} {bn : Int} {wy tx : Int → Int} {n f : Int} {T U : SG} {z1 z2 : Int} {w u : Int} (hc : cI σ b D S X L P v sl E Y bn wy tx n f T) (hm : mI σ D S X M P v sl E Y bn wy tx n f U) (hr : rI N D S X L M v T U) (g0 : img σ D N 37 0) (g1 : img σ D N 40 1) (h1 : (¬ (0 ≤ w ∧ w < D 9 1) ∧ τ1 = σ ∧ z1 = -1000000001) ∨ ((0 ≤ w ∧ w < D 9 1) ∧ (u < 0 ∨ 999 < u) ∧ τ1 = σ ∧ z1 = -1000000002) ∨ ((0 ≤ w ∧ w < D 9 1) ∧ ¬ (u < 0 ∨ 999 < u) ∧ τ1 = up σ (b + 13) w u ∧ z1 = sl w)) (h2 : (¬ (0 ≤ w ∧ w < D 9 1) ∧ τ2 = τ1 ∧ z2 = -1000000001) ∨ ((0 ≤ w ∧ w < D 9 1) ∧ (u < 0 ∨ 999 < u) ∧ τ2 = τ1 ∧ z2 = -1000000002) ∨ ((0 ≤ w ∧ w < D 9 1) ∧ ¬ (u < 0 ∨ 999 < u) ∧ τ2 = up τ1 58 (4 + w) u ∧ z2 = sl w)) : z1 = z2 ∧ INV (N + 1) τ2 := by
  obtain ⟨hst, hnw, hv, hsl, hE, hY, hB, hX, hf, hT⟩ := id hc
  obtain ⟨hM, hmn, hmv, hms, hmE, hmY, hmB, hmX, hmf, hmT⟩ := id hm
  obtain ⟨⟨hF, hR, hO, hH⟩, hSX, hbar, hvr, hrT⟩ := id hr
  have hb := hst.1
  have hH0 := hH.1
  rcases h1 with ⟨x1, rfl, y1⟩ | ⟨x1, w1, rfl, y1⟩ | ⟨x1, w1, rfl, y1⟩
  · rcases h2 with ⟨x2, rfl, y2⟩ | ⟨x2, w2, rfl, y2⟩ | ⟨x2, w2, rfl, y2⟩
    · exact ⟨y1.trans y2.symm, inv_same hc hm hr g0 g1⟩
    · exact absurd x2 x1
    · exact absurd x2 x1
  · rcases h2 with ⟨x2, rfl, y2⟩ | ⟨x2, w2, rfl, y2⟩ | ⟨x2, w2, rfl, y2⟩
    · exact absurd x1 x2
    · exact ⟨y1.trans y2.symm, inv_same hc hm hr g0 g1⟩
    · exact absurd w1 w2
  · rcases h2 with ⟨x2, rfl, y2⟩ | ⟨x2, w2, rfl, y2⟩ | ⟨x2, w2, rfl, y2⟩
    · exact absurd x1 x2
    · exact absurd w2 w1
    · refine ⟨y1.trans y2.symm, ?_⟩
      have r : ∀ k, k ≠ b + 13 → k ≠ 58 → up (up σ (b + 13) w u) 58 (4 + w) u k = σ k := fun k a1 a2 => by rw [up_row a2, up_row a1]
      have s58 : ∀ j : Int, (j < 4 ∨ 8 ≤ j) → up (up σ (b + 13) w u) 58 (4 + w) u 58 j = σ 58 j := fun j a => by rw [up_col (by omega), up_row (by omega)]
      exact ⟨b, D, S, X, L, M, P, v, (fu sl w u), E, Y, bn, wy, tx, n, f, T, U, ⟨(hst.keep (congrFun (r 0 (by omega) (by omega)) _) (congrFun (r 0 (by omega) (by omega)) _) (fun k q1 q2 q3 => r k (by omega) (by omega))), (hnw.keep (r 31 (by omega) (by omega))), ((congrFun (r 0 (by omega) (by omega)) _).trans hv), (fun y q1 q2 => by rw [up_row (by omega), up_in]; by_cases q : y = w; (subst q; rw [if_pos rfl, fu_s]; omega); (rw [if_neg q, fu_n q]; exact hsl y q1 q2)), (hE.keep2 (congrFun (r 45 (by omega) (by omega)) _) (r 46 (by omega) (by omega)) (r 47 (by omega) (by omega))), (hY.keep2 (congrFun (r 50 (by omega) (by omega)) _) (r 51 (by omega) (by omega)) (r 52 (by omega) (by omega)) (r 53 (by omega) (by omega))), (hB.keep (congrFun (r 54 (by omega) (by omega)) _) (r 55 (by omega) (by omega))), (hX.keep (congrFun (r 1 (by omega) (by omega)) _) (r 2 (by omega) (by omega))), ((congrFun (r 0 (by omega) (by omega)) _).trans hf), (hT.keep2 (fun k q1 q2 => r k (by omega) (by omega)))⟩, ⟨(hM.keep (congrFun (r 57 (by omega) (by omega)) _) (congrFun (r 57 (by omega) (by omega)) _) (congrFun (r 57 (by omega) (by omega)) _) (congrFun (r 57 (by omega) (by omega)) _) (fun k q1 q2 => r k (by omega) (by omega))), (hmn.keep (s58 0 (by omega)) (s58 1 (by omega)) (s58 2 (by omega)) (s58 3 (by omega))), ((s58 8 (by omega)).trans hmv), (fun y q1 q2 => by by_cases q : y = w; (subst q; rw [up_same, fu_s]; omega); (rw [up_col (by omega), up_row (by omega), fu_n q]; exact hms y q1 q2)), (hmE.keep (congrFun (r 57 (by omega) (by omega)) _) (r 66 (by omega) (by omega)) (r 67 (by omega) (by omega))), (hmY.keep (congrFun (r 57 (by omega) (by omega)) _) (r 69 (by omega) (by omega)) (r 70 (by omega) (by omega)) (r 71 (by omega) (by omega))), (hmB.keep (congrFun (r 57 (by omega) (by omega)) _) (r 73 (by omega) (by omega))), (hmX.keep (congrFun (r 57 (by omega) (by omega)) _) (r 63 (by omega) (by omega))), ((congrFun (r 57 (by omega) (by omega)) _).trans hmf), (hmT.keep (congrFun (r 57 (by omega) (by omega)) _) (r 64 (by omega) (by omega)))⟩, (hr.mono (by omega)), (g0.keep hH (by omega) (by omega) (r 37 (by omega) (by omega)) (r 38 (by omega) (by omega)) (r 39 (by omega) (by omega)) (congrFun (r 59 (by omega) (by omega)) _) (fun j q1 => (s58 j (by omega)))), (g1.keep hH (by omega) (by omega) (r 40 (by omega) (by omega)) (r 41 (by omega) (by omega)) (r 42 (by omega) (by omega)) (congrFun (r 59 (by omega) (by omega)) _) (fun j q1 => (s58 j (by omega))))⟩
set_option maxHeartbeats 4000000 in
theorem pw_hear {N : Nat} {σ τ1 τ2 : SG} {b : Nat} {D : SG} {S X L M P v : Int} {sl : Int → Int} {E Y : SG} {bn : Int} {wy tx : Int → Int} {n f : Int} {T U : SG} {z1 z2 : Int} {w u : Int} (hc : cI σ b D S X L P v sl E Y bn wy tx n f T) (hm : mI σ D S X M P v sl E Y bn wy tx n f U) (hr : rI N D S X L M v T U) (g0 : img σ D N 37 0) (g1 : img σ D N 40 1) (h1 : (¬ (0 ≤ w ∧ w < D 9 0) ∧ τ1 = σ ∧ z1 = -1000000001) ∨ ((0 ≤ w ∧ w < D 9 0) ∧ (u < 0 ∨ 30 < u) ∧ τ1 = σ ∧ z1 = -1000000002) ∨ ((0 ≤ w ∧ w < D 9 0) ∧ ¬ (u < 0 ∨ 30 < u) ∧ 12 ≤ E 2 0 ∧ τ1 = σ ∧ z1 = -1000000004) ∨ ((0 ≤ w ∧ w < D 9 0) ∧ ¬ (u < 0 ∨ 30 < u) ∧ E 2 0 < 12 ∧ eD τ1 (up (up (up E 0 (E 2 0) w) 1 (E 2 0) u) 2 0 (E 2 0 + 1)) ∧ (∀ k, (k < 45 ∨ 47 < k) → τ1 k = σ k) ∧ z1 = E 2 0 + 1)) (h2 : (¬ (0 ≤ w ∧ w < D 9 0) ∧ τ2 = τ1 ∧ z2 = -1000000001) ∨ ((0 ≤ w ∧ w < D 9 0) ∧ (u < 0 ∨ 30 < u) ∧ τ2 = τ1 ∧ z2 = -1000000002) ∨ ((0 ≤ w ∧ w < D 9 0) ∧ ¬ (u < 0 ∨ 30 < u) ∧ 12 ≤ E 2 0 ∧ τ2 = τ1 ∧ z2 = -1000000004) ∨ ((0 ≤ w ∧ w < D 9 0) ∧ ¬ (u < 0 ∨ 30 < u) ∧ E 2 0 < 12 ∧ τ2 = up (up (up τ1 66 (E 2 0) w) 67 (E 2 0) u) 57 25 (E 2 0 + 1) ∧ z2 = E 2 0 + 1)) : z1 = z2 ∧ INV (N + 1) τ2 := by
  obtain ⟨hst, hnw, hv, hsl, hE, hY, hB, hX, hf, hT⟩ := id hc
  obtain ⟨hM, hmn, hmv, hms, hmE, hmY, hmB, hmX, hmf, hmT⟩ := id hm
  obtain ⟨⟨hF, hR, hO, hH⟩, hSX, hbar, hvr, hrT⟩ := id hr
  have hb := hst.1
  have hH0 := hH.1
  have hF0 := hF.1
  rcases h1 with ⟨x1, rfl, y1⟩ | ⟨x1, w1, rfl, y1⟩ | ⟨x1, w1, w2, rfl, y1⟩ | ⟨x1, w1, w2, w3, w4, y1⟩
  · rcases h2 with ⟨x2, rfl, y2⟩ | ⟨x2, v1, rfl, y2⟩ | ⟨x2, v1, v2, rfl, y2⟩ | ⟨x2, v1, v2, rfl, y2⟩
    · exact ⟨y1.trans y2.symm, inv_same hc hm hr g0 g1⟩
    · exfalso; omega
    · exfalso; omega
    · exfalso; omega
  · rcases h2 with ⟨x2, rfl, y2⟩ | ⟨x2, v1, rfl, y2⟩ | ⟨x2, v1, v2, rfl, y2⟩ | ⟨x2, v1, v2, rfl, y2⟩
    · exfalso; omega
    · exact ⟨y1.trans y2.symm, inv_same hc hm hr g0 g1⟩
    · exfalso; omega
    · exfalso; omega
  · rcases h2 with ⟨x2, rfl, y2⟩ | ⟨x2, v1, rfl, y2⟩ | ⟨x2, v1, v2, rfl, y2⟩ | ⟨x2, v1, v2, rfl, y2⟩
    · exfalso; omega
    · exfalso; omega
    · exact ⟨y1.trans y2.symm, inv_same hc hm hr g0 g1⟩
    · exfalso; omega
  · rcases h2 with ⟨x2, rfl, y2⟩ | ⟨x2, v1, rfl, y2⟩ | ⟨x2, v1, v2, rfl, y2⟩ | ⟨x2, v1, v2, rfl, y2⟩
    · exfalso; omega
    · exfalso; omega
    · exfalso; omega
    · refine ⟨y1.trans y2.symm, ?_⟩
      have r : ∀ k, k ≠ 45 → k ≠ 46 → k ≠ 47 → k ≠ 66 → k ≠ 67 → k ≠ 57 → up (up (up τ1 66 (E 2 0) w) 67 (E 2 0) u) 57 25 (E 2 0 + 1) k = σ k := fun k a1 a2 a3 a4 a5 a6 => by rw [up_row a6, up_row a5, up_row a4]; exact w4 k (by omega)
      have s57 : ∀ j : Int, j ≠ 25 → up (up (up τ1 66 (E 2 0) w) 67 (E 2 0) u) 57 25 (E 2 0 + 1) 57 j = σ 57 j := fun j a => by rw [up_col a, up_row (by decide), up_row (by decide), w4 57 (by omega)]
      exact ⟨b, D, S, X, L, M, P, v, sl, (up (up (up E 0 (E 2 0) w) 1 (E 2 0) u) 2 0 (E 2 0 + 1)), Y, bn, wy, tx, n, f, T, U, ⟨(hst.keep (congrFun (r 0 (by omega) (by omega) (by omega) (by omega) (by omega) (by omega)) _) (congrFun (r 0 (by omega) (by omega) (by omega) (by omega) (by omega) (by omega)) _) (fun k q1 q2 q3 => r k (by omega) (by omega) (by omega) (by omega) (by omega) (by omega))), (hnw.keep (r 31 (by omega) (by omega) (by omega) (by omega) (by omega) (by omega))), ((congrFun (r 0 (by omega) (by omega) (by omega) (by omega) (by omega) (by omega)) _).trans hv), (hsl.keep (r (b + 13) (by omega) (by omega) (by omega) (by omega) (by omega) (by omega))), (w3.keep2 (by rw [up_row (by decide), up_row (by decide), up_row (by decide)]) (by rw [up_row (by decide), up_row (by decide), up_row (by decide)]) (by rw [up_row (by decide), up_row (by decide), up_row (by decide)])), (hY.keep2 (congrFun (r 50 (by omega) (by omega) (by omega) (by omega) (by omega) (by omega)) _) (r 51 (by omega) (by omega) (by omega) (by omega) (by omega) (by omega)) (r 52 (by omega) (by omega) (by omega) (by omega) (by omega) (by omega)) (r 53 (by omega) (by omega) (by omega) (by omega) (by omega) (by omega))), (hB.keep (congrFun (r 54 (by omega) (by omega) (by omega) (by omega) (by omega) (by omega)) _) (r 55 (by omega) (by omega) (by omega) (by omega) (by omega) (by omega))), (hX.keep (congrFun (r 1 (by omega) (by omega) (by omega) (by omega) (by omega) (by omega)) _) (r 2 (by omega) (by omega) (by omega) (by omega) (by omega) (by omega))), ((congrFun (r 0 (by omega) (by omega) (by omega) (by omega) (by omega) (by omega)) _).trans hf), (hT.keep2 (fun k q1 q2 => r k (by omega) (by omega) (by omega) (by omega) (by omega) (by omega)))⟩, ⟨(hM.keep (s57 5 (by omega)) (s57 6 (by omega)) (s57 7 (by omega)) (s57 19 (by omega)) (fun k q1 q2 => r k (by omega) (by omega) (by omega) (by omega) (by omega) (by omega))), (hmn.keep (congrFun (r 58 (by omega) (by omega) (by omega) (by omega) (by omega) (by omega)) _) (congrFun (r 58 (by omega) (by omega) (by omega) (by omega) (by omega) (by omega)) _) (congrFun (r 58 (by omega) (by omega) (by omega) (by omega) (by omega) (by omega)) _) (congrFun (r 58 (by omega) (by omega) (by omega) (by omega) (by omega) (by omega)) _)), ((congrFun (r 58 (by omega) (by omega) (by omega) (by omega) (by omega) (by omega)) _).trans hmv), (hms.keep hH (fun j q1 q2 => (congrFun (r 58 (by omega) (by omega) (by omega) (by omega) (by omega) (by omega)) _))), (me_push hmE (by omega) (by omega) (by omega) (up_same _ _ _ _) (by rw [up_row (by decide), up_row (by decide), up_same]) (by rw [up_row (by decide), up_same]) (fun j q => ⟨by rw [up_row (by decide), up_row (by decide), up_col q, w4 66 (by omega)], by rw [up_row (by decide), up_col q, up_row (by decide), w4 67 (by omega)]⟩)), (hmY.keep (s57 30 (by omega)) (r 69 (by omega) (by omega) (by omega) (by omega) (by omega) (by omega)) (r 70 (by omega) (by omega) (by omega) (by omega) (by omega) (by omega)) (r 71 (by omega) (by omega) (by omega) (by omega) (by omega) (by omega))), (hmB.keep (s57 33 (by omega)) (r 73 (by omega) (by omega) (by omega) (by omega) (by omega) (by omega))), (hmX.keep (s57 14 (by omega)) (r 63 (by omega) (by omega) (by omega) (by omega) (by omega) (by omega))), ((s57 18 (by omega)).trans hmf), (hmT.keep (s57 21 (by omega)) (r 64 (by omega) (by omega) (by omega) (by omega) (by omega) (by omega)))⟩, (hr.mono (by omega)), (g0.keep hH (by omega) (by omega) (r 37 (by omega) (by omega) (by omega) (by omega) (by omega) (by omega)) (r 38 (by omega) (by omega) (by omega) (by omega) (by omega) (by omega)) (r 39 (by omega) (by omega) (by omega) (by omega) (by omega) (by omega)) (congrFun (r 59 (by omega) (by omega) (by omega) (by omega) (by omega) (by omega)) _) (fun j q1 => (congrFun (r 58 (by omega) (by omega) (by omega) (by omega) (by omega) (by omega)) _))), (g1.keep hH (by omega) (by omega) (r 40 (by omega) (by omega) (by omega) (by omega) (by omega) (by omega)) (r 41 (by omega) (by omega) (by omega) (by omega) (by omega) (by omega)) (r 42 (by omega) (by omega) (by omega) (by omega) (by omega) (by omega)) (congrFun (r 59 (by omega) (by omega) (by omega) (by omega) (by omega) (by omega)) _) (fun j q1 => (congrFun (r 58 (by omega) (by omega) (by omega) (by omega) (by omega) (by omega)) _)))⟩
set_option maxHeartbeats 4000000 in
theorem pw_see {N : Nat} {σ τ1 τ2 : SG} {b : Nat} {D : SG} {S X L M P v : Int} {sl : Int → Int} {E Y : SG} {bn : Int} {wy tx : Int → Int} {n f : Int} {T U : SG} {z1 z2 : Int} {w u q : Int} (hc : cI σ b D S X L P v sl E Y bn wy tx n f T) (hm : mI σ D S X M P v sl E Y bn wy tx n f U) (hr : rI N D S X L M v T U) (g0 : img σ D N 37 0) (g1 : img σ D N 40 1) (h1 : (¬ (0 ≤ w ∧ w < D 9 0) ∧ τ1 = σ ∧ z1 = -1000000001) ∨ ((0 ≤ w ∧ w < D 9 0) ∧ ((u < 0 ∨ 9999 < u) ∨ (q < 0 ∨ 999 < q)) ∧ τ1 = σ ∧ z1 = -1000000002) ∨ ((0 ≤ w ∧ w < D 9 0) ∧ ¬ ((u < 0 ∨ 9999 < u) ∨ (q < 0 ∨ 999 < q)) ∧ 12 ≤ Y 3 0 ∧ τ1 = σ ∧ z1 = -1000000004) ∨ ((0 ≤ w ∧ w < D 9 0) ∧ ¬ ((u < 0 ∨ 9999 < u) ∨ (q < 0 ∨ 999 < q)) ∧ Y 3 0 < 12 ∧ yD τ1 (up (up (up (up Y 0 (Y 3 0) w) 1 (Y 3 0) u) 2 (Y 3 0) q) 3 0 (Y 3 0 + 1)) ∧ (∀ k, (k < 50 ∨ 53 < k) → τ1 k = σ k) ∧ z1 = Y 3 0 + 1)) (h2 : (¬ (0 ≤ w ∧ w < D 9 0) ∧ τ2 = τ1 ∧ z2 = -1000000001) ∨ ((0 ≤ w ∧ w < D 9 0) ∧ ((u < 0 ∨ 9999 < u) ∨ (q < 0 ∨ 999 < q)) ∧ τ2 = τ1 ∧ z2 = -1000000002) ∨ ((0 ≤ w ∧ w < D 9 0) ∧ ¬ ((u < 0 ∨ 9999 < u) ∨ (q < 0 ∨ 999 < q)) ∧ 12 ≤ Y 3 0 ∧ τ2 = τ1 ∧ z2 = -1000000004) ∨ ((0 ≤ w ∧ w < D 9 0) ∧ ¬ ((u < 0 ∨ 9999 < u) ∨ (q < 0 ∨ 999 < q)) ∧ Y 3 0 < 12 ∧ τ2 = up (up (up (up τ1 69 (Y 3 0) w) 70 (Y 3 0) u) 71 (Y 3 0) q) 57 30 (Y 3 0 + 1) ∧ z2 = Y 3 0 + 1)) : z1 = z2 ∧ INV (N + 1) τ2 := by
  obtain ⟨hst, hnw, hv, hsl, hE, hY, hB, hX, hf, hT⟩ := id hc
  obtain ⟨hM, hmn, hmv, hms, hmE, hmY, hmB, hmX, hmf, hmT⟩ := id hm
  obtain ⟨⟨hF, hR, hO, hH⟩, hSX, hbar, hvr, hrT⟩ := id hr
  have hb := hst.1
  have hH0 := hH.1
  have hF0 := hF.1
  rcases h1 with ⟨x1, rfl, y1⟩ | ⟨x1, w1, rfl, y1⟩ | ⟨x1, w1, w2, rfl, y1⟩ | ⟨x1, w1, w2, w3, w4, y1⟩
  · rcases h2 with ⟨x2, rfl, y2⟩ | ⟨x2, v1, rfl, y2⟩ | ⟨x2, v1, v2, rfl, y2⟩ | ⟨x2, v1, v2, rfl, y2⟩
    · exact ⟨y1.trans y2.symm, inv_same hc hm hr g0 g1⟩
    · exfalso; omega
    · exfalso; omega
    · exfalso; omega
  · rcases h2 with ⟨x2, rfl, y2⟩ | ⟨x2, v1, rfl, y2⟩ | ⟨x2, v1, v2, rfl, y2⟩ | ⟨x2, v1, v2, rfl, y2⟩
    · exfalso; omega
    · exact ⟨y1.trans y2.symm, inv_same hc hm hr g0 g1⟩
    · exfalso; omega
    · exfalso; omega
  · rcases h2 with ⟨x2, rfl, y2⟩ | ⟨x2, v1, rfl, y2⟩ | ⟨x2, v1, v2, rfl, y2⟩ | ⟨x2, v1, v2, rfl, y2⟩
    · exfalso; omega
    · exfalso; omega
    · exact ⟨y1.trans y2.symm, inv_same hc hm hr g0 g1⟩
    · exfalso; omega
  · rcases h2 with ⟨x2, rfl, y2⟩ | ⟨x2, v1, rfl, y2⟩ | ⟨x2, v1, v2, rfl, y2⟩ | ⟨x2, v1, v2, rfl, y2⟩
    · exfalso; omega
    · exfalso; omega
    · exfalso; omega
    · refine ⟨y1.trans y2.symm, ?_⟩
      have r : ∀ k, k ≠ 50 → k ≠ 51 → k ≠ 52 → k ≠ 53 → k ≠ 69 → k ≠ 70 → k ≠ 71 → k ≠ 57 → up (up (up (up τ1 69 (Y 3 0) w) 70 (Y 3 0) u) 71 (Y 3 0) q) 57 30 (Y 3 0 + 1) k = σ k := fun k a1 a2 a3 a4 a5 a6 a7 a8 => by rw [up_row a8, up_row a7, up_row a6, up_row a5]; exact w4 k (by omega)
      have s57 : ∀ j : Int, j ≠ 30 → up (up (up (up τ1 69 (Y 3 0) w) 70 (Y 3 0) u) 71 (Y 3 0) q) 57 30 (Y 3 0 + 1) 57 j = σ 57 j := fun j a => by rw [up_col a, up_row (by decide), up_row (by decide), up_row (by decide), w4 57 (by omega)]
      exact ⟨b, D, S, X, L, M, P, v, sl, E, (up (up (up (up Y 0 (Y 3 0) w) 1 (Y 3 0) u) 2 (Y 3 0) q) 3 0 (Y 3 0 + 1)), bn, wy, tx, n, f, T, U, ⟨(hst.keep (congrFun (r 0 (by omega) (by omega) (by omega) (by omega) (by omega) (by omega) (by omega) (by omega)) _) (congrFun (r 0 (by omega) (by omega) (by omega) (by omega) (by omega) (by omega) (by omega) (by omega)) _) (fun k q1 q2 q3 => r k (by omega) (by omega) (by omega) (by omega) (by omega) (by omega) (by omega) (by omega))), (hnw.keep (r 31 (by omega) (by omega) (by omega) (by omega) (by omega) (by omega) (by omega) (by omega))), ((congrFun (r 0 (by omega) (by omega) (by omega) (by omega) (by omega) (by omega) (by omega) (by omega)) _).trans hv), (hsl.keep (r (b + 13) (by omega) (by omega) (by omega) (by omega) (by omega) (by omega) (by omega) (by omega))), (hE.keep2 (congrFun (r 45 (by omega) (by omega) (by omega) (by omega) (by omega) (by omega) (by omega) (by omega)) _) (r 46 (by omega) (by omega) (by omega) (by omega) (by omega) (by omega) (by omega) (by omega)) (r 47 (by omega) (by omega) (by omega) (by omega) (by omega) (by omega) (by omega) (by omega))), (w3.keep2 (by rw [up_row (by decide), up_row (by decide), up_row (by decide), up_row (by decide)]) (by rw [up_row (by decide), up_row (by decide), up_row (by decide), up_row (by decide)]) (by rw [up_row (by decide), up_row (by decide), up_row (by decide), up_row (by decide)]) (by rw [up_row (by decide), up_row (by decide), up_row (by decide), up_row (by decide)])), (hB.keep (congrFun (r 54 (by omega) (by omega) (by omega) (by omega) (by omega) (by omega) (by omega) (by omega)) _) (r 55 (by omega) (by omega) (by omega) (by omega) (by omega) (by omega) (by omega) (by omega))), (hX.keep (congrFun (r 1 (by omega) (by omega) (by omega) (by omega) (by omega) (by omega) (by omega) (by omega)) _) (r 2 (by omega) (by omega) (by omega) (by omega) (by omega) (by omega) (by omega) (by omega))), ((congrFun (r 0 (by omega) (by omega) (by omega) (by omega) (by omega) (by omega) (by omega) (by omega)) _).trans hf), (hT.keep2 (fun k q1 q2 => r k (by omega) (by omega) (by omega) (by omega) (by omega) (by omega) (by omega) (by omega)))⟩, ⟨(hM.keep (s57 5 (by omega)) (s57 6 (by omega)) (s57 7 (by omega)) (s57 19 (by omega)) (fun k q1 q2 => r k (by omega) (by omega) (by omega) (by omega) (by omega) (by omega) (by omega) (by omega))), (hmn.keep (congrFun (r 58 (by omega) (by omega) (by omega) (by omega) (by omega) (by omega) (by omega) (by omega)) _) (congrFun (r 58 (by omega) (by omega) (by omega) (by omega) (by omega) (by omega) (by omega) (by omega)) _) (congrFun (r 58 (by omega) (by omega) (by omega) (by omega) (by omega) (by omega) (by omega) (by omega)) _) (congrFun (r 58 (by omega) (by omega) (by omega) (by omega) (by omega) (by omega) (by omega) (by omega)) _)), ((congrFun (r 58 (by omega) (by omega) (by omega) (by omega) (by omega) (by omega) (by omega) (by omega)) _).trans hmv), (hms.keep hH (fun j q1 q2 => (congrFun (r 58 (by omega) (by omega) (by omega) (by omega) (by omega) (by omega) (by omega) (by omega)) _))), (hmE.keep (s57 25 (by omega)) (r 66 (by omega) (by omega) (by omega) (by omega) (by omega) (by omega) (by omega) (by omega)) (r 67 (by omega) (by omega) (by omega) (by omega) (by omega) (by omega) (by omega) (by omega))), (my_push hmY (by omega) (by omega) (by omega) (by omega) (up_same _ _ _ _) (by rw [up_row (by decide), up_row (by decide), up_row (by decide), up_same]) (by rw [up_row (by decide), up_row (by decide), up_same]) (by rw [up_row (by decide), up_same]) (fun j q => ⟨by rw [up_row (by decide), up_row (by decide), up_row (by decide), up_col q, w4 69 (by omega)], by rw [up_row (by decide), up_row (by decide), up_col q, up_row (by decide), w4 70 (by omega)], by rw [up_row (by decide), up_col q, up_row (by decide), up_row (by decide), w4 71 (by omega)]⟩)), (hmB.keep (s57 33 (by omega)) (r 73 (by omega) (by omega) (by omega) (by omega) (by omega) (by omega) (by omega) (by omega))), (hmX.keep (s57 14 (by omega)) (r 63 (by omega) (by omega) (by omega) (by omega) (by omega) (by omega) (by omega) (by omega))), ((s57 18 (by omega)).trans hmf), (hmT.keep (s57 21 (by omega)) (r 64 (by omega) (by omega) (by omega) (by omega) (by omega) (by omega) (by omega) (by omega)))⟩, (hr.mono (by omega)), (g0.keep hH (by omega) (by omega) (r 37 (by omega) (by omega) (by omega) (by omega) (by omega) (by omega) (by omega) (by omega)) (r 38 (by omega) (by omega) (by omega) (by omega) (by omega) (by omega) (by omega) (by omega)) (r 39 (by omega) (by omega) (by omega) (by omega) (by omega) (by omega) (by omega) (by omega)) (congrFun (r 59 (by omega) (by omega) (by omega) (by omega) (by omega) (by omega) (by omega) (by omega)) _) (fun j q1 => (congrFun (r 58 (by omega) (by omega) (by omega) (by omega) (by omega) (by omega) (by omega) (by omega)) _))), (g1.keep hH (by omega) (by omega) (r 40 (by omega) (by omega) (by omega) (by omega) (by omega) (by omega) (by omega) (by omega)) (r 41 (by omega) (by omega) (by omega) (by omega) (by omega) (by omega) (by omega) (by omega)) (r 42 (by omega) (by omega) (by omega) (by omega) (by omega) (by omega) (by omega) (by omega)) (congrFun (r 59 (by omega) (by omega) (by omega) (by omega) (by omega) (by omega) (by omega) (by omega)) _) (fun j q1 => (congrFun (r 58 (by omega) (by omega) (by omega) (by omega) (by omega) (by omega) (by omega) (by omega)) _)))⟩
set_option maxHeartbeats 4000000 in
theorem pw_write {N : Nat} {σ τ1 τ2 : SG} {b : Nat} {D : SG} {S X L M P v : Int} {sl : Int → Int} {E Y : SG} {bn : Int} {wy tx : Int → Int} {n f : Int} {T U : SG} {z1 z2 : Int} {w : Int} (hc : cI σ b D S X L P v sl E Y bn wy tx n f T) (hm : mI σ D S X M P v sl E Y bn wy tx n f U) (hr : rI N D S X L M v T U) (g0 : img σ D N 37 0) (g1 : img σ D N 40 1) (h1 : ((w < 0 ∨ 2 < w) ∧ τ1 = σ ∧ z1 = -1000000002) ∨ (¬ (w < 0 ∨ 2 < w) ∧ 30 ≤ bn ∧ τ1 = σ ∧ z1 = -1000000004) ∨ (¬ (w < 0 ∨ 2 < w) ∧ bn < 30 ∧ τ1 = up (up σ 55 bn w) 54 2 (bn + 1) ∧ z1 = bn + 1)) (h2 : ((w < 0 ∨ 2 < w) ∧ τ2 = τ1 ∧ z2 = -1000000002) ∨ (¬ (w < 0 ∨ 2 < w) ∧ 30 ≤ bn ∧ τ2 = τ1 ∧ z2 = -1000000004) ∨ (¬ (w < 0 ∨ 2 < w) ∧ bn < 30 ∧ τ2 = up (up τ1 73 bn w) 57 33 (bn + 1) ∧ z2 = bn + 1)) : z1 = z2 ∧ INV (N + 1) τ2 := by
  obtain ⟨hst, hnw, hv, hsl, hE, hY, hB, hX, hf, hT⟩ := id hc
  obtain ⟨hM, hmn, hmv, hms, hmE, hmY, hmB, hmX, hmf, hmT⟩ := id hm
  obtain ⟨⟨hF, hR, hO, hH⟩, hSX, hbar, hvr, hrT⟩ := id hr
  have hb := hst.1
  have hH0 := hH.1
  rcases h1 with ⟨x1, rfl, y1⟩ | ⟨x1, w1, rfl, y1⟩ | ⟨x1, w1, rfl, y1⟩
  · rcases h2 with ⟨x2, rfl, y2⟩ | ⟨x2, w2, rfl, y2⟩ | ⟨x2, w2, rfl, y2⟩
    · exact ⟨y1.trans y2.symm, inv_same hc hm hr g0 g1⟩
    · exact absurd x1 x2
    · exact absurd x1 x2
  · rcases h2 with ⟨x2, rfl, y2⟩ | ⟨x2, w2, rfl, y2⟩ | ⟨x2, w2, rfl, y2⟩
    · exact absurd x2 x1
    · exact ⟨y1.trans y2.symm, inv_same hc hm hr g0 g1⟩
    · omega
  · rcases h2 with ⟨x2, rfl, y2⟩ | ⟨x2, w2, rfl, y2⟩ | ⟨x2, w2, rfl, y2⟩
    · exact absurd x2 x1
    · omega
    · refine ⟨y1.trans y2.symm, ?_⟩
      have r : ∀ k, k ≠ 55 → k ≠ 54 → k ≠ 73 → k ≠ 57 → up (up (up (up σ 55 bn w) 54 2 (bn + 1)) 73 bn w) 57 33 (bn + 1) k = σ k := fun k a1 a2 a3 a4 => by rw [up_row a4, up_row a3, up_row a2, up_row a1]
      have s57 : ∀ j : Int, j ≠ 33 → up (up (up (up σ 55 bn w) 54 2 (bn + 1)) 73 bn w) 57 33 (bn + 1) 57 j = σ 57 j := fun j a => by rw [up_col a, up_row (by decide), up_row (by decide), up_row (by decide)]
      exact ⟨b, D, S, X, L, M, P, v, sl, E, Y, bn + 1, (fu wy bn w), tx, n, f, T, U, ⟨(hst.keep (congrFun (r 0 (by omega) (by omega) (by omega) (by omega)) _) (congrFun (r 0 (by omega) (by omega) (by omega) (by omega)) _) (fun k q1 q2 q3 => r k (by omega) (by omega) (by omega) (by omega))), (hnw.keep (r 31 (by omega) (by omega) (by omega) (by omega))), ((congrFun (r 0 (by omega) (by omega) (by omega) (by omega)) _).trans hv), (hsl.keep (r (b + 13) (by omega) (by omega) (by omega) (by omega))), (hE.keep2 (congrFun (r 45 (by omega) (by omega) (by omega) (by omega)) _) (r 46 (by omega) (by omega) (by omega) (by omega)) (r 47 (by omega) (by omega) (by omega) (by omega))), (hY.keep2 (congrFun (r 50 (by omega) (by omega) (by omega) (by omega)) _) (r 51 (by omega) (by omega) (by omega) (by omega)) (r 52 (by omega) (by omega) (by omega) (by omega)) (r 53 (by omega) (by omega) (by omega) (by omega))), (bk_push hB (by omega) (by omega) (by rw [up_row (by decide), up_row (by decide), up_same]) (by rw [up_row (by decide), up_row (by decide), up_row (by decide), up_same]) (fun j q => by rw [up_row (by decide), up_row (by decide), up_row (by decide), up_col q])), (hX.keep (congrFun (r 1 (by omega) (by omega) (by omega) (by omega)) _) (r 2 (by omega) (by omega) (by omega) (by omega))), ((congrFun (r 0 (by omega) (by omega) (by omega) (by omega)) _).trans hf), (hT.keep2 (fun k q1 q2 => r k (by omega) (by omega) (by omega) (by omega)))⟩, ⟨(hM.keep (s57 5 (by omega)) (s57 6 (by omega)) (s57 7 (by omega)) (s57 19 (by omega)) (fun k q1 q2 => r k (by omega) (by omega) (by omega) (by omega))), (hmn.keep (congrFun (r 58 (by omega) (by omega) (by omega) (by omega)) _) (congrFun (r 58 (by omega) (by omega) (by omega) (by omega)) _) (congrFun (r 58 (by omega) (by omega) (by omega) (by omega)) _) (congrFun (r 58 (by omega) (by omega) (by omega) (by omega)) _)), ((congrFun (r 58 (by omega) (by omega) (by omega) (by omega)) _).trans hmv), (hms.keep hH (fun j q1 q2 => (congrFun (r 58 (by omega) (by omega) (by omega) (by omega)) _))), (hmE.keep (s57 25 (by omega)) (r 66 (by omega) (by omega) (by omega) (by omega)) (r 67 (by omega) (by omega) (by omega) (by omega))), (hmY.keep (s57 30 (by omega)) (r 69 (by omega) (by omega) (by omega) (by omega)) (r 70 (by omega) (by omega) (by omega) (by omega)) (r 71 (by omega) (by omega) (by omega) (by omega))), (mb_push hmB (by omega) (by omega) (up_same _ _ _ _) (by rw [up_row (by decide), up_same]) (fun j q => by rw [up_row (by decide), up_col q, up_row (by decide), up_row (by decide)])), (hmX.keep (s57 14 (by omega)) (r 63 (by omega) (by omega) (by omega) (by omega))), ((s57 18 (by omega)).trans hmf), (hmT.keep (s57 21 (by omega)) (r 64 (by omega) (by omega) (by omega) (by omega)))⟩, (hr.mono (by omega)), (g0.keep hH (by omega) (by omega) (r 37 (by omega) (by omega) (by omega) (by omega)) (r 38 (by omega) (by omega) (by omega) (by omega)) (r 39 (by omega) (by omega) (by omega) (by omega)) (congrFun (r 59 (by omega) (by omega) (by omega) (by omega)) _) (fun j q1 => (congrFun (r 58 (by omega) (by omega) (by omega) (by omega)) _))), (g1.keep hH (by omega) (by omega) (r 40 (by omega) (by omega) (by omega) (by omega)) (r 41 (by omega) (by omega) (by omega) (by omega)) (r 42 (by omega) (by omega) (by omega) (by omega)) (congrFun (r 59 (by omega) (by omega) (by omega) (by omega)) _) (fun j q1 => (congrFun (r 58 (by omega) (by omega) (by omega) (by omega)) _)))⟩
set_option maxHeartbeats 4000000 in
theorem pw_tear {N : Nat} {σ τ1 τ2 : SG} {b : Nat} {D : SG} {S X L M P v : Int} {sl : Int → Int} {E Y : SG} {bn : Int} {wy tx : Int → Int} {n f : Int} {T U : SG} {z1 z2 : Int}  (hc : cI σ b D S X L P v sl E Y bn wy tx n f T) (hm : mI σ D S X M P v sl E Y bn wy tx n f U) (hr : rI N D S X L M v T U) (g0 : img σ D N 37 0) (g1 : img σ D N 40 1) (h1 : τ1 = up (up (up σ 45 2 0) 50 3 0) 54 2 0 ∧ z1 = σ 45 2 + σ 50 3 + σ 54 2) (h2 : τ2 = up (up (up τ1 57 25 0) 57 30 0) 57 33 0 ∧ z2 = τ1 57 25 + τ1 57 30 + τ1 57 33) : z1 = z2 ∧ INV (N + 1) τ2 := by
  obtain ⟨hst, hnw, hv, hsl, hE, hY, hB, hX, hf, hT⟩ := id hc
  obtain ⟨hM, hmn, hmv, hms, hmE, hmY, hmB, hmX, hmf, hmT⟩ := id hm
  obtain ⟨⟨hF, hR, hO, hH⟩, hSX, hbar, hvr, hrT⟩ := id hr
  have hb := hst.1
  have hH0 := hH.1
  obtain ⟨rfl, y1⟩ := h1
  obtain ⟨rfl, y2⟩ := h2
  refine ⟨?_, ?_⟩
  · rw [y1, y2, up_row (by decide), up_row (by decide), up_row (by decide), hE.1, hY.1, hB.1, hmE.1, hmY.1, hmB.1]
  · have r : ∀ k, k ≠ 45 → k ≠ 50 → k ≠ 54 → k ≠ 57 → up (up (up (up (up (up σ 45 2 0) 50 3 0) 54 2 0) 57 25 0) 57 30 0) 57 33 0 k = σ k := fun k a1 a2 a3 a4 => by rw [up_row a4, up_row a4, up_row a4, up_row a3, up_row a2, up_row a1]
    have s57 : ∀ j : Int, j ≠ 25 → j ≠ 30 → j ≠ 33 → up (up (up (up (up (up σ 45 2 0) 50 3 0) 54 2 0) 57 25 0) 57 30 0) 57 33 0 57 j = σ 57 j := fun j a1 a2 a3 => by rw [up_col a3, up_col a2, up_col a1, up_row (by decide), up_row (by decide), up_row (by decide)]
    exact ⟨b, D, S, X, L, M, P, v, sl, (up E 2 0 0), (up Y 3 0 0), 0, wy, tx, n, f, T, U, ⟨(hst.keep (congrFun (r 0 (by omega) (by omega) (by omega) (by omega)) _) (congrFun (r 0 (by omega) (by omega) (by omega) (by omega)) _) (fun k q1 q2 q3 => r k (by omega) (by omega) (by omega) (by omega))), (hnw.keep (r 31 (by omega) (by omega) (by omega) (by omega))), ((congrFun (r 0 (by omega) (by omega) (by omega) (by omega)) _).trans hv), (hsl.keep (r (b + 13) (by omega) (by omega) (by omega) (by omega))), (show eD (up (up (up (up (up (up σ 45 2 0) 50 3 0) 54 2 0) 57 25 0) 57 30 0) 57 33 0) (up E 2 0 0) from ⟨by rw [up_same, up_row (by decide), up_row (by decide), up_row (by decide), up_row (by decide), up_row (by decide), up_same], by rw [up_same]; omega, fun k q1 q2 => by rw [up_same] at q2; omega⟩), (show yD (up (up (up (up (up (up σ 45 2 0) 50 3 0) 54 2 0) 57 25 0) 57 30 0) 57 33 0) (up Y 3 0 0) from ⟨by rw [up_same, up_row (by decide), up_row (by decide), up_row (by decide), up_row (by decide), up_same], by rw [up_same]; omega, fun k q1 q2 => by rw [up_same] at q2; omega⟩), (show bkD (up (up (up (up (up (up σ 45 2 0) 50 3 0) 54 2 0) 57 25 0) 57 30 0) 57 33 0) 0 wy from ⟨by rw [up_row (by decide), up_row (by decide), up_row (by decide), up_same], by omega, fun k q1 q2 => by omega⟩), (hX.keep (congrFun (r 1 (by omega) (by omega) (by omega) (by omega)) _) (r 2 (by omega) (by omega) (by omega) (by omega))), ((congrFun (r 0 (by omega) (by omega) (by omega) (by omega)) _).trans hf), (hT.keep2 (fun k q1 q2 => r k (by omega) (by omega) (by omega) (by omega)))⟩, ⟨(hM.keep (s57 5 (by omega) (by omega) (by omega)) (s57 6 (by omega) (by omega) (by omega)) (s57 7 (by omega) (by omega) (by omega)) (s57 19 (by omega) (by omega) (by omega)) (fun k q1 q2 => r k (by omega) (by omega) (by omega) (by omega))), (hmn.keep (congrFun (r 58 (by omega) (by omega) (by omega) (by omega)) _) (congrFun (r 58 (by omega) (by omega) (by omega) (by omega)) _) (congrFun (r 58 (by omega) (by omega) (by omega) (by omega)) _) (congrFun (r 58 (by omega) (by omega) (by omega) (by omega)) _)), ((congrFun (r 58 (by omega) (by omega) (by omega) (by omega)) _).trans hmv), (hms.keep hH (fun j q1 q2 => (congrFun (r 58 (by omega) (by omega) (by omega) (by omega)) _))), (show meD (up (up (up (up (up (up σ 45 2 0) 50 3 0) 54 2 0) 57 25 0) 57 30 0) 57 33 0) (up E 2 0 0) from ⟨by rw [up_same, up_col (by decide), up_col (by decide), up_same], by rw [up_same]; omega, fun k q1 q2 => by rw [up_same] at q2; omega⟩), (show myD (up (up (up (up (up (up σ 45 2 0) 50 3 0) 54 2 0) 57 25 0) 57 30 0) 57 33 0) (up Y 3 0 0) from ⟨by rw [up_same, up_col (by decide), up_same], by rw [up_same]; omega, fun k q1 q2 => by rw [up_same] at q2; omega⟩), (show mbD (up (up (up (up (up (up σ 45 2 0) 50 3 0) 54 2 0) 57 25 0) 57 30 0) 57 33 0) 0 wy from ⟨up_same _ _ _ _, by omega, fun k q1 q2 => by omega⟩), (hmX.keep (s57 14 (by omega) (by omega) (by omega)) (r 63 (by omega) (by omega) (by omega) (by omega))), ((s57 18 (by omega) (by omega) (by omega)).trans hmf), (hmT.keep (s57 21 (by omega) (by omega) (by omega)) (r 64 (by omega) (by omega) (by omega) (by omega)))⟩, (hr.mono (by omega)), (g0.keep hH (by omega) (by omega) (r 37 (by omega) (by omega) (by omega) (by omega)) (r 38 (by omega) (by omega) (by omega) (by omega)) (r 39 (by omega) (by omega) (by omega) (by omega)) (congrFun (r 59 (by omega) (by omega) (by omega) (by omega)) _) (fun j q1 => (congrFun (r 58 (by omega) (by omega) (by omega) (by omega)) _))), (g1.keep hH (by omega) (by omega) (r 40 (by omega) (by omega) (by omega) (by omega)) (r 41 (by omega) (by omega) (by omega) (by omega)) (r 42 (by omega) (by omega) (by omega) (by omega)) (congrFun (r 59 (by omega) (by omega) (by omega) (by omega)) _) (fun j q1 => (congrFun (r 58 (by omega) (by omega) (by omega) (by omega)) _)))⟩
set_option maxHeartbeats 4000000 in
theorem pw_seed {N : Nat} {σ τ1 τ2 : SG} {b : Nat} {D : SG} {S X L M P v : Int} {sl : Int → Int} {E Y : SG} {bn : Int} {wy tx : Int → Int} {n f : Int} {T U : SG} {z1 z2 : Int} {w : Int} (hw : -2147483648 ≤ w ∧ w < 2147483648) (hc : cI σ b D S X L P v sl E Y bn wy tx n f T) (hm : mI σ D S X M P v sl E Y bn wy tx n f U) (hr : rI N D S X L M v T U) (g0 : img σ D N 37 0) (g1 : img σ D N 40 1) (h1 : (w < 0 ∧ τ1 = σ ∧ z1 = -1000000002) ∨ (0 ≤ w ∧ τ1 = up σ 0 12 w ∧ z1 = σ 0 12)) (h2 : (w < 0 ∧ τ2 = τ1 ∧ z2 = -1000000002) ∨ (0 ≤ w ∧ τ2 = up τ1 58 8 w ∧ z2 = τ1 58 8)) : z1 = z2 ∧ INV (N + 1) τ2 := by
  obtain ⟨hst, hnw, hv, hsl, hE, hY, hB, hX, hf, hT⟩ := id hc
  obtain ⟨hM, hmn, hmv, hms, hmE, hmY, hmB, hmX, hmf, hmT⟩ := id hm
  obtain ⟨⟨hF, hR, hO, hH⟩, hSX, hbar, hvr, hrT⟩ := id hr
  have hb := hst.1
  have hH0 := hH.1
  rcases h1 with ⟨x1, rfl, y1⟩ | ⟨x1, rfl, y1⟩
  · rcases h2 with ⟨x2, rfl, y2⟩ | ⟨x2, rfl, y2⟩
    · exact ⟨y1.trans y2.symm, inv_same hc hm hr g0 g1⟩
    · omega
  · rcases h2 with ⟨x2, rfl, y2⟩ | ⟨x2, rfl, y2⟩
    · omega
    · refine ⟨by rw [y1, y2, up_row (by decide), hv, hmv], ?_⟩
      have r : ∀ k, k ≠ 0 → k ≠ 58 → up (up σ 0 12 w) 58 8 w k = σ k := fun k a1 a2 => by rw [up_row a2, up_row a1]
      have s0 : ∀ j : Int, j ≠ 12 → up (up σ 0 12 w) 58 8 w 0 j = σ 0 j := fun j a => by rw [up_row (by decide), up_col a]
      have s58 : ∀ j : Int, j ≠ 8 → up (up σ 0 12 w) 58 8 w 58 j = σ 58 j := fun j a => by rw [up_col a, up_row (by decide)]
      exact ⟨b, D, S, X, L, M, P, w, sl, E, Y, bn, wy, tx, n, f, T, U, ⟨(hst.keep (s0 1 (by decide)) (s0 2 (by decide)) (fun k q1 q2 q3 => r k (by omega) (by omega))), (hnw.keep (r 31 (by omega) (by omega))), (by rw [up_row (by decide), up_same]), (hsl.keep (r (b + 13) (by omega) (by omega))), (hE.keep2 (congrFun (r 45 (by omega) (by omega)) _) (r 46 (by omega) (by omega)) (r 47 (by omega) (by omega))), (hY.keep2 (congrFun (r 50 (by omega) (by omega)) _) (r 51 (by omega) (by omega)) (r 52 (by omega) (by omega)) (r 53 (by omega) (by omega))), (hB.keep (congrFun (r 54 (by omega) (by omega)) _) (r 55 (by omega) (by omega))), (hX.keep (congrFun (r 1 (by omega) (by omega)) _) (r 2 (by omega) (by omega))), ((s0 3 (by decide)).trans hf), (hT.keep2 (fun k q1 q2 => r k (by omega) (by omega)))⟩, ⟨(hM.keep (congrFun (r 57 (by omega) (by omega)) _) (congrFun (r 57 (by omega) (by omega)) _) (congrFun (r 57 (by omega) (by omega)) _) (congrFun (r 57 (by omega) (by omega)) _) (fun k q1 q2 => r k (by omega) (by omega))), (hmn.keep (s58 0 (by omega)) (s58 1 (by omega)) (s58 2 (by omega)) (s58 3 (by omega))), (up_same _ _ _ _), (hms.keep hH (fun j q1 q2 => (s58 j (by omega)))), (hmE.keep (congrFun (r 57 (by omega) (by omega)) _) (r 66 (by omega) (by omega)) (r 67 (by omega) (by omega))), (hmY.keep (congrFun (r 57 (by omega) (by omega)) _) (r 69 (by omega) (by omega)) (r 70 (by omega) (by omega)) (r 71 (by omega) (by omega))), (hmB.keep (congrFun (r 57 (by omega) (by omega)) _) (r 73 (by omega) (by omega))), (hmX.keep (congrFun (r 57 (by omega) (by omega)) _) (r 63 (by omega) (by omega))), ((congrFun (r 57 (by omega) (by omega)) _).trans hmf), (hmT.keep (congrFun (r 57 (by omega) (by omega)) _) (r 64 (by omega) (by omega)))⟩, (by obtain ⟨a1, a2, a3, a4, a5⟩ := hr; exact ⟨a1, by omega, a3, by omega, a5.mono (by omega)⟩), (g0.keep hH (by omega) (by omega) (r 37 (by omega) (by omega)) (r 38 (by omega) (by omega)) (r 39 (by omega) (by omega)) (congrFun (r 59 (by omega) (by omega)) _) (fun j q1 => (s58 j (by omega)))), (g1.keep hH (by omega) (by omega) (r 40 (by omega) (by omega)) (r 41 (by omega) (by omega)) (r 42 (by omega) (by omega)) (congrFun (r 59 (by omega) (by omega)) _) (fun j q1 => (s58 j (by omega))))⟩
set_option maxRecDepth 100000 in
set_option maxHeartbeats 4000000 in
theorem law_feed {p : Program} {l : Launch} {e : Env} {s : State} {m : MethodId} {below : List Frame} {meth : Method} {c : Code} {Q : State → Prop} {K : WK} {H0 : Heap} {a L0 : Nat} {xs : Nat → Int32} {σ : SG} {N : Nat} {i : Int} (B : CB p s m #[.ref a] c cL_law RL 4 K) (hS0 : SCR a L0 xs s H0 K) (hN : N ≤ 63) (hi : 0 ≤ i ∧ i + 5 ≤ L0) (hI : INV N σ) (kk : ∀ τ : SG, INV (N + 1) τ → LG p l e s m below meth c Q K H0 a i τ 1197 []) : LG p l e s m below meth c Q K H0 a i σ 196 [] := by
  obtain ⟨b, D, S, X, L, M, P, v, sl, E, Y, bn, wy, tx, n, f, T, U, hc, hm, hr, g0, g1⟩ := hI
  obtain ⟨⟨hb, hcb, hsp, hS⟩, hnw, hv, hsl, hE, hY, hB, hX, hf, hT⟩ := id hc
  obtain ⟨⟨hF, hR, hO, hH⟩, hSX, hbar, hvr, hrT⟩ := id hr
  refine g_aload_n (pc' := 197) B 2 rfl rfl dL_law_196 rfl ?_
  refine g_aload_n (pc' := 198) B 3 rfl rfl dL_law_197 rfl ?_
  refine g_iload_n (pc' := 199) B 0 rfl rfl dL_law_198 rfl ?_
  refine g_iconst (pc' := 200) B dL_law_199 rfl ?_
  refine g_iadd (pc' := 201) B dL_law_200 rfl ?_
  refine g_sld (pc' := 202) B hS0 (by omega) dL_law_201 rfl ?_
  refine g_callVI (pc' := 205) (As := [.int (iI (xv xs (i + 1)))]) B (c_X11_feed l K _ (tx := tx) (n := n) (v := xv xs (i + 1)) hX (xv_rng _ _)) vt_X11_feed tw_359 rfl rfl ⟨by decide, by decide⟩ rfl (Nat.le_of_ble_eq_true rfl) ⟨Nat.le_of_ble_eq_true rfl, Nat.le_of_ble_eq_true rfl⟩ rfl dL_law_202 rfl (fun z1 τ1 h1 => ?_)
  have e57 : ∀ k, 57 ≤ k → τ1 k = σ k := fun k hk => by rcases h1 with ⟨_, x, _⟩ | ⟨_, _, x, _⟩ | ⟨_, _, x, _⟩ <;> rw [x]; rw [up_row (by omega), up_row (by omega)]
  have hm1 := hm.k57 e57
  obtain ⟨hM1, hmn1, hmv1, hms1, hmE1, hmY1, hmB1, hmX1, hmf1, hmT1⟩ := id hm1
  refine g_aload_n (pc' := 206) B 1 rfl rfl dL_law_205 rfl ?_
  refine g_aload_n (pc' := 207) B 3 rfl rfl dL_law_206 rfl ?_
  refine g_iload_n (pc' := 208) B 0 rfl rfl dL_law_207 rfl ?_
  refine g_iconst (pc' := 209) B dL_law_208 rfl ?_
  refine g_iadd (pc' := 210) B dL_law_209 rfl ?_
  refine g_sld (pc' := 211) B hS0 (by omega) dL_law_210 rfl ?_
  refine g_callVI (pc' := 214) (As := [.int (iI (xv xs (i + 1)))]) B (c_X12_feed l K _ (tx := tx) (n := n) (v := xv xs (i + 1)) hmX1 (xv_rng _ _)) vt_X12_feed tw_1036 rfl rfl ⟨by decide, by decide⟩ rfl (Nat.le_of_ble_eq_true rfl) ⟨Nat.le_of_ble_eq_true rfl, Nat.le_of_ble_eq_true rfl⟩ rfl dL_law_211 rfl (fun z2 τ2 h2 => ?_)
  have pw := pw_feed hc hm hr g0 g1 h1 h2
  exact g_same B 1197 (pw.1) dL_law_214 (by decide) (kk _ (pw.2))
set_option maxRecDepth 100000 in
set_option maxHeartbeats 4000000 in
theorem law_slack {p : Program} {l : Launch} {e : Env} {s : State} {m : MethodId} {below : List Frame} {meth : Method} {c : Code} {Q : State → Prop} {K : WK} {H0 : Heap} {a L0 : Nat} {xs : Nat → Int32} {σ : SG} {N : Nat} {i : Int} (B : CB p s m #[.ref a] c cL_law RL 4 K) (hS0 : SCR a L0 xs s H0 K) (hN : N ≤ 63) (hi : 0 ≤ i ∧ i + 5 ≤ L0) (hI : INV N σ) (kk : ∀ τ : SG, INV (N + 1) τ → LG p l e s m below meth c Q K H0 a i τ 1197 []) : LG p l e s m below meth c Q K H0 a i σ 469 [] := by
  obtain ⟨b, D, S, X, L, M, P, v, sl, E, Y, bn, wy, tx, n, f, T, U, hc, hm, hr, g0, g1⟩ := hI
  obtain ⟨⟨hb, hcb, hsp, hS⟩, hnw, hv, hsl, hE, hY, hB, hX, hf, hT⟩ := id hc
  obtain ⟨⟨hF, hR, hO, hH⟩, hSX, hbar, hvr, hrT⟩ := id hr
  refine g_aload_n (pc' := 470) B 2 rfl rfl dL_law_469 rfl ?_
  refine g_aload_n (pc' := 471) B 3 rfl rfl dL_law_470 rfl ?_
  refine g_iload_n (pc' := 472) B 0 rfl rfl dL_law_471 rfl ?_
  refine g_iconst (pc' := 473) B dL_law_472 rfl ?_
  refine g_iadd (pc' := 474) B dL_law_473 rfl ?_
  refine g_sld (pc' := 475) B hS0 (by omega) dL_law_474 rfl ?_
  refine g_aload_n (pc' := 476) B 3 rfl rfl dL_law_475 rfl ?_
  refine g_iload_n (pc' := 477) B 0 rfl rfl dL_law_476 rfl ?_
  refine g_iconst (pc' := 478) B dL_law_477 rfl ?_
  refine g_iadd (pc' := 479) B dL_law_478 rfl ?_
  refine g_sld (pc' := 480) B hS0 (by omega) dL_law_479 rfl ?_
  refine g_callVI (pc' := 483) (As := [.int (iI (xv xs (i + 1))), .int (iI (xv xs (i + 2)))]) B (c_X11_slack l K _ (b := b) (D := D) (sl := sl) (h := xv xs (i + 1)) (v := xv xs (i + 2)) hb hcb hS hF hR hO hH hsl (xv_rng _ _) (xv_rng _ _)) vt_X11_slack tw_616 rfl rfl ⟨by decide, by decide⟩ rfl (Nat.le_of_ble_eq_true rfl) ⟨Nat.le_of_ble_eq_true rfl, Nat.le_of_ble_eq_true rfl⟩ rfl dL_law_480 rfl (fun z1 τ1 h1 => ?_)
  have e57 : ∀ k, 57 ≤ k → τ1 k = σ k := fun k hk => by rcases h1 with ⟨_, x, _⟩ | ⟨_, _, x, _⟩ | ⟨_, _, x, _⟩ <;> rw [x]; rw [up_row (by omega)]
  have hm1 := hm.k57 e57
  obtain ⟨hM1, hmn1, hmv1, hms1, hmE1, hmY1, hmB1, hmX1, hmf1, hmT1⟩ := id hm1
  refine g_aload_n (pc' := 484) B 1 rfl rfl dL_law_483 rfl ?_
  refine g_aload_n (pc' := 485) B 3 rfl rfl dL_law_484 rfl ?_
  refine g_iload_n (pc' := 486) B 0 rfl rfl dL_law_485 rfl ?_
  refine g_iconst (pc' := 487) B dL_law_486 rfl ?_
  refine g_iadd (pc' := 488) B dL_law_487 rfl ?_
  refine g_sld (pc' := 489) B hS0 (by omega) dL_law_488 rfl ?_
  refine g_aload_n (pc' := 490) B 3 rfl rfl dL_law_489 rfl ?_
  refine g_iload_n (pc' := 491) B 0 rfl rfl dL_law_490 rfl ?_
  refine g_iconst (pc' := 492) B dL_law_491 rfl ?_
  refine g_iadd (pc' := 493) B dL_law_492 rfl ?_
  refine g_sld (pc' := 494) B hS0 (by omega) dL_law_493 rfl ?_
  refine g_callVI (pc' := 497) (As := [.int (iI (xv xs (i + 1))), .int (iI (xv xs (i + 2)))]) B (c_X12_slack l K _ (D := D) (sl := sl) (h := xv xs (i + 1)) (v := xv xs (i + 2)) hM1 hF hR hO hH hms1 (xv_rng _ _) (xv_rng _ _)) vt_X12_slack tw_1188 rfl rfl ⟨by decide, by decide⟩ rfl (Nat.le_of_ble_eq_true rfl) ⟨Nat.le_of_ble_eq_true rfl, Nat.le_of_ble_eq_true rfl⟩ rfl dL_law_494 rfl (fun z2 τ2 h2 => ?_)
  have pw := pw_slack hc hm hr g0 g1 h1 h2
  exact g_same B 1197 (pw.1) dL_law_497 (by decide) (kk _ (pw.2))
set_option maxRecDepth 100000 in
set_option maxHeartbeats 4000000 in
theorem law_hear {p : Program} {l : Launch} {e : Env} {s : State} {m : MethodId} {below : List Frame} {meth : Method} {c : Code} {Q : State → Prop} {K : WK} {H0 : Heap} {a L0 : Nat} {xs : Nat → Int32} {σ : SG} {N : Nat} {i : Int} (B : CB p s m #[.ref a] c cL_law RL 4 K) (hS0 : SCR a L0 xs s H0 K) (hN : N ≤ 63) (hi : 0 ≤ i ∧ i + 5 ≤ L0) (hI : INV N σ) (kk : ∀ τ : SG, INV (N + 1) τ → LG p l e s m below meth c Q K H0 a i τ 1197 []) : LG p l e s m below meth c Q K H0 a i σ 795 [] := by
  obtain ⟨b, D, S, X, L, M, P, v, sl, E, Y, bn, wy, tx, n, f, T, U, hc, hm, hr, g0, g1⟩ := hI
  obtain ⟨⟨hb, hcb, hsp, hS⟩, hnw, hv, hsl, hE, hY, hB, hX, hf, hT⟩ := id hc
  obtain ⟨⟨hF, hR, hO, hH⟩, hSX, hbar, hvr, hrT⟩ := id hr
  refine g_aload_n (pc' := 796) B 2 rfl rfl dL_law_795 rfl ?_
  refine g_aload_n (pc' := 797) B 3 rfl rfl dL_law_796 rfl ?_
  refine g_iload_n (pc' := 798) B 0 rfl rfl dL_law_797 rfl ?_
  refine g_iconst (pc' := 799) B dL_law_798 rfl ?_
  refine g_iadd (pc' := 800) B dL_law_799 rfl ?_
  refine g_sld (pc' := 801) B hS0 (by omega) dL_law_800 rfl ?_
  refine g_aload_n (pc' := 802) B 3 rfl rfl dL_law_801 rfl ?_
  refine g_iload_n (pc' := 803) B 0 rfl rfl dL_law_802 rfl ?_
  refine g_iconst (pc' := 804) B dL_law_803 rfl ?_
  refine g_iadd (pc' := 805) B dL_law_804 rfl ?_
  refine g_sld (pc' := 806) B hS0 (by omega) dL_law_805 rfl ?_
  refine g_callVI (pc' := 809) (As := [.int (iI (xv xs (i + 1))), .int (iI (xv xs (i + 2)))]) B (c_X11_hear l K _ (b := b) (D := D) (E := E) (f := xv xs (i + 1)) (a := xv xs (i + 2)) hb hcb hS hF hR hO hH hE (xv_rng _ _) (xv_rng _ _)) vt_X11_hear tw_774 rfl rfl ⟨by decide, by decide⟩ rfl (Nat.le_of_ble_eq_true rfl) ⟨Nat.le_of_ble_eq_true rfl, Nat.le_of_ble_eq_true rfl⟩ rfl dL_law_806 rfl (fun z1 τ1 h1 => ?_)
  have e57 : ∀ k, 57 ≤ k → τ1 k = σ k := fun k hk => by rcases h1 with ⟨_, x, _⟩ | ⟨_, _, x, _⟩ | ⟨_, _, _, x, _⟩ | ⟨_, _, _, _, x, _⟩; rw [x]; rw [x]; rw [x]; exact x k (by omega)
  have hm1 := hm.k57 e57
  obtain ⟨hM1, hmn1, hmv1, hms1, hmE1, hmY1, hmB1, hmX1, hmf1, hmT1⟩ := id hm1
  refine g_aload_n (pc' := 810) B 1 rfl rfl dL_law_809 rfl ?_
  refine g_aload_n (pc' := 811) B 3 rfl rfl dL_law_810 rfl ?_
  refine g_iload_n (pc' := 812) B 0 rfl rfl dL_law_811 rfl ?_
  refine g_iconst (pc' := 813) B dL_law_812 rfl ?_
  refine g_iadd (pc' := 814) B dL_law_813 rfl ?_
  refine g_sld (pc' := 815) B hS0 (by omega) dL_law_814 rfl ?_
  refine g_aload_n (pc' := 816) B 3 rfl rfl dL_law_815 rfl ?_
  refine g_iload_n (pc' := 817) B 0 rfl rfl dL_law_816 rfl ?_
  refine g_iconst (pc' := 818) B dL_law_817 rfl ?_
  refine g_iadd (pc' := 819) B dL_law_818 rfl ?_
  refine g_sld (pc' := 820) B hS0 (by omega) dL_law_819 rfl ?_
  refine g_callVI (pc' := 823) (As := [.int (iI (xv xs (i + 1))), .int (iI (xv xs (i + 2)))]) B (c_X12_hear l K _ (D := D) (E := E) (f := xv xs (i + 1)) (a := xv xs (i + 2)) hM1 hF hR hO hH hmE1 (xv_rng _ _) (xv_rng _ _)) vt_X12_hear tw_1283 rfl rfl ⟨by decide, by decide⟩ rfl (Nat.le_of_ble_eq_true rfl) ⟨Nat.le_of_ble_eq_true rfl, Nat.le_of_ble_eq_true rfl⟩ rfl dL_law_820 rfl (fun z2 τ2 h2 => ?_)
  have pw := pw_hear hc hm hr g0 g1 h1 h2
  exact g_same B 1197 (pw.1) dL_law_823 (by decide) (kk _ (pw.2))
set_option maxRecDepth 100000 in
set_option maxHeartbeats 4000000 in
theorem law_see {p : Program} {l : Launch} {e : Env} {s : State} {m : MethodId} {below : List Frame} {meth : Method} {c : Code} {Q : State → Prop} {K : WK} {H0 : Heap} {a L0 : Nat} {xs : Nat → Int32} {σ : SG} {N : Nat} {i : Int} (B : CB p s m #[.ref a] c cL_law RL 4 K) (hS0 : SCR a L0 xs s H0 K) (hN : N ≤ 63) (hi : 0 ≤ i ∧ i + 5 ≤ L0) (hI : INV N σ) (kk : ∀ τ : SG, INV (N + 1) τ → LG p l e s m below meth c Q K H0 a i τ 1197 []) : LG p l e s m below meth c Q K H0 a i σ 864 [] := by
  obtain ⟨b, D, S, X, L, M, P, v, sl, E, Y, bn, wy, tx, n, f, T, U, hc, hm, hr, g0, g1⟩ := hI
  obtain ⟨⟨hb, hcb, hsp, hS⟩, hnw, hv, hsl, hE, hY, hB, hX, hf, hT⟩ := id hc
  obtain ⟨⟨hF, hR, hO, hH⟩, hSX, hbar, hvr, hrT⟩ := id hr
  refine g_aload_n (pc' := 865) B 2 rfl rfl dL_law_864 rfl ?_
  refine g_aload_n (pc' := 866) B 3 rfl rfl dL_law_865 rfl ?_
  refine g_iload_n (pc' := 867) B 0 rfl rfl dL_law_866 rfl ?_
  refine g_iconst (pc' := 868) B dL_law_867 rfl ?_
  refine g_iadd (pc' := 869) B dL_law_868 rfl ?_
  refine g_sld (pc' := 870) B hS0 (by omega) dL_law_869 rfl ?_
  refine g_aload_n (pc' := 871) B 3 rfl rfl dL_law_870 rfl ?_
  refine g_iload_n (pc' := 872) B 0 rfl rfl dL_law_871 rfl ?_
  refine g_iconst (pc' := 873) B dL_law_872 rfl ?_
  refine g_iadd (pc' := 874) B dL_law_873 rfl ?_
  refine g_sld (pc' := 875) B hS0 (by omega) dL_law_874 rfl ?_
  refine g_aload_n (pc' := 876) B 3 rfl rfl dL_law_875 rfl ?_
  refine g_iload_n (pc' := 877) B 0 rfl rfl dL_law_876 rfl ?_
  refine g_iconst (pc' := 878) B dL_law_877 rfl ?_
  refine g_iadd (pc' := 879) B dL_law_878 rfl ?_
  refine g_sld (pc' := 880) B hS0 (by omega) dL_law_879 rfl ?_
  refine g_callVI (pc' := 883) (As := [.int (iI (xv xs (i + 1))), .int (iI (xv xs (i + 2))), .int (iI (xv xs (i + 3)))]) B (c_X11_see l K _ (b := b) (D := D) (Y := Y) (f := xv xs (i + 1)) (x := xv xs (i + 2)) (v := xv xs (i + 3)) hb hcb hS hF hR hO hH hY (xv_rng _ _) (xv_rng _ _) (xv_rng _ _)) vt_X11_see tw_808 rfl rfl ⟨by decide, by decide⟩ rfl (Nat.le_of_ble_eq_true rfl) ⟨Nat.le_of_ble_eq_true rfl, Nat.le_of_ble_eq_true rfl⟩ rfl dL_law_880 rfl (fun z1 τ1 h1 => ?_)
  have e57 : ∀ k, 57 ≤ k → τ1 k = σ k := fun k hk => by rcases h1 with ⟨_, x, _⟩ | ⟨_, _, x, _⟩ | ⟨_, _, _, x, _⟩ | ⟨_, _, _, _, x, _⟩; rw [x]; rw [x]; rw [x]; exact x k (by omega)
  have hm1 := hm.k57 e57
  obtain ⟨hM1, hmn1, hmv1, hms1, hmE1, hmY1, hmB1, hmX1, hmf1, hmT1⟩ := id hm1
  refine g_aload_n (pc' := 884) B 1 rfl rfl dL_law_883 rfl ?_
  refine g_aload_n (pc' := 885) B 3 rfl rfl dL_law_884 rfl ?_
  refine g_iload_n (pc' := 886) B 0 rfl rfl dL_law_885 rfl ?_
  refine g_iconst (pc' := 887) B dL_law_886 rfl ?_
  refine g_iadd (pc' := 888) B dL_law_887 rfl ?_
  refine g_sld (pc' := 889) B hS0 (by omega) dL_law_888 rfl ?_
  refine g_aload_n (pc' := 890) B 3 rfl rfl dL_law_889 rfl ?_
  refine g_iload_n (pc' := 891) B 0 rfl rfl dL_law_890 rfl ?_
  refine g_iconst (pc' := 892) B dL_law_891 rfl ?_
  refine g_iadd (pc' := 893) B dL_law_892 rfl ?_
  refine g_sld (pc' := 894) B hS0 (by omega) dL_law_893 rfl ?_
  refine g_aload_n (pc' := 895) B 3 rfl rfl dL_law_894 rfl ?_
  refine g_iload_n (pc' := 896) B 0 rfl rfl dL_law_895 rfl ?_
  refine g_iconst (pc' := 897) B dL_law_896 rfl ?_
  refine g_iadd (pc' := 898) B dL_law_897 rfl ?_
  refine g_sld (pc' := 899) B hS0 (by omega) dL_law_898 rfl ?_
  refine g_callVI (pc' := 902) (As := [.int (iI (xv xs (i + 1))), .int (iI (xv xs (i + 2))), .int (iI (xv xs (i + 3)))]) B (c_X12_see l K _ (D := D) (Y := Y) (f := xv xs (i + 1)) (x := xv xs (i + 2)) (v := xv xs (i + 3)) hM1 hF hR hO hH hmY1 (xv_rng _ _) (xv_rng _ _) (xv_rng _ _)) vt_X12_see tw_1304 rfl rfl ⟨by decide, by decide⟩ rfl (Nat.le_of_ble_eq_true rfl) ⟨Nat.le_of_ble_eq_true rfl, Nat.le_of_ble_eq_true rfl⟩ rfl dL_law_899 rfl (fun z2 τ2 h2 => ?_)
  have pw := pw_see hc hm hr g0 g1 h1 h2
  exact g_same B 1197 (pw.1) dL_law_902 (by decide) (kk _ (pw.2))
set_option maxRecDepth 100000 in
set_option maxHeartbeats 4000000 in
theorem law_write {p : Program} {l : Launch} {e : Env} {s : State} {m : MethodId} {below : List Frame} {meth : Method} {c : Code} {Q : State → Prop} {K : WK} {H0 : Heap} {a L0 : Nat} {xs : Nat → Int32} {σ : SG} {N : Nat} {i : Int} (B : CB p s m #[.ref a] c cL_law RL 4 K) (hS0 : SCR a L0 xs s H0 K) (hN : N ≤ 63) (hi : 0 ≤ i ∧ i + 5 ≤ L0) (hI : INV N σ) (kk : ∀ τ : SG, INV (N + 1) τ → LG p l e s m below meth c Q K H0 a i τ 1197 []) : LG p l e s m below meth c Q K H0 a i σ 1069 [] := by
  obtain ⟨b, D, S, X, L, M, P, v, sl, E, Y, bn, wy, tx, n, f, T, U, hc, hm, hr, g0, g1⟩ := hI
  obtain ⟨⟨hb, hcb, hsp, hS⟩, hnw, hv, hsl, hE, hY, hB, hX, hf, hT⟩ := id hc
  obtain ⟨⟨hF, hR, hO, hH⟩, hSX, hbar, hvr, hrT⟩ := id hr
  refine g_aload_n (pc' := 1070) B 2 rfl rfl dL_law_1069 rfl ?_
  refine g_aload_n (pc' := 1071) B 3 rfl rfl dL_law_1070 rfl ?_
  refine g_iload_n (pc' := 1072) B 0 rfl rfl dL_law_1071 rfl ?_
  refine g_iconst (pc' := 1073) B dL_law_1072 rfl ?_
  refine g_iadd (pc' := 1074) B dL_law_1073 rfl ?_
  refine g_sld (pc' := 1075) B hS0 (by omega) dL_law_1074 rfl ?_
  refine g_callVI (pc' := 1078) (As := [.int (iI (xv xs (i + 1)))]) B (c_X11_write l K _ (bn := bn) (wy := wy) (w := xv xs (i + 1)) hB (xv_rng _ _)) vt_X11_write tw_872 rfl rfl ⟨by decide, by decide⟩ rfl (Nat.le_of_ble_eq_true rfl) ⟨Nat.le_of_ble_eq_true rfl, Nat.le_of_ble_eq_true rfl⟩ rfl dL_law_1075 rfl (fun z1 τ1 h1 => ?_)
  have e57 : ∀ k, 57 ≤ k → τ1 k = σ k := fun k hk => by rcases h1 with ⟨_, x, _⟩ | ⟨_, _, x, _⟩ | ⟨_, _, x, _⟩ <;> rw [x]; rw [up_row (by omega), up_row (by omega)]
  have hm1 := hm.k57 e57
  obtain ⟨hM1, hmn1, hmv1, hms1, hmE1, hmY1, hmB1, hmX1, hmf1, hmT1⟩ := id hm1
  refine g_aload_n (pc' := 1079) B 1 rfl rfl dL_law_1078 rfl ?_
  refine g_aload_n (pc' := 1080) B 3 rfl rfl dL_law_1079 rfl ?_
  refine g_iload_n (pc' := 1081) B 0 rfl rfl dL_law_1080 rfl ?_
  refine g_iconst (pc' := 1082) B dL_law_1081 rfl ?_
  refine g_iadd (pc' := 1083) B dL_law_1082 rfl ?_
  refine g_sld (pc' := 1084) B hS0 (by omega) dL_law_1083 rfl ?_
  refine g_callVI (pc' := 1087) (As := [.int (iI (xv xs (i + 1)))]) B (c_X12_write l K _ (bn := bn) (wy := wy) (w := xv xs (i + 1)) hmB1 (xv_rng _ _)) vt_X12_write tw_1339 rfl rfl ⟨by decide, by decide⟩ rfl (Nat.le_of_ble_eq_true rfl) ⟨Nat.le_of_ble_eq_true rfl, Nat.le_of_ble_eq_true rfl⟩ rfl dL_law_1084 rfl (fun z2 τ2 h2 => ?_)
  have pw := pw_write hc hm hr g0 g1 h1 h2
  exact g_same B 1197 (pw.1) dL_law_1087 (by decide) (kk _ (pw.2))
set_option maxRecDepth 100000 in
set_option maxHeartbeats 4000000 in
theorem law_tear {p : Program} {l : Launch} {e : Env} {s : State} {m : MethodId} {below : List Frame} {meth : Method} {c : Code} {Q : State → Prop} {K : WK} {H0 : Heap} {a L0 : Nat} {xs : Nat → Int32} {σ : SG} {N : Nat} {i : Int} (B : CB p s m #[.ref a] c cL_law RL 4 K) (hS0 : SCR a L0 xs s H0 K) (hN : N ≤ 63) (hi : 0 ≤ i ∧ i + 5 ≤ L0) (hI : INV N σ) (kk : ∀ τ : SG, INV (N + 1) τ → LG p l e s m below meth c Q K H0 a i τ 1197 []) : LG p l e s m below meth c Q K H0 a i σ 1115 [] := by
  obtain ⟨b, D, S, X, L, M, P, v, sl, E, Y, bn, wy, tx, n, f, T, U, hc, hm, hr, g0, g1⟩ := hI
  obtain ⟨⟨hb, hcb, hsp, hS⟩, hnw, hv, hsl, hE, hY, hB, hX, hf, hT⟩ := id hc
  obtain ⟨⟨hF, hR, hO, hH⟩, hSX, hbar, hvr, hrT⟩ := id hr
  refine g_aload_n (pc' := 1116) B 2 rfl rfl dL_law_1115 rfl ?_
  refine g_callVI (pc' := 1119) (As := []) B (c_X11_tear l K _  ) vt_X11_tear tw_894 rfl rfl ⟨by decide, by decide⟩ rfl (Nat.le_of_ble_eq_true rfl) ⟨Nat.le_of_ble_eq_true rfl, Nat.le_of_ble_eq_true rfl⟩ rfl dL_law_1116 rfl (fun z1 τ1 h1 => ?_)
  have e57 : ∀ k, 57 ≤ k → τ1 k = σ k := fun k hk => by rw [h1.1, up_row (by omega), up_row (by omega), up_row (by omega)]
  have hm1 := hm.k57 e57
  obtain ⟨hM1, hmn1, hmv1, hms1, hmE1, hmY1, hmB1, hmX1, hmf1, hmT1⟩ := id hm1
  refine g_aload_n (pc' := 1120) B 1 rfl rfl dL_law_1119 rfl ?_
  refine g_callVI (pc' := 1123) (As := []) B (c_X12_tear l K _  ) vt_X12_tear tw_1347 rfl rfl ⟨by decide, by decide⟩ rfl (Nat.le_of_ble_eq_true rfl) ⟨Nat.le_of_ble_eq_true rfl, Nat.le_of_ble_eq_true rfl⟩ rfl dL_law_1120 rfl (fun z2 τ2 h2 => ?_)
  have pw := pw_tear hc hm hr g0 g1 h1 h2
  exact g_same B 1197 (pw.1) dL_law_1123 (by decide) (kk _ (pw.2))
set_option maxRecDepth 100000 in
set_option maxHeartbeats 4000000 in
theorem law_seed {p : Program} {l : Launch} {e : Env} {s : State} {m : MethodId} {below : List Frame} {meth : Method} {c : Code} {Q : State → Prop} {K : WK} {H0 : Heap} {a L0 : Nat} {xs : Nat → Int32} {σ : SG} {N : Nat} {i : Int} (B : CB p s m #[.ref a] c cL_law RL 4 K) (hS0 : SCR a L0 xs s H0 K) (hN : N ≤ 63) (hi : 0 ≤ i ∧ i + 5 ≤ L0) (hI : INV N σ) (kk : ∀ τ : SG, INV (N + 1) τ → LG p l e s m below meth c Q K H0 a i τ 1197 []) : LG p l e s m below meth c Q K H0 a i σ 1128 [] := by
  obtain ⟨b, D, S, X, L, M, P, v, sl, E, Y, bn, wy, tx, n, f, T, U, hc, hm, hr, g0, g1⟩ := hI
  obtain ⟨⟨hb, hcb, hsp, hS⟩, hnw, hv, hsl, hE, hY, hB, hX, hf, hT⟩ := id hc
  obtain ⟨⟨hF, hR, hO, hH⟩, hSX, hbar, hvr, hrT⟩ := id hr
  refine g_aload_n (pc' := 1129) B 2 rfl rfl dL_law_1128 rfl ?_
  refine g_aload_n (pc' := 1130) B 3 rfl rfl dL_law_1129 rfl ?_
  refine g_iload_n (pc' := 1131) B 0 rfl rfl dL_law_1130 rfl ?_
  refine g_iconst (pc' := 1132) B dL_law_1131 rfl ?_
  refine g_iadd (pc' := 1133) B dL_law_1132 rfl ?_
  refine g_sld (pc' := 1134) B hS0 (by omega) dL_law_1133 rfl ?_
  refine g_callVI (pc' := 1137) (As := [.int (iI (xv xs (i + 1)))]) B (c_X11_seed l K _ (v := xv xs (i + 1)) (xv_rng _ _)) vt_X11_seed tw_898 rfl rfl ⟨by decide, by decide⟩ rfl (Nat.le_of_ble_eq_true rfl) ⟨Nat.le_of_ble_eq_true rfl, Nat.le_of_ble_eq_true rfl⟩ rfl dL_law_1134 rfl (fun z1 τ1 h1 => ?_)
  have e57 : ∀ k, 57 ≤ k → τ1 k = σ k := fun k hk => by rcases h1 with ⟨_, x, _⟩ | ⟨_, x, _⟩ <;> rw [x]; rw [up_row (by omega)]
  have hm1 := hm.k57 e57
  obtain ⟨hM1, hmn1, hmv1, hms1, hmE1, hmY1, hmB1, hmX1, hmf1, hmT1⟩ := id hm1
  refine g_aload_n (pc' := 1138) B 1 rfl rfl dL_law_1137 rfl ?_
  refine g_aload_n (pc' := 1139) B 3 rfl rfl dL_law_1138 rfl ?_
  refine g_iload_n (pc' := 1140) B 0 rfl rfl dL_law_1139 rfl ?_
  refine g_iconst (pc' := 1141) B dL_law_1140 rfl ?_
  refine g_iadd (pc' := 1142) B dL_law_1141 rfl ?_
  refine g_sld (pc' := 1143) B hS0 (by omega) dL_law_1142 rfl ?_
  refine g_callVI (pc' := 1146) (As := [.int (iI (xv xs (i + 1)))]) B (c_X12_seed l K _ (v := xv xs (i + 1)) (xv_rng _ _)) vt_X12_seed tw_1351 rfl rfl ⟨by decide, by decide⟩ rfl (Nat.le_of_ble_eq_true rfl) ⟨Nat.le_of_ble_eq_true rfl, Nat.le_of_ble_eq_true rfl⟩ rfl dL_law_1143 rfl (fun z2 τ2 h2 => ?_)
  have pw := pw_seed (xv_rng _ _) hc hm hr g0 g1 h1 h2
  exact g_same B 1197 (pw.1) dL_law_1146 (by decide) (kk _ (pw.2))
