theorem hE_0 : hE 0 = 1 := rfl
theorem hE_1 : hE 1 = 0 := rfl
def mkQ (T : SG) (S X L P v : Int) : SG := fun k j => if k = 5 then (if j = 0 then S else if j = 1 then X else if j = 2 then L else if j = 3 then P else v) else T k j
theorem mkQ_row (T : SG) (S X L P v : Int) {k : Nat} (h : k ≠ 5) : mkQ T S X L P v k = T k := by funext j; exact if_neg h
theorem mkQ_5 (T : SG) (S X L P v : Int) : mkQ T S X L P v 5 0 = S ∧ mkQ T S X L P v 5 1 = X ∧ mkQ T S X L P v 5 2 = L ∧ mkQ T S X L P v 5 3 = P ∧ mkQ T S X L P v 5 4 = v := ⟨rfl, rfl, rfl, rfl, rfl⟩
theorem rT_drift {N : Nat} {D : SG} : ∀ (m : Nat) (Q : SG), rT N D Q Q → (0 ≤ Q 4 0 ∧ Q 4 0 ≤ 40) → dB D Q → Q 5 0 + m ≤ 999 * N + 1 → rT N D (dfI D Q m) (dfI D Q m) ∧ (0 ≤ dfI D Q m 4 0 ∧ dfI D Q m 4 0 ≤ 40) ∧ dB D (dfI D Q m) ∧ dfI D Q m 5 0 = Q 5 0 + m
  | 0, Q, h, h0, hb, _ => ⟨h, h0, hb, by show Q 5 0 = _; omega⟩
  | m + 1, Q, h, h0, hb, hm => by
    obtain ⟨i1, i2, i3, i4⟩ := rT_drift m Q h h0 hb (by omega)
    have e : ∀ k, k ≠ 5 → dfN D (dfI D Q m) k = tP (dfI D Q m) (dfI D Q m 5 0) (dfI D Q m 5 1) (dfI D Q m 5 2) (dfI D Q m 5 3) k := fun k hk => by funext j; exact if_neg hk
    have hp := rT_push (N := N) (D := D) (s := dfI D Q m 5 0) (x := dfI D Q m 5 1) (l := dfI D Q m 5 2) (q := dfI D Q m 5 3) (m := dfI D Q m 5 2) i1 i2 ⟨rfl, rfl, Or.inr ⟨rfl, i3.2.1⟩, rfl, i3.1.1, i3.1.2, by omega⟩
    refine ⟨?_, ?_, dB_next i3, ?_⟩
    · show rT N D (dfN D (dfI D Q m)) (dfN D (dfI D Q m))
      unfold rT at *
      rw [e 4 (by decide), e 0 (by decide), e 1 (by decide), e 2 (by decide), e 3 (by decide)]
      exact hp
    · show 0 ≤ dfN D (dfI D Q m) 4 0 ∧ dfN D (dfI D Q m) 4 0 ≤ 40
      rw [e 4 (by decide), tP_n]; omega
    · show dfI D Q m 5 0 + 1 = _; omega
theorem mD_bd {σ τ D : SG} (h : mD σ D) (hF : okF D) (hO : okQ D) (hH : okH D) (e5 : τ 57 5 = σ 57 5) (e6 : τ 57 6 = σ 57 6) (e7 : τ 57 7 = σ 57 7) (e9 : τ 57 19 = σ 57 19) (a : ∀ j : Int, j < 32 → τ 60 j = σ 60 j) (b : ∀ j : Int, j < 8 → τ 61 j = σ 61 j) (c : ∀ j : Int, j < 16 → τ 62 j = σ 62 j) : mD τ D := by
  obtain ⟨h1, h2, h3, h4, h5, h6, h7⟩ := h
  have f0 := hF.1
  have o0 := hO.1
  have k0 := hH.1
  refine ⟨by rw [e5]; exact h1, by rw [e6]; exact h2, by rw [e7]; exact h3, by rw [e9]; exact h4, fun f x y => ?_, fun f x y => ?_, fun f x y => ?_⟩
  · rw [a _ (by omega), a _ (by omega), a _ (by omega), a _ (by omega)]; exact h5 f x y
  · rw [b _ (by omega)]; exact h6 f x y
  · rw [c _ (by omega), c _ (by omega), c _ (by omega), c _ (by omega)]; exact h7 f x y
theorem rT_pop2 {N : Nat} {D T U : SG} {w : Int} (h : rT N D T U) (hw : 0 ≤ w) : rT N D (up T 4 0 (T 4 0 - w)) (up U 4 0 (T 4 0 - w)) := by
  have q := rT_pop h hw
  rw [← h.1] at q
  exact q
set_option maxHeartbeats 4000000 in
theorem pw_pass {N : Nat} {σ τ1 τ2 : SG} {b : Nat} {D : SG} {S X L M P v : Int} {sl : Int → Int} {E Y : SG} {bn : Int} {wy tx : Int → Int} {n f : Int} {T U : SG} {z1 z2 : Int} {w ee : Int} (he : ee = 0 ∨ ee = 1) (hc : cI σ b D S X L P v sl E Y bn wy tx n f T) (hm : mI σ D S X M P v sl E Y bn wy tx n f U) (hr : rI N D S X L M v T U) (g0 : img σ D N 37 0) (g1 : img σ D N 40 1) (h1 : ((w < 1 ∨ 999 < w) ∧ τ1 = σ ∧ z1 = -1000000002) ∨ (¬ (w < 1 ∨ 999 < w) ∧ tD τ1 (tNg T (en0 S X L P ee) w.toNat) ∧ (τ1 31 0 = S + w ∧ τ1 31 1 = X + w * ee ∧ τ1 31 2 = L ∧ τ1 31 3 = P) ∧ (∀ k, (k < 31 ∨ 36 < k) → τ1 k = σ k) ∧ z1 = X + w * ee)) (h2 : ((w < 1 ∨ 999 < w) ∧ τ2 = τ1 ∧ z2 = -1000000002) ∨ (¬ (w < 1 ∨ 999 < w) ∧ mtD τ2 (tNg U (en0 S X M P ee) w.toNat) ∧ (τ2 58 0 = S + w ∧ τ2 58 1 = X + w * ee) ∧ (∀ j : Int, j ≠ 0 → j ≠ 1 → τ2 58 j = τ1 58 j) ∧ (∀ j : Int, j ≠ 21 → τ2 57 j = τ1 57 j) ∧ (∀ k, k ≠ 57 → k ≠ 58 → k ≠ 64 → τ2 k = τ1 k) ∧ z2 = X + w * ee)) : z1 = z2 ∧ INV (N + 1) τ2 := by
  obtain ⟨hst, hnw, hv, hsl, hE, hY, hB, hX, hf, hT⟩ := id hc
  obtain ⟨hM, hmn, hmv, hms, hmE, hmY, hmB, hmX, hmf, hmT⟩ := id hm
  obtain ⟨⟨hF, hR, hO, hH⟩, hSX, hbar, hvr, hrT⟩ := id hr
  have hb := hst.1
  have hH0 := hH.1
  rcases h1 with ⟨x1, rfl, y1⟩ | ⟨x1, w2, w3, w4, y1⟩
  · rcases h2 with ⟨x2, rfl, y2⟩ | ⟨x2, v2, v3, v4, v5, v6, y2⟩
    · exact ⟨y1.trans y2.symm, inv_same hc hm hr g0 g1⟩
    · exact absurd x1 x2
  · rcases h2 with ⟨x2, rfl, y2⟩ | ⟨x2, v2, v3, v4, v5, v6, y2⟩
    · exact absurd x2 x1
    · refine ⟨y1.trans y2.symm, ?_⟩
      have hb2 : 0 ≤ X + w * ee ∧ X + w * ee ≤ S + w ∧ S + w ≤ 999 * ((N + 1 : Nat) : Int) := by rcases he with rfl | rfl; (rw [Int.mul_zero]; omega); (rw [Int.mul_one]; omega)
      have r : ∀ k, (k < 31 ∨ 36 < k) → k ≠ 57 → k ≠ 58 → k ≠ 64 → τ2 k = σ k := fun k a1 a2 a3 a4 => (v6 k a2 a3 a4).trans (w4 k a1)
      have s57 : ∀ j : Int, j ≠ 21 → τ2 57 j = σ 57 j := fun j a => (v5 j a).trans (congrFun (w4 57 (by omega)) j)
      have s58 : ∀ j : Int, j ≠ 0 → j ≠ 1 → τ2 58 j = σ 58 j := fun j a a2 => (v4 j a a2).trans (congrFun (w4 58 (by omega)) j)
      exact ⟨b, D, S + w, X + w * ee, L, M, P, v, sl, E, Y, bn, wy, tx, n, f, (tNg T (en0 S X L P ee) w.toNat), (tNg U (en0 S X M P ee) w.toNat), ⟨(hst.keep (congrFun (r 0 (by omega) (by omega) (by omega) (by omega)) _) (congrFun (r 0 (by omega) (by omega) (by omega) (by omega)) _) (fun k q1 q2 q3 => r k (by omega) (by omega) (by omega) (by omega))), (nwD.keep (S := S + w) (X := X + w * ee) (L := L) (P := P) w3 (v6 31 (by decide) (by decide) (by decide))), ((congrFun (r 0 (by omega) (by omega) (by omega) (by omega)) _).trans hv), (hsl.keep (r (b + 13) (by omega) (by omega) (by omega) (by omega))), (hE.keep2 (congrFun (r 45 (by omega) (by omega) (by omega) (by omega)) _) (r 46 (by omega) (by omega) (by omega) (by omega)) (r 47 (by omega) (by omega) (by omega) (by omega))), (hY.keep2 (congrFun (r 50 (by omega) (by omega) (by omega) (by omega)) _) (r 51 (by omega) (by omega) (by omega) (by omega)) (r 52 (by omega) (by omega) (by omega) (by omega)) (r 53 (by omega) (by omega) (by omega) (by omega))), (hB.keep (congrFun (r 54 (by omega) (by omega) (by omega) (by omega)) _) (r 55 (by omega) (by omega) (by omega) (by omega))), (hX.keep (congrFun (r 1 (by omega) (by omega) (by omega) (by omega)) _) (r 2 (by omega) (by omega) (by omega) (by omega))), ((congrFun (r 0 (by omega) (by omega) (by omega) (by omega)) _).trans hf), (w2.keep2 (fun k q1 q2 => v6 k (by omega) (by omega) (by omega)))⟩, ⟨(hM.keep (s57 5 (by omega)) (s57 6 (by omega)) (s57 7 (by omega)) (s57 19 (by omega)) (fun k q1 q2 => r k (by omega) (by omega) (by omega) (by omega))), ⟨v3.1, v3.2, (s58 2 (by decide) (by decide)).trans hmn.2.2.1, (s58 3 (by decide) (by decide)).trans hmn.2.2.2⟩, ((s58 8 (by omega) (by omega)).trans hmv), (hms.keep hH (fun j q1 q2 => (s58 j (by omega) (by omega)))), (hmE.keep (s57 25 (by omega)) (r 66 (by omega) (by omega) (by omega) (by omega)) (r 67 (by omega) (by omega) (by omega) (by omega))), (hmY.keep (s57 30 (by omega)) (r 69 (by omega) (by omega) (by omega) (by omega)) (r 70 (by omega) (by omega) (by omega) (by omega)) (r 71 (by omega) (by omega) (by omega) (by omega))), (hmB.keep (s57 33 (by omega)) (r 73 (by omega) (by omega) (by omega) (by omega))), (hmX.keep (s57 14 (by omega)) (r 63 (by omega) (by omega) (by omega) (by omega))), ((s57 18 (by omega)).trans hmf), v2⟩, ⟨hr.1, hb2, hbar, hvr, rT_steps (hrT.mono (show N ≤ N + 1 by omega)) hT.2.2.1 hbar he ⟨hSX.1, hSX.2.1⟩ w.toNat (by omega)⟩, (g0.keep hH (by omega) (by omega) (r 37 (by omega) (by omega) (by omega) (by omega)) (r 38 (by omega) (by omega) (by omega) (by omega)) (r 39 (by omega) (by omega) (by omega) (by omega)) (congrFun (r 59 (by omega) (by omega) (by omega) (by omega)) _) (fun j q1 => (s58 j (by omega) (by omega)))), (g1.keep hH (by omega) (by omega) (r 40 (by omega) (by omega) (by omega) (by omega)) (r 41 (by omega) (by omega) (by omega) (by omega)) (r 42 (by omega) (by omega) (by omega) (by omega)) (congrFun (r 59 (by omega) (by omega) (by omega) (by omega)) _) (fun j q1 => (s58 j (by omega) (by omega))))⟩
set_option maxHeartbeats 4000000 in
theorem pw_roll {N : Nat} {σ τ1 τ2 : SG} {b : Nat} {D : SG} {S X L M P v : Int} {sl : Int → Int} {E Y : SG} {bn : Int} {wy tx : Int → Int} {n f : Int} {T U : SG} {z1 z2 : Int} {w : Int} (hc : cI σ b D S X L P v sl E Y bn wy tx n f T) (hm : mI σ D S X M P v sl E Y bn wy tx n f U) (hr : rI N D S X L M v T U) (g0 : img σ D N 37 0) (g1 : img σ D N 40 1) (h1 : ((w < 0 ∨ 2 < w) ∧ τ1 = σ ∧ z1 = -1000000002) ∨ (¬ (w < 0 ∨ 2 < w) ∧ ¬ can D L (S + 1) w ∧ τ1 = σ ∧ z1 = -1000000003) ∨ (¬ (w < 0 ∨ 2 < w) ∧ can D L (S + 1) w ∧ tD τ1 (tP T S X L P) ∧ (τ1 31 0 = S + 1 ∧ τ1 31 1 = X + 1 ∧ τ1 31 2 = bes L w ∧ τ1 31 3 = P + max 0 (hgt D (bes L w) (X + 1) - hgt D L (X + 1))) ∧ (∀ k, (k < 31 ∨ 36 < k) → τ1 k = σ k) ∧ z1 = max 0 (hgt D (bes L w) (X + 1) - hgt D L (X + 1)))) (h2 : ((w < 0 ∨ 2 < w) ∧ τ2 = τ1 ∧ z2 = -1000000002) ∨ (¬ (w < 0 ∨ 2 < w) ∧ (D 9 0 = 0 ∨ ¬ can D M (S + 1) w) ∧ τ2 = τ1 ∧ z2 = -1000000003) ∨ (¬ (w < 0 ∨ 2 < w) ∧ D 9 0 ≠ 0 ∧ can D M (S + 1) w ∧ mtD τ2 (tP U S X M P) ∧ (τ2 58 0 = S + 1 ∧ τ2 58 1 = X + 1 ∧ τ2 58 2 = bes M w ∧ τ2 58 3 = P + max 0 (hgt D (bes M w) (X + 1) - hgt D M (X + 1))) ∧ (∀ j : Int, 4 ≤ j → τ2 58 j = τ1 58 j) ∧ (∀ j : Int, j ≠ 21 → τ2 57 j = τ1 57 j) ∧ (∀ k, k ≠ 57 → k ≠ 58 → k ≠ 64 → τ2 k = τ1 k) ∧ z2 = max 0 (hgt D (bes M w) (X + 1) - hgt D M (X + 1)))) : z1 = z2 ∧ INV (N + 1) τ2 := by
  obtain ⟨hst, hnw, hv, hsl, hE, hY, hB, hX, hf, hT⟩ := id hc
  obtain ⟨hM, hmn, hmv, hms, hmE, hmY, hmB, hmX, hmf, hmT⟩ := id hm
  obtain ⟨⟨hF, hR, hO, hH⟩, hSX, hbar, hvr, hrT⟩ := id hr
  have hb := hst.1
  have hH0 := hH.1
  have hLM : can D L (S + 1) w → L = M ∧ D 9 0 ≠ 0 := fun q => by have q1 := q.1; rcases hbar with ⟨a, c⟩ | ⟨a, c, d⟩; omega; omega
  have hML : D 9 0 ≠ 0 → L = M := fun q => (bar_ne hbar q).1
  rcases h1 with ⟨x1, rfl, y1⟩ | ⟨x1, w1, rfl, y1⟩ | ⟨x1, hcn, w2, w3, w4, y1⟩
  · rcases h2 with ⟨x2, rfl, y2⟩ | ⟨x2, u1, rfl, y2⟩ | ⟨x2, u0, u1, v2, v3, v4, v5, v6, y2⟩
    · exact ⟨y1.trans y2.symm, inv_same hc hm hr g0 g1⟩
    · exact absurd x1 x2
    · exact absurd x1 x2
  · rcases h2 with ⟨x2, rfl, y2⟩ | ⟨x2, u1, rfl, y2⟩ | ⟨x2, u0, u1, v2, v3, v4, v5, v6, y2⟩
    · exact absurd x2 x1
    · exact ⟨y1.trans y2.symm, inv_same hc hm hr g0 g1⟩
    · exact absurd (by rw [hML u0]; exact u1) w1
  · obtain ⟨e9, e0⟩ := hLM hcn
    subst e9
    rcases h2 with ⟨x2, rfl, y2⟩ | ⟨x2, u1, rfl, y2⟩ | ⟨x2, u0, u1, v2, v3, v4, v5, v6, y2⟩
    · exact absurd x2 x1
    · rcases u1 with u1 | u1; exact absurd u1 e0; exact absurd hcn u1
    · refine ⟨y1.trans y2.symm, ?_⟩
      have r : ∀ k, (k < 31 ∨ 36 < k) → k ≠ 57 → k ≠ 58 → k ≠ 64 → τ2 k = σ k := fun k a1 a2 a3 a4 => (v6 k a2 a3 a4).trans (w4 k a1)
      have s57 : ∀ j : Int, j ≠ 21 → τ2 57 j = σ 57 j := fun j a => (v5 j a).trans (congrFun (w4 57 (by omega)) j)
      have s58 : ∀ j : Int, 4 ≤ j → τ2 58 j = σ 58 j := fun j a => (v4 j a).trans (congrFun (w4 58 (by omega)) j)
      exact ⟨b, D, S + 1, X + 1, bes L w, bes L w, P + max 0 (hgt D (bes L w) (X + 1) - hgt D L (X + 1)), v, sl, E, Y, bn, wy, tx, n, f, (tP T S X L P), (tP U S X L P), ⟨(hst.keep (congrFun (r 0 (by omega) (by omega) (by omega) (by omega)) _) (congrFun (r 0 (by omega) (by omega) (by omega) (by omega)) _) (fun k q1 q2 q3 => r k (by omega) (by omega) (by omega) (by omega))), (nwD.keep (S := S + 1) (X := X + 1) (L := bes L w) (P := P + max 0 (hgt D (bes L w) (X + 1) - hgt D L (X + 1))) w3 (v6 31 (by decide) (by decide) (by decide))), ((congrFun (r 0 (by omega) (by omega) (by omega) (by omega)) _).trans hv), (hsl.keep (r (b + 13) (by omega) (by omega) (by omega) (by omega))), (hE.keep2 (congrFun (r 45 (by omega) (by omega) (by omega) (by omega)) _) (r 46 (by omega) (by omega) (by omega) (by omega)) (r 47 (by omega) (by omega) (by omega) (by omega))), (hY.keep2 (congrFun (r 50 (by omega) (by omega) (by omega) (by omega)) _) (r 51 (by omega) (by omega) (by omega) (by omega)) (r 52 (by omega) (by omega) (by omega) (by omega)) (r 53 (by omega) (by omega) (by omega) (by omega))), (hB.keep (congrFun (r 54 (by omega) (by omega) (by omega) (by omega)) _) (r 55 (by omega) (by omega) (by omega) (by omega))), (hX.keep (congrFun (r 1 (by omega) (by omega) (by omega) (by omega)) _) (r 2 (by omega) (by omega) (by omega) (by omega))), ((congrFun (r 0 (by omega) (by omega) (by omega) (by omega)) _).trans hf), (w2.keep2 (fun k q1 q2 => v6 k (by omega) (by omega) (by omega)))⟩, ⟨(hM.keep (s57 5 (by omega)) (s57 6 (by omega)) (s57 7 (by omega)) (s57 19 (by omega)) (fun k q1 q2 => r k (by omega) (by omega) (by omega) (by omega))), v3, ((s58 8 (by omega)).trans hmv), (hms.keep hH (fun j q1 q2 => (s58 j (by omega)))), (hmE.keep (s57 25 (by omega)) (r 66 (by omega) (by omega) (by omega) (by omega)) (r 67 (by omega) (by omega) (by omega) (by omega))), (hmY.keep (s57 30 (by omega)) (r 69 (by omega) (by omega) (by omega) (by omega)) (r 70 (by omega) (by omega) (by omega) (by omega)) (r 71 (by omega) (by omega) (by omega) (by omega))), (hmB.keep (s57 33 (by omega)) (r 73 (by omega) (by omega) (by omega) (by omega))), (hmX.keep (s57 14 (by omega)) (r 63 (by omega) (by omega) (by omega) (by omega))), ((s57 18 (by omega)).trans hmf), v2⟩, ⟨hr.1, by omega, Or.inr ⟨rfl, hcn.2.1⟩, hvr, rT_push (hrT.mono (show N ≤ N + 1 by omega)) hT.2.2.1 ⟨rfl, rfl, hbar, rfl, by omega⟩⟩, (g0.keep hH (by omega) (by omega) (r 37 (by omega) (by omega) (by omega) (by omega)) (r 38 (by omega) (by omega) (by omega) (by omega)) (r 39 (by omega) (by omega) (by omega) (by omega)) (congrFun (r 59 (by omega) (by omega) (by omega) (by omega)) _) (fun j q1 => (s58 j (by omega)))), (g1.keep hH (by omega) (by omega) (r 40 (by omega) (by omega) (by omega) (by omega)) (r 41 (by omega) (by omega) (by omega) (by omega)) (r 42 (by omega) (by omega) (by omega) (by omega)) (congrFun (r 59 (by omega) (by omega) (by omega) (by omega)) _) (fun j q1 => (s58 j (by omega))))⟩
set_option maxHeartbeats 4000000 in
theorem pw_undo {N : Nat} {σ τ1 τ2 : SG} {b : Nat} {D : SG} {S X L M P v : Int} {sl : Int → Int} {E Y : SG} {bn : Int} {wy tx : Int → Int} {n f : Int} {T U : SG} {z1 z2 : Int} {w : Int} (hc : cI σ b D S X L P v sl E Y bn wy tx n f T) (hm : mI σ D S X M P v sl E Y bn wy tx n f U) (hr : rI N D S X L M v T U) (g0 : img σ D N 37 0) (g1 : img σ D N 40 1) (h1 : ((w < 1 ∨ 40 < w) ∧ τ1 = σ ∧ z1 = -1000000002) ∨ (¬ (w < 1 ∨ 40 < w) ∧ T 4 0 < w ∧ τ1 = σ ∧ z1 = -1000000003) ∨ (¬ (w < 1 ∨ 40 < w) ∧ w ≤ T 4 0 ∧ tD τ1 (up T 4 0 (T 4 0 - w)) ∧ (τ1 31 0 = T 0 (T 4 0 - w) ∧ τ1 31 1 = T 1 (T 4 0 - w) ∧ τ1 31 2 = T 2 (T 4 0 - w) ∧ τ1 31 3 = T 3 (T 4 0 - w)) ∧ (∀ k, k ≠ 31 → k ≠ 32 → τ1 k = σ k) ∧ z1 = T 0 (T 4 0 - w))) (h2 : ((w < 1 ∨ 40 < w) ∧ τ2 = τ1 ∧ z2 = -1000000002) ∨ (¬ (w < 1 ∨ 40 < w) ∧ U 4 0 < w ∧ τ2 = τ1 ∧ z2 = -1000000003) ∨ (¬ (w < 1 ∨ 40 < w) ∧ w ≤ U 4 0 ∧ mtD τ2 (up U 4 0 (U 4 0 - w)) ∧ (τ2 58 0 = U 0 (U 4 0 - w) ∧ τ2 58 1 = U 1 (U 4 0 - w) ∧ τ2 58 2 = U 2 (U 4 0 - w) ∧ τ2 58 3 = U 3 (U 4 0 - w)) ∧ (∀ j : Int, 4 ≤ j → τ2 58 j = τ1 58 j) ∧ (∀ j : Int, j ≠ 21 → τ2 57 j = τ1 57 j) ∧ (∀ k, k ≠ 57 → k ≠ 58 → τ2 k = τ1 k) ∧ z2 = U 0 (U 4 0 - w))) : z1 = z2 ∧ INV (N + 1) τ2 := by
  obtain ⟨hst, hnw, hv, hsl, hE, hY, hB, hX, hf, hT⟩ := id hc
  obtain ⟨hM, hmn, hmv, hms, hmE, hmY, hmB, hmX, hmf, hmT⟩ := id hm
  obtain ⟨⟨hF, hR, hO, hH⟩, hSX, hbar, hvr, hrT⟩ := id hr
  have hb := hst.1
  have hH0 := hH.1
  have hTU := hrT.1
  rcases h1 with ⟨x1, rfl, y1⟩ | ⟨x1, w1, rfl, y1⟩ | ⟨x1, w1, w2, w3, w4, y1⟩
  · rcases h2 with ⟨x2, rfl, y2⟩ | ⟨x2, u1, rfl, y2⟩ | ⟨x2, u1, v2, v3, v4, v5, v6, y2⟩
    · exact ⟨y1.trans y2.symm, inv_same hc hm hr g0 g1⟩
    · exact absurd x1 x2
    · exact absurd x1 x2
  · rcases h2 with ⟨x2, rfl, y2⟩ | ⟨x2, u1, rfl, y2⟩ | ⟨x2, u1, v2, v3, v4, v5, v6, y2⟩
    · exact absurd x2 x1
    · exact ⟨y1.trans y2.symm, inv_same hc hm hr g0 g1⟩
    · omega
  · rcases h2 with ⟨x2, rfl, y2⟩ | ⟨x2, u1, rfl, y2⟩ | ⟨x2, u1, v2, v3, v4, v5, v6, y2⟩
    · exact absurd x2 x1
    · omega
    · have hj := (hrT.mono (show N ≤ N + 1 by omega)).2 (T 4 0 - w) (by omega) (by omega)
      have hj5 := hj.2.2.2.2
      rw [hTU] at hj
      rw [← hTU] at hj
      refine ⟨?_, ?_⟩
      · rw [y1, y2, hj.1, hTU]
      · rw [hTU] at hj
        have hj5 : 0 ≤ T 1 (T 4 0 - w) ∧ T 1 (T 4 0 - w) ≤ T 0 (T 4 0 - w) ∧ T 0 (T 4 0 - w) ≤ 999 * ((N + 1 : Nat) : Int) := by rw [hTU]; exact hj.2.2.2.2
        rw [← hTU] at hj
        have r : ∀ k, k ≠ 31 → k ≠ 32 → k ≠ 57 → k ≠ 58 → τ2 k = σ k := fun k a1 a2 a3 a4 => (v6 k a3 a4).trans (w4 k a1 a2)
        have s57 : ∀ j : Int, j ≠ 21 → τ2 57 j = σ 57 j := fun j a => (v5 j a).trans (congrFun (w4 57 (by omega) (by omega)) j)
        have s58 : ∀ j : Int, 4 ≤ j → τ2 58 j = σ 58 j := fun j a => (v4 j a).trans (congrFun (w4 58 (by omega) (by omega)) j)
        rw [← hTU] at v3 v2
        exact ⟨b, D, T 0 (T 4 0 - w), T 1 (T 4 0 - w), T 2 (T 4 0 - w), U 2 (T 4 0 - w), T 3 (T 4 0 - w), v, sl, E, Y, bn, wy, tx, n, f, (up T 4 0 (T 4 0 - w)), (up U 4 0 (T 4 0 - w)), ⟨(hst.keep (congrFun (r 0 (by omega) (by omega) (by omega) (by omega)) _) (congrFun (r 0 (by omega) (by omega) (by omega) (by omega)) _) (fun k q1 q2 q3 => r k (by omega) (by omega) (by omega) (by omega))), (nwD.keep (S := T 0 (T 4 0 - w)) (X := T 1 (T 4 0 - w)) (L := T 2 (T 4 0 - w)) (P := T 3 (T 4 0 - w)) w3 (v6 31 (by decide) (by decide))), ((congrFun (r 0 (by omega) (by omega) (by omega) (by omega)) _).trans hv), (hsl.keep (r (b + 13) (by omega) (by omega) (by omega) (by omega))), (hE.keep2 (congrFun (r 45 (by omega) (by omega) (by omega) (by omega)) _) (r 46 (by omega) (by omega) (by omega) (by omega)) (r 47 (by omega) (by omega) (by omega) (by omega))), (hY.keep2 (congrFun (r 50 (by omega) (by omega) (by omega) (by omega)) _) (r 51 (by omega) (by omega) (by omega) (by omega)) (r 52 (by omega) (by omega) (by omega) (by omega)) (r 53 (by omega) (by omega) (by omega) (by omega))), (hB.keep (congrFun (r 54 (by omega) (by omega) (by omega) (by omega)) _) (r 55 (by omega) (by omega) (by omega) (by omega))), (hX.keep (congrFun (r 1 (by omega) (by omega) (by omega) (by omega)) _) (r 2 (by omega) (by omega) (by omega) (by omega))), ((congrFun (r 0 (by omega) (by omega) (by omega) (by omega)) _).trans hf), (w2.keep2 (fun k q1 q2 => v6 k (by omega) (by omega)))⟩, ⟨(hM.keep (s57 5 (by omega)) (s57 6 (by omega)) (s57 7 (by omega)) (s57 19 (by omega)) (fun k q1 q2 => r k (by omega) (by omega) (by omega) (by omega))), ⟨by rw [v3.1, hj.1], by rw [v3.2.1, hj.2.1], v3.2.2.1, by rw [v3.2.2.2, hj.2.2.2.1]⟩, ((s58 8 (by omega)).trans hmv), (hms.keep hH (fun j q1 q2 => (s58 j (by omega)))), (hmE.keep (s57 25 (by omega)) (r 66 (by omega) (by omega) (by omega) (by omega)) (r 67 (by omega) (by omega) (by omega) (by omega))), (hmY.keep (s57 30 (by omega)) (r 69 (by omega) (by omega) (by omega) (by omega)) (r 70 (by omega) (by omega) (by omega) (by omega)) (r 71 (by omega) (by omega) (by omega) (by omega))), (hmB.keep (s57 33 (by omega)) (r 73 (by omega) (by omega) (by omega) (by omega))), (hmX.keep (s57 14 (by omega)) (r 63 (by omega) (by omega) (by omega) (by omega))), ((s57 18 (by omega)).trans hmf), v2⟩, ⟨hr.1, hj5, hj.2.2.1, hvr, rT_pop2 (hrT.mono (show N ≤ N + 1 by omega)) (by omega)⟩, (g0.keep hH (by omega) (by omega) (r 37 (by omega) (by omega) (by omega) (by omega)) (r 38 (by omega) (by omega) (by omega) (by omega)) (r 39 (by omega) (by omega) (by omega) (by omega)) (congrFun (r 59 (by omega) (by omega) (by omega) (by omega)) _) (fun j q1 => (s58 j (by omega)))), (g1.keep hH (by omega) (by omega) (r 40 (by omega) (by omega) (by omega) (by omega)) (r 41 (by omega) (by omega) (by omega) (by omega)) (r 42 (by omega) (by omega) (by omega) (by omega)) (congrFun (r 59 (by omega) (by omega) (by omega) (by omega)) _) (fun j q1 => (s58 j (by omega))))⟩
set_option maxHeartbeats 4000000 in
theorem pw_drift {N : Nat} {σ τ1 τ2 : SG} {b : Nat} {D : SG} {S X L M P v : Int} {sl : Int → Int} {E Y : SG} {bn : Int} {wy tx : Int → Int} {n f : Int} {T U : SG} {z1 z2 : Int} {w : Int} {Q Q2 : SG} (hQ : Q = mkQ T S X L P v) (hQ2 : D 9 0 ≠ 0 → Q2 = Q) (hc : cI σ b D S X L P v sl E Y bn wy tx n f T) (hm : mI σ D S X M P v sl E Y bn wy tx n f U) (hr : rI N D S X L M v T U) (g0 : img σ D N 37 0) (g1 : img σ D N 40 1) (h1 : ((w < 1 ∨ 99 < w) ∧ τ1 = σ ∧ z1 = -1000000002) ∨ (¬ (w < 1 ∨ 99 < w) ∧ D 9 0 = 0 ∧ τ1 = σ ∧ z1 = -1000000003) ∨ (¬ (w < 1 ∨ 99 < w) ∧ D 9 0 ≠ 0 ∧ dV τ1 (dfI D Q w.toNat) ∧ dB D (dfI D Q w.toNat) ∧ dfI D Q w.toNat 5 0 = Q 5 0 + w ∧ (∀ k, k ≠ 0 → (k < 31 ∨ 36 < k) → τ1 k = σ k) ∧ (∀ j, j ≠ 12 → τ1 0 j = σ 0 j) ∧ z1 = dfI D Q w.toNat 5 2)) (h2 : ((w < 1 ∨ 99 < w) ∧ τ2 = τ1 ∧ z2 = -1000000002) ∨ (¬ (w < 1 ∨ 99 < w) ∧ D 9 0 = 0 ∧ τ2 = τ1 ∧ z2 = -1000000003) ∨ (¬ (w < 1 ∨ 99 < w) ∧ D 9 0 ≠ 0 ∧ mdV τ2 (dfI D Q2 w.toNat) ∧ (∀ j : Int, 4 ≤ j → j ≠ 8 → τ2 58 j = τ1 58 j) ∧ (∀ j : Int, j ≠ 21 → τ2 57 j = τ1 57 j) ∧ (∀ k, k ≠ 57 → k ≠ 58 → k ≠ 64 → τ2 k = τ1 k) ∧ z2 = dfI D Q2 w.toNat 5 2)) : z1 = z2 ∧ INV (N + 1) τ2 := by
  obtain ⟨hst, hnw, hv, hsl, hE, hY, hB, hX, hf, hT⟩ := id hc
  obtain ⟨hM, hmn, hmv, hms, hmE, hmY, hmB, hmX, hmf, hmT⟩ := id hm
  obtain ⟨⟨hF, hR, hO, hH⟩, hSX, hbar, hvr, hrT⟩ := id hr
  have hb := hst.1
  have hH0 := hH.1
  rcases h1 with ⟨x1, rfl, y1⟩ | ⟨x1, w1, rfl, y1⟩ | ⟨x1, w1, w3, wB, wS, w4, w5, y1⟩
  · rcases h2 with ⟨x2, rfl, y2⟩ | ⟨x2, u1, rfl, y2⟩ | ⟨x2, u1, v3, v4, v5, v6, y2⟩
    · exact ⟨y1.trans y2.symm, inv_same hc hm hr g0 g1⟩
    · exact absurd x1 x2
    · exact absurd x1 x2
  · rcases h2 with ⟨x2, rfl, y2⟩ | ⟨x2, u1, rfl, y2⟩ | ⟨x2, u1, v3, v4, v5, v6, y2⟩
    · exact absurd x2 x1
    · exact ⟨y1.trans y2.symm, inv_same hc hm hr g0 g1⟩
    · exact absurd w1 u1
  · have e9 := hQ2 w1
    subst e9
    rcases h2 with ⟨x2, rfl, y2⟩ | ⟨x2, u1, rfl, y2⟩ | ⟨x2, u1, v3, v4, v5, v6, y2⟩
    · exact absurd x2 x1
    · exact absurd u1 w1
    · refine ⟨y1.trans y2.symm, ?_⟩
      obtain ⟨eL, hL1, hL2⟩ := bar_ne hbar w1
      have q5 := mkQ_5 T S X L P v
      rw [← hQ] at q5
      have hself : rT (N + 1) D Q2 Q2 := by
        have hq := hrT.mono (show N ≤ N + 1 by omega)
        rw [hQ]
        unfold rT at *
        rw [mkQ_row T S X L P v (show (4 : Nat) ≠ 5 by decide), mkQ_row T S X L P v (show (0 : Nat) ≠ 5 by decide), mkQ_row T S X L P v (show (1 : Nat) ≠ 5 by decide), mkQ_row T S X L P v (show (2 : Nat) ≠ 5 by decide), mkQ_row T S X L P v (show (3 : Nat) ≠ 5 by decide)]
        refine ⟨rfl, fun j a c => ?_⟩
        obtain ⟨_, _, k3, _, k5⟩ := hq.2 j a c
        exact ⟨rfl, rfl, Or.inr ⟨rfl, (bar_ne k3 w1).2⟩, rfl, k5⟩
      have h40 : 0 ≤ Q2 4 0 ∧ Q2 4 0 ≤ 40 := by rw [hQ, mkQ_row T S X L P v (by decide)]; exact hT.2.2.1
      have hdB : dB D Q2 := ⟨by rw [q5.1, q5.2.1]; omega, by rw [q5.2.2.1]; exact ⟨hL1, hL2⟩, by rw [q5.2.2.2.2]; exact hvr⟩
      obtain ⟨hd1, hd2, hd3, hd4⟩ := rT_drift (N := N + 1) w.toNat Q2 hself h40 hdB (by rw [q5.1]; omega)
      rw [q5.1] at hd4
      generalize dfI D Q2 w.toNat = Q9 at w3 v3 hd1 hd2 hd3 hd4
      have hd31 := hd3.1
      have r : ∀ k, k ≠ 0 → (k < 31 ∨ 36 < k) → k ≠ 57 → k ≠ 58 → k ≠ 64 → τ2 k = σ k := fun k a0 a1 a2 a3 a4 => (v6 k a2 a3 a4).trans (w4 k a0 a1)
      have s0 : ∀ j : Int, j ≠ 12 → τ2 0 j = σ 0 j := fun j a => (congrFun (v6 0 (by decide) (by decide) (by decide)) j).trans (w5 j a)
      have s57 : ∀ j : Int, j ≠ 21 → τ2 57 j = σ 57 j := fun j a => (v5 j a).trans (congrFun (w4 57 (by omega) (by omega)) j)
      have s58 : ∀ j : Int, 4 ≤ j → j ≠ 8 → τ2 58 j = σ 58 j := fun j a a2 => (v4 j a a2).trans (congrFun (w4 58 (by omega) (by omega)) j)
      exact ⟨b, D, Q9 5 0, Q9 5 1, Q9 5 2, Q9 5 2, Q9 5 3, Q9 5 4, sl, E, Y, bn, wy, tx, n, f, Q9, Q9, ⟨(hst.keep (s0 1 (by decide)) (s0 2 (by decide)) (fun k q1 q2 q3 => r k (by omega) (by omega) (by omega) (by omega) (by omega))), (nwD.keep (S := Q9 5 0) (X := Q9 5 1) (L := Q9 5 2) (P := Q9 5 3) w3.2.1 (v6 31 (by decide) (by decide) (by decide))), (by rw [v6 0 (by decide) (by decide) (by decide)]; exact w3.2.2), (hsl.keep (r (b + 13) (by omega) (by omega) (by omega) (by omega) (by omega))), (hE.keep2 (congrFun (r 45 (by omega) (by omega) (by omega) (by omega) (by omega)) _) (r 46 (by omega) (by omega) (by omega) (by omega) (by omega)) (r 47 (by omega) (by omega) (by omega) (by omega) (by omega))), (hY.keep2 (congrFun (r 50 (by omega) (by omega) (by omega) (by omega) (by omega)) _) (r 51 (by omega) (by omega) (by omega) (by omega) (by omega)) (r 52 (by omega) (by omega) (by omega) (by omega) (by omega)) (r 53 (by omega) (by omega) (by omega) (by omega) (by omega))), (hB.keep (congrFun (r 54 (by omega) (by omega) (by omega) (by omega) (by omega)) _) (r 55 (by omega) (by omega) (by omega) (by omega) (by omega))), (hX.keep (congrFun (r 1 (by omega) (by omega) (by omega) (by omega) (by omega)) _) (r 2 (by omega) (by omega) (by omega) (by omega) (by omega))), ((s0 3 (by decide)).trans hf), (w3.1.keep2 (fun k q1 q2 => v6 k (by omega) (by omega) (by omega)))⟩, ⟨(hM.keep (s57 5 (by omega)) (s57 6 (by omega)) (s57 7 (by omega)) (s57 19 (by omega)) (fun k q1 q2 => r k (by omega) (by omega) (by omega) (by omega) (by omega))), v3.2.1, v3.2.2, (hms.keep hH (fun j q1 q2 => (s58 j (by omega) (by omega)))), (hmE.keep (s57 25 (by omega)) (r 66 (by omega) (by omega) (by omega) (by omega) (by omega)) (r 67 (by omega) (by omega) (by omega) (by omega) (by omega))), (hmY.keep (s57 30 (by omega)) (r 69 (by omega) (by omega) (by omega) (by omega) (by omega)) (r 70 (by omega) (by omega) (by omega) (by omega) (by omega)) (r 71 (by omega) (by omega) (by omega) (by omega) (by omega))), (hmB.keep (s57 33 (by omega)) (r 73 (by omega) (by omega) (by omega) (by omega) (by omega))), (hmX.keep (s57 14 (by omega)) (r 63 (by omega) (by omega) (by omega) (by omega) (by omega))), ((s57 18 (by omega)).trans hmf), v3.1⟩, ⟨hr.1, by omega, Or.inr ⟨rfl, hd3.2.1⟩, hd3.2.2, hd1⟩, (g0.keep hH (by omega) (by omega) (r 37 (by omega) (by omega) (by omega) (by omega) (by omega)) (r 38 (by omega) (by omega) (by omega) (by omega) (by omega)) (r 39 (by omega) (by omega) (by omega) (by omega) (by omega)) (congrFun (r 59 (by omega) (by omega) (by omega) (by omega) (by omega)) _) (fun j q1 => (s58 j (by omega) (by omega)))), (g1.keep hH (by omega) (by omega) (r 40 (by omega) (by omega) (by omega) (by omega) (by omega)) (r 41 (by omega) (by omega) (by omega) (by omega) (by omega)) (r 42 (by omega) (by omega) (by omega) (by omega) (by omega)) (congrFun (r 59 (by omega) (by omega) (by omega) (by omega) (by omega)) _) (fun j q1 => (s58 j (by omega) (by omega))))⟩
set_option maxRecDepth 100000 in
set_option maxHeartbeats 4000000 in
theorem law_step {p : Program} {l : Launch} {e : Env} {s : State} {m : MethodId} {below : List Frame} {meth : Method} {c : Code} {Q : State → Prop} {K : WK} {H0 : Heap} {a L0 : Nat} {xs : Nat → Int32} {σ : SG} {N : Nat} {i : Int} (B : CB p s m #[.ref a] c cL_law RL 4 K) (hS0 : SCR a L0 xs s H0 K) (hN : N ≤ 63) (hi : 0 ≤ i ∧ i + 5 ≤ L0) (hI : INV N σ) (kk : ∀ τ : SG, INV (N + 1) τ → LG p l e s m below meth c Q K H0 a i τ 1197 []) : LG p l e s m below meth c Q K H0 a i σ 400 [] := by
  obtain ⟨b, D, S, X, L, M, P, v, sl, E, Y, bn, wy, tx, n, f, T, U, hc, hm, hr, g0, g1⟩ := hI
  obtain ⟨⟨hb, hcb, hsp, hS⟩, hnw, hv, hsl, hE, hY, hB, hX, hf, hT⟩ := id hc
  obtain ⟨⟨hF, hR, hO, hH⟩, hSX, hbar, hvr, hrT⟩ := id hr
  refine g_aload_n (pc' := 401) B 2 rfl rfl dL_law_400 rfl ?_
  refine g_aload_n (pc' := 402) B 3 rfl rfl dL_law_401 rfl ?_
  refine g_iload_n (pc' := 403) B 0 rfl rfl dL_law_402 rfl ?_
  refine g_iconst (pc' := 404) B dL_law_403 rfl ?_
  refine g_iadd (pc' := 405) B dL_law_404 rfl ?_
  refine g_sld (pc' := 406) B hS0 (by omega) dL_law_405 rfl ?_
  refine g_callVI (pc' := 409) (As := [.int (iI (xv xs (i + 1)))]) B (c_X11_step l K _ (T := T) (S := S) (X := X) (L := L) (P := P) (n := xv xs (i + 1)) hT hnw (by omega) (xv_rng _ _)) vt_X11_step tw_564 rfl rfl ⟨by decide, by decide⟩ rfl (Nat.le_of_ble_eq_true rfl) ⟨Nat.le_of_ble_eq_true rfl, Nat.le_of_ble_eq_true rfl⟩ rfl dL_law_406 rfl (fun z1 τ1 h1 => ?_)
  have e57 : ∀ k, 57 ≤ k → τ1 k = σ k := fun k hk => by rcases h1 with ⟨_, x, _⟩ | ⟨_, _, _, x, _⟩; rw [x]; exact x k (by omega)
  have hm1 := hm.k57 e57
  obtain ⟨hM1, hmn1, hmv1, hms1, hmE1, hmY1, hmB1, hmX1, hmf1, hmT1⟩ := id hm1
  refine g_aload_n (pc' := 410) B 1 rfl rfl dL_law_409 rfl ?_
  refine g_aload_n (pc' := 411) B 3 rfl rfl dL_law_410 rfl ?_
  refine g_iload_n (pc' := 412) B 0 rfl rfl dL_law_411 rfl ?_
  refine g_iconst (pc' := 413) B dL_law_412 rfl ?_
  refine g_iadd (pc' := 414) B dL_law_413 rfl ?_
  refine g_sld (pc' := 415) B hS0 (by omega) dL_law_414 rfl ?_
  refine g_callVI (pc' := 418) (As := [.int (iI (xv xs (i + 1)))]) B (c_X12_step l K _ (T := U) (S := S) (X := X) (L := M) (P := P) (n := xv xs (i + 1)) hmT1 hmn1 (by omega) (xv_rng _ _)) vt_X12_step tw_1152 rfl rfl ⟨by decide, by decide⟩ rfl (Nat.le_of_ble_eq_true rfl) ⟨Nat.le_of_ble_eq_true rfl, Nat.le_of_ble_eq_true rfl⟩ rfl dL_law_415 rfl (fun z2 τ2 h2 => ?_)
  rw [hE_0] at h1
  have pw := pw_pass (Or.inr rfl) hc hm hr g0 g1 h1 h2
  exact g_same B 1197 (pw.1) dL_law_418 (by decide) (kk _ (pw.2))
set_option maxRecDepth 100000 in
set_option maxHeartbeats 4000000 in
theorem law_hold {p : Program} {l : Launch} {e : Env} {s : State} {m : MethodId} {below : List Frame} {meth : Method} {c : Code} {Q : State → Prop} {K : WK} {H0 : Heap} {a L0 : Nat} {xs : Nat → Int32} {σ : SG} {N : Nat} {i : Int} (B : CB p s m #[.ref a] c cL_law RL 4 K) (hS0 : SCR a L0 xs s H0 K) (hN : N ≤ 63) (hi : 0 ≤ i ∧ i + 5 ≤ L0) (hI : INV N σ) (kk : ∀ τ : SG, INV (N + 1) τ → LG p l e s m below meth c Q K H0 a i τ 1197 []) : LG p l e s m below meth c Q K H0 a i σ 423 [] := by
  obtain ⟨b, D, S, X, L, M, P, v, sl, E, Y, bn, wy, tx, n, f, T, U, hc, hm, hr, g0, g1⟩ := hI
  obtain ⟨⟨hb, hcb, hsp, hS⟩, hnw, hv, hsl, hE, hY, hB, hX, hf, hT⟩ := id hc
  obtain ⟨⟨hF, hR, hO, hH⟩, hSX, hbar, hvr, hrT⟩ := id hr
  refine g_aload_n (pc' := 424) B 2 rfl rfl dL_law_423 rfl ?_
  refine g_aload_n (pc' := 425) B 3 rfl rfl dL_law_424 rfl ?_
  refine g_iload_n (pc' := 426) B 0 rfl rfl dL_law_425 rfl ?_
  refine g_iconst (pc' := 427) B dL_law_426 rfl ?_
  refine g_iadd (pc' := 428) B dL_law_427 rfl ?_
  refine g_sld (pc' := 429) B hS0 (by omega) dL_law_428 rfl ?_
  refine g_callVI (pc' := 432) (As := [.int (iI (xv xs (i + 1)))]) B (c_X11_hold l K _ (T := T) (S := S) (X := X) (L := L) (P := P) (n := xv xs (i + 1)) hT hnw (by omega) (xv_rng _ _)) vt_X11_hold tw_584 rfl rfl ⟨by decide, by decide⟩ rfl (Nat.le_of_ble_eq_true rfl) ⟨Nat.le_of_ble_eq_true rfl, Nat.le_of_ble_eq_true rfl⟩ rfl dL_law_429 rfl (fun z1 τ1 h1 => ?_)
  have e57 : ∀ k, 57 ≤ k → τ1 k = σ k := fun k hk => by rcases h1 with ⟨_, x, _⟩ | ⟨_, _, _, x, _⟩; rw [x]; exact x k (by omega)
  have hm1 := hm.k57 e57
  obtain ⟨hM1, hmn1, hmv1, hms1, hmE1, hmY1, hmB1, hmX1, hmf1, hmT1⟩ := id hm1
  refine g_aload_n (pc' := 433) B 1 rfl rfl dL_law_432 rfl ?_
  refine g_aload_n (pc' := 434) B 3 rfl rfl dL_law_433 rfl ?_
  refine g_iload_n (pc' := 435) B 0 rfl rfl dL_law_434 rfl ?_
  refine g_iconst (pc' := 436) B dL_law_435 rfl ?_
  refine g_iadd (pc' := 437) B dL_law_436 rfl ?_
  refine g_sld (pc' := 438) B hS0 (by omega) dL_law_437 rfl ?_
  refine g_callVI (pc' := 441) (As := [.int (iI (xv xs (i + 1)))]) B (c_X12_hold l K _ (T := U) (S := S) (X := X) (L := M) (P := P) (n := xv xs (i + 1)) hmT1 hmn1 (by omega) (xv_rng _ _)) vt_X12_hold tw_1166 rfl rfl ⟨by decide, by decide⟩ rfl (Nat.le_of_ble_eq_true rfl) ⟨Nat.le_of_ble_eq_true rfl, Nat.le_of_ble_eq_true rfl⟩ rfl dL_law_438 rfl (fun z2 τ2 h2 => ?_)
  rw [hE_1] at h1
  have pw := pw_pass (Or.inl rfl) hc hm hr g0 g1 h1 h2
  exact g_same B 1197 (pw.1) dL_law_441 (by decide) (kk _ (pw.2))
set_option maxRecDepth 100000 in
set_option maxHeartbeats 4000000 in
theorem law_roll {p : Program} {l : Launch} {e : Env} {s : State} {m : MethodId} {below : List Frame} {meth : Method} {c : Code} {Q : State → Prop} {K : WK} {H0 : Heap} {a L0 : Nat} {xs : Nat → Int32} {σ : SG} {N : Nat} {i : Int} (B : CB p s m #[.ref a] c cL_law RL 4 K) (hS0 : SCR a L0 xs s H0 K) (hN : N ≤ 63) (hi : 0 ≤ i ∧ i + 5 ≤ L0) (hI : INV N σ) (kk : ∀ τ : SG, INV (N + 1) τ → LG p l e s m below meth c Q K H0 a i τ 1197 []) : LG p l e s m below meth c Q K H0 a i σ 446 [] := by
  obtain ⟨b, D, S, X, L, M, P, v, sl, E, Y, bn, wy, tx, n, f, T, U, hc, hm, hr, g0, g1⟩ := hI
  obtain ⟨⟨hb, hcb, hsp, hS⟩, hnw, hv, hsl, hE, hY, hB, hX, hf, hT⟩ := id hc
  obtain ⟨⟨hF, hR, hO, hH⟩, hSX, hbar, hvr, hrT⟩ := id hr
  refine g_aload_n (pc' := 447) B 2 rfl rfl dL_law_446 rfl ?_
  refine g_aload_n (pc' := 448) B 3 rfl rfl dL_law_447 rfl ?_
  refine g_iload_n (pc' := 449) B 0 rfl rfl dL_law_448 rfl ?_
  refine g_iconst (pc' := 450) B dL_law_449 rfl ?_
  refine g_iadd (pc' := 451) B dL_law_450 rfl ?_
  refine g_sld (pc' := 452) B hS0 (by omega) dL_law_451 rfl ?_
  refine g_callVI (pc' := 455) (As := [.int (iI (xv xs (i + 1)))]) B (c_X11_roll l K _ (b := b) (D := D) (S := S) (X := X) (L := L) (P := P) (T := T) (w := xv xs (i + 1)) hb hcb hS hF hR hO hH hnw (by omega) hT (by rcases hbar with q9 | q9; exact Or.inl q9; exact Or.inr q9.2) (xv_rng _ _)) vt_X11_roll tw_588 rfl rfl ⟨by decide, by decide⟩ rfl (Nat.le_of_ble_eq_true rfl) ⟨Nat.le_of_ble_eq_true rfl, Nat.le_of_ble_eq_true rfl⟩ rfl dL_law_452 rfl (fun z1 τ1 h1 => ?_)
  have e57 : ∀ k, 57 ≤ k → τ1 k = σ k := fun k hk => by rcases h1 with ⟨_, x, _⟩ | ⟨_, _, x, _⟩ | ⟨_, _, _, _, x, _⟩; rw [x]; rw [x]; exact x k (by omega)
  have hm1 := hm.k57 e57
  obtain ⟨hM1, hmn1, hmv1, hms1, hmE1, hmY1, hmB1, hmX1, hmf1, hmT1⟩ := id hm1
  refine g_aload_n (pc' := 456) B 1 rfl rfl dL_law_455 rfl ?_
  refine g_aload_n (pc' := 457) B 3 rfl rfl dL_law_456 rfl ?_
  refine g_iload_n (pc' := 458) B 0 rfl rfl dL_law_457 rfl ?_
  refine g_iconst (pc' := 459) B dL_law_458 rfl ?_
  refine g_iadd (pc' := 460) B dL_law_459 rfl ?_
  refine g_sld (pc' := 461) B hS0 (by omega) dL_law_460 rfl ?_
  refine g_callVI (pc' := 464) (As := [.int (iI (xv xs (i + 1)))]) B (c_X12_roll l K _ (D := D) (S := S) (X := X) (L := M) (P := P) (T := U) (w := xv xs (i + 1)) hM1 hF hR hO hH hmn1 (by omega) hmT1 (fun q9 => by have q8 := bar_ne hbar q9; omega) (xv_rng _ _)) vt_X12_roll tw_1170 rfl rfl ⟨by decide, by decide⟩ rfl (Nat.le_of_ble_eq_true rfl) ⟨Nat.le_of_ble_eq_true rfl, Nat.le_of_ble_eq_true rfl⟩ rfl dL_law_461 rfl (fun z2 τ2 h2 => ?_)
  have pw := pw_roll hc hm hr g0 g1 h1 h2
  exact g_same B 1197 (pw.1) dL_law_464 (by decide) (kk _ (pw.2))
set_option maxRecDepth 100000 in
set_option maxHeartbeats 4000000 in
theorem law_undo {p : Program} {l : Launch} {e : Env} {s : State} {m : MethodId} {below : List Frame} {meth : Method} {c : Code} {Q : State → Prop} {K : WK} {H0 : Heap} {a L0 : Nat} {xs : Nat → Int32} {σ : SG} {N : Nat} {i : Int} (B : CB p s m #[.ref a] c cL_law RL 4 K) (hS0 : SCR a L0 xs s H0 K) (hN : N ≤ 63) (hi : 0 ≤ i ∧ i + 5 ≤ L0) (hI : INV N σ) (kk : ∀ τ : SG, INV (N + 1) τ → LG p l e s m below meth c Q K H0 a i τ 1197 []) : LG p l e s m below meth c Q K H0 a i σ 525 [] := by
  obtain ⟨b, D, S, X, L, M, P, v, sl, E, Y, bn, wy, tx, n, f, T, U, hc, hm, hr, g0, g1⟩ := hI
  obtain ⟨⟨hb, hcb, hsp, hS⟩, hnw, hv, hsl, hE, hY, hB, hX, hf, hT⟩ := id hc
  obtain ⟨⟨hF, hR, hO, hH⟩, hSX, hbar, hvr, hrT⟩ := id hr
  refine g_aload_n (pc' := 526) B 2 rfl rfl dL_law_525 rfl ?_
  refine g_aload_n (pc' := 527) B 3 rfl rfl dL_law_526 rfl ?_
  refine g_iload_n (pc' := 528) B 0 rfl rfl dL_law_527 rfl ?_
  refine g_iconst (pc' := 529) B dL_law_528 rfl ?_
  refine g_iadd (pc' := 530) B dL_law_529 rfl ?_
  refine g_sld (pc' := 531) B hS0 (by omega) dL_law_530 rfl ?_
  refine g_callVI (pc' := 534) (As := [.int (iI (xv xs (i + 1)))]) B (c_X11_undo l K _ (T := T) (n := xv xs (i + 1)) hT (xv_rng _ _)) vt_X11_undo tw_632 rfl rfl ⟨by decide, by decide⟩ rfl (Nat.le_of_ble_eq_true rfl) ⟨Nat.le_of_ble_eq_true rfl, Nat.le_of_ble_eq_true rfl⟩ rfl dL_law_531 rfl (fun z1 τ1 h1 => ?_)
  have e57 : ∀ k, 57 ≤ k → τ1 k = σ k := fun k hk => by rcases h1 with ⟨_, x, _⟩ | ⟨_, _, x, _⟩ | ⟨_, _, _, _, x, _⟩; rw [x]; rw [x]; exact x k (by omega) (by omega)
  have hm1 := hm.k57 e57
  obtain ⟨hM1, hmn1, hmv1, hms1, hmE1, hmY1, hmB1, hmX1, hmf1, hmT1⟩ := id hm1
  refine g_aload_n (pc' := 535) B 1 rfl rfl dL_law_534 rfl ?_
  refine g_aload_n (pc' := 536) B 3 rfl rfl dL_law_535 rfl ?_
  refine g_iload_n (pc' := 537) B 0 rfl rfl dL_law_536 rfl ?_
  refine g_iconst (pc' := 538) B dL_law_537 rfl ?_
  refine g_iadd (pc' := 539) B dL_law_538 rfl ?_
  refine g_sld (pc' := 540) B hS0 (by omega) dL_law_539 rfl ?_
  refine g_callVI (pc' := 543) (As := [.int (iI (xv xs (i + 1)))]) B (c_X12_undo l K _ (T := U) (n := xv xs (i + 1)) hmT1 (xv_rng _ _)) vt_X12_undo tw_1205 rfl rfl ⟨by decide, by decide⟩ rfl (Nat.le_of_ble_eq_true rfl) ⟨Nat.le_of_ble_eq_true rfl, Nat.le_of_ble_eq_true rfl⟩ rfl dL_law_540 rfl (fun z2 τ2 h2 => ?_)
  have pw := pw_undo hc hm hr g0 g1 h1 h2
  exact g_same B 1197 (pw.1) dL_law_543 (by decide) (kk _ (pw.2))
set_option maxRecDepth 100000 in
set_option maxHeartbeats 4000000 in
theorem law_drift {p : Program} {l : Launch} {e : Env} {s : State} {m : MethodId} {below : List Frame} {meth : Method} {c : Code} {Q : State → Prop} {K : WK} {H0 : Heap} {a L0 : Nat} {xs : Nat → Int32} {σ : SG} {N : Nat} {i : Int} (B : CB p s m #[.ref a] c cL_law RL 4 K) (hS0 : SCR a L0 xs s H0 K) (hN : N ≤ 63) (hi : 0 ≤ i ∧ i + 5 ≤ L0) (hI : INV N σ) (kk : ∀ τ : SG, INV (N + 1) τ → LG p l e s m below meth c Q K H0 a i τ 1197 []) : LG p l e s m below meth c Q K H0 a i σ 502 [] := by
  obtain ⟨b, D, S, X, L, M, P, v, sl, E, Y, bn, wy, tx, n, f, T, U, hc, hm, hr, g0, g1⟩ := hI
  obtain ⟨⟨hb, hcb, hsp, hS⟩, hnw, hv, hsl, hE, hY, hB, hX, hf, hT⟩ := id hc
  obtain ⟨⟨hF, hR, hO, hH⟩, hSX, hbar, hvr, hrT⟩ := id hr
  refine g_aload_n (pc' := 503) B 2 rfl rfl dL_law_502 rfl ?_
  refine g_aload_n (pc' := 504) B 3 rfl rfl dL_law_503 rfl ?_
  refine g_iload_n (pc' := 505) B 0 rfl rfl dL_law_504 rfl ?_
  refine g_iconst (pc' := 506) B dL_law_505 rfl ?_
  refine g_iadd (pc' := 507) B dL_law_506 rfl ?_
  refine g_sld (pc' := 508) B hS0 (by omega) dL_law_507 rfl ?_
  refine g_callVI (pc' := 511) (As := [.int (iI (xv xs (i + 1)))]) B (c_X11_drift l K _ (b := b) (D := D) (Q := mkQ T S X L P v) (n := xv xs (i + 1)) hb hcb hS hF hR hO hH (⟨hT.cong (by rw [mkQ_row _ _ _ _ _ _ (by decide)]) (fun k j hk _ _ => by rw [mkQ_row _ _ _ _ _ _ (by omega)]), hnw, hv⟩) (by show 0 ≤ X ∧ X ≤ S ∧ S ≤ 70000; omega) (fun q9 => (bar_ne hbar q9).2) hvr (xv_rng _ _)) vt_X11_drift tw_620 rfl rfl ⟨by decide, by decide⟩ rfl (Nat.le_of_ble_eq_true rfl) ⟨Nat.le_of_ble_eq_true rfl, Nat.le_of_ble_eq_true rfl⟩ rfl dL_law_508 rfl (fun z1 τ1 h1 => ?_)
  have e57 : ∀ k, 57 ≤ k → τ1 k = σ k := fun k hk => by rcases h1 with ⟨_, x, _⟩ | ⟨_, _, x, _⟩ | ⟨_, _, _, _, _, x, _⟩; rw [x]; rw [x]; exact x k (by omega) (by omega)
  have hm1 := hm.k57 e57
  obtain ⟨hM1, hmn1, hmv1, hms1, hmE1, hmY1, hmB1, hmX1, hmf1, hmT1⟩ := id hm1
  obtain ⟨Q2, hV2, hQb2, hLr2, hvr2, hQ2e⟩ : ∃ Q2 : SG, mdV τ1 Q2 ∧ (0 ≤ Q2 5 1 ∧ Q2 5 1 ≤ Q2 5 0 ∧ Q2 5 0 ≤ 69000) ∧ (D 9 0 ≠ 0 → 0 ≤ Q2 5 2 ∧ Q2 5 2 < D 9 0) ∧ (0 ≤ Q2 5 4 ∧ Q2 5 4 < 2147483648) ∧ (D 9 0 ≠ 0 → Q2 = mkQ T S X L P v) := by
    by_cases h0 : D 9 0 = 0
    · exact ⟨mkQ U S X M P v, ⟨hmT1.cong (by rw [mkQ_row _ _ _ _ _ _ (by decide)]) (fun k j hk _ _ => by rw [mkQ_row _ _ _ _ _ _ (by omega)]), hmn1, hmv1⟩, by show 0 ≤ X ∧ X ≤ S ∧ S ≤ 69000; omega, fun q => absurd h0 q, hvr, fun q => absurd h0 q⟩
    · obtain ⟨eL, hL1, hL2⟩ := bar_ne hbar h0
      subst eL
      refine ⟨mkQ T S X L P v, ⟨hmT1.cong (by rw [mkQ_row _ _ _ _ _ _ (by decide)]; exact hrT.1) (fun k j hk j0 j1 => ?_), hmn1, hmv1⟩, by show 0 ≤ X ∧ X ≤ S ∧ S ≤ 69000; omega, fun _ => ⟨hL1, hL2⟩, hvr, fun _ => rfl⟩
      obtain ⟨k1, k2, k3, k4, _⟩ := hrT.2 j j0 (by rw [hrT.1]; exact j1)
      rw [mkQ_row _ _ _ _ _ _ (by omega)]
      rcases (show k = 0 ∨ k = 1 ∨ k = 2 ∨ k = 3 by omega) with e9 | e9 | e9 | e9 <;> subst e9
      · exact k1
      · exact k2
      · exact (bar_ne k3 h0).1
      · exact k4
  refine g_aload_n (pc' := 512) B 1 rfl rfl dL_law_511 rfl ?_
  refine g_aload_n (pc' := 513) B 3 rfl rfl dL_law_512 rfl ?_
  refine g_iload_n (pc' := 514) B 0 rfl rfl dL_law_513 rfl ?_
  refine g_iconst (pc' := 515) B dL_law_514 rfl ?_
  refine g_iadd (pc' := 516) B dL_law_515 rfl ?_
  refine g_sld (pc' := 517) B hS0 (by omega) dL_law_516 rfl ?_
  refine g_callVI (pc' := 520) (As := [.int (iI (xv xs (i + 1)))]) B (c_X12_drift l K _ (D := D) (Q := Q2) (n := xv xs (i + 1)) hM1 hF hR hO hH hV2 hQb2 hLr2 hvr2 (xv_rng _ _)) vt_X12_drift tw_1192 rfl rfl ⟨by decide, by decide⟩ rfl (Nat.le_of_ble_eq_true rfl) ⟨Nat.le_of_ble_eq_true rfl, Nat.le_of_ble_eq_true rfl⟩ rfl dL_law_517 rfl (fun z2 τ2 h2 => ?_)
  have pw := pw_drift rfl hQ2e hc hm hr g0 g1 h1 h2
  exact g_same B 1197 (pw.1) dL_law_520 (by decide) (kk _ (pw.2))
