theorem mcx.keep {σ τ P : SG} (h : mcx σ P) (e : τ 57 = σ 57) : mcx τ P := by
  unfold mcx at *
  rw [e]; exact h
theorem mcx.keep2 {σ τ P : SG} (h : mcx σ P) (e1 : τ 57 17 = σ 57 17) (e2 : τ 57 18 = σ 57 18) (e3 : τ 57 15 = σ 57 15) : mcx τ P := by
  unfold mcx at *
  rw [e1, e2, e3]; exact h
/-- what the reader has taken so far -/
def mQ (σ P : SG) : Prop := σ 57 8 = P 9 0 ∧ σ 57 9 = P 9 1 ∧ σ 57 10 = P 9 2 ∧ σ 57 12 = (if P 11 3 = -1 then 0 else 1) ∧ σ 57 11 = (if P 11 3 = -1 then 0 else P 11 3) ∧
  (∀ f : Int, 0 ≤ f → f < P 9 0 → σ 60 (4 * (8 + f)) = P 0 f ∧ σ 60 (4 * (8 + f) + 1) = P 1 f ∧ σ 60 (4 * (8 + f) + 2) = P 2 f ∧ σ 60 (4 * (8 + f) + 3) = P 3 f) ∧
  (∀ h : Int, 0 ≤ h → h < P 9 1 → σ 61 (2 * (4 + h)) = P 4 h ∧ σ 61 (2 * (4 + h) + 1) = P 10 h) ∧
  (∀ s : Int, 0 ≤ s → s < P 9 2 → σ 62 (4 * (4 + s)) = P 5 s ∧ σ 62 (4 * (4 + s) + 1) = P 6 s ∧ σ 62 (4 * (4 + s) + 2) = P 7 s ∧ σ 62 (4 * (4 + s) + 3) = P 8 s)
def mP (σ : SG) (tx : Int → Int) (n : Int) (P : SG) : Prop := mtx σ tx n ∧ mcx σ P ∧ (P 11 1 = 0 → mQ σ P)
/-- what reading leaves as it is -/
def mfr (σ τ : SG) : Prop := (∀ j : Int, (j < 8 ∨ j = 13 ∨ j = 14 ∨ 18 < j) → τ 57 j = σ 57 j) ∧ (∀ j : Int, j < 32 → τ 60 j = σ 60 j) ∧ (∀ j : Int, j < 8 → τ 61 j = σ 61 j) ∧ (∀ j : Int, j < 16 → τ 62 j = σ 62 j) ∧ ∀ k, k ≠ 57 → k ≠ 60 → k ≠ 61 → k ≠ 62 → τ k = σ k
theorem mfr.rf {σ : SG} : mfr σ σ := ⟨fun _ _ => rfl, fun _ _ => rfl, fun _ _ => rfl, fun _ _ => rfl, fun _ _ _ _ _ => rfl⟩
theorem mfr.tr {σ τ υ : SG} (h : mfr σ τ) (g : mfr τ υ) : mfr σ υ := by
  obtain ⟨h1, h2, h3, h4, h5⟩ := h
  obtain ⟨g1, g2, g3, g4, g5⟩ := g
  exact ⟨fun j a => (g1 j a).trans (h1 j a), fun j a => (g2 j a).trans (h2 j a), fun j a => (g3 j a).trans (h3 j a), fun j a => (g4 j a).trans (h4 j a), fun k a b c d => (g5 k a b c d).trans (h5 k a b c d)⟩
theorem mfr.of57 {σ τ : SG} (h1 : ∀ j : Int, (j < 8 ∨ j = 13 ∨ j = 14 ∨ 18 < j) → τ 57 j = σ 57 j) (h : ∀ k, k ≠ 57 → τ k = σ k) : mfr σ τ :=
  ⟨h1, fun j _ => by rw [h 60 (by decide)], fun j _ => by rw [h 61 (by decide)], fun j _ => by rw [h 62 (by decide)], fun k a _ _ _ => h k a⟩
theorem tf_end {σ T Q R : SG} {tx : Int → Int} {n v1 v2 v3 v4 z1 z2 z3 z4 : Int} (hT : mtx σ tx n) (hQ : mQ σ Q) (hc : 0 ≤ Q 9 0) (eR : ∀ k, k ≠ 11 → R k = Q k) (eR3 : R 11 3 = Q 11 3) (a : mcx T R) (b : R 11 1 = 0 → z1 = v1 ∧ z2 = v2 ∧ z3 = v3 ∧ z4 = v4)
    (e8 : T 57 8 = Q 9 0 + 1) (e57 : ∀ j : Int, j ≠ 8 → j ≠ 15 → j ≠ 16 → j ≠ 17 → j ≠ 18 → T 57 j = σ 57 j) (e60 : ∀ j : Int, (j < 4 * (8 + Q 9 0) ∨ 4 * (8 + Q 9 0) + 3 < j) → T 60 j = σ 60 j)
    (w1 : T 60 (4 * (8 + Q 9 0)) = z1) (w2 : T 60 (4 * (8 + Q 9 0) + 1) = z2) (w3 : T 60 (4 * (8 + Q 9 0) + 2) = z3) (w4 : T 60 (4 * (8 + Q 9 0) + 3) = z4) (eo : ∀ k, k ≠ 57 → k ≠ 60 → T k = σ k) : mP T tx n (dF R v1 v2 v3 v4) ∧ mfr σ T := by
  obtain ⟨q1, q2, q3, q4, q5, q6, q7, q8⟩ := hQ
  obtain ⟨g1, g2, g3, g4, g5, g6, g7, g8, g9, g10⟩ := dF_get R v1 v2 v3 v4
  have e11 := g1 11 (by decide) (by decide) (by decide) (by decide) (by decide)
  have c9 := congrFun (eR 9 (by decide))
  refine ⟨⟨hT.keep (e57 14 (by decide) (by decide) (by decide) (by decide) (by decide)) (eo 63 (by decide) (by decide)), ?_, fun z => ?_⟩, ?_⟩
  · unfold mcx; rw [e11]; exact a
  · rw [e11] at z
    obtain ⟨b1, b2, b3, b4⟩ := b z
    refine ⟨?_, ?_, ?_, ?_, ?_, fun f f0 f1 => ?_, fun h h0 h1 => ?_, fun s s0 s1 => ?_⟩
    · rw [g2, c9 0]; exact e8
    · rw [g3, c9 1, e57 9 (by decide) (by decide) (by decide) (by decide) (by decide)]; exact q2
    · rw [g4, c9 2, e57 10 (by decide) (by decide) (by decide) (by decide) (by decide)]; exact q3
    · rw [e11, eR3, e57 12 (by decide) (by decide) (by decide) (by decide) (by decide)]; exact q4
    · rw [e11, eR3, e57 11 (by decide) (by decide) (by decide) (by decide) (by decide)]; exact q5
    · rw [g2, c9 0] at f1
      by_cases e : f = Q 9 0
      · subst e
        have h9 : R 9 0 = Q 9 0 := c9 0
        rw [h9] at g7 g8 g9 g10
        rw [g7, g8, g9, g10, w1, w2, w3, w4]
        exact ⟨b1, b2, b3, b4⟩
      · obtain ⟨p1, p2, p3, p4⟩ := g6 f (by rw [c9 0]; exact e)
        rw [p1, p2, p3, p4, eR 0 (by decide), eR 1 (by decide), eR 2 (by decide), eR 3 (by decide), e60 _ (by omega), e60 _ (by omega), e60 _ (by omega), e60 _ (by omega)]
        exact q6 f f0 (by omega)
    · rw [g3, c9 1] at h1
      rw [g1 4 (by decide) (by decide) (by decide) (by decide) (by decide), g1 10 (by decide) (by decide) (by decide) (by decide) (by decide), eR 4 (by decide), eR 10 (by decide), eo 61 (by decide) (by decide)]
      exact q7 h h0 h1
    · rw [g4, c9 2] at s1
      rw [g1 5 (by decide) (by decide) (by decide) (by decide) (by decide), g1 6 (by decide) (by decide) (by decide) (by decide) (by decide), g1 7 (by decide) (by decide) (by decide) (by decide) (by decide), g1 8 (by decide) (by decide) (by decide) (by decide) (by decide), eR 5 (by decide), eR 6 (by decide), eR 7 (by decide), eR 8 (by decide), eo 62 (by decide) (by decide)]
      exact q8 s s0 s1
  · exact ⟨fun j hj => e57 j (by omega) (by omega) (by omega) (by omega) (by omega), fun j hj => e60 j (by omega), fun j _ => by rw [eo 61 (by decide) (by decide)], fun j _ => by rw [eo 62 (by decide) (by decide)], fun k k1 k2 _ _ => eo k k1 k2⟩
theorem th_end {σ T Q R : SG} {tx : Int → Int} {n v1 v2 z1 z2 : Int} (hT : mtx σ tx n) (hQ : mQ σ Q) (hc : 0 ≤ Q 9 1) (eR : ∀ k, k ≠ 11 → R k = Q k) (eR3 : R 11 3 = Q 11 3) (a : mcx T R) (b : R 11 1 = 0 → z1 = v1 ∧ z2 = v2)
    (e8 : T 57 9 = Q 9 1 + 1) (e57 : ∀ j : Int, j ≠ 9 → j ≠ 15 → j ≠ 16 → j ≠ 17 → j ≠ 18 → T 57 j = σ 57 j) (e60 : ∀ j : Int, (j < 2 * (4 + Q 9 1) ∨ 2 * (4 + Q 9 1) + 1 < j) → T 61 j = σ 61 j)
    (w1 : T 61 (2 * (4 + Q 9 1)) = z1) (w2 : T 61 (2 * (4 + Q 9 1) + 1) = z2) (eo : ∀ k, k ≠ 57 → k ≠ 61 → T k = σ k) : mP T tx n (dH R v1 v2) ∧ mfr σ T := by
  obtain ⟨q1, q2, q3, q4, q5, q6, q7, q8⟩ := hQ
  obtain ⟨g1, g2, g3, g4, g5, g6, g7, g8⟩ := dH_get R v1 v2
  have e11 := g1 11 (by decide) (by decide) (by decide)
  have c9 := congrFun (eR 9 (by decide))
  refine ⟨⟨hT.keep (e57 14 (by decide) (by decide) (by decide) (by decide) (by decide)) (eo 63 (by decide) (by decide)), ?_, fun z => ?_⟩, ?_⟩
  · unfold mcx; rw [e11]; exact a
  · rw [e11] at z
    obtain ⟨b1, b2⟩ := b z
    refine ⟨?_, ?_, ?_, ?_, ?_, fun f f0 f1 => ?_, fun h h0 h1 => ?_, fun s s0 s1 => ?_⟩
    · rw [g2, c9 0, e57 8 (by decide) (by decide) (by decide) (by decide) (by decide)]; exact q1
    · rw [g3, c9 1]; exact e8
    · rw [g4, c9 2, e57 10 (by decide) (by decide) (by decide) (by decide) (by decide)]; exact q3
    · rw [e11, eR3, e57 12 (by decide) (by decide) (by decide) (by decide) (by decide)]; exact q4
    · rw [e11, eR3, e57 11 (by decide) (by decide) (by decide) (by decide) (by decide)]; exact q5
    · rw [g2, c9 0] at f1
      rw [g1 0 (by decide) (by decide) (by decide), g1 1 (by decide) (by decide) (by decide), g1 2 (by decide) (by decide) (by decide), g1 3 (by decide) (by decide) (by decide), eR 0 (by decide), eR 1 (by decide), eR 2 (by decide), eR 3 (by decide), eo 60 (by decide) (by decide)]
      exact q6 f f0 f1
    · rw [g3, c9 1] at h1
      by_cases e : h = Q 9 1
      · subst e
        have h9 : R 9 1 = Q 9 1 := c9 1
        rw [h9] at g7 g8
        rw [g7, g8, w1, w2]
        exact ⟨b1, b2⟩
      · obtain ⟨p1, p2⟩ := g6 h (by rw [c9 1]; exact e)
        rw [p1, p2, eR 4 (by decide), eR 10 (by decide), e60 _ (by omega), e60 _ (by omega)]
        exact q7 h h0 (by omega)
    · rw [g4, c9 2] at s1
      rw [g1 5 (by decide) (by decide) (by decide), g1 6 (by decide) (by decide) (by decide), g1 7 (by decide) (by decide) (by decide), g1 8 (by decide) (by decide) (by decide), eR 5 (by decide), eR 6 (by decide), eR 7 (by decide), eR 8 (by decide), eo 62 (by decide) (by decide)]
      exact q8 s s0 s1
  · exact ⟨fun j hj => e57 j (by omega) (by omega) (by omega) (by omega) (by omega), fun j _ => by rw [eo 60 (by decide) (by decide)], fun j hj => e60 j (by omega), fun j _ => by rw [eo 62 (by decide) (by decide)], fun k k1 _ k2 _ => eo k k1 k2⟩
theorem ts_end {σ T Q R : SG} {tx : Int → Int} {n v1 v2 v3 v4 z1 z2 z3 z4 : Int} (hT : mtx σ tx n) (hQ : mQ σ Q) (hc : 0 ≤ Q 9 2) (eR : ∀ k, k ≠ 11 → R k = Q k) (eR3 : R 11 3 = Q 11 3) (a : mcx T R) (b : R 11 1 = 0 → z1 = v1 ∧ z2 = v2 ∧ z3 = v3 ∧ z4 = v4)
    (e8 : T 57 10 = Q 9 2 + 1) (e57 : ∀ j : Int, j ≠ 10 → j ≠ 15 → j ≠ 16 → j ≠ 17 → j ≠ 18 → T 57 j = σ 57 j) (e60 : ∀ j : Int, (j < 4 * (4 + Q 9 2) ∨ 4 * (4 + Q 9 2) + 3 < j) → T 62 j = σ 62 j)
    (w1 : T 62 (4 * (4 + Q 9 2)) = z1) (w2 : T 62 (4 * (4 + Q 9 2) + 1) = z2) (w3 : T 62 (4 * (4 + Q 9 2) + 2) = z3) (w4 : T 62 (4 * (4 + Q 9 2) + 3) = z4) (eo : ∀ k, k ≠ 57 → k ≠ 62 → T k = σ k) : mP T tx n (dQ R v1 v2 v3 v4) ∧ mfr σ T := by
  obtain ⟨q1, q2, q3, q4, q5, q6, q7, q8⟩ := hQ
  obtain ⟨g1, g2, g3, g4, g5, g6, g7, g8, g9, g10⟩ := dQ_get R v1 v2 v3 v4
  have e11 := g1 11 (by decide) (by decide) (by decide) (by decide) (by decide)
  have c9 := congrFun (eR 9 (by decide))
  refine ⟨⟨hT.keep (e57 14 (by decide) (by decide) (by decide) (by decide) (by decide)) (eo 63 (by decide) (by decide)), ?_, fun z => ?_⟩, ?_⟩
  · unfold mcx; rw [e11]; exact a
  · rw [e11] at z
    obtain ⟨b1, b2, b3, b4⟩ := b z
    refine ⟨?_, ?_, ?_, ?_, ?_, fun f f0 f1 => ?_, fun h h0 h1 => ?_, fun s s0 s1 => ?_⟩
    · rw [g2, c9 0, e57 8 (by decide) (by decide) (by decide) (by decide) (by decide)]; exact q1
    · rw [g3, c9 1, e57 9 (by decide) (by decide) (by decide) (by decide) (by decide)]; exact q2
    · rw [g4, c9 2]; exact e8
    · rw [e11, eR3, e57 12 (by decide) (by decide) (by decide) (by decide) (by decide)]; exact q4
    · rw [e11, eR3, e57 11 (by decide) (by decide) (by decide) (by decide) (by decide)]; exact q5
    · rw [g2, c9 0] at f1
      rw [g1 0 (by decide) (by decide) (by decide) (by decide) (by decide), g1 1 (by decide) (by decide) (by decide) (by decide) (by decide), g1 2 (by decide) (by decide) (by decide) (by decide) (by decide), g1 3 (by decide) (by decide) (by decide) (by decide) (by decide), eR 0 (by decide), eR 1 (by decide), eR 2 (by decide), eR 3 (by decide), eo 60 (by decide) (by decide)]
      exact q6 f f0 f1
    · rw [g3, c9 1] at h1
      rw [g1 4 (by decide) (by decide) (by decide) (by decide) (by decide), g1 10 (by decide) (by decide) (by decide) (by decide) (by decide), eR 4 (by decide), eR 10 (by decide), eo 61 (by decide) (by decide)]
      exact q7 h h0 h1
    · rw [g4, c9 2] at s1
      by_cases e : s = Q 9 2
      · subst e
        have h9 : R 9 2 = Q 9 2 := c9 2
        rw [h9] at g7 g8 g9 g10
        rw [g7, g8, g9, g10, w1, w2, w3, w4]
        exact ⟨b1, b2, b3, b4⟩
      · obtain ⟨p1, p2, p3, p4⟩ := g6 s (by rw [c9 2]; exact e)
        rw [p1, p2, p3, p4, eR 5 (by decide), eR 6 (by decide), eR 7 (by decide), eR 8 (by decide), e60 _ (by omega), e60 _ (by omega), e60 _ (by omega), e60 _ (by omega)]
        exact q8 s s0 (by omega)
  · exact ⟨fun j hj => e57 j (by omega) (by omega) (by omega) (by omega) (by omega), fun j _ => by rw [eo 60 (by decide) (by decide)], fun j _ => by rw [eo 61 (by decide) (by decide)], fun j hj => e60 j (by omega), fun k k1 _ _ k2 => eo k k1 k2⟩
def fM (tx : Int → Int) (n : Int) (Q : SG) : SG := dF (nm tx n 0 9 (nm tx n 0 11 (nm tx n 2 12 (nm tx n 0 99 Q)))) (nv tx n Q) (nv tx n (nm tx n 0 99 Q)) (nv tx n (nm tx n 2 12 (nm tx n 0 99 Q))) (nv tx n (nm tx n 0 11 (nm tx n 2 12 (nm tx n 0 99 Q))))
def hMc (tx : Int → Int) (n : Int) (Q : SG) : SG := dH (nm tx n 0 99 (nm tx n 0 (Q 9 0 - 2) Q)) (nv tx n Q) (nv tx n (nm tx n 0 (Q 9 0 - 2) Q))
def sM (tx : Int → Int) (n : Int) (Q : SG) : SG := dQ (nm tx n 0 12 (nm tx n 0 11 (nm tx n 1 12 (nm tx n 0 (Q 9 0 - 2) Q)))) (nv tx n Q) (nv tx n (nm tx n 0 (Q 9 0 - 2) Q)) (nv tx n (nm tx n 1 12 (nm tx n 0 (Q 9 0 - 2) Q))) (nv tx n (nm tx n 0 11 (nm tx n 1 12 (nm tx n 0 (Q 9 0 - 2) Q))))
def bM (tx : Int → Int) (n : Int) (Q : SG) : SG := up (nm tx n 0 (Q 9 0 - 1) Q) 11 3 (nv tx n Q)
set_option maxRecDepth 100000 in
set_option maxHeartbeats 4000000 in
theorem c_X12_takeField (l : Launch) (K : WK) (σ : SG) {tx : Int → Int} {n : Int} (hT : mtx σ tx n) {Q : SG} (hP : mcx σ Q) (hQ : mQ σ Q) (hb0 : pbd n Q) (hz : Q 11 1 = 0) (hc : 0 ≤ Q 9 0 ∧ Q 9 0 < 8) (hu : 0 ≤ Q 9 0 ∧ Q 9 0 ≤ 8) : MV l yX12_takeField cX12_takeField 2 none 2 50 K σ [.ref (K.2.2 57)] (fun τ => mP τ tx n (fM tx n Q) ∧ mfr σ τ) := by
  refine met_of [(0, .ref (K.2.2 57))] (by decide +kernel) (Nat.le_of_ble_eq_true rfl) rfl ?_
  intro pP eE sS mM bW mT cC B hrt hlk
  replace B : CB pP sS mM [.ref (K.2.2 57)].toArray cC cX12_takeField RX12 2 K := B
  obtain ⟨hT1, hT2, hT3⟩ := id hT
  refine g_iconst (pc' := 1) B dX12_takeField_0 rfl ?_
  refine g_bipush (pc' := 3) B (by decide +kernel) dX12_takeField_1 rfl ?_
  refine g_aload_n (pc' := 4) B 0 rfl rfl dX12_takeField_3 rfl ?_
  refine g_get (pc' := 7) B (Q 9 0) hQ.1 fl_X12_99 rfl rfl dX12_takeField_4 rfl ?_
  refine g_iadd (pc' := 8) B dX12_takeField_7 rfl ?_
  refine g_imul (pc' := 9) B dX12_takeField_8 rfl ?_
  refine g_istore_n (pc' := 10) B [(1, .int (iI (4 * (8 + (Q 9 0))))), (0, .ref (K.2.2 57))] dX12_takeField_9 rfl rfl (by decide) rfl ?_
  refine g_aload_n (pc' := 11) B 1 rfl rfl dX12_takeField_10 rfl ?_
  refine g_getR (pc' := 14) B 60 fl_X12_17 rfl rfl dX12_takeField_11 rfl ?_
  refine g_iload_n (pc' := 15) B 0 rfl rfl dX12_takeField_14 rfl ?_
  refine g_aload_n (pc' := 16) B 1 rfl rfl dX12_takeField_15 rfl ?_
  refine g_iconst (pc' := 17) B dX12_takeField_16 rfl ?_
  refine g_bipush (pc' := 19) B (by decide +kernel) dX12_takeField_17 rfl ?_
  refine g_callVI (pc' := 22) (As := [.int (iI 0), .int (iI 99)]) B (c_X12_takeNumber l K _ (tx := tx) (n := n) (P := Q) (lo := 0) (hi := 99) hT hP hb0 (by omega) (by omega)) vt_X12_takeNumber tw_1066 rfl rfl ⟨by decide, by decide⟩ rfl (Nat.le_of_ble_eq_true rfl) ⟨Nat.zero_le _, Nat.zero_le _⟩ rfl dX12_takeField_19 rfl (fun z19 τ19 h19 => ?_)
  obtain ⟨h19a, h19b, h19c, h19d⟩ := h19
  refine g_iast (pc' := 23) B rfl (by omega) (by decide) dX12_takeField_22 rfl ?_
  have hT22 : mtx (up τ19 60 (4 * (8 + (Q 9 0))) z19) tx n := hT.keep (by rw [up_row (by decide)]; exact h19c 14 (by decide) (by decide) (by decide) (by decide)) (by rw [up_row (by decide)]; exact h19d 63 (by decide))
  have hP22 : mcx (up τ19 60 (4 * (8 + (Q 9 0))) z19) (nm tx n 0 99 Q) := h19a.keep (by rw [up_row (by decide)])
  have hb22 : pbd n (nm tx n 0 99 Q) := nm_bd hb0
  refine g_aload_n (pc' := 24) B 1 rfl rfl dX12_takeField_23 rfl ?_
  refine g_getR (pc' := 27) B 60 fl_X12_17 rfl rfl dX12_takeField_24 rfl ?_
  refine g_iload_n (pc' := 28) B 0 rfl rfl dX12_takeField_27 rfl ?_
  refine g_iconst (pc' := 29) B dX12_takeField_28 rfl ?_
  refine g_iadd (pc' := 30) B dX12_takeField_29 rfl ?_
  refine g_aload_n (pc' := 31) B 1 rfl rfl dX12_takeField_30 rfl ?_
  refine g_iconst (pc' := 32) B dX12_takeField_31 rfl ?_
  refine g_bipush (pc' := 34) B (by decide +kernel) dX12_takeField_32 rfl ?_
  refine g_callVI (pc' := 37) (As := [.int (iI 2), .int (iI 12)]) B (c_X12_takeNumber l K _ (tx := tx) (n := n) (P := nm tx n 0 99 Q) (lo := 2) (hi := 12) hT22 hP22 hb22 (by omega) (by omega)) vt_X12_takeNumber tw_1066 rfl rfl ⟨by decide, by decide⟩ rfl (Nat.le_of_ble_eq_true rfl) ⟨Nat.zero_le _, Nat.zero_le _⟩ rfl dX12_takeField_34 rfl (fun z34 τ34 h34 => ?_)
  obtain ⟨h34a, h34b, h34c, h34d⟩ := h34
  refine g_iast (pc' := 38) B rfl (by omega) (by decide) dX12_takeField_37 rfl ?_
  have hT37 : mtx (up τ34 60 ((4 * (8 + (Q 9 0))) + 1) z34) tx n := hT22.keep (by rw [up_row (by decide)]; exact h34c 14 (by decide) (by decide) (by decide) (by decide)) (by rw [up_row (by decide)]; exact h34d 63 (by decide))
  have hP37 : mcx (up τ34 60 ((4 * (8 + (Q 9 0))) + 1) z34) (nm tx n 2 12 (nm tx n 0 99 Q)) := h34a.keep (by rw [up_row (by decide)])
  have hb37 : pbd n (nm tx n 2 12 (nm tx n 0 99 Q)) := nm_bd hb22
  refine g_aload_n (pc' := 39) B 1 rfl rfl dX12_takeField_38 rfl ?_
  refine g_getR (pc' := 42) B 60 fl_X12_17 rfl rfl dX12_takeField_39 rfl ?_
  refine g_iload_n (pc' := 43) B 0 rfl rfl dX12_takeField_42 rfl ?_
  refine g_iconst (pc' := 44) B dX12_takeField_43 rfl ?_
  refine g_iadd (pc' := 45) B dX12_takeField_44 rfl ?_
  refine g_aload_n (pc' := 46) B 1 rfl rfl dX12_takeField_45 rfl ?_
  refine g_iconst (pc' := 47) B dX12_takeField_46 rfl ?_
  refine g_bipush (pc' := 49) B (by decide +kernel) dX12_takeField_47 rfl ?_
  refine g_callVI (pc' := 52) (As := [.int (iI 0), .int (iI 11)]) B (c_X12_takeNumber l K _ (tx := tx) (n := n) (P := nm tx n 2 12 (nm tx n 0 99 Q)) (lo := 0) (hi := 11) hT37 hP37 hb37 (by omega) (by omega)) vt_X12_takeNumber tw_1066 rfl rfl ⟨by decide, by decide⟩ rfl (Nat.le_of_ble_eq_true rfl) ⟨Nat.zero_le _, Nat.zero_le _⟩ rfl dX12_takeField_49 rfl (fun z49 τ49 h49 => ?_)
  obtain ⟨h49a, h49b, h49c, h49d⟩ := h49
  refine g_iast (pc' := 53) B rfl (by omega) (by decide) dX12_takeField_52 rfl ?_
  have hT52 : mtx (up τ49 60 ((4 * (8 + (Q 9 0))) + 2) z49) tx n := hT37.keep (by rw [up_row (by decide)]; exact h49c 14 (by decide) (by decide) (by decide) (by decide)) (by rw [up_row (by decide)]; exact h49d 63 (by decide))
  have hP52 : mcx (up τ49 60 ((4 * (8 + (Q 9 0))) + 2) z49) (nm tx n 0 11 (nm tx n 2 12 (nm tx n 0 99 Q))) := h49a.keep (by rw [up_row (by decide)])
  have hb52 : pbd n (nm tx n 0 11 (nm tx n 2 12 (nm tx n 0 99 Q))) := nm_bd hb37
  refine g_aload_n (pc' := 54) B 1 rfl rfl dX12_takeField_53 rfl ?_
  refine g_getR (pc' := 57) B 60 fl_X12_17 rfl rfl dX12_takeField_54 rfl ?_
  refine g_iload_n (pc' := 58) B 0 rfl rfl dX12_takeField_57 rfl ?_
  refine g_iconst (pc' := 59) B dX12_takeField_58 rfl ?_
  refine g_iadd (pc' := 60) B dX12_takeField_59 rfl ?_
  refine g_aload_n (pc' := 61) B 1 rfl rfl dX12_takeField_60 rfl ?_
  refine g_iconst (pc' := 62) B dX12_takeField_61 rfl ?_
  refine g_bipush (pc' := 64) B (by decide +kernel) dX12_takeField_62 rfl ?_
  refine g_callVI (pc' := 67) (As := [.int (iI 0), .int (iI 9)]) B (c_X12_takeNumber l K _ (tx := tx) (n := n) (P := nm tx n 0 11 (nm tx n 2 12 (nm tx n 0 99 Q))) (lo := 0) (hi := 9) hT52 hP52 hb52 (by omega) (by omega)) vt_X12_takeNumber tw_1066 rfl rfl ⟨by decide, by decide⟩ rfl (Nat.le_of_ble_eq_true rfl) ⟨Nat.zero_le _, Nat.zero_le _⟩ rfl dX12_takeField_64 rfl (fun z64 τ64 h64 => ?_)
  obtain ⟨h64a, h64b, h64c, h64d⟩ := h64
  refine g_iast (pc' := 68) B rfl (by omega) (by decide) dX12_takeField_67 rfl ?_
  have hT67 : mtx (up τ64 60 ((4 * (8 + (Q 9 0))) + 3) z64) tx n := hT52.keep (by rw [up_row (by decide)]; exact h64c 14 (by decide) (by decide) (by decide) (by decide)) (by rw [up_row (by decide)]; exact h64d 63 (by decide))
  have hP67 : mcx (up τ64 60 ((4 * (8 + (Q 9 0))) + 3) z64) (nm tx n 0 9 (nm tx n 0 11 (nm tx n 2 12 (nm tx n 0 99 Q)))) := h64a.keep (by rw [up_row (by decide)])
  have hb67 : pbd n (nm tx n 0 9 (nm tx n 0 11 (nm tx n 2 12 (nm tx n 0 99 Q)))) := nm_bd hb52
  refine g_aload_n (pc' := 69) B 1 rfl rfl dX12_takeField_68 rfl ?_
  refine g_dup (pc' := 70) B rfl dX12_takeField_69 rfl ?_
  refine g_get (pc' := 73) B (Q 9 0) (by have q9 := ((h64c 8 (by decide) (by decide) (by decide) (by decide)).trans ((h49c 8 (by decide) (by decide) (by decide) (by decide)).trans ((h34c 8 (by decide) (by decide) (by decide) (by decide)).trans ((h19c 8 (by decide) (by decide) (by decide) (by decide)).trans hQ.1)))); simpa [up] using q9) fl_X12_99 rfl rfl dX12_takeField_70 rfl ?_
  refine g_iconst (pc' := 74) B dX12_takeField_73 rfl ?_
  refine g_iadd (pc' := 75) B dX12_takeField_74 rfl ?_
  refine g_put (pc' := 78) B 8 rfl fp_X12_99 rfl rfl dX12_takeField_75 rfl ?_
  exact g_vret B hrt hlk dX12_takeField_78 (tf_end hT hQ hc.1 (fun k hk => by rw [nm_row _ _ _ _ _ k hk, nm_row _ _ _ _ _ k hk, nm_row _ _ _ _ _ k hk, nm_row _ _ _ _ _ k hk]) (by rw [nm_3, nm_3, nm_3, nm_3]) (h64a.keep2 (by rw [up_col (by decide), up_row (by decide)]) (by rw [up_col (by decide), up_row (by decide)]) (by rw [up_col (by decide), up_row (by decide)])) (fun q9 => by have q13 := (nm_zero q9).1; have q12 := (nm_zero q13).1; have q11 := (nm_zero q12).1; exact ⟨h19b q11, h34b q12, h49b q13, h64b q9⟩) (up_same _ _ _ _) (fun j a0 a1 a2 a3 a4 => by rw [up_col a0, up_row (by decide), h64c j a1 a2 a3 a4, up_row (by decide), h49c j a1 a2 a3 a4, up_row (by decide), h34c j a1 a2 a3 a4, up_row (by decide), h19c j a1 a2 a3 a4]) (fun j a0 => by rw [up_row (by decide), up_col (by omega), h64d 60 (by decide), up_col (by omega), h49d 60 (by decide), up_col (by omega), h34d 60 (by decide), up_col (by omega), h19d 60 (by decide)]) (by rw [up_row (by decide), up_col (by omega), h64d 60 (by decide), up_col (by omega), h49d 60 (by decide), up_col (by omega), h34d 60 (by decide), up_same]) (by rw [up_row (by decide), up_col (by omega), h64d 60 (by decide), up_col (by omega), h49d 60 (by decide), up_same]) (by rw [up_row (by decide), up_col (by omega), h64d 60 (by decide), up_same]) (by rw [up_row (by decide), up_same]) (fun k a0 a1 => by rw [up_row a0, up_row a1, h64d k a0, up_row a1, h49d k a0, up_row a1, h34d k a0, up_row a1, h19d k a0]))
set_option maxRecDepth 100000 in
set_option maxHeartbeats 4000000 in
theorem c_X12_takeHouse (l : Launch) (K : WK) (σ : SG) {tx : Int → Int} {n : Int} (hT : mtx σ tx n) {Q : SG} (hP : mcx σ Q) (hQ : mQ σ Q) (hb0 : pbd n Q) (hz : Q 11 1 = 0) (hc : 0 ≤ Q 9 1 ∧ Q 9 1 < 4) (hu : 0 ≤ Q 9 0 ∧ Q 9 0 ≤ 8) : MV l yX12_takeHouse cX12_takeHouse 2 none 2 50 K σ [.ref (K.2.2 57)] (fun τ => mP τ tx n (hMc tx n Q) ∧ mfr σ τ) := by
  refine met_of [(0, .ref (K.2.2 57))] (by decide +kernel) (Nat.le_of_ble_eq_true rfl) rfl ?_
  intro pP eE sS mM bW mT cC B hrt hlk
  replace B : CB pP sS mM [.ref (K.2.2 57)].toArray cC cX12_takeHouse RX12 2 K := B
  obtain ⟨hT1, hT2, hT3⟩ := id hT
  refine g_iconst (pc' := 1) B dX12_takeHouse_0 rfl ?_
  refine g_iconst (pc' := 2) B dX12_takeHouse_1 rfl ?_
  refine g_aload_n (pc' := 3) B 0 rfl rfl dX12_takeHouse_2 rfl ?_
  refine g_get (pc' := 6) B (Q 9 1) hQ.2.1 fl_X12_106 rfl rfl dX12_takeHouse_3 rfl ?_
  refine g_iadd (pc' := 7) B dX12_takeHouse_6 rfl ?_
  refine g_imul (pc' := 8) B dX12_takeHouse_7 rfl ?_
  refine g_istore_n (pc' := 9) B [(1, .int (iI (2 * (4 + (Q 9 1))))), (0, .ref (K.2.2 57))] dX12_takeHouse_8 rfl rfl (by decide) rfl ?_
  refine g_aload_n (pc' := 10) B 1 rfl rfl dX12_takeHouse_9 rfl ?_
  refine g_getR (pc' := 13) B 61 fl_X12_20 rfl rfl dX12_takeHouse_10 rfl ?_
  refine g_iload_n (pc' := 14) B 0 rfl rfl dX12_takeHouse_13 rfl ?_
  refine g_aload_n (pc' := 15) B 1 rfl rfl dX12_takeHouse_14 rfl ?_
  refine g_iconst (pc' := 16) B dX12_takeHouse_15 rfl ?_
  refine g_aload_n (pc' := 17) B 1 rfl rfl dX12_takeHouse_16 rfl ?_
  refine g_get (pc' := 20) B (Q 9 0) hQ.1 fl_X12_99 rfl rfl dX12_takeHouse_17 rfl ?_
  refine g_iconst (pc' := 21) B dX12_takeHouse_20 rfl ?_
  refine g_isub (pc' := 22) B dX12_takeHouse_21 rfl ?_
  refine g_callVI (pc' := 25) (As := [.int (iI 0), .int (iI ((Q 9 0) - 2))]) B (c_X12_takeNumber l K _ (tx := tx) (n := n) (P := Q) (lo := 0) (hi := (Q 9 0) - 2) hT hP hb0 (by omega) (by omega)) vt_X12_takeNumber tw_1066 rfl rfl ⟨by decide, by decide⟩ rfl (Nat.le_of_ble_eq_true rfl) ⟨Nat.zero_le _, Nat.zero_le _⟩ rfl dX12_takeHouse_22 rfl (fun z22 τ22 h22 => ?_)
  obtain ⟨h22a, h22b, h22c, h22d⟩ := h22
  refine g_iast (pc' := 26) B rfl (by omega) (by decide) dX12_takeHouse_25 rfl ?_
  have hT25 : mtx (up τ22 61 (2 * (4 + (Q 9 1))) z22) tx n := hT.keep (by rw [up_row (by decide)]; exact h22c 14 (by decide) (by decide) (by decide) (by decide)) (by rw [up_row (by decide)]; exact h22d 63 (by decide))
  have hP25 : mcx (up τ22 61 (2 * (4 + (Q 9 1))) z22) (nm tx n 0 (Q 9 0 - 2) Q) := h22a.keep (by rw [up_row (by decide)])
  have hb25 : pbd n (nm tx n 0 (Q 9 0 - 2) Q) := nm_bd hb0
  refine g_aload_n (pc' := 27) B 1 rfl rfl dX12_takeHouse_26 rfl ?_
  refine g_getR (pc' := 30) B 61 fl_X12_20 rfl rfl dX12_takeHouse_27 rfl ?_
  refine g_iload_n (pc' := 31) B 0 rfl rfl dX12_takeHouse_30 rfl ?_
  refine g_iconst (pc' := 32) B dX12_takeHouse_31 rfl ?_
  refine g_iadd (pc' := 33) B dX12_takeHouse_32 rfl ?_
  refine g_aload_n (pc' := 34) B 1 rfl rfl dX12_takeHouse_33 rfl ?_
  refine g_iconst (pc' := 35) B dX12_takeHouse_34 rfl ?_
  refine g_bipush (pc' := 37) B (by decide +kernel) dX12_takeHouse_35 rfl ?_
  refine g_callVI (pc' := 40) (As := [.int (iI 0), .int (iI 99)]) B (c_X12_takeNumber l K _ (tx := tx) (n := n) (P := nm tx n 0 (Q 9 0 - 2) Q) (lo := 0) (hi := 99) hT25 hP25 hb25 (by omega) (by omega)) vt_X12_takeNumber tw_1066 rfl rfl ⟨by decide, by decide⟩ rfl (Nat.le_of_ble_eq_true rfl) ⟨Nat.zero_le _, Nat.zero_le _⟩ rfl dX12_takeHouse_37 rfl (fun z37 τ37 h37 => ?_)
  obtain ⟨h37a, h37b, h37c, h37d⟩ := h37
  refine g_iast (pc' := 41) B rfl (by omega) (by decide) dX12_takeHouse_40 rfl ?_
  have hT40 : mtx (up τ37 61 ((2 * (4 + (Q 9 1))) + 1) z37) tx n := hT25.keep (by rw [up_row (by decide)]; exact h37c 14 (by decide) (by decide) (by decide) (by decide)) (by rw [up_row (by decide)]; exact h37d 63 (by decide))
  have hP40 : mcx (up τ37 61 ((2 * (4 + (Q 9 1))) + 1) z37) (nm tx n 0 99 (nm tx n 0 (Q 9 0 - 2) Q)) := h37a.keep (by rw [up_row (by decide)])
  have hb40 : pbd n (nm tx n 0 99 (nm tx n 0 (Q 9 0 - 2) Q)) := nm_bd hb25
  refine g_aload_n (pc' := 42) B 1 rfl rfl dX12_takeHouse_41 rfl ?_
  refine g_dup (pc' := 43) B rfl dX12_takeHouse_42 rfl ?_
  refine g_get (pc' := 46) B (Q 9 1) (by have q9 := ((h37c 9 (by decide) (by decide) (by decide) (by decide)).trans ((h22c 9 (by decide) (by decide) (by decide) (by decide)).trans hQ.2.1)); simpa [up] using q9) fl_X12_106 rfl rfl dX12_takeHouse_43 rfl ?_
  refine g_iconst (pc' := 47) B dX12_takeHouse_46 rfl ?_
  refine g_iadd (pc' := 48) B dX12_takeHouse_47 rfl ?_
  refine g_put (pc' := 51) B 9 rfl fp_X12_106 rfl rfl dX12_takeHouse_48 rfl ?_
  exact g_vret B hrt hlk dX12_takeHouse_51 (th_end hT hQ hc.1 (fun k hk => by rw [nm_row _ _ _ _ _ k hk, nm_row _ _ _ _ _ k hk]) (by rw [nm_3, nm_3]) (h37a.keep2 (by rw [up_col (by decide), up_row (by decide)]) (by rw [up_col (by decide), up_row (by decide)]) (by rw [up_col (by decide), up_row (by decide)])) (fun q9 => by have q11 := (nm_zero q9).1; exact ⟨h22b q11, h37b q9⟩) (up_same _ _ _ _) (fun j a0 a1 a2 a3 a4 => by rw [up_col a0, up_row (by decide), h37c j a1 a2 a3 a4, up_row (by decide), h22c j a1 a2 a3 a4]) (fun j a0 => by rw [up_row (by decide), up_col (by omega), h37d 61 (by decide), up_col (by omega), h22d 61 (by decide)]) (by rw [up_row (by decide), up_col (by omega), h37d 61 (by decide), up_same]) (by rw [up_row (by decide), up_same]) (fun k a0 a1 => by rw [up_row a0, up_row a1, h37d k a0, up_row a1, h22d k a0]))
set_option maxRecDepth 100000 in
set_option maxHeartbeats 4000000 in
theorem c_X12_takeSeam (l : Launch) (K : WK) (σ : SG) {tx : Int → Int} {n : Int} (hT : mtx σ tx n) {Q : SG} (hP : mcx σ Q) (hQ : mQ σ Q) (hb0 : pbd n Q) (hz : Q 11 1 = 0) (hc : 0 ≤ Q 9 2 ∧ Q 9 2 < 4) (hu : 0 ≤ Q 9 0 ∧ Q 9 0 ≤ 8) : MV l yX12_takeSeam cX12_takeSeam 2 none 2 50 K σ [.ref (K.2.2 57)] (fun τ => mP τ tx n (sM tx n Q) ∧ mfr σ τ) := by
  refine met_of [(0, .ref (K.2.2 57))] (by decide +kernel) (Nat.le_of_ble_eq_true rfl) rfl ?_
  intro pP eE sS mM bW mT cC B hrt hlk
  replace B : CB pP sS mM [.ref (K.2.2 57)].toArray cC cX12_takeSeam RX12 2 K := B
  obtain ⟨hT1, hT2, hT3⟩ := id hT
  refine g_iconst (pc' := 1) B dX12_takeSeam_0 rfl ?_
  refine g_iconst (pc' := 2) B dX12_takeSeam_1 rfl ?_
  refine g_aload_n (pc' := 3) B 0 rfl rfl dX12_takeSeam_2 rfl ?_
  refine g_get (pc' := 6) B (Q 9 2) hQ.2.2.1 fl_X12_109 rfl rfl dX12_takeSeam_3 rfl ?_
  refine g_iadd (pc' := 7) B dX12_takeSeam_6 rfl ?_
  refine g_imul (pc' := 8) B dX12_takeSeam_7 rfl ?_
  refine g_istore_n (pc' := 9) B [(1, .int (iI (4 * (4 + (Q 9 2))))), (0, .ref (K.2.2 57))] dX12_takeSeam_8 rfl rfl (by decide) rfl ?_
  refine g_aload_n (pc' := 10) B 1 rfl rfl dX12_takeSeam_9 rfl ?_
  refine g_getR (pc' := 13) B 62 fl_X12_23 rfl rfl dX12_takeSeam_10 rfl ?_
  refine g_iload_n (pc' := 14) B 0 rfl rfl dX12_takeSeam_13 rfl ?_
  refine g_aload_n (pc' := 15) B 1 rfl rfl dX12_takeSeam_14 rfl ?_
  refine g_iconst (pc' := 16) B dX12_takeSeam_15 rfl ?_
  refine g_aload_n (pc' := 17) B 1 rfl rfl dX12_takeSeam_16 rfl ?_
  refine g_get (pc' := 20) B (Q 9 0) hQ.1 fl_X12_99 rfl rfl dX12_takeSeam_17 rfl ?_
  refine g_iconst (pc' := 21) B dX12_takeSeam_20 rfl ?_
  refine g_isub (pc' := 22) B dX12_takeSeam_21 rfl ?_
  refine g_callVI (pc' := 25) (As := [.int (iI 0), .int (iI ((Q 9 0) - 2))]) B (c_X12_takeNumber l K _ (tx := tx) (n := n) (P := Q) (lo := 0) (hi := (Q 9 0) - 2) hT hP hb0 (by omega) (by omega)) vt_X12_takeNumber tw_1066 rfl rfl ⟨by decide, by decide⟩ rfl (Nat.le_of_ble_eq_true rfl) ⟨Nat.zero_le _, Nat.zero_le _⟩ rfl dX12_takeSeam_22 rfl (fun z22 τ22 h22 => ?_)
  obtain ⟨h22a, h22b, h22c, h22d⟩ := h22
  refine g_iast (pc' := 26) B rfl (by omega) (by decide) dX12_takeSeam_25 rfl ?_
  have hT25 : mtx (up τ22 62 (4 * (4 + (Q 9 2))) z22) tx n := hT.keep (by rw [up_row (by decide)]; exact h22c 14 (by decide) (by decide) (by decide) (by decide)) (by rw [up_row (by decide)]; exact h22d 63 (by decide))
  have hP25 : mcx (up τ22 62 (4 * (4 + (Q 9 2))) z22) (nm tx n 0 (Q 9 0 - 2) Q) := h22a.keep (by rw [up_row (by decide)])
  have hb25 : pbd n (nm tx n 0 (Q 9 0 - 2) Q) := nm_bd hb0
  refine g_aload_n (pc' := 27) B 1 rfl rfl dX12_takeSeam_26 rfl ?_
  refine g_getR (pc' := 30) B 62 fl_X12_23 rfl rfl dX12_takeSeam_27 rfl ?_
  refine g_iload_n (pc' := 31) B 0 rfl rfl dX12_takeSeam_30 rfl ?_
  refine g_iconst (pc' := 32) B dX12_takeSeam_31 rfl ?_
  refine g_iadd (pc' := 33) B dX12_takeSeam_32 rfl ?_
  refine g_aload_n (pc' := 34) B 1 rfl rfl dX12_takeSeam_33 rfl ?_
  refine g_iconst (pc' := 35) B dX12_takeSeam_34 rfl ?_
  refine g_bipush (pc' := 37) B (by decide +kernel) dX12_takeSeam_35 rfl ?_
  refine g_callVI (pc' := 40) (As := [.int (iI 1), .int (iI 12)]) B (c_X12_takeNumber l K _ (tx := tx) (n := n) (P := nm tx n 0 (Q 9 0 - 2) Q) (lo := 1) (hi := 12) hT25 hP25 hb25 (by omega) (by omega)) vt_X12_takeNumber tw_1066 rfl rfl ⟨by decide, by decide⟩ rfl (Nat.le_of_ble_eq_true rfl) ⟨Nat.zero_le _, Nat.zero_le _⟩ rfl dX12_takeSeam_37 rfl (fun z37 τ37 h37 => ?_)
  obtain ⟨h37a, h37b, h37c, h37d⟩ := h37
  refine g_iast (pc' := 41) B rfl (by omega) (by decide) dX12_takeSeam_40 rfl ?_
  have hT40 : mtx (up τ37 62 ((4 * (4 + (Q 9 2))) + 1) z37) tx n := hT25.keep (by rw [up_row (by decide)]; exact h37c 14 (by decide) (by decide) (by decide) (by decide)) (by rw [up_row (by decide)]; exact h37d 63 (by decide))
  have hP40 : mcx (up τ37 62 ((4 * (4 + (Q 9 2))) + 1) z37) (nm tx n 1 12 (nm tx n 0 (Q 9 0 - 2) Q)) := h37a.keep (by rw [up_row (by decide)])
  have hb40 : pbd n (nm tx n 1 12 (nm tx n 0 (Q 9 0 - 2) Q)) := nm_bd hb25
  refine g_aload_n (pc' := 42) B 1 rfl rfl dX12_takeSeam_41 rfl ?_
  refine g_getR (pc' := 45) B 62 fl_X12_23 rfl rfl dX12_takeSeam_42 rfl ?_
  refine g_iload_n (pc' := 46) B 0 rfl rfl dX12_takeSeam_45 rfl ?_
  refine g_iconst (pc' := 47) B dX12_takeSeam_46 rfl ?_
  refine g_iadd (pc' := 48) B dX12_takeSeam_47 rfl ?_
  refine g_aload_n (pc' := 49) B 1 rfl rfl dX12_takeSeam_48 rfl ?_
  refine g_iconst (pc' := 50) B dX12_takeSeam_49 rfl ?_
  refine g_bipush (pc' := 52) B (by decide +kernel) dX12_takeSeam_50 rfl ?_
  refine g_callVI (pc' := 55) (As := [.int (iI 0), .int (iI 11)]) B (c_X12_takeNumber l K _ (tx := tx) (n := n) (P := nm tx n 1 12 (nm tx n 0 (Q 9 0 - 2) Q)) (lo := 0) (hi := 11) hT40 hP40 hb40 (by omega) (by omega)) vt_X12_takeNumber tw_1066 rfl rfl ⟨by decide, by decide⟩ rfl (Nat.le_of_ble_eq_true rfl) ⟨Nat.zero_le _, Nat.zero_le _⟩ rfl dX12_takeSeam_52 rfl (fun z52 τ52 h52 => ?_)
  obtain ⟨h52a, h52b, h52c, h52d⟩ := h52
  refine g_iast (pc' := 56) B rfl (by omega) (by decide) dX12_takeSeam_55 rfl ?_
  have hT55 : mtx (up τ52 62 ((4 * (4 + (Q 9 2))) + 2) z52) tx n := hT40.keep (by rw [up_row (by decide)]; exact h52c 14 (by decide) (by decide) (by decide) (by decide)) (by rw [up_row (by decide)]; exact h52d 63 (by decide))
  have hP55 : mcx (up τ52 62 ((4 * (4 + (Q 9 2))) + 2) z52) (nm tx n 0 11 (nm tx n 1 12 (nm tx n 0 (Q 9 0 - 2) Q))) := h52a.keep (by rw [up_row (by decide)])
  have hb55 : pbd n (nm tx n 0 11 (nm tx n 1 12 (nm tx n 0 (Q 9 0 - 2) Q))) := nm_bd hb40
  refine g_aload_n (pc' := 57) B 1 rfl rfl dX12_takeSeam_56 rfl ?_
  refine g_getR (pc' := 60) B 62 fl_X12_23 rfl rfl dX12_takeSeam_57 rfl ?_
  refine g_iload_n (pc' := 61) B 0 rfl rfl dX12_takeSeam_60 rfl ?_
  refine g_iconst (pc' := 62) B dX12_takeSeam_61 rfl ?_
  refine g_iadd (pc' := 63) B dX12_takeSeam_62 rfl ?_
  refine g_aload_n (pc' := 64) B 1 rfl rfl dX12_takeSeam_63 rfl ?_
  refine g_iconst (pc' := 65) B dX12_takeSeam_64 rfl ?_
  refine g_bipush (pc' := 67) B (by decide +kernel) dX12_takeSeam_65 rfl ?_
  refine g_callVI (pc' := 70) (As := [.int (iI 0), .int (iI 12)]) B (c_X12_takeNumber l K _ (tx := tx) (n := n) (P := nm tx n 0 11 (nm tx n 1 12 (nm tx n 0 (Q 9 0 - 2) Q))) (lo := 0) (hi := 12) hT55 hP55 hb55 (by omega) (by omega)) vt_X12_takeNumber tw_1066 rfl rfl ⟨by decide, by decide⟩ rfl (Nat.le_of_ble_eq_true rfl) ⟨Nat.zero_le _, Nat.zero_le _⟩ rfl dX12_takeSeam_67 rfl (fun z67 τ67 h67 => ?_)
  obtain ⟨h67a, h67b, h67c, h67d⟩ := h67
  refine g_iast (pc' := 71) B rfl (by omega) (by decide) dX12_takeSeam_70 rfl ?_
  have hT70 : mtx (up τ67 62 ((4 * (4 + (Q 9 2))) + 3) z67) tx n := hT55.keep (by rw [up_row (by decide)]; exact h67c 14 (by decide) (by decide) (by decide) (by decide)) (by rw [up_row (by decide)]; exact h67d 63 (by decide))
  have hP70 : mcx (up τ67 62 ((4 * (4 + (Q 9 2))) + 3) z67) (nm tx n 0 12 (nm tx n 0 11 (nm tx n 1 12 (nm tx n 0 (Q 9 0 - 2) Q)))) := h67a.keep (by rw [up_row (by decide)])
  have hb70 : pbd n (nm tx n 0 12 (nm tx n 0 11 (nm tx n 1 12 (nm tx n 0 (Q 9 0 - 2) Q)))) := nm_bd hb55
  refine g_aload_n (pc' := 72) B 1 rfl rfl dX12_takeSeam_71 rfl ?_
  refine g_dup (pc' := 73) B rfl dX12_takeSeam_72 rfl ?_
  refine g_get (pc' := 76) B (Q 9 2) (by have q9 := ((h67c 10 (by decide) (by decide) (by decide) (by decide)).trans ((h52c 10 (by decide) (by decide) (by decide) (by decide)).trans ((h37c 10 (by decide) (by decide) (by decide) (by decide)).trans ((h22c 10 (by decide) (by decide) (by decide) (by decide)).trans hQ.2.2.1)))); simpa [up] using q9) fl_X12_109 rfl rfl dX12_takeSeam_73 rfl ?_
  refine g_iconst (pc' := 77) B dX12_takeSeam_76 rfl ?_
  refine g_iadd (pc' := 78) B dX12_takeSeam_77 rfl ?_
  refine g_put (pc' := 81) B 10 rfl fp_X12_109 rfl rfl dX12_takeSeam_78 rfl ?_
  exact g_vret B hrt hlk dX12_takeSeam_81 (ts_end hT hQ hc.1 (fun k hk => by rw [nm_row _ _ _ _ _ k hk, nm_row _ _ _ _ _ k hk, nm_row _ _ _ _ _ k hk, nm_row _ _ _ _ _ k hk]) (by rw [nm_3, nm_3, nm_3, nm_3]) (h67a.keep2 (by rw [up_col (by decide), up_row (by decide)]) (by rw [up_col (by decide), up_row (by decide)]) (by rw [up_col (by decide), up_row (by decide)])) (fun q9 => by have q13 := (nm_zero q9).1; have q12 := (nm_zero q13).1; have q11 := (nm_zero q12).1; exact ⟨h22b q11, h37b q12, h52b q13, h67b q9⟩) (up_same _ _ _ _) (fun j a0 a1 a2 a3 a4 => by rw [up_col a0, up_row (by decide), h67c j a1 a2 a3 a4, up_row (by decide), h52c j a1 a2 a3 a4, up_row (by decide), h37c j a1 a2 a3 a4, up_row (by decide), h22c j a1 a2 a3 a4]) (fun j a0 => by rw [up_row (by decide), up_col (by omega), h67d 62 (by decide), up_col (by omega), h52d 62 (by decide), up_col (by omega), h37d 62 (by decide), up_col (by omega), h22d 62 (by decide)]) (by rw [up_row (by decide), up_col (by omega), h67d 62 (by decide), up_col (by omega), h52d 62 (by decide), up_col (by omega), h37d 62 (by decide), up_same]) (by rw [up_row (by decide), up_col (by omega), h67d 62 (by decide), up_col (by omega), h52d 62 (by decide), up_same]) (by rw [up_row (by decide), up_col (by omega), h67d 62 (by decide), up_same]) (by rw [up_row (by decide), up_same]) (fun k a0 a1 => by rw [up_row a0, up_row a1, h67d k a0, up_row a1, h52d k a0, up_row a1, h37d k a0, up_row a1, h22d k a0]))
