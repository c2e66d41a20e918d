def eqP (P Q : SG) : Prop := P 11 1 = Q 11 1 ∧ P 11 2 = Q 11 2 ∧ (P 11 1 = 0 → P = Q)
theorem eqP.rf {P : SG} : eqP P P := ⟨rfl, rfl, fun _ => rfl⟩
theorem mP.eqv {σ : SG} {tx : Int → Int} {n : Int} {P Q : SG} (h : mP σ tx n P) (e : eqP P Q) : mP σ tx n Q := by
  obtain ⟨e1, e2, e3⟩ := e
  obtain ⟨h1, ⟨h2, h3, h4⟩, h5⟩ := h
  refine ⟨h1, ⟨by rw [← e1]; exact h2, by rw [← e2]; exact h3, fun z => ?_⟩, fun z => ?_⟩
  · have z2 : P 11 1 = 0 := by rw [e1]; exact z
    rw [← e3 z2]; exact h4 z2
  · have z2 : P 11 1 = 0 := by rw [e1]; exact z
    rw [← e3 z2]; exact h5 z2
theorem up_11 {σ : SG} {k : Nat} {i v w : Int} (h : k ≠ 11) : up (up σ k i v) 11 0 w = up (up σ 11 0 w) k i v := by
  funext a b
  unfold up
  by_cases h1 : a = 11 ∧ b = 0
  · have h2 : ¬ (a = k ∧ b = i) := fun q => h (q.1.symm.trans h1.1)
    rw [if_pos h1, if_neg h2, if_pos h1]
  · rw [if_neg h1]
    by_cases h2 : a = k ∧ b = i
    · rw [if_pos h2, if_pos h2]
    · rw [if_neg h2, if_neg h2, if_neg h1]
theorem up_113 {σ : SG} {v w : Int} : up (up σ 11 3 v) 11 0 w = up (up σ 11 0 w) 11 3 v := by
  funext a b
  unfold up
  by_cases h1 : a = 11 ∧ b = 0
  · have h2 : ¬ (a = 11 ∧ b = 3) := fun q => by have := q.2; have := h1.2; omega
    rw [if_pos h1, if_neg h2, if_pos h1]
  · rw [if_neg h1]
    by_cases h2 : a = 11 ∧ b = 3
    · rw [if_pos h2, if_pos h2]
    · rw [if_neg h2, if_neg h2, if_neg h1]
theorem dF_op (P : SG) (b m l s v : Int) : dF (up P 11 0 v) b m l s = up (dF P b m l s) 11 0 v := by
  have e : (up P 11 0 v) 9 = P 9 := up_row (by decide)
  unfold dF
  rw [e, up_11 (by decide), up_11 (by decide), up_11 (by decide), up_11 (by decide), up_11 (by decide), up_11 (by decide)]
theorem dH_op (P : SG) (f s v : Int) : dH (up P 11 0 v) f s = up (dH P f s) 11 0 v := by
  have e : (up P 11 0 v) 9 = P 9 := up_row (by decide)
  unfold dH
  rw [e, up_11 (by decide), up_11 (by decide), up_11 (by decide)]
theorem dQ_op (P : SG) (f p r w v : Int) : dQ (up P 11 0 v) f p r w = up (dQ P f p r w) 11 0 v := by
  have e : (up P 11 0 v) 9 = P 9 := up_row (by decide)
  unfold dQ
  rw [e, up_11 (by decide), up_11 (by decide), up_11 (by decide), up_11 (by decide), up_11 (by decide)]
theorem ne_f {tx : Int → Int} {n : Int} {P : SG} (h : P 11 1 ≠ 0) : ne tx n P = P := if_neg h
theorem ne_op {tx : Int → Int} {n : Int} {R : SG} (X : SG → SG) (h0 : X R 11 0 = R 11 0) (h1 : X R 11 1 = R 11 1) (h2 : X R 11 2 = R 11 2) (hc : ∀ v : Int, X (up R 11 0 v) = up (X R) 11 0 v) : eqP (ne tx n (X R)) (if ne tx n R 11 1 = 0 then X (ne tx n R) else ne tx n R) := by
  by_cases z : R 11 1 = 0
  · by_cases q : lh tx n (sb tx n (R 11 0)) = 59
    · have e1 : ne tx n R = up R 11 0 (sb tx n (R 11 0) + 1) := by unfold ne; rw [if_pos z, if_pos q]
      have e2 : ne tx n (X R) = up (X R) 11 0 (sb tx n (R 11 0) + 1) := by unfold ne; rw [h1, if_pos z, h0, if_pos q]
      rw [e1, e2, if_pos (by rw [up_col (by decide)]; exact z), hc]
      exact eqP.rf
    · have e1 : ne tx n R = up (up (up R 11 0 (sb tx n (R 11 0))) 11 1 1) 11 2 (sb tx n (R 11 0)) := by unfold ne; rw [if_pos z, if_neg q]
      have e2 : ne tx n (X R) = up (up (up (X R) 11 0 (sb tx n (R 11 0))) 11 1 1) 11 2 (sb tx n (R 11 0)) := by unfold ne; rw [h1, if_pos z, h0, if_neg q]
      have e3 : ne tx n R 11 1 = 1 := by rw [e1]; simp [up]
      rw [if_neg (by rw [e3]; decide), e1, e2]
      refine ⟨by simp [up], by simp [up], fun q2 => ?_⟩
      simp [up] at q2
  · rw [ne_f (P := X R) (by rw [h1]; exact z), ne_f z, if_neg z]
    exact ⟨h1, h2, fun q => absurd (h1.symm.trans q) z⟩
/-- a clause without its end, as the reference reads it -/
def clM (tx : Int → Int) (n : Int) (P : SG) : SG := if lh tx n (P 11 0) = 102 then (if P 9 0 < 8 then fM tx n (wd 0 P) else up (up P 11 1 3) 11 2 (P 11 0)) else if lh tx n (P 11 0) = 104 then (if P 9 1 < 4 then hMc tx n (wd 0 P) else up (up P 11 1 3) 11 2 (P 11 0)) else if lh tx n (P 11 0) = 115 then (if P 9 2 < 4 then sM tx n (wd 0 P) else up (up P 11 1 3) 11 2 (P 11 0)) else if lh tx n (P 11 0) = 98 then (if P 11 3 = -1 then bM tx n (wd 0 P) else up (up P 11 1 3) 11 2 (P 11 0)) else up (up P 11 1 1) 11 2 (P 11 0)
theorem wd1 (P : SG) : wd 1 P = up (up P 11 1 3) 11 2 (P 11 0) := by unfold wd; rw [if_neg (by decide)]
theorem wd1_f (P : SG) : wd 1 P 11 1 ≠ 0 := by rw [wd1]; simp [up]
theorem cl_eq {tx : Int → Int} {n : Int} {P : SG} : eqP (ne tx n (clM tx n P)) (cl tx n P) := by
  have hw := wd1_f P
  have e9 : (wd 0 P) 9 0 = P 9 0 := by rw [wd_row 0 P 9 (by decide)]
  unfold cl clM
  by_cases c1 : lh tx n (P 11 0) = 102
  · rw [if_pos c1, if_pos c1]
    by_cases q : P 9 0 < 8
    · have e : fC tx n P = (fun Q => if f6 tx n Q 11 1 = 0 then dF (f6 tx n Q) (nv tx n Q) (nv tx n (nm tx n 0 99 Q)) (nv tx n (nm tx n 2 12 (nm tx n 0 99 Q))) (nv tx n (nm tx n 0 11 (nm tx n 2 12 (nm tx n 0 99 Q)))) else f6 tx n Q) (wd 0 P) := by unfold fC; rw [if_pos q]
      rw [if_pos q, e]
      exact ne_op (fun R => dF R (nv tx n (wd 0 P)) (nv tx n (nm tx n 0 99 (wd 0 P))) (nv tx n (nm tx n 2 12 (nm tx n 0 99 (wd 0 P)))) (nv tx n (nm tx n 0 11 (nm tx n 2 12 (nm tx n 0 99 (wd 0 P)))))) (by rw [dF_11]) (by rw [dF_11]) (by rw [dF_11]) (fun v => dF_op _ _ _ _ _ v)
    · have e1 : f6 tx n (wd 1 P) = wd 1 P := by unfold f6; rw [nm_f hw, nm_f hw, nm_f hw, nm_f hw, ne_f hw]
      have e : fC tx n P = wd 1 P := by
        unfold fC
        rw [if_neg q]
        show (if f6 tx n (wd 1 P) 11 1 = 0 then _ else f6 tx n (wd 1 P)) = _
        rw [e1, if_neg hw]
      rw [if_neg q, e, ← wd1, ne_f hw]
      exact eqP.rf
  · rw [if_neg c1, if_neg c1]
    by_cases c2 : lh tx n (P 11 0) = 104
    · rw [if_pos c2, if_pos c2]
      by_cases q : P 9 1 < 4
      · have e : hC tx n P = (fun Q => if h4 tx n (P 9 0) Q 11 1 = 0 then dH (h4 tx n (P 9 0) Q) (nv tx n Q) (nv tx n (nm tx n 0 (P 9 0 - 2) Q)) else h4 tx n (P 9 0) Q) (wd 0 P) := by unfold hC; rw [if_pos q]
        rw [if_pos q, e]
        unfold hMc
        rw [e9]
        exact ne_op (fun R => dH R (nv tx n (wd 0 P)) (nv tx n (nm tx n 0 (P 9 0 - 2) (wd 0 P)))) (by rw [dH_11]) (by rw [dH_11]) (by rw [dH_11]) (fun v => dH_op _ _ _ v)
      · have e1 : h4 tx n (P 9 0) (wd 1 P) = wd 1 P := by unfold h4; rw [nm_f hw, nm_f hw, ne_f hw]
        have e : hC tx n P = wd 1 P := by
          unfold hC
          rw [if_neg q]
          show (if h4 tx n (P 9 0) (wd 1 P) 11 1 = 0 then _ else h4 tx n (P 9 0) (wd 1 P)) = _
          rw [e1, if_neg hw]
        rw [if_neg q, e, ← wd1, ne_f hw]
        exact eqP.rf
    · rw [if_neg c2, if_neg c2]
      by_cases c3 : lh tx n (P 11 0) = 115
      · rw [if_pos c3, if_pos c3]
        by_cases q : P 9 2 < 4
        · have e : sC tx n P = (fun Q => if s6 tx n (P 9 0) Q 11 1 = 0 then dQ (s6 tx n (P 9 0) Q) (nv tx n Q) (nv tx n (nm tx n 0 (P 9 0 - 2) Q)) (nv tx n (nm tx n 1 12 (nm tx n 0 (P 9 0 - 2) Q))) (nv tx n (nm tx n 0 11 (nm tx n 1 12 (nm tx n 0 (P 9 0 - 2) Q)))) else s6 tx n (P 9 0) Q) (wd 0 P) := by unfold sC; rw [if_pos q]
          rw [if_pos q, e]
          unfold sM
          rw [e9]
          exact ne_op (fun R => dQ R (nv tx n (wd 0 P)) (nv tx n (nm tx n 0 (P 9 0 - 2) (wd 0 P))) (nv tx n (nm tx n 1 12 (nm tx n 0 (P 9 0 - 2) (wd 0 P)))) (nv tx n (nm tx n 0 11 (nm tx n 1 12 (nm tx n 0 (P 9 0 - 2) (wd 0 P)))))) (by rw [dQ_11]) (by rw [dQ_11]) (by rw [dQ_11]) (fun v => dQ_op _ _ _ _ _ v)
        · have e1 : s6 tx n (P 9 0) (wd 1 P) = wd 1 P := by unfold s6; rw [nm_f hw, nm_f hw, nm_f hw, nm_f hw, ne_f hw]
          have e : sC tx n P = wd 1 P := by
            unfold sC
            rw [if_neg q]
            show (if s6 tx n (P 9 0) (wd 1 P) 11 1 = 0 then _ else s6 tx n (P 9 0) (wd 1 P)) = _
            rw [e1, if_neg hw]
          rw [if_neg q, e, ← wd1, ne_f hw]
          exact eqP.rf
      · rw [if_neg c3, if_neg c3]
        by_cases c4 : lh tx n (P 11 0) = 98
        · rw [if_pos c4, if_pos c4]
          by_cases q : P 11 3 = -1
          · have e : bC tx n P = (fun Q => if b3 tx n (P 9 0) Q 11 1 = 0 then up (b3 tx n (P 9 0) Q) 11 3 (nv tx n Q) else b3 tx n (P 9 0) Q) (wd 0 P) := by unfold bC; rw [if_pos q]
            rw [if_pos q, e]
            unfold bM
            rw [e9]
            exact ne_op (fun R => up R 11 3 (nv tx n (wd 0 P))) (up_col (by decide)) (up_col (by decide)) (up_col (by decide)) (fun v => up_113.symm)
          · have e1 : b3 tx n (P 9 0) (wd 1 P) = wd 1 P := by unfold b3; rw [nm_f hw, ne_f hw]
            have e : bC tx n P = wd 1 P := by
              unfold bC
              rw [if_neg q]
              show (if b3 tx n (P 9 0) (wd 1 P) 11 1 = 0 then _ else b3 tx n (P 9 0) (wd 1 P)) = _
              rw [e1, if_neg hw]
            rw [if_neg q, e, ← wd1, ne_f hw]
            exact eqP.rf
        · rw [if_neg c4, if_neg c4, ne_f (by simp [up])]
          exact eqP.rf
theorem mP_wd0 {σ τ : SG} {tx : Int → Int} {n : Int} {P : SG} (h : mP σ tx n P) (h0 : P 11 1 = 0) (e1 : τ 57 15 = P 11 0 + 1) (e2 : ∀ j : Int, j ≠ 15 → τ 57 j = σ 57 j) (e3 : ∀ k, k ≠ 57 → τ k = σ k) : mP τ tx n (wd 0 P) := by
  obtain ⟨a, ⟨b1, b2, b3⟩, c⟩ := h
  have ew : wd 0 P = up P 11 0 (P 11 0 + 1) := by unfold wd; rw [if_pos rfl]
  have w1 : up P 11 0 (P 11 0 + 1) 11 1 = P 11 1 := up_col (by decide)
  have w2 : up P 11 0 (P 11 0 + 1) 11 2 = P 11 2 := up_col (by decide)
  have w3 : up P 11 0 (P 11 0 + 1) 11 3 = P 11 3 := up_col (by decide)
  rw [ew]
  refine ⟨a.keep (e2 14 (by decide)) (e3 63 (by decide)), ⟨by rw [w1, e2 17 (by decide)]; exact b1, by rw [w2, e2 18 (by decide)]; exact b2, fun _ => by rw [up_same]; exact e1⟩, fun _ => ?_⟩
  obtain ⟨q1, q2, q3, q4, q5, q6, q7, q8⟩ := c h0
  unfold mQ
  rw [w3, up_row (show (9 : Nat) ≠ 11 by decide), up_row (show (0 : Nat) ≠ 11 by decide), up_row (show (1 : Nat) ≠ 11 by decide), up_row (show (2 : Nat) ≠ 11 by decide), up_row (show (3 : Nat) ≠ 11 by decide), up_row (show (4 : Nat) ≠ 11 by decide), up_row (show (5 : Nat) ≠ 11 by decide), up_row (show (6 : Nat) ≠ 11 by decide), up_row (show (7 : Nat) ≠ 11 by decide), up_row (show (8 : Nat) ≠ 11 by decide), up_row (show (10 : Nat) ≠ 11 by decide), e2 8 (by decide), e2 9 (by decide), e2 10 (by decide), e2 11 (by decide), e2 12 (by decide), e3 60 (by decide), e3 61 (by decide), e3 62 (by decide)]
  exact ⟨q1, q2, q3, q4, q5, q6, q7, q8⟩
theorem mP_flt {σ τ : SG} {tx : Int → Int} {n c : Int} {P : SG} (h : mP σ tx n P) (hc : c ≠ 0) (e17 : τ 57 17 = c) (e18 : τ 57 18 = P 11 0) (e14 : τ 57 14 = σ 57 14) (e63 : τ 63 = σ 63) : mP τ tx n (up (up P 11 1 c) 11 2 (P 11 0)) := by
  have w1 : up (up P 11 1 c) 11 2 (P 11 0) 11 1 = c := by rw [up_col (by decide), up_same]
  refine ⟨h.1.keep e14 e63, ⟨by rw [w1]; exact e17, by rw [up_same]; exact e18, fun z => ?_⟩, fun z => ?_⟩
  · rw [w1] at z; exact absurd z hc
  · rw [w1] at z; exact absurd z hc
theorem tb_end {σ T Q : SG} {tx : Int → Int} {n z : Int} (hT : mtx σ tx n) (hQ : mQ σ Q) (a : mcx T (nm tx n 0 (Q 9 0 - 1) Q)) (b : nm tx n 0 (Q 9 0 - 1) Q 11 1 = 0 → z = nv tx n Q)
    (e11 : T 57 11 = z) (e12 : T 57 12 = 1) (e57 : ∀ j : Int, j ≠ 11 → j ≠ 12 → j ≠ 15 → j ≠ 16 → j ≠ 17 → j ≠ 18 → T 57 j = σ 57 j) (eo : ∀ k, k ≠ 57 → T k = σ k) : mP T tx n (bM tx n Q) ∧ mfr σ T := by
  obtain ⟨q1, q2, q3, q4, q5, q6, q7, q8⟩ := hQ
  have eR := nm_row tx n 0 (Q 9 0 - 1) Q
  have nz := @nm_zero tx n 0 (Q 9 0 - 1) Q
  unfold bM
  generalize nm tx n 0 (Q 9 0 - 1) Q = R at *
  have w0 : up R 11 3 (nv tx n Q) 11 0 = R 11 0 := up_col (by decide)
  have w1 : up R 11 3 (nv tx n Q) 11 1 = R 11 1 := up_col (by decide)
  have w2 : up R 11 3 (nv tx n Q) 11 2 = R 11 2 := up_col (by decide)
  refine ⟨⟨hT.keep (e57 14 (by decide) (by decide) (by decide) (by decide) (by decide) (by decide)) (eo 63 (by decide)), ?_, fun z => ?_⟩, mfr.of57 (fun j hj => e57 j (by omega) (by omega) (by omega) (by omega) (by omega) (by omega)) eo⟩
  · unfold mcx; rw [w0, w1, w2]; exact a
  · rw [w1] at z
    have v0 := (nz z).2.1
    unfold mQ
    rw [up_same, if_neg (by omega), if_neg (by omega), up_row (show (9 : Nat) ≠ 11 by decide), up_row (show (0 : Nat) ≠ 11 by decide), up_row (show (1 : Nat) ≠ 11 by decide), up_row (show (2 : Nat) ≠ 11 by decide), up_row (show (3 : Nat) ≠ 11 by decide), up_row (show (4 : Nat) ≠ 11 by decide), up_row (show (5 : Nat) ≠ 11 by decide), up_row (show (6 : Nat) ≠ 11 by decide), up_row (show (7 : Nat) ≠ 11 by decide), up_row (show (8 : Nat) ≠ 11 by decide), up_row (show (10 : Nat) ≠ 11 by decide), eR 9 (by decide), eR 0 (by decide), eR 1 (by decide), eR 2 (by decide), eR 3 (by decide), eR 4 (by decide), eR 5 (by decide), eR 6 (by decide), eR 7 (by decide), eR 8 (by decide), eR 10 (by decide), e57 8 (by decide) (by decide) (by decide) (by decide) (by decide) (by decide), e57 9 (by decide) (by decide) (by decide) (by decide) (by decide) (by decide), e57 10 (by decide) (by decide) (by decide) (by decide) (by decide) (by decide), eo 60 (by decide), eo 61 (by decide), eo 62 (by decide)]
    exact ⟨q1, q2, q3, e12, by rw [e11]; exact b z, q6, q7, q8⟩
set_option maxRecDepth 100000 in
set_option maxHeartbeats 4000000 in
theorem c_X12_takeClause (l : Launch) (K : WK) (σ : SG) {tx : Int → Int} {n : Int} {P : SG} (hp : mP σ tx n P) (hok : okP n P) (hnf : P 11 1 = 0 ∧ P 11 0 < n) (hsb : sb tx n (P 11 0) = P 11 0) : MV l yX12_takeClause cX12_takeClause 3 none 3 71 K σ [.ref (K.2.2 57)] (fun τ => mP τ tx n (clM tx n P) ∧ mfr σ τ) := by
  refine met_of [(0, .ref (K.2.2 57))] (by decide +kernel) (Nat.le_of_ble_eq_true rfl) rfl ?_
  intro pP eE sS mM bW mT cC B hrt hlk
  replace B : CB pP sS mM [.ref (K.2.2 57)].toArray cC cX12_takeClause RX12 3 K := B
  obtain ⟨hT, hP, hQ0⟩ := id hp
  have hQ := hQ0 hnf.1
  obtain ⟨hT1, hT2, hT3⟩ := id hT
  have hb1 := hok.1.1
  have hlh := lhM_bd hT (P 11 0)
  have hF0 := hok.2.1.1
  have hO0 := hok.2.2.1.1
  have hH0 := hok.2.2.2.1.1
  have hwb : pbd n (wd 0 P) := wd_bd hok.1 hnf.2
  have hw1 : wd 0 P 11 1 = 0 := by unfold wd; rw [if_pos rfl, up_col (by decide)]; exact hnf.1
  have hw9 : (wd 0 P) 9 = P 9 := wd_row 0 P 9 (by decide)
  refine g_aload_n (pc' := 1) B 0 rfl rfl dX12_takeClause_0 rfl ?_
  refine g_callVI (pc' := 4) (As := []) B (c_X12_here l K _ (tx := tx) (n := n) (a := P 11 0) (b := P 11 0) hT (hP.2.2 hnf.1) (by omega) hsb.symm) vt_X12_here tw_1050 rfl rfl ⟨by decide, by decide⟩ rfl (Nat.le_of_ble_eq_true rfl) ⟨Nat.zero_le _, Nat.zero_le _⟩ rfl dX12_takeClause_1 rfl (fun z1 τ1 h1 => ?_)
  obtain ⟨h1a, h1b⟩ := h1
  subst h1a
  subst h1b
  refine g_istore_n (pc' := 5) B [(1, .int (iI (lh tx n (P 11 0)))), (0, .ref (K.2.2 57))] dX12_takeClause_4 rfl rfl (by decide) rfl ?_
  refine g_aload_n (pc' := 6) B 1 rfl rfl dX12_takeClause_5 rfl ?_
  refine g_get (pc' := 9) B (P 11 0) (by simp [up]) fl_X12_77 rfl rfl dX12_takeClause_6 rfl ?_
  refine g_istore_n (pc' := 10) B [(2, .int (iI (P 11 0))), (1, .int (iI (lh tx n (P 11 0)))), (0, .ref (K.2.2 57))] dX12_takeClause_9 rfl rfl (by decide) rfl ?_
  refine g_aload_n (pc' := 11) B 2 rfl rfl dX12_takeClause_10 rfl ?_
  refine g_dup (pc' := 12) B rfl dX12_takeClause_11 rfl ?_
  refine g_get (pc' := 15) B (P 11 0) (by simp [up]) fl_X12_77 rfl rfl dX12_takeClause_12 rfl ?_
  refine g_iconst (pc' := 16) B dX12_takeClause_15 rfl ?_
  refine g_iadd (pc' := 17) B dX12_takeClause_16 rfl ?_
  refine g_put (pc' := 20) B 15 rfl fp_X12_77 rfl rfl dX12_takeClause_17 rfl ?_
  have hpw : mP (up (up σ 57 15 (P 11 0)) 57 15 ((P 11 0) + 1)) tx n (wd 0 P) := mP_wd0 hp hnf.1 (up_same _ _ _ _) (fun j a => by rw [up_col a, up_col a]) (fun k a => by rw [up_row a, up_row a])
  have hmf : mfr σ (up (up σ 57 15 (P 11 0)) 57 15 ((P 11 0) + 1)) := mfr.of57 (fun j a => by rw [up_col (by omega), up_col (by omega)]) (fun k a => by rw [up_row a, up_row a])
  refine g_iload_n (pc' := 21) B 1 rfl rfl dX12_takeClause_20 rfl ?_
  refine g_bipush (pc' := 23) B (by decide +kernel) dX12_takeClause_21 rfl ?_
  refine g_icmp_ne (pc' := 26) B 56 (by omega) (by omega) dX12_takeClause_23 (by decide) rfl (fun c23 => ?_) (fun c23 => ?_)
  · refine g_iload_n (pc' := 57) B 1 rfl rfl dX12_takeClause_56 rfl ?_
    refine g_bipush (pc' := 59) B (by decide +kernel) dX12_takeClause_57 rfl ?_
    refine g_icmp_ne (pc' := 62) B 91 (by omega) (by omega) dX12_takeClause_59 (by decide) rfl (fun c59 => ?_) (fun c59 => ?_)
    · refine g_iload_n (pc' := 92) B 1 rfl rfl dX12_takeClause_91 rfl ?_
      refine g_bipush (pc' := 94) B (by decide +kernel) dX12_takeClause_92 rfl ?_
      refine g_icmp_ne (pc' := 97) B 126 (by omega) (by omega) dX12_takeClause_94 (by decide) rfl (fun c94 => ?_) (fun c94 => ?_)
      · refine g_aload_n (pc' := 127) B 2 rfl rfl dX12_takeClause_126 rfl ?_
        refine g_iload_n (pc' := 128) B 1 rfl rfl dX12_takeClause_127 rfl ?_
        refine g_bipush (pc' := 130) B (by decide +kernel) dX12_takeClause_128 rfl ?_
        refine g_icmp_ne (pc' := 133) B 137 (by omega) (by omega) dX12_takeClause_130 (by decide) rfl (fun c130 => ?_) (fun c130 => ?_)
        · refine g_iconst (pc' := 138) B dX12_takeClause_137 rfl ?_
          refine g_iconst (pc' := 139) B dX12_takeClause_138 rfl ?_
          refine g_iload_n (pc' := 140) B 0 rfl rfl dX12_takeClause_139 rfl ?_
          refine g_callVI (pc' := 143) (As := [.int (iI 0), .int (iI 1), .int (iI (P 11 0))]) B (c_X12_want0 l K _ (m := 1) (w := (P 11 0)) (by simp [up]; exact hP.1.trans hnf.1) (by omega) (by omega)) vt_X12_want tw_1058 rfl rfl ⟨by decide, by decide⟩ rfl (Nat.le_of_ble_eq_true rfl) ⟨Nat.zero_le _, Nat.zero_le _⟩ rfl dX12_takeClause_140 rfl (fun z140 τ140 h140 => ?_)
          obtain ⟨h140a, h140b⟩ := h140
          subst h140a
          subst h140b
          refine g_if_eq (pc' := 146) B 187 (by omega) dX12_takeClause_143 (by decide) rfl (fun _ => ?_) (fun q => absurd q (by decide))
          exact g_vret B hrt hlk dX12_takeClause_187 ⟨by unfold clM; first | (rw [if_pos c23, if_neg (by omega)]; exact mP_flt hp (by decide) (by simp [up]) (by simp [up]) (by simp [up]) (by rw [up_row (by decide), up_row (by decide), up_row (by decide), up_row (by decide)])) | (rw [if_neg c23, if_pos c59, if_neg (by omega)]; exact mP_flt hp (by decide) (by simp [up]) (by simp [up]) (by simp [up]) (by rw [up_row (by decide), up_row (by decide), up_row (by decide), up_row (by decide)])) | (rw [if_neg c23, if_neg c59, if_pos c94, if_neg (by omega)]; exact mP_flt hp (by decide) (by simp [up]) (by simp [up]) (by simp [up]) (by rw [up_row (by decide), up_row (by decide), up_row (by decide), up_row (by decide)])) | (rw [if_neg c23, if_neg c59, if_neg c94, if_pos c130, if_neg d151]; exact mP_flt hp (by decide) (by simp [up]) (by simp [up]) (by simp [up]) (by rw [up_row (by decide), up_row (by decide), up_row (by decide), up_row (by decide)])) | (rw [if_neg c23, if_neg c59, if_neg c94, if_neg c130]; exact mP_flt hp (by decide) (by simp [up]) (by simp [up]) (by simp [up]) (by rw [up_row (by decide), up_row (by decide), up_row (by decide), up_row (by decide)])), hmf.tr (mfr.of57 (fun j a => by rw [up_col (by omega), up_col (by omega)]) (fun k a => by rw [up_row a, up_row a]))⟩
        · refine g_iconst (pc' := 134) B dX12_takeClause_133 rfl ?_
          refine g_goto (pc' := 138) B dX12_takeClause_134 (by decide) ?_
          refine g_iconst (pc' := 139) B dX12_takeClause_138 rfl ?_
          refine g_iload_n (pc' := 140) B 0 rfl rfl dX12_takeClause_139 rfl ?_
          refine g_callVI (pc' := 143) (As := [.int (iI 1), .int (iI 1), .int (iI (P 11 0))]) B (c_X12_want1 l K _ (m := 1) (w := (P 11 0)) (by simp [up]; exact hP.1.trans hnf.1)) vt_X12_want tw_1058 rfl rfl ⟨by decide, by decide⟩ rfl (Nat.le_of_ble_eq_true rfl) ⟨Nat.zero_le _, Nat.zero_le _⟩ rfl dX12_takeClause_140 rfl (fun z140 τ140 h140 => ?_)
          obtain ⟨rfl, rfl⟩ := h140
          refine g_if_eq (pc' := 146) B 187 (by omega) dX12_takeClause_143 (by decide) rfl (fun q => absurd q (by decide)) (fun _ => ?_)
          refine g_aload_n (pc' := 147) B 2 rfl rfl dX12_takeClause_146 rfl ?_
          refine g_aload_n (pc' := 148) B 2 rfl rfl dX12_takeClause_147 rfl ?_
          refine g_get (pc' := 151) B (if P 11 3 = -1 then 0 else 1) (by have q9 := hQ.2.2.2.1; simpa [up] using q9) fl_X12_121 rfl rfl dX12_takeClause_148 rfl ?_
          refine g_if_ne (pc' := 154) B 158 (by (repeat' split) <;> omega) dX12_takeClause_151 (by decide) rfl (fun c151 => ?_) (fun c151 => ?_)
          · have d151 : P 11 3 ≠ -1 := by intro q9; rw [if_pos q9] at c151; omega
            refine g_iconst (pc' := 159) B dX12_takeClause_158 rfl ?_
            refine g_iconst (pc' := 160) B dX12_takeClause_159 rfl ?_
            refine g_iload_n (pc' := 161) B 0 rfl rfl dX12_takeClause_160 rfl ?_
            refine g_callVI (pc' := 164) (As := [.int (iI 0), .int (iI 3), .int (iI (P 11 0))]) B (c_X12_want0 l K _ (m := 3) (w := (P 11 0)) (by simp [up]; exact hP.1.trans hnf.1) (by omega) (by omega)) vt_X12_want tw_1058 rfl rfl ⟨by decide, by decide⟩ rfl (Nat.le_of_ble_eq_true rfl) ⟨Nat.zero_le _, Nat.zero_le _⟩ rfl dX12_takeClause_161 rfl (fun z161 τ161 h161 => ?_)
            obtain ⟨h161a, h161b⟩ := h161
            subst h161a
            subst h161b
            refine g_if_eq (pc' := 167) B 187 (by omega) dX12_takeClause_164 (by decide) rfl (fun _ => ?_) (fun q => absurd q (by decide))
            exact g_vret B hrt hlk dX12_takeClause_187 ⟨by unfold clM; first | (rw [if_pos c23, if_neg (by omega)]; exact mP_flt hp (by decide) (by simp [up]) (by simp [up]) (by simp [up]) (by rw [up_row (by decide), up_row (by decide), up_row (by decide), up_row (by decide)])) | (rw [if_neg c23, if_pos c59, if_neg (by omega)]; exact mP_flt hp (by decide) (by simp [up]) (by simp [up]) (by simp [up]) (by rw [up_row (by decide), up_row (by decide), up_row (by decide), up_row (by decide)])) | (rw [if_neg c23, if_neg c59, if_pos c94, if_neg (by omega)]; exact mP_flt hp (by decide) (by simp [up]) (by simp [up]) (by simp [up]) (by rw [up_row (by decide), up_row (by decide), up_row (by decide), up_row (by decide)])) | (rw [if_neg c23, if_neg c59, if_neg c94, if_pos c130, if_neg d151]; exact mP_flt hp (by decide) (by simp [up]) (by simp [up]) (by simp [up]) (by rw [up_row (by decide), up_row (by decide), up_row (by decide), up_row (by decide)])) | (rw [if_neg c23, if_neg c59, if_neg c94, if_neg c130]; exact mP_flt hp (by decide) (by simp [up]) (by simp [up]) (by simp [up]) (by rw [up_row (by decide), up_row (by decide), up_row (by decide), up_row (by decide)])), hmf.tr (mfr.of57 (fun j a => by rw [up_col (by omega), up_col (by omega)]) (fun k a => by rw [up_row a, up_row a]))⟩
          · have d151 : P 11 3 = -1 := by by_cases q9 : P 11 3 = -1; exact q9; (exfalso; rw [if_neg q9] at c151; omega)
            refine g_iconst (pc' := 155) B dX12_takeClause_154 rfl ?_
            refine g_goto (pc' := 159) B dX12_takeClause_155 (by decide) ?_
            refine g_iconst (pc' := 160) B dX12_takeClause_159 rfl ?_
            refine g_iload_n (pc' := 161) B 0 rfl rfl dX12_takeClause_160 rfl ?_
            refine g_callVI (pc' := 164) (As := [.int (iI 1), .int (iI 3), .int (iI (P 11 0))]) B (c_X12_want1 l K _ (m := 3) (w := (P 11 0)) (by simp [up]; exact hP.1.trans hnf.1)) vt_X12_want tw_1058 rfl rfl ⟨by decide, by decide⟩ rfl (Nat.le_of_ble_eq_true rfl) ⟨Nat.zero_le _, Nat.zero_le _⟩ rfl dX12_takeClause_161 rfl (fun z161 τ161 h161 => ?_)
            obtain ⟨rfl, rfl⟩ := h161
            refine g_if_eq (pc' := 167) B 187 (by omega) dX12_takeClause_164 (by decide) rfl (fun q => absurd q (by decide)) (fun _ => ?_)
            refine g_aload_n (pc' := 168) B 2 rfl rfl dX12_takeClause_167 rfl ?_
            refine g_iconst (pc' := 169) B dX12_takeClause_168 rfl ?_
            refine g_putZ (pc' := 172) B 12 rfl (by omega) fp_X12_121 rfl rfl dX12_takeClause_169 rfl ?_
            refine g_aload_n (pc' := 173) B 2 rfl rfl dX12_takeClause_172 rfl ?_
            refine g_aload_n (pc' := 174) B 2 rfl rfl dX12_takeClause_173 rfl ?_
            refine g_iconst (pc' := 175) B dX12_takeClause_174 rfl ?_
            refine g_aload_n (pc' := 176) B 2 rfl rfl dX12_takeClause_175 rfl ?_
            refine g_get (pc' := 179) B (P 9 0) (by have q9 := hQ.1; simpa [up] using q9) fl_X12_99 rfl rfl dX12_takeClause_176 rfl ?_
            refine g_iconst (pc' := 180) B dX12_takeClause_179 rfl ?_
            refine g_isub (pc' := 181) B dX12_takeClause_180 rfl ?_
            refine g_callVI (pc' := 184) (As := [.int (iI 0), .int (iI ((P 9 0) - 1))]) B (c_X12_takeNumber l K _ (tx := tx) (n := n) (P := wd 0 P) (lo := 0) (hi := (P 9 0) - 1) (hpw.1.keep (by rw [up_col (by decide)]) (by rw [up_row (by decide)])) (hpw.2.1.keep2 (by rw [up_col (by decide)]) (by rw [up_col (by decide)]) (by rw [up_col (by decide)])) hwb (by omega) (by omega)) vt_X12_takeNumber tw_1066 rfl rfl ⟨by decide, by decide⟩ rfl (Nat.le_of_ble_eq_true rfl) ⟨Nat.zero_le _, Nat.zero_le _⟩ rfl dX12_takeClause_181 rfl (fun z181 τ181 h181 => ?_)
            obtain ⟨h181a, h181b, h181c, h181d⟩ := h181
            rw [show P 9 0 = wd 0 P 9 0 by rw [hw9]] at h181a
            refine g_put (pc' := 187) B 11 rfl fp_X12_125 rfl rfl dX12_takeClause_184 rfl ?_
            exact g_vret B hrt hlk dX12_takeClause_187 (by have q9 := tb_end (T := (up τ181 57 11 z181)) hpw.1 (hpw.2.2 hw1) (h181a.keep2 (by rw [up_col (by decide)]) (by rw [up_col (by decide)]) (by rw [up_col (by decide)])) (by rw [hw9]; exact h181b) (up_same _ _ _ _) (by rw [up_col (by decide), h181c 12 (by decide) (by decide) (by decide) (by decide), up_same]) (fun j a0 a1 a2 a3 a4 a5 => by rw [up_col a0, h181c j a2 a3 a4 a5, up_col a1]) (fun k a => by rw [up_row a, h181d k a, up_row a]); exact ⟨by unfold clM; rw [if_neg c23, if_neg c59, if_neg c94, if_pos c130, if_pos d151]; exact q9.1, hmf.tr q9.2⟩)
      · refine g_aload_n (pc' := 98) B 2 rfl rfl dX12_takeClause_97 rfl ?_
        refine g_aload_n (pc' := 99) B 2 rfl rfl dX12_takeClause_98 rfl ?_
        refine g_get (pc' := 102) B (P 9 2) (by have q9 := hQ.2.2.1; simpa [up] using q9) fl_X12_109 rfl rfl dX12_takeClause_99 rfl ?_
        refine g_iconst (pc' := 103) B dX12_takeClause_102 rfl ?_
        refine g_icmp_ge (pc' := 106) B 110 (by omega) (by omega) dX12_takeClause_103 (by decide) rfl (fun c103 => ?_) (fun c103 => ?_)
        · refine g_iconst (pc' := 111) B dX12_takeClause_110 rfl ?_
          refine g_iconst (pc' := 112) B dX12_takeClause_111 rfl ?_
          refine g_iload_n (pc' := 113) B 0 rfl rfl dX12_takeClause_112 rfl ?_
          refine g_callVI (pc' := 116) (As := [.int (iI 0), .int (iI 3), .int (iI (P 11 0))]) B (c_X12_want0 l K _ (m := 3) (w := (P 11 0)) (by simp [up]; exact hP.1.trans hnf.1) (by omega) (by omega)) vt_X12_want tw_1058 rfl rfl ⟨by decide, by decide⟩ rfl (Nat.le_of_ble_eq_true rfl) ⟨Nat.zero_le _, Nat.zero_le _⟩ rfl dX12_takeClause_113 rfl (fun z113 τ113 h113 => ?_)
          obtain ⟨h113a, h113b⟩ := h113
          subst h113a
          subst h113b
          refine g_if_eq (pc' := 119) B 187 (by omega) dX12_takeClause_116 (by decide) rfl (fun _ => ?_) (fun q => absurd q (by decide))
          exact g_vret B hrt hlk dX12_takeClause_187 ⟨by unfold clM; first | (rw [if_pos c23, if_neg (by omega)]; exact mP_flt hp (by decide) (by simp [up]) (by simp [up]) (by simp [up]) (by rw [up_row (by decide), up_row (by decide), up_row (by decide), up_row (by decide)])) | (rw [if_neg c23, if_pos c59, if_neg (by omega)]; exact mP_flt hp (by decide) (by simp [up]) (by simp [up]) (by simp [up]) (by rw [up_row (by decide), up_row (by decide), up_row (by decide), up_row (by decide)])) | (rw [if_neg c23, if_neg c59, if_pos c94, if_neg (by omega)]; exact mP_flt hp (by decide) (by simp [up]) (by simp [up]) (by simp [up]) (by rw [up_row (by decide), up_row (by decide), up_row (by decide), up_row (by decide)])) | (rw [if_neg c23, if_neg c59, if_neg c94, if_pos c130, if_neg d151]; exact mP_flt hp (by decide) (by simp [up]) (by simp [up]) (by simp [up]) (by rw [up_row (by decide), up_row (by decide), up_row (by decide), up_row (by decide)])) | (rw [if_neg c23, if_neg c59, if_neg c94, if_neg c130]; exact mP_flt hp (by decide) (by simp [up]) (by simp [up]) (by simp [up]) (by rw [up_row (by decide), up_row (by decide), up_row (by decide), up_row (by decide)])), hmf.tr (mfr.of57 (fun j a => by rw [up_col (by omega), up_col (by omega)]) (fun k a => by rw [up_row a, up_row a]))⟩
        · refine g_iconst (pc' := 107) B dX12_takeClause_106 rfl ?_
          refine g_goto (pc' := 111) B dX12_takeClause_107 (by decide) ?_
          refine g_iconst (pc' := 112) B dX12_takeClause_111 rfl ?_
          refine g_iload_n (pc' := 113) B 0 rfl rfl dX12_takeClause_112 rfl ?_
          refine g_callVI (pc' := 116) (As := [.int (iI 1), .int (iI 3), .int (iI (P 11 0))]) B (c_X12_want1 l K _ (m := 3) (w := (P 11 0)) (by simp [up]; exact hP.1.trans hnf.1)) vt_X12_want tw_1058 rfl rfl ⟨by decide, by decide⟩ rfl (Nat.le_of_ble_eq_true rfl) ⟨Nat.zero_le _, Nat.zero_le _⟩ rfl dX12_takeClause_113 rfl (fun z113 τ113 h113 => ?_)
          obtain ⟨rfl, rfl⟩ := h113
          refine g_if_eq (pc' := 119) B 187 (by omega) dX12_takeClause_116 (by decide) rfl (fun q => absurd q (by decide)) (fun _ => ?_)
          refine g_aload_n (pc' := 120) B 2 rfl rfl dX12_takeClause_119 rfl ?_
          refine g_callVV (pc' := 123) (As := []) B (c_X12_takeSeam l K _ (tx := tx) (n := n) (Q := wd 0 P) hpw.1 hpw.2.1 (hpw.2.2 hw1) hwb hw1 (by rw [hw9]; omega) (by rw [hw9]; omega)) vt_X12_takeSeam tw_1077 rfl rfl ⟨by decide, by decide⟩ rfl (Nat.le_of_ble_eq_true rfl) ⟨Nat.zero_le _, Nat.zero_le _⟩ rfl dX12_takeClause_120 rfl (fun τ120 h120 => ?_)
          refine g_goto (pc' := 187) B dX12_takeClause_123 (by decide) ?_
          exact g_vret B hrt hlk dX12_takeClause_187 ⟨by unfold clM; rw [if_neg c23, if_neg c59, if_pos c94, if_pos (by omega)]; exact h120.1, hmf.tr h120.2⟩
    · refine g_aload_n (pc' := 63) B 2 rfl rfl dX12_takeClause_62 rfl ?_
      refine g_aload_n (pc' := 64) B 2 rfl rfl dX12_takeClause_63 rfl ?_
      refine g_get (pc' := 67) B (P 9 1) (by have q9 := hQ.2.1; simpa [up] using q9) fl_X12_106 rfl rfl dX12_takeClause_64 rfl ?_
      refine g_iconst (pc' := 68) B dX12_takeClause_67 rfl ?_
      refine g_icmp_ge (pc' := 71) B 75 (by omega) (by omega) dX12_takeClause_68 (by decide) rfl (fun c68 => ?_) (fun c68 => ?_)
      · refine g_iconst (pc' := 76) B dX12_takeClause_75 rfl ?_
        refine g_iconst (pc' := 77) B dX12_takeClause_76 rfl ?_
        refine g_iload_n (pc' := 78) B 0 rfl rfl dX12_takeClause_77 rfl ?_
        refine g_callVI (pc' := 81) (As := [.int (iI 0), .int (iI 3), .int (iI (P 11 0))]) B (c_X12_want0 l K _ (m := 3) (w := (P 11 0)) (by simp [up]; exact hP.1.trans hnf.1) (by omega) (by omega)) vt_X12_want tw_1058 rfl rfl ⟨by decide, by decide⟩ rfl (Nat.le_of_ble_eq_true rfl) ⟨Nat.zero_le _, Nat.zero_le _⟩ rfl dX12_takeClause_78 rfl (fun z78 τ78 h78 => ?_)
        obtain ⟨h78a, h78b⟩ := h78
        subst h78a
        subst h78b
        refine g_if_eq (pc' := 84) B 187 (by omega) dX12_takeClause_81 (by decide) rfl (fun _ => ?_) (fun q => absurd q (by decide))
        exact g_vret B hrt hlk dX12_takeClause_187 ⟨by unfold clM; first | (rw [if_pos c23, if_neg (by omega)]; exact mP_flt hp (by decide) (by simp [up]) (by simp [up]) (by simp [up]) (by rw [up_row (by decide), up_row (by decide), up_row (by decide), up_row (by decide)])) | (rw [if_neg c23, if_pos c59, if_neg (by omega)]; exact mP_flt hp (by decide) (by simp [up]) (by simp [up]) (by simp [up]) (by rw [up_row (by decide), up_row (by decide), up_row (by decide), up_row (by decide)])) | (rw [if_neg c23, if_neg c59, if_pos c94, if_neg (by omega)]; exact mP_flt hp (by decide) (by simp [up]) (by simp [up]) (by simp [up]) (by rw [up_row (by decide), up_row (by decide), up_row (by decide), up_row (by decide)])) | (rw [if_neg c23, if_neg c59, if_neg c94, if_pos c130, if_neg d151]; exact mP_flt hp (by decide) (by simp [up]) (by simp [up]) (by simp [up]) (by rw [up_row (by decide), up_row (by decide), up_row (by decide), up_row (by decide)])) | (rw [if_neg c23, if_neg c59, if_neg c94, if_neg c130]; exact mP_flt hp (by decide) (by simp [up]) (by simp [up]) (by simp [up]) (by rw [up_row (by decide), up_row (by decide), up_row (by decide), up_row (by decide)])), hmf.tr (mfr.of57 (fun j a => by rw [up_col (by omega), up_col (by omega)]) (fun k a => by rw [up_row a, up_row a]))⟩
      · refine g_iconst (pc' := 72) B dX12_takeClause_71 rfl ?_
        refine g_goto (pc' := 76) B dX12_takeClause_72 (by decide) ?_
        refine g_iconst (pc' := 77) B dX12_takeClause_76 rfl ?_
        refine g_iload_n (pc' := 78) B 0 rfl rfl dX12_takeClause_77 rfl ?_
        refine g_callVI (pc' := 81) (As := [.int (iI 1), .int (iI 3), .int (iI (P 11 0))]) B (c_X12_want1 l K _ (m := 3) (w := (P 11 0)) (by simp [up]; exact hP.1.trans hnf.1)) vt_X12_want tw_1058 rfl rfl ⟨by decide, by decide⟩ rfl (Nat.le_of_ble_eq_true rfl) ⟨Nat.zero_le _, Nat.zero_le _⟩ rfl dX12_takeClause_78 rfl (fun z78 τ78 h78 => ?_)
        obtain ⟨rfl, rfl⟩ := h78
        refine g_if_eq (pc' := 84) B 187 (by omega) dX12_takeClause_81 (by decide) rfl (fun q => absurd q (by decide)) (fun _ => ?_)
        refine g_aload_n (pc' := 85) B 2 rfl rfl dX12_takeClause_84 rfl ?_
        refine g_callVV (pc' := 88) (As := []) B (c_X12_takeHouse l K _ (tx := tx) (n := n) (Q := wd 0 P) hpw.1 hpw.2.1 (hpw.2.2 hw1) hwb hw1 (by rw [hw9]; omega) (by rw [hw9]; omega)) vt_X12_takeHouse tw_1073 rfl rfl ⟨by decide, by decide⟩ rfl (Nat.le_of_ble_eq_true rfl) ⟨Nat.zero_le _, Nat.zero_le _⟩ rfl dX12_takeClause_85 rfl (fun τ85 h85 => ?_)
        refine g_goto (pc' := 187) B dX12_takeClause_88 (by decide) ?_
        exact g_vret B hrt hlk dX12_takeClause_187 ⟨by unfold clM; rw [if_neg c23, if_pos c59, if_pos (by omega)]; exact h85.1, hmf.tr h85.2⟩
  · refine g_aload_n (pc' := 27) B 2 rfl rfl dX12_takeClause_26 rfl ?_
    refine g_aload_n (pc' := 28) B 2 rfl rfl dX12_takeClause_27 rfl ?_
    refine g_get (pc' := 31) B (P 9 0) (by have q9 := hQ.1; simpa [up] using q9) fl_X12_99 rfl rfl dX12_takeClause_28 rfl ?_
    refine g_bipush (pc' := 33) B (by decide +kernel) dX12_takeClause_31 rfl ?_
    refine g_icmp_ge (pc' := 36) B 40 (by omega) (by omega) dX12_takeClause_33 (by decide) rfl (fun c33 => ?_) (fun c33 => ?_)
    · refine g_iconst (pc' := 41) B dX12_takeClause_40 rfl ?_
      refine g_iconst (pc' := 42) B dX12_takeClause_41 rfl ?_
      refine g_iload_n (pc' := 43) B 0 rfl rfl dX12_takeClause_42 rfl ?_
      refine g_callVI (pc' := 46) (As := [.int (iI 0), .int (iI 3), .int (iI (P 11 0))]) B (c_X12_want0 l K _ (m := 3) (w := (P 11 0)) (by simp [up]; exact hP.1.trans hnf.1) (by omega) (by omega)) vt_X12_want tw_1058 rfl rfl ⟨by decide, by decide⟩ rfl (Nat.le_of_ble_eq_true rfl) ⟨Nat.zero_le _, Nat.zero_le _⟩ rfl dX12_takeClause_43 rfl (fun z43 τ43 h43 => ?_)
      obtain ⟨h43a, h43b⟩ := h43
      subst h43a
      subst h43b
      refine g_if_eq (pc' := 49) B 187 (by omega) dX12_takeClause_46 (by decide) rfl (fun _ => ?_) (fun q => absurd q (by decide))
      exact g_vret B hrt hlk dX12_takeClause_187 ⟨by unfold clM; first | (rw [if_pos c23, if_neg (by omega)]; exact mP_flt hp (by decide) (by simp [up]) (by simp [up]) (by simp [up]) (by rw [up_row (by decide), up_row (by decide), up_row (by decide), up_row (by decide)])) | (rw [if_neg c23, if_pos c59, if_neg (by omega)]; exact mP_flt hp (by decide) (by simp [up]) (by simp [up]) (by simp [up]) (by rw [up_row (by decide), up_row (by decide), up_row (by decide), up_row (by decide)])) | (rw [if_neg c23, if_neg c59, if_pos c94, if_neg (by omega)]; exact mP_flt hp (by decide) (by simp [up]) (by simp [up]) (by simp [up]) (by rw [up_row (by decide), up_row (by decide), up_row (by decide), up_row (by decide)])) | (rw [if_neg c23, if_neg c59, if_neg c94, if_pos c130, if_neg d151]; exact mP_flt hp (by decide) (by simp [up]) (by simp [up]) (by simp [up]) (by rw [up_row (by decide), up_row (by decide), up_row (by decide), up_row (by decide)])) | (rw [if_neg c23, if_neg c59, if_neg c94, if_neg c130]; exact mP_flt hp (by decide) (by simp [up]) (by simp [up]) (by simp [up]) (by rw [up_row (by decide), up_row (by decide), up_row (by decide), up_row (by decide)])), hmf.tr (mfr.of57 (fun j a => by rw [up_col (by omega), up_col (by omega)]) (fun k a => by rw [up_row a, up_row a]))⟩
    · refine g_iconst (pc' := 37) B dX12_takeClause_36 rfl ?_
      refine g_goto (pc' := 41) B dX12_takeClause_37 (by decide) ?_
      refine g_iconst (pc' := 42) B dX12_takeClause_41 rfl ?_
      refine g_iload_n (pc' := 43) B 0 rfl rfl dX12_takeClause_42 rfl ?_
      refine g_callVI (pc' := 46) (As := [.int (iI 1), .int (iI 3), .int (iI (P 11 0))]) B (c_X12_want1 l K _ (m := 3) (w := (P 11 0)) (by simp [up]; exact hP.1.trans hnf.1)) vt_X12_want tw_1058 rfl rfl ⟨by decide, by decide⟩ rfl (Nat.le_of_ble_eq_true rfl) ⟨Nat.zero_le _, Nat.zero_le _⟩ rfl dX12_takeClause_43 rfl (fun z43 τ43 h43 => ?_)
      obtain ⟨rfl, rfl⟩ := h43
      refine g_if_eq (pc' := 49) B 187 (by omega) dX12_takeClause_46 (by decide) rfl (fun q => absurd q (by decide)) (fun _ => ?_)
      refine g_aload_n (pc' := 50) B 2 rfl rfl dX12_takeClause_49 rfl ?_
      refine g_callVV (pc' := 53) (As := []) B (c_X12_takeField l K _ (tx := tx) (n := n) (Q := wd 0 P) hpw.1 hpw.2.1 (hpw.2.2 hw1) hwb hw1 (by rw [hw9]; omega) (by rw [hw9]; omega)) vt_X12_takeField tw_1062 rfl rfl ⟨by decide, by decide⟩ rfl (Nat.le_of_ble_eq_true rfl) ⟨Nat.zero_le _, Nat.zero_le _⟩ rfl dX12_takeClause_50 rfl (fun τ50 h50 => ?_)
      refine g_goto (pc' := 187) B dX12_takeClause_53 (by decide) ?_
      exact g_vret B hrt hlk dX12_takeClause_187 ⟨by unfold clM; rw [if_pos c23, if_pos (by omega)]; exact h50.1, hmf.tr h50.2⟩
