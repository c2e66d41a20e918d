def okP (n : Int) (P : SG) : Prop := pbd n P ∧ okF P ∧ okQ P ∧ okH P ∧ (1 ≤ P 9 3 ∧ P 9 3 ∣ 27720) ∧ (∀ f : Int, 0 ≤ f → f < P 9 0 → P 1 f ∣ P 9 3) ∧ (P 11 3 = -1 ∨ (0 ≤ P 11 3 ∧ P 11 3 < P 9 0)) ∧ (∀ h : Int, 0 ≤ h → h < P 9 1 → 0 ≤ P 10 h ∧ P 10 h ≤ 99)
theorem okP_row {n : Int} {P Q : SG} (h : okP n P) (e : ∀ k, k ≠ 11 → Q k = P k) (e3 : Q 11 3 = P 11 3) (b : pbd n Q) : okP n Q := by
  obtain ⟨h1, h2, h3, h4, h5, h6, h7, h8⟩ := h
  refine ⟨b, h2.cong e, h3.cong e, h4.cong e, ?_, ?_, ?_, ?_⟩
  · rw [e 9 (by decide)]; exact h5
  · rw [e 9 (by decide), e 1 (by decide)]; exact h6
  · rw [e 9 (by decide), e3]; exact h7
  · rw [e 9 (by decide), e 10 (by decide)]; exact h8
theorem okP_R {n : Int} {P : SG} (h : okP n P) : okR P := by
  obtain ⟨h1, h2, h3, h4, h5, h6, h7, h8⟩ := h
  exact ⟨⟨h5.1, Int.le_of_dvd (by decide) h5.2⟩, h6⟩
theorem dvd27 : ∀ m : Int, 1 ≤ m → m ≤ 12 → m ∣ 27720 := by
  intro m a b
  rcases (show m = 1 ∨ m = 2 ∨ m = 3 ∨ m = 4 ∨ m = 5 ∨ m = 6 ∨ m = 7 ∨ m = 8 ∨ m = 9 ∨ m = 10 ∨ m = 11 ∨ m = 12 by omega) with h | h | h | h | h | h | h | h | h | h | h | h <;> subst h <;> decide
theorem dF_get (D : SG) (b m l s : Int) : (∀ k, k ≠ 0 → k ≠ 1 → k ≠ 2 → k ≠ 3 → k ≠ 9 → dF D b m l s k = D k) ∧ dF D b m l s 9 0 = D 9 0 + 1 ∧ dF D b m l s 9 1 = D 9 1 ∧ dF D b m l s 9 2 = D 9 2 ∧ dF D b m l s 9 3 = lc (D 9 3) m ∧ (∀ f : Int, f ≠ D 9 0 → dF D b m l s 0 f = D 0 f ∧ dF D b m l s 1 f = D 1 f ∧ dF D b m l s 2 f = D 2 f ∧ dF D b m l s 3 f = D 3 f) ∧ dF D b m l s 0 (D 9 0) = b ∧ dF D b m l s 1 (D 9 0) = m ∧ dF D b m l s 2 (D 9 0) = l ∧ dF D b m l s 3 (D 9 0) = s := by
  refine ⟨fun k a b c d e => ?_, by simp [dF, up], by simp [dF, up], by simp [dF, up], by simp [dF, up], fun f hf => ?_, by simp [dF, up], by simp [dF, up], by simp [dF, up], by simp [dF, up]⟩
  · unfold dF; rw [up_row e, up_row e, up_row d, up_row c, up_row b, up_row a]
  · simp [dF, up, hf]
theorem okP_F {n : Int} {Q : SG} {b m l s : Int} (h : okP n Q) (hc : Q 9 0 < 8) (h1 : 0 ≤ b ∧ b ≤ 99) (h2 : 2 ≤ m ∧ m ≤ 12) (h3 : 0 ≤ l ∧ l ≤ 11) (h4 : 0 ≤ s ∧ s ≤ 9) : okP n (dF Q b m l s) := by
  obtain ⟨a1, a2, a3, a4, a5, a6, a7, a8⟩ := h
  obtain ⟨g1, g2, g3, g4, g5, g6, g7, g8, g9, g10⟩ := dF_get Q b m l s
  have e11 := g1 11 (by decide) (by decide) (by decide) (by decide) (by decide)
  have a20 := a2.1
  have hl := lc_left (a := Q 9 3) (b := m) a5.1
  have hr := lc_right (a := Q 9 3) (b := m) (by omega)
  refine ⟨?_, ⟨?_, fun f f0 f1 => ?_⟩, ⟨?_, fun y y0 y1 => ?_⟩, ⟨?_, fun y y0 y1 => ?_⟩, ?_, fun f f0 f1 => ?_, ?_, fun y y0 y1 => ?_⟩
  · unfold pbd; rw [e11]; exact a1
  · rw [g2]; omega
  · rw [g2] at f1
    by_cases e : f = Q 9 0
    · subst e; rw [g7, g8, g9, g10]; exact ⟨h1, h2, h3, h4⟩
    · obtain ⟨p1, p2, p3, p4⟩ := g6 f e
      rw [p1, p2, p3, p4]; exact a2.2 f f0 (by omega)
  · rw [g4]; exact a3.1
  · rw [g4] at y1
    rw [g1 5 (by decide) (by decide) (by decide) (by decide) (by decide), g1 6 (by decide) (by decide) (by decide) (by decide) (by decide), g1 7 (by decide) (by decide) (by decide) (by decide) (by decide), g1 8 (by decide) (by decide) (by decide) (by decide) (by decide), g2]
    have := a3.2 y y0 y1
    omega
  · rw [g3]; exact a4.1
  · rw [g3] at y1
    rw [g1 4 (by decide) (by decide) (by decide) (by decide) (by decide), g2]
    have := a4.2 y y0 y1
    omega
  · rw [g5]
    exact ⟨lc_pos a5.1 (by omega), lc_dvd a5.1 (by omega) a5.2 (dvd27 m (by omega) h2.2) (by decide)⟩
  · rw [g2] at f1
    rw [g5]
    by_cases e : f = Q 9 0
    · subst e; rw [g8]; exact hr
    · rw [(g6 f e).2.1]; exact Int.dvd_trans (a6 f f0 (by omega)) hl
  · rw [e11, g2]; omega
  · rw [g3] at y1; rw [g1 10 (by decide) (by decide) (by decide) (by decide) (by decide)]; exact a8 y y0 y1
theorem dH_get (D : SG) (f s : Int) : (∀ k, k ≠ 4 → k ≠ 9 → k ≠ 10 → dH D f s k = D k) ∧ dH D f s 9 0 = D 9 0 ∧ dH D f s 9 1 = D 9 1 + 1 ∧ dH D f s 9 2 = D 9 2 ∧ dH D f s 9 3 = D 9 3 ∧ (∀ y : Int, y ≠ D 9 1 → dH D f s 4 y = D 4 y ∧ dH D f s 10 y = D 10 y) ∧ dH D f s 4 (D 9 1) = f ∧ dH D f s 10 (D 9 1) = s := by
  refine ⟨fun k a b c => ?_, by simp [dH, up], by simp [dH, up], by simp [dH, up], by simp [dH, up], fun y hy => by simp [dH, up, hy], by simp [dH, up], by simp [dH, up]⟩
  unfold dH; rw [up_row b, up_row c, up_row a]
theorem okP_H {n : Int} {Q : SG} {f s : Int} (h : okP n Q) (hc : Q 9 1 < 4) (h1 : 0 ≤ f ∧ f ≤ Q 9 0 - 2) (h2 : 0 ≤ s ∧ s ≤ 99) : okP n (dH Q f s) := by
  obtain ⟨a1, a2, a3, a4, a5, a6, a7, a8⟩ := h
  obtain ⟨g1, g2, g3, g4, g5, g6, g7, g8⟩ := dH_get Q f s
  have r := fun k a b c => g1 k a b c
  have e11 := g1 11 (by decide) (by decide) (by decide)
  have a20 := a2.1
  have a40 := a4.1
  refine ⟨?_, ⟨?_, fun y y0 y1 => ?_⟩, ⟨?_, fun y y0 y1 => ?_⟩, ⟨?_, fun y y0 y1 => ?_⟩, ?_, fun y y0 y1 => ?_, ?_, fun y y0 y1 => ?_⟩
  · unfold pbd; rw [e11]; exact a1
  · rw [g2]; exact a2.1
  · rw [g2] at y1
    rw [g1 0 (by decide) (by decide) (by decide), g1 1 (by decide) (by decide) (by decide), g1 2 (by decide) (by decide) (by decide), g1 3 (by decide) (by decide) (by decide)]
    exact a2.2 y y0 y1
  · rw [g4]; exact a3.1
  · rw [g4] at y1
    rw [g1 5 (by decide) (by decide) (by decide), g1 6 (by decide) (by decide) (by decide), g1 7 (by decide) (by decide) (by decide), g1 8 (by decide) (by decide) (by decide), g2]
    exact a3.2 y y0 y1
  · rw [g3]; omega
  · rw [g3] at y1
    rw [g2]
    by_cases e : y = Q 9 1
    · subst e; rw [g7]; omega
    · rw [(g6 y e).1]; exact a4.2 y y0 (by omega)
  · rw [g5]; exact a5
  · rw [g2] at y1; rw [g1 1 (by decide) (by decide) (by decide), g5]; exact a6 y y0 y1
  · rw [e11, g2]; exact a7
  · rw [g3] at y1
    by_cases e : y = Q 9 1
    · subst e; rw [g8]; exact h2
    · rw [(g6 y e).2]; exact a8 y y0 (by omega)
theorem dQ_get (D : SG) (f p r w : Int) : (∀ k, k ≠ 5 → k ≠ 6 → k ≠ 7 → k ≠ 8 → k ≠ 9 → dQ D f p r w k = D k) ∧ dQ D f p r w 9 0 = D 9 0 ∧ dQ D f p r w 9 1 = D 9 1 ∧ dQ D f p r w 9 2 = D 9 2 + 1 ∧ dQ D f p r w 9 3 = D 9 3 ∧ (∀ y : Int, y ≠ D 9 2 → dQ D f p r w 5 y = D 5 y ∧ dQ D f p r w 6 y = D 6 y ∧ dQ D f p r w 7 y = D 7 y ∧ dQ D f p r w 8 y = D 8 y) ∧ dQ D f p r w 5 (D 9 2) = f ∧ dQ D f p r w 6 (D 9 2) = p ∧ dQ D f p r w 7 (D 9 2) = r ∧ dQ D f p r w 8 (D 9 2) = w := by
  refine ⟨fun k a b c d e => ?_, by simp [dQ, up], by simp [dQ, up], by simp [dQ, up], by simp [dQ, up], fun y hy => by simp [dQ, up, hy], by simp [dQ, up], by simp [dQ, up], by simp [dQ, up], by simp [dQ, up]⟩
  unfold dQ; rw [up_row e, up_row d, up_row c, up_row b, up_row a]
theorem okP_Q {n : Int} {Q : SG} {f p r w : Int} (h : okP n Q) (hc : Q 9 2 < 4) (h1 : 0 ≤ f ∧ f ≤ Q 9 0 - 2) (h2 : 1 ≤ p ∧ p ≤ 12) (h3 : 0 ≤ r ∧ r ≤ 11) (h4 : 0 ≤ w ∧ w ≤ 12) : okP n (dQ Q f p r w) := by
  obtain ⟨a1, a2, a3, a4, a5, a6, a7, a8⟩ := h
  obtain ⟨g1, g2, g3, g4, g5, g6, g7, g8, g9, g10⟩ := dQ_get Q f p r w
  have e11 := g1 11 (by decide) (by decide) (by decide) (by decide) (by decide)
  have a20 := a2.1
  have a30 := a3.1
  refine ⟨?_, ⟨?_, fun y y0 y1 => ?_⟩, ⟨?_, fun y y0 y1 => ?_⟩, ⟨?_, fun y y0 y1 => ?_⟩, ?_, fun y y0 y1 => ?_, ?_, fun y y0 y1 => ?_⟩
  · unfold pbd; rw [e11]; exact a1
  · rw [g2]; exact a2.1
  · rw [g2] at y1
    rw [g1 0 (by decide) (by decide) (by decide) (by decide) (by decide), g1 1 (by decide) (by decide) (by decide) (by decide) (by decide), g1 2 (by decide) (by decide) (by decide) (by decide) (by decide), g1 3 (by decide) (by decide) (by decide) (by decide) (by decide)]
    exact a2.2 y y0 y1
  · rw [g4]; omega
  · rw [g4] at y1
    rw [g2]
    by_cases e : y = Q 9 2
    · subst e; rw [g7, g8, g9, g10]; omega
    · obtain ⟨p1, p2, p3, p4⟩ := g6 y e
      rw [p1, p2, p3, p4]; exact a3.2 y y0 (by omega)
  · rw [g3]; exact a4.1
  · rw [g3] at y1
    rw [g1 4 (by decide) (by decide) (by decide) (by decide) (by decide), g2]
    exact a4.2 y y0 y1
  · rw [g5]; exact a5
  · rw [g2] at y1; rw [g1 1 (by decide) (by decide) (by decide) (by decide) (by decide), g5]; exact a6 y y0 y1
  · rw [e11, g2]; exact a7
  · rw [g3] at y1; rw [g1 10 (by decide) (by decide) (by decide) (by decide) (by decide)]; exact a8 y y0 y1
theorem okP_B {n : Int} {Q : SG} {v : Int} (h : okP n Q) (h1 : 0 ≤ v ∧ v ≤ Q 9 0 - 1) : okP n (up Q 11 3 v) := by
  obtain ⟨a1, a2, a3, a4, a5, a6, a7, a8⟩ := h
  have e : ∀ k, k ≠ 11 → up Q 11 3 v k = Q k := fun k hk => up_row hk
  refine ⟨?_, a2.cong e, a3.cong e, a4.cong e, ?_, ?_, ?_, ?_⟩
  · unfold pbd; rw [up_col (by decide), up_col (by decide)]; exact a1
  · rw [e 9 (by decide)]; exact a5
  · rw [e 9 (by decide), e 1 (by decide)]; exact a6
  · rw [e 9 (by decide), up_same]; omega
  · rw [e 9 (by decide), e 10 (by decide)]; exact a8
theorem nm_ge (tx : Int → Int) (n lo hi : Int) (P : SG) : P 11 0 ≤ nm tx n lo hi P 11 0 := by
  unfold nm
  split
  · have h1 := sb_in tx n (P 11 0)
    have h2 := dg_in tx n (sb tx n (P 11 0))
    simp [up]; unfold nrA; omega
  · exact Int.le_refl _
theorem ne_ge (tx : Int → Int) (n : Int) (P : SG) : P 11 0 ≤ ne tx n P 11 0 := by
  unfold ne
  have h1 := sb_in tx n (P 11 0)
  (repeat' split) <;> simp [up] <;> omega
theorem fC_ok {tx : Int → Int} {n : Int} {P : SG} (h : okP n P) (h0 : P 11 1 = 0) (h1 : P 11 0 < n) : okP n (fC tx n P) ∧ (fC tx n P 11 1 = 0 → P 11 0 < fC tx n P 11 0) ∧ (∀ k, k ≠ 0 → k ≠ 1 → k ≠ 2 → k ≠ 3 → k ≠ 9 → k ≠ 11 → fC tx n P k = P k) ∧ fC tx n P 9 1 = P 9 1 ∧ fC tx n P 9 2 = P 9 2 ∧ fC tx n P 11 3 = P 11 3 := by
  have eQ : fC tx n P = (fun Q => if f6 tx n Q 11 1 = 0 then dF (f6 tx n Q) (nv tx n Q) (nv tx n (nm tx n 0 99 Q)) (nv tx n (nm tx n 2 12 (nm tx n 0 99 Q))) (nv tx n (nm tx n 0 11 (nm tx n 2 12 (nm tx n 0 99 Q)))) else f6 tx n Q) (wd (if P 9 0 < 8 then 0 else 1) P) := rfl
  have b1 : pbd n (wd (if P 9 0 < 8 then 0 else 1) P) := wd_bd h.1 h1
  have e1 := wd_row (if P 9 0 < 8 then 0 else 1) P
  have t1 := wd_3 (if P 9 0 < 8 then 0 else 1) P
  have z1 : wd (if P 9 0 < 8 then 0 else 1) P 11 1 = 0 → P 9 0 < 8 ∧ P 11 0 < wd (if P 9 0 < 8 then 0 else 1) P 11 0 := by
    intro q
    have q2 := wd_zero q
    by_cases q3 : P 9 0 < 8
    · refine ⟨q3, ?_⟩; rw [if_pos q3]; show P 11 0 < (if (0 : Int) = 0 then up P 11 0 (P 11 0 + 1) else _) 11 0; rw [if_pos rfl, up_same]; omega
    · rw [if_neg q3] at q2; omega
  rw [eQ]
  generalize wd (if P 9 0 < 8 then 0 else 1) P = Q1 at b1 e1 t1 z1 ⊢
  show okP n (if f6 tx n Q1 11 1 = 0 then dF (f6 tx n Q1) (nv tx n Q1) (nv tx n (nm tx n 0 99 Q1)) (nv tx n (nm tx n 2 12 (nm tx n 0 99 Q1))) (nv tx n (nm tx n 0 11 (nm tx n 2 12 (nm tx n 0 99 Q1)))) else f6 tx n Q1) ∧ ((if f6 tx n Q1 11 1 = 0 then dF (f6 tx n Q1) (nv tx n Q1) (nv tx n (nm tx n 0 99 Q1)) (nv tx n (nm tx n 2 12 (nm tx n 0 99 Q1))) (nv tx n (nm tx n 0 11 (nm tx n 2 12 (nm tx n 0 99 Q1)))) else f6 tx n Q1) 11 1 = 0 → P 11 0 < (if f6 tx n Q1 11 1 = 0 then dF (f6 tx n Q1) (nv tx n Q1) (nv tx n (nm tx n 0 99 Q1)) (nv tx n (nm tx n 2 12 (nm tx n 0 99 Q1))) (nv tx n (nm tx n 0 11 (nm tx n 2 12 (nm tx n 0 99 Q1)))) else f6 tx n Q1) 11 0) ∧ (∀ k, k ≠ 0 → k ≠ 1 → k ≠ 2 → k ≠ 3 → k ≠ 9 → k ≠ 11 → (if f6 tx n Q1 11 1 = 0 then dF (f6 tx n Q1) (nv tx n Q1) (nv tx n (nm tx n 0 99 Q1)) (nv tx n (nm tx n 2 12 (nm tx n 0 99 Q1))) (nv tx n (nm tx n 0 11 (nm tx n 2 12 (nm tx n 0 99 Q1)))) else f6 tx n Q1) k = P k) ∧ (if f6 tx n Q1 11 1 = 0 then dF (f6 tx n Q1) (nv tx n Q1) (nv tx n (nm tx n 0 99 Q1)) (nv tx n (nm tx n 2 12 (nm tx n 0 99 Q1))) (nv tx n (nm tx n 0 11 (nm tx n 2 12 (nm tx n 0 99 Q1)))) else f6 tx n Q1) 9 1 = P 9 1 ∧ (if f6 tx n Q1 11 1 = 0 then dF (f6 tx n Q1) (nv tx n Q1) (nv tx n (nm tx n 0 99 Q1)) (nv tx n (nm tx n 2 12 (nm tx n 0 99 Q1))) (nv tx n (nm tx n 0 11 (nm tx n 2 12 (nm tx n 0 99 Q1)))) else f6 tx n Q1) 9 2 = P 9 2 ∧ (if f6 tx n Q1 11 1 = 0 then dF (f6 tx n Q1) (nv tx n Q1) (nv tx n (nm tx n 0 99 Q1)) (nv tx n (nm tx n 2 12 (nm tx n 0 99 Q1))) (nv tx n (nm tx n 0 11 (nm tx n 2 12 (nm tx n 0 99 Q1)))) else f6 tx n Q1) 11 3 = P 11 3
  unfold f6
  have b2 : pbd n (nm tx n 0 99 Q1) := nm_bd b1
  have e2 := nm_row tx n 0 99 Q1
  have t2 := nm_3 tx n 0 99 Q1
  have g2 := nm_ge tx n 0 99 Q1
  have z2 := @nm_zero tx n 0 99 Q1
  generalize nm tx n 0 99 Q1 = Q2 at b2 e2 t2 g2 z2 ⊢
  have b3 : pbd n (nm tx n 2 12 Q2) := nm_bd b2
  have e3 := nm_row tx n 2 12 Q2
  have t3 := nm_3 tx n 2 12 Q2
  have g3 := nm_ge tx n 2 12 Q2
  have z3 := @nm_zero tx n 2 12 Q2
  generalize nm tx n 2 12 Q2 = Q3 at b3 e3 t3 g3 z3 ⊢
  have b4 : pbd n (nm tx n 0 11 Q3) := nm_bd b3
  have e4 := nm_row tx n 0 11 Q3
  have t4 := nm_3 tx n 0 11 Q3
  have g4 := nm_ge tx n 0 11 Q3
  have z4 := @nm_zero tx n 0 11 Q3
  generalize nm tx n 0 11 Q3 = Q4 at b4 e4 t4 g4 z4 ⊢
  have b5 : pbd n (nm tx n 0 9 Q4) := nm_bd b4
  have e5 := nm_row tx n 0 9 Q4
  have t5 := nm_3 tx n 0 9 Q4
  have g5 := nm_ge tx n 0 9 Q4
  have z5 := @nm_zero tx n 0 9 Q4
  generalize nm tx n 0 9 Q4 = Q5 at b5 e5 t5 g5 z5 ⊢
  have bL : pbd n (ne tx n Q5) := ne_bd b5
  have eL := ne_row tx n Q5
  have tL := ne_3 tx n Q5
  have gL := ne_ge tx n Q5
  have zL := @ne_zero tx n Q5
  generalize ne tx n Q5 = QL at bL eL tL gL zL ⊢
  have eA : ∀ k, k ≠ 11 → QL k = P k := fun k hk => by rw [eL k hk, e5 k hk, e4 k hk, e3 k hk, e2 k hk, e1 k hk]
  have tA : QL 11 3 = P 11 3 := by rw [tL, t5, t4, t3, t2, t1]
  have oA : okP n QL := okP_row h eA tA bL
  by_cases q : QL 11 1 = 0
  · rw [if_pos q]
    have y5 := zL q
    obtain ⟨y4, v4⟩ := z5 y5
    obtain ⟨y3, v3⟩ := z4 y4
    obtain ⟨y2, v2⟩ := z3 y3
    obtain ⟨y1, v1⟩ := z2 y2
    obtain ⟨w1, w2⟩ := z1 y1
    have c9 := congrFun (eA 9 (by decide))
    have c90 := c9 0; have c91 := c9 1; have c92 := c9 2; have c93 := c9 3
    obtain ⟨g1, g2, g3, g4, g5, g6, g7, g8, g9, g10⟩ := dF_get QL (nv tx n Q1) (nv tx n Q2) (nv tx n Q3) (nv tx n Q4)
    have g11 := g1 11 (by decide) (by decide) (by decide) (by decide) (by decide)
    refine ⟨okP_F oA (by omega) v1 v2 v3 v4, fun _ => by rw [g11]; omega, fun k a b c d e f => by rw [g1 k a b c d e]; exact eA k f, by rw [g3]; exact c91, by rw [g4]; exact c92, by rw [g11]; exact tA⟩
  · rw [if_neg q]
    exact ⟨oA, fun q2 => absurd q2 q, fun k a b c d e f => eA k f, congrFun (eA 9 (by decide)) 1, congrFun (eA 9 (by decide)) 2, tA⟩
theorem hC_ok {tx : Int → Int} {n : Int} {P : SG} (h : okP n P) (h0 : P 11 1 = 0) (h1 : P 11 0 < n) : okP n (hC tx n P) ∧ (hC tx n P 11 1 = 0 → P 11 0 < hC tx n P 11 0) ∧ (∀ k, k ≠ 4 → k ≠ 9 → k ≠ 10 → k ≠ 11 → hC tx n P k = P k) ∧ hC tx n P 9 0 = P 9 0 ∧ hC tx n P 9 2 = P 9 2 ∧ hC tx n P 9 3 = P 9 3 ∧ hC tx n P 11 3 = P 11 3 := by
  have eQ : hC tx n P = (fun Q => if h4 tx n (P 9 0) Q 11 1 = 0 then dH (h4 tx n (P 9 0) Q) (nv tx n Q) (nv tx n (nm tx n 0 (P 9 0 - 2) Q)) else h4 tx n (P 9 0) Q) (wd (if P 9 1 < 4 then 0 else 1) P) := rfl
  have b1 : pbd n (wd (if P 9 1 < 4 then 0 else 1) P) := wd_bd h.1 h1
  have e1 := wd_row (if P 9 1 < 4 then 0 else 1) P
  have t1 := wd_3 (if P 9 1 < 4 then 0 else 1) P
  have z1 : wd (if P 9 1 < 4 then 0 else 1) P 11 1 = 0 → P 9 1 < 4 ∧ P 11 0 < wd (if P 9 1 < 4 then 0 else 1) P 11 0 := by
    intro q
    have q2 := wd_zero q
    by_cases q3 : P 9 1 < 4
    · refine ⟨q3, ?_⟩; rw [if_pos q3]; show P 11 0 < (if (0 : Int) = 0 then up P 11 0 (P 11 0 + 1) else _) 11 0; rw [if_pos rfl, up_same]; omega
    · rw [if_neg q3] at q2; omega
  rw [eQ]
  generalize wd (if P 9 1 < 4 then 0 else 1) P = Q1 at b1 e1 t1 z1 ⊢
  show okP n (if h4 tx n (P 9 0) Q1 11 1 = 0 then dH (h4 tx n (P 9 0) Q1) (nv tx n Q1) (nv tx n (nm tx n 0 (P 9 0 - 2) Q1)) else h4 tx n (P 9 0) Q1) ∧ ((if h4 tx n (P 9 0) Q1 11 1 = 0 then dH (h4 tx n (P 9 0) Q1) (nv tx n Q1) (nv tx n (nm tx n 0 (P 9 0 - 2) Q1)) else h4 tx n (P 9 0) Q1) 11 1 = 0 → P 11 0 < (if h4 tx n (P 9 0) Q1 11 1 = 0 then dH (h4 tx n (P 9 0) Q1) (nv tx n Q1) (nv tx n (nm tx n 0 (P 9 0 - 2) Q1)) else h4 tx n (P 9 0) Q1) 11 0) ∧ (∀ k, k ≠ 4 → k ≠ 9 → k ≠ 10 → k ≠ 11 → (if h4 tx n (P 9 0) Q1 11 1 = 0 then dH (h4 tx n (P 9 0) Q1) (nv tx n Q1) (nv tx n (nm tx n 0 (P 9 0 - 2) Q1)) else h4 tx n (P 9 0) Q1) k = P k) ∧ (if h4 tx n (P 9 0) Q1 11 1 = 0 then dH (h4 tx n (P 9 0) Q1) (nv tx n Q1) (nv tx n (nm tx n 0 (P 9 0 - 2) Q1)) else h4 tx n (P 9 0) Q1) 9 0 = P 9 0 ∧ (if h4 tx n (P 9 0) Q1 11 1 = 0 then dH (h4 tx n (P 9 0) Q1) (nv tx n Q1) (nv tx n (nm tx n 0 (P 9 0 - 2) Q1)) else h4 tx n (P 9 0) Q1) 9 2 = P 9 2 ∧ (if h4 tx n (P 9 0) Q1 11 1 = 0 then dH (h4 tx n (P 9 0) Q1) (nv tx n Q1) (nv tx n (nm tx n 0 (P 9 0 - 2) Q1)) else h4 tx n (P 9 0) Q1) 9 3 = P 9 3 ∧ (if h4 tx n (P 9 0) Q1 11 1 = 0 then dH (h4 tx n (P 9 0) Q1) (nv tx n Q1) (nv tx n (nm tx n 0 (P 9 0 - 2) Q1)) else h4 tx n (P 9 0) Q1) 11 3 = P 11 3
  unfold h4
  have b2 : pbd n (nm tx n 0 (P 9 0 - 2) Q1) := nm_bd b1
  have e2 := nm_row tx n 0 (P 9 0 - 2) Q1
  have t2 := nm_3 tx n 0 (P 9 0 - 2) Q1
  have g2 := nm_ge tx n 0 (P 9 0 - 2) Q1
  have z2 := @nm_zero tx n 0 (P 9 0 - 2) Q1
  generalize nm tx n 0 (P 9 0 - 2) Q1 = Q2 at b2 e2 t2 g2 z2 ⊢
  have b3 : pbd n (nm tx n 0 99 Q2) := nm_bd b2
  have e3 := nm_row tx n 0 99 Q2
  have t3 := nm_3 tx n 0 99 Q2
  have g3 := nm_ge tx n 0 99 Q2
  have z3 := @nm_zero tx n 0 99 Q2
  generalize nm tx n 0 99 Q2 = Q3 at b3 e3 t3 g3 z3 ⊢
  have bL : pbd n (ne tx n Q3) := ne_bd b3
  have eL := ne_row tx n Q3
  have tL := ne_3 tx n Q3
  have gL := ne_ge tx n Q3
  have zL := @ne_zero tx n Q3
  generalize ne tx n Q3 = QL at bL eL tL gL zL ⊢
  have eA : ∀ k, k ≠ 11 → QL k = P k := fun k hk => by rw [eL k hk, e3 k hk, e2 k hk, e1 k hk]
  have tA : QL 11 3 = P 11 3 := by rw [tL, t3, t2, t1]
  have oA : okP n QL := okP_row h eA tA bL
  by_cases q : QL 11 1 = 0
  · rw [if_pos q]
    have y3 := zL q
    obtain ⟨y2, v2⟩ := z3 y3
    obtain ⟨y1, v1⟩ := z2 y2
    obtain ⟨w1, w2⟩ := z1 y1
    have c9 := congrFun (eA 9 (by decide))
    have c90 := c9 0; have c91 := c9 1; have c92 := c9 2; have c93 := c9 3
    obtain ⟨g1, g2, g3, g4, g5, g6, g7, g8⟩ := dH_get QL (nv tx n Q1) (nv tx n Q2)
    have g11 := g1 11 (by decide) (by decide) (by decide)
    refine ⟨okP_H oA (by omega) (by omega) v2, fun _ => by rw [g11]; omega, fun k a b c d => by rw [g1 k a b c]; exact eA k d, by rw [g2]; exact c90, by rw [g4]; exact c92, by rw [g5]; exact c93, by rw [g11]; exact tA⟩
  · rw [if_neg q]
    exact ⟨oA, fun q2 => absurd q2 q, fun k a b c d => eA k d, congrFun (eA 9 (by decide)) 0, congrFun (eA 9 (by decide)) 2, congrFun (eA 9 (by decide)) 3, tA⟩
theorem sC_ok {tx : Int → Int} {n : Int} {P : SG} (h : okP n P) (h0 : P 11 1 = 0) (h1 : P 11 0 < n) : okP n (sC tx n P) ∧ (sC tx n P 11 1 = 0 → P 11 0 < sC tx n P 11 0) ∧ (∀ k, k ≠ 5 → k ≠ 6 → k ≠ 7 → k ≠ 8 → k ≠ 9 → k ≠ 11 → sC tx n P k = P k) ∧ sC tx n P 9 0 = P 9 0 ∧ sC tx n P 9 1 = P 9 1 ∧ sC tx n P 9 3 = P 9 3 ∧ sC tx n P 11 3 = P 11 3 := by
  have eQ : sC tx n P = (fun Q => if s6 tx n (P 9 0) Q 11 1 = 0 then dQ (s6 tx n (P 9 0) Q) (nv tx n Q) (nv tx n (nm tx n 0 (P 9 0 - 2) Q)) (nv tx n (nm tx n 1 12 (nm tx n 0 (P 9 0 - 2) Q))) (nv tx n (nm tx n 0 11 (nm tx n 1 12 (nm tx n 0 (P 9 0 - 2) Q)))) else s6 tx n (P 9 0) Q) (wd (if P 9 2 < 4 then 0 else 1) P) := rfl
  have b1 : pbd n (wd (if P 9 2 < 4 then 0 else 1) P) := wd_bd h.1 h1
  have e1 := wd_row (if P 9 2 < 4 then 0 else 1) P
  have t1 := wd_3 (if P 9 2 < 4 then 0 else 1) P
  have z1 : wd (if P 9 2 < 4 then 0 else 1) P 11 1 = 0 → P 9 2 < 4 ∧ P 11 0 < wd (if P 9 2 < 4 then 0 else 1) P 11 0 := by
    intro q
    have q2 := wd_zero q
    by_cases q3 : P 9 2 < 4
    · refine ⟨q3, ?_⟩; rw [if_pos q3]; show P 11 0 < (if (0 : Int) = 0 then up P 11 0 (P 11 0 + 1) else _) 11 0; rw [if_pos rfl, up_same]; omega
    · rw [if_neg q3] at q2; omega
  rw [eQ]
  generalize wd (if P 9 2 < 4 then 0 else 1) P = Q1 at b1 e1 t1 z1 ⊢
  show okP n (if s6 tx n (P 9 0) Q1 11 1 = 0 then dQ (s6 tx n (P 9 0) Q1) (nv tx n Q1) (nv tx n (nm tx n 0 (P 9 0 - 2) Q1)) (nv tx n (nm tx n 1 12 (nm tx n 0 (P 9 0 - 2) Q1))) (nv tx n (nm tx n 0 11 (nm tx n 1 12 (nm tx n 0 (P 9 0 - 2) Q1)))) else s6 tx n (P 9 0) Q1) ∧ ((if s6 tx n (P 9 0) Q1 11 1 = 0 then dQ (s6 tx n (P 9 0) Q1) (nv tx n Q1) (nv tx n (nm tx n 0 (P 9 0 - 2) Q1)) (nv tx n (nm tx n 1 12 (nm tx n 0 (P 9 0 - 2) Q1))) (nv tx n (nm tx n 0 11 (nm tx n 1 12 (nm tx n 0 (P 9 0 - 2) Q1)))) else s6 tx n (P 9 0) Q1) 11 1 = 0 → P 11 0 < (if s6 tx n (P 9 0) Q1 11 1 = 0 then dQ (s6 tx n (P 9 0) Q1) (nv tx n Q1) (nv tx n (nm tx n 0 (P 9 0 - 2) Q1)) (nv tx n (nm tx n 1 12 (nm tx n 0 (P 9 0 - 2) Q1))) (nv tx n (nm tx n 0 11 (nm tx n 1 12 (nm tx n 0 (P 9 0 - 2) Q1)))) else s6 tx n (P 9 0) Q1) 11 0) ∧ (∀ k, k ≠ 5 → k ≠ 6 → k ≠ 7 → k ≠ 8 → k ≠ 9 → k ≠ 11 → (if s6 tx n (P 9 0) Q1 11 1 = 0 then dQ (s6 tx n (P 9 0) Q1) (nv tx n Q1) (nv tx n (nm tx n 0 (P 9 0 - 2) Q1)) (nv tx n (nm tx n 1 12 (nm tx n 0 (P 9 0 - 2) Q1))) (nv tx n (nm tx n 0 11 (nm tx n 1 12 (nm tx n 0 (P 9 0 - 2) Q1)))) else s6 tx n (P 9 0) Q1) k = P k) ∧ (if s6 tx n (P 9 0) Q1 11 1 = 0 then dQ (s6 tx n (P 9 0) Q1) (nv tx n Q1) (nv tx n (nm tx n 0 (P 9 0 - 2) Q1)) (nv tx n (nm tx n 1 12 (nm tx n 0 (P 9 0 - 2) Q1))) (nv tx n (nm tx n 0 11 (nm tx n 1 12 (nm tx n 0 (P 9 0 - 2) Q1)))) else s6 tx n (P 9 0) Q1) 9 0 = P 9 0 ∧ (if s6 tx n (P 9 0) Q1 11 1 = 0 then dQ (s6 tx n (P 9 0) Q1) (nv tx n Q1) (nv tx n (nm tx n 0 (P 9 0 - 2) Q1)) (nv tx n (nm tx n 1 12 (nm tx n 0 (P 9 0 - 2) Q1))) (nv tx n (nm tx n 0 11 (nm tx n 1 12 (nm tx n 0 (P 9 0 - 2) Q1)))) else s6 tx n (P 9 0) Q1) 9 1 = P 9 1 ∧ (if s6 tx n (P 9 0) Q1 11 1 = 0 then dQ (s6 tx n (P 9 0) Q1) (nv tx n Q1) (nv tx n (nm tx n 0 (P 9 0 - 2) Q1)) (nv tx n (nm tx n 1 12 (nm tx n 0 (P 9 0 - 2) Q1))) (nv tx n (nm tx n 0 11 (nm tx n 1 12 (nm tx n 0 (P 9 0 - 2) Q1)))) else s6 tx n (P 9 0) Q1) 9 3 = P 9 3 ∧ (if s6 tx n (P 9 0) Q1 11 1 = 0 then dQ (s6 tx n (P 9 0) Q1) (nv tx n Q1) (nv tx n (nm tx n 0 (P 9 0 - 2) Q1)) (nv tx n (nm tx n 1 12 (nm tx n 0 (P 9 0 - 2) Q1))) (nv tx n (nm tx n 0 11 (nm tx n 1 12 (nm tx n 0 (P 9 0 - 2) Q1)))) else s6 tx n (P 9 0) Q1) 11 3 = P 11 3
  unfold s6
  have b2 : pbd n (nm tx n 0 (P 9 0 - 2) Q1) := nm_bd b1
  have e2 := nm_row tx n 0 (P 9 0 - 2) Q1
  have t2 := nm_3 tx n 0 (P 9 0 - 2) Q1
  have g2 := nm_ge tx n 0 (P 9 0 - 2) Q1
  have z2 := @nm_zero tx n 0 (P 9 0 - 2) Q1
  generalize nm tx n 0 (P 9 0 - 2) Q1 = Q2 at b2 e2 t2 g2 z2 ⊢
  have b3 : pbd n (nm tx n 1 12 Q2) := nm_bd b2
  have e3 := nm_row tx n 1 12 Q2
  have t3 := nm_3 tx n 1 12 Q2
  have g3 := nm_ge tx n 1 12 Q2
  have z3 := @nm_zero tx n 1 12 Q2
  generalize nm tx n 1 12 Q2 = Q3 at b3 e3 t3 g3 z3 ⊢
  have b4 : pbd n (nm tx n 0 11 Q3) := nm_bd b3
  have e4 := nm_row tx n 0 11 Q3
  have t4 := nm_3 tx n 0 11 Q3
  have g4 := nm_ge tx n 0 11 Q3
  have z4 := @nm_zero tx n 0 11 Q3
  generalize nm tx n 0 11 Q3 = Q4 at b4 e4 t4 g4 z4 ⊢
  have b5 : pbd n (nm tx n 0 12 Q4) := nm_bd b4
  have e5 := nm_row tx n 0 12 Q4
  have t5 := nm_3 tx n 0 12 Q4
  have g5 := nm_ge tx n 0 12 Q4
  have z5 := @nm_zero tx n 0 12 Q4
  generalize nm tx n 0 12 Q4 = Q5 at b5 e5 t5 g5 z5 ⊢
  have bL : pbd n (ne tx n Q5) := ne_bd b5
  have eL := ne_row tx n Q5
  have tL := ne_3 tx n Q5
  have gL := ne_ge tx n Q5
  have zL := @ne_zero tx n Q5
  generalize ne tx n Q5 = QL at bL eL tL gL zL ⊢
  have eA : ∀ k, k ≠ 11 → QL k = P k := fun k hk => by rw [eL k hk, e5 k hk, e4 k hk, e3 k hk, e2 k hk, e1 k hk]
  have tA : QL 11 3 = P 11 3 := by rw [tL, t5, t4, t3, t2, t1]
  have oA : okP n QL := okP_row h eA tA bL
  by_cases q : QL 11 1 = 0
  · rw [if_pos q]
    have y5 := zL q
    obtain ⟨y4, v4⟩ := z5 y5
    obtain ⟨y3, v3⟩ := z4 y4
    obtain ⟨y2, v2⟩ := z3 y3
    obtain ⟨y1, v1⟩ := z2 y2
    obtain ⟨w1, w2⟩ := z1 y1
    have c9 := congrFun (eA 9 (by decide))
    have c90 := c9 0; have c91 := c9 1; have c92 := c9 2; have c93 := c9 3
    obtain ⟨g1, g2, g3, g4, g5, g6, g7, g8, g9, g10⟩ := dQ_get QL (nv tx n Q1) (nv tx n Q2) (nv tx n Q3) (nv tx n Q4)
    have g11 := g1 11 (by decide) (by decide) (by decide) (by decide) (by decide)
    refine ⟨okP_Q oA (by omega) (by omega) v2 v3 v4, fun _ => by rw [g11]; omega, fun k a b c d e f => by rw [g1 k a b c d e]; exact eA k f, by rw [g2]; exact c90, by rw [g3]; exact c91, by rw [g5]; exact c93, by rw [g11]; exact tA⟩
  · rw [if_neg q]
    exact ⟨oA, fun q2 => absurd q2 q, fun k a b c d e f => eA k f, congrFun (eA 9 (by decide)) 0, congrFun (eA 9 (by decide)) 1, congrFun (eA 9 (by decide)) 3, tA⟩
theorem bC_ok {tx : Int → Int} {n : Int} {P : SG} (h : okP n P) (h0 : P 11 1 = 0) (h1 : P 11 0 < n) : okP n (bC tx n P) ∧ (bC tx n P 11 1 = 0 → P 11 0 < bC tx n P 11 0) ∧ (∀ k, k ≠ 11 → bC tx n P k = P k) := by
  have eQ : bC tx n P = (fun Q => if b3 tx n (P 9 0) Q 11 1 = 0 then up (b3 tx n (P 9 0) Q) 11 3 (nv tx n Q) else b3 tx n (P 9 0) Q) (wd (if P 11 3 = -1 then 0 else 1) P) := rfl
  have b1 : pbd n (wd (if P 11 3 = -1 then 0 else 1) P) := wd_bd h.1 h1
  have e1 := wd_row (if P 11 3 = -1 then 0 else 1) P
  have t1 := wd_3 (if P 11 3 = -1 then 0 else 1) P
  have z1 : wd (if P 11 3 = -1 then 0 else 1) P 11 1 = 0 → P 11 3 = -1 ∧ P 11 0 < wd (if P 11 3 = -1 then 0 else 1) P 11 0 := by
    intro q
    have q2 := wd_zero q
    by_cases q3 : P 11 3 = -1
    · refine ⟨q3, ?_⟩; rw [if_pos q3]; show P 11 0 < (if (0 : Int) = 0 then up P 11 0 (P 11 0 + 1) else _) 11 0; rw [if_pos rfl, up_same]; omega
    · rw [if_neg q3] at q2; omega
  rw [eQ]
  generalize wd (if P 11 3 = -1 then 0 else 1) P = Q1 at b1 e1 t1 z1 ⊢
  show okP n (if b3 tx n (P 9 0) Q1 11 1 = 0 then up (b3 tx n (P 9 0) Q1) 11 3 (nv tx n Q1) else b3 tx n (P 9 0) Q1) ∧ ((if b3 tx n (P 9 0) Q1 11 1 = 0 then up (b3 tx n (P 9 0) Q1) 11 3 (nv tx n Q1) else b3 tx n (P 9 0) Q1) 11 1 = 0 → P 11 0 < (if b3 tx n (P 9 0) Q1 11 1 = 0 then up (b3 tx n (P 9 0) Q1) 11 3 (nv tx n Q1) else b3 tx n (P 9 0) Q1) 11 0) ∧ (∀ k, k ≠ 11 → (if b3 tx n (P 9 0) Q1 11 1 = 0 then up (b3 tx n (P 9 0) Q1) 11 3 (nv tx n Q1) else b3 tx n (P 9 0) Q1) k = P k)
  unfold b3
  have b2 : pbd n (nm tx n 0 (P 9 0 - 1) Q1) := nm_bd b1
  have e2 := nm_row tx n 0 (P 9 0 - 1) Q1
  have t2 := nm_3 tx n 0 (P 9 0 - 1) Q1
  have g2 := nm_ge tx n 0 (P 9 0 - 1) Q1
  have z2 := @nm_zero tx n 0 (P 9 0 - 1) Q1
  generalize nm tx n 0 (P 9 0 - 1) Q1 = Q2 at b2 e2 t2 g2 z2 ⊢
  have bL : pbd n (ne tx n Q2) := ne_bd b2
  have eL := ne_row tx n Q2
  have tL := ne_3 tx n Q2
  have gL := ne_ge tx n Q2
  have zL := @ne_zero tx n Q2
  generalize ne tx n Q2 = QL at bL eL tL gL zL ⊢
  have eA : ∀ k, k ≠ 11 → QL k = P k := fun k hk => by rw [eL k hk, e2 k hk, e1 k hk]
  have tA : QL 11 3 = P 11 3 := by rw [tL, t2, t1]
  have oA : okP n QL := okP_row h eA tA bL
  by_cases q : QL 11 1 = 0
  · rw [if_pos q]
    have y2 := zL q
    obtain ⟨y1, v1⟩ := z2 y2
    obtain ⟨w1, w2⟩ := z1 y1
    have c9 := congrFun (eA 9 (by decide))
    have c90 := c9 0; have c91 := c9 1; have c92 := c9 2; have c93 := c9 3
    refine ⟨okP_B oA (by omega), fun _ => by rw [up_col (by decide)]; omega, fun k a => by rw [up_row a]; exact eA k a⟩
  · rw [if_neg q]
    exact ⟨oA, fun q2 => absurd q2 q, fun k a => eA k a⟩
