def rdf (P : SG) : Nat → Int
  | 0 => 1
  | k + 1 => lc (rdf P k) (P 1 k)
theorem rdf_next {P : SG} {k : Int} (h : 0 ≤ k) : rdf P (k + 1).toNat = lc (rdf P k.toNat) (P 1 k) := by
  rw [show (k + 1).toNat = k.toNat + 1 by omega]
  show lc (rdf P k.toNat) (P 1 ((k.toNat : Nat) : Int)) = _
  rw [show ((k.toNat : Nat) : Int) = k by omega]
theorem rdf_cong {P Q : SG} : ∀ k : Nat, (∀ f : Int, 0 ≤ f → f < k → Q 1 f = P 1 f) → rdf Q k = rdf P k
  | 0, _ => rfl
  | k + 1, h => by
    show lc (rdf Q k) (Q 1 k) = lc (rdf P k) (P 1 k)
    rw [rdf_cong k (fun f a b => h f a (by omega)), h k (by omega) (by omega)]
theorem rdf_bd {P : SG} (h : okF P) : ∀ k : Nat, (k : Int) ≤ P 9 0 → 1 ≤ rdf P k ∧ rdf P k ∣ 27720
  | 0, _ => ⟨by show (1 : Int) ≤ 1; omega, by show (1 : Int) ∣ 27720; decide⟩
  | k + 1, hk => by
    obtain ⟨a, b⟩ := rdf_bd h k (by omega)
    have c := (h.2 k (by omega) (by omega)).2.1
    exact ⟨lc_pos a (by omega), lc_dvd a (by omega) b (dvd27 _ (by omega) c.2) (by decide)⟩
def rdO (P : SG) : Prop := P 9 3 = rdf P (P 9 0).toNat
theorem rdO_row {P Q : SG} (h : rdO P) (e1 : Q 1 = P 1) (e0 : Q 9 0 = P 9 0) (e3 : Q 9 3 = P 9 3) : rdO Q := by
  unfold rdO at *
  rw [e0, e3, h]
  exact (rdf_cong _ (fun f _ _ => by rw [e1])).symm
theorem rdO_dF {R : SG} {b m l s : Int} (h : rdO R) (h0 : 0 ≤ R 9 0) : rdO (dF R b m l s) := by
  obtain ⟨g1, g2, g3, g4, g5, g6, g7, g8, g9, g10⟩ := dF_get R b m l s
  unfold rdO at *
  rw [g2, g5, rdf_next h0, g8, h]
  congr 1
  exact (rdf_cong _ (fun f a c => (g6 f (by omega)).2.1)).symm
theorem rdO_fC {tx : Int → Int} {n : Int} {P : SG} (h : rdO P) (h0 : 0 ≤ P 9 0) : rdO (fC tx n P) := by
  have eA : ∀ k, k ≠ 11 → f6 tx n (wd (if P 9 0 < 8 then 0 else 1) P) k = P k := fun k hk => by
    unfold f6
    rw [ne_row _ _ _ k hk, nm_row _ _ _ _ _ k hk, nm_row _ _ _ _ _ k hk, nm_row _ _ _ _ _ k hk, nm_row _ _ _ _ _ k hk, wd_row _ _ k hk]
  have hR : rdO (f6 tx n (wd (if P 9 0 < 8 then 0 else 1) P)) := rdO_row h (eA 1 (by decide)) (by rw [eA 9 (by decide)]) (by rw [eA 9 (by decide)])
  show rdO (if f6 tx n (wd (if P 9 0 < 8 then 0 else 1) P) 11 1 = 0 then _ else _)
  by_cases q : f6 tx n (wd (if P 9 0 < 8 then 0 else 1) P) 11 1 = 0
  · rw [if_pos q]; exact rdO_dF hR (by rw [eA 9 (by decide)]; exact h0)
  · rw [if_neg q]; exact hR
theorem rdO_cl {tx : Int → Int} {n : Int} {P : SG} (hr : rdO P) (h : okP n P) (h0 : P 11 1 = 0) (h1 : P 11 0 < n) : rdO (cl tx n P) := by
  have hF := h.2.1.1
  unfold cl
  split
  · exact rdO_fC hr hF.1
  · split
    · obtain ⟨-, -, a, b, -, c, -⟩ := hC_ok (tx := tx) h h0 h1
      exact rdO_row hr (a 1 (by decide) (by decide) (by decide) (by decide)) b c
    · split
      · obtain ⟨-, -, a, b, -, c, -⟩ := sC_ok (tx := tx) h h0 h1
        exact rdO_row hr (a 1 (by decide) (by decide) (by decide) (by decide) (by decide) (by decide)) b c
      · split
        · obtain ⟨-, -, a⟩ := bC_ok (tx := tx) h h0 h1
          exact rdO_row hr (a 1 (by decide)) (by rw [a 9 (by decide)]) (by rw [a 9 (by decide)])
        · exact rdO_row hr (by rw [up_row (by decide), up_row (by decide)]) (by rw [up_row (by decide), up_row (by decide)]) (by rw [up_row (by decide), up_row (by decide)])
theorem rdO_skp {tx : Int → Int} {n : Int} {P : SG} (h : rdO P) : rdO (skp tx n P) := rdO_row h (up_row (by decide)) (by unfold skp; rw [up_row (by decide)]) (by unfold skp; rw [up_row (by decide)])
theorem rdO_it {tx : Int → Int} {n : Int} (h : 0 ≤ n) : ∀ k : Nat, rdO (itP tx n k)
  | 0 => rdO_skp (by unfold rdO; simp [P0, rdf])
  | k + 1 => by
    have i1 := rdO_it (tx := tx) h k
    rw [show itP tx n (k + 1) = (if itP tx n k 11 0 < n ∧ itP tx n k 11 1 = 0 then skp tx n (cl tx n (itP tx n k)) else itP tx n k) from rfl]
    by_cases q : itP tx n k 11 0 < n ∧ itP tx n k 11 1 = 0
    · rw [if_pos q]; exact rdO_skp (rdO_cl i1 (okP_it h k).1 q.2 q.1)
    · rw [if_neg q]; exact i1
theorem clM_bd {tx : Int → Int} {n : Int} {P : SG} (h : pbd n P) (h1 : P 11 0 < n) : pbd n (clM tx n P) := by
  have hw : pbd n (wd 0 P) := wd_bd h h1
  have hx : pbd n (up (up P 11 1 3) 11 2 (P 11 0)) := by rw [← wd1]; exact wd_bd h h1
  unfold clM
  (repeat' split)
  · unfold pbd fM; rw [dF_11]; exact nm_bd (nm_bd (nm_bd (nm_bd hw)))
  · exact hx
  · unfold pbd hMc; rw [dH_11]; exact nm_bd (nm_bd hw)
  · exact hx
  · unfold pbd sM; rw [dQ_11]; exact nm_bd (nm_bd (nm_bd (nm_bd hw)))
  · exact hx
  · unfold pbd bM; rw [up_col (by decide), up_col (by decide)]; exact nm_bd hw
  · exact hx
  · refine ⟨?_, ?_⟩
    · rw [up_col (by decide), up_col (by decide)]; exact h.1
    · rw [up_col (by decide), up_same]; omega
theorem mQ.keep {σ τ P Q : SG} (h : mQ σ P) (e1 : ∀ j : Int, 8 ≤ j → j ≤ 12 → τ 57 j = σ 57 j) (e2 : ∀ k, k ≠ 57 → τ k = σ k) (e3 : ∀ k, k ≠ 11 → Q k = P k) (e4 : Q 11 3 = P 11 3) : mQ τ Q := by
  unfold mQ at *
  rw [e1 8 (by decide) (by decide), e1 9 (by decide) (by decide), e1 10 (by decide) (by decide), e1 11 (by decide) (by decide), e1 12 (by decide) (by decide), e2 60 (by decide), e2 61 (by decide), e2 62 (by decide), e4, e3 9 (by decide), e3 0 (by decide), e3 1 (by decide), e3 2 (by decide), e3 3 (by decide), e3 4 (by decide), e3 5 (by decide), e3 6 (by decide), e3 7 (by decide), e3 8 (by decide), e3 10 (by decide)]
  exact h
theorem mP_skp {σ : SG} {tx : Int → Int} {n : Int} {R : SG} (h : mP σ tx n R) : mP (up σ 57 15 (sb tx n (R 11 0))) tx n (skp tx n R) := by
  obtain ⟨a, ⟨b1, b2, b3⟩, c⟩ := h
  have w1 : skp tx n R 11 1 = R 11 1 := up_col (by decide)
  have w2 : skp tx n R 11 2 = R 11 2 := up_col (by decide)
  have w0 : skp tx n R 11 0 = sb tx n (R 11 0) := up_same _ _ _ _
  refine ⟨a.keep (up_col (by decide)) (up_row (by decide)), ⟨by rw [w1, up_col (by decide)]; exact b1, by rw [w2, up_col (by decide)]; exact b2, fun _ => by rw [w0, up_same]⟩, fun z => ?_⟩
  rw [w1] at z
  exact (c z).keep (fun j a b => up_col (by omega)) (fun k hk => up_row hk) (fun k hk => up_row hk) (up_col (by decide))
theorem mP_neY {σ : SG} {tx : Int → Int} {n : Int} {C : SG} (h : mP σ tx n C) (z : C 11 1 = 0) (q : lh tx n (sb tx n (C 11 0)) = 59) : mP (up (up σ 57 15 (sb tx n (C 11 0))) 57 15 (sb tx n (C 11 0) + 1)) tx n (ne tx n C) := by
  have e : ne tx n C = up C 11 0 (sb tx n (C 11 0) + 1) := by unfold ne; rw [if_pos z, if_pos q]
  obtain ⟨a, ⟨b1, b2, b3⟩, c⟩ := h
  rw [e, up_up]
  refine ⟨a.keep (up_col (by decide)) (up_row (by decide)), ⟨by rw [up_col (by decide), up_col (by decide)]; exact b1, by rw [up_col (by decide), up_col (by decide)]; exact b2, fun _ => by rw [up_same, up_same]⟩, fun _ => ?_⟩
  exact (c z).keep (fun j a b => up_col (by omega)) (fun k hk => up_row hk) (fun k hk => up_row hk) (up_col (by decide))
theorem mP_neN {σ : SG} {tx : Int → Int} {n : Int} {C : SG} (h : mP σ tx n C) (z : C 11 1 = 0) (q : ¬ lh tx n (sb tx n (C 11 0)) = 59) : mP (up (up (up σ 57 15 (sb tx n (C 11 0))) 57 17 1) 57 18 (sb tx n (C 11 0))) tx n (ne tx n C) := by
  have e : ne tx n C = up (up (up C 11 0 (sb tx n (C 11 0))) 11 1 1) 11 2 (sb tx n (C 11 0)) := by unfold ne; rw [if_pos z, if_neg q]
  have w1 : up (up (up C 11 0 (sb tx n (C 11 0))) 11 1 1) 11 2 (sb tx n (C 11 0)) 11 1 = 1 := by rw [up_col (by decide), up_same]
  rw [e]
  refine ⟨h.1.keep (by rw [up_col (by decide), up_col (by decide), up_col (by decide)]) (by rw [up_row (by decide), up_row (by decide), up_row (by decide)]), ⟨by rw [w1, up_col (by decide), up_same], by rw [up_same, up_same], fun z2 => ?_⟩, fun z2 => ?_⟩
  · rw [w1] at z2; omega
  · rw [w1] at z2; omega
theorem lhM_neg {σ : SG} {tx : Int → Int} {n a : Int} (h : mtx σ tx n) (ha : 0 ≤ a) (q : lh tx n a < 0) : n ≤ a := by
  unfold lh at q
  split at q
  · rename_i p
    have := h.2.2 a p.1 p.2
    omega
  · omega
theorem lhM_pos {tx : Int → Int} {n a : Int} (q : ¬ lh tx n a < 0) : a < n := by
  unfold lh at q
  split at q
  · rename_i p; exact p.2
  · omega
set_option maxRecDepth 100000 in
set_option maxHeartbeats 4000000 in
theorem c_X12_street (l : Launch) (K : WK) (σ : SG) {tx : Int → Int} {n : Int} (hT : mtx σ tx n) : MI l yX12_street cX12_street 2 (some .int) 4 93 K σ [.ref (K.2.2 57)] (fun z τ => τ 57 14 = 0 ∧ τ 57 18 = itP tx n 250 11 2 ∧ ((itP tx n 250 11 1 ≠ 0 ∧ z = -10 - itP tx n 250 11 1 ∧ (∀ j : Int, (j < 8 ∨ j = 13 ∨ 18 < j) → τ 57 j = σ 57 j) ∧ (∀ j : Int, j < 32 → τ 60 j = σ 60 j) ∧ (∀ j : Int, j < 8 → τ 61 j = σ 61 j) ∧ (∀ j : Int, j < 16 → τ 62 j = σ 62 j) ∧ ∀ k, k ≠ 57 → k ≠ 60 → k ≠ 61 → k ≠ 62 → τ k = σ k) ∨ (itP tx n 250 11 1 = 0 ∧ z = itP tx n 250 9 0 ∧ mD τ (itP tx n 250) ∧ (∀ h : Int, 0 ≤ h → h < itP tx n 250 9 1 → τ 58 (4 + h) = itP tx n 250 10 h) ∧ (τ 58 0 = 0 ∧ τ 58 1 = 0 ∧ τ 58 2 = (if itP tx n 250 11 3 = -1 then 0 else itP tx n 250 11 3) ∧ τ 58 3 = 0) ∧ (∀ j : Int, 8 ≤ j → τ 58 j = σ 58 j) ∧ (τ 59 0 = 0 ∧ τ 59 1 = 0) ∧ (τ 57 21 = 0 ∧ τ 57 25 = 0 ∧ τ 57 30 = 0 ∧ τ 57 33 = 0) ∧ ∀ k, k ≠ 57 → k ≠ 58 → k ≠ 59 → k ≠ 60 → k ≠ 61 → k ≠ 62 → τ k = σ k))) := by
  refine met_of [(0, .ref (K.2.2 57))] (by decide +kernel) (Nat.le_of_ble_eq_true rfl) rfl ?_
  intro pP eE sS mM bW mT cC B hrt hlk
  replace B : CB pP sS mM [.ref (K.2.2 57)].toArray cC cX12_street RX12 2 K := B
  obtain ⟨hT1, hT2, hT3⟩ := id hT
  have hok := (okP_it (tx := tx) hT.2.1.1 250).1
  obtain ⟨⟨hp0, hp1⟩, hp2, hp3, hp4, hp5, hp6, hp7, hp8⟩ := id hok
  obtain ⟨hF0, hF1⟩ := id hp2
  have hO0 := hp3.1
  have hH0 := hp4.1
  have hrd := rdO_it (tx := tx) hT.2.1.1 250
  refine g_aload_n (pc' := 1) B 0 rfl rfl dX12_street_0 rfl ?_
  refine g_iconst (pc' := 2) B dX12_street_1 rfl ?_
  refine g_put (pc' := 5) B 15 rfl fp_X12_77 rfl rfl dX12_street_2 rfl ?_
  refine g_aload_n (pc' := 6) B 0 rfl rfl dX12_street_5 rfl ?_
  refine g_iconst (pc' := 7) B dX12_street_6 rfl ?_
  refine g_put (pc' := 10) B 17 rfl fp_X12_80 rfl rfl dX12_street_7 rfl ?_
  refine g_aload_n (pc' := 11) B 0 rfl rfl dX12_street_10 rfl ?_
  refine g_iconst (pc' := 12) B dX12_street_11 rfl ?_
  refine g_put (pc' := 15) B 18 rfl fp_X12_29 rfl rfl dX12_street_12 rfl ?_
  refine g_aload_n (pc' := 16) B 0 rfl rfl dX12_street_15 rfl ?_
  refine g_iconst (pc' := 17) B dX12_street_16 rfl ?_
  refine g_put (pc' := 20) B 8 rfl fp_X12_99 rfl rfl dX12_street_17 rfl ?_
  refine g_aload_n (pc' := 21) B 0 rfl rfl dX12_street_20 rfl ?_
  refine g_iconst (pc' := 22) B dX12_street_21 rfl ?_
  refine g_put (pc' := 25) B 9 rfl fp_X12_106 rfl rfl dX12_street_22 rfl ?_
  refine g_aload_n (pc' := 26) B 0 rfl rfl dX12_street_25 rfl ?_
  refine g_iconst (pc' := 27) B dX12_street_26 rfl ?_
  refine g_put (pc' := 30) B 10 rfl fp_X12_109 rfl rfl dX12_street_27 rfl ?_
  refine g_aload_n (pc' := 31) B 0 rfl rfl dX12_street_30 rfl ?_
  refine g_iconst (pc' := 32) B dX12_street_31 rfl ?_
  refine g_put (pc' := 35) B 11 rfl fp_X12_125 rfl rfl dX12_street_32 rfl ?_
  refine g_aload_n (pc' := 36) B 0 rfl rfl dX12_street_35 rfl ?_
  refine g_iconst (pc' := 37) B dX12_street_36 rfl ?_
  refine g_putZ (pc' := 40) B 12 rfl (by omega) fp_X12_121 rfl rfl dX12_street_37 rfl ?_
  have L104 : ∀ (nn : Nat) (ω : SG) , 0 = nn → (ω 57 17 = itP tx n 250 11 1 ∧ ω 57 18 = itP tx n 250 11 2) → (itP tx n 250 11 1 = 0 → mQ ω (itP tx n 250)) → (mfr σ ω) → G pP l eE (rmo 4 93) sS mM [.ref (K.2.2 57)].toArray bW mT cC 0 0 (MQ bW (Qi K (fun z τ => τ 57 14 = 0 ∧ τ 57 18 = itP tx n 250 11 2 ∧ ((itP tx n 250 11 1 ≠ 0 ∧ z = -10 - itP tx n 250 11 1 ∧ (∀ j : Int, (j < 8 ∨ j = 13 ∨ 18 < j) → τ 57 j = σ 57 j) ∧ (∀ j : Int, j < 32 → τ 60 j = σ 60 j) ∧ (∀ j : Int, j < 8 → τ 61 j = σ 61 j) ∧ (∀ j : Int, j < 16 → τ 62 j = σ 62 j) ∧ ∀ k, k ≠ 57 → k ≠ 60 → k ≠ 61 → k ≠ 62 → τ k = σ k) ∨ (itP tx n 250 11 1 = 0 ∧ z = itP tx n 250 9 0 ∧ mD τ (itP tx n 250) ∧ (∀ h : Int, 0 ≤ h → h < itP tx n 250 9 1 → τ 58 (4 + h) = itP tx n 250 10 h) ∧ (τ 58 0 = 0 ∧ τ 58 1 = 0 ∧ τ 58 2 = (if itP tx n 250 11 3 = -1 then 0 else itP tx n 250 11 3) ∧ τ 58 3 = 0) ∧ (∀ j : Int, 8 ≤ j → τ 58 j = σ 58 j) ∧ (τ 59 0 = 0 ∧ τ 59 1 = 0) ∧ (τ 57 21 = 0 ∧ τ 57 25 = 0 ∧ τ 57 30 = 0 ∧ τ 57 33 = 0) ∧ ∀ k, k ≠ 57 → k ≠ 58 → k ≠ 59 → k ≠ 60 → k ≠ 61 → k ≠ 62 → τ k = σ k)))) [.ref (K.2.2 57)].toArray sS 0 0 (wA K)) K sS.heap 2 ω 104 [(0, .ref (K.2.2 57))] [] := by
    intro nn
    induction nn using Nat.strongRecOn with
    | _ nn ih104 =>
      intro ω hn104 g1 g2 g3
      refine g_aload_n (pc' := 105) B 0 rfl rfl dX12_street_104 rfl ?_
      refine g_iconst (pc' := 106) B dX12_street_105 rfl ?_
      refine g_put (pc' := 109) B 14 rfl fp_X12_73 rfl rfl dX12_street_106 rfl ?_
      refine g_aload_n (pc' := 110) B 0 rfl rfl dX12_street_109 rfl ?_
      refine g_get (pc' := 113) B (itP tx n 250 11 1) (by have q9 := g1.1; simpa [up] using q9) fl_X12_80 rfl rfl dX12_street_110 rfl ?_
      refine g_if_le (pc' := 116) B 124 (by omega) dX12_street_113 (by decide) rfl (fun c113 => ?_) (fun c113 => ?_)
      · have hq := g2 (by omega)
        refine g_aload_n (pc' := 125) B 0 rfl rfl dX12_street_124 rfl ?_
        refine g_aload_n (pc' := 126) B 0 rfl rfl dX12_street_125 rfl ?_
        refine g_get (pc' := 129) B (itP tx n 250 9 0) (by have q9 := hq.1; simpa [up] using q9) fl_X12_99 rfl rfl dX12_street_126 rfl ?_
        refine g_put (pc' := 132) B 5 rfl fp_X12_131 rfl rfl dX12_street_129 rfl ?_
        refine g_aload_n (pc' := 133) B 0 rfl rfl dX12_street_132 rfl ?_
        refine g_aload_n (pc' := 134) B 0 rfl rfl dX12_street_133 rfl ?_
        refine g_get (pc' := 137) B (itP tx n 250 9 1) (by have q9 := hq.2.1; simpa [up] using q9) fl_X12_106 rfl rfl dX12_street_134 rfl ?_
        refine g_put (pc' := 140) B 6 rfl fp_X12_134 rfl rfl dX12_street_137 rfl ?_
        refine g_aload_n (pc' := 141) B 0 rfl rfl dX12_street_140 rfl ?_
        refine g_aload_n (pc' := 142) B 0 rfl rfl dX12_street_141 rfl ?_
        refine g_get (pc' := 145) B (itP tx n 250 9 2) (by have q9 := hq.2.2.1; simpa [up] using q9) fl_X12_109 rfl rfl dX12_street_142 rfl ?_
        refine g_put (pc' := 148) B 7 rfl fp_X12_137 rfl rfl dX12_street_145 rfl ?_
        refine g_iconst (pc' := 149) B dX12_street_148 rfl ?_
        refine g_istore_n (pc' := 150) B [(1, .int (iI 0)), (0, .ref (K.2.2 57))] dX12_street_149 rfl rfl (by decide) rfl ?_
        have L150 : ∀ (nn : Nat) (a1 : SG) (k1 : Int) , (32 - k1).toNat = nn → (0 ≤ k1 ∧ k1 ≤ 32) → (∀ j : Int, 0 ≤ j → j < k1 → a1 60 j = ω 60 (32 + j)) → (∀ j : Int, k1 ≤ j → a1 60 j = ω 60 j) → (∀ r, r ≠ 60 → a1 r = (up (up (up (up ω 57 14 0) 57 5 (itP tx n 250 9 0)) 57 6 (itP tx n 250 9 1)) 57 7 (itP tx n 250 9 2)) r) → G pP l eE (rmo 4 93) sS mM [.ref (K.2.2 57)].toArray bW mT cC 0 0 (MQ bW (Qi K (fun z τ => τ 57 14 = 0 ∧ τ 57 18 = itP tx n 250 11 2 ∧ ((itP tx n 250 11 1 ≠ 0 ∧ z = -10 - itP tx n 250 11 1 ∧ (∀ j : Int, (j < 8 ∨ j = 13 ∨ 18 < j) → τ 57 j = σ 57 j) ∧ (∀ j : Int, j < 32 → τ 60 j = σ 60 j) ∧ (∀ j : Int, j < 8 → τ 61 j = σ 61 j) ∧ (∀ j : Int, j < 16 → τ 62 j = σ 62 j) ∧ ∀ k, k ≠ 57 → k ≠ 60 → k ≠ 61 → k ≠ 62 → τ k = σ k) ∨ (itP tx n 250 11 1 = 0 ∧ z = itP tx n 250 9 0 ∧ mD τ (itP tx n 250) ∧ (∀ h : Int, 0 ≤ h → h < itP tx n 250 9 1 → τ 58 (4 + h) = itP tx n 250 10 h) ∧ (τ 58 0 = 0 ∧ τ 58 1 = 0 ∧ τ 58 2 = (if itP tx n 250 11 3 = -1 then 0 else itP tx n 250 11 3) ∧ τ 58 3 = 0) ∧ (∀ j : Int, 8 ≤ j → τ 58 j = σ 58 j) ∧ (τ 59 0 = 0 ∧ τ 59 1 = 0) ∧ (τ 57 21 = 0 ∧ τ 57 25 = 0 ∧ τ 57 30 = 0 ∧ τ 57 33 = 0) ∧ ∀ k, k ≠ 57 → k ≠ 58 → k ≠ 59 → k ≠ 60 → k ≠ 61 → k ≠ 62 → τ k = σ k)))) [.ref (K.2.2 57)].toArray sS 0 0 (wA K)) K sS.heap 2 a1 150 [(1, .int (iI k1)), (0, .ref (K.2.2 57))] [] := by
          intro nn
          induction nn using Nat.strongRecOn with
          | _ nn ih150 =>
            intro a1 k1 hn150 u1 u2 u3 u4
            refine g_iload_n (pc' := 151) B 0 rfl rfl dX12_street_150 rfl ?_
            refine g_bipush (pc' := 153) B (by decide +kernel) dX12_street_151 rfl ?_
            refine g_icmp_ge (pc' := 156) B 177 (by omega) (by omega) dX12_street_153 (by decide) rfl (fun c153 => ?_) (fun c153 => ?_)
            · refine g_iconst (pc' := 178) B dX12_street_177 rfl ?_
              refine g_istore_n (pc' := 179) B [(1, .int (iI 0)), (0, .ref (K.2.2 57))] dX12_street_178 rfl rfl (by decide) rfl ?_
              have L179 : ∀ (nn : Nat) (a2 : SG) (k2 : Int) , (8 - k2).toNat = nn → (0 ≤ k2 ∧ k2 ≤ 8) → (∀ j : Int, 0 ≤ j → j < k2 → a2 61 j = ω 61 (8 + j)) → (∀ j : Int, k2 ≤ j → a2 61 j = ω 61 j) → (∀ r, r ≠ 61 → a2 r = a1 r) → G pP l eE (rmo 4 93) sS mM [.ref (K.2.2 57)].toArray bW mT cC 0 0 (MQ bW (Qi K (fun z τ => τ 57 14 = 0 ∧ τ 57 18 = itP tx n 250 11 2 ∧ ((itP tx n 250 11 1 ≠ 0 ∧ z = -10 - itP tx n 250 11 1 ∧ (∀ j : Int, (j < 8 ∨ j = 13 ∨ 18 < j) → τ 57 j = σ 57 j) ∧ (∀ j : Int, j < 32 → τ 60 j = σ 60 j) ∧ (∀ j : Int, j < 8 → τ 61 j = σ 61 j) ∧ (∀ j : Int, j < 16 → τ 62 j = σ 62 j) ∧ ∀ k, k ≠ 57 → k ≠ 60 → k ≠ 61 → k ≠ 62 → τ k = σ k) ∨ (itP tx n 250 11 1 = 0 ∧ z = itP tx n 250 9 0 ∧ mD τ (itP tx n 250) ∧ (∀ h : Int, 0 ≤ h → h < itP tx n 250 9 1 → τ 58 (4 + h) = itP tx n 250 10 h) ∧ (τ 58 0 = 0 ∧ τ 58 1 = 0 ∧ τ 58 2 = (if itP tx n 250 11 3 = -1 then 0 else itP tx n 250 11 3) ∧ τ 58 3 = 0) ∧ (∀ j : Int, 8 ≤ j → τ 58 j = σ 58 j) ∧ (τ 59 0 = 0 ∧ τ 59 1 = 0) ∧ (τ 57 21 = 0 ∧ τ 57 25 = 0 ∧ τ 57 30 = 0 ∧ τ 57 33 = 0) ∧ ∀ k, k ≠ 57 → k ≠ 58 → k ≠ 59 → k ≠ 60 → k ≠ 61 → k ≠ 62 → τ k = σ k)))) [.ref (K.2.2 57)].toArray sS 0 0 (wA K)) K sS.heap 2 a2 179 [(1, .int (iI k2)), (0, .ref (K.2.2 57))] [] := by
                intro nn
                induction nn using Nat.strongRecOn with
                | _ nn ih179 =>
                  intro a2 k2 hn179 v1 v2 v3 v4
                  refine g_iload_n (pc' := 180) B 0 rfl rfl dX12_street_179 rfl ?_
                  refine g_bipush (pc' := 182) B (by decide +kernel) dX12_street_180 rfl ?_
                  refine g_icmp_ge (pc' := 185) B 206 (by omega) (by omega) dX12_street_182 (by decide) rfl (fun c182 => ?_) (fun c182 => ?_)
                  · refine g_iconst (pc' := 207) B dX12_street_206 rfl ?_
                    refine g_istore_n (pc' := 208) B [(1, .int (iI 0)), (0, .ref (K.2.2 57))] dX12_street_207 rfl rfl (by decide) rfl ?_
                    have L208 : ∀ (nn : Nat) (a3 : SG) (k3 : Int) , (16 - k3).toNat = nn → (0 ≤ k3 ∧ k3 ≤ 16) → (∀ j : Int, 0 ≤ j → j < k3 → a3 62 j = ω 62 (16 + j)) → (∀ j : Int, k3 ≤ j → a3 62 j = ω 62 j) → (∀ r, r ≠ 62 → a3 r = a2 r) → G pP l eE (rmo 4 93) sS mM [.ref (K.2.2 57)].toArray bW mT cC 0 0 (MQ bW (Qi K (fun z τ => τ 57 14 = 0 ∧ τ 57 18 = itP tx n 250 11 2 ∧ ((itP tx n 250 11 1 ≠ 0 ∧ z = -10 - itP tx n 250 11 1 ∧ (∀ j : Int, (j < 8 ∨ j = 13 ∨ 18 < j) → τ 57 j = σ 57 j) ∧ (∀ j : Int, j < 32 → τ 60 j = σ 60 j) ∧ (∀ j : Int, j < 8 → τ 61 j = σ 61 j) ∧ (∀ j : Int, j < 16 → τ 62 j = σ 62 j) ∧ ∀ k, k ≠ 57 → k ≠ 60 → k ≠ 61 → k ≠ 62 → τ k = σ k) ∨ (itP tx n 250 11 1 = 0 ∧ z = itP tx n 250 9 0 ∧ mD τ (itP tx n 250) ∧ (∀ h : Int, 0 ≤ h → h < itP tx n 250 9 1 → τ 58 (4 + h) = itP tx n 250 10 h) ∧ (τ 58 0 = 0 ∧ τ 58 1 = 0 ∧ τ 58 2 = (if itP tx n 250 11 3 = -1 then 0 else itP tx n 250 11 3) ∧ τ 58 3 = 0) ∧ (∀ j : Int, 8 ≤ j → τ 58 j = σ 58 j) ∧ (τ 59 0 = 0 ∧ τ 59 1 = 0) ∧ (τ 57 21 = 0 ∧ τ 57 25 = 0 ∧ τ 57 30 = 0 ∧ τ 57 33 = 0) ∧ ∀ k, k ≠ 57 → k ≠ 58 → k ≠ 59 → k ≠ 60 → k ≠ 61 → k ≠ 62 → τ k = σ k)))) [.ref (K.2.2 57)].toArray sS 0 0 (wA K)) K sS.heap 2 a3 208 [(1, .int (iI k3)), (0, .ref (K.2.2 57))] [] := by
                      intro nn
                      induction nn using Nat.strongRecOn with
                      | _ nn ih208 =>
                        intro a3 k3 hn208 y1 y2 y3 y4
                        refine g_iload_n (pc' := 209) B 0 rfl rfl dX12_street_208 rfl ?_
                        refine g_bipush (pc' := 211) B (by decide +kernel) dX12_street_209 rfl ?_
                        refine g_icmp_ge (pc' := 214) B 235 (by omega) (by omega) dX12_street_211 (by decide) rfl (fun c211 => ?_) (fun c211 => ?_)
                        · refine g_iconst (pc' := 236) B dX12_street_235 rfl ?_
                          refine g_istore_n (pc' := 237) B [(1, .int (iI 0)), (0, .ref (K.2.2 57))] dX12_street_236 rfl rfl (by decide) rfl ?_
                          have L237 : ∀ (nn : Nat) (a4 : SG) (k4 : Int) , (4 - k4).toNat = nn → (0 ≤ k4 ∧ k4 ≤ 4) → (∀ h : Int, 0 ≤ h → h < k4 → a4 58 (4 + h) = a3 61 (2 * h + 1)) → (∀ j : Int, (j < 4 ∨ 4 + k4 ≤ j) → a4 58 j = σ 58 j) → (∀ r, r ≠ 58 → a4 r = a3 r) → G pP l eE (rmo 4 93) sS mM [.ref (K.2.2 57)].toArray bW mT cC 0 0 (MQ bW (Qi K (fun z τ => τ 57 14 = 0 ∧ τ 57 18 = itP tx n 250 11 2 ∧ ((itP tx n 250 11 1 ≠ 0 ∧ z = -10 - itP tx n 250 11 1 ∧ (∀ j : Int, (j < 8 ∨ j = 13 ∨ 18 < j) → τ 57 j = σ 57 j) ∧ (∀ j : Int, j < 32 → τ 60 j = σ 60 j) ∧ (∀ j : Int, j < 8 → τ 61 j = σ 61 j) ∧ (∀ j : Int, j < 16 → τ 62 j = σ 62 j) ∧ ∀ k, k ≠ 57 → k ≠ 60 → k ≠ 61 → k ≠ 62 → τ k = σ k) ∨ (itP tx n 250 11 1 = 0 ∧ z = itP tx n 250 9 0 ∧ mD τ (itP tx n 250) ∧ (∀ h : Int, 0 ≤ h → h < itP tx n 250 9 1 → τ 58 (4 + h) = itP tx n 250 10 h) ∧ (τ 58 0 = 0 ∧ τ 58 1 = 0 ∧ τ 58 2 = (if itP tx n 250 11 3 = -1 then 0 else itP tx n 250 11 3) ∧ τ 58 3 = 0) ∧ (∀ j : Int, 8 ≤ j → τ 58 j = σ 58 j) ∧ (τ 59 0 = 0 ∧ τ 59 1 = 0) ∧ (τ 57 21 = 0 ∧ τ 57 25 = 0 ∧ τ 57 30 = 0 ∧ τ 57 33 = 0) ∧ ∀ k, k ≠ 57 → k ≠ 58 → k ≠ 59 → k ≠ 60 → k ≠ 61 → k ≠ 62 → τ k = σ k)))) [.ref (K.2.2 57)].toArray sS 0 0 (wA K)) K sS.heap 2 a4 237 [(1, .int (iI k4)), (0, .ref (K.2.2 57))] [] := by
                            intro nn
                            induction nn using Nat.strongRecOn with
                            | _ nn ih237 =>
                              intro a4 k4 hn237 x1 x2 x3 x4
                              refine g_iload_n (pc' := 238) B 0 rfl rfl dX12_street_237 rfl ?_
                              refine g_iconst (pc' := 239) B dX12_street_238 rfl ?_
                              refine g_icmp_ge (pc' := 242) B 266 (by omega) (by omega) dX12_street_239 (by decide) rfl (fun c239 => ?_) (fun c239 => ?_)
                              · have e57 : ∀ j : Int, j ≠ 14 → j ≠ 5 → j ≠ 6 → j ≠ 7 → a4 57 j = ω 57 j := fun j b1 b2 b3 b4 => by rw [x4 57 (by decide), y4 57 (by decide), v4 57 (by decide), u4 57 (by decide), up_col b4, up_col b3, up_col b2, up_col b1]
                                have e14 : a4 57 14 = 0 := by rw [x4 57 (by decide), y4 57 (by decide), v4 57 (by decide), u4 57 (by decide)]; simp [up]
                                have e5 : a4 57 5 = itP tx n 250 9 0 := by rw [x4 57 (by decide), y4 57 (by decide), v4 57 (by decide), u4 57 (by decide)]; simp [up]
                                have e6 : a4 57 6 = itP tx n 250 9 1 := by rw [x4 57 (by decide), y4 57 (by decide), v4 57 (by decide), u4 57 (by decide)]; simp [up]
                                have e7 : a4 57 7 = itP tx n 250 9 2 := by rw [x4 57 (by decide), y4 57 (by decide), v4 57 (by decide), u4 57 (by decide)]; simp [up]
                                have hfd : ∀ f : Int, 0 ≤ f → f < itP tx n 250 9 0 → a4 60 (4 * f) = itP tx n 250 0 f ∧ a4 60 (4 * f + 1) = itP tx n 250 1 f ∧ a4 60 (4 * f + 2) = itP tx n 250 2 f ∧ a4 60 (4 * f + 3) = itP tx n 250 3 f := fun f b1 b2 => by rw [x4 60 (by decide), y4 60 (by decide), v4 60 (by decide), u2 _ (by omega) (by omega), u2 _ (by omega) (by omega), u2 _ (by omega) (by omega), u2 _ (by omega) (by omega), show 32 + 4 * f = 4 * (8 + f) by omega, show 32 + (4 * f + 1) = 4 * (8 + f) + 1 by omega, show 32 + (4 * f + 2) = 4 * (8 + f) + 2 by omega, show 32 + (4 * f + 3) = 4 * (8 + f) + 3 by omega]; exact hq.2.2.2.2.2.1 f b1 b2
                                have hhd : ∀ h : Int, 0 ≤ h → h < itP tx n 250 9 1 → a4 61 (2 * h) = itP tx n 250 4 h ∧ a3 61 (2 * h + 1) = itP tx n 250 10 h := fun h b1 b2 => by rw [x4 61 (by decide), y4 61 (by decide), v2 _ (by omega) (by omega), v2 _ (by omega) (by omega), show 8 + 2 * h = 2 * (4 + h) by omega, show 8 + (2 * h + 1) = 2 * (4 + h) + 1 by omega]; exact hq.2.2.2.2.2.2.1 h b1 b2
                                have hsd : ∀ s : Int, 0 ≤ s → s < itP tx n 250 9 2 → a4 62 (4 * s) = itP tx n 250 5 s ∧ a4 62 (4 * s + 1) = itP tx n 250 6 s ∧ a4 62 (4 * s + 2) = itP tx n 250 7 s ∧ a4 62 (4 * s + 3) = itP tx n 250 8 s := fun s b1 b2 => by rw [x4 62 (by decide), y2 _ (by omega) (by omega), y2 _ (by omega) (by omega), y2 _ (by omega) (by omega), y2 _ (by omega) (by omega), show 16 + 4 * s = 4 * (4 + s) by omega, show 16 + (4 * s + 1) = 4 * (4 + s) + 1 by omega, show 16 + (4 * s + 2) = 4 * (4 + s) + 2 by omega, show 16 + (4 * s + 3) = 4 * (4 + s) + 3 by omega]; exact hq.2.2.2.2.2.2.2 s b1 b2
                                refine g_aload_n (pc' := 267) B 1 rfl rfl dX12_street_266 rfl ?_
                                refine g_getR (pc' := 270) B 58 fl_X12_7 rfl rfl dX12_street_267 rfl ?_
                                refine g_iconst (pc' := 271) B dX12_street_270 rfl ?_
                                refine g_iconst (pc' := 272) B dX12_street_271 rfl ?_
                                refine g_iast (pc' := 273) B rfl (by omega) (by decide) dX12_street_272 rfl ?_
                                refine g_aload_n (pc' := 274) B 1 rfl rfl dX12_street_273 rfl ?_
                                refine g_getR (pc' := 277) B 58 fl_X12_7 rfl rfl dX12_street_274 rfl ?_
                                refine g_iconst (pc' := 278) B dX12_street_277 rfl ?_
                                refine g_iconst (pc' := 279) B dX12_street_278 rfl ?_
                                refine g_iast (pc' := 280) B rfl (by omega) (by decide) dX12_street_279 rfl ?_
                                refine g_aload_n (pc' := 281) B 1 rfl rfl dX12_street_280 rfl ?_
                                refine g_getR (pc' := 284) B 58 fl_X12_7 rfl rfl dX12_street_281 rfl ?_
                                refine g_iconst (pc' := 285) B dX12_street_284 rfl ?_
                                refine g_aload_n (pc' := 286) B 1 rfl rfl dX12_street_285 rfl ?_
                                refine g_get (pc' := 289) B (if itP tx n 250 11 3 = -1 then 0 else itP tx n 250 11 3) (by have q9 := ((e57 11 (by decide) (by decide) (by decide) (by decide)).trans hq.2.2.2.2.1); simpa [up] using q9) fl_X12_125 rfl rfl dX12_street_286 rfl ?_
                                refine g_iast (pc' := 290) B rfl (by omega) (by decide) dX12_street_289 rfl ?_
                                refine g_aload_n (pc' := 291) B 1 rfl rfl dX12_street_290 rfl ?_
                                refine g_getR (pc' := 294) B 58 fl_X12_7 rfl rfl dX12_street_291 rfl ?_
                                refine g_iconst (pc' := 295) B dX12_street_294 rfl ?_
                                refine g_iconst (pc' := 296) B dX12_street_295 rfl ?_
                                refine g_iast (pc' := 297) B rfl (by omega) (by decide) dX12_street_296 rfl ?_
                                refine g_aload_n (pc' := 298) B 1 rfl rfl dX12_street_297 rfl ?_
                                refine g_iconst (pc' := 299) B dX12_street_298 rfl ?_
                                refine g_put (pc' := 302) B 25 rfl fp_X12_140 rfl rfl dX12_street_299 rfl ?_
                                refine g_aload_n (pc' := 303) B 1 rfl rfl dX12_street_302 rfl ?_
                                refine g_iconst (pc' := 304) B dX12_street_303 rfl ?_
                                refine g_put (pc' := 307) B 30 rfl fp_X12_143 rfl rfl dX12_street_304 rfl ?_
                                refine g_aload_n (pc' := 308) B 1 rfl rfl dX12_street_307 rfl ?_
                                refine g_iconst (pc' := 309) B dX12_street_308 rfl ?_
                                refine g_put (pc' := 312) B 33 rfl fp_X12_146 rfl rfl dX12_street_309 rfl ?_
                                refine g_aload_n (pc' := 313) B 1 rfl rfl dX12_street_312 rfl ?_
                                refine g_iconst (pc' := 314) B dX12_street_313 rfl ?_
                                refine g_put (pc' := 317) B 21 rfl fp_X12_149 rfl rfl dX12_street_314 rfl ?_
                                refine g_aload_n (pc' := 318) B 1 rfl rfl dX12_street_317 rfl ?_
                                refine g_getR (pc' := 321) B 59 fl_X12_13 rfl rfl dX12_street_318 rfl ?_
                                refine g_iconst (pc' := 322) B dX12_street_321 rfl ?_
                                refine g_iconst (pc' := 323) B dX12_street_322 rfl ?_
                                refine g_zast (pc' := 324) B (by omega) rfl (by omega) (by decide) dX12_street_323 rfl ?_
                                refine g_aload_n (pc' := 325) B 1 rfl rfl dX12_street_324 rfl ?_
                                refine g_getR (pc' := 328) B 59 fl_X12_13 rfl rfl dX12_street_325 rfl ?_
                                refine g_iconst (pc' := 329) B dX12_street_328 rfl ?_
                                refine g_iconst (pc' := 330) B dX12_street_329 rfl ?_
                                refine g_zast (pc' := 331) B (by omega) rfl (by omega) (by decide) dX12_street_330 rfl ?_
                                refine g_aload_n (pc' := 332) B 1 rfl rfl dX12_street_331 rfl ?_
                                refine g_iconst (pc' := 333) B dX12_street_332 rfl ?_
                                refine g_put (pc' := 336) B 19 rfl fp_X12_33 rfl rfl dX12_street_333 rfl ?_
                                refine g_iconst (pc' := 337) B dX12_street_336 rfl ?_
                                refine g_istore_n (pc' := 338) B [(1, .int (iI 0)), (0, .ref (K.2.2 57))] dX12_street_337 rfl rfl (by decide) rfl ?_
                                have L338 : ∀ (nn : Nat) (a5 : SG) (k5 : Int) , (itP tx n 250 9 0 - k5).toNat = nn → (0 ≤ k5 ∧ k5 ≤ itP tx n 250 9 0) → (a5 57 19 = rdf (itP tx n 250) k5.toNat) → (a5 57 14 = 0 ∧ a5 57 18 = itP tx n 250 11 2 ∧ a5 57 5 = itP tx n 250 9 0 ∧ a5 57 6 = itP tx n 250 9 1 ∧ a5 57 7 = itP tx n 250 9 2 ∧ a5 57 21 = 0 ∧ a5 57 25 = 0 ∧ a5 57 30 = 0 ∧ a5 57 33 = 0) → ((a5 58 0 = 0 ∧ a5 58 1 = 0 ∧ a5 58 2 = (if itP tx n 250 11 3 = -1 then 0 else itP tx n 250 11 3) ∧ a5 58 3 = 0) ∧ ∀ j : Int, 4 ≤ j → a5 58 j = a4 58 j) → (a5 59 0 = 0 ∧ a5 59 1 = 0) → (∀ r, r ≠ 57 → r ≠ 58 → r ≠ 59 → a5 r = a4 r) → G pP l eE (rmo 4 93) sS mM [.ref (K.2.2 57)].toArray bW mT cC 0 0 (MQ bW (Qi K (fun z τ => τ 57 14 = 0 ∧ τ 57 18 = itP tx n 250 11 2 ∧ ((itP tx n 250 11 1 ≠ 0 ∧ z = -10 - itP tx n 250 11 1 ∧ (∀ j : Int, (j < 8 ∨ j = 13 ∨ 18 < j) → τ 57 j = σ 57 j) ∧ (∀ j : Int, j < 32 → τ 60 j = σ 60 j) ∧ (∀ j : Int, j < 8 → τ 61 j = σ 61 j) ∧ (∀ j : Int, j < 16 → τ 62 j = σ 62 j) ∧ ∀ k, k ≠ 57 → k ≠ 60 → k ≠ 61 → k ≠ 62 → τ k = σ k) ∨ (itP tx n 250 11 1 = 0 ∧ z = itP tx n 250 9 0 ∧ mD τ (itP tx n 250) ∧ (∀ h : Int, 0 ≤ h → h < itP tx n 250 9 1 → τ 58 (4 + h) = itP tx n 250 10 h) ∧ (τ 58 0 = 0 ∧ τ 58 1 = 0 ∧ τ 58 2 = (if itP tx n 250 11 3 = -1 then 0 else itP tx n 250 11 3) ∧ τ 58 3 = 0) ∧ (∀ j : Int, 8 ≤ j → τ 58 j = σ 58 j) ∧ (τ 59 0 = 0 ∧ τ 59 1 = 0) ∧ (τ 57 21 = 0 ∧ τ 57 25 = 0 ∧ τ 57 30 = 0 ∧ τ 57 33 = 0) ∧ ∀ k, k ≠ 57 → k ≠ 58 → k ≠ 59 → k ≠ 60 → k ≠ 61 → k ≠ 62 → τ k = σ k)))) [.ref (K.2.2 57)].toArray sS 0 0 (wA K)) K sS.heap 2 a5 338 [(1, .int (iI k5)), (0, .ref (K.2.2 57))] [] := by
                                  intro nn
                                  induction nn using Nat.strongRecOn with
                                  | _ nn ih338 =>
                                    intro a5 k5 hn338 z1 z2 z3 z4 z5 z6
                                    refine g_iload_n (pc' := 339) B 0 rfl rfl dX12_street_338 rfl ?_
                                    refine g_aload_n (pc' := 340) B 1 rfl rfl dX12_street_339 rfl ?_
                                    refine g_get (pc' := 343) B (itP tx n 250 9 0) z3.2.2.1 fl_X12_131 rfl rfl dX12_street_340 rfl ?_
                                    refine g_icmp_ge (pc' := 346) B 389 (by omega) (by omega) dX12_street_343 (by decide) rfl (fun c343 => ?_) (fun c343 => ?_)
                                    · refine g_aload_n (pc' := 390) B 1 rfl rfl dX12_street_389 rfl ?_
                                      refine g_get (pc' := 393) B (itP tx n 250 9 0) z3.2.2.1 fl_X12_131 rfl rfl dX12_street_390 rfl ?_
                                      exact g_iret (z := itP tx n 250 9 0) B hrt rfl hlk dX12_street_393 ⟨z3.1, z3.2.1, Or.inr ⟨by omega, rfl, ⟨z3.2.2.1, z3.2.2.2.1, z3.2.2.2.2.1, by rw [z2, show k5 = itP tx n 250 9 0 by omega]; exact hrd.symm, fun f b1 b2 => by rw [z6 60 (by decide) (by decide) (by decide)]; exact hfd f b1 b2, fun h b1 b2 => by rw [z6 61 (by decide) (by decide) (by decide)]; exact (hhd h b1 b2).1, fun s b1 b2 => by rw [z6 62 (by decide) (by decide) (by decide)]; exact hsd s b1 b2⟩, fun h b1 b2 => by rw [z4.2 _ (by omega), x2 h b1 (by omega)]; exact (hhd h b1 b2).2, z4.1, fun j a => by rw [z4.2 j (by omega)]; exact x3 j (by omega), z5, z3.2.2.2.2.2, fun k b1 b2 b3 b4 b5 b6 => by rw [z6 k b1 b2 b3, x4 k b2, y4 k b6, v4 k b5, u4 k b4, up_row b1, up_row b1, up_row b1, up_row b1]; exact g3.2.2.2.2 k b1 b4 b5 b6⟩⟩
                                    · have hf9 := hF1 k5 (by omega) (by omega)
                                      have hrb := rdf_bd hp2 k5.toNat (by omega)
                                      have hrb2 := Int.le_of_dvd (by decide) hrb.2
                                      have hg1 := gc_pos (a := rdf (itP tx n 250) k5.toNat) (b := itP tx n 250 1 k5) (by omega)
                                      have hg2 := gc_le (a := rdf (itP tx n 250) k5.toNat) (b := itP tx n 250 1 k5) (by omega)
                                      refine g_aload_n (pc' := 347) B 1 rfl rfl dX12_street_346 rfl ?_
                                      refine g_aload_n (pc' := 348) B 1 rfl rfl dX12_street_347 rfl ?_
                                      refine g_get (pc' := 351) B (rdf (itP tx n 250) k5.toNat) z2 fl_X12_33 rfl rfl dX12_street_348 rfl ?_
                                      refine g_aload_n (pc' := 352) B 1 rfl rfl dX12_street_351 rfl ?_
                                      refine g_get (pc' := 355) B (rdf (itP tx n 250) k5.toNat) z2 fl_X12_33 rfl rfl dX12_street_352 rfl ?_
                                      refine g_aload_n (pc' := 356) B 1 rfl rfl dX12_street_355 rfl ?_
                                      refine g_getR (pc' := 359) B 60 fl_X12_17 rfl rfl dX12_street_356 rfl ?_
                                      refine g_iconst (pc' := 360) B dX12_street_359 rfl ?_
                                      refine g_iload_n (pc' := 361) B 0 rfl rfl dX12_street_360 rfl ?_
                                      refine g_imul (pc' := 362) B dX12_street_361 rfl ?_
                                      refine g_iconst (pc' := 363) B dX12_street_362 rfl ?_
                                      refine g_iadd (pc' := 364) B dX12_street_363 rfl ?_
                                      refine g_iald (pc' := 365) B (itP tx n 250 1 k5) ((congrFun (z6 60 (by decide) (by decide) (by decide)) _).trans (hfd k5 (by omega) (by omega)).2.1) rfl (by omega) (by decide) dX12_street_364 rfl ?_
                                      refine g_callSI (pc' := 368) (As := [.int (iI (rdf (itP tx n 250) k5.toNat)), .int (iI (itP tx n 250 1 k5))]) B (c_X12_common l K _ (a := rdf (itP tx n 250) k5.toNat) (b := itP tx n 250 1 k5) (by omega) (by omega)) st_X12_common tw_1081 ⟨by decide, by decide⟩ rfl (Nat.le_of_ble_eq_true rfl) ⟨Nat.zero_le _, Nat.zero_le _⟩ rfl dX12_street_365 rfl (fun z365 τ365 h365 => ?_)
                                      obtain ⟨rfl, rfl⟩ := h365
                                      refine g_idiv (pc' := 369) B (by omega) (by omega) dX12_street_368 rfl ?_
                                      refine g_aload_n (pc' := 370) B 1 rfl rfl dX12_street_369 rfl ?_
                                      refine g_getR (pc' := 373) B 60 fl_X12_17 rfl rfl dX12_street_370 rfl ?_
                                      refine g_iconst (pc' := 374) B dX12_street_373 rfl ?_
                                      refine g_iload_n (pc' := 375) B 0 rfl rfl dX12_street_374 rfl ?_
                                      refine g_imul (pc' := 376) B dX12_street_375 rfl ?_
                                      refine g_iconst (pc' := 377) B dX12_street_376 rfl ?_
                                      refine g_iadd (pc' := 378) B dX12_street_377 rfl ?_
                                      refine g_iald (pc' := 379) B (itP tx n 250 1 k5) ((congrFun (z6 60 (by decide) (by decide) (by decide)) _).trans (hfd k5 (by omega) (by omega)).2.1) rfl (by omega) (by decide) dX12_street_378 rfl ?_
                                      refine g_imul (pc' := 380) B dX12_street_379 rfl ?_
                                      refine g_put (pc' := 383) B 19 rfl fp_X12_33 rfl rfl dX12_street_380 rfl ?_
                                      refine g_iinc (pc' := 386) B 0 [(1, .int (iI (k5 + 1))), (0, .ref (K.2.2 57))] dX12_street_383 rfl rfl (by decide) rfl ?_
                                      refine g_goto (pc' := 338) B dX12_street_386 (by decide) ?_
                                      exact ih338 _ (by omega) (up a5 57 19 (((rdf (itP tx n 250) k5.toNat) / (gc (rdf (itP tx n 250) k5.toNat) (itP tx n 250 1 k5))) * (itP tx n 250 1 k5))) (k5 + 1) rfl (by omega) (by rw [up_same, rdf_next (by omega)]; exact gc_lc (by omega) (by omega)) (by rw [up_col (by decide), up_col (by decide), up_col (by decide), up_col (by decide), up_col (by decide), up_col (by decide), up_col (by decide), up_col (by decide), up_col (by decide)]; exact z3) (by rw [up_row (by decide)]; exact z4) (by rw [up_row (by decide)]; exact z5) (by intro r b1 b2 b3; rw [up_row b1]; exact z6 r b1 b2 b3)
                                exact L338 _ (up (up (up (up (up (up (up (up (up (up (up a4 58 0 0) 58 1 0) 58 2 (if itP tx n 250 11 3 = -1 then 0 else itP tx n 250 11 3)) 58 3 0) 57 25 0) 57 30 0) 57 33 0) 57 21 0) 59 0 0) 59 1 0) 57 19 1) 0 rfl (by omega) (by rw [up_same]; rfl) (by simp [up]; exact ⟨e14, (e57 18 (by decide) (by decide) (by decide) (by decide)).trans g1.2, e5, e6, e7⟩) (by exact ⟨by simp [up], fun j a => by rw [up_row (by decide), up_row (by decide), up_row (by decide), up_row (by decide), up_row (by decide), up_row (by decide), up_row (by decide), up_col (by omega), up_col (by omega), up_col (by omega), up_col (by omega)]⟩) (by simp [up]) (by intro r b1 b2 b3; rw [up_row b1, up_row b3, up_row b3, up_row b1, up_row b1, up_row b1, up_row b1, up_row b2, up_row b2, up_row b2, up_row b2])
                              · refine g_aload_n (pc' := 243) B 1 rfl rfl dX12_street_242 rfl ?_
                                refine g_getR (pc' := 246) B 58 fl_X12_7 rfl rfl dX12_street_243 rfl ?_
                                refine g_iconst (pc' := 247) B dX12_street_246 rfl ?_
                                refine g_iload_n (pc' := 248) B 0 rfl rfl dX12_street_247 rfl ?_
                                refine g_iadd (pc' := 249) B dX12_street_248 rfl ?_
                                refine g_aload_n (pc' := 250) B 1 rfl rfl dX12_street_249 rfl ?_
                                refine g_getR (pc' := 253) B 61 fl_X12_20 rfl rfl dX12_street_250 rfl ?_
                                refine g_iconst (pc' := 254) B dX12_street_253 rfl ?_
                                refine g_iload_n (pc' := 255) B 0 rfl rfl dX12_street_254 rfl ?_
                                refine g_imul (pc' := 256) B dX12_street_255 rfl ?_
                                refine g_iconst (pc' := 257) B dX12_street_256 rfl ?_
                                refine g_iadd (pc' := 258) B dX12_street_257 rfl ?_
                                refine g_iald (pc' := 259) B (a4 61 ((2 * k4) + 1)) rfl rfl (by omega) (by decide) dX12_street_258 rfl ?_
                                refine g_iast (pc' := 260) B rfl (by omega) (by decide) dX12_street_259 rfl ?_
                                refine g_iinc (pc' := 263) B 0 [(1, .int (iI (k4 + 1))), (0, .ref (K.2.2 57))] dX12_street_260 rfl rfl (by decide) rfl ?_
                                refine g_goto (pc' := 237) B dX12_street_263 (by decide) ?_
                                exact ih237 _ (by omega) (up a4 58 (4 + k4) (a4 61 ((2 * k4) + 1))) (k4 + 1) rfl (by omega) (by intro h a b; by_cases e9 : h = k4; (subst e9; rw [up_same, x4 61 (by decide)]); (rw [up_col (by omega)]; exact x2 h a (by omega))) (by intro j a; rw [up_col (by omega)]; exact x3 j (by omega)) (by intro r a; rw [up_row a]; exact x4 r a)
                          exact L237 _ a3 0 rfl (by omega) (by intro h a b; omega) (by intro j a; rw [y4 58 (by decide), v4 58 (by decide), u4 58 (by decide), up_row (by decide), up_row (by decide), up_row (by decide), up_row (by decide), g3.2.2.2.2 58 (by decide) (by decide) (by decide) (by decide)]) (by intro r a; rfl)
                        · refine g_aload_n (pc' := 215) B 1 rfl rfl dX12_street_214 rfl ?_
                          refine g_getR (pc' := 218) B 62 fl_X12_23 rfl rfl dX12_street_215 rfl ?_
                          refine g_iload_n (pc' := 219) B 0 rfl rfl dX12_street_218 rfl ?_
                          refine g_aload_n (pc' := 220) B 1 rfl rfl dX12_street_219 rfl ?_
                          refine g_getR (pc' := 223) B 62 fl_X12_23 rfl rfl dX12_street_220 rfl ?_
                          refine g_bipush (pc' := 225) B (by decide +kernel) dX12_street_223 rfl ?_
                          refine g_iload_n (pc' := 226) B 0 rfl rfl dX12_street_225 rfl ?_
                          refine g_iadd (pc' := 227) B dX12_street_226 rfl ?_
                          refine g_iald (pc' := 228) B (a3 62 (16 + k3)) rfl rfl (by omega) (by decide) dX12_street_227 rfl ?_
                          refine g_iast (pc' := 229) B rfl (by omega) (by decide) dX12_street_228 rfl ?_
                          refine g_iinc (pc' := 232) B 0 [(1, .int (iI (k3 + 1))), (0, .ref (K.2.2 57))] dX12_street_229 rfl rfl (by decide) rfl ?_
                          refine g_goto (pc' := 208) B dX12_street_232 (by decide) ?_
                          exact ih208 _ (by omega) (up a3 62 k3 (a3 62 (16 + k3))) (k3 + 1) rfl (by omega) (by intro j a b; by_cases e9 : j = k3; (subst e9; rw [up_same]; exact y3 _ (by omega)); (rw [up_col e9]; exact y2 j a (by omega))) (by intro j a; rw [up_col (by omega)]; exact y3 j (by omega)) (by intro r a; rw [up_row a]; exact y4 r a)
                    exact L208 _ a2 0 rfl (by omega) (by intro j a b; omega) (by intro j a; rw [v4 62 (by decide), u4 62 (by decide), up_row (by decide), up_row (by decide), up_row (by decide), up_row (by decide)]) (by intro r a; rfl)
                  · refine g_aload_n (pc' := 186) B 1 rfl rfl dX12_street_185 rfl ?_
                    refine g_getR (pc' := 189) B 61 fl_X12_20 rfl rfl dX12_street_186 rfl ?_
                    refine g_iload_n (pc' := 190) B 0 rfl rfl dX12_street_189 rfl ?_
                    refine g_aload_n (pc' := 191) B 1 rfl rfl dX12_street_190 rfl ?_
                    refine g_getR (pc' := 194) B 61 fl_X12_20 rfl rfl dX12_street_191 rfl ?_
                    refine g_bipush (pc' := 196) B (by decide +kernel) dX12_street_194 rfl ?_
                    refine g_iload_n (pc' := 197) B 0 rfl rfl dX12_street_196 rfl ?_
                    refine g_iadd (pc' := 198) B dX12_street_197 rfl ?_
                    refine g_iald (pc' := 199) B (a2 61 (8 + k2)) rfl rfl (by omega) (by decide) dX12_street_198 rfl ?_
                    refine g_iast (pc' := 200) B rfl (by omega) (by decide) dX12_street_199 rfl ?_
                    refine g_iinc (pc' := 203) B 0 [(1, .int (iI (k2 + 1))), (0, .ref (K.2.2 57))] dX12_street_200 rfl rfl (by decide) rfl ?_
                    refine g_goto (pc' := 179) B dX12_street_203 (by decide) ?_
                    exact ih179 _ (by omega) (up a2 61 k2 (a2 61 (8 + k2))) (k2 + 1) rfl (by omega) (by intro j a b; by_cases e9 : j = k2; (subst e9; rw [up_same]; exact v3 _ (by omega)); (rw [up_col e9]; exact v2 j a (by omega))) (by intro j a; rw [up_col (by omega)]; exact v3 j (by omega)) (by intro r a; rw [up_row a]; exact v4 r a)
              exact L179 _ a1 0 rfl (by omega) (by intro j a b; omega) (by intro j a; rw [u4 61 (by decide), up_row (by decide), up_row (by decide), up_row (by decide), up_row (by decide)]) (by intro r a; rfl)
            · refine g_aload_n (pc' := 157) B 1 rfl rfl dX12_street_156 rfl ?_
              refine g_getR (pc' := 160) B 60 fl_X12_17 rfl rfl dX12_street_157 rfl ?_
              refine g_iload_n (pc' := 161) B 0 rfl rfl dX12_street_160 rfl ?_
              refine g_aload_n (pc' := 162) B 1 rfl rfl dX12_street_161 rfl ?_
              refine g_getR (pc' := 165) B 60 fl_X12_17 rfl rfl dX12_street_162 rfl ?_
              refine g_bipush (pc' := 167) B (by decide +kernel) dX12_street_165 rfl ?_
              refine g_iload_n (pc' := 168) B 0 rfl rfl dX12_street_167 rfl ?_
              refine g_iadd (pc' := 169) B dX12_street_168 rfl ?_
              refine g_iald (pc' := 170) B (a1 60 (32 + k1)) rfl rfl (by omega) (by decide) dX12_street_169 rfl ?_
              refine g_iast (pc' := 171) B rfl (by omega) (by decide) dX12_street_170 rfl ?_
              refine g_iinc (pc' := 174) B 0 [(1, .int (iI (k1 + 1))), (0, .ref (K.2.2 57))] dX12_street_171 rfl rfl (by decide) rfl ?_
              refine g_goto (pc' := 150) B dX12_street_174 (by decide) ?_
              exact ih150 _ (by omega) (up a1 60 k1 (a1 60 (32 + k1))) (k1 + 1) rfl (by omega) (by intro j a b; by_cases e9 : j = k1; (subst e9; rw [up_same]; exact u3 _ (by omega)); (rw [up_col e9]; exact u2 j a (by omega))) (by intro j a; rw [up_col (by omega)]; exact u3 j (by omega)) (by intro r a; rw [up_row a]; exact u4 r a)
        exact L150 _ (up (up (up (up ω 57 14 0) 57 5 (itP tx n 250 9 0)) 57 6 (itP tx n 250 9 1)) 57 7 (itP tx n 250 9 2)) 0 rfl (by omega) (by intro j a b; omega) (by intro j a; rw [up_row (by decide), up_row (by decide), up_row (by decide), up_row (by decide)]) (by intro r a; rfl)
      · refine g_bipush (pc' := 118) B (by decide +kernel) dX12_street_116 rfl ?_
        refine g_aload_n (pc' := 119) B 0 rfl rfl dX12_street_118 rfl ?_
        refine g_get (pc' := 122) B (itP tx n 250 11 1) (by have q9 := g1.1; simpa [up] using q9) fl_X12_80 rfl rfl dX12_street_119 rfl ?_
        refine g_isub (pc' := 123) B dX12_street_122 rfl ?_
        exact g_iret (z := (-10) - (itP tx n 250 11 1)) B hrt rfl hlk dX12_street_123 ⟨up_same _ _ _ _, by rw [up_col (by decide)]; exact g1.2, Or.inl ⟨by omega, rfl, fun j a => by rw [up_col (by omega)]; exact g3.1 j (by omega), fun j a => by rw [up_row (by decide)]; exact g3.2.1 j a, fun j a => by rw [up_row (by decide)]; exact g3.2.2.1 j a, fun j a => by rw [up_row (by decide)]; exact g3.2.2.2.1 j a, fun k b1 b2 b3 b4 => by rw [up_row b1]; exact g3.2.2.2.2 k b1 b2 b3 b4⟩⟩
  have L40 : ∀ (nn : Nat) (ρ : SG) (m : Nat) (R : SG) , 251 - m = nn → (m ≤ 250) → (mP ρ tx n R) → (skp tx n R = itP tx n m) → (mfr σ ρ) → (okP n R) → G pP l eE (rmo 4 93) sS mM [.ref (K.2.2 57)].toArray bW mT cC 0 0 (MQ bW (Qi K (fun z τ => τ 57 14 = 0 ∧ τ 57 18 = itP tx n 250 11 2 ∧ ((itP tx n 250 11 1 ≠ 0 ∧ z = -10 - itP tx n 250 11 1 ∧ (∀ j : Int, (j < 8 ∨ j = 13 ∨ 18 < j) → τ 57 j = σ 57 j) ∧ (∀ j : Int, j < 32 → τ 60 j = σ 60 j) ∧ (∀ j : Int, j < 8 → τ 61 j = σ 61 j) ∧ (∀ j : Int, j < 16 → τ 62 j = σ 62 j) ∧ ∀ k, k ≠ 57 → k ≠ 60 → k ≠ 61 → k ≠ 62 → τ k = σ k) ∨ (itP tx n 250 11 1 = 0 ∧ z = itP tx n 250 9 0 ∧ mD τ (itP tx n 250) ∧ (∀ h : Int, 0 ≤ h → h < itP tx n 250 9 1 → τ 58 (4 + h) = itP tx n 250 10 h) ∧ (τ 58 0 = 0 ∧ τ 58 1 = 0 ∧ τ 58 2 = (if itP tx n 250 11 3 = -1 then 0 else itP tx n 250 11 3) ∧ τ 58 3 = 0) ∧ (∀ j : Int, 8 ≤ j → τ 58 j = σ 58 j) ∧ (τ 59 0 = 0 ∧ τ 59 1 = 0) ∧ (τ 57 21 = 0 ∧ τ 57 25 = 0 ∧ τ 57 30 = 0 ∧ τ 57 33 = 0) ∧ ∀ k, k ≠ 57 → k ≠ 58 → k ≠ 59 → k ≠ 60 → k ≠ 61 → k ≠ 62 → τ k = σ k)))) [.ref (K.2.2 57)].toArray sS 0 0 (wA K)) K sS.heap 2 ρ 40 [(0, .ref (K.2.2 57))] [] := by
    intro nn
    induction nn using Nat.strongRecOn with
    | _ nn ih40 =>
      intro ρ m R hn40 i1 i2 i3 i4 i5
      have hRr := i5.1.2
      refine g_aload_n (pc' := 41) B 0 rfl rfl dX12_street_40 rfl ?_
      refine g_get (pc' := 44) B (R 11 1) i2.2.1.1 fl_X12_80 rfl rfl dX12_street_41 rfl ?_
      refine g_if_ne (pc' := 47) B 104 (by omega) dX12_street_44 (by decide) rfl (fun c44 => ?_) (fun c44 => ?_)
      · have hk1 : itP tx n m 11 1 = R 11 1 := by rw [← i3]; exact up_col (by decide)
        have hk2 : itP tx n m 11 2 = R 11 2 := by rw [← i3]; exact up_col (by decide)
        have hst : itP tx n 250 = itP tx n m := itP_stop (fun q9 => c44 (by rw [← hk1]; exact q9.2)) i1
        exact L104 _ ρ rfl (by first | (rw [hst, hk1, hk2]; exact ⟨i2.2.1.1, i2.2.1.2.1⟩) | (rw [hst]; exact ⟨hpk.2.1.1, hpk.2.1.2.1⟩)) (by first | (intro q9; exfalso; rw [hst, hk1] at q9; exact c44 q9) | (rw [hst]; exact hpk.2.2)) (by first | exact i4 | exact hm1)
      · have hz : R 11 1 = 0 := by omega
        have hRb := i5.1.1
        have hsb9 := sb_in tx n (R 11 0)
        have hl9 := lhM_bd hT (sb tx n (R 11 0))
        refine g_aload_n (pc' := 48) B 0 rfl rfl dX12_street_47 rfl ?_
        refine g_callVI (pc' := 51) (As := []) B (c_X12_here l K _ (tx := tx) (n := n) (a := R 11 0) (b := sb tx n (R 11 0)) i2.1 (i2.2.1.2.2 hz) (by omega) rfl) vt_X12_here tw_1050 rfl rfl ⟨by decide, by decide⟩ rfl (Nat.le_of_ble_eq_true rfl) ⟨Nat.zero_le _, Nat.zero_le _⟩ rfl dX12_street_48 rfl (fun z48 τ48 h48 => ?_)
        obtain ⟨h48a, h48b⟩ := h48
        subst h48a
        subst h48b
        have hat : itP tx n m 11 0 = sb tx n (R 11 0) := by rw [← i3]; exact up_same _ _ _ _
        have hpk : mP (up ρ 57 15 (sb tx n (R 11 0))) tx n (itP tx n m) := by rw [← i3]; exact mP_skp i2
        have hm1 : mfr σ (up ρ 57 15 (sb tx n (R 11 0))) := i4.tr (mfr.of57 (fun j a => up_col (by omega)) (fun k a => up_row a))
        refine g_if_lt (pc' := 54) B 104 (by omega) dX12_street_51 (by decide) rfl (fun c51 => ?_) (fun c51 => ?_)
        · have hge := lhM_neg hT (a := sb tx n (R 11 0)) (by omega) c51
          have hst : itP tx n 250 = itP tx n m := itP_stop (fun q9 => by rw [hat] at q9; omega) i1
          exact L104 _ (up ρ 57 15 (sb tx n (R 11 0))) rfl (by first | (rw [hst, hk1, hk2]; exact ⟨i2.2.1.1, i2.2.1.2.1⟩) | (rw [hst]; exact ⟨hpk.2.1.1, hpk.2.1.2.1⟩)) (by first | (intro q9; exfalso; rw [hst, hk1] at q9; exact c44 q9) | (rw [hst]; exact hpk.2.2)) (by first | exact i4 | exact hm1)
        · have hlt := lhM_pos (tx := tx) (n := n) (a := sb tx n (R 11 0)) (by omega)
          have hit := okP_it (tx := tx) hT.2.1.1 m
          have hkz : itP tx n m 11 1 = 0 := by rw [← i3]; exact (up_col (by decide)).trans hz
          have hm9 := hit.2 hkz
          have hnx : itP tx n (m + 1) = skp tx n (cl tx n (itP tx n m)) := if_pos ⟨by rw [hat]; exact hlt, hkz⟩
          have hcb : pbd n (clM tx n (itP tx n m)) := clM_bd hit.1.1 (by rw [hat]; exact hlt)
          have hcb1 := hcb.1
          have hcb2 := hcb.2
          have hl8 := lhM_bd hT (sb tx n (clM tx n (itP tx n m) 11 0))
          refine g_aload_n (pc' := 55) B 0 rfl rfl dX12_street_54 rfl ?_
          refine g_callVV (pc' := 58) (As := []) B (c_X12_takeClause l K _ (tx := tx) (n := n) (P := itP tx n m) hpk hit.1 (⟨hkz, by rw [hat]; exact hlt⟩) (by rw [hat]; exact sb_idem _ _ _)) vt_X12_takeClause tw_1054 rfl rfl ⟨by decide, by decide⟩ rfl (Nat.le_of_ble_eq_true rfl) ⟨Nat.zero_le _, Nat.zero_le _⟩ rfl dX12_street_55 rfl (fun τ55 h55 => ?_)
          obtain ⟨h55a, h55b⟩ := h55
          have hm2 := hm1.tr h55b
          refine g_aload_n (pc' := 59) B 0 rfl rfl dX12_street_58 rfl ?_
          refine g_get (pc' := 62) B (clM tx n (itP tx n m) 11 1) h55a.2.1.1 fl_X12_80 rfl rfl dX12_street_59 rfl ?_
          refine g_if_ne (pc' := 65) B 40 (by omega) dX12_street_62 (by decide) rfl (fun c62 => ?_) (fun c62 => ?_)
          · exact ih40 _ (by omega) τ55 (m + 1) (cl tx n (itP tx n m)) rfl (by omega) (by first | exact (mP_neY h55a (by omega) c72).eqv cl_eq | exact (mP_neN h55a (by omega) c72).eqv cl_eq | exact (show mP τ55 tx n (ne tx n (clM tx n (itP tx n m))) by rw [ne_f c62]; exact h55a).eqv cl_eq) (by exact hnx.symm) (by first | exact hm2 | exact hm2.tr (mfr.of57 (fun j a => by rw [up_col (by omega), up_col (by omega), up_col (by omega)]) (fun k a => by rw [up_row a, up_row a, up_row a])) | exact hm2.tr (mfr.of57 (fun j a => by rw [up_col (by omega), up_col (by omega)]) (fun k a => by rw [up_row a, up_row a]))) (by exact (okP_cl hit.1 hkz (by rw [hat]; exact hlt)).1)
          · refine g_aload_n (pc' := 66) B 0 rfl rfl dX12_street_65 rfl ?_
            refine g_aload_n (pc' := 67) B 0 rfl rfl dX12_street_66 rfl ?_
            refine g_callVI (pc' := 70) (As := []) B (c_X12_here l K _ (tx := tx) (n := n) (a := clM tx n (itP tx n m) 11 0) (b := sb tx n (clM tx n (itP tx n m) 11 0)) h55a.1 (h55a.2.1.2.2 (by omega)) (by omega) rfl) vt_X12_here tw_1050 rfl rfl ⟨by decide, by decide⟩ rfl (Nat.le_of_ble_eq_true rfl) ⟨Nat.zero_le _, Nat.zero_le _⟩ rfl dX12_street_67 rfl (fun z67 τ67 h67 => ?_)
            obtain ⟨h67a, h67b⟩ := h67
            subst h67a
            subst h67b
            refine g_bipush (pc' := 72) B (by decide +kernel) dX12_street_70 rfl ?_
            refine g_icmp_ne (pc' := 75) B 79 (by omega) (by omega) dX12_street_72 (by decide) rfl (fun c72 => ?_) (fun c72 => ?_)
            · refine g_iconst (pc' := 80) B dX12_street_79 rfl ?_
              refine g_iconst (pc' := 81) B dX12_street_80 rfl ?_
              refine g_aload_n (pc' := 82) B 0 rfl rfl dX12_street_81 rfl ?_
              refine g_get (pc' := 85) B (sb tx n (clM tx n (itP tx n m) 11 0)) (by simp [up]) fl_X12_77 rfl rfl dX12_street_82 rfl ?_
              refine g_callVI (pc' := 88) (As := [.int (iI 0), .int (iI 1), .int (iI (sb tx n (clM tx n (itP tx n m) 11 0)))]) B (c_X12_want0 l K _ (m := 1) (w := (sb tx n (clM tx n (itP tx n m) 11 0))) (by simp [up]; exact h55a.2.1.1.trans (by omega)) (by omega) (by omega)) vt_X12_want tw_1058 rfl rfl ⟨by decide, by decide⟩ rfl (Nat.le_of_ble_eq_true rfl) ⟨Nat.zero_le _, Nat.zero_le _⟩ rfl dX12_street_85 rfl (fun z85 τ85 h85 => ?_)
              obtain ⟨h85a, h85b⟩ := h85
              subst h85a
              subst h85b
              refine g_if_eq (pc' := 91) B 40 (by omega) dX12_street_88 (by decide) rfl (fun _ => ?_) (fun q => absurd q (by decide))
              exact ih40 _ (by omega) (up (up (up τ55 57 15 (sb tx n (clM tx n (itP tx n m) 11 0))) 57 17 1) 57 18 (sb tx n (clM tx n (itP tx n m) 11 0))) (m + 1) (cl tx n (itP tx n m)) rfl (by omega) (by first | exact (mP_neY h55a (by omega) c72).eqv cl_eq | exact (mP_neN h55a (by omega) c72).eqv cl_eq | exact (show mP τ55 tx n (ne tx n (clM tx n (itP tx n m))) by rw [ne_f c62]; exact h55a).eqv cl_eq) (by exact hnx.symm) (by first | exact hm2 | exact hm2.tr (mfr.of57 (fun j a => by rw [up_col (by omega), up_col (by omega), up_col (by omega)]) (fun k a => by rw [up_row a, up_row a, up_row a])) | exact hm2.tr (mfr.of57 (fun j a => by rw [up_col (by omega), up_col (by omega)]) (fun k a => by rw [up_row a, up_row a]))) (by exact (okP_cl hit.1 hkz (by rw [hat]; exact hlt)).1)
            · refine g_iconst (pc' := 76) B dX12_street_75 rfl ?_
              refine g_goto (pc' := 80) B dX12_street_76 (by decide) ?_
              refine g_iconst (pc' := 81) B dX12_street_80 rfl ?_
              refine g_aload_n (pc' := 82) B 0 rfl rfl dX12_street_81 rfl ?_
              refine g_get (pc' := 85) B (sb tx n (clM tx n (itP tx n m) 11 0)) (by simp [up]) fl_X12_77 rfl rfl dX12_street_82 rfl ?_
              refine g_callVI (pc' := 88) (As := [.int (iI 1), .int (iI 1), .int (iI (sb tx n (clM tx n (itP tx n m) 11 0)))]) B (c_X12_want1 l K _ (m := 1) (w := (sb tx n (clM tx n (itP tx n m) 11 0))) (by simp [up]; exact h55a.2.1.1.trans (by omega))) vt_X12_want tw_1058 rfl rfl ⟨by decide, by decide⟩ rfl (Nat.le_of_ble_eq_true rfl) ⟨Nat.zero_le _, Nat.zero_le _⟩ rfl dX12_street_85 rfl (fun z85 τ85 h85 => ?_)
              obtain ⟨rfl, rfl⟩ := h85
              refine g_if_eq (pc' := 91) B 40 (by omega) dX12_street_88 (by decide) rfl (fun q => absurd q (by decide)) (fun _ => ?_)
              refine g_aload_n (pc' := 92) B 0 rfl rfl dX12_street_91 rfl ?_
              refine g_dup (pc' := 93) B rfl dX12_street_92 rfl ?_
              refine g_get (pc' := 96) B (sb tx n (clM tx n (itP tx n m) 11 0)) (by simp [up]) fl_X12_77 rfl rfl dX12_street_93 rfl ?_
              refine g_iconst (pc' := 97) B dX12_street_96 rfl ?_
              refine g_iadd (pc' := 98) B dX12_street_97 rfl ?_
              refine g_put (pc' := 101) B 15 rfl fp_X12_77 rfl rfl dX12_street_98 rfl ?_
              refine g_goto (pc' := 40) B dX12_street_101 (by decide) ?_
              exact ih40 _ (by omega) (up (up τ55 57 15 (sb tx n (clM tx n (itP tx n m) 11 0))) 57 15 ((sb tx n (clM tx n (itP tx n m) 11 0)) + 1)) (m + 1) (cl tx n (itP tx n m)) rfl (by omega) (by first | exact (mP_neY h55a (by omega) c72).eqv cl_eq | exact (mP_neN h55a (by omega) c72).eqv cl_eq | exact (show mP τ55 tx n (ne tx n (clM tx n (itP tx n m))) by rw [ne_f c62]; exact h55a).eqv cl_eq) (by exact hnx.symm) (by first | exact hm2 | exact hm2.tr (mfr.of57 (fun j a => by rw [up_col (by omega), up_col (by omega), up_col (by omega)]) (fun k a => by rw [up_row a, up_row a, up_row a])) | exact hm2.tr (mfr.of57 (fun j a => by rw [up_col (by omega), up_col (by omega)]) (fun k a => by rw [up_row a, up_row a]))) (by exact (okP_cl hit.1 hkz (by rw [hat]; exact hlt)).1)
  exact L40 _ (up (up (up (up (up (up (up (up σ 57 15 0) 57 17 0) 57 18 (-1)) 57 8 0) 57 9 0) 57 10 0) 57 11 0) 57 12 0) 0 P0 rfl (by omega) (by exact ⟨hT.keep (by simp [up]) (by rw [up_row (by decide), up_row (by decide), up_row (by decide), up_row (by decide), up_row (by decide), up_row (by decide), up_row (by decide), up_row (by decide)]), ⟨by simp [up, P0], by simp [up, P0], fun _ => by simp [up, P0]⟩, fun _ => ⟨by simp [up, P0], by simp [up, P0], by simp [up, P0], by simp [up, P0], by simp [up, P0], fun f a b => by exfalso; simp [P0] at b; omega, fun f a b => by exfalso; simp [P0] at b; omega, fun f a b => by exfalso; simp [P0] at b; omega⟩⟩) (by rfl) (by exact mfr.of57 (fun j a => by rw [up_col (by omega), up_col (by omega), up_col (by omega), up_col (by omega), up_col (by omega), up_col (by omega), up_col (by omega), up_col (by omega)]) (fun k a => by rw [up_row a, up_row a, up_row a, up_row a, up_row a, up_row a, up_row a, up_row a])) (by exact okP_0 hT.2.1.1)
