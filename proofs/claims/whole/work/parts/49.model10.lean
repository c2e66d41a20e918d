theorem gc_le {a b : Int} (hb : 0 < b) : gc a b ≤ b := by
  unfold gc
  have := Nat.gcd_le_right (m := a.toNat) (n := b.toNat) (by omega)
  omega
theorem gc_one {a : Int} : a / gc a 1 * 1 = a := by
  unfold gc
  simp
/-- the longest run so far -/
def lgI (A : Int → Prop) (k m r : Int) : Prop := (0 ≤ r ∧ r ≤ m ∧ m ≤ k) ∧ (∀ j : Int, k - r ≤ j → j < k → A j) ∧ (r = k ∨ ¬ A (k - r - 1)) ∧ (∃ a : Int, 0 ≤ a ∧ ∀ j : Int, 0 ≤ j → j < m → A (a + j)) ∧ (∀ a : Int, 0 ≤ a → a + m + 1 ≤ k → ∃ j : Int, 0 ≤ j ∧ j ≤ m ∧ ¬ A (a + j))
theorem lgI_0 (A : Int → Prop) : lgI A 0 0 0 := ⟨by omega, fun j a b => by omega, Or.inl rfl, ⟨0, by omega, fun j a b => by omega⟩, fun a b c => by omega⟩
theorem lgI_shut {A : Int → Prop} {k m r : Int} (h : lgI A k m r) (hn : ¬ A k) : lgI A (k + 1) m 0 := by
  obtain ⟨h1, h2, h3, h4, h5⟩ := h
  refine ⟨by omega, fun j a b => by omega, Or.inr (by rw [show k + 1 - 0 - 1 = k by omega]; exact hn), h4, fun a b c => ?_⟩
  by_cases q : a + m + 1 ≤ k
  · exact h5 a b q
  · exact ⟨m, by omega, by omega, by rw [show a + m = k by omega]; exact hn⟩
theorem lgI_open {A : Int → Prop} {k m r : Int} (h : lgI A k m r) (hn : A k) : lgI A (k + 1) (max m (r + 1)) (r + 1) := by
  obtain ⟨h1, h2, h3, h4, h5⟩ := h
  refine ⟨by omega, fun j a b => ?_, ?_, ?_, fun a b c => ?_⟩
  · by_cases q : j = k
    · subst q; exact hn
    · exact h2 j (by omega) (by omega)
  · rcases h3 with q | q
    · exact Or.inl (by omega)
    · exact Or.inr (by rw [show k + 1 - (r + 1) - 1 = k - r - 1 by omega]; exact q)
  · by_cases q : m < r + 1
    · rw [Int.max_eq_right (by omega)]
      refine ⟨k - r, by omega, fun j a b => ?_⟩
      by_cases e : j = r
      · subst e; rw [show k - j + j = k by omega]; exact hn
      · exact h2 _ (by omega) (by omega)
    · rw [Int.max_eq_left (by omega)]; exact h4
  · by_cases q : a + m + 1 ≤ k
    · obtain ⟨j, j0, j1, j2⟩ := h5 a b q
      exact ⟨j, j0, by omega, j2⟩
    · rcases h3 with e | e
      · exfalso; omega
      · exact ⟨k - r - 1 - a, by omega, by omega, by rw [show a + (k - r - 1 - a) = k - r - 1 by omega]; exact e⟩
theorem lg_end {D : SG} {u m n r : Int} (h : okQ D) (hn : n = rq D u (D 9 2).toNat) (h1 : 1 ≤ n) (hl : lgI (fun k => aop D u k) (2 * n) m r) : isL (fun k => aop D u k) (if m = 2 * n then -1 else m) := by
  obtain ⟨g1, g2, g3, ⟨a, a0, a1⟩, g5⟩ := hl
  by_cases q : n ≤ m
  · have all : ∀ k : Int, 0 ≤ k → aop D u k := by
      intro k _
      have b1 := Int.emod_nonneg (k - a) (show n ≠ 0 by omega)
      have b2 := Int.emod_lt_of_pos (k - a) (show 0 < n by omega)
      have e1 : aop D u (a + (k - a) % n) := a1 _ b1 (by omega)
      have e2 := aop_per (u := u) (t := a + (k - a) % n) (c := (k - a) / n) h
      rw [← hn] at e2
      have e3 := Int.emod_add_mul_ediv (k - a) n
      have e4 := e2.mpr e1
      rw [show a + (k - a) % n + n * ((k - a) / n) = k by omega] at e4
      exact e4
    by_cases e : m = 2 * n
    · rw [if_pos e]; exact Or.inl ⟨rfl, all⟩
    · obtain ⟨j, j0, j1, j2⟩ := g5 0 (by omega) (by omega)
      exact absurd (all _ (by omega)) j2
  · rw [if_neg (by omega)]
    exact isL_of h hn h1 (by omega) ⟨a, a0, a1⟩ (fun b b0 b1 => g5 b b0 (by omega))
set_option maxRecDepth 100000 in
set_option maxHeartbeats 4000000 in
theorem c_X12_isSeamSet (l : Launch) (K : WK) (σ : SG) {D : SG} (hM : mD σ D) (hF : okF D) (hR : okR D) (hO : okQ D) (hH : okH D) {u : Int} (hu : -2147483648 ≤ u ∧ u < 2147483648) : MI l yX12_isSeamSet cX12_isSeamSet 2 (some .boolean) 1 25 K σ [.ref (K.2.2 57), .int (iI u)] (fun z τ => σ = τ ∧ (((0 ≤ u ∧ u < 2 ^ (D 9 2).toNat) ∧ z = 1) ∨ (¬ (0 ≤ u ∧ u < 2 ^ (D 9 2).toNat) ∧ z = 0))) := by
  refine met_of [(0, .ref (K.2.2 57)), (1, .int (iI u))] (by decide +kernel) (Nat.le_of_ble_eq_true rfl) rfl ?_
  intro pP eE sS mM bW mT cC B hrt hlk
  replace B : CB pP sS mM [.ref (K.2.2 57), .int (iI u)].toArray cC cX12_isSeamSet RX12 2 K := B
  obtain ⟨hF0, hF1⟩ := id hF
  obtain ⟨hO0, hO1⟩ := id hO
  obtain ⟨hH0, hH1⟩ := id hH
  obtain ⟨hR0, hR1⟩ := id hR
  have hp4 := pow4 (k := (D 9 2).toNat) (by omega)
  have hp5 := pow_le7 (k := (D 9 2).toNat) (by omega)
  refine g_iload_n (pc' := 1) B 1 rfl rfl dX12_isSeamSet_0 rfl ?_
  refine g_i2l (pc' := 2) B (by omega) dX12_isSeamSet_1 rfl ?_
  refine g_lconst (z := 0) (pc' := 3) B (by decide +kernel) dX12_isSeamSet_2 rfl ?_
  refine g_iconst (pc' := 4) B dX12_isSeamSet_3 rfl ?_
  refine g_aload_n (pc' := 5) B 0 rfl rfl dX12_isSeamSet_4 rfl ?_
  refine g_get (pc' := 8) B (D 9 2) hM.2.2.1 fl_X12_137 rfl rfl dX12_isSeamSet_5 rfl ?_
  refine g_ishl (pc' := 9) B (2 ^ (D 9 2).toNat) (sh1 ⟨by omega, by omega⟩) dX12_isSeamSet_8 rfl ?_
  refine g_iconst (pc' := 10) B dX12_isSeamSet_9 rfl ?_
  refine g_isub (pc' := 11) B dX12_isSeamSet_10 rfl ?_
  refine g_i2l (pc' := 12) B (by omega) dX12_isSeamSet_11 rfl ?_
  refine g_callSI (pc' := 15) (As := [.long (lI u), .long (lI 0), .long (lI ((2 ^ (D 9 2).toNat) - 1))]) B (c_X12_in l K _ (v := u) (a := 0) (b := (2 ^ (D 9 2).toNat) - 1) (by omega) (by omega) (by omega)) st_X12_in tw_1041 ⟨by decide, by decide⟩ rfl (Nat.le_of_ble_eq_true rfl) ⟨Nat.zero_le _, Nat.zero_le _⟩ rfl dX12_isSeamSet_12 rfl (fun z12 τ12 h12 => ?_)
  obtain ⟨rfl, h12⟩ := h12
  rcases h12 with ⟨h12, rfl⟩ | ⟨h12, rfl⟩
  · exact g_iret (z := 1) B hrt rfl hlk dX12_isSeamSet_15 ⟨rfl, by omega⟩
  · exact g_iret (z := 0) B hrt rfl hlk dX12_isSeamSet_15 ⟨rfl, by omega⟩
set_option maxRecDepth 100000 in
set_option maxHeartbeats 4000000 in
theorem c_X12_roundOfSeams (l : Launch) (K : WK) (σ : SG) {D : SG} (hM : mD σ D) (hF : okF D) (hR : okR D) (hO : okQ D) (hH : okH D) {u : Int} (hu : 0 ≤ u ∧ u < 16) : MI l yX12_roundOfSeams cX12_roundOfSeams 5 (some .int) 1 24 K σ [.ref (K.2.2 57), .int (iI u)] (fun z τ => σ = τ ∧ z = rq D u (D 9 2).toNat) := by
  refine met_of [(0, .ref (K.2.2 57)), (1, .int (iI u))] (by decide +kernel) (Nat.le_of_ble_eq_true rfl) rfl ?_
  intro pP eE sS mM bW mT cC B hrt hlk
  replace B : CB pP sS mM [.ref (K.2.2 57), .int (iI u)].toArray cC cX12_roundOfSeams RX12 5 K := B
  obtain ⟨hF0, hF1⟩ := id hF
  obtain ⟨hO0, hO1⟩ := id hO
  obtain ⟨hH0, hH1⟩ := id hH
  obtain ⟨hR0, hR1⟩ := id hR
  refine g_iconst (pc' := 1) B dX12_roundOfSeams_0 rfl ?_
  refine g_istore_n (pc' := 2) B [(2, .int (iI 1)), (0, .ref (K.2.2 57)), (1, .int (iI u))] dX12_roundOfSeams_1 rfl rfl (by decide) rfl ?_
  refine g_iconst (pc' := 3) B dX12_roundOfSeams_2 rfl ?_
  refine g_istore_n (pc' := 4) B [(3, .int (iI 0)), (2, .int (iI 1)), (0, .ref (K.2.2 57)), (1, .int (iI u))] dX12_roundOfSeams_3 rfl rfl (by decide) rfl ?_
  have L4 : ∀ (nn : Nat) (n s : Int) , (D 9 2 - s).toNat = nn → (0 ≤ s ∧ s ≤ D 9 2) → (n = rq D u s.toNat) → G pP l eE (rmo 1 24) sS mM [.ref (K.2.2 57), .int (iI u)].toArray bW mT cC 0 0 (MQ bW (Qi K (fun z τ => σ = τ ∧ z = rq D u (D 9 2).toNat)) [.ref (K.2.2 57), .int (iI u)].toArray sS 0 0 (wA K)) K sS.heap 5 σ 4 [(3, .int (iI s)), (2, .int (iI n)), (0, .ref (K.2.2 57)), (1, .int (iI u))] [] := by
    intro nn
    induction nn using Nat.strongRecOn with
    | _ nn ih4 =>
      intro n s hn4 i1 i2
      have hr9 := rq_lim (u := u) hO (k := s.toNat) (by omega)
      rw [← i2] at hr9
      refine g_iload_n (pc' := 5) B 0 rfl rfl dX12_roundOfSeams_4 rfl ?_
      refine g_aload_n (pc' := 6) B 2 rfl rfl dX12_roundOfSeams_5 rfl ?_
      refine g_get (pc' := 9) B (D 9 2) hM.2.2.1 fl_X12_137 rfl rfl dX12_roundOfSeams_6 rfl ?_
      refine g_icmp_ge (pc' := 12) B 54 (by omega) (by omega) dX12_roundOfSeams_9 (by decide) rfl (fun c9 => ?_) (fun c9 => ?_)
      · refine g_iload_n (pc' := 55) B 1 rfl rfl dX12_roundOfSeams_54 rfl ?_
        exact g_iret (z := n) B hrt rfl hlk dX12_roundOfSeams_55 ⟨rfl, by rw [i2, show s = D 9 2 by omega]⟩
      · have hs9 := hO1 s (by omega) (by omega)
        refine g_iload_n (pc' := 13) B 3 rfl rfl dX12_roundOfSeams_12 rfl ?_
        refine g_iload_n (pc' := 14) B 0 rfl rfl dX12_roundOfSeams_13 rfl ?_
        refine g_callSI (pc' := 17) (As := [.int (iI u), .int (iI s)]) B (c_X12_has l K _ (u := u) (k := s) (by omega) (by omega)) st_X12_has tw_1242 ⟨by decide, by decide⟩ rfl (Nat.le_of_ble_eq_true rfl) ⟨Nat.zero_le _, Nat.zero_le _⟩ rfl dX12_roundOfSeams_14 rfl (fun z14 τ14 h14 => ?_)
        obtain ⟨rfl, h14⟩ := h14
        rcases h14 with ⟨h14, rfl⟩ | ⟨h14, rfl⟩
        · refine g_if_eq (pc' := 20) B 33 (by omega) dX12_roundOfSeams_17 (by decide) rfl (fun q => absurd q (by decide)) (fun _ => ?_)
          refine g_aload_n (pc' := 21) B 2 rfl rfl dX12_roundOfSeams_20 rfl ?_
          refine g_getR (pc' := 24) B 62 fl_X12_23 rfl rfl dX12_roundOfSeams_21 rfl ?_
          refine g_iconst (pc' := 25) B dX12_roundOfSeams_24 rfl ?_
          refine g_iload_n (pc' := 26) B 0 rfl rfl dX12_roundOfSeams_25 rfl ?_
          refine g_imul (pc' := 27) B dX12_roundOfSeams_26 rfl ?_
          refine g_iconst (pc' := 28) B dX12_roundOfSeams_27 rfl ?_
          refine g_iadd (pc' := 29) B dX12_roundOfSeams_28 rfl ?_
          refine g_iald (pc' := 30) B (D 6 s) (hM.2.2.2.2.2.2 s (by omega) (by omega)).2.1 rfl (by omega) (by decide) dX12_roundOfSeams_29 rfl ?_
          refine g_goto (pc' := 34) B dX12_roundOfSeams_30 (by decide) ?_
          refine g_istore (pc' := 36) B [(4, .int (iI (D 6 s))), (3, .int (iI s)), (2, .int (iI n)), (0, .ref (K.2.2 57)), (1, .int (iI u))] dX12_roundOfSeams_34 rfl (by decide) rfl ?_
          refine g_iload_n (pc' := 37) B 2 rfl rfl dX12_roundOfSeams_36 rfl ?_
          refine g_iload_n (pc' := 38) B 2 rfl rfl dX12_roundOfSeams_37 rfl ?_
          refine g_iload (pc' := 40) B 0 rfl dX12_roundOfSeams_38 rfl ?_
          refine g_callSI (pc' := 43) (As := [.int (iI n), .int (iI (D 6 s))]) B (c_X12_common l K _ (a := n) (b := D 6 s) (by omega) (by omega)) st_X12_common tw_1081 ⟨by decide, by decide⟩ rfl (Nat.le_of_ble_eq_true rfl) ⟨Nat.zero_le _, Nat.zero_le _⟩ rfl dX12_roundOfSeams_40 rfl (fun z40 τ40 h40 => ?_)
          obtain ⟨rfl, rfl⟩ := h40
          have hg1 := gc_pos (a := n) (b := (D 6 s)) (by omega)
          have hg2 := gc_le (a := n) (b := (D 6 s)) (by omega)
          refine g_idiv (pc' := 44) B (by omega) (by omega) dX12_roundOfSeams_43 rfl ?_
          refine g_iload (pc' := 46) B 0 rfl dX12_roundOfSeams_44 rfl ?_
          refine g_imul (pc' := 47) B dX12_roundOfSeams_46 rfl ?_
          refine g_istore_n (pc' := 48) B [(2, .int (iI ((n / (gc n (D 6 s))) * (D 6 s)))), (4, .int (iI (D 6 s))), (3, .int (iI s)), (0, .ref (K.2.2 57)), (1, .int (iI u))] dX12_roundOfSeams_47 rfl rfl (by decide) rfl ?_
          refine g_iinc (pc' := 51) B 2 [(3, .int (iI (s + 1))), (2, .int (iI ((n / (gc n (D 6 s))) * (D 6 s)))), (4, .int (iI (D 6 s))), (0, .ref (K.2.2 57)), (1, .int (iI u))] dX12_roundOfSeams_48 rfl rfl (by decide) rfl ?_
          refine g_goto (pc' := 4) B dX12_roundOfSeams_51 (by decide) ?_
          refine g_loc B [(3, .int (iI (s + 1))), (2, .int (iI ((n / (gc n (D 6 s))) * (D 6 s)))), (0, .ref (K.2.2 57)), (1, .int (iI u))] [0, 1, 3, 4] rfl ?_
          exact ih4 _ (by omega) ((n / (gc n (D 6 s))) * (D 6 s)) (s + 1) rfl (by omega) (by rw [rq_next (by omega)]; first | (rw [if_pos h14, gc_lc (by omega) (by omega), i2]) | (rw [if_neg h14, gc_one, i2]))
        · refine g_if_eq (pc' := 20) B 33 (by omega) dX12_roundOfSeams_17 (by decide) rfl (fun _ => ?_) (fun q => absurd q (by decide))
          refine g_iconst (pc' := 34) B dX12_roundOfSeams_33 rfl ?_
          refine g_istore (pc' := 36) B [(4, .int (iI 1)), (3, .int (iI s)), (2, .int (iI n)), (0, .ref (K.2.2 57)), (1, .int (iI u))] dX12_roundOfSeams_34 rfl (by decide) rfl ?_
          refine g_iload_n (pc' := 37) B 2 rfl rfl dX12_roundOfSeams_36 rfl ?_
          refine g_iload_n (pc' := 38) B 2 rfl rfl dX12_roundOfSeams_37 rfl ?_
          refine g_iload (pc' := 40) B 0 rfl dX12_roundOfSeams_38 rfl ?_
          refine g_callSI (pc' := 43) (As := [.int (iI n), .int (iI 1)]) B (c_X12_common l K _ (a := n) (b := 1) (by omega) (by omega)) st_X12_common tw_1081 ⟨by decide, by decide⟩ rfl (Nat.le_of_ble_eq_true rfl) ⟨Nat.zero_le _, Nat.zero_le _⟩ rfl dX12_roundOfSeams_40 rfl (fun z40 τ40 h40 => ?_)
          obtain ⟨rfl, rfl⟩ := h40
          have hg1 := gc_pos (a := n) (b := 1) (by omega)
          have hg2 := gc_le (a := n) (b := 1) (by omega)
          refine g_idiv (pc' := 44) B (by omega) (by omega) dX12_roundOfSeams_43 rfl ?_
          refine g_iload (pc' := 46) B 0 rfl dX12_roundOfSeams_44 rfl ?_
          refine g_imul (pc' := 47) B dX12_roundOfSeams_46 rfl ?_
          refine g_istore_n (pc' := 48) B [(2, .int (iI ((n / (gc n 1)) * 1))), (4, .int (iI 1)), (3, .int (iI s)), (0, .ref (K.2.2 57)), (1, .int (iI u))] dX12_roundOfSeams_47 rfl rfl (by decide) rfl ?_
          refine g_iinc (pc' := 51) B 2 [(3, .int (iI (s + 1))), (2, .int (iI ((n / (gc n 1)) * 1))), (4, .int (iI 1)), (0, .ref (K.2.2 57)), (1, .int (iI u))] dX12_roundOfSeams_48 rfl rfl (by decide) rfl ?_
          refine g_goto (pc' := 4) B dX12_roundOfSeams_51 (by decide) ?_
          refine g_loc B [(3, .int (iI (s + 1))), (2, .int (iI ((n / (gc n 1)) * 1))), (0, .ref (K.2.2 57)), (1, .int (iI u))] [0, 1, 3, 4] rfl ?_
          exact ih4 _ (by omega) ((n / (gc n 1)) * 1) (s + 1) rfl (by omega) (by rw [rq_next (by omega)]; first | (rw [if_pos h14, gc_lc (by omega) (by omega), i2]) | (rw [if_neg h14, gc_one, i2]))
  exact L4 _ 1 0 rfl (by omega) (by rfl)
set_option maxRecDepth 100000 in
set_option maxHeartbeats 4000000 in
theorem c_X12_areOpen (l : Launch) (K : WK) (σ : SG) {D : SG} (hM : mD σ D) (hF : okF D) (hR : okR D) (hO : okQ D) (hH : okH D) {u t : Int} (hu : 0 ≤ u ∧ u < 16) (ht : 0 ≤ t ∧ t ≤ 100000000) : MI l yX12_areOpen cX12_areOpen 5 (some .boolean) 1 23 K σ [.ref (K.2.2 57), .int (iI u), .int (iI t)] (fun z τ => σ = τ ∧ ((aop D u t ∧ z = 1) ∨ (¬ (aop D u t) ∧ z = 0))) := by
  refine met_of [(0, .ref (K.2.2 57)), (1, .int (iI u)), (2, .int (iI t))] (by decide +kernel) (Nat.le_of_ble_eq_true rfl) rfl ?_
  intro pP eE sS mM bW mT cC B hrt hlk
  replace B : CB pP sS mM [.ref (K.2.2 57), .int (iI u), .int (iI t)].toArray cC cX12_areOpen RX12 5 K := B
  obtain ⟨hF0, hF1⟩ := id hF
  obtain ⟨hO0, hO1⟩ := id hO
  obtain ⟨hH0, hH1⟩ := id hH
  obtain ⟨hR0, hR1⟩ := id hR
  refine g_iconst (pc' := 1) B dX12_areOpen_0 rfl ?_
  refine g_istore_n (pc' := 2) B [(3, .int (iI 1)), (0, .ref (K.2.2 57)), (1, .int (iI u)), (2, .int (iI t))] dX12_areOpen_1 rfl rfl (by decide) rfl ?_
  refine g_iconst (pc' := 3) B dX12_areOpen_2 rfl ?_
  refine g_istore (pc' := 5) B [(4, .int (iI 0)), (3, .int (iI 1)), (0, .ref (K.2.2 57)), (1, .int (iI u)), (2, .int (iI t))] dX12_areOpen_3 rfl (by decide) rfl ?_
  have L5 : ∀ (nn : Nat) (c s : Int) , (D 9 2 - s).toNat = nn → (0 ≤ s ∧ s ≤ D 9 2) → (c = 0 ∨ c = 1) → (c = 0 → ¬ aop D u t) → (c = 1 → ∀ y : Int, 0 ≤ y → y < s → bt u y = 1 → opn D y t) → G pP l eE (rmo 1 23) sS mM [.ref (K.2.2 57), .int (iI u), .int (iI t)].toArray bW mT cC 0 0 (MQ bW (Qi K (fun z τ => σ = τ ∧ ((aop D u t ∧ z = 1) ∨ (¬ (aop D u t) ∧ z = 0)))) [.ref (K.2.2 57), .int (iI u), .int (iI t)].toArray sS 0 0 (wA K)) K sS.heap 5 σ 5 [(4, .int (iI s)), (3, .int (iI c)), (0, .ref (K.2.2 57)), (1, .int (iI u)), (2, .int (iI t))] [] := by
    intro nn
    induction nn using Nat.strongRecOn with
    | _ nn ih5 =>
      intro c s hn5 i1 i2 i3 i4
      refine g_iload (pc' := 7) B 0 rfl dX12_areOpen_5 rfl ?_
      refine g_aload_n (pc' := 8) B 2 rfl rfl dX12_areOpen_7 rfl ?_
      refine g_get (pc' := 11) B (D 9 2) hM.2.2.1 fl_X12_137 rfl rfl dX12_areOpen_8 rfl ?_
      refine g_icmp_ge (pc' := 14) B 49 (by omega) (by omega) dX12_areOpen_11 (by decide) rfl (fun c11 => ?_) (fun c11 => ?_)
      · refine g_iload_n (pc' := 50) B 1 rfl rfl dX12_areOpen_49 rfl ?_
        exact g_iret (z := c) B hrt (nb_z (by omega)) hlk dX12_areOpen_50 ⟨rfl, by rcases i2 with e9 | e9; exact Or.inr ⟨i3 e9, e9⟩; exact Or.inl ⟨fun y a b q => i4 e9 y a (by omega) q, e9⟩⟩
      · refine g_iload_n (pc' := 15) B 1 rfl rfl dX12_areOpen_14 rfl ?_
        refine g_if_eq (pc' := 18) B 49 (by omega) dX12_areOpen_15 (by decide) rfl (fun c15 => ?_) (fun c15 => ?_)
        · refine g_iload_n (pc' := 50) B 1 rfl rfl dX12_areOpen_49 rfl ?_
          exact g_iret (z := c) B hrt (nb_z (by omega)) hlk dX12_areOpen_50 ⟨rfl, by rcases i2 with e9 | e9; exact Or.inr ⟨i3 e9, e9⟩; exact Or.inl ⟨fun y a b q => i4 e9 y a (by omega) q, e9⟩⟩
        · refine g_iload_n (pc' := 19) B 3 rfl rfl dX12_areOpen_18 rfl ?_
          refine g_iload (pc' := 21) B 0 rfl dX12_areOpen_19 rfl ?_
          refine g_callSI (pc' := 24) (As := [.int (iI u), .int (iI s)]) B (c_X12_has l K _ (u := u) (k := s) (by omega) (by omega)) st_X12_has tw_1242 ⟨by decide, by decide⟩ rfl (Nat.le_of_ble_eq_true rfl) ⟨Nat.zero_le _, Nat.zero_le _⟩ rfl dX12_areOpen_21 rfl (fun z21 τ21 h21 => ?_)
          obtain ⟨rfl, h21⟩ := h21
          rcases h21 with ⟨h21, rfl⟩ | ⟨h21, rfl⟩
          · refine g_if_eq (pc' := 27) B 37 (by omega) dX12_areOpen_24 (by decide) rfl (fun q => absurd q (by decide)) (fun _ => ?_)
            refine g_aload_n (pc' := 28) B 2 rfl rfl dX12_areOpen_27 rfl ?_
            refine g_iload (pc' := 30) B 0 rfl dX12_areOpen_28 rfl ?_
            refine g_iload_n (pc' := 31) B 4 rfl rfl dX12_areOpen_30 rfl ?_
            refine g_callVI (pc' := 34) (As := [.int (iI s), .int (iI t)]) B (c_X12_isSeamOpen l K _ (D := D) (s := s) (t := t) hM hF hR hO hH (by omega) (by omega)) vt_X12_isSeamOpen tw_1096 rfl rfl ⟨by decide, by decide⟩ rfl (Nat.le_of_ble_eq_true rfl) ⟨Nat.zero_le _, Nat.zero_le _⟩ rfl dX12_areOpen_31 rfl (fun z31 τ31 h31 => ?_)
            obtain ⟨rfl, h31⟩ := h31
            rcases h31 with ⟨h31, rfl⟩ | ⟨h31, rfl⟩
            · refine g_if_eq (pc' := 37) B 41 (by omega) dX12_areOpen_34 (by decide) rfl (fun q => absurd q (by decide)) (fun _ => ?_)
              refine g_iconst (pc' := 38) B dX12_areOpen_37 rfl ?_
              refine g_goto (pc' := 42) B dX12_areOpen_38 (by decide) ?_
              refine g_istore_n (pc' := 43) B [(3, .int (iI 1)), (4, .int (iI s)), (0, .ref (K.2.2 57)), (1, .int (iI u)), (2, .int (iI t))] dX12_areOpen_42 rfl rfl (by decide) rfl ?_
              refine g_iinc (pc' := 46) B 1 [(4, .int (iI (s + 1))), (3, .int (iI 1)), (0, .ref (K.2.2 57)), (1, .int (iI u)), (2, .int (iI t))] dX12_areOpen_43 rfl rfl (by decide) rfl ?_
              refine g_goto (pc' := 5) B dX12_areOpen_46 (by decide) ?_
              exact ih5 _ (by omega) 1 (s + 1) rfl (by omega) (by omega) (by intro q9; first | (exfalso; omega) | exact fun q8 => h31 (q8 s (by omega) (by omega) h21)) (by intro q9 y a b q8; first | (exfalso; omega) | (by_cases e9 : y = s; (subst e9; first | exact h31 | exact absurd q8 h21); exact i4 (by omega) y a (by omega) q8))
            · refine g_if_eq (pc' := 37) B 41 (by omega) dX12_areOpen_34 (by decide) rfl (fun _ => ?_) (fun q => absurd q (by decide))
              refine g_iconst (pc' := 42) B dX12_areOpen_41 rfl ?_
              refine g_istore_n (pc' := 43) B [(3, .int (iI 0)), (4, .int (iI s)), (0, .ref (K.2.2 57)), (1, .int (iI u)), (2, .int (iI t))] dX12_areOpen_42 rfl rfl (by decide) rfl ?_
              refine g_iinc (pc' := 46) B 1 [(4, .int (iI (s + 1))), (3, .int (iI 0)), (0, .ref (K.2.2 57)), (1, .int (iI u)), (2, .int (iI t))] dX12_areOpen_43 rfl rfl (by decide) rfl ?_
              refine g_goto (pc' := 5) B dX12_areOpen_46 (by decide) ?_
              exact ih5 _ (by omega) 0 (s + 1) rfl (by omega) (by omega) (by intro q9; first | (exfalso; omega) | exact fun q8 => h31 (q8 s (by omega) (by omega) h21)) (by intro q9 y a b q8; first | (exfalso; omega) | (by_cases e9 : y = s; (subst e9; first | exact h31 | exact absurd q8 h21); exact i4 (by omega) y a (by omega) q8))
          · refine g_if_eq (pc' := 27) B 37 (by omega) dX12_areOpen_24 (by decide) rfl (fun _ => ?_) (fun q => absurd q (by decide))
            refine g_iconst (pc' := 38) B dX12_areOpen_37 rfl ?_
            refine g_goto (pc' := 42) B dX12_areOpen_38 (by decide) ?_
            refine g_istore_n (pc' := 43) B [(3, .int (iI 1)), (4, .int (iI s)), (0, .ref (K.2.2 57)), (1, .int (iI u)), (2, .int (iI t))] dX12_areOpen_42 rfl rfl (by decide) rfl ?_
            refine g_iinc (pc' := 46) B 1 [(4, .int (iI (s + 1))), (3, .int (iI 1)), (0, .ref (K.2.2 57)), (1, .int (iI u)), (2, .int (iI t))] dX12_areOpen_43 rfl rfl (by decide) rfl ?_
            refine g_goto (pc' := 5) B dX12_areOpen_46 (by decide) ?_
            exact ih5 _ (by omega) 1 (s + 1) rfl (by omega) (by omega) (by intro q9; first | (exfalso; omega) | exact fun q8 => h31 (q8 s (by omega) (by omega) h21)) (by intro q9 y a b q8; first | (exfalso; omega) | (by_cases e9 : y = s; (subst e9; first | exact h31 | exact absurd q8 h21); exact i4 (by omega) y a (by omega) q8))
  exact L5 _ 1 0 rfl (by omega) (by omega) (by intro q9; exfalso; omega) (by intro q9 y a b; omega)
set_option maxRecDepth 100000 in
set_option maxHeartbeats 4000000 in
theorem c_X12_open (l : Launch) (K : WK) (σ : SG) {D : SG} (hM : mD σ D) (hF : okF D) (hR : okR D) (hO : okQ D) (hH : okH D) {S X L P : Int} (hn0 : σ 58 0 = S ∧ σ 58 1 = X ∧ σ 58 2 = L ∧ σ 58 3 = P) (hSX : 0 ≤ X ∧ X ≤ S ∧ S ≤ 70000) {u : Int} (hu : -2147483648 ≤ u ∧ u < 2147483648) : MI l yX12_open cX12_open 4 (some .int) 2 48 K σ [.ref (K.2.2 57), .int (iI u)] (fun z τ => σ = τ ∧ aOpen D S u z) := by
  refine met_of [(0, .ref (K.2.2 57)), (1, .int (iI u))] (by decide +kernel) (Nat.le_of_ble_eq_true rfl) rfl ?_
  intro pP eE sS mM bW mT cC B hrt hlk
  replace B : CB pP sS mM [.ref (K.2.2 57), .int (iI u)].toArray cC cX12_open RX12 4 K := B
  obtain ⟨hF0, hF1⟩ := id hF
  obtain ⟨hO0, hO1⟩ := id hO
  obtain ⟨hH0, hH1⟩ := id hH
  obtain ⟨hR0, hR1⟩ := id hR
  have hp4 := pow4 (k := (D 9 2).toNat) (by omega)
  have hrl := rq_lim (u := u) hO (k := (D 9 2).toNat) (by omega)
  refine g_aload_n (pc' := 1) B 0 rfl rfl dX12_open_0 rfl ?_
  refine g_iload_n (pc' := 2) B 1 rfl rfl dX12_open_1 rfl ?_
  refine g_callVI (pc' := 5) (As := [.int (iI u)]) B (c_X12_isSeamSet l K _ (D := D) (u := u) hM hF hR hO hH (by omega)) vt_X12_isSeamSet tw_1267 rfl rfl ⟨by decide, by decide⟩ rfl (Nat.le_of_ble_eq_true rfl) ⟨Nat.zero_le _, Nat.zero_le _⟩ rfl dX12_open_2 rfl (fun z2 τ2 h2 => ?_)
  obtain ⟨rfl, h2⟩ := h2
  rcases h2 with ⟨h2, rfl⟩ | ⟨h2, rfl⟩
  · refine g_if_ne (pc' := 8) B 11 (by omega) dX12_open_5 (by decide) rfl (fun _ => ?_) (fun q => absurd q (by decide))
    refine g_aload_n (pc' := 12) B 0 rfl rfl dX12_open_11 rfl ?_
    refine g_iload_n (pc' := 13) B 1 rfl rfl dX12_open_12 rfl ?_
    refine g_callVI (pc' := 16) (As := [.int (iI u)]) B (c_X12_roundOfSeams l K _ (D := D) (u := u) hM hF hR hO hH (by omega)) vt_X12_roundOfSeams tw_1271 rfl rfl ⟨by decide, by decide⟩ rfl (Nat.le_of_ble_eq_true rfl) ⟨Nat.zero_le _, Nat.zero_le _⟩ rfl dX12_open_13 rfl (fun z13 τ13 h13 => ?_)
    obtain ⟨rfl, rfl⟩ := h13
    refine g_istore_n (pc' := 17) B [(2, .int (iI (rq D u (D 9 2).toNat))), (0, .ref (K.2.2 57)), (1, .int (iI u))] dX12_open_16 rfl rfl (by decide) rfl ?_
    refine g_iconst (pc' := 18) B dX12_open_17 rfl ?_
    refine g_istore_n (pc' := 19) B [(3, .int (iI 0)), (2, .int (iI (rq D u (D 9 2).toNat))), (0, .ref (K.2.2 57)), (1, .int (iI u))] dX12_open_18 rfl rfl (by decide) rfl ?_
    have L19 : ∀ (nn : Nat) (k : Int) , (rq D u (D 9 2).toNat - k).toNat = nn → (0 ≤ k ∧ k ≤ rq D u (D 9 2).toNat) → (∀ y : Int, 0 ≤ y → y < k → ¬ aop D u (S + y)) → G pP l eE (rmo 2 48) sS mM [.ref (K.2.2 57), .int (iI u)].toArray bW mT cC 0 0 (MQ bW (Qi K (fun z τ => σ = τ ∧ aOpen D S u z)) [.ref (K.2.2 57), .int (iI u)].toArray sS 0 0 (wA K)) K sS.heap 4 σ 19 [(3, .int (iI k)), (2, .int (iI (rq D u (D 9 2).toNat))), (0, .ref (K.2.2 57)), (1, .int (iI u))] [] := by
      intro nn
      induction nn using Nat.strongRecOn with
      | _ nn ih19 =>
        intro k hn19 i1 i2
        refine g_iload_n (pc' := 20) B 0 rfl rfl dX12_open_19 rfl ?_
        refine g_iload_n (pc' := 21) B 1 rfl rfl dX12_open_20 rfl ?_
        refine g_icmp_ge (pc' := 24) B 48 (by omega) (by omega) dX12_open_21 (by decide) rfl (fun c21 => ?_) (fun c21 => ?_)
        · refine g_iconst (pc' := 49) B dX12_open_48 rfl ?_
          exact g_iret (z := (-1)) B hrt rfl hlk dX12_open_49 ⟨rfl, Or.inr ⟨h2, Or.inr ⟨rfl, fun y a b => i2 y a (by omega)⟩⟩⟩
        · refine g_aload_n (pc' := 25) B 2 rfl rfl dX12_open_24 rfl ?_
          refine g_iload_n (pc' := 26) B 3 rfl rfl dX12_open_25 rfl ?_
          refine g_aload_n (pc' := 27) B 2 rfl rfl dX12_open_26 rfl ?_
          refine g_getR (pc' := 30) B 58 fl_X12_7 rfl rfl dX12_open_27 rfl ?_
          refine g_iconst (pc' := 31) B dX12_open_30 rfl ?_
          refine g_iald (pc' := 32) B S hn0.1 rfl (by omega) (by decide) dX12_open_31 rfl ?_
          refine g_iload_n (pc' := 33) B 0 rfl rfl dX12_open_32 rfl ?_
          refine g_iadd (pc' := 34) B dX12_open_33 rfl ?_
          refine g_callVI (pc' := 37) (As := [.int (iI u), .int (iI (S + k))]) B (c_X12_areOpen l K _ (D := D) (u := u) (t := S + k) hM hF hR hO hH (by omega) (by omega)) vt_X12_areOpen tw_1275 rfl rfl ⟨by decide, by decide⟩ rfl (Nat.le_of_ble_eq_true rfl) ⟨Nat.zero_le _, Nat.zero_le _⟩ rfl dX12_open_34 rfl (fun z34 τ34 h34 => ?_)
          obtain ⟨rfl, h34⟩ := h34
          rcases h34 with ⟨h34, rfl⟩ | ⟨h34, rfl⟩
          · refine g_if_eq (pc' := 40) B 42 (by omega) dX12_open_37 (by decide) rfl (fun q => absurd q (by decide)) (fun _ => ?_)
            refine g_iload_n (pc' := 41) B 0 rfl rfl dX12_open_40 rfl ?_
            exact g_iret (z := k) B hrt rfl hlk dX12_open_41 ⟨rfl, Or.inr ⟨h2, Or.inl ⟨by omega, by omega, h34, i2⟩⟩⟩
          · refine g_if_eq (pc' := 40) B 42 (by omega) dX12_open_37 (by decide) rfl (fun _ => ?_) (fun q => absurd q (by decide))
            refine g_iinc (pc' := 45) B 0 [(3, .int (iI (k + 1))), (2, .int (iI (rq D u (D 9 2).toNat))), (0, .ref (K.2.2 57)), (1, .int (iI u))] dX12_open_42 rfl rfl (by decide) rfl ?_
            refine g_goto (pc' := 19) B dX12_open_45 (by decide) ?_
            exact ih19 _ (by omega) (k + 1) rfl (by omega) (by intro y a b; by_cases e9 : y = k; (subst e9; exact h34); exact i2 y a (by omega))
    exact L19 _ 0 rfl (by omega) (by intro y a b; omega)
  · refine g_if_ne (pc' := 8) B 11 (by omega) dX12_open_5 (by decide) rfl (fun q => absurd q (by decide)) (fun _ => ?_)
    refine g_ldc (z := (-1000000001)) (pc' := 10) B tw_1133 (by decide +kernel) dX12_open_8 rfl ?_
    exact g_iret (z := (-1000000001)) B hrt rfl hlk dX12_open_10 ⟨rfl, Or.inl ⟨h2, rfl⟩⟩
set_option maxRecDepth 100000 in
set_option maxHeartbeats 4000000 in
theorem c_X12_longest (l : Launch) (K : WK) (σ : SG) {D : SG} (hM : mD σ D) (hF : okF D) (hR : okR D) (hO : okQ D) (hH : okH D) {u : Int} (hu : -2147483648 ≤ u ∧ u < 2147483648) : MI l yX12_longest cX12_longest 6 (some .int) 2 48 K σ [.ref (K.2.2 57), .int (iI u)] (fun z τ => σ = τ ∧ aLongest D u z) := by
  refine met_of [(0, .ref (K.2.2 57)), (1, .int (iI u))] (by decide +kernel) (Nat.le_of_ble_eq_true rfl) rfl ?_
  intro pP eE sS mM bW mT cC B hrt hlk
  replace B : CB pP sS mM [.ref (K.2.2 57), .int (iI u)].toArray cC cX12_longest RX12 6 K := B
  obtain ⟨hF0, hF1⟩ := id hF
  obtain ⟨hO0, hO1⟩ := id hO
  obtain ⟨hH0, hH1⟩ := id hH
  obtain ⟨hR0, hR1⟩ := id hR
  have hp4 := pow4 (k := (D 9 2).toNat) (by omega)
  have hrl := rq_lim (u := u) hO (k := (D 9 2).toNat) (by omega)
  refine g_aload_n (pc' := 1) B 0 rfl rfl dX12_longest_0 rfl ?_
  refine g_iload_n (pc' := 2) B 1 rfl rfl dX12_longest_1 rfl ?_
  refine g_callVI (pc' := 5) (As := [.int (iI u)]) B (c_X12_isSeamSet l K _ (D := D) (u := u) hM hF hR hO hH (by omega)) vt_X12_isSeamSet tw_1267 rfl rfl ⟨by decide, by decide⟩ rfl (Nat.le_of_ble_eq_true rfl) ⟨Nat.zero_le _, Nat.zero_le _⟩ rfl dX12_longest_2 rfl (fun z2 τ2 h2 => ?_)
  obtain ⟨rfl, h2⟩ := h2
  rcases h2 with ⟨h2, rfl⟩ | ⟨h2, rfl⟩
  · refine g_if_ne (pc' := 8) B 11 (by omega) dX12_longest_5 (by decide) rfl (fun _ => ?_) (fun q => absurd q (by decide))
    refine g_aload_n (pc' := 12) B 0 rfl rfl dX12_longest_11 rfl ?_
    refine g_iload_n (pc' := 13) B 1 rfl rfl dX12_longest_12 rfl ?_
    refine g_callVI (pc' := 16) (As := [.int (iI u)]) B (c_X12_roundOfSeams l K _ (D := D) (u := u) hM hF hR hO hH (by omega)) vt_X12_roundOfSeams tw_1271 rfl rfl ⟨by decide, by decide⟩ rfl (Nat.le_of_ble_eq_true rfl) ⟨Nat.zero_le _, Nat.zero_le _⟩ rfl dX12_longest_13 rfl (fun z13 τ13 h13 => ?_)
    obtain ⟨rfl, rfl⟩ := h13
    refine g_istore_n (pc' := 17) B [(2, .int (iI (rq D u (D 9 2).toNat))), (0, .ref (K.2.2 57)), (1, .int (iI u))] dX12_longest_16 rfl rfl (by decide) rfl ?_
    refine g_iconst (pc' := 18) B dX12_longest_17 rfl ?_
    refine g_istore_n (pc' := 19) B [(3, .int (iI 0)), (2, .int (iI (rq D u (D 9 2).toNat))), (0, .ref (K.2.2 57)), (1, .int (iI u))] dX12_longest_18 rfl rfl (by decide) rfl ?_
    refine g_iconst (pc' := 20) B dX12_longest_19 rfl ?_
    refine g_istore (pc' := 22) B [(4, .int (iI 0)), (3, .int (iI 0)), (2, .int (iI (rq D u (D 9 2).toNat))), (0, .ref (K.2.2 57)), (1, .int (iI u))] dX12_longest_20 rfl (by decide) rfl ?_
    refine g_iconst (pc' := 23) B dX12_longest_22 rfl ?_
    refine g_istore (pc' := 25) B [(5, .int (iI 0)), (4, .int (iI 0)), (3, .int (iI 0)), (2, .int (iI (rq D u (D 9 2).toNat))), (0, .ref (K.2.2 57)), (1, .int (iI u))] dX12_longest_23 rfl (by decide) rfl ?_
    have L25 : ∀ (nn : Nat) (m r k : Int) , (2 * rq D u (D 9 2).toNat - k).toNat = nn → (0 ≤ k ∧ k ≤ 2 * rq D u (D 9 2).toNat) → (lgI (fun k => aop D u k) k m r) → G pP l eE (rmo 2 48) sS mM [.ref (K.2.2 57), .int (iI u)].toArray bW mT cC 0 0 (MQ bW (Qi K (fun z τ => σ = τ ∧ aLongest D u z)) [.ref (K.2.2 57), .int (iI u)].toArray sS 0 0 (wA K)) K sS.heap 6 σ 25 [(5, .int (iI k)), (4, .int (iI r)), (3, .int (iI m)), (2, .int (iI (rq D u (D 9 2).toNat))), (0, .ref (K.2.2 57)), (1, .int (iI u))] [] := by
      intro nn
      induction nn using Nat.strongRecOn with
      | _ nn ih25 =>
        intro m r k hn25 i1 i2
        have i3 := i2.1
        refine g_iload (pc' := 27) B 0 rfl dX12_longest_25 rfl ?_
        refine g_iconst (pc' := 28) B dX12_longest_27 rfl ?_
        refine g_iload_n (pc' := 29) B 3 rfl rfl dX12_longest_28 rfl ?_
        refine g_imul (pc' := 30) B dX12_longest_29 rfl ?_
        refine g_icmp_ge (pc' := 33) B 72 (by omega) (by omega) dX12_longest_30 (by decide) rfl (fun c30 => ?_) (fun c30 => ?_)
        · have q9 := lg_end (n := rq D u (D 9 2).toNat) hO rfl hrl.1 (by rw [show 2 * rq D u (D 9 2).toNat = k by omega]; exact i2)
          refine g_iload_n (pc' := 73) B 2 rfl rfl dX12_longest_72 rfl ?_
          refine g_iconst (pc' := 74) B dX12_longest_73 rfl ?_
          refine g_iload_n (pc' := 75) B 3 rfl rfl dX12_longest_74 rfl ?_
          refine g_imul (pc' := 76) B dX12_longest_75 rfl ?_
          refine g_icmp_ne (pc' := 79) B 83 (by omega) (by omega) dX12_longest_76 (by decide) rfl (fun c76 => ?_) (fun c76 => ?_)
          · refine g_iload_n (pc' := 84) B 2 rfl rfl dX12_longest_83 rfl ?_
            exact g_iret (z := m) B hrt rfl hlk dX12_longest_84 ⟨rfl, Or.inr ⟨h2, by rw [if_neg c76] at q9; exact q9⟩⟩
          · refine g_iconst (pc' := 80) B dX12_longest_79 rfl ?_
            refine g_goto (pc' := 84) B dX12_longest_80 (by decide) ?_
            exact g_iret (z := (-1)) B hrt rfl hlk dX12_longest_84 ⟨rfl, Or.inr ⟨h2, by rw [if_pos c76] at q9; exact q9⟩⟩
        · refine g_aload_n (pc' := 34) B 4 rfl rfl dX12_longest_33 rfl ?_
          refine g_iload_n (pc' := 35) B 5 rfl rfl dX12_longest_34 rfl ?_
          refine g_iload (pc' := 37) B 0 rfl dX12_longest_35 rfl ?_
          refine g_callVI (pc' := 40) (As := [.int (iI u), .int (iI k)]) B (c_X12_areOpen l K _ (D := D) (u := u) (t := k) hM hF hR hO hH (by omega) (by omega)) vt_X12_areOpen tw_1275 rfl rfl ⟨by decide, by decide⟩ rfl (Nat.le_of_ble_eq_true rfl) ⟨Nat.zero_le _, Nat.zero_le _⟩ rfl dX12_longest_37 rfl (fun z37 τ37 h37 => ?_)
          obtain ⟨rfl, h37⟩ := h37
          rcases h37 with ⟨h37, rfl⟩ | ⟨h37, rfl⟩
          · refine g_if_eq (pc' := 43) B 50 (by omega) dX12_longest_40 (by decide) rfl (fun q => absurd q (by decide)) (fun _ => ?_)
            refine g_iload (pc' := 45) B 1 rfl dX12_longest_43 rfl ?_
            refine g_iconst (pc' := 46) B dX12_longest_45 rfl ?_
            refine g_iadd (pc' := 47) B dX12_longest_46 rfl ?_
            refine g_goto (pc' := 51) B dX12_longest_47 (by decide) ?_
            refine g_istore (pc' := 53) B [(4, .int (iI (r + 1))), (5, .int (iI k)), (3, .int (iI m)), (2, .int (iI (rq D u (D 9 2).toNat))), (0, .ref (K.2.2 57)), (1, .int (iI u))] dX12_longest_51 rfl (by decide) rfl ?_
            refine g_iload (pc' := 55) B 0 rfl dX12_longest_53 rfl ?_
            refine g_iload_n (pc' := 56) B 2 rfl rfl dX12_longest_55 rfl ?_
            refine g_icmp_le (pc' := 59) B 64 (by omega) (by omega) dX12_longest_56 (by decide) rfl (fun c56 => ?_) (fun c56 => ?_)
            · refine g_iload_n (pc' := 65) B 2 rfl rfl dX12_longest_64 rfl ?_
              refine g_istore_n (pc' := 66) B [(3, .int (iI m)), (4, .int (iI (r + 1))), (5, .int (iI k)), (2, .int (iI (rq D u (D 9 2).toNat))), (0, .ref (K.2.2 57)), (1, .int (iI u))] dX12_longest_65 rfl rfl (by decide) rfl ?_
              refine g_iinc (pc' := 69) B 2 [(5, .int (iI (k + 1))), (3, .int (iI m)), (4, .int (iI (r + 1))), (2, .int (iI (rq D u (D 9 2).toNat))), (0, .ref (K.2.2 57)), (1, .int (iI u))] dX12_longest_66 rfl rfl (by decide) rfl ?_
              refine g_goto (pc' := 25) B dX12_longest_69 (by decide) ?_
              refine g_loc B [(5, .int (iI (k + 1))), (4, .int (iI (r + 1))), (3, .int (iI m)), (2, .int (iI (rq D u (D 9 2).toNat))), (0, .ref (K.2.2 57)), (1, .int (iI u))] [0, 2, 1, 3, 4, 5] rfl ?_
              exact ih25 _ (by omega) m (r + 1) (k + 1) rfl (by omega) (by first | (exfalso; omega) | exact lgI_shut i2 h37 | (have q9 := lgI_open i2 h37; rw [Int.max_eq_left (by omega)] at q9; exact q9) | (have q9 := lgI_open i2 h37; rw [Int.max_eq_right (by omega)] at q9; exact q9))
            · refine g_iload (pc' := 61) B 0 rfl dX12_longest_59 rfl ?_
              refine g_goto (pc' := 65) B dX12_longest_61 (by decide) ?_
              refine g_istore_n (pc' := 66) B [(3, .int (iI (r + 1))), (4, .int (iI (r + 1))), (5, .int (iI k)), (2, .int (iI (rq D u (D 9 2).toNat))), (0, .ref (K.2.2 57)), (1, .int (iI u))] dX12_longest_65 rfl rfl (by decide) rfl ?_
              refine g_iinc (pc' := 69) B 2 [(5, .int (iI (k + 1))), (3, .int (iI (r + 1))), (4, .int (iI (r + 1))), (2, .int (iI (rq D u (D 9 2).toNat))), (0, .ref (K.2.2 57)), (1, .int (iI u))] dX12_longest_66 rfl rfl (by decide) rfl ?_
              refine g_goto (pc' := 25) B dX12_longest_69 (by decide) ?_
              refine g_loc B [(5, .int (iI (k + 1))), (4, .int (iI (r + 1))), (3, .int (iI (r + 1))), (2, .int (iI (rq D u (D 9 2).toNat))), (0, .ref (K.2.2 57)), (1, .int (iI u))] [0, 2, 1, 3, 4, 5] rfl ?_
              exact ih25 _ (by omega) (r + 1) (r + 1) (k + 1) rfl (by omega) (by first | (exfalso; omega) | exact lgI_shut i2 h37 | (have q9 := lgI_open i2 h37; rw [Int.max_eq_left (by omega)] at q9; exact q9) | (have q9 := lgI_open i2 h37; rw [Int.max_eq_right (by omega)] at q9; exact q9))
          · refine g_if_eq (pc' := 43) B 50 (by omega) dX12_longest_40 (by decide) rfl (fun _ => ?_) (fun q => absurd q (by decide))
            refine g_iconst (pc' := 51) B dX12_longest_50 rfl ?_
            refine g_istore (pc' := 53) B [(4, .int (iI 0)), (5, .int (iI k)), (3, .int (iI m)), (2, .int (iI (rq D u (D 9 2).toNat))), (0, .ref (K.2.2 57)), (1, .int (iI u))] dX12_longest_51 rfl (by decide) rfl ?_
            refine g_iload (pc' := 55) B 0 rfl dX12_longest_53 rfl ?_
            refine g_iload_n (pc' := 56) B 2 rfl rfl dX12_longest_55 rfl ?_
            refine g_icmp_le (pc' := 59) B 64 (by omega) (by omega) dX12_longest_56 (by decide) rfl (fun c56 => ?_) (fun c56 => ?_)
            · refine g_iload_n (pc' := 65) B 2 rfl rfl dX12_longest_64 rfl ?_
              refine g_istore_n (pc' := 66) B [(3, .int (iI m)), (4, .int (iI 0)), (5, .int (iI k)), (2, .int (iI (rq D u (D 9 2).toNat))), (0, .ref (K.2.2 57)), (1, .int (iI u))] dX12_longest_65 rfl rfl (by decide) rfl ?_
              refine g_iinc (pc' := 69) B 2 [(5, .int (iI (k + 1))), (3, .int (iI m)), (4, .int (iI 0)), (2, .int (iI (rq D u (D 9 2).toNat))), (0, .ref (K.2.2 57)), (1, .int (iI u))] dX12_longest_66 rfl rfl (by decide) rfl ?_
              refine g_goto (pc' := 25) B dX12_longest_69 (by decide) ?_
              refine g_loc B [(5, .int (iI (k + 1))), (4, .int (iI 0)), (3, .int (iI m)), (2, .int (iI (rq D u (D 9 2).toNat))), (0, .ref (K.2.2 57)), (1, .int (iI u))] [0, 2, 1, 3, 4, 5] rfl ?_
              exact ih25 _ (by omega) m 0 (k + 1) rfl (by omega) (by first | (exfalso; omega) | exact lgI_shut i2 h37 | (have q9 := lgI_open i2 h37; rw [Int.max_eq_left (by omega)] at q9; exact q9) | (have q9 := lgI_open i2 h37; rw [Int.max_eq_right (by omega)] at q9; exact q9))
            · refine g_iload (pc' := 61) B 0 rfl dX12_longest_59 rfl ?_
              refine g_goto (pc' := 65) B dX12_longest_61 (by decide) ?_
              refine g_istore_n (pc' := 66) B [(3, .int (iI 0)), (4, .int (iI 0)), (5, .int (iI k)), (2, .int (iI (rq D u (D 9 2).toNat))), (0, .ref (K.2.2 57)), (1, .int (iI u))] dX12_longest_65 rfl rfl (by decide) rfl ?_
              refine g_iinc (pc' := 69) B 2 [(5, .int (iI (k + 1))), (3, .int (iI 0)), (4, .int (iI 0)), (2, .int (iI (rq D u (D 9 2).toNat))), (0, .ref (K.2.2 57)), (1, .int (iI u))] dX12_longest_66 rfl rfl (by decide) rfl ?_
              refine g_goto (pc' := 25) B dX12_longest_69 (by decide) ?_
              refine g_loc B [(5, .int (iI (k + 1))), (4, .int (iI 0)), (3, .int (iI 0)), (2, .int (iI (rq D u (D 9 2).toNat))), (0, .ref (K.2.2 57)), (1, .int (iI u))] [0, 2, 1, 3, 4, 5] rfl ?_
              exact ih25 _ (by omega) 0 0 (k + 1) rfl (by omega) (by first | (exfalso; omega) | exact lgI_shut i2 h37 | (have q9 := lgI_open i2 h37; rw [Int.max_eq_left (by omega)] at q9; exact q9) | (have q9 := lgI_open i2 h37; rw [Int.max_eq_right (by omega)] at q9; exact q9))
    exact L25 _ 0 0 0 rfl (by omega) (by exact lgI_0 _)
  · refine g_if_ne (pc' := 8) B 11 (by omega) dX12_longest_5 (by decide) rfl (fun q => absurd q (by decide)) (fun _ => ?_)
    refine g_ldc (z := (-1000000001)) (pc' := 10) B tw_1133 (by decide +kernel) dX12_longest_8 rfl ?_
    exact g_iret (z := (-1000000001)) B hrt rfl hlk dX12_longest_10 ⟨rfl, Or.inl ⟨h2, rfl⟩⟩
