theorem mtD.keep {σ τ T : SG} (h : mtD σ T) (e1 : τ 57 21 = σ 57 21) (e2 : τ 64 = σ 64) : mtD τ T := by
  unfold mtD at *
  rw [e1, e2]; exact h
def dT (T : SG) : Int := if T 4 0 = 40 then 1 else 0
theorem mtD_push {σ τ T : SG} {S X L P : Int} (h : mtD σ T) (e1 : τ 57 21 = T 4 0 - dT T + 1) (e3 : ∀ j : Int, 0 ≤ j → j < 4 * (T 4 0 - dT T) → τ 64 j = σ 64 (j + 4 * dT T))
    (n0 : τ 64 (4 * (T 4 0 - dT T)) = S) (n1 : τ 64 (4 * (T 4 0 - dT T) + 1) = X) (n2 : τ 64 (4 * (T 4 0 - dT T) + 2) = L) (n3 : τ 64 (4 * (T 4 0 - dT T) + 3) = P) : mtD τ (tP T S X L P) := by
  obtain ⟨h1, h2, h3⟩ := h
  have hd : dT T = (if T 4 0 = 40 then 1 else 0) := rfl
  have hd2 : (T 4 0 = 40 ∧ dT T = 1) ∨ (T 4 0 ≠ 40 ∧ dT T = 0) := by rw [hd]; split <;> omega
  refine ⟨by rw [e1, tP_n]; omega, by rw [tP_n]; omega, fun j a b => ?_⟩
  rw [tP_n] at b
  by_cases q : j + dT T < T 4 0
  · rw [tP_old (by decide) (by rw [← hd]; exact q), tP_old (by decide) (by rw [← hd]; exact q), tP_old (by decide) (by rw [← hd]; exact q), tP_old (by decide) (by rw [← hd]; exact q), ← hd]
    obtain ⟨g0, g1, g2, g3⟩ := h3 (j + dT T) (by omega) q
    rw [e3 _ (by omega) (by omega), e3 _ (by omega) (by omega), e3 _ (by omega) (by omega), e3 _ (by omega) (by omega)]
    refine ⟨?_, ?_, ?_, ?_⟩
    · rw [← g0]; congr 1; omega
    · rw [← g1]; congr 1; omega
    · rw [← g2]; congr 1; omega
    · rw [← g3]; congr 1; omega
  · have e : j = T 4 0 - dT T := by omega
    have q' : ¬ j + (if T 4 0 = 40 then 1 else 0) < T 4 0 := by rw [← hd]; exact q
    rw [tP_new (by decide) q', tP_new (by decide) q', tP_new (by decide) q', tP_new (by decide) q', e]
    exact ⟨n0, n1, n2, n3⟩
noncomputable def tow (D : SG) (f t w : Int) : Int := cif (can D f t w) (bes f w) (-1)
theorem tow_pos {D : SG} {f t w : Int} (h : can D f t w) : tow D f t w = bes f w := cif_pos h
theorem tow_neg {D : SG} {f t w : Int} (h : ¬ can D f t w) : tow D f t w = -1 := cif_neg h
theorem tow_bd {D : SG} {f t w : Int} : -1 ≤ tow D f t w ∧ tow D f t w ≤ max (-1) (D 9 0) := by
  by_cases h : can D f t w
  · rw [tow_pos h]; have := h.2.1; omega
  · rw [tow_neg h]; omega
theorem tow_lt {D : SG} {f t w : Int} (h : tow D f t w < 0) : ¬ can D f t w := fun q => by
  rw [tow_pos q] at h; have := q.2.1; omega
theorem tow_ge {D : SG} {f t w : Int} (h : ¬ tow D f t w < 0) : can D f t w := by
  by_cases q : can D f t w
  · exact q
  · rw [tow_neg q] at h; omega
set_option maxRecDepth 100000 in
set_option maxHeartbeats 4000000 in
theorem c_X12_keep (l : Launch) (K : WK) (σ : SG) {i : Int} (hi : -2147483648 ≤ i ∧ i < 2147483648) : MI l yX12_keep cX12_keep 2 (some .int) 1 25 K σ [.ref (K.2.2 57), .int (iI i)] (fun z τ => ((¬ (0 ≤ i ∧ i ≤ 1) ∧ τ = σ ∧ z = -1000000001) ∨ ((0 ≤ i ∧ i ≤ 1) ∧ z = 1 ∧ (∀ k : Int, 0 ≤ k → k < 10 → τ 58 (10 * (1 + i) + k) = σ 58 k) ∧ (∀ j : Int, (j < 10 * (1 + i) ∨ 10 * (1 + i) + 10 ≤ j) → τ 58 j = σ 58 j) ∧ τ 59 i = 1 ∧ (∀ j : Int, j ≠ i → τ 59 j = σ 59 j) ∧ τ 57 21 = 0 ∧ (∀ j : Int, j ≠ 21 → τ 57 j = σ 57 j) ∧ ∀ k, k ≠ 57 → k ≠ 58 → k ≠ 59 → τ k = σ k))) := by
  refine met_of [(0, .ref (K.2.2 57)), (1, .int (iI i))] (by decide +kernel) (Nat.le_of_ble_eq_true rfl) rfl ?_
  intro pP eE sS mM bW mT cC B hrt hlk
  replace B : CB pP sS mM [.ref (K.2.2 57), .int (iI i)].toArray cC cX12_keep RX12 2 K := B
  refine g_iload_n (pc' := 1) B 1 rfl rfl dX12_keep_0 rfl ?_
  refine g_i2l (pc' := 2) B (by omega) dX12_keep_1 rfl ?_
  refine g_lconst (z := 0) (pc' := 3) B (by decide +kernel) dX12_keep_2 rfl ?_
  refine g_lconst (z := 1) (pc' := 4) B (by decide +kernel) dX12_keep_3 rfl ?_
  refine g_callSI (pc' := 7) (As := [.long (lI i), .long (lI 0), .long (lI 1)]) B (c_X12_in l K _ (v := i) (a := 0) (b := 1) (by omega) (by omega) (by omega)) st_X12_in tw_1041 ⟨by decide, by decide⟩ rfl (Nat.le_of_ble_eq_true rfl) ⟨Nat.zero_le _, Nat.zero_le _⟩ rfl dX12_keep_4 rfl (fun z4 τ4 h4 => ?_)
  obtain ⟨rfl, h4⟩ := h4
  rcases h4 with ⟨h4, rfl⟩ | ⟨h4, rfl⟩
  · refine g_if_ne (pc' := 10) B 13 (by omega) dX12_keep_7 (by decide) rfl (fun _ => ?_) (fun q => absurd q (by decide))
    refine g_aload_n (pc' := 14) B 0 rfl rfl dX12_keep_13 rfl ?_
    refine g_iconst (pc' := 15) B dX12_keep_14 rfl ?_
    refine g_bipush (pc' := 17) B (by decide +kernel) dX12_keep_15 rfl ?_
    refine g_iconst (pc' := 18) B dX12_keep_17 rfl ?_
    refine g_iload_n (pc' := 19) B 1 rfl rfl dX12_keep_18 rfl ?_
    refine g_iadd (pc' := 20) B dX12_keep_19 rfl ?_
    refine g_imul (pc' := 21) B dX12_keep_20 rfl ?_
    refine g_callVV (pc' := 24) (As := [.int (iI 0), .int (iI (10 * (1 + i)))]) B (c_X12_copy l K _ (x := 0) (y := 10 * (1 + i)) (by omega)) vt_X12_copy tw_1359 rfl rfl ⟨by decide, by decide⟩ rfl (Nat.le_of_ble_eq_true rfl) ⟨Nat.zero_le _, Nat.zero_le _⟩ rfl dX12_keep_21 rfl (fun τ21 h21 => ?_)
    obtain ⟨h21a, h21b, h21c⟩ := h21
    refine g_aload_n (pc' := 25) B 0 rfl rfl dX12_keep_24 rfl ?_
    refine g_getR (pc' := 28) B 59 fl_X12_13 rfl rfl dX12_keep_25 rfl ?_
    refine g_iload_n (pc' := 29) B 1 rfl rfl dX12_keep_28 rfl ?_
    refine g_iconst (pc' := 30) B dX12_keep_29 rfl ?_
    refine g_zast (pc' := 31) B (by omega) rfl (by omega) (by decide) dX12_keep_30 rfl ?_
    refine g_aload_n (pc' := 32) B 0 rfl rfl dX12_keep_31 rfl ?_
    refine g_iconst (pc' := 33) B dX12_keep_32 rfl ?_
    refine g_put (pc' := 36) B 21 rfl fp_X12_149 rfl rfl dX12_keep_33 rfl ?_
    refine g_iconst (pc' := 37) B dX12_keep_36 rfl ?_
    exact g_iret (z := 1) B hrt rfl hlk dX12_keep_37 (Or.inr ⟨h4, rfl, fun k a b => by rw [up_row (by decide), up_row (by decide), h21a k a b]; congr 1; omega, fun j a => by rw [up_row (by decide), up_row (by decide)]; exact h21b j a, by rw [up_row (by decide), up_same], fun j a => by rw [up_row (by decide), up_col a, h21c 59 (by decide)], up_same _ _ _ _, fun j a => by rw [up_col a, up_row (by decide), h21c 57 (by decide)], fun k a b c => by rw [up_row a, up_row c]; exact h21c k b⟩)
  · refine g_if_ne (pc' := 10) B 13 (by omega) dX12_keep_7 (by decide) rfl (fun q => absurd q (by decide)) (fun _ => ?_)
    refine g_ldc (z := (-1000000001)) (pc' := 12) B tw_1133 (by decide +kernel) dX12_keep_10 rfl ?_
    exact g_iret (z := (-1000000001)) B hrt rfl hlk dX12_keep_12 (Or.inl ⟨h4, rfl, rfl⟩)
set_option maxRecDepth 100000 in
set_option maxHeartbeats 4000000 in
theorem c_X12_goBack (l : Launch) (K : WK) (σ : SG) (hk : ∀ i : Int, 0 ≤ i → i ≤ 1 → σ 59 i = 0 ∨ σ 59 i = 1) {i : Int} (hi : -2147483648 ≤ i ∧ i < 2147483648) : MI l yX12_goBack cX12_goBack 2 (some .int) 1 25 K σ [.ref (K.2.2 57), .int (iI i)] (fun z τ => ((¬ (0 ≤ i ∧ i ≤ 1) ∧ τ = σ ∧ z = -1000000001) ∨ ((0 ≤ i ∧ i ≤ 1) ∧ ((σ 59 i = 0 ∧ τ = σ ∧ z = -1000000003) ∨ (σ 59 i ≠ 0 ∧ z = 1 ∧ (∀ k : Int, 0 ≤ k → k < 10 → τ 58 k = σ 58 (10 * (1 + i) + k)) ∧ (∀ j : Int, (j < 0 ∨ 10 ≤ j) → τ 58 j = σ 58 j) ∧ τ 57 21 = 0 ∧ (∀ j : Int, j ≠ 21 → τ 57 j = σ 57 j) ∧ ∀ k, k ≠ 57 → k ≠ 58 → τ k = σ k))))) := by
  refine met_of [(0, .ref (K.2.2 57)), (1, .int (iI i))] (by decide +kernel) (Nat.le_of_ble_eq_true rfl) rfl ?_
  intro pP eE sS mM bW mT cC B hrt hlk
  replace B : CB pP sS mM [.ref (K.2.2 57), .int (iI i)].toArray cC cX12_goBack RX12 2 K := B
  refine g_iload_n (pc' := 1) B 1 rfl rfl dX12_goBack_0 rfl ?_
  refine g_i2l (pc' := 2) B (by omega) dX12_goBack_1 rfl ?_
  refine g_lconst (z := 0) (pc' := 3) B (by decide +kernel) dX12_goBack_2 rfl ?_
  refine g_lconst (z := 1) (pc' := 4) B (by decide +kernel) dX12_goBack_3 rfl ?_
  refine g_callSI (pc' := 7) (As := [.long (lI i), .long (lI 0), .long (lI 1)]) B (c_X12_in l K _ (v := i) (a := 0) (b := 1) (by omega) (by omega) (by omega)) st_X12_in tw_1041 ⟨by decide, by decide⟩ rfl (Nat.le_of_ble_eq_true rfl) ⟨Nat.zero_le _, Nat.zero_le _⟩ rfl dX12_goBack_4 rfl (fun z4 τ4 h4 => ?_)
  obtain ⟨rfl, h4⟩ := h4
  rcases h4 with ⟨h4, rfl⟩ | ⟨h4, rfl⟩
  · refine g_if_ne (pc' := 10) B 13 (by omega) dX12_goBack_7 (by decide) rfl (fun _ => ?_) (fun q => absurd q (by decide))
    refine g_aload_n (pc' := 14) B 0 rfl rfl dX12_goBack_13 rfl ?_
    refine g_getR (pc' := 17) B 59 fl_X12_13 rfl rfl dX12_goBack_14 rfl ?_
    refine g_iload_n (pc' := 18) B 1 rfl rfl dX12_goBack_17 rfl ?_
    refine g_zald (pc' := 19) B (σ 59 i) rfl rfl (by omega) (by decide) dX12_goBack_18 rfl ?_
    have hk9 := hk i h4.1 h4.2
    refine g_if_ne (pc' := 22) B 25 (by omega) dX12_goBack_19 (by decide) rfl (fun c19 => ?_) (fun c19 => ?_)
    · refine g_aload_n (pc' := 26) B 0 rfl rfl dX12_goBack_25 rfl ?_
      refine g_bipush (pc' := 28) B (by decide +kernel) dX12_goBack_26 rfl ?_
      refine g_iconst (pc' := 29) B dX12_goBack_28 rfl ?_
      refine g_iload_n (pc' := 30) B 1 rfl rfl dX12_goBack_29 rfl ?_
      refine g_iadd (pc' := 31) B dX12_goBack_30 rfl ?_
      refine g_imul (pc' := 32) B dX12_goBack_31 rfl ?_
      refine g_iconst (pc' := 33) B dX12_goBack_32 rfl ?_
      refine g_callVV (pc' := 36) (As := [.int (iI (10 * (1 + i))), .int (iI 0)]) B (c_X12_copy l K _ (x := 10 * (1 + i)) (y := 0) (by omega)) vt_X12_copy tw_1359 rfl rfl ⟨by decide, by decide⟩ rfl (Nat.le_of_ble_eq_true rfl) ⟨Nat.zero_le _, Nat.zero_le _⟩ rfl dX12_goBack_33 rfl (fun τ33 h33 => ?_)
      obtain ⟨h33a, h33b, h33c⟩ := h33
      refine g_aload_n (pc' := 37) B 0 rfl rfl dX12_goBack_36 rfl ?_
      refine g_iconst (pc' := 38) B dX12_goBack_37 rfl ?_
      refine g_put (pc' := 41) B 21 rfl fp_X12_149 rfl rfl dX12_goBack_38 rfl ?_
      refine g_iconst (pc' := 42) B dX12_goBack_41 rfl ?_
      exact g_iret (z := 1) B hrt rfl hlk dX12_goBack_42 (Or.inr ⟨h4, Or.inr ⟨by omega, rfl, fun k a b => by rw [up_row (by decide), ← h33a k a b]; congr 1; omega, fun j a => by rw [up_row (by decide)]; exact h33b j (by omega), up_same _ _ _ _, fun j a => by rw [up_col a, h33c 57 (by decide)], fun k a b => by rw [up_row a]; exact h33c k b⟩⟩)
    · refine g_ldc (z := (-1000000003)) (pc' := 24) B tw_1179 (by decide +kernel) dX12_goBack_22 rfl ?_
      exact g_iret (z := (-1000000003)) B hrt rfl hlk dX12_goBack_24 (Or.inr ⟨h4, Or.inl ⟨by omega, rfl, rfl⟩⟩)
  · refine g_if_ne (pc' := 10) B 13 (by omega) dX12_goBack_7 (by decide) rfl (fun q => absurd q (by decide)) (fun _ => ?_)
    refine g_ldc (z := (-1000000001)) (pc' := 12) B tw_1133 (by decide +kernel) dX12_goBack_10 rfl ?_
    exact g_iret (z := (-1000000001)) B hrt rfl hlk dX12_goBack_12 (Or.inl ⟨h4, rfl, rfl⟩)
set_option maxRecDepth 100000 in
set_option maxHeartbeats 4000000 in
theorem c_X12_undo (l : Launch) (K : WK) (σ : SG) {T : SG} (hT : mtD σ T) {n : Int} (hn : -2147483648 ≤ n ∧ n < 2147483648) : MI l yX12_undo cX12_undo 3 (some .int) 1 25 K σ [.ref (K.2.2 57), .int (iI n)] (fun z τ => (((n < 1 ∨ 40 < n) ∧ τ = σ ∧ z = -1000000002) ∨ (¬ (n < 1 ∨ 40 < n) ∧ T 4 0 < n ∧ τ = σ ∧ z = -1000000003) ∨ (¬ (n < 1 ∨ 40 < n) ∧ n ≤ T 4 0 ∧ mtD τ (up T 4 0 (T 4 0 - n)) ∧ (τ 58 0 = T 0 (T 4 0 - n) ∧ τ 58 1 = T 1 (T 4 0 - n) ∧ τ 58 2 = T 2 (T 4 0 - n) ∧ τ 58 3 = T 3 (T 4 0 - n)) ∧ (∀ j : Int, 4 ≤ j → τ 58 j = σ 58 j) ∧ (∀ j : Int, j ≠ 21 → τ 57 j = σ 57 j) ∧ (∀ k, k ≠ 57 → k ≠ 58 → τ k = σ k) ∧ z = T 0 (T 4 0 - n)))) := by
  refine met_of [(0, .ref (K.2.2 57)), (1, .int (iI n))] (by decide +kernel) (Nat.le_of_ble_eq_true rfl) rfl ?_
  intro pP eE sS mM bW mT cC B hrt hlk
  replace B : CB pP sS mM [.ref (K.2.2 57), .int (iI n)].toArray cC cX12_undo RX12 3 K := B
  obtain ⟨hT1, hT2, hT3⟩ := id hT
  refine g_iload_n (pc' := 1) B 1 rfl rfl dX12_undo_0 rfl ?_
  refine g_i2l (pc' := 2) B (by omega) dX12_undo_1 rfl ?_
  refine g_lconst (z := 1) (pc' := 3) B (by decide +kernel) dX12_undo_2 rfl ?_
  refine g_ldc2 (z := 40) (pc' := 6) B tw_1209 (by decide +kernel) dX12_undo_3 rfl ?_
  refine g_callSI (pc' := 9) (As := [.long (lI n), .long (lI 1), .long (lI 40)]) B (c_X12_in l K _ (v := n) (a := 1) (b := 40) (by omega) (by omega) (by omega)) st_X12_in tw_1041 ⟨by decide, by decide⟩ rfl (Nat.le_of_ble_eq_true rfl) ⟨Nat.zero_le _, Nat.zero_le _⟩ rfl dX12_undo_6 rfl (fun z6 τ6 h6 => ?_)
  obtain ⟨rfl, h6⟩ := h6
  rcases h6 with ⟨h6, rfl⟩ | ⟨h6, rfl⟩
  · refine g_if_ne (pc' := 12) B 15 (by omega) dX12_undo_9 (by decide) rfl (fun _ => ?_) (fun q => absurd q (by decide))
    refine g_iload_n (pc' := 16) B 1 rfl rfl dX12_undo_15 rfl ?_
    refine g_aload_n (pc' := 17) B 0 rfl rfl dX12_undo_16 rfl ?_
    refine g_get (pc' := 20) B (T 4 0) hT.1 fl_X12_149 rfl rfl dX12_undo_17 rfl ?_
    refine g_icmp_le (pc' := 23) B 26 (by omega) (by omega) dX12_undo_20 (by decide) rfl (fun c20 => ?_) (fun c20 => ?_)
    · refine g_aload_n (pc' := 27) B 0 rfl rfl dX12_undo_26 rfl ?_
      refine g_dup (pc' := 28) B rfl dX12_undo_27 rfl ?_
      refine g_get (pc' := 31) B (T 4 0) hT.1 fl_X12_149 rfl rfl dX12_undo_28 rfl ?_
      refine g_iload_n (pc' := 32) B 1 rfl rfl dX12_undo_31 rfl ?_
      refine g_isub (pc' := 33) B dX12_undo_32 rfl ?_
      refine g_put (pc' := 36) B 21 rfl fp_X12_149 rfl rfl dX12_undo_33 rfl ?_
      refine g_iconst (pc' := 37) B dX12_undo_36 rfl ?_
      refine g_istore_n (pc' := 38) B [(2, .int (iI 0)), (0, .ref (K.2.2 57)), (1, .int (iI n))] dX12_undo_37 rfl rfl (by decide) rfl ?_
      have L38 : ∀ (nn : Nat) (ρ : SG) (k : Int) , (4 - k).toNat = nn → (0 ≤ k ∧ k ≤ 4) → (ρ 57 21 = T 4 0 - n) → (∀ j : Int, 0 ≤ j → j < k → ρ 58 j = σ 64 (4 * (T 4 0 - n) + j)) → (∀ j : Int, k ≤ j → ρ 58 j = σ 58 j) → (∀ k, k ≠ 57 → k ≠ 58 → ρ k = σ k) → (∀ j : Int, j ≠ 21 → ρ 57 j = σ 57 j) → G pP l eE (rmo 1 25) sS mM [.ref (K.2.2 57), .int (iI n)].toArray bW mT cC 0 0 (MQ bW (Qi K (fun z τ => (((n < 1 ∨ 40 < n) ∧ τ = σ ∧ z = -1000000002) ∨ (¬ (n < 1 ∨ 40 < n) ∧ T 4 0 < n ∧ τ = σ ∧ z = -1000000003) ∨ (¬ (n < 1 ∨ 40 < n) ∧ n ≤ T 4 0 ∧ mtD τ (up T 4 0 (T 4 0 - n)) ∧ (τ 58 0 = T 0 (T 4 0 - n) ∧ τ 58 1 = T 1 (T 4 0 - n) ∧ τ 58 2 = T 2 (T 4 0 - n) ∧ τ 58 3 = T 3 (T 4 0 - n)) ∧ (∀ j : Int, 4 ≤ j → τ 58 j = σ 58 j) ∧ (∀ j : Int, j ≠ 21 → τ 57 j = σ 57 j) ∧ (∀ k, k ≠ 57 → k ≠ 58 → τ k = σ k) ∧ z = T 0 (T 4 0 - n))))) [.ref (K.2.2 57), .int (iI n)].toArray sS 0 0 (wA K)) K sS.heap 3 ρ 38 [(2, .int (iI k)), (0, .ref (K.2.2 57)), (1, .int (iI n))] [] := by
        intro nn
        induction nn using Nat.strongRecOn with
        | _ nn ih38 =>
          intro ρ k hn38 i1 i2 i3 i4 i5 i7
          refine g_iload_n (pc' := 39) B 0 rfl rfl dX12_undo_38 rfl ?_
          refine g_iconst (pc' := 40) B dX12_undo_39 rfl ?_
          refine g_icmp_ge (pc' := 43) B 68 (by omega) (by omega) dX12_undo_40 (by decide) rfl (fun c40 => ?_) (fun c40 => ?_)
          · have i6 : ρ 58 0 = T 0 (T 4 0 - n) ∧ ρ 58 1 = T 1 (T 4 0 - n) ∧ ρ 58 2 = T 2 (T 4 0 - n) ∧ ρ 58 3 = T 3 (T 4 0 - n) := by rw [i3 0 (by omega) (by omega), i3 1 (by omega) (by omega), i3 2 (by omega) (by omega), i3 3 (by omega) (by omega), Int.add_zero]; exact hT3 (T 4 0 - n) (by omega) (by omega)
            refine g_aload_n (pc' := 69) B 1 rfl rfl dX12_undo_68 rfl ?_
            refine g_getR (pc' := 72) B 58 fl_X12_7 rfl rfl dX12_undo_69 rfl ?_
            refine g_iconst (pc' := 73) B dX12_undo_72 rfl ?_
            refine g_iald (pc' := 74) B (T 0 (T 4 0 - n)) i6.1 rfl (by omega) (by decide) dX12_undo_73 rfl ?_
            exact g_iret (z := T 0 (T 4 0 - n)) B hrt rfl hlk dX12_undo_74 (Or.inr (Or.inr ⟨by omega, by omega, ⟨by rw [up_same]; exact i2, by rw [up_same]; omega, fun j a b => by rw [up_same] at b; rw [i5 64 (by decide) (by decide), up_row (by decide), up_row (by decide), up_row (by decide), up_row (by decide)]; exact hT3 j a (by omega)⟩, i6, fun j a => i4 j (by omega), i7, i5, rfl⟩))
          · refine g_aload_n (pc' := 44) B 1 rfl rfl dX12_undo_43 rfl ?_
            refine g_getR (pc' := 47) B 58 fl_X12_7 rfl rfl dX12_undo_44 rfl ?_
            refine g_iload_n (pc' := 48) B 0 rfl rfl dX12_undo_47 rfl ?_
            refine g_aload_n (pc' := 49) B 1 rfl rfl dX12_undo_48 rfl ?_
            refine g_getR (pc' := 52) B 64 fl_X12_36 rfl rfl dX12_undo_49 rfl ?_
            refine g_iconst (pc' := 53) B dX12_undo_52 rfl ?_
            refine g_aload_n (pc' := 54) B 1 rfl rfl dX12_undo_53 rfl ?_
            refine g_get (pc' := 57) B (T 4 0 - n) i2 fl_X12_149 rfl rfl dX12_undo_54 rfl ?_
            refine g_imul (pc' := 58) B dX12_undo_57 rfl ?_
            refine g_iload_n (pc' := 59) B 0 rfl rfl dX12_undo_58 rfl ?_
            refine g_iadd (pc' := 60) B dX12_undo_59 rfl ?_
            refine g_iald (pc' := 61) B (ρ 64 ((4 * (T 4 0 - n)) + k)) rfl rfl (by omega) (by decide) dX12_undo_60 rfl ?_
            refine g_iast (pc' := 62) B rfl (by omega) (by decide) dX12_undo_61 rfl ?_
            refine g_iinc (pc' := 65) B 0 [(2, .int (iI (k + 1))), (0, .ref (K.2.2 57)), (1, .int (iI n))] dX12_undo_62 rfl rfl (by decide) rfl ?_
            refine g_goto (pc' := 38) B dX12_undo_65 (by decide) ?_
            exact ih38 _ (by omega) (up ρ 58 k (ρ 64 ((4 * (T 4 0 - n)) + k))) (k + 1) rfl (by omega) (by rw [up_row (by decide)]; exact i2) (by intro j a b; by_cases e9 : j = k; (subst e9; rw [up_same, i5 64 (by decide) (by decide)]); (rw [up_col e9]; exact i3 j a (by omega))) (by intro j a; rw [up_col (by omega)]; exact i4 j (by omega)) (by intro k a b; rw [up_row b]; exact i5 k a b) (by intro j a; rw [up_row (by decide)]; exact i7 j a)
      exact L38 _ (up σ 57 21 ((T 4 0) - n)) 0 rfl (by omega) (by exact up_same _ _ _ _) (by intro j a b; omega) (by intro j a; rw [up_row (by decide)]) (by intro k a b; exact up_row a) (by intro j a; exact up_col a)
    · refine g_ldc (z := (-1000000003)) (pc' := 25) B tw_1179 (by decide +kernel) dX12_undo_23 rfl ?_
      exact g_iret (z := (-1000000003)) B hrt rfl hlk dX12_undo_25 (Or.inr (Or.inl ⟨by omega, by omega, rfl, rfl⟩))
  · refine g_if_ne (pc' := 12) B 15 (by omega) dX12_undo_9 (by decide) rfl (fun q => absurd q (by decide)) (fun _ => ?_)
    refine g_ldc (z := (-1000000002)) (pc' := 14) B tw_1044 (by decide +kernel) dX12_undo_12 rfl ?_
    exact g_iret (z := (-1000000002)) B hrt rfl hlk dX12_undo_14 (Or.inl ⟨by omega, rfl, rfl⟩)
set_option maxRecDepth 100000 in
set_option maxHeartbeats 4000000 in
theorem c_X12_remember (l : Launch) (K : WK) (σ : SG) {T : SG} (hT : mtD σ T) {S X L P : Int} (hn0 : σ 58 0 = S ∧ σ 58 1 = X ∧ σ 58 2 = L ∧ σ 58 3 = P) : MV l yX12_remember cX12_remember 2 none 0 0 K σ [.ref (K.2.2 57)] (fun τ => mtD τ (tP T S X L P) ∧ (∀ j : Int, j ≠ 21 → τ 57 j = σ 57 j) ∧ ∀ k, k ≠ 57 → k ≠ 64 → τ k = σ k) := by
  refine met_of [(0, .ref (K.2.2 57))] (by decide +kernel) (Nat.le_of_ble_eq_true rfl) rfl ?_
  intro pP eE sS mM bW mT cC B hrt hlk
  replace B : CB pP sS mM [.ref (K.2.2 57)].toArray cC cX12_remember RX12 2 K := B
  obtain ⟨hT1, hT2, hT3⟩ := id hT
  have hd : dT T = (if T 4 0 = 40 then 1 else 0) := rfl
  refine g_aload_n (pc' := 1) B 0 rfl rfl dX12_remember_0 rfl ?_
  refine g_get (pc' := 4) B (T 4 0) hT.1 fl_X12_149 rfl rfl dX12_remember_1 rfl ?_
  refine g_bipush (pc' := 6) B (by decide +kernel) dX12_remember_4 rfl ?_
  refine g_icmp_ne (pc' := 9) B 48 (by omega) (by omega) dX12_remember_6 (by decide) rfl (fun c6 => ?_) (fun c6 => ?_)
  · rw [if_neg c6] at hd
    refine g_iconst (pc' := 49) B dX12_remember_48 rfl ?_
    refine g_istore_n (pc' := 50) B [(1, .int (iI 0)), (0, .ref (K.2.2 57))] dX12_remember_49 rfl rfl (by decide) rfl ?_
    have L50 : ∀ (nn : Nat) (ω : SG) (k : Int) , (4 - k).toNat = nn → (0 ≤ k ∧ k ≤ 4) → (ω 57 21 = T 4 0 - dT T) → (∀ j : Int, 0 ≤ j → j < 4 * (T 4 0 - dT T) → ω 64 j = σ 64 (j + 4 * dT T)) → (∀ j : Int, 0 ≤ j → j < k → ω 64 (4 * (T 4 0 - dT T) + j) = σ 58 j) → (∀ j : Int, j ≠ 21 → ω 57 j = σ 57 j) → (∀ k, k ≠ 57 → k ≠ 64 → ω k = σ k) → G pP l eE (rmo 0 0) sS mM [.ref (K.2.2 57)].toArray bW mT cC 0 0 (MQ bW (Qv K (fun τ => mtD τ (tP T S X L P) ∧ (∀ j : Int, j ≠ 21 → τ 57 j = σ 57 j) ∧ ∀ k, k ≠ 57 → k ≠ 64 → τ k = σ k)) [.ref (K.2.2 57)].toArray sS 0 0 (wA K)) K sS.heap 2 ω 50 [(1, .int (iI k)), (0, .ref (K.2.2 57))] [] := by
      intro nn
      induction nn using Nat.strongRecOn with
      | _ nn ih50 =>
        intro ω k hn50 j1 j2 j3 j4 j5 j6
        refine g_iload_n (pc' := 51) B 0 rfl rfl dX12_remember_50 rfl ?_
        refine g_iconst (pc' := 52) B dX12_remember_51 rfl ?_
        refine g_icmp_ge (pc' := 55) B 80 (by omega) (by omega) dX12_remember_52 (by decide) rfl (fun c52 => ?_) (fun c52 => ?_)
        · refine g_aload_n (pc' := 81) B 1 rfl rfl dX12_remember_80 rfl ?_
          refine g_dup (pc' := 82) B rfl dX12_remember_81 rfl ?_
          refine g_get (pc' := 85) B (T 4 0 - dT T) j2 fl_X12_149 rfl rfl dX12_remember_82 rfl ?_
          refine g_iconst (pc' := 86) B dX12_remember_85 rfl ?_
          refine g_iadd (pc' := 87) B dX12_remember_86 rfl ?_
          refine g_put (pc' := 90) B 21 rfl fp_X12_149 rfl rfl dX12_remember_87 rfl ?_
          exact g_vret B hrt hlk dX12_remember_90 ⟨mtD_push hT (by rw [up_same]) (fun j a b => by rw [up_row (by decide)]; exact j3 j a b) (by rw [up_row (by decide)]; have q9 := j4 0 (by omega) (by omega); rw [Int.add_zero] at q9; rw [q9]; exact hn0.1) (by rw [up_row (by decide), j4 1 (by omega) (by omega)]; exact hn0.2.1) (by rw [up_row (by decide), j4 2 (by omega) (by omega)]; exact hn0.2.2.1) (by rw [up_row (by decide), j4 3 (by omega) (by omega)]; exact hn0.2.2.2), fun j a => by rw [up_col a]; exact j5 j a, fun k a b => by rw [up_row a]; exact j6 k a b⟩
        · refine g_aload_n (pc' := 56) B 1 rfl rfl dX12_remember_55 rfl ?_
          refine g_getR (pc' := 59) B 64 fl_X12_36 rfl rfl dX12_remember_56 rfl ?_
          refine g_iconst (pc' := 60) B dX12_remember_59 rfl ?_
          refine g_aload_n (pc' := 61) B 1 rfl rfl dX12_remember_60 rfl ?_
          refine g_get (pc' := 64) B (T 4 0 - dT T) j2 fl_X12_149 rfl rfl dX12_remember_61 rfl ?_
          refine g_imul (pc' := 65) B dX12_remember_64 rfl ?_
          refine g_iload_n (pc' := 66) B 0 rfl rfl dX12_remember_65 rfl ?_
          refine g_iadd (pc' := 67) B dX12_remember_66 rfl ?_
          refine g_aload_n (pc' := 68) B 1 rfl rfl dX12_remember_67 rfl ?_
          refine g_getR (pc' := 71) B 58 fl_X12_7 rfl rfl dX12_remember_68 rfl ?_
          refine g_iload_n (pc' := 72) B 0 rfl rfl dX12_remember_71 rfl ?_
          refine g_iald (pc' := 73) B (ω 58 k) rfl rfl (by omega) (by decide) dX12_remember_72 rfl ?_
          refine g_iast (pc' := 74) B rfl (by omega) (by decide) dX12_remember_73 rfl ?_
          refine g_iinc (pc' := 77) B 0 [(1, .int (iI (k + 1))), (0, .ref (K.2.2 57))] dX12_remember_74 rfl rfl (by decide) rfl ?_
          refine g_goto (pc' := 50) B dX12_remember_77 (by decide) ?_
          exact ih50 _ (by omega) (up ω 64 ((4 * (T 4 0 - dT T)) + k) (ω 58 k)) (k + 1) rfl (by omega) (by rw [up_row (by decide)]; exact j2) (by intro j a b; rw [up_col (by omega)]; exact j3 j a b) (by intro j a b; by_cases e9 : j = k; (subst e9; rw [up_same, j6 58 (by decide) (by decide)]); (rw [up_col (by omega)]; exact j4 j a (by omega))) (by intro j a; rw [up_row (by decide)]; exact j5 j a) (by intro k a b; rw [up_row b]; exact j6 k a b)
    exact L50 _ σ 0 rfl (by omega) (by first | (rw [up_same]; omega) | omega) (by intro j a b; rw [hd]; first | (rw [up_row (by decide), i2 j a (by omega)]; congr 1) | (congr 1; omega)) (by intro j a b; omega) (by intro j a; first | (rw [up_col a, i5 57 (by decide)]) | rfl) (by intro k a b; first | (rw [up_row a]; exact i5 k b) | rfl)
  · rw [if_pos c6] at hd
    refine g_iconst (pc' := 10) B dX12_remember_9 rfl ?_
    refine g_istore_n (pc' := 11) B [(1, .int (iI 4)), (0, .ref (K.2.2 57))] dX12_remember_10 rfl rfl (by decide) rfl ?_
    have L11 : ∀ (nn : Nat) (ρ : SG) (k : Int) , (160 - k).toNat = nn → (4 ≤ k ∧ k ≤ 160) → (∀ j : Int, 0 ≤ j → j < k - 4 → ρ 64 j = σ 64 (j + 4)) → (∀ j : Int, k - 4 ≤ j → ρ 64 j = σ 64 j) → (ρ 57 21 = T 4 0) → (∀ k, k ≠ 64 → ρ k = σ k) → G pP l eE (rmo 0 0) sS mM [.ref (K.2.2 57)].toArray bW mT cC 0 0 (MQ bW (Qv K (fun τ => mtD τ (tP T S X L P) ∧ (∀ j : Int, j ≠ 21 → τ 57 j = σ 57 j) ∧ ∀ k, k ≠ 57 → k ≠ 64 → τ k = σ k)) [.ref (K.2.2 57)].toArray sS 0 0 (wA K)) K sS.heap 2 ρ 11 [(1, .int (iI k)), (0, .ref (K.2.2 57))] [] := by
      intro nn
      induction nn using Nat.strongRecOn with
      | _ nn ih11 =>
        intro ρ k hn11 i1 i2 i3 i4 i5
        refine g_iload_n (pc' := 12) B 0 rfl rfl dX12_remember_11 rfl ?_
        refine g_sipush (pc' := 15) B (by decide +kernel) dX12_remember_12 rfl ?_
        refine g_icmp_ge (pc' := 18) B 38 (by omega) (by omega) dX12_remember_15 (by decide) rfl (fun c15 => ?_) (fun c15 => ?_)
        · refine g_aload_n (pc' := 39) B 1 rfl rfl dX12_remember_38 rfl ?_
          refine g_dup (pc' := 40) B rfl dX12_remember_39 rfl ?_
          refine g_get (pc' := 43) B (T 4 0) i4 fl_X12_149 rfl rfl dX12_remember_40 rfl ?_
          refine g_iconst (pc' := 44) B dX12_remember_43 rfl ?_
          refine g_isub (pc' := 45) B dX12_remember_44 rfl ?_
          refine g_put (pc' := 48) B 21 rfl fp_X12_149 rfl rfl dX12_remember_45 rfl ?_
          refine g_iconst (pc' := 49) B dX12_remember_48 rfl ?_
          refine g_istore_n (pc' := 50) B [(1, .int (iI 0)), (0, .ref (K.2.2 57))] dX12_remember_49 rfl rfl (by decide) rfl ?_
          have L50 : ∀ (nn : Nat) (ω : SG) (k : Int) , (4 - k).toNat = nn → (0 ≤ k ∧ k ≤ 4) → (ω 57 21 = T 4 0 - dT T) → (∀ j : Int, 0 ≤ j → j < 4 * (T 4 0 - dT T) → ω 64 j = σ 64 (j + 4 * dT T)) → (∀ j : Int, 0 ≤ j → j < k → ω 64 (4 * (T 4 0 - dT T) + j) = σ 58 j) → (∀ j : Int, j ≠ 21 → ω 57 j = σ 57 j) → (∀ k, k ≠ 57 → k ≠ 64 → ω k = σ k) → G pP l eE (rmo 0 0) sS mM [.ref (K.2.2 57)].toArray bW mT cC 0 0 (MQ bW (Qv K (fun τ => mtD τ (tP T S X L P) ∧ (∀ j : Int, j ≠ 21 → τ 57 j = σ 57 j) ∧ ∀ k, k ≠ 57 → k ≠ 64 → τ k = σ k)) [.ref (K.2.2 57)].toArray sS 0 0 (wA K)) K sS.heap 2 ω 50 [(1, .int (iI k)), (0, .ref (K.2.2 57))] [] := by
            intro nn
            induction nn using Nat.strongRecOn with
            | _ nn ih50 =>
              intro ω k hn50 j1 j2 j3 j4 j5 j6
              refine g_iload_n (pc' := 51) B 0 rfl rfl dX12_remember_50 rfl ?_
              refine g_iconst (pc' := 52) B dX12_remember_51 rfl ?_
              refine g_icmp_ge (pc' := 55) B 80 (by omega) (by omega) dX12_remember_52 (by decide) rfl (fun c52 => ?_) (fun c52 => ?_)
              · refine g_aload_n (pc' := 81) B 1 rfl rfl dX12_remember_80 rfl ?_
                refine g_dup (pc' := 82) B rfl dX12_remember_81 rfl ?_
                refine g_get (pc' := 85) B (T 4 0 - dT T) j2 fl_X12_149 rfl rfl dX12_remember_82 rfl ?_
                refine g_iconst (pc' := 86) B dX12_remember_85 rfl ?_
                refine g_iadd (pc' := 87) B dX12_remember_86 rfl ?_
                refine g_put (pc' := 90) B 21 rfl fp_X12_149 rfl rfl dX12_remember_87 rfl ?_
                exact g_vret B hrt hlk dX12_remember_90 ⟨mtD_push hT (by rw [up_same]) (fun j a b => by rw [up_row (by decide)]; exact j3 j a b) (by rw [up_row (by decide)]; have q9 := j4 0 (by omega) (by omega); rw [Int.add_zero] at q9; rw [q9]; exact hn0.1) (by rw [up_row (by decide), j4 1 (by omega) (by omega)]; exact hn0.2.1) (by rw [up_row (by decide), j4 2 (by omega) (by omega)]; exact hn0.2.2.1) (by rw [up_row (by decide), j4 3 (by omega) (by omega)]; exact hn0.2.2.2), fun j a => by rw [up_col a]; exact j5 j a, fun k a b => by rw [up_row a]; exact j6 k a b⟩
              · refine g_aload_n (pc' := 56) B 1 rfl rfl dX12_remember_55 rfl ?_
                refine g_getR (pc' := 59) B 64 fl_X12_36 rfl rfl dX12_remember_56 rfl ?_
                refine g_iconst (pc' := 60) B dX12_remember_59 rfl ?_
                refine g_aload_n (pc' := 61) B 1 rfl rfl dX12_remember_60 rfl ?_
                refine g_get (pc' := 64) B (T 4 0 - dT T) j2 fl_X12_149 rfl rfl dX12_remember_61 rfl ?_
                refine g_imul (pc' := 65) B dX12_remember_64 rfl ?_
                refine g_iload_n (pc' := 66) B 0 rfl rfl dX12_remember_65 rfl ?_
                refine g_iadd (pc' := 67) B dX12_remember_66 rfl ?_
                refine g_aload_n (pc' := 68) B 1 rfl rfl dX12_remember_67 rfl ?_
                refine g_getR (pc' := 71) B 58 fl_X12_7 rfl rfl dX12_remember_68 rfl ?_
                refine g_iload_n (pc' := 72) B 0 rfl rfl dX12_remember_71 rfl ?_
                refine g_iald (pc' := 73) B (ω 58 k) rfl rfl (by omega) (by decide) dX12_remember_72 rfl ?_
                refine g_iast (pc' := 74) B rfl (by omega) (by decide) dX12_remember_73 rfl ?_
                refine g_iinc (pc' := 77) B 0 [(1, .int (iI (k + 1))), (0, .ref (K.2.2 57))] dX12_remember_74 rfl rfl (by decide) rfl ?_
                refine g_goto (pc' := 50) B dX12_remember_77 (by decide) ?_
                exact ih50 _ (by omega) (up ω 64 ((4 * (T 4 0 - dT T)) + k) (ω 58 k)) (k + 1) rfl (by omega) (by rw [up_row (by decide)]; exact j2) (by intro j a b; rw [up_col (by omega)]; exact j3 j a b) (by intro j a b; by_cases e9 : j = k; (subst e9; rw [up_same, j6 58 (by decide) (by decide)]); (rw [up_col (by omega)]; exact j4 j a (by omega))) (by intro j a; rw [up_row (by decide)]; exact j5 j a) (by intro k a b; rw [up_row b]; exact j6 k a b)
          exact L50 _ (up ρ 57 21 ((T 4 0) - 1)) 0 rfl (by omega) (by first | (rw [up_same]; omega) | omega) (by intro j a b; rw [hd]; first | (rw [up_row (by decide), i2 j a (by omega)]; congr 1) | (congr 1; omega)) (by intro j a b; omega) (by intro j a; first | (rw [up_col a, i5 57 (by decide)]) | rfl) (by intro k a b; first | (rw [up_row a]; exact i5 k b) | rfl)
        · refine g_aload_n (pc' := 19) B 1 rfl rfl dX12_remember_18 rfl ?_
          refine g_getR (pc' := 22) B 64 fl_X12_36 rfl rfl dX12_remember_19 rfl ?_
          refine g_iload_n (pc' := 23) B 0 rfl rfl dX12_remember_22 rfl ?_
          refine g_iconst (pc' := 24) B dX12_remember_23 rfl ?_
          refine g_isub (pc' := 25) B dX12_remember_24 rfl ?_
          refine g_aload_n (pc' := 26) B 1 rfl rfl dX12_remember_25 rfl ?_
          refine g_getR (pc' := 29) B 64 fl_X12_36 rfl rfl dX12_remember_26 rfl ?_
          refine g_iload_n (pc' := 30) B 0 rfl rfl dX12_remember_29 rfl ?_
          refine g_iald (pc' := 31) B (ρ 64 k) rfl rfl (by omega) (by decide) dX12_remember_30 rfl ?_
          refine g_iast (pc' := 32) B rfl (by omega) (by decide) dX12_remember_31 rfl ?_
          refine g_iinc (pc' := 35) B 0 [(1, .int (iI (k + 1))), (0, .ref (K.2.2 57))] dX12_remember_32 rfl rfl (by decide) rfl ?_
          refine g_goto (pc' := 11) B dX12_remember_35 (by decide) ?_
          exact ih11 _ (by omega) (up ρ 64 (k - 4) (ρ 64 k)) (k + 1) rfl (by omega) (by intro j a b; by_cases e9 : j = k - 4; (subst e9; rw [up_same, i3 k (by omega)]; congr 1; omega); (rw [up_col e9]; exact i2 j a (by omega))) (by intro j a; rw [up_col (by omega)]; exact i3 j (by omega)) (by rw [up_row (by decide)]; exact i4) (by intro k a; rw [up_row a]; exact i5 k a)
    exact L11 _ σ 4 rfl (by omega) (by intro j a b; omega) (by intro j a; rfl) (by exact hT1) (by intro k a; rfl)
