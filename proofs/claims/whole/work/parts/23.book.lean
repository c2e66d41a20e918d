/-- the ways of the book -/
def bpos (L : Int) (wy : Int → Int) : Nat → Int
  | 0 => L
  | k + 1 => bes (bpos L wy k) (wy k)
def bpl (D : SG) (X L : Int) (wy : Int → Int) : Nat → Int
  | 0 => 0
  | k + 1 => bpl D X L wy k + max 0 (hgt D (bes (bpos L wy k) (wy k)) (X + k + 1) - hgt D (bpos L wy k) (X + k + 1))
theorem bpos_next {L : Int} {wy : Int → Int} {k : Int} (h : 0 ≤ k) : bpos L wy (k + 1).toNat = bes (bpos L wy k.toNat) (wy k) := by
  rw [show (k + 1).toNat = k.toNat + 1 by omega]
  show bes (bpos L wy k.toNat) (wy ((k.toNat : Nat) : Int)) = _
  rw [show ((k.toNat : Nat) : Int) = k by omega]
theorem bpl_next {D : SG} {X L : Int} {wy : Int → Int} {k : Int} (h : 0 ≤ k) : bpl D X L wy (k + 1).toNat = bpl D X L wy k.toNat + max 0 (hgt D (bes (bpos L wy k.toNat) (wy k)) (X + k + 1) - hgt D (bpos L wy k.toNat) (X + k + 1)) := by
  rw [show (k + 1).toNat = k.toNat + 1 by omega]
  show bpl D X L wy k.toNat + max 0 (hgt D (bes (bpos L wy k.toNat) (wy ((k.toNat : Nat) : Int))) (X + ((k.toNat : Nat) : Int) + 1) - hgt D (bpos L wy k.toNat) (X + ((k.toNat : Nat) : Int) + 1)) = _
  rw [show ((k.toNat : Nat) : Int) = k by omega]
set_option maxRecDepth 100000 in
set_option maxHeartbeats 4000000 in
theorem c_X0_note (l : Launch) (K : WK) (σ : SG) {n : Int} {wy : Int → Int} (hB : σ 54 2 = n ∧ (0 ≤ n ∧ n ≤ 30) ∧ ∀ k : Int, 0 ≤ k → k < n → σ 55 k = wy k ∧ 0 ≤ wy k ∧ wy k ≤ 2) {w : Int} (hw : 0 ≤ w ∧ w ≤ 2) (hc : n < 30) : MI l yX0_note cX0_note 2 (some .int) 0 0 K σ [.ref (K.2.2 54), .int (iI w)] (fun z τ => τ = up (up σ 55 n w) 54 2 (n + 1) ∧ z = n + 1) := by
  refine met_of [(0, .ref (K.2.2 54)), (1, .int (iI w))] (by decide +kernel) (Nat.le_of_ble_eq_true rfl) rfl ?_
  intro pP eE sS mM bW mT cC B hrt hlk
  replace B : CB pP sS mM [.ref (K.2.2 54), .int (iI w)].toArray cC cX0_note RX0 2 K := B
  obtain ⟨hB1, hB2, hB3⟩ := id hB
  refine g_aload_n (pc' := 1) B 0 rfl rfl dX0_note_0 rfl ?_
  refine g_get (pc' := 4) B n hB.1 fl_X0_22 rfl rfl dX0_note_1 rfl ?_
  refine g_bipush (pc' := 6) B (by decide +kernel) dX0_note_4 rfl ?_
  refine g_icmp_ge (pc' := 9) B 29 (by omega) (by omega) dX0_note_6 (by decide) rfl (fun c6 => by exfalso; omega) (fun c6 => ?_)
  refine g_aload_n (pc' := 10) B 0 rfl rfl dX0_note_9 rfl ?_
  refine g_getR (pc' := 13) B 55 fl_X0_9 rfl rfl dX0_note_10 rfl ?_
  refine g_aload_n (pc' := 14) B 0 rfl rfl dX0_note_13 rfl ?_
  refine g_get (pc' := 17) B n hB.1 fl_X0_22 rfl rfl dX0_note_14 rfl ?_
  refine g_iload_n (pc' := 18) B 1 rfl rfl dX0_note_17 rfl ?_
  refine g_iast (pc' := 19) B rfl (by omega) (by decide) dX0_note_18 rfl ?_
  refine g_aload_n (pc' := 20) B 0 rfl rfl dX0_note_19 rfl ?_
  refine g_dup (pc' := 21) B rfl dX0_note_20 rfl ?_
  refine g_get (pc' := 24) B n (by have q9 := hB.1; simpa [up] using q9) fl_X0_22 rfl rfl dX0_note_21 rfl ?_
  refine g_iconst (pc' := 25) B dX0_note_24 rfl ?_
  refine g_iadd (pc' := 26) B dX0_note_25 rfl ?_
  refine g_put (pc' := 29) B 2 rfl fp_X0_22 rfl rfl dX0_note_26 rfl ?_
  refine g_aload_n (pc' := 30) B 0 rfl rfl dX0_note_29 rfl ?_
  refine g_get (pc' := 33) B (n + 1) (by simp [up]) fl_X0_22 rfl rfl dX0_note_30 rfl ?_
  exact g_iret (z := n + 1) B hrt rfl hlk dX0_note_33 ⟨rfl, rfl⟩
set_option maxRecDepth 100000 in
set_option maxHeartbeats 4000000 in
theorem c_X0_tryFrom (l : Launch) (K : WK) (σ : SG) {S X L P : Int} (hm : σ 31 0 = S ∧ σ 31 1 = X ∧ σ 31 2 = L ∧ σ 31 3 = P) {b : Nat} (hb : b = 3 ∨ b = 17) {D : SG} (hS : sD σ b D) (hF : okF D) (hH : okH D) (hO : okQ D) (hSS : 0 ≤ S ∧ S ≤ 90000000) (hX : 0 ≤ X ∧ X ≤ 90000000) (hL : 0 ≤ L ∧ L < D 9 0) {n : Int} {wy : Int → Int} (hB : σ 54 2 = n ∧ (0 ≤ n ∧ n ≤ 30) ∧ ∀ k : Int, 0 ≤ k → k < n → σ 55 k = wy k ∧ 0 ≤ wy k ∧ wy k ≤ 2) : MI l yX0_tryFrom cX0_tryFrom 4 (some .int) 5 114 K σ [.ref (K.2.2 54), .ref (K.2.2 b), .ref (K.2.2 31)] (fun z τ => isW (fun k => ¬ can D (bpos L wy k.toNat) (S + k + 1) (wy k)) n z ∧ τ 54 3 = bpl D X L wy (if z = -1 then n else z).toNat ∧ τ 54 2 = n ∧ ∀ k, k ≠ 54 → k ≠ 56 → τ k = σ k) := by
  refine met_of [(0, .ref (K.2.2 54)), (1, .ref (K.2.2 b)), (2, .ref (K.2.2 31))] (by decide +kernel) (Nat.le_of_ble_eq_true rfl) rfl ?_
  intro pP eE sS mM bW mT cC B hrt hlk
  replace B : CB pP sS mM [.ref (K.2.2 54), .ref (K.2.2 b), .ref (K.2.2 31)].toArray cC cX0_tryFrom RX0 4 K := B
  obtain ⟨hF0, hF1⟩ := id hF
  obtain ⟨hB1, hB2, hB3⟩ := id hB
  obtain ⟨hm0, hm1, hm2, hm3⟩ := id hm
  refine g_aload_n (pc' := 1) B 0 rfl rfl dX0_tryFrom_0 rfl ?_
  refine g_getR (pc' := 4) B 56 fl_X0_18 rfl rfl dX0_tryFrom_1 rfl ?_
  refine g_aload_n (pc' := 5) B 2 rfl rfl dX0_tryFrom_4 rfl ?_
  refine g_callVV (pc' := 8) (As := [.ref (K.2.2 31)]) B (c_X5_become l K _ (u := 56) (o := 31) (by omega) (by omega) (by omega)) vt_X5_become tw_888 rfl rfl ⟨by decide, by decide⟩ rfl (Nat.le_of_ble_eq_true rfl) ⟨Nat.zero_le _, Nat.zero_le _⟩ rfl dX0_tryFrom_5 rfl (fun τ5 h5 => ?_)
  subst h5
  refine g_aload_n (pc' := 9) B 0 rfl rfl dX0_tryFrom_8 rfl ?_
  refine g_iconst (pc' := 10) B dX0_tryFrom_9 rfl ?_
  refine g_put (pc' := 13) B 3 rfl fp_X0_26 rfl rfl dX0_tryFrom_10 rfl ?_
  refine g_iconst (pc' := 14) B dX0_tryFrom_13 rfl ?_
  refine g_istore_n (pc' := 15) B [(3, .int (iI 0)), (0, .ref (K.2.2 54)), (1, .ref (K.2.2 b)), (2, .ref (K.2.2 31))] dX0_tryFrom_14 rfl rfl (by decide) rfl ?_
  have L15 : ∀ (nn : Nat) (ρ : SG) (k : Int) , (n - k).toNat = nn → (0 ≤ k ∧ k ≤ n) → (∀ j, j ≠ 54 → j ≠ 56 → ρ j = σ j) → (ρ 54 2 = n ∧ ρ 54 3 = bpl D X L wy k.toNat) → (ρ 56 0 = S + k ∧ ρ 56 1 = X + k ∧ ρ 56 2 = bpos L wy k.toNat) → (0 ≤ bpos L wy k.toNat ∧ bpos L wy k.toNat < D 9 0) → (∀ j : Int, 0 ≤ j → j < k → can D (bpos L wy j.toNat) (S + j + 1) (wy j)) → G pP l eE (rmo 5 114) sS mM [.ref (K.2.2 54), .ref (K.2.2 b), .ref (K.2.2 31)].toArray bW mT cC 0 0 (MQ bW (Qi K (fun z τ => isW (fun k => ¬ can D (bpos L wy k.toNat) (S + k + 1) (wy k)) n z ∧ τ 54 3 = bpl D X L wy (if z = -1 then n else z).toNat ∧ τ 54 2 = n ∧ ∀ k, k ≠ 54 → k ≠ 56 → τ k = σ k)) [.ref (K.2.2 54), .ref (K.2.2 b), .ref (K.2.2 31)].toArray sS 0 0 (wA K)) K sS.heap 4 ρ 15 [(3, .int (iI k)), (0, .ref (K.2.2 54)), (1, .ref (K.2.2 b)), (2, .ref (K.2.2 31))] [] := by
    intro nn
    induction nn using Nat.strongRecOn with
    | _ nn ih15 =>
      intro ρ k hn15 i1 i2 i3 i4 i5 i6
      have hSρ : sD ρ b D := hS.keep (fun j a c => i2 j (by omega) (by omega))
      refine g_iload_n (pc' := 16) B 0 rfl rfl dX0_tryFrom_15 rfl ?_
      refine g_aload_n (pc' := 17) B 1 rfl rfl dX0_tryFrom_16 rfl ?_
      refine g_get (pc' := 20) B n i3.1 fl_X0_22 rfl rfl dX0_tryFrom_17 rfl ?_
      refine g_icmp_ge (pc' := 23) B 72 (by omega) (by omega) dX0_tryFrom_20 (by decide) rfl (fun c20 => ?_) (fun c20 => ?_)
      · refine g_iconst (pc' := 73) B dX0_tryFrom_72 rfl ?_
        exact g_iret (z := (-1)) B hrt rfl hlk dX0_tryFrom_73 ⟨Or.inr ⟨rfl, fun j a b => fun q9 => q9 (i6 j a (by omega))⟩, by rw [if_pos rfl, show n = k by omega]; exact i3.2, i3.1, i2⟩
      · have hw9 := hB3 k (by omega) (by omega)
        refine g_aload_n (pc' := 24) B 1 rfl rfl dX0_tryFrom_23 rfl ?_
        refine g_getR (pc' := 27) B 56 fl_X0_18 rfl rfl dX0_tryFrom_24 rfl ?_
        refine g_aload_n (pc' := 28) B 2 rfl rfl dX0_tryFrom_27 rfl ?_
        refine g_aload_n (pc' := 29) B 1 rfl rfl dX0_tryFrom_28 rfl ?_
        refine g_getR (pc' := 32) B 55 fl_X0_9 rfl rfl dX0_tryFrom_29 rfl ?_
        refine g_iload_n (pc' := 33) B 0 rfl rfl dX0_tryFrom_32 rfl ?_
        refine g_iald (pc' := 34) B (wy k) (by rw [i2 55 (by decide) (by decide)]; exact (hB.2.2 _ (by omega) (by omega)).1) rfl (by omega) (by decide) dX0_tryFrom_33 rfl ?_
        refine g_callVI (pc' := 37) (As := [.ref (K.2.2 b), .int (iI (wy k))]) B (c_X5_canGo l K _ (u := 56) (S := S + k) (X := X + k) (L := bpos L wy k.toNat) (P := ρ 56 3) (b := b) (D := D) (w := wy k) (by omega) (⟨i4.1, i4.2.1, i4.2.2, rfl⟩) hb hSρ hF hH hO (by omega) (by omega) (by omega)) vt_X5_canGo tw_892 rfl rfl ⟨by decide, by decide⟩ rfl (Nat.le_of_ble_eq_true rfl) ⟨Nat.zero_le _, Nat.zero_le _⟩ rfl dX0_tryFrom_34 rfl (fun z34 τ34 h34 => ?_)
        obtain ⟨rfl, h34⟩ := h34
        rcases h34 with ⟨h34, rfl⟩ | ⟨h34, rfl⟩
        · refine g_if_ne (pc' := 40) B 42 (by omega) dX0_tryFrom_37 (by decide) rfl (fun _ => ?_) (fun q => absurd q (by decide))
          refine g_aload_n (pc' := 43) B 1 rfl rfl dX0_tryFrom_42 rfl ?_
          refine g_dup (pc' := 44) B rfl dX0_tryFrom_43 rfl ?_
          refine g_get (pc' := 47) B (bpl D X L wy k.toNat) i3.2 fl_X0_26 rfl rfl dX0_tryFrom_44 rfl ?_
          refine g_aload_n (pc' := 48) B 1 rfl rfl dX0_tryFrom_47 rfl ?_
          refine g_getR (pc' := 51) B 56 fl_X0_18 rfl rfl dX0_tryFrom_48 rfl ?_
          refine g_aload_n (pc' := 52) B 2 rfl rfl dX0_tryFrom_51 rfl ?_
          refine g_aload_n (pc' := 53) B 1 rfl rfl dX0_tryFrom_52 rfl ?_
          refine g_getR (pc' := 56) B 55 fl_X0_9 rfl rfl dX0_tryFrom_53 rfl ?_
          refine g_iload_n (pc' := 57) B 0 rfl rfl dX0_tryFrom_56 rfl ?_
          refine g_iald (pc' := 58) B (wy k) (by rw [i2 55 (by decide) (by decide)]; exact (hB.2.2 _ (by omega) (by omega)).1) rfl (by omega) (by decide) dX0_tryFrom_57 rfl ?_
          refine g_iconst (pc' := 59) B dX0_tryFrom_58 rfl ?_
          refine g_callVI (pc' := 62) (As := [.ref (K.2.2 b), .int (iI (wy k)), .int (iI 0)]) B (c_X5_go l K _ (u := 56) (S := S + k) (X := X + k) (L := bpos L wy k.toNat) (P := ρ 56 3) (b := b) (D := D) (w := wy k) (h := 0) (by omega) (⟨i4.1, i4.2.1, i4.2.2, rfl⟩) hb hSρ hF hH (by omega) (by omega) (by omega) h34.2.1 (by omega)) vt_X5_go tw_893 rfl rfl ⟨by decide, by decide⟩ rfl (Nat.le_of_ble_eq_true rfl) ⟨Nat.zero_le _, Nat.zero_le _⟩ rfl dX0_tryFrom_59 rfl (fun z59 τ59 h59 => ?_)
          obtain ⟨h59a, h59b⟩ := h59
          subst h59a
          subst h59b
          refine g_iadd (pc' := 63) B dX0_tryFrom_62 rfl ?_
          refine g_put (pc' := 66) B 3 rfl fp_X0_26 rfl rfl dX0_tryFrom_63 rfl ?_
          refine g_iinc (pc' := 69) B 0 [(3, .int (iI (k + 1))), (0, .ref (K.2.2 54)), (1, .ref (K.2.2 b)), (2, .ref (K.2.2 31))] dX0_tryFrom_66 rfl rfl (by decide) rfl ?_
          refine g_goto (pc' := 15) B dX0_tryFrom_69 (by decide) ?_
          exact ih15 _ (by omega) (up (up (up (up (up ρ 56 0 ((S + k) + 1)) 56 1 ((X + k) + (if 0 = 0 then 1 else 0))) 56 2 (bes (bpos L wy k.toNat) (wy k))) 56 3 ((ρ 56 3) + max 0 (hgt D (bes (bpos L wy k.toNat) (wy k)) ((X + k) + (if 0 = 0 then 1 else 0)) - hgt D (bpos L wy k.toNat) ((X + k) + (if 0 = 0 then 1 else 0))))) 54 3 ((bpl D X L wy k.toNat) + (max 0 (hgt D (bes (bpos L wy k.toNat) (wy k)) ((X + k) + (if 0 = 0 then 1 else 0)) - hgt D (bpos L wy k.toNat) ((X + k) + (if 0 = 0 then 1 else 0)))))) (k + 1) rfl (by omega) (by intro j a b; rw [up_row a, up_row b, up_row b, up_row b, up_row b]; exact i2 j a b) (by exact ⟨by simp [up, i3.1], by rw [up_same, bpl_next (by omega)]; rfl⟩) (by exact ⟨by simp [up]; omega, by simp [up]; omega, by rw [bpos_next (by omega)]; simp [up]⟩) (by rw [bpos_next (by omega)]; exact h34.2.1) (by intro j a b; by_cases e9 : j = k; (subst e9; exact h34); exact i6 j a (by omega))
        · refine g_if_ne (pc' := 40) B 42 (by omega) dX0_tryFrom_37 (by decide) rfl (fun q => absurd q (by decide)) (fun _ => ?_)
          refine g_iload_n (pc' := 41) B 0 rfl rfl dX0_tryFrom_40 rfl ?_
          exact g_iret (z := k) B hrt rfl hlk dX0_tryFrom_41 ⟨Or.inl ⟨by omega, by omega, h34, fun j a b => fun q9 => q9 (i6 j a b)⟩, by rw [if_neg (by omega)]; exact i3.2, i3.1, i2⟩
  exact L15 _ (up (up (up (up (up σ 56 0 (σ 31 0)) 56 1 (σ 31 1)) 56 2 (σ 31 2)) 56 3 (σ 31 3)) 54 3 0) 0 rfl (by omega) (by intro j a b; rw [up_row a, up_row b, up_row b, up_row b, up_row b]) (by exact ⟨by simp [up, hB1], by simp [up]; rfl⟩) (by exact ⟨by simp [up, hm0], by simp [up, hm1], by simp [up, hm2]; rfl⟩) (by exact hL) (by intro j a b; omega)
