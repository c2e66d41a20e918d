theorem en_next {T : SG} {S X L P e i : Int} (h : 0 ≤ i) : tNg T (en0 S X L P e) (i + 1).toNat = tP (tNg T (en0 S X L P e) i.toNat) (S + i) (X + i * e) L P := by
  rw [show (i + 1).toNat = i.toNat + 1 by omega]
  show tP _ (S + ((i.toNat : Nat) : Int)) (X + ((i.toNat : Nat) : Int) * e) L P = _
  rw [show ((i.toNat : Nat) : Int) = i by omega]
set_option maxRecDepth 100000 in
set_option maxHeartbeats 4000000 in
theorem c_X12_pass (l : Launch) (K : WK) (σ : SG) {T : SG} (hT : mtD σ T) {S X L P : Int} (hn0 : σ 58 0 = S ∧ σ 58 1 = X ∧ σ 58 2 = L ∧ σ 58 3 = P) (hSX : 0 ≤ X ∧ X ≤ S ∧ S ≤ 70000) {n e : Int} (hn : -2147483648 ≤ n ∧ n < 2147483648) (he : 0 ≤ e ∧ e ≤ 1) : MI l yX12_pass cX12_pass 4 (some .int) 1 25 K σ [.ref (K.2.2 57), .int (iI n), .int (iI e)] (fun z τ => (((n < 1 ∨ 999 < n) ∧ τ = σ ∧ z = -1000000002) ∨ (¬ (n < 1 ∨ 999 < n) ∧ mtD τ (tNg T (en0 S X L P e) n.toNat) ∧ (τ 58 0 = S + n ∧ τ 58 1 = X + n * e) ∧ (∀ j : Int, j ≠ 0 → j ≠ 1 → τ 58 j = σ 58 j) ∧ (∀ j : Int, j ≠ 21 → τ 57 j = σ 57 j) ∧ (∀ k, k ≠ 57 → k ≠ 58 → k ≠ 64 → τ k = σ k) ∧ z = X + n * e))) := by
  refine met_of [(0, .ref (K.2.2 57)), (1, .int (iI n)), (2, .int (iI e))] (by decide +kernel) (Nat.le_of_ble_eq_true rfl) rfl ?_
  intro pP eE sS mM bW mT cC B hrt hlk
  replace B : CB pP sS mM [.ref (K.2.2 57), .int (iI n), .int (iI e)].toArray cC cX12_pass RX12 4 K := B
  obtain ⟨hm0, hm1, hm2, hm3⟩ := id hn0
  refine g_iload_n (pc' := 1) B 1 rfl rfl dX12_pass_0 rfl ?_
  refine g_i2l (pc' := 2) B (by omega) dX12_pass_1 rfl ?_
  refine g_lconst (z := 1) (pc' := 3) B (by decide +kernel) dX12_pass_2 rfl ?_
  refine g_ldc2 (z := 999) (pc' := 6) B tw_1160 (by decide +kernel) dX12_pass_3 rfl ?_
  refine g_callSI (pc' := 9) (As := [.long (lI n), .long (lI 1), .long (lI 999)]) B (c_X12_in l K _ (v := n) (a := 1) (b := 999) (by omega) (by omega) (by omega)) st_X12_in tw_1041 ⟨by decide, by decide⟩ rfl (Nat.le_of_ble_eq_true rfl) ⟨Nat.zero_le _, Nat.zero_le _⟩ rfl dX12_pass_6 rfl (fun z6 τ6 h6 => ?_)
  obtain ⟨rfl, h6⟩ := h6
  rcases h6 with ⟨h6, rfl⟩ | ⟨h6, rfl⟩
  · refine g_if_ne (pc' := 12) B 15 (by omega) dX12_pass_9 (by decide) rfl (fun _ => ?_) (fun q => absurd q (by decide))
    refine g_aload_n (pc' := 16) B 0 rfl rfl dX12_pass_15 rfl ?_
    refine g_getR (pc' := 19) B 58 fl_X12_7 rfl rfl dX12_pass_16 rfl ?_
    refine g_iconst (pc' := 20) B dX12_pass_19 rfl ?_
    refine g_iald (pc' := 21) B S hn0.1 rfl (by omega) (by decide) dX12_pass_20 rfl ?_
    refine g_ldc (z := 900000) (pc' := 23) B tw_1161 (by decide +kernel) dX12_pass_21 rfl ?_
    refine g_icmp_le (pc' := 26) B 29 (by omega) (by omega) dX12_pass_23 (by decide) rfl (fun c23 => ?_) (fun c23 => by exfalso; omega)
    refine g_iconst (pc' := 30) B dX12_pass_29 rfl ?_
    refine g_istore_n (pc' := 31) B [(3, .int (iI 0)), (0, .ref (K.2.2 57)), (1, .int (iI n)), (2, .int (iI e))] dX12_pass_30 rfl rfl (by decide) rfl ?_
    have L31 : ∀ (nn : Nat) (ρ : SG) (i : Int) , (n - i).toNat = nn → (0 ≤ i ∧ i ≤ n) → (mtD ρ (tNg T (en0 S X L P e) i.toNat)) → (ρ 58 0 = S + i ∧ ρ 58 1 = X + i * e) → (∀ j : Int, j ≠ 0 → j ≠ 1 → ρ 58 j = σ 58 j) → (∀ j : Int, j ≠ 21 → ρ 57 j = σ 57 j) → (∀ k, k ≠ 57 → k ≠ 58 → k ≠ 64 → ρ k = σ k) → G pP l eE (rmo 1 25) sS mM [.ref (K.2.2 57), .int (iI n), .int (iI e)].toArray bW mT cC 0 0 (MQ bW (Qi K (fun z τ => (((n < 1 ∨ 999 < n) ∧ τ = σ ∧ z = -1000000002) ∨ (¬ (n < 1 ∨ 999 < n) ∧ mtD τ (tNg T (en0 S X L P e) n.toNat) ∧ (τ 58 0 = S + n ∧ τ 58 1 = X + n * e) ∧ (∀ j : Int, j ≠ 0 → j ≠ 1 → τ 58 j = σ 58 j) ∧ (∀ j : Int, j ≠ 21 → τ 57 j = σ 57 j) ∧ (∀ k, k ≠ 57 → k ≠ 58 → k ≠ 64 → τ k = σ k) ∧ z = X + n * e)))) [.ref (K.2.2 57), .int (iI n), .int (iI e)].toArray sS 0 0 (wA K)) K sS.heap 4 ρ 31 [(3, .int (iI i)), (0, .ref (K.2.2 57)), (1, .int (iI n)), (2, .int (iI e))] [] := by
      intro nn
      induction nn using Nat.strongRecOn with
      | _ nn ih31 =>
        intro ρ i hn31 i1 i2 i3 i4 i5 i6
        refine g_iload_n (pc' := 32) B 0 rfl rfl dX12_pass_31 rfl ?_
        refine g_iload_n (pc' := 33) B 2 rfl rfl dX12_pass_32 rfl ?_
        refine g_icmp_ge (pc' := 36) B 66 (by omega) (by omega) dX12_pass_33 (by decide) rfl (fun c33 => ?_) (fun c33 => ?_)
        · refine g_aload_n (pc' := 67) B 1 rfl rfl dX12_pass_66 rfl ?_
          refine g_getR (pc' := 70) B 58 fl_X12_7 rfl rfl dX12_pass_67 rfl ?_
          refine g_iconst (pc' := 71) B dX12_pass_70 rfl ?_
          refine g_iald (pc' := 72) B (X + i * e) i3.2 rfl (by omega) (by decide) dX12_pass_71 rfl ?_
          exact g_iret (z := X + i * e) B hrt rfl hlk dX12_pass_72 (Or.inr (by have hin : i = n := (by omega); subst hin; exact ⟨by omega, i2, i3, i4, i5, i6, rfl⟩))
        · refine g_aload_n (pc' := 37) B 1 rfl rfl dX12_pass_36 rfl ?_
          refine g_callVV (pc' := 40) (As := []) B (c_X12_remember l K _ (T := (tNg T (en0 S X L P e) i.toNat)) (S := S + i) (X := X + i * e) (L := L) (P := P) i2 (⟨i3.1, i3.2, by rw [i4 2 (by decide) (by decide)]; exact hm2, by rw [i4 3 (by decide) (by decide)]; exact hm3⟩)) vt_X12_remember tw_1162 rfl rfl ⟨by decide, by decide⟩ rfl (Nat.le_of_ble_eq_true rfl) ⟨Nat.zero_le _, Nat.zero_le _⟩ rfl dX12_pass_37 rfl (fun τ37 h37 => ?_)
          obtain ⟨h37a, h37b, h37c⟩ := h37
          have hm37 : τ37 58 0 = S + i ∧ τ37 58 1 = X + i * e ∧ True := by rw [h37c 58 (by decide) (by decide)]; exact ⟨i3.1, i3.2, trivial⟩
          refine g_aload_n (pc' := 41) B 1 rfl rfl dX12_pass_40 rfl ?_
          refine g_getR (pc' := 44) B 58 fl_X12_7 rfl rfl dX12_pass_41 rfl ?_
          refine g_iconst (pc' := 45) B dX12_pass_44 rfl ?_
          refine g_dup2 (pc' := 46) B rfl rfl dX12_pass_45 rfl ?_
          refine g_iald (pc' := 47) B (S + i) hm37.1 rfl (by omega) (by decide) dX12_pass_46 rfl ?_
          refine g_iconst (pc' := 48) B dX12_pass_47 rfl ?_
          refine g_iadd (pc' := 49) B dX12_pass_48 rfl ?_
          refine g_iast (pc' := 50) B rfl (by omega) (by decide) dX12_pass_49 rfl ?_
          refine g_aload_n (pc' := 51) B 1 rfl rfl dX12_pass_50 rfl ?_
          refine g_getR (pc' := 54) B 58 fl_X12_7 rfl rfl dX12_pass_51 rfl ?_
          refine g_iconst (pc' := 55) B dX12_pass_54 rfl ?_
          refine g_dup2 (pc' := 56) B rfl rfl dX12_pass_55 rfl ?_
          refine g_iald (pc' := 57) B (X + i * e) hm37.2.1 rfl (by omega) (by decide) dX12_pass_56 rfl ?_
          refine g_iload_n (pc' := 58) B 3 rfl rfl dX12_pass_57 rfl ?_
          refine g_iadd (pc' := 59) B dX12_pass_58 rfl ?_
          refine g_iast (pc' := 60) B rfl (by omega) (by decide) dX12_pass_59 rfl ?_
          refine g_iinc (pc' := 63) B 0 [(3, .int (iI (i + 1))), (0, .ref (K.2.2 57)), (1, .int (iI n)), (2, .int (iI e))] dX12_pass_60 rfl rfl (by decide) rfl ?_
          refine g_goto (pc' := 31) B dX12_pass_63 (by decide) ?_
          exact ih31 _ (by omega) (up (up τ37 58 0 ((S + i) + 1)) 58 1 ((X + i * e) + e)) (i + 1) rfl (by omega) (by rw [en_next (by omega)]; exact h37a.keep (by rw [up_row (by decide), up_row (by decide)]) (by rw [up_row (by decide), up_row (by decide)])) (by simp [up, Int.add_mul, Int.add_assoc]) (by intro j a b; rw [up_col b, up_col a, h37c 58 (by decide) (by decide)]; exact i4 j a b) (by intro j a; rw [up_row (by decide), up_row (by decide), h37b j a]; exact i5 j a) (by intro k a b c; rw [up_row b, up_row b, h37c k a c]; exact i6 k a b c)
    exact L31 _ σ 0 rfl (by omega) (by exact hT) (by simp [hm0, hm1]) (by intro j a b; rfl) (by intro j a; rfl) (by intro k a b c; rfl)
  · refine g_if_ne (pc' := 12) B 15 (by omega) dX12_pass_9 (by decide) rfl (fun q => absurd q (by decide)) (fun _ => ?_)
    refine g_ldc (z := (-1000000002)) (pc' := 14) B tw_1044 (by decide +kernel) dX12_pass_12 rfl ?_
    exact g_iret (z := (-1000000002)) B hrt rfl hlk dX12_pass_14 (Or.inl ⟨by omega, rfl, rfl⟩)
set_option maxRecDepth 100000 in
set_option maxHeartbeats 4000000 in
theorem c_X12_step (l : Launch) (K : WK) (σ : SG) {T : SG} (hT : mtD σ T) {S X L P : Int} (hn0 : σ 58 0 = S ∧ σ 58 1 = X ∧ σ 58 2 = L ∧ σ 58 3 = P) (hSX : 0 ≤ X ∧ X ≤ S ∧ S ≤ 70000) {n : Int} (hn : -2147483648 ≤ n ∧ n < 2147483648) : MI l yX12_step cX12_step 2 (some .int) 2 48 K σ [.ref (K.2.2 57), .int (iI n)] (fun z τ => (((n < 1 ∨ 999 < n) ∧ τ = σ ∧ z = -1000000002) ∨ (¬ (n < 1 ∨ 999 < n) ∧ mtD τ (tNg T (en0 S X L P 1) n.toNat) ∧ (τ 58 0 = S + n ∧ τ 58 1 = X + n * 1) ∧ (∀ j : Int, j ≠ 0 → j ≠ 1 → τ 58 j = σ 58 j) ∧ (∀ j : Int, j ≠ 21 → τ 57 j = σ 57 j) ∧ (∀ k, k ≠ 57 → k ≠ 58 → k ≠ 64 → τ k = σ k) ∧ z = X + n * 1))) := by
  refine met_of [(0, .ref (K.2.2 57)), (1, .int (iI n))] (by decide +kernel) (Nat.le_of_ble_eq_true rfl) rfl ?_
  intro pP eE sS mM bW mT cC B hrt hlk
  replace B : CB pP sS mM [.ref (K.2.2 57), .int (iI n)].toArray cC cX12_step RX12 2 K := B
  refine g_aload_n (pc' := 1) B 0 rfl rfl dX12_step_0 rfl ?_
  refine g_iload_n (pc' := 2) B 1 rfl rfl dX12_step_1 rfl ?_
  refine g_iconst (pc' := 3) B dX12_step_2 rfl ?_
  refine g_callVI (pc' := 6) (As := [.int (iI n), .int (iI 1)]) B (c_X12_pass l K _ (T := T) (S := S) (X := X) (L := L) (P := P) (n := n) (e := 1) hT hn0 (by omega) (by omega) (by omega)) vt_X12_pass tw_1156 rfl rfl ⟨by decide, by decide⟩ rfl (Nat.le_of_ble_eq_true rfl) ⟨Nat.zero_le _, Nat.zero_le _⟩ rfl dX12_step_3 rfl (fun z3 τ3 h3 => ?_)
  exact g_iret (z := z3) B hrt rfl hlk dX12_step_6 h3
set_option maxRecDepth 100000 in
set_option maxHeartbeats 4000000 in
theorem c_X12_hold (l : Launch) (K : WK) (σ : SG) {T : SG} (hT : mtD σ T) {S X L P : Int} (hn0 : σ 58 0 = S ∧ σ 58 1 = X ∧ σ 58 2 = L ∧ σ 58 3 = P) (hSX : 0 ≤ X ∧ X ≤ S ∧ S ≤ 70000) {n : Int} (hn : -2147483648 ≤ n ∧ n < 2147483648) : MI l yX12_hold cX12_hold 2 (some .int) 2 48 K σ [.ref (K.2.2 57), .int (iI n)] (fun z τ => (((n < 1 ∨ 999 < n) ∧ τ = σ ∧ z = -1000000002) ∨ (¬ (n < 1 ∨ 999 < n) ∧ mtD τ (tNg T (en0 S X L P 0) n.toNat) ∧ (τ 58 0 = S + n ∧ τ 58 1 = X + n * 0) ∧ (∀ j : Int, j ≠ 0 → j ≠ 1 → τ 58 j = σ 58 j) ∧ (∀ j : Int, j ≠ 21 → τ 57 j = σ 57 j) ∧ (∀ k, k ≠ 57 → k ≠ 58 → k ≠ 64 → τ k = σ k) ∧ z = X + n * 0))) := by
  refine met_of [(0, .ref (K.2.2 57)), (1, .int (iI n))] (by decide +kernel) (Nat.le_of_ble_eq_true rfl) rfl ?_
  intro pP eE sS mM bW mT cC B hrt hlk
  replace B : CB pP sS mM [.ref (K.2.2 57), .int (iI n)].toArray cC cX12_hold RX12 2 K := B
  refine g_aload_n (pc' := 1) B 0 rfl rfl dX12_hold_0 rfl ?_
  refine g_iload_n (pc' := 2) B 1 rfl rfl dX12_hold_1 rfl ?_
  refine g_iconst (pc' := 3) B dX12_hold_2 rfl ?_
  refine g_callVI (pc' := 6) (As := [.int (iI n), .int (iI 0)]) B (c_X12_pass l K _ (T := T) (S := S) (X := X) (L := L) (P := P) (n := n) (e := 0) hT hn0 (by omega) (by omega) (by omega)) vt_X12_pass tw_1156 rfl rfl ⟨by decide, by decide⟩ rfl (Nat.le_of_ble_eq_true rfl) ⟨Nat.zero_le _, Nat.zero_le _⟩ rfl dX12_hold_3 rfl (fun z3 τ3 h3 => ?_)
  exact g_iret (z := z3) B hrt rfl hlk dX12_hold_6 h3
