def hE (h : Int) : Int := if h = 0 then 1 else 0
theorem hE_mul (h n : Int) : (if h = 0 then n else 0) = n * hE h := by unfold hE; split <;> simp
theorem lp_step {T : SG} {S X L P e m i : Int} (h : 0 ≤ m ∧ m ≤ i) : tNg T (fun k j => en0 S X L P e k ((m.toNat : Int) + j)) (i + 1 - m).toNat = tP (tNg T (fun k j => en0 S X L P e k ((m.toNat : Int) + j)) (i - m).toNat) (S + i) (X + i * e) L P := by
  have q : (i + 1 - m).toNat = (i - m).toNat + 1 := by omega
  have q2 : (m.toNat : Int) + ((i - m).toNat : Int) = i := by omega
  rw [q]
  show tP _ (S + ((m.toNat : Int) + ((i - m).toNat : Int))) (X + ((m.toNat : Int) + ((i - m).toNat : Int)) * e) L P = _
  rw [q2]
theorem lp_end {σ T : SG} {S X L P e n : Int} (h : 0 ≤ T 4 0 ∧ T 4 0 ≤ 40) (hn : 1 ≤ n) (hd : tD σ (tNg T (fun k j => en0 S X L P e k (((max 0 (n - 40)).toNat : Int) + j)) (n - max 0 (n - 40)).toNat)) : tD σ (tNg T (en0 S X L P e) n.toNat) := by
  have q := tNg_skip (m := (max 0 (n - 40)).toNat) (n := (n - max 0 (n - 40)).toNat) (en := en0 S X L P e) h (by omega) hd
  have q2 : (max 0 (n - 40)).toNat + (n - max 0 (n - 40)).toNat = n.toNat := by omega
  rw [q2] at q
  exact q
set_option maxRecDepth 100000 in
set_option maxHeartbeats 4000000 in
theorem c_X11_letPass (l : Launch) (K : WK) (σ : SG) {T : SG} (hT : tD σ T) {S X L P : Int} (hm : σ 31 0 = S ∧ σ 31 1 = X ∧ σ 31 2 = L ∧ σ 31 3 = P) (hSX : 0 ≤ X ∧ X ≤ S ∧ S ≤ 70000) {n h : Int} (hn : -2147483648 ≤ n ∧ n < 2147483648) (hh : 0 ≤ h ∧ h ≤ 1) : MI l yX11_letPass cX11_letPass 5 (some .int) 2 43 K σ [.ref (K.2.2 0), .int (iI n), .int (iI h)] (fun z τ => (((n < 1 ∨ 999 < n) ∧ τ = σ ∧ z = -1000000002) ∨ (¬ (n < 1 ∨ 999 < n) ∧ tD τ (tNg T (en0 S X L P (hE h)) n.toNat) ∧ (τ 31 0 = S + n ∧ τ 31 1 = X + n * hE h ∧ τ 31 2 = L ∧ τ 31 3 = P) ∧ (∀ k, (k < 31 ∨ 36 < k) → τ k = σ k) ∧ z = X + n * hE h))) := by
  refine met_of [(0, .ref (K.2.2 0)), (1, .int (iI n)), (2, .int (iI h))] (by decide +kernel) (Nat.le_of_ble_eq_true rfl) rfl ?_
  intro pP eE sS mM bW mT cC B hrt hlk
  replace B : CB pP sS mM [.ref (K.2.2 0), .int (iI n), .int (iI h)].toArray cC cX11_letPass RX11 5 K := B
  obtain ⟨hm0, hm1, hm2, hm3⟩ := id hm
  refine g_iload_n (pc' := 1) B 1 rfl rfl dX11_letPass_0 rfl ?_
  refine g_iconst (pc' := 2) B dX11_letPass_1 rfl ?_
  refine g_sipush (pc' := 5) B (by decide +kernel) dX11_letPass_2 rfl ?_
  refine g_callSI (pc' := 8) (As := [.int (iI n), .int (iI 1), .int (iI 999)]) B (c_X11_isOutside l K _ (v := n) (low := 1) (high := 999) (by omega) (by omega) (by omega)) st_X11_isOutside tw_363 ⟨by decide, by decide⟩ rfl (Nat.le_of_ble_eq_true rfl) ⟨Nat.zero_le _, Nat.zero_le _⟩ rfl dX11_letPass_5 rfl (fun z5 τ5 h5 => ?_)
  obtain ⟨rfl, h5⟩ := h5
  rcases h5 with ⟨h5, rfl⟩ | ⟨h5, rfl⟩
  · refine g_if_eq (pc' := 11) B 14 (by omega) dX11_letPass_8 (by decide) rfl (fun q => absurd q (by decide)) (fun _ => ?_)
    refine g_ldc (z := (-1000000002)) (pc' := 13) B tw_366 (by decide +kernel) dX11_letPass_11 rfl ?_
    exact g_iret (z := (-1000000002)) B hrt rfl hlk dX11_letPass_13 (Or.inl ⟨h5, rfl, rfl⟩)
  · refine g_if_eq (pc' := 11) B 14 (by omega) dX11_letPass_8 (by decide) rfl (fun _ => ?_) (fun q => absurd q (by decide))
    refine g_aload_n (pc' := 15) B 0 rfl rfl dX11_letPass_14 rfl ?_
    refine g_getR (pc' := 18) B 31 fl_X11_33 rfl rfl dX11_letPass_15 rfl ?_
    refine g_get (pc' := 21) B S hm.1 fl_X11_138 rfl rfl dX11_letPass_18 rfl ?_
    refine g_iload_n (pc' := 22) B 1 rfl rfl dX11_letPass_21 rfl ?_
    refine g_iadd (pc' := 23) B dX11_letPass_22 rfl ?_
    refine g_ldc (z := 900000) (pc' := 25) B tw_572 (by decide +kernel) dX11_letPass_23 rfl ?_
    refine g_icmp_le (pc' := 28) B 31 (by omega) (by omega) dX11_letPass_25 (by decide) rfl (fun c25 => ?_) (fun c25 => by exfalso; omega)
    refine g_iconst (pc' := 32) B dX11_letPass_31 rfl ?_
    refine g_iload_n (pc' := 33) B 1 rfl rfl dX11_letPass_32 rfl ?_
    refine g_bipush (pc' := 35) B (by decide +kernel) dX11_letPass_33 rfl ?_
    refine g_isub (pc' := 36) B dX11_letPass_35 rfl ?_
    refine g_mmax (pc' := 39) B (by omega) (by omega) tw_573 (by decide) (Nat.le_of_ble_eq_true rfl) (Nat.zero_le _) (Nat.zero_le _) dX11_letPass_36 rfl ?_
    refine g_istore_n (pc' := 40) B [(3, .int (iI (max 0 (n - 40)))), (0, .ref (K.2.2 0)), (1, .int (iI n)), (2, .int (iI h))] dX11_letPass_39 rfl rfl (by decide) rfl ?_
    refine g_aload_n (pc' := 41) B 1 rfl rfl dX11_letPass_40 rfl ?_
    refine g_getR (pc' := 44) B 31 fl_X11_33 rfl rfl dX11_letPass_41 rfl ?_
    refine g_iload_n (pc' := 45) B 0 rfl rfl dX11_letPass_44 rfl ?_
    refine g_iload_n (pc' := 46) B 3 rfl rfl dX11_letPass_45 rfl ?_
    refine g_callVV (pc' := 49) (As := [.int (iI (max 0 (n - 40))), .int (iI h)]) B (c_X5_pass l K _ (u := 31) (S := S) (X := X) (n := max 0 (n - 40)) (h := h) (by omega) (⟨hm.1, hm.2.1⟩) (by omega)) vt_X5_pass tw_574 rfl rfl ⟨by decide, by decide⟩ rfl (Nat.le_of_ble_eq_true rfl) ⟨Nat.zero_le _, Nat.zero_le _⟩ rfl dX11_letPass_46 rfl (fun τ46 h46 => ?_)
    subst h46
    refine g_iload_n (pc' := 50) B 0 rfl rfl dX11_letPass_49 rfl ?_
    refine g_istore (pc' := 52) B [(4, .int (iI (max 0 (n - 40)))), (3, .int (iI (max 0 (n - 40)))), (0, .ref (K.2.2 0)), (1, .int (iI n)), (2, .int (iI h))] dX11_letPass_50 rfl (by decide) rfl ?_
    have L52 : ∀ (nn : Nat) (ρ : SG) (i : Int) , (n - i).toNat = nn → (max 0 (n - 40) ≤ i ∧ i ≤ n) → (∀ k, (k < 31 ∨ 36 < k) → ρ k = σ k) → (tD ρ (tNg T (fun k j => en0 S X L P (hE h) k (((max 0 (n - 40)).toNat : Int) + j)) (i - max 0 (n - 40)).toNat)) → (ρ 31 0 = S + i ∧ ρ 31 1 = X + i * hE h ∧ ρ 31 2 = L ∧ ρ 31 3 = P) → G pP l eE (rmo 2 43) sS mM [.ref (K.2.2 0), .int (iI n), .int (iI h)].toArray bW mT cC 0 0 (MQ bW (Qi K (fun z τ => (((n < 1 ∨ 999 < n) ∧ τ = σ ∧ z = -1000000002) ∨ (¬ (n < 1 ∨ 999 < n) ∧ tD τ (tNg T (en0 S X L P (hE h)) n.toNat) ∧ (τ 31 0 = S + n ∧ τ 31 1 = X + n * hE h ∧ τ 31 2 = L ∧ τ 31 3 = P) ∧ (∀ k, (k < 31 ∨ 36 < k) → τ k = σ k) ∧ z = X + n * hE h)))) [.ref (K.2.2 0), .int (iI n), .int (iI h)].toArray sS 0 0 (wA K)) K sS.heap 5 ρ 52 [(4, .int (iI i)), (3, .int (iI (max 0 (n - 40)))), (0, .ref (K.2.2 0)), (1, .int (iI n)), (2, .int (iI h))] [] := by
      intro nn
      induction nn using Nat.strongRecOn with
      | _ nn ih52 =>
        intro ρ i hn52 i1 i2 i3 i4
        refine g_iload (pc' := 54) B 0 rfl dX11_letPass_52 rfl ?_
        refine g_iload_n (pc' := 55) B 3 rfl rfl dX11_letPass_54 rfl ?_
        refine g_icmp_ge (pc' := 58) B 84 (by omega) (by omega) dX11_letPass_55 (by decide) rfl (fun c55 => ?_) (fun c55 => ?_)
        · refine g_aload_n (pc' := 85) B 2 rfl rfl dX11_letPass_84 rfl ?_
          refine g_getR (pc' := 88) B 31 fl_X11_33 rfl rfl dX11_letPass_85 rfl ?_
          refine g_get (pc' := 91) B (X + i * hE h) i4.2.1 fl_X11_141 rfl rfl dX11_letPass_88 rfl ?_
          exact g_iret (z := X + i * hE h) B hrt rfl hlk dX11_letPass_91 (Or.inr (by have hin : i = n := (by omega); subst hin; exact ⟨h5, lp_end hT.2.2.1 (by omega) i3, i4, i2, rfl⟩))
        · refine g_aload_n (pc' := 59) B 2 rfl rfl dX11_letPass_58 rfl ?_
          refine g_getR (pc' := 62) B 32 fl_X11_40 rfl rfl dX11_letPass_59 rfl ?_
          refine g_aload_n (pc' := 63) B 2 rfl rfl dX11_letPass_62 rfl ?_
          refine g_getR (pc' := 66) B 31 fl_X11_33 rfl rfl dX11_letPass_63 rfl ?_
          refine g_callVV (pc' := 69) (As := [.ref (K.2.2 31)]) B (c_X10_note l K _ (T := (tNg T (fun k j => en0 S X L P (hE h) k (((max 0 (n - 40)).toNat : Int) + j)) (i - max 0 (n - 40)).toNat)) (S := S + i) (X := X + i * hE h) (L := L) (P := P) i3 i4) vt_X10_note tw_578 rfl rfl ⟨by decide, by decide⟩ rfl (Nat.le_of_ble_eq_true rfl) ⟨Nat.zero_le _, Nat.zero_le _⟩ rfl dX11_letPass_66 rfl (fun τ66 h66 => ?_)
          obtain ⟨h66a, h66b⟩ := h66
          have hm66 : τ66 31 0 = S + i ∧ τ66 31 1 = X + i * hE h ∧ τ66 31 2 = L ∧ τ66 31 3 = P := by rw [h66b 31 (by omega)]; exact i4
          refine g_aload_n (pc' := 70) B 2 rfl rfl dX11_letPass_69 rfl ?_
          refine g_getR (pc' := 73) B 31 fl_X11_33 rfl rfl dX11_letPass_70 rfl ?_
          refine g_iconst (pc' := 74) B dX11_letPass_73 rfl ?_
          refine g_iload_n (pc' := 75) B 4 rfl rfl dX11_letPass_74 rfl ?_
          refine g_callVV (pc' := 78) (As := [.int (iI 1), .int (iI h)]) B (c_X5_pass l K _ (u := 31) (S := S + i) (X := X + i * hE h) (n := 1) (h := h) (by omega) (⟨hm66.1, hm66.2.1⟩) (by omega)) vt_X5_pass tw_574 rfl rfl ⟨by decide, by decide⟩ rfl (Nat.le_of_ble_eq_true rfl) ⟨Nat.zero_le _, Nat.zero_le _⟩ rfl dX11_letPass_75 rfl (fun τ75 h75 => ?_)
          subst h75
          refine g_iinc (pc' := 81) B 0 [(4, .int (iI (i + 1))), (3, .int (iI (max 0 (n - 40)))), (0, .ref (K.2.2 0)), (1, .int (iI n)), (2, .int (iI h))] dX11_letPass_78 rfl rfl (by decide) rfl ?_
          refine g_goto (pc' := 52) B dX11_letPass_81 (by decide) ?_
          exact ih52 _ (by omega) (up (up τ66 31 0 ((S + i) + 1)) 31 1 ((X + i * hE h) + (if h = 0 then 1 else 0))) (i + 1) rfl (by omega) (by intro k hk; rw [up_row (by omega), up_row (by omega), h66b k (by omega)]; exact i2 k hk) (by rw [lp_step (by omega)]; exact h66a.keep (fun k a c => by rw [up_row (by omega), up_row (by omega)])) (by rw [hE_mul]; simp [up, hm66, Int.add_mul, Int.add_assoc])
    exact L52 _ (up (up σ 31 0 (S + (max 0 (n - 40)))) 31 1 (X + (if h = 0 then (max 0 (n - 40)) else 0))) (max 0 (n - 40)) rfl (by omega) (by intro k hk; rw [up_row (by omega), up_row (by omega)]) (by rw [show (max 0 (n - 40) - max 0 (n - 40)).toNat = 0 by omega]; exact hT.keep (fun k a c => by rw [up_row (by omega), up_row (by omega)])) (by rw [hE_mul]; simp [up, hm2, hm3])
set_option maxRecDepth 100000 in
set_option maxHeartbeats 4000000 in
theorem c_X11_step (l : Launch) (K : WK) (σ : SG) {T : SG} (hT : tD σ T) {S X L P : Int} (hm : σ 31 0 = S ∧ σ 31 1 = X ∧ σ 31 2 = L ∧ σ 31 3 = P) (hSX : 0 ≤ X ∧ X ≤ S ∧ S ≤ 70000) {n : Int} (hn : -2147483648 ≤ n ∧ n < 2147483648) : MI l yX11_step cX11_step 2 (some .int) 3 67 K σ [.ref (K.2.2 0), .int (iI n)] (fun z τ => (((n < 1 ∨ 999 < n) ∧ τ = σ ∧ z = -1000000002) ∨ (¬ (n < 1 ∨ 999 < n) ∧ tD τ (tNg T (en0 S X L P (hE 0)) n.toNat) ∧ (τ 31 0 = S + n ∧ τ 31 1 = X + n * hE 0 ∧ τ 31 2 = L ∧ τ 31 3 = P) ∧ (∀ k, (k < 31 ∨ 36 < k) → τ k = σ k) ∧ z = X + n * hE 0))) := by
  refine met_of [(0, .ref (K.2.2 0)), (1, .int (iI n))] (by decide +kernel) (Nat.le_of_ble_eq_true rfl) rfl ?_
  intro pP eE sS mM bW mT cC B hrt hlk
  replace B : CB pP sS mM [.ref (K.2.2 0), .int (iI n)].toArray cC cX11_step RX11 2 K := B
  refine g_aload_n (pc' := 1) B 0 rfl rfl dX11_step_0 rfl ?_
  refine g_iload_n (pc' := 2) B 1 rfl rfl dX11_step_1 rfl ?_
  refine g_iconst (pc' := 3) B dX11_step_2 rfl ?_
  refine g_callVI (pc' := 6) (As := [.int (iI n), .int (iI 0)]) B (c_X11_letPass l K _ (T := T) (S := S) (X := X) (L := L) (P := P) (n := n) (h := 0) hT hm (by omega) (by omega) (by omega)) vt_X11_letPass tw_568 rfl rfl ⟨by decide, by decide⟩ rfl (Nat.le_of_ble_eq_true rfl) ⟨Nat.zero_le _, Nat.zero_le _⟩ rfl dX11_step_3 rfl (fun z3 τ3 h3 => ?_)
  exact g_iret (z := z3) B hrt rfl hlk dX11_step_6 h3
set_option maxRecDepth 100000 in
set_option maxHeartbeats 4000000 in
theorem c_X11_hold (l : Launch) (K : WK) (σ : SG) {T : SG} (hT : tD σ T) {S X L P : Int} (hm : σ 31 0 = S ∧ σ 31 1 = X ∧ σ 31 2 = L ∧ σ 31 3 = P) (hSX : 0 ≤ X ∧ X ≤ S ∧ S ≤ 70000) {n : Int} (hn : -2147483648 ≤ n ∧ n < 2147483648) : MI l yX11_hold cX11_hold 2 (some .int) 3 67 K σ [.ref (K.2.2 0), .int (iI n)] (fun z τ => (((n < 1 ∨ 999 < n) ∧ τ = σ ∧ z = -1000000002) ∨ (¬ (n < 1 ∨ 999 < n) ∧ tD τ (tNg T (en0 S X L P (hE 1)) n.toNat) ∧ (τ 31 0 = S + n ∧ τ 31 1 = X + n * hE 1 ∧ τ 31 2 = L ∧ τ 31 3 = P) ∧ (∀ k, (k < 31 ∨ 36 < k) → τ k = σ k) ∧ z = X + n * hE 1))) := by
  refine met_of [(0, .ref (K.2.2 0)), (1, .int (iI n))] (by decide +kernel) (Nat.le_of_ble_eq_true rfl) rfl ?_
  intro pP eE sS mM bW mT cC B hrt hlk
  replace B : CB pP sS mM [.ref (K.2.2 0), .int (iI n)].toArray cC cX11_hold RX11 2 K := B
  refine g_aload_n (pc' := 1) B 0 rfl rfl dX11_hold_0 rfl ?_
  refine g_iload_n (pc' := 2) B 1 rfl rfl dX11_hold_1 rfl ?_
  refine g_iconst (pc' := 3) B dX11_hold_2 rfl ?_
  refine g_callVI (pc' := 6) (As := [.int (iI n), .int (iI 1)]) B (c_X11_letPass l K _ (T := T) (S := S) (X := X) (L := L) (P := P) (n := n) (h := 1) hT hm (by omega) (by omega) (by omega)) vt_X11_letPass tw_568 rfl rfl ⟨by decide, by decide⟩ rfl (Nat.le_of_ble_eq_true rfl) ⟨Nat.zero_le _, Nat.zero_le _⟩ rfl dX11_hold_3 rfl (fun z3 τ3 h3 => ?_)
  exact g_iret (z := z3) B hrt rfl hlk dX11_hold_6 h3
