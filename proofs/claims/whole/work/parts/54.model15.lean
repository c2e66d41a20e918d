theorem up_up (σ : SG) (k : Nat) (i v w : Int) : up (up σ k i v) k i w = up σ k i w := by
  funext k' j
  unfold up
  split <;> rfl
theorem mtx.keep {σ τ : SG} {tx : Int → Int} {n : Int} (h : mtx σ tx n) (e1 : τ 57 14 = σ 57 14) (e2 : τ 63 = σ 63) : mtx τ tx n := by
  unfold mtx at *
  rw [e1, e2]; exact h
theorem lhM_bd {σ : SG} {tx : Int → Int} {n : Int} (h : mtx σ tx n) (a : Int) : -1 ≤ lh tx n a ∧ lh tx n a ≤ 255 := by
  unfold lh
  split
  · rename_i q
    have := h.2.2 a q.1 q.2
    omega
  · omega
def mcx (σ P : SG) : Prop := σ 57 17 = P 11 1 ∧ σ 57 18 = P 11 2 ∧ (P 11 1 = 0 → σ 57 15 = P 11 0)
theorem nm_at {tx : Int → Int} {n lo hi : Int} {P : SG} (hz : P 11 1 = 0) : nm tx n lo hi P 11 0 = nrA tx n (P 11 0) ∧ nm tx n lo hi P 11 1 = nrK tx n lo hi (P 11 0) ∧ nm tx n lo hi P 11 2 = nrP tx n lo hi (P 11 0) (P 11 2) := by
  unfold nm
  rw [if_pos hz]
  simp [up]
theorem mcx_nm {τ : SG} {tx : Int → Int} {n lo hi : Int} {P : SG} (hz : P 11 1 = 0) (h1 : τ 57 17 = nrK tx n lo hi (P 11 0)) (h2 : τ 57 18 = nrP tx n lo hi (P 11 0) (P 11 2)) (h3 : τ 57 15 = nrA tx n (P 11 0)) : mcx τ (nm tx n lo hi P) := by
  obtain ⟨e0, e1, e2⟩ := nm_at (tx := tx) (n := n) (lo := lo) (hi := hi) hz
  exact ⟨by rw [e1]; exact h1, by rw [e2]; exact h2, fun _ => by rw [e0]; exact h3⟩
theorem nm_f {tx : Int → Int} {n lo hi : Int} {P : SG} (h : P 11 1 ≠ 0) : nm tx n lo hi P = P := if_neg h
theorem nr_none {tx : Int → Int} {n lo hi a p : Int} (h0 : 0 ≤ sb tx n a) (h : ¬ (48 ≤ lh tx n (sb tx n a) ∧ lh tx n (sb tx n a) ≤ 57)) : nrA tx n a = sb tx n a ∧ nrK tx n lo hi a = 1 ∧ nrP tx n lo hi a p = sb tx n a := by
  have e : nrA tx n a = sb tx n a := by
    unfold nrA
    refine dg_stop ?_
    by_cases q : n ≤ sb tx n a
    · exact Or.inl q
    · refine Or.inr (fun q2 => h ?_)
      unfold lh
      rw [if_pos (by omega)]; exact q2
  refine ⟨e, ?_, ?_⟩
  · unfold nrK; rw [if_pos e]
  · unfold nrP; rw [if_pos e]; exact e
theorem dg_gt {tx : Int → Int} {n s : Int} (h : 48 ≤ lh tx n s ∧ lh tx n s ≤ 57) : s < dg tx n s := by
  unfold lh at h
  split at h
  · rename_i q
    rw [dg_go q.2 h]
    have := (dg_in tx n (s + 1)).1
    omega
  · omega
theorem nr_good {tx : Int → Int} {n lo hi a p v q : Int} (hA : nrA tx n a = p) (h1 : sb tx n a < p) (h2 : p - sb tx n a ≤ 3) (hv : v = vlF tx (sb tx n a) (p - sb tx n a).toNat) (hr : lo ≤ v ∧ v ≤ hi) : nrK tx n lo hi a = 0 ∧ nrP tx n lo hi a q = q ∧ nrV tx n a = v := by
  have e : nrV tx n a = v := by
    unfold nrV
    rw [hA, show min 3 (p - sb tx n a) = p - sb tx n a by omega, ← hv]
  refine ⟨?_, ?_, e⟩
  · unfold nrK; rw [hA, e, if_neg (by omega), if_neg (by omega)]
  · unfold nrP; rw [hA, e, if_neg (by omega), if_neg (by omega)]
theorem nr_bad {tx : Int → Int} {n lo hi a p v q : Int} (hA : nrA tx n a = p) (h1 : sb tx n a < p) (hv : p - sb tx n a ≤ 3 → v = vlF tx (sb tx n a) (p - sb tx n a).toNat) (hr : 3 < p - sb tx n a ∨ ¬ (lo ≤ v ∧ v ≤ hi)) : nrK tx n lo hi a = 2 ∧ nrP tx n lo hi a q = sb tx n a := by
  have hc : 3 < nrA tx n a - sb tx n a ∨ (nrV tx n a < lo ∨ hi < nrV tx n a) := by
    rw [hA]
    by_cases q : 3 < p - sb tx n a
    · exact Or.inl q
    · right
      have e : nrV tx n a = v := by
        unfold nrV
        rw [hA, show min 3 (p - sb tx n a) = p - sb tx n a by omega, ← hv (by omega)]
      rw [e]; omega
  refine ⟨?_, ?_⟩
  · unfold nrK; rw [if_neg (by omega), if_pos hc]
  · unfold nrP; rw [if_neg (by omega), if_pos hc]
set_option maxRecDepth 100000 in
set_option maxHeartbeats 4000000 in
theorem c_X12_want1 (l : Launch) (K : WK) (σ : SG) {m w : Int} (h0 : σ 57 17 = 0) : MI l yX12_want cX12_want 4 (some .boolean) 0 0 K σ [.ref (K.2.2 57), .int (iI 1), .int (iI m), .int (iI w)] (fun z τ => σ = τ ∧ z = 1) := by
  refine met_of [(0, .ref (K.2.2 57)), (1, .int (iI 1)), (2, .int (iI m)), (3, .int (iI w))] (by decide +kernel) (Nat.le_of_ble_eq_true rfl) rfl ?_
  intro pP eE sS mM bW mT cC B hrt hlk
  replace B : CB pP sS mM [.ref (K.2.2 57), .int (iI 1), .int (iI m), .int (iI w)].toArray cC cX12_want RX12 4 K := B
  refine g_iload_n (pc' := 1) B 1 rfl rfl dX12_want_0 rfl ?_
  refine g_if_ne (pc' := 4) B 21 (by omega) dX12_want_1 (by decide) rfl (fun _ => ?_) (fun q => absurd q (by decide))
  refine g_aload_n (pc' := 22) B 0 rfl rfl dX12_want_21 rfl ?_
  refine g_get (pc' := 25) B 0 h0 fl_X12_80 rfl rfl dX12_want_22 rfl ?_
  refine g_if_ne (pc' := 28) B 32 (by omega) dX12_want_25 (by decide) rfl (fun q => absurd q (by decide)) (fun _ => ?_)
  refine g_iconst (pc' := 29) B dX12_want_28 rfl ?_
  refine g_goto (pc' := 33) B dX12_want_29 (by decide) ?_
  exact g_iret (z := 1) B hrt rfl hlk dX12_want_33 ⟨rfl, rfl⟩
set_option maxRecDepth 100000 in
set_option maxHeartbeats 4000000 in
theorem c_X12_want0 (l : Launch) (K : WK) (σ : SG) {m w : Int} (h0 : σ 57 17 = 0) (hm : m ≠ 0) (hmr : -2147483648 ≤ m ∧ m < 2147483648) : MI l yX12_want cX12_want 4 (some .boolean) 0 0 K σ [.ref (K.2.2 57), .int (iI 0), .int (iI m), .int (iI w)] (fun z τ => τ = up (up σ 57 17 m) 57 18 w ∧ z = 0) := by
  refine met_of [(0, .ref (K.2.2 57)), (1, .int (iI 0)), (2, .int (iI m)), (3, .int (iI w))] (by decide +kernel) (Nat.le_of_ble_eq_true rfl) rfl ?_
  intro pP eE sS mM bW mT cC B hrt hlk
  replace B : CB pP sS mM [.ref (K.2.2 57), .int (iI 0), .int (iI m), .int (iI w)].toArray cC cX12_want RX12 4 K := B
  refine g_iload_n (pc' := 1) B 1 rfl rfl dX12_want_0 rfl ?_
  refine g_if_ne (pc' := 4) B 21 (by omega) dX12_want_1 (by decide) rfl (fun q => absurd q (by decide)) (fun _ => ?_)
  refine g_aload_n (pc' := 5) B 0 rfl rfl dX12_want_4 rfl ?_
  refine g_get (pc' := 8) B 0 h0 fl_X12_80 rfl rfl dX12_want_5 rfl ?_
  refine g_if_ne (pc' := 11) B 21 (by omega) dX12_want_8 (by decide) rfl (fun q => absurd q (by decide)) (fun _ => ?_)
  refine g_aload_n (pc' := 12) B 0 rfl rfl dX12_want_11 rfl ?_
  refine g_iload_n (pc' := 13) B 2 rfl rfl dX12_want_12 rfl ?_
  refine g_put (pc' := 16) B 17 rfl fp_X12_80 rfl rfl dX12_want_13 rfl ?_
  refine g_aload_n (pc' := 17) B 0 rfl rfl dX12_want_16 rfl ?_
  refine g_iload_n (pc' := 18) B 3 rfl rfl dX12_want_17 rfl ?_
  refine g_put (pc' := 21) B 18 rfl fp_X12_29 rfl rfl dX12_want_18 rfl ?_
  refine g_aload_n (pc' := 22) B 0 rfl rfl dX12_want_21 rfl ?_
  refine g_get (pc' := 25) B m (by simp [up]) fl_X12_80 rfl rfl dX12_want_22 rfl ?_
  refine g_if_ne (pc' := 28) B 32 (by omega) dX12_want_25 (by decide) rfl (fun c25 => ?_) (fun c25 => by exfalso; omega)
  refine g_iconst (pc' := 33) B dX12_want_32 rfl ?_
  exact g_iret (z := 0) B hrt rfl hlk dX12_want_33 ⟨rfl, rfl⟩
set_option maxRecDepth 100000 in
set_option maxHeartbeats 4000000 in
theorem c_X12_here (l : Launch) (K : WK) (σ : SG) {tx : Int → Int} {n : Int} (hT : mtx σ tx n) {a b : Int} (ha : σ 57 15 = a) (ha0 : 0 ≤ a ∧ a ≤ n) (hb : b = sb tx n a) : MI l yX12_here cX12_here 1 (some .int) 0 0 K σ [.ref (K.2.2 57)] (fun z τ => τ = up σ 57 15 b ∧ z = lh tx n b) := by
  refine met_of [(0, .ref (K.2.2 57))] (by decide +kernel) (Nat.le_of_ble_eq_true rfl) rfl ?_
  intro pP eE sS mM bW mT cC B hrt hlk
  replace B : CB pP sS mM [.ref (K.2.2 57)].toArray cC cX12_here RX12 1 K := B
  obtain ⟨hT1, hT2, hT3⟩ := id hT
  have L0 : ∀ (nn : Nat) (ρ : SG) (p : Int) , (n - p).toNat = nn → (0 ≤ p ∧ p ≤ n) → (ρ = up σ 57 15 p) → (sb tx n p = b) → G pP l eE (rmo 0 0) sS mM [.ref (K.2.2 57)].toArray bW mT cC 0 0 (MQ bW (Qi K (fun z τ => τ = up σ 57 15 b ∧ z = lh tx n b)) [.ref (K.2.2 57)].toArray sS 0 0 (wA K)) K sS.heap 1 ρ 0 [(0, .ref (K.2.2 57))] [] := by
    intro nn
    induction nn using Nat.strongRecOn with
    | _ nn ih0 =>
      intro ρ p hn0 i1 i2 i3
      refine g_aload_n (pc' := 1) B 0 rfl rfl dX12_here_0 rfl ?_
      refine g_get (pc' := 4) B p (by rw [i2]; exact up_same _ _ _ _) fl_X12_77 rfl rfl dX12_here_1 rfl ?_
      refine g_aload_n (pc' := 5) B 0 rfl rfl dX12_here_4 rfl ?_
      refine g_get (pc' := 8) B n (by rw [i2, up_col (by decide)]; exact hT1) fl_X12_73 rfl rfl dX12_here_5 rfl ?_
      refine g_icmp_ge (pc' := 11) B 38 (by omega) (by omega) dX12_here_8 (by decide) rfl (fun c8 => ?_) (fun c8 => ?_)
      · have hst : sb tx n p = p := sb_stop (Or.inl (by omega))
        refine g_aload_n (pc' := 39) B 0 rfl rfl dX12_here_38 rfl ?_
        refine g_get (pc' := 42) B p (by rw [i2]; exact up_same _ _ _ _) fl_X12_77 rfl rfl dX12_here_39 rfl ?_
        refine g_aload_n (pc' := 43) B 0 rfl rfl dX12_here_42 rfl ?_
        refine g_get (pc' := 46) B n (by rw [i2, up_col (by decide)]; exact hT1) fl_X12_73 rfl rfl dX12_here_43 rfl ?_
        refine g_icmp_ge (pc' := 49) B 61 (by omega) (by omega) dX12_here_46 (by decide) rfl (fun c46 => ?_) (fun c46 => ?_)
        · refine g_iconst (pc' := 62) B dX12_here_61 rfl ?_
          exact g_iret (z := (-1)) B hrt rfl hlk dX12_here_62 ⟨by rw [i2, ← i3, hst], by rw [← i3, hst]; unfold lh; first | (rw [if_pos (by omega)]; done) | (rw [if_neg (by omega)]; done)⟩
        · refine g_aload_n (pc' := 50) B 0 rfl rfl dX12_here_49 rfl ?_
          refine g_getR (pc' := 53) B 63 fl_X12_26 rfl rfl dX12_here_50 rfl ?_
          refine g_aload_n (pc' := 54) B 0 rfl rfl dX12_here_53 rfl ?_
          refine g_get (pc' := 57) B p (by rw [i2]; exact up_same _ _ _ _) fl_X12_77 rfl rfl dX12_here_54 rfl ?_
          refine g_iald (pc' := 58) B (tx p) (by rw [i2, up_row (by decide)]; exact (hT3 p (by omega) (by omega)).1) rfl (by omega) (by decide) dX12_here_57 rfl ?_
          refine g_goto (pc' := 62) B dX12_here_58 (by decide) ?_
          exact g_iret (z := tx p) B hrt rfl hlk dX12_here_62 ⟨by rw [i2, ← i3, hst], by rw [← i3, hst]; unfold lh; first | (rw [if_pos (by omega)]; done) | (rw [if_neg (by omega)]; done)⟩
      · have hx9 := hT3 p (by omega) (by omega)
        refine g_aload_n (pc' := 12) B 0 rfl rfl dX12_here_11 rfl ?_
        refine g_getR (pc' := 15) B 63 fl_X12_26 rfl rfl dX12_here_12 rfl ?_
        refine g_aload_n (pc' := 16) B 0 rfl rfl dX12_here_15 rfl ?_
        refine g_get (pc' := 19) B p (by rw [i2]; exact up_same _ _ _ _) fl_X12_77 rfl rfl dX12_here_16 rfl ?_
        refine g_iald (pc' := 20) B (tx p) (by rw [i2, up_row (by decide)]; exact (hT3 p (by omega) (by omega)).1) rfl (by omega) (by decide) dX12_here_19 rfl ?_
        refine g_bipush (pc' := 22) B (by decide +kernel) dX12_here_20 rfl ?_
        refine g_icmp_ne (pc' := 25) B 38 (by omega) (by omega) dX12_here_22 (by decide) rfl (fun c22 => ?_) (fun c22 => ?_)
        · have hst : sb tx n p = p := sb_stop (Or.inr c22)
          refine g_aload_n (pc' := 39) B 0 rfl rfl dX12_here_38 rfl ?_
          refine g_get (pc' := 42) B p (by rw [i2]; exact up_same _ _ _ _) fl_X12_77 rfl rfl dX12_here_39 rfl ?_
          refine g_aload_n (pc' := 43) B 0 rfl rfl dX12_here_42 rfl ?_
          refine g_get (pc' := 46) B n (by rw [i2, up_col (by decide)]; exact hT1) fl_X12_73 rfl rfl dX12_here_43 rfl ?_
          refine g_icmp_ge (pc' := 49) B 61 (by omega) (by omega) dX12_here_46 (by decide) rfl (fun c46 => ?_) (fun c46 => ?_)
          · refine g_iconst (pc' := 62) B dX12_here_61 rfl ?_
            exact g_iret (z := (-1)) B hrt rfl hlk dX12_here_62 ⟨by rw [i2, ← i3, hst], by rw [← i3, hst]; unfold lh; first | (rw [if_pos (by omega)]; done) | (rw [if_neg (by omega)]; done)⟩
          · refine g_aload_n (pc' := 50) B 0 rfl rfl dX12_here_49 rfl ?_
            refine g_getR (pc' := 53) B 63 fl_X12_26 rfl rfl dX12_here_50 rfl ?_
            refine g_aload_n (pc' := 54) B 0 rfl rfl dX12_here_53 rfl ?_
            refine g_get (pc' := 57) B p (by rw [i2]; exact up_same _ _ _ _) fl_X12_77 rfl rfl dX12_here_54 rfl ?_
            refine g_iald (pc' := 58) B (tx p) (by rw [i2, up_row (by decide)]; exact (hT3 p (by omega) (by omega)).1) rfl (by omega) (by decide) dX12_here_57 rfl ?_
            refine g_goto (pc' := 62) B dX12_here_58 (by decide) ?_
            exact g_iret (z := tx p) B hrt rfl hlk dX12_here_62 ⟨by rw [i2, ← i3, hst], by rw [← i3, hst]; unfold lh; first | (rw [if_pos (by omega)]; done) | (rw [if_neg (by omega)]; done)⟩
        · refine g_aload_n (pc' := 26) B 0 rfl rfl dX12_here_25 rfl ?_
          refine g_dup (pc' := 27) B rfl dX12_here_26 rfl ?_
          refine g_get (pc' := 30) B p (by rw [i2]; exact up_same _ _ _ _) fl_X12_77 rfl rfl dX12_here_27 rfl ?_
          refine g_iconst (pc' := 31) B dX12_here_30 rfl ?_
          refine g_iadd (pc' := 32) B dX12_here_31 rfl ?_
          refine g_put (pc' := 35) B 15 rfl fp_X12_77 rfl rfl dX12_here_32 rfl ?_
          refine g_goto (pc' := 0) B dX12_here_35 (by decide) ?_
          exact ih0 _ (by omega) (up ρ 57 15 (p + 1)) (p + 1) rfl (by omega) (by rw [i2, up_up]) (by rw [← i3]; exact (sb_go (by omega) c22).symm)
  exact L0 _ σ a rfl (by omega) (by exact (up_id ha).symm) (by exact hb.symm)
set_option maxRecDepth 100000 in
set_option maxHeartbeats 4000000 in
theorem c_X12_takeNumber (l : Launch) (K : WK) (σ : SG) {tx : Int → Int} {n : Int} (hT : mtx σ tx n) {P : SG} (hP : mcx σ P) (hb0 : pbd n P) {lo hi : Int} (hlo : -10 ≤ lo ∧ lo ≤ 1000) (hhi : -10 ≤ hi ∧ hi ≤ 1000) : MI l yX12_takeNumber cX12_takeNumber 6 (some .int) 1 25 K σ [.ref (K.2.2 57), .int (iI lo), .int (iI hi)] (fun z τ => mcx τ (nm tx n lo hi P) ∧ (nm tx n lo hi P 11 1 = 0 → z = nv tx n P) ∧ (∀ j : Int, j ≠ 15 → j ≠ 16 → j ≠ 17 → j ≠ 18 → τ 57 j = σ 57 j) ∧ ∀ k, k ≠ 57 → τ k = σ k) := by
  refine met_of [(0, .ref (K.2.2 57)), (1, .int (iI lo)), (2, .int (iI hi))] (by decide +kernel) (Nat.le_of_ble_eq_true rfl) rfl ?_
  intro pP eE sS mM bW mT cC B hrt hlk
  replace B : CB pP sS mM [.ref (K.2.2 57), .int (iI lo), .int (iI hi)].toArray cC cX12_takeNumber RX12 6 K := B
  obtain ⟨hT1, hT2, hT3⟩ := id hT
  have hs9 := sb_in tx n (P 11 0)
  have hb1 := hb0.1
  have hb2 := hb0.2
  have hlh := lhM_bd hT (sb tx n (P 11 0))
  refine g_aload_n (pc' := 1) B 0 rfl rfl dX12_takeNumber_0 rfl ?_
  refine g_get (pc' := 4) B (P 11 1) hP.1 fl_X12_80 rfl rfl dX12_takeNumber_1 rfl ?_
  refine g_if_le (pc' := 7) B 9 (by omega) dX12_takeNumber_4 (by decide) rfl (fun c4 => ?_) (fun c4 => ?_)
  · have hz : P 11 1 = 0 := by omega
    refine g_aload_n (pc' := 10) B 0 rfl rfl dX12_takeNumber_9 rfl ?_
    refine g_callVI (pc' := 13) (As := []) B (c_X12_here l K _ (tx := tx) (n := n) (a := P 11 0) (b := sb tx n (P 11 0)) hT (hP.2.2 hz) (by omega) rfl) vt_X12_here tw_1050 rfl rfl ⟨by decide, by decide⟩ rfl (Nat.le_of_ble_eq_true rfl) ⟨Nat.zero_le _, Nat.zero_le _⟩ rfl dX12_takeNumber_10 rfl (fun z10 τ10 h10 => ?_)
    obtain ⟨h10a, h10b⟩ := h10
    subst h10a
    subst h10b
    refine g_istore_n (pc' := 14) B [(3, .int (iI (lh tx n (sb tx n (P 11 0))))), (0, .ref (K.2.2 57)), (1, .int (iI lo)), (2, .int (iI hi))] dX12_takeNumber_13 rfl rfl (by decide) rfl ?_
    refine g_aload_n (pc' := 15) B 1 rfl rfl dX12_takeNumber_14 rfl ?_
    refine g_aload_n (pc' := 16) B 1 rfl rfl dX12_takeNumber_15 rfl ?_
    refine g_get (pc' := 19) B (sb tx n (P 11 0)) (by simp [up]) fl_X12_77 rfl rfl dX12_takeNumber_16 rfl ?_
    refine g_put (pc' := 22) B 16 rfl fp_X12_87 rfl rfl dX12_takeNumber_19 rfl ?_
    refine g_aload_n (pc' := 23) B 1 rfl rfl dX12_takeNumber_22 rfl ?_
    refine g_iload_n (pc' := 24) B 0 rfl rfl dX12_takeNumber_23 rfl ?_
    refine g_i2l (pc' := 25) B (by omega) dX12_takeNumber_24 rfl ?_
    refine g_ldc2 (z := 48) (pc' := 28) B tw_1070 (by decide +kernel) dX12_takeNumber_25 rfl ?_
    refine g_ldc2 (z := 57) (pc' := 31) B tw_1071 (by decide +kernel) dX12_takeNumber_28 rfl ?_
    refine g_callSI (pc' := 34) (As := [.long (lI (lh tx n (sb tx n (P 11 0)))), .long (lI 48), .long (lI 57)]) B (c_X12_in l K _ (v := lh tx n (sb tx n (P 11 0))) (a := 48) (b := 57) (by omega) (by omega) (by omega)) st_X12_in tw_1041 ⟨by decide, by decide⟩ rfl (Nat.le_of_ble_eq_true rfl) ⟨Nat.zero_le _, Nat.zero_le _⟩ rfl dX12_takeNumber_31 rfl (fun z31 τ31 h31 => ?_)
    obtain ⟨rfl, h31⟩ := h31
    rcases h31 with ⟨h31, rfl⟩ | ⟨h31, rfl⟩
    · refine g_iconst (pc' := 35) B dX12_takeNumber_34 rfl ?_
      refine g_aload_n (pc' := 36) B 1 rfl rfl dX12_takeNumber_35 rfl ?_
      refine g_get (pc' := 39) B (sb tx n (P 11 0)) (by simp [up]) fl_X12_77 rfl rfl dX12_takeNumber_36 rfl ?_
      refine g_callVI (pc' := 42) (As := [.int (iI 1), .int (iI 1), .int (iI (sb tx n (P 11 0)))]) B (c_X12_want1 l K _ (m := 1) (w := (sb tx n (P 11 0))) (by simp [up]; exact hP.1.trans hz)) vt_X12_want tw_1058 rfl rfl ⟨by decide, by decide⟩ rfl (Nat.le_of_ble_eq_true rfl) ⟨Nat.zero_le _, Nat.zero_le _⟩ rfl dX12_takeNumber_39 rfl (fun z39 τ39 h39 => ?_)
      obtain ⟨rfl, rfl⟩ := h39
      refine g_if_ne (pc' := 45) B 47 (by omega) dX12_takeNumber_42 (by decide) rfl (fun _ => ?_) (fun q => absurd q (by decide))
      refine g_iconst (pc' := 48) B dX12_takeNumber_47 rfl ?_
      refine g_istore (pc' := 50) B [(4, .int (iI 0)), (3, .int (iI (lh tx n (sb tx n (P 11 0))))), (0, .ref (K.2.2 57)), (1, .int (iI lo)), (2, .int (iI hi))] dX12_takeNumber_48 rfl (by decide) rfl ?_
      have L50 : ∀ (nn : Nat) (ρ : SG) (v : Int) (p : Int) , (n - p).toNat = nn → (sb tx n (P 11 0) ≤ p ∧ p ≤ n) → (ρ 57 15 = p ∧ ρ 57 16 = sb tx n (P 11 0) ∧ ρ 57 17 = 0 ∧ ρ 57 18 = P 11 2) → (∀ j : Int, j ≠ 15 → j ≠ 16 → j ≠ 17 → j ≠ 18 → ρ 57 j = σ 57 j) → (∀ k, k ≠ 57 → ρ k = σ k) → (dg tx n p = dg tx n (sb tx n (P 11 0))) → (0 ≤ v ∧ v ≤ 1000009) → ((p - sb tx n (P 11 0) = 0 → v = 0) ∧ (p - sb tx n (P 11 0) = 1 → v ≤ 9) ∧ (p - sb tx n (P 11 0) = 2 → v ≤ 99) ∧ (p - sb tx n (P 11 0) ≤ 3 → v = vlF tx (sb tx n (P 11 0)) (p - sb tx n (P 11 0)).toNat)) → G pP l eE (rmo 1 25) sS mM [.ref (K.2.2 57), .int (iI lo), .int (iI hi)].toArray bW mT cC 0 0 (MQ bW (Qi K (fun z τ => mcx τ (nm tx n lo hi P) ∧ (nm tx n lo hi P 11 1 = 0 → z = nv tx n P) ∧ (∀ j : Int, j ≠ 15 → j ≠ 16 → j ≠ 17 → j ≠ 18 → τ 57 j = σ 57 j) ∧ ∀ k, k ≠ 57 → τ k = σ k)) [.ref (K.2.2 57), .int (iI lo), .int (iI hi)].toArray sS 0 0 (wA K)) K sS.heap 6 ρ 50 [(4, .int (iI v)), (3, .int (iI (lh tx n (sb tx n (P 11 0))))), (0, .ref (K.2.2 57)), (1, .int (iI lo)), (2, .int (iI hi))] [] := by
        intro nn
        induction nn using Nat.strongRecOn with
        | _ nn ih50 =>
          intro ρ v p hn50 i1 i2 i3 i4 i5 i6 i7
          refine g_aload_n (pc' := 51) B 2 rfl rfl dX12_takeNumber_50 rfl ?_
          refine g_get (pc' := 54) B p i2.1 fl_X12_77 rfl rfl dX12_takeNumber_51 rfl ?_
          refine g_aload_n (pc' := 55) B 2 rfl rfl dX12_takeNumber_54 rfl ?_
          refine g_get (pc' := 58) B n ((i3 14 (by decide) (by decide) (by decide) (by decide)).trans hT1) fl_X12_73 rfl rfl dX12_takeNumber_55 rfl ?_
          refine g_icmp_ge (pc' := 61) B 128 (by omega) (by omega) dX12_takeNumber_58 (by decide) rfl (fun c58 => ?_) (fun c58 => ?_)
          · have hdg : nrA tx n (P 11 0) = p := by unfold nrA; rw [← i5]; exact dg_stop (by first | exact Or.inl (by omega) | exact Or.inr h77)
            have hgt9 : sb tx n (P 11 0) < p := by have q9 := dg_gt h31; unfold nrA at hdg; omega
            refine g_aload_n (pc' := 129) B 2 rfl rfl dX12_takeNumber_128 rfl ?_
            refine g_aload_n (pc' := 130) B 2 rfl rfl dX12_takeNumber_129 rfl ?_
            refine g_get (pc' := 133) B p i2.1 fl_X12_77 rfl rfl dX12_takeNumber_130 rfl ?_
            refine g_aload_n (pc' := 134) B 2 rfl rfl dX12_takeNumber_133 rfl ?_
            refine g_get (pc' := 137) B (sb tx n (P 11 0)) i2.2.1 fl_X12_87 rfl rfl dX12_takeNumber_134 rfl ?_
            refine g_isub (pc' := 138) B dX12_takeNumber_137 rfl ?_
            refine g_iconst (pc' := 139) B dX12_takeNumber_138 rfl ?_
            refine g_icmp_ge (pc' := 142) B 159 (by omega) (by omega) dX12_takeNumber_139 (by decide) rfl (fun c139 => ?_) (fun c139 => ?_)
            · refine g_iconst (pc' := 160) B dX12_takeNumber_159 rfl ?_
              refine g_iconst (pc' := 161) B dX12_takeNumber_160 rfl ?_
              refine g_aload_n (pc' := 162) B 2 rfl rfl dX12_takeNumber_161 rfl ?_
              refine g_get (pc' := 165) B (sb tx n (P 11 0)) i2.2.1 fl_X12_87 rfl rfl dX12_takeNumber_162 rfl ?_
              refine g_callVI (pc' := 168) (As := [.int (iI 0), .int (iI 2), .int (iI (sb tx n (P 11 0)))]) B (c_X12_want0 l K _ (m := 2) (w := sb tx n (P 11 0)) i2.2.2.1 (by omega) (by omega)) vt_X12_want tw_1058 rfl rfl ⟨by decide, by decide⟩ rfl (Nat.le_of_ble_eq_true rfl) ⟨Nat.zero_le _, Nat.zero_le _⟩ rfl dX12_takeNumber_165 rfl (fun z165 τ165 h165 => ?_)
              obtain ⟨h165a, h165b⟩ := h165
              subst h165a
              subst h165b
              refine g_istore (pc' := 170) B [(5, .int (iI 0)), (4, .int (iI v)), (3, .int (iI (lh tx n (sb tx n (P 11 0))))), (0, .ref (K.2.2 57)), (1, .int (iI lo)), (2, .int (iI hi))] dX12_takeNumber_168 rfl (by decide) rfl ?_
              refine g_iload (pc' := 172) B 1 rfl dX12_takeNumber_170 rfl ?_
              exact g_iret (z := v) B hrt rfl hlk dX12_takeNumber_172 (by have nrn := @nr_bad tx n lo hi (P 11 0) p v (P 11 2) hdg hgt9 i7.2.2.2 (by first | exact Or.inr h149 | (left; omega)); exact ⟨mcx_nm hz (by rw [nrn.1]; simp [up]) (by rw [nrn.2]; simp [up]) (by rw [hdg]; simp [up]; exact i2.1), fun q9 => by rw [(nm_at hz).2.1, nrn.1] at q9; omega, fun j a b c d => by rw [up_col d, up_col c]; exact i3 j a b c d, fun k a => by rw [up_row a, up_row a]; exact i4 k a⟩)
            · refine g_iload (pc' := 144) B 0 rfl dX12_takeNumber_142 rfl ?_
              refine g_i2l (pc' := 145) B (by omega) dX12_takeNumber_144 rfl ?_
              refine g_iload_n (pc' := 146) B 3 rfl rfl dX12_takeNumber_145 rfl ?_
              refine g_i2l (pc' := 147) B (by omega) dX12_takeNumber_146 rfl ?_
              refine g_iload_n (pc' := 148) B 4 rfl rfl dX12_takeNumber_147 rfl ?_
              refine g_i2l (pc' := 149) B (by omega) dX12_takeNumber_148 rfl ?_
              refine g_callSI (pc' := 152) (As := [.long (lI v), .long (lI lo), .long (lI hi)]) B (c_X12_in l K _ (v := v) (a := lo) (b := hi) (by omega) (by omega) (by omega)) st_X12_in tw_1041 ⟨by decide, by decide⟩ rfl (Nat.le_of_ble_eq_true rfl) ⟨Nat.zero_le _, Nat.zero_le _⟩ rfl dX12_takeNumber_149 rfl (fun z149 τ149 h149 => ?_)
              obtain ⟨rfl, h149⟩ := h149
              rcases h149 with ⟨h149, rfl⟩ | ⟨h149, rfl⟩
              · refine g_if_eq (pc' := 155) B 159 (by omega) dX12_takeNumber_152 (by decide) rfl (fun q => absurd q (by decide)) (fun _ => ?_)
                refine g_iconst (pc' := 156) B dX12_takeNumber_155 rfl ?_
                refine g_goto (pc' := 160) B dX12_takeNumber_156 (by decide) ?_
                refine g_iconst (pc' := 161) B dX12_takeNumber_160 rfl ?_
                refine g_aload_n (pc' := 162) B 2 rfl rfl dX12_takeNumber_161 rfl ?_
                refine g_get (pc' := 165) B (sb tx n (P 11 0)) i2.2.1 fl_X12_87 rfl rfl dX12_takeNumber_162 rfl ?_
                refine g_callVI (pc' := 168) (As := [.int (iI 1), .int (iI 2), .int (iI (sb tx n (P 11 0)))]) B (c_X12_want1 l K _ (m := 2) (w := sb tx n (P 11 0)) i2.2.2.1) vt_X12_want tw_1058 rfl rfl ⟨by decide, by decide⟩ rfl (Nat.le_of_ble_eq_true rfl) ⟨Nat.zero_le _, Nat.zero_le _⟩ rfl dX12_takeNumber_165 rfl (fun z165 τ165 h165 => ?_)
                obtain ⟨rfl, rfl⟩ := h165
                refine g_istore (pc' := 170) B [(5, .int (iI 1)), (4, .int (iI v)), (3, .int (iI (lh tx n (sb tx n (P 11 0))))), (0, .ref (K.2.2 57)), (1, .int (iI lo)), (2, .int (iI hi))] dX12_takeNumber_168 rfl (by decide) rfl ?_
                refine g_iload (pc' := 172) B 1 rfl dX12_takeNumber_170 rfl ?_
                exact g_iret (z := v) B hrt rfl hlk dX12_takeNumber_172 (by have nrn := @nr_good tx n lo hi (P 11 0) p v (P 11 2) hdg hgt9 (by omega) (i7.2.2.2 (by omega)) h149; exact ⟨mcx_nm hz (by rw [nrn.1]; exact i2.2.2.1) (by rw [nrn.2.1]; exact i2.2.2.2) (by rw [hdg]; exact i2.1), fun q9 => by unfold nv; rw [if_pos hz, nrn.2.2], i3, i4⟩)
              · refine g_if_eq (pc' := 155) B 159 (by omega) dX12_takeNumber_152 (by decide) rfl (fun _ => ?_) (fun q => absurd q (by decide))
                refine g_iconst (pc' := 160) B dX12_takeNumber_159 rfl ?_
                refine g_iconst (pc' := 161) B dX12_takeNumber_160 rfl ?_
                refine g_aload_n (pc' := 162) B 2 rfl rfl dX12_takeNumber_161 rfl ?_
                refine g_get (pc' := 165) B (sb tx n (P 11 0)) i2.2.1 fl_X12_87 rfl rfl dX12_takeNumber_162 rfl ?_
                refine g_callVI (pc' := 168) (As := [.int (iI 0), .int (iI 2), .int (iI (sb tx n (P 11 0)))]) B (c_X12_want0 l K _ (m := 2) (w := sb tx n (P 11 0)) i2.2.2.1 (by omega) (by omega)) vt_X12_want tw_1058 rfl rfl ⟨by decide, by decide⟩ rfl (Nat.le_of_ble_eq_true rfl) ⟨Nat.zero_le _, Nat.zero_le _⟩ rfl dX12_takeNumber_165 rfl (fun z165 τ165 h165 => ?_)
                obtain ⟨h165a, h165b⟩ := h165
                subst h165a
                subst h165b
                refine g_istore (pc' := 170) B [(5, .int (iI 0)), (4, .int (iI v)), (3, .int (iI (lh tx n (sb tx n (P 11 0))))), (0, .ref (K.2.2 57)), (1, .int (iI lo)), (2, .int (iI hi))] dX12_takeNumber_168 rfl (by decide) rfl ?_
                refine g_iload (pc' := 172) B 1 rfl dX12_takeNumber_170 rfl ?_
                exact g_iret (z := v) B hrt rfl hlk dX12_takeNumber_172 (by have nrn := @nr_bad tx n lo hi (P 11 0) p v (P 11 2) hdg hgt9 i7.2.2.2 (by first | exact Or.inr h149 | (left; omega)); exact ⟨mcx_nm hz (by rw [nrn.1]; simp [up]) (by rw [nrn.2]; simp [up]) (by rw [hdg]; simp [up]; exact i2.1), fun q9 => by rw [(nm_at hz).2.1, nrn.1] at q9; omega, fun j a b c d => by rw [up_col d, up_col c]; exact i3 j a b c d, fun k a => by rw [up_row a, up_row a]; exact i4 k a⟩)
          · have hx9 := hT3 p (by omega) (by omega)
            refine g_aload_n (pc' := 62) B 2 rfl rfl dX12_takeNumber_61 rfl ?_
            refine g_getR (pc' := 65) B 63 fl_X12_26 rfl rfl dX12_takeNumber_62 rfl ?_
            refine g_aload_n (pc' := 66) B 2 rfl rfl dX12_takeNumber_65 rfl ?_
            refine g_get (pc' := 69) B p i2.1 fl_X12_77 rfl rfl dX12_takeNumber_66 rfl ?_
            refine g_iald (pc' := 70) B (tx p) (by rw [i4 63 (by decide)]; exact (hT3 p (by omega) (by omega)).1) rfl (by omega) (by decide) dX12_takeNumber_69 rfl ?_
            refine g_i2l (pc' := 71) B (by omega) dX12_takeNumber_70 rfl ?_
            refine g_ldc2 (z := 48) (pc' := 74) B tw_1070 (by decide +kernel) dX12_takeNumber_71 rfl ?_
            refine g_ldc2 (z := 57) (pc' := 77) B tw_1071 (by decide +kernel) dX12_takeNumber_74 rfl ?_
            refine g_callSI (pc' := 80) (As := [.long (lI (tx p)), .long (lI 48), .long (lI 57)]) B (c_X12_in l K _ (v := tx p) (a := 48) (b := 57) (by omega) (by omega) (by omega)) st_X12_in tw_1041 ⟨by decide, by decide⟩ rfl (Nat.le_of_ble_eq_true rfl) ⟨Nat.zero_le _, Nat.zero_le _⟩ rfl dX12_takeNumber_77 rfl (fun z77 τ77 h77 => ?_)
            obtain ⟨rfl, h77⟩ := h77
            rcases h77 with ⟨h77, rfl⟩ | ⟨h77, rfl⟩
            · refine g_if_eq (pc' := 83) B 128 (by omega) dX12_takeNumber_80 (by decide) rfl (fun q => absurd q (by decide)) (fun _ => ?_)
              refine g_iload (pc' := 85) B 0 rfl dX12_takeNumber_83 rfl ?_
              refine g_ldc (z := 99999) (pc' := 87) B tw_1072 (by decide +kernel) dX12_takeNumber_85 rfl ?_
              refine g_icmp_le (pc' := 90) B 95 (by omega) (by omega) dX12_takeNumber_87 (by decide) rfl (fun c87 => ?_) (fun c87 => ?_)
              · refine g_bipush (pc' := 97) B (by decide +kernel) dX12_takeNumber_95 rfl ?_
                refine g_iload (pc' := 99) B 0 rfl dX12_takeNumber_97 rfl ?_
                refine g_imul (pc' := 100) B dX12_takeNumber_99 rfl ?_
                refine g_aload_n (pc' := 101) B 2 rfl rfl dX12_takeNumber_100 rfl ?_
                refine g_getR (pc' := 104) B 63 fl_X12_26 rfl rfl dX12_takeNumber_101 rfl ?_
                refine g_aload_n (pc' := 105) B 2 rfl rfl dX12_takeNumber_104 rfl ?_
                refine g_get (pc' := 108) B p i2.1 fl_X12_77 rfl rfl dX12_takeNumber_105 rfl ?_
                refine g_iald (pc' := 109) B (tx p) (by rw [i4 63 (by decide)]; exact (hT3 p (by omega) (by omega)).1) rfl (by omega) (by decide) dX12_takeNumber_108 rfl ?_
                refine g_iadd (pc' := 110) B dX12_takeNumber_109 rfl ?_
                refine g_bipush (pc' := 112) B (by decide +kernel) dX12_takeNumber_110 rfl ?_
                refine g_isub (pc' := 113) B dX12_takeNumber_112 rfl ?_
                refine g_istore (pc' := 115) B [(4, .int (iI (((10 * v) + (tx p)) - 48))), (3, .int (iI (lh tx n (sb tx n (P 11 0))))), (0, .ref (K.2.2 57)), (1, .int (iI lo)), (2, .int (iI hi))] dX12_takeNumber_113 rfl (by decide) rfl ?_
                refine g_aload_n (pc' := 116) B 2 rfl rfl dX12_takeNumber_115 rfl ?_
                refine g_dup (pc' := 117) B rfl dX12_takeNumber_116 rfl ?_
                refine g_get (pc' := 120) B p i2.1 fl_X12_77 rfl rfl dX12_takeNumber_117 rfl ?_
                refine g_iconst (pc' := 121) B dX12_takeNumber_120 rfl ?_
                refine g_iadd (pc' := 122) B dX12_takeNumber_121 rfl ?_
                refine g_put (pc' := 125) B 15 rfl fp_X12_77 rfl rfl dX12_takeNumber_122 rfl ?_
                refine g_goto (pc' := 50) B dX12_takeNumber_125 (by decide) ?_
                exact ih50 _ (by omega) (up ρ 57 15 (p + 1)) (((10 * v) + (tx p)) - 48) (p + 1) rfl (by omega) (by exact ⟨up_same _ _ _ _, by rw [up_col (by decide)]; exact i2.2.1, by rw [up_col (by decide)]; exact i2.2.2.1, by rw [up_col (by decide)]; exact i2.2.2.2⟩) (by intro j a b c d; rw [up_col a]; exact i3 j a b c d) (by intro k a; rw [up_row a]; exact i4 k a) (by rw [← i5]; exact (dg_go (by omega) h77).symm) (by omega) (by refine ⟨fun q9 => by omega, fun q9 => by omega, fun q9 => by omega, fun q9 => ?_⟩; first | (exfalso; omega) | (rw [show p + 1 - sb tx n (P 11 0) = (p - sb tx n (P 11 0)) + 1 by omega, vlF_next (by omega), ← i7.2.2.2 (by omega), show sb tx n (P 11 0) + (p - sb tx n (P 11 0)) = p by omega]; omega))
              · refine g_iload (pc' := 92) B 0 rfl dX12_takeNumber_90 rfl ?_
                refine g_goto (pc' := 113) B dX12_takeNumber_92 (by decide) ?_
                refine g_istore (pc' := 115) B [(4, .int (iI v)), (3, .int (iI (lh tx n (sb tx n (P 11 0))))), (0, .ref (K.2.2 57)), (1, .int (iI lo)), (2, .int (iI hi))] dX12_takeNumber_113 rfl (by decide) rfl ?_
                refine g_aload_n (pc' := 116) B 2 rfl rfl dX12_takeNumber_115 rfl ?_
                refine g_dup (pc' := 117) B rfl dX12_takeNumber_116 rfl ?_
                refine g_get (pc' := 120) B p i2.1 fl_X12_77 rfl rfl dX12_takeNumber_117 rfl ?_
                refine g_iconst (pc' := 121) B dX12_takeNumber_120 rfl ?_
                refine g_iadd (pc' := 122) B dX12_takeNumber_121 rfl ?_
                refine g_put (pc' := 125) B 15 rfl fp_X12_77 rfl rfl dX12_takeNumber_122 rfl ?_
                refine g_goto (pc' := 50) B dX12_takeNumber_125 (by decide) ?_
                exact ih50 _ (by omega) (up ρ 57 15 (p + 1)) v (p + 1) rfl (by omega) (by exact ⟨up_same _ _ _ _, by rw [up_col (by decide)]; exact i2.2.1, by rw [up_col (by decide)]; exact i2.2.2.1, by rw [up_col (by decide)]; exact i2.2.2.2⟩) (by intro j a b c d; rw [up_col a]; exact i3 j a b c d) (by intro k a; rw [up_row a]; exact i4 k a) (by rw [← i5]; exact (dg_go (by omega) h77).symm) (by omega) (by refine ⟨fun q9 => by omega, fun q9 => by omega, fun q9 => by omega, fun q9 => ?_⟩; first | (exfalso; omega) | (rw [show p + 1 - sb tx n (P 11 0) = (p - sb tx n (P 11 0)) + 1 by omega, vlF_next (by omega), ← i7.2.2.2 (by omega), show sb tx n (P 11 0) + (p - sb tx n (P 11 0)) = p by omega]; omega))
            · refine g_if_eq (pc' := 83) B 128 (by omega) dX12_takeNumber_80 (by decide) rfl (fun _ => ?_) (fun q => absurd q (by decide))
              have hdg : nrA tx n (P 11 0) = p := by unfold nrA; rw [← i5]; exact dg_stop (by first | exact Or.inl (by omega) | exact Or.inr h77)
              have hgt9 : sb tx n (P 11 0) < p := by have q9 := dg_gt h31; unfold nrA at hdg; omega
              refine g_aload_n (pc' := 129) B 2 rfl rfl dX12_takeNumber_128 rfl ?_
              refine g_aload_n (pc' := 130) B 2 rfl rfl dX12_takeNumber_129 rfl ?_
              refine g_get (pc' := 133) B p i2.1 fl_X12_77 rfl rfl dX12_takeNumber_130 rfl ?_
              refine g_aload_n (pc' := 134) B 2 rfl rfl dX12_takeNumber_133 rfl ?_
              refine g_get (pc' := 137) B (sb tx n (P 11 0)) i2.2.1 fl_X12_87 rfl rfl dX12_takeNumber_134 rfl ?_
              refine g_isub (pc' := 138) B dX12_takeNumber_137 rfl ?_
              refine g_iconst (pc' := 139) B dX12_takeNumber_138 rfl ?_
              refine g_icmp_ge (pc' := 142) B 159 (by omega) (by omega) dX12_takeNumber_139 (by decide) rfl (fun c139 => ?_) (fun c139 => ?_)
              · refine g_iconst (pc' := 160) B dX12_takeNumber_159 rfl ?_
                refine g_iconst (pc' := 161) B dX12_takeNumber_160 rfl ?_
                refine g_aload_n (pc' := 162) B 2 rfl rfl dX12_takeNumber_161 rfl ?_
                refine g_get (pc' := 165) B (sb tx n (P 11 0)) i2.2.1 fl_X12_87 rfl rfl dX12_takeNumber_162 rfl ?_
                refine g_callVI (pc' := 168) (As := [.int (iI 0), .int (iI 2), .int (iI (sb tx n (P 11 0)))]) B (c_X12_want0 l K _ (m := 2) (w := sb tx n (P 11 0)) i2.2.2.1 (by omega) (by omega)) vt_X12_want tw_1058 rfl rfl ⟨by decide, by decide⟩ rfl (Nat.le_of_ble_eq_true rfl) ⟨Nat.zero_le _, Nat.zero_le _⟩ rfl dX12_takeNumber_165 rfl (fun z165 τ165 h165 => ?_)
                obtain ⟨h165a, h165b⟩ := h165
                subst h165a
                subst h165b
                refine g_istore (pc' := 170) B [(5, .int (iI 0)), (4, .int (iI v)), (3, .int (iI (lh tx n (sb tx n (P 11 0))))), (0, .ref (K.2.2 57)), (1, .int (iI lo)), (2, .int (iI hi))] dX12_takeNumber_168 rfl (by decide) rfl ?_
                refine g_iload (pc' := 172) B 1 rfl dX12_takeNumber_170 rfl ?_
                exact g_iret (z := v) B hrt rfl hlk dX12_takeNumber_172 (by have nrn := @nr_bad tx n lo hi (P 11 0) p v (P 11 2) hdg hgt9 i7.2.2.2 (by first | exact Or.inr h149 | (left; omega)); exact ⟨mcx_nm hz (by rw [nrn.1]; simp [up]) (by rw [nrn.2]; simp [up]) (by rw [hdg]; simp [up]; exact i2.1), fun q9 => by rw [(nm_at hz).2.1, nrn.1] at q9; omega, fun j a b c d => by rw [up_col d, up_col c]; exact i3 j a b c d, fun k a => by rw [up_row a, up_row a]; exact i4 k a⟩)
              · refine g_iload (pc' := 144) B 0 rfl dX12_takeNumber_142 rfl ?_
                refine g_i2l (pc' := 145) B (by omega) dX12_takeNumber_144 rfl ?_
                refine g_iload_n (pc' := 146) B 3 rfl rfl dX12_takeNumber_145 rfl ?_
                refine g_i2l (pc' := 147) B (by omega) dX12_takeNumber_146 rfl ?_
                refine g_iload_n (pc' := 148) B 4 rfl rfl dX12_takeNumber_147 rfl ?_
                refine g_i2l (pc' := 149) B (by omega) dX12_takeNumber_148 rfl ?_
                refine g_callSI (pc' := 152) (As := [.long (lI v), .long (lI lo), .long (lI hi)]) B (c_X12_in l K _ (v := v) (a := lo) (b := hi) (by omega) (by omega) (by omega)) st_X12_in tw_1041 ⟨by decide, by decide⟩ rfl (Nat.le_of_ble_eq_true rfl) ⟨Nat.zero_le _, Nat.zero_le _⟩ rfl dX12_takeNumber_149 rfl (fun z149 τ149 h149 => ?_)
                obtain ⟨rfl, h149⟩ := h149
                rcases h149 with ⟨h149, rfl⟩ | ⟨h149, rfl⟩
                · refine g_if_eq (pc' := 155) B 159 (by omega) dX12_takeNumber_152 (by decide) rfl (fun q => absurd q (by decide)) (fun _ => ?_)
                  refine g_iconst (pc' := 156) B dX12_takeNumber_155 rfl ?_
                  refine g_goto (pc' := 160) B dX12_takeNumber_156 (by decide) ?_
                  refine g_iconst (pc' := 161) B dX12_takeNumber_160 rfl ?_
                  refine g_aload_n (pc' := 162) B 2 rfl rfl dX12_takeNumber_161 rfl ?_
                  refine g_get (pc' := 165) B (sb tx n (P 11 0)) i2.2.1 fl_X12_87 rfl rfl dX12_takeNumber_162 rfl ?_
                  refine g_callVI (pc' := 168) (As := [.int (iI 1), .int (iI 2), .int (iI (sb tx n (P 11 0)))]) B (c_X12_want1 l K _ (m := 2) (w := sb tx n (P 11 0)) i2.2.2.1) vt_X12_want tw_1058 rfl rfl ⟨by decide, by decide⟩ rfl (Nat.le_of_ble_eq_true rfl) ⟨Nat.zero_le _, Nat.zero_le _⟩ rfl dX12_takeNumber_165 rfl (fun z165 τ165 h165 => ?_)
                  obtain ⟨rfl, rfl⟩ := h165
                  refine g_istore (pc' := 170) B [(5, .int (iI 1)), (4, .int (iI v)), (3, .int (iI (lh tx n (sb tx n (P 11 0))))), (0, .ref (K.2.2 57)), (1, .int (iI lo)), (2, .int (iI hi))] dX12_takeNumber_168 rfl (by decide) rfl ?_
                  refine g_iload (pc' := 172) B 1 rfl dX12_takeNumber_170 rfl ?_
                  exact g_iret (z := v) B hrt rfl hlk dX12_takeNumber_172 (by have nrn := @nr_good tx n lo hi (P 11 0) p v (P 11 2) hdg hgt9 (by omega) (i7.2.2.2 (by omega)) h149; exact ⟨mcx_nm hz (by rw [nrn.1]; exact i2.2.2.1) (by rw [nrn.2.1]; exact i2.2.2.2) (by rw [hdg]; exact i2.1), fun q9 => by unfold nv; rw [if_pos hz, nrn.2.2], i3, i4⟩)
                · refine g_if_eq (pc' := 155) B 159 (by omega) dX12_takeNumber_152 (by decide) rfl (fun _ => ?_) (fun q => absurd q (by decide))
                  refine g_iconst (pc' := 160) B dX12_takeNumber_159 rfl ?_
                  refine g_iconst (pc' := 161) B dX12_takeNumber_160 rfl ?_
                  refine g_aload_n (pc' := 162) B 2 rfl rfl dX12_takeNumber_161 rfl ?_
                  refine g_get (pc' := 165) B (sb tx n (P 11 0)) i2.2.1 fl_X12_87 rfl rfl dX12_takeNumber_162 rfl ?_
                  refine g_callVI (pc' := 168) (As := [.int (iI 0), .int (iI 2), .int (iI (sb tx n (P 11 0)))]) B (c_X12_want0 l K _ (m := 2) (w := sb tx n (P 11 0)) i2.2.2.1 (by omega) (by omega)) vt_X12_want tw_1058 rfl rfl ⟨by decide, by decide⟩ rfl (Nat.le_of_ble_eq_true rfl) ⟨Nat.zero_le _, Nat.zero_le _⟩ rfl dX12_takeNumber_165 rfl (fun z165 τ165 h165 => ?_)
                  obtain ⟨h165a, h165b⟩ := h165
                  subst h165a
                  subst h165b
                  refine g_istore (pc' := 170) B [(5, .int (iI 0)), (4, .int (iI v)), (3, .int (iI (lh tx n (sb tx n (P 11 0))))), (0, .ref (K.2.2 57)), (1, .int (iI lo)), (2, .int (iI hi))] dX12_takeNumber_168 rfl (by decide) rfl ?_
                  refine g_iload (pc' := 172) B 1 rfl dX12_takeNumber_170 rfl ?_
                  exact g_iret (z := v) B hrt rfl hlk dX12_takeNumber_172 (by have nrn := @nr_bad tx n lo hi (P 11 0) p v (P 11 2) hdg hgt9 i7.2.2.2 (by first | exact Or.inr h149 | (left; omega)); exact ⟨mcx_nm hz (by rw [nrn.1]; simp [up]) (by rw [nrn.2]; simp [up]) (by rw [hdg]; simp [up]; exact i2.1), fun q9 => by rw [(nm_at hz).2.1, nrn.1] at q9; omega, fun j a b c d => by rw [up_col d, up_col c]; exact i3 j a b c d, fun k a => by rw [up_row a, up_row a]; exact i4 k a⟩)
      exact L50 _ (up (up σ 57 15 (sb tx n (P 11 0))) 57 16 (sb tx n (P 11 0))) 0 (sb tx n (P 11 0)) rfl (by omega) (by simp [up]; exact ⟨hP.1.trans hz, hP.2.1⟩) (by intro j a b c d; rw [up_col b, up_col a]) (by intro k a; rw [up_row a, up_row a]) (by rfl) (by omega) (by refine ⟨fun q9 => rfl, fun q9 => by omega, fun q9 => by omega, fun q9 => ?_⟩; rw [show (sb tx n (P 11 0) - sb tx n (P 11 0)).toNat = 0 by omega]; rfl)
    · refine g_iconst (pc' := 35) B dX12_takeNumber_34 rfl ?_
      refine g_aload_n (pc' := 36) B 1 rfl rfl dX12_takeNumber_35 rfl ?_
      refine g_get (pc' := 39) B (sb tx n (P 11 0)) (by simp [up]) fl_X12_77 rfl rfl dX12_takeNumber_36 rfl ?_
      refine g_callVI (pc' := 42) (As := [.int (iI 0), .int (iI 1), .int (iI (sb tx n (P 11 0)))]) B (c_X12_want0 l K _ (m := 1) (w := (sb tx n (P 11 0))) (by simp [up]; exact hP.1.trans hz) (by omega) (by omega)) vt_X12_want tw_1058 rfl rfl ⟨by decide, by decide⟩ rfl (Nat.le_of_ble_eq_true rfl) ⟨Nat.zero_le _, Nat.zero_le _⟩ rfl dX12_takeNumber_39 rfl (fun z39 τ39 h39 => ?_)
      obtain ⟨h39a, h39b⟩ := h39
      subst h39a
      subst h39b
      refine g_if_ne (pc' := 45) B 47 (by omega) dX12_takeNumber_42 (by decide) rfl (fun q => absurd q (by decide)) (fun _ => ?_)
      refine g_iconst (pc' := 46) B dX12_takeNumber_45 rfl ?_
      exact g_iret (z := 0) B hrt rfl hlk dX12_takeNumber_46 (by have nrn := @nr_none tx n lo hi (P 11 0) (P 11 2) (by omega) h31; exact ⟨mcx_nm hz (by rw [nrn.2.1]; simp [up]) (by rw [nrn.2.2]; simp [up]) (by rw [nrn.1]; simp [up]), fun q9 => by rw [(nm_at hz).2.1, nrn.2.1] at q9; omega, fun j a b c d => by rw [up_col d, up_col c, up_col b, up_col a], fun k a => by rw [up_row a, up_row a, up_row a, up_row a]⟩)
  · refine g_iconst (pc' := 8) B dX12_takeNumber_7 rfl ?_
    exact g_iret (z := 0) B hrt rfl hlk dX12_takeNumber_8 ⟨by rw [nm_f (by omega)]; exact hP, fun q9 => by rw [nm_f (by omega)] at q9; omega, fun j _ _ _ _ => rfl, fun k _ => rfl⟩
