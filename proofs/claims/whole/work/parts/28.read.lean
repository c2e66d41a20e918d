def cPb (σ : SG) (b : Nat) (tx : Int → Int) (n : Int) (P : SG) : Prop := txD σ tx n ∧ ctx σ P ∧ sD σ b P ∧ (∀ h : Int, 0 ≤ h → h < P 9 1 → σ (b + 13) h = P 10 h) ∧ σ b 5 = P 11 3
def cl (tx : Int → Int) (n : Int) (P : SG) : SG := if lh tx n (P 11 0) = 102 then fC tx n P else if lh tx n (P 11 0) = 104 then hC tx n P else if lh tx n (P 11 0) = 115 then sC tx n P else if lh tx n (P 11 0) = 98 then bC tx n P else up (up P 11 1 1) 11 2 (P 11 0)
def skp (tx : Int → Int) (n : Int) (P : SG) : SG := up P 11 0 (sb tx n (P 11 0))
def P0 : SG := fun k i => if k = 9 ∧ i = 3 then 1 else if k = 11 ∧ (i = 2 ∨ i = 3) then -1 else 0
/-- the reader's state behind k clauses -/
def itP (tx : Int → Int) (n : Int) : Nat → SG
  | 0 => skp tx n P0
  | k + 1 => if itP tx n k 11 0 < n ∧ itP tx n k 11 1 = 0 then skp tx n (cl tx n (itP tx n k)) else itP tx n k
theorem itP_next {tx : Int → Int} {n i : Int} (h : 0 ≤ i) : itP tx n (i + 1).toNat = if itP tx n i.toNat 11 0 < n ∧ itP tx n i.toNat 11 1 = 0 then skp tx n (cl tx n (itP tx n i.toNat)) else itP tx n i.toNat := by
  rw [show (i + 1).toNat = i.toNat + 1 by omega]; rfl
theorem itP_stop {tx : Int → Int} {n : Int} {k : Nat} (h : ¬ (itP tx n k 11 0 < n ∧ itP tx n k 11 1 = 0)) : ∀ {m : Nat}, k ≤ m → itP tx n m = itP tx n k := by
  intro m hm
  induction hm with
  | refl => rfl
  | step _ ih =>
    rename_i j _
    show (if itP tx n j 11 0 < n ∧ itP tx n j 11 1 = 0 then _ else itP tx n j) = _
    rw [ih, if_neg h]
theorem okP_0 {n : Int} (h : 0 ≤ n) : okP n P0 := by
  refine ⟨⟨by simp [P0]; exact h, by simp [P0]⟩, ⟨by simp [P0], fun f a b => ?_⟩, ⟨by simp [P0], fun f a b => ?_⟩, ⟨by simp [P0], fun f a b => ?_⟩, ⟨by simp [P0], by simp [P0]⟩, fun f a b => ?_, Or.inl (by simp [P0]), fun f a b => ?_⟩ <;> (exfalso; simp [P0] at b; omega)
theorem okP_skp {tx : Int → Int} {n : Int} {P : SG} (h : okP n P) : okP n (skp tx n P) := by
  have h1 := sb_in tx n (P 11 0)
  have h2 := h.1.1
  have h3 := h.1.2
  refine okP_row h (fun k hk => up_row hk) (up_col (by decide)) ⟨?_, ?_⟩
  · unfold skp; rw [up_same]; omega
  · unfold skp; rw [up_col (by decide)]; exact h3
theorem okP_cl {tx : Int → Int} {n : Int} {P : SG} (h : okP n P) (h0 : P 11 1 = 0) (h1 : P 11 0 < n) : okP n (cl tx n P) ∧ (cl tx n P 11 1 = 0 → P 11 0 < cl tx n P 11 0) := by
  unfold cl
  split
  · exact ⟨(fC_ok h h0 h1).1, (fC_ok h h0 h1).2.1⟩
  · split
    · exact ⟨(hC_ok h h0 h1).1, (hC_ok h h0 h1).2.1⟩
    · split
      · exact ⟨(sC_ok h h0 h1).1, (sC_ok h h0 h1).2.1⟩
      · split
        · exact ⟨(bC_ok h h0 h1).1, (bC_ok h h0 h1).2.1⟩
        · refine ⟨okP_row h (fun k hk => by rw [up_row hk, up_row hk]) (by simp [up]) ⟨by simp [up]; exact h.1.1, by simp [up]⟩, fun q => ?_⟩
          simp [up] at q
theorem okP_it {tx : Int → Int} {n : Int} (h : 0 ≤ n) : ∀ k : Nat, okP n (itP tx n k) ∧ (itP tx n k 11 1 = 0 → (k : Int) ≤ itP tx n k 11 0 ∨ n ≤ itP tx n k 11 0)
  | 0 => ⟨okP_skp (okP_0 h), fun _ => Or.inl (by have := (okP_skp (tx := tx) (okP_0 h)).1.1; show (0 : Int) ≤ skp tx n P0 11 0; omega)⟩
  | k + 1 => by
    obtain ⟨i1, i2⟩ := okP_it (tx := tx) h k
    rw [show itP tx n (k + 1) = (if itP tx n k 11 0 < n ∧ itP tx n k 11 1 = 0 then skp tx n (cl tx n (itP tx n k)) else itP tx n k) from rfl]
    by_cases q : itP tx n k 11 0 < n ∧ itP tx n k 11 1 = 0
    · rw [if_pos q]
      obtain ⟨c1, c2⟩ := okP_cl (tx := tx) i1 q.2 q.1
      refine ⟨okP_skp c1, fun q2 => ?_⟩
      have q3 : cl tx n (itP tx n k) 11 1 = 0 := by unfold skp at q2; rwa [up_col (by decide)] at q2
      have q4 := c2 q3
      have q5 := i2 q.2
      have q6 := sb_in tx n (cl tx n (itP tx n k) 11 0)
      left
      show ((k + 1 : Nat) : Int) ≤ skp tx n (cl tx n (itP tx n k)) 11 0
      unfold skp; rw [up_same]; omega
    · rw [if_neg q]
      refine ⟨i1, fun q2 => ?_⟩
      right
      rcases Int.lt_or_le (itP tx n k 11 0) n with q3 | q3
      · exact absurd ⟨q3, q2⟩ q
      · exact q3
set_option maxRecDepth 100000 in
set_option maxHeartbeats 4000000 in
theorem c_X9_add (l : Launch) (K : WK) (σ : SG) {tx : Int → Int} {n : Int} (hT : txD σ tx n) {v : Int} (hv : 0 ≤ v ∧ v ≤ 255) (hc : n < 250) : MI l yX9_add cX9_add 2 (some .int) 0 0 K σ [.ref (K.2.2 1), .int (iI v)] (fun z τ => τ = up (up σ 2 n v) 1 1 (n + 1) ∧ z = n + 1) := by
  refine met_of [(0, .ref (K.2.2 1)), (1, .int (iI v))] (by decide +kernel) (Nat.le_of_ble_eq_true rfl) rfl ?_
  intro pP eE sS mM bW mT cC B hrt hlk
  replace B : CB pP sS mM [.ref (K.2.2 1), .int (iI v)].toArray cC cX9_add RX9 2 K := B
  obtain ⟨hT1, hT2, hT3⟩ := id hT
  refine g_aload_n (pc' := 1) B 0 rfl rfl dX9_add_0 rfl ?_
  refine g_get (pc' := 4) B n hT.1 fl_X9_15 rfl rfl dX9_add_1 rfl ?_
  refine g_sipush (pc' := 7) B (by decide +kernel) dX9_add_4 rfl ?_
  refine g_icmp_ge (pc' := 10) B 30 (by omega) (by omega) dX9_add_7 (by decide) rfl (fun c7 => by exfalso; omega) (fun c7 => ?_)
  refine g_aload_n (pc' := 11) B 0 rfl rfl dX9_add_10 rfl ?_
  refine g_getR (pc' := 14) B 2 fl_X9_9 rfl rfl dX9_add_11 rfl ?_
  refine g_aload_n (pc' := 15) B 0 rfl rfl dX9_add_14 rfl ?_
  refine g_get (pc' := 18) B n hT.1 fl_X9_15 rfl rfl dX9_add_15 rfl ?_
  refine g_iload_n (pc' := 19) B 1 rfl rfl dX9_add_18 rfl ?_
  refine g_iast (pc' := 20) B rfl (by omega) (by decide) dX9_add_19 rfl ?_
  refine g_aload_n (pc' := 21) B 0 rfl rfl dX9_add_20 rfl ?_
  refine g_dup (pc' := 22) B rfl dX9_add_21 rfl ?_
  refine g_get (pc' := 25) B n (by have q9 := hT.1; simpa [up] using q9) fl_X9_15 rfl rfl dX9_add_22 rfl ?_
  refine g_iconst (pc' := 26) B dX9_add_25 rfl ?_
  refine g_iadd (pc' := 27) B dX9_add_26 rfl ?_
  refine g_put (pc' := 30) B 1 rfl fp_X9_15 rfl rfl dX9_add_27 rfl ?_
  refine g_aload_n (pc' := 31) B 0 rfl rfl dX9_add_30 rfl ?_
  refine g_get (pc' := 34) B (n + 1) (by simp [up]) fl_X9_15 rfl rfl dX9_add_31 rfl ?_
  exact g_iret (z := n + 1) B hrt rfl hlk dX9_add_34 ⟨rfl, rfl⟩
set_option maxRecDepth 100000 in
set_option maxHeartbeats 4000000 in
theorem c_X9_readClause (l : Launch) (K : WK) (σ : SG) {b : Nat} (hb : b = 3 ∨ b = 17) {tx : Int → Int} {n : Int} {P : SG} (hc : cPb σ b tx n P) (hok : okP n P) (hnf : P 11 1 = 0 ∧ P 11 0 < n) : MV l yX9_readClause cX9_readClause 2 none 4 90 K σ [.ref (K.2.2 1), .ref (K.2.2 b)] (fun τ => cPb τ b tx n (cl tx n P) ∧ ∀ k, k ≠ 1 → (k < b ∨ b + 13 < k) → τ k = σ k) := by
  refine met_of [(0, .ref (K.2.2 1)), (1, .ref (K.2.2 b))] (by decide +kernel) (Nat.le_of_ble_eq_true rfl) rfl ?_
  intro pP eE sS mM bW mT cC B hrt hlk
  replace B : CB pP sS mM [.ref (K.2.2 1), .ref (K.2.2 b)].toArray cC cX9_readClause RX9 2 K := B
  obtain ⟨hc1, hc2, hc3, hc4, hc5⟩ := id hc
  obtain ⟨hT1, hT2, hT3⟩ := id hc1
  obtain ⟨k1, k2, k3, k4, k5, k6, k7, k8⟩ := id hok
  have k20 := k2.1
  have k21 := k1.1
  have hR := (okP_R hok).1
  have hl9 : -1 ≤ lh tx n (P 11 0) ∧ lh tx n (P 11 0) ≤ 255 := by unfold lh; split; (have q9 := hT3 (P 11 0) (by omega) (by omega); omega); omega
  refine g_aload_n (pc' := 1) B 0 rfl rfl dX9_readClause_0 rfl ?_
  refine g_callVI (pc' := 4) (As := []) B (c_X9_letterHere l K _ (tx := tx) (n := n) (a := P 11 0) hc1 hc2.1 (by omega)) vt_X9_letterHere tw_392 rfl rfl ⟨by decide, by decide⟩ rfl (Nat.le_of_ble_eq_true rfl) ⟨Nat.zero_le _, Nat.zero_le _⟩ rfl dX9_readClause_1 rfl (fun z1 τ1 h1 => ?_)
  obtain ⟨rfl, rfl⟩ := h1
  rcases (show lh tx n (P 11 0) = 98 ∨ lh tx n (P 11 0) = 102 ∨ lh tx n (P 11 0) = 104 ∨ lh tx n (P 11 0) = 115 ∨ (lh tx n (P 11 0) ≠ 98 ∧ lh tx n (P 11 0) ≠ 102 ∧ lh tx n (P 11 0) ≠ 104 ∧ lh tx n (P 11 0) ≠ 115) by omega) with c4 | c4 | c4 | c4 | c4
  · refine g_lookup B 85 (by omega) dX9_readClause_4 (by decide) (off := 81) (by rw [c4]; rfl) (by decide) ?_
    refine g_aload_n (pc' := 86) B 0 rfl rfl dX9_readClause_85 rfl ?_
    refine g_aload_n (pc' := 87) B 1 rfl rfl dX9_readClause_86 rfl ?_
    refine g_callVV (pc' := 90) (As := [.ref (K.2.2 b)]) B (c_X9_readBarrel l K _ (tx := tx) (n := n) (P := P) (b := b) hc.1 hc.2.1 hok.1 hnf (by omega) hc3 k2 k4 hc5 (by omega)) vt_X9_readBarrel tw_447 rfl rfl ⟨by decide, by decide⟩ rfl (Nat.le_of_ble_eq_true rfl) ⟨Nat.zero_le _, Nat.zero_le _⟩ rfl dX9_readClause_87 rfl (fun τ87 h87 => ?_)
    obtain ⟨h87a, h87b, ⟨h87c, h87d⟩, h87e⟩ := h87
    obtain ⟨o1, o2, o3⟩ := bC_ok (tx := tx) hok hnf.1 hnf.2
    have eC : cl tx n P = bC tx n P := by unfold cl; rw [if_neg (by omega), if_neg (by omega), if_neg (by omega), if_pos c4]
    have hC1 : cPb τ87 b tx n (cl tx n P) := by rw [eC]; exact ⟨h87a, h87b, ⟨(hc3.1.keep (fun k a c => h87e k (by omega) (by omega))).cong o3, (hc3.2.1.keep (fun k a c => h87e k (by omega) (by omega))).cong o3, by rw [h87d 4 (by decide), o3 9 (by decide)]; exact hc3.2.2.1, fun h a c => by rw [h87e _ (by omega) (by omega), o3 4 (by decide)]; rw [o3 9 (by decide)] at c; exact hc3.2.2.2 h a c⟩, fun h a c => by rw [h87e _ (by omega) (by omega), o3 10 (by decide)]; rw [o3 9 (by decide)] at c; exact hc4 h a c, h87c⟩
    have hC2 : ∀ k, k ≠ 1 → (k < b ∨ b + 13 < k) → τ87 k = σ k := fun k hk hk2 => h87e k hk (by omega)
    refine g_goto (pc' := 102) B dX9_readClause_90 (by decide) ?_
    exact g_vret B hrt hlk dX9_readClause_102 ⟨hC1, hC2⟩
  · refine g_lookup B 48 (by omega) dX9_readClause_4 (by decide) (off := 44) (by rw [c4]; rfl) (by decide) ?_
    refine g_aload_n (pc' := 49) B 0 rfl rfl dX9_readClause_48 rfl ?_
    refine g_aload_n (pc' := 50) B 1 rfl rfl dX9_readClause_49 rfl ?_
    refine g_getR (pc' := 53) B (b + 1) fl_X9_44 (ly_S hb) rfl dX9_readClause_50 rfl ?_
    refine g_callVV (pc' := 56) (As := [.ref (K.2.2 (b + 1))]) B (c_X9_readField l K _ (tx := tx) (n := n) (P := P) (g := b + 1) hc.1 hc.2.1 hok.1 hnf (by omega) hc3.1 k2 (by omega)) vt_X9_readField tw_400 rfl rfl ⟨by decide, by decide⟩ rfl (Nat.le_of_ble_eq_true rfl) ⟨Nat.zero_le _, Nat.zero_le _⟩ rfl dX9_readClause_53 rfl (fun τ53 h53 => ?_)
    obtain ⟨h53a, h53b, h53c, h53d⟩ := h53
    obtain ⟨o1, o2, o3, o4, o5, o6⟩ := fC_ok (tx := tx) hok hnf.1 hnf.2
    have eC : cl tx n P = fC tx n P := by unfold cl; rw [if_pos c4]
    have q53 : qD τ53 (b + 7) (fC tx n P) := by have q9 := hc3.2.1.keep (τ := τ53) (fun k a c => h53d k (by omega) (by omega)); unfold qD at q9 ⊢; rw [o5, o3 5 (by decide) (by decide) (by decide) (by decide) (by decide) (by decide), o3 6 (by decide) (by decide) (by decide) (by decide) (by decide) (by decide), o3 7 (by decide) (by decide) (by decide) (by decide) (by decide) (by decide), o3 8 (by decide) (by decide) (by decide) (by decide) (by decide) (by decide)]; exact q9
    have hC1 : cPb τ53 b tx n (cl tx n P) := by rw [eC]; exact ⟨h53a, h53b, ⟨h53c, q53, by rw [h53d b (by omega) (by omega), o4]; exact hc3.2.2.1, fun h a c => by rw [h53d _ (by omega) (by omega), o3 4 (by decide) (by decide) (by decide) (by decide) (by decide) (by decide)]; rw [o4] at c; exact hc3.2.2.2 h a c⟩, fun h a c => by rw [h53d _ (by omega) (by omega), o3 10 (by decide) (by decide) (by decide) (by decide) (by decide) (by decide)]; rw [o4] at c; exact hc4 h a c, by rw [h53d b (by omega) (by omega), o6]; exact hc5⟩
    have hC2 : ∀ k, k ≠ 1 → (k < b ∨ b + 13 < k) → τ53 k = σ k := fun k hk hk2 => h53d k hk (by omega)
    refine g_goto (pc' := 102) B dX9_readClause_56 (by decide) ?_
    exact g_vret B hrt hlk dX9_readClause_102 ⟨hC1, hC2⟩
  · refine g_lookup B 59 (by omega) dX9_readClause_4 (by decide) (off := 55) (by rw [c4]; rfl) (by decide) ?_
    refine g_aload_n (pc' := 60) B 0 rfl rfl dX9_readClause_59 rfl ?_
    refine g_aload_n (pc' := 61) B 1 rfl rfl dX9_readClause_60 rfl ?_
    refine g_callVV (pc' := 64) (As := [.ref (K.2.2 b)]) B (c_X9_readHouse l K _ (tx := tx) (n := n) (P := P) (b := b) hc.1 hc.2.1 hok.1 hnf (by omega) hc3 k2 k4 hc4) vt_X9_readHouse tw_431 rfl rfl ⟨by decide, by decide⟩ rfl (Nat.le_of_ble_eq_true rfl) ⟨Nat.zero_le _, Nat.zero_le _⟩ rfl dX9_readClause_61 rfl (fun τ61 h61 => ?_)
    obtain ⟨h61a, h61b, ⟨h61c, h61d, h61e⟩, h61f⟩ := h61
    obtain ⟨o1, o2, o3, o4, o5, o6, o7⟩ := hC_ok (tx := tx) hok hnf.1 hnf.2
    have eC : cl tx n P = hC tx n P := by unfold cl; rw [if_neg (by omega), if_pos c4]
    have hC1 : cPb τ61 b tx n (cl tx n P) := by rw [eC]; exact ⟨h61a, h61b, h61c, h61d, by rw [h61e, o7]; exact hc5⟩
    have hC2 : ∀ k, k ≠ 1 → (k < b ∨ b + 13 < k) → τ61 k = σ k := fun k hk hk2 => h61f k hk (by omega) (by omega) (by omega)
    refine g_goto (pc' := 102) B dX9_readClause_64 (by decide) ?_
    exact g_vret B hrt hlk dX9_readClause_102 ⟨hC1, hC2⟩
  · refine g_lookup B 67 (by omega) dX9_readClause_4 (by decide) (off := 63) (by rw [c4]; rfl) (by decide) ?_
    refine g_aload_n (pc' := 68) B 0 rfl rfl dX9_readClause_67 rfl ?_
    refine g_aload_n (pc' := 69) B 1 rfl rfl dX9_readClause_68 rfl ?_
    refine g_getR (pc' := 72) B (b + 7) fl_X9_55 (ly_S hb) rfl dX9_readClause_69 rfl ?_
    refine g_aload_n (pc' := 73) B 1 rfl rfl dX9_readClause_72 rfl ?_
    refine g_getR (pc' := 76) B (b + 1) fl_X9_44 (ly_S hb) rfl dX9_readClause_73 rfl ?_
    refine g_get (pc' := 79) B (P 9 0) hc3.1.1 fl_X9_59 (ly_G (by omega)) rfl dX9_readClause_76 rfl ?_
    refine g_callVV (pc' := 82) (As := [.ref (K.2.2 (b + 7)), .int (iI (P 9 0))]) B (c_X9_readSeam l K _ (tx := tx) (n := n) (P := P) (q := b + 7) (u := P 9 0) hc.1 hc.2.1 hok.1 hnf (by omega) hc3.2.1 k3 (by rfl) (by omega)) vt_X9_readSeam tw_439 rfl rfl ⟨by decide, by decide⟩ rfl (Nat.le_of_ble_eq_true rfl) ⟨Nat.zero_le _, Nat.zero_le _⟩ rfl dX9_readClause_79 rfl (fun τ79 h79 => ?_)
    obtain ⟨h79a, h79b, h79c, h79d⟩ := h79
    obtain ⟨o1, o2, o3, o4, o5, o6, o7⟩ := sC_ok (tx := tx) hok hnf.1 hnf.2
    have eC : cl tx n P = sC tx n P := by unfold cl; rw [if_neg (by omega), if_neg (by omega), if_pos c4]
    have g79 : gD τ79 (b + 1) (sC tx n P) := by have q9 := hc3.1.keep (τ := τ79) (fun k a c => h79d k (by omega) (by omega)); unfold gD at q9 ⊢; rw [o4, o6, o3 0 (by decide) (by decide) (by decide) (by decide) (by decide) (by decide), o3 1 (by decide) (by decide) (by decide) (by decide) (by decide) (by decide), o3 2 (by decide) (by decide) (by decide) (by decide) (by decide) (by decide), o3 3 (by decide) (by decide) (by decide) (by decide) (by decide) (by decide)]; exact q9
    have hC1 : cPb τ79 b tx n (cl tx n P) := by rw [eC]; exact ⟨h79a, h79b, ⟨g79, h79c, by rw [h79d b (by omega) (by omega), o5]; exact hc3.2.2.1, fun h a c => by rw [h79d _ (by omega) (by omega), o3 4 (by decide) (by decide) (by decide) (by decide) (by decide) (by decide)]; rw [o5] at c; exact hc3.2.2.2 h a c⟩, fun h a c => by rw [h79d _ (by omega) (by omega), o3 10 (by decide) (by decide) (by decide) (by decide) (by decide) (by decide)]; rw [o5] at c; exact hc4 h a c, by rw [h79d b (by omega) (by omega), o7]; exact hc5⟩
    have hC2 : ∀ k, k ≠ 1 → (k < b ∨ b + 13 < k) → τ79 k = σ k := fun k hk hk2 => h79d k hk (by omega)
    refine g_goto (pc' := 102) B dX9_readClause_82 (by decide) ?_
    exact g_vret B hrt hlk dX9_readClause_102 ⟨hC1, hC2⟩
  · refine g_lookup B 93 (by omega) dX9_readClause_4 (by decide) (off := 89) (by simp [Op.lookupswitch.offset, Ne.symm c4.1, Ne.symm c4.2.1, Ne.symm c4.2.2.1, Ne.symm c4.2.2.2]) (by decide) ?_
    refine g_aload_n (pc' := 94) B 0 rfl rfl dX9_readClause_93 rfl ?_
    refine g_iconst (pc' := 95) B dX9_readClause_94 rfl ?_
    refine g_aload_n (pc' := 96) B 0 rfl rfl dX9_readClause_95 rfl ?_
    refine g_get (pc' := 99) B (P 11 0) hc2.1 fl_X9_19 rfl rfl dX9_readClause_96 rfl ?_
    refine g_callVV (pc' := 102) (As := [.int (iI 1), .int (iI (P 11 0))]) B (c_X9_blame l K _ (k := 1) (p := P 11 0) ) vt_X9_blame tw_408 rfl rfl ⟨by decide, by decide⟩ rfl (Nat.le_of_ble_eq_true rfl) ⟨Nat.zero_le _, Nat.zero_le _⟩ rfl dX9_readClause_99 rfl (fun τ99 h99 => ?_)
    subst h99
    have eC : cl tx n P = up (up P 11 1 1) 11 2 (P 11 0) := by unfold cl; rw [if_neg (by omega), if_neg (by omega), if_neg (by omega), if_neg (by omega)]
    have e9 : ∀ k, k ≠ 11 → up (up P 11 1 1) 11 2 (P 11 0) k = P k := fun k hk => by rw [up_row hk, up_row hk]
    have f9 : ∀ k, k ≠ 1 → (up (up σ 1 3 1) 1 4 (P 11 0)) k = σ k := fun k hk => by rw [up_row hk, up_row hk]
    have hC1 : cPb (up (up σ 1 3 1) 1 4 (P 11 0)) b tx n (cl tx n P) := by rw [eC]; exact ⟨hc1.keep (by simp [up]) (f9 2 (by decide)), by simp [ctx, up, hc2.1], (hc3.keep (fun k a c => f9 k (by omega))).cong e9, fun h a c => by rw [f9 _ (by omega), e9 10 (by decide)]; rw [e9 9 (by decide)] at c; exact hc4 h a c, by rw [f9 b (by omega), hc5]; simp [up]⟩
    have hC2 : ∀ k, k ≠ 1 → (k < b ∨ b + 13 < k) → (up (up σ 1 3 1) 1 4 (P 11 0)) k = σ k := fun k hk _ => f9 k hk
    exact g_vret B hrt hlk dX9_readClause_102 ⟨hC1, hC2⟩
theorem cP_skp {σ : SG} {b : Nat} {tx : Int → Int} {n : Int} {P : SG} (h : cPb σ b tx n P) (hb : b = 3 ∨ b = 17) : cPb (up σ 1 2 (sb tx n (P 11 0))) b tx n (skp tx n P) := by
  obtain ⟨h1, h2, h3, h4, h5⟩ := h
  have f : ∀ k, k ≠ 1 → up σ 1 2 (sb tx n (P 11 0)) k = σ k := fun k hk => up_row hk
  have e : ∀ k, k ≠ 11 → skp tx n P k = P k := fun k hk => up_row hk
  refine ⟨h1.keep (by simp [up]) (f 2 (by decide)), ⟨by simp [up, skp], by simp [up, skp]; exact h2.2.1, by simp [up, skp]; exact h2.2.2⟩, (h3.keep (fun k a c => f k (by omega))).cong e, fun y a c => ?_, ?_⟩
  · rw [f _ (by omega), e 10 (by decide)]; rw [e 9 (by decide)] at c; exact h4 y a c
  · rw [f b (by omega), h5]; simp [up, skp]
theorem cP_start {σ : SG} {b : Nat} {tx : Int → Int} {n : Int} (hb : b = 3 ∨ b = 17) (hT : txD σ tx n) : cPb (up (up (up (up (up (up (up (up (up σ (b + 1) 5 0) (b + 1) 6 1) (b + 7) 4 0) b 4 0) b 5 (-1)) 1 2 0) 1 3 0) 1 4 (-1)) 1 2 (sb tx n 0)) b tx n (skp tx n P0) := by
  have a1b : (1 : Nat) ≠ b := by omega
  have a1b1 : (1 : Nat) ≠ b + 1 := by omega
  have a1b7 : (1 : Nat) ≠ b + 7 := by omega
  have a2b : (2 : Nat) ≠ b := by omega
  have a2b1 : (2 : Nat) ≠ b + 1 := by omega
  have a2b7 : (2 : Nat) ≠ b + 7 := by omega
  have e : ∀ k, k ≠ 11 → skp tx n P0 k = P0 k := fun k hk => up_row hk
  have b1 : b ≠ 1 := by omega
  have b2 : ¬ b + 1 = 1 := by omega
  have b3 : ¬ b + 7 = 1 := by omega
  refine ⟨hT.keep (by simp [up, a1b, a1b1, a1b7]) (by rw [up_row (by decide), up_row (by decide), up_row (by decide), up_row (by decide), up_row a2b, up_row a2b, up_row a2b7, up_row a2b1, up_row a2b1]), ⟨by simp [up, skp, P0], by simp [up, skp, P0], by simp [up, skp, P0]⟩, ⟨⟨?_, ?_, fun f a c => ?_⟩, ⟨?_, fun f a c => ?_⟩, ?_, fun f a c => ?_⟩, fun f a c => ?_, ?_⟩
  · rw [e 9 (by decide)]; simp [up, P0, b2]
  · rw [e 9 (by decide)]; simp [up, P0, b2]
  · exfalso; rw [e 9 (by decide)] at c; simp [P0] at c; omega
  · rw [e 9 (by decide)]; simp [up, P0, b3]
  · exfalso; rw [e 9 (by decide)] at c; simp [P0] at c; omega
  · rw [e 9 (by decide)]; simp [up, P0, b1]
  · exfalso; rw [e 9 (by decide)] at c; simp [P0] at c; omega
  · exfalso; rw [e 9 (by decide)] at c; simp [P0] at c; omega
  · simp [up, skp, P0, b1]
set_option maxRecDepth 100000 in
set_option maxHeartbeats 4000000 in
theorem c_X9_readInto (l : Launch) (K : WK) (σ : SG) {b : Nat} (hb : b = 3 ∨ b = 17) {tx : Int → Int} {n : Int} (hT : txD σ tx n)  : MI l yX9_readInto cX9_readInto 3 (some .int) 5 111 K σ [.ref (K.2.2 1), .ref (K.2.2 b)] (fun z τ => z = itP tx n 250 11 1 ∧ cPb τ b tx n (itP tx n 250) ∧ ∀ k, k ≠ 1 → (k < b ∨ b + 13 < k) → τ k = σ k) := by
  refine met_of [(0, .ref (K.2.2 1)), (1, .ref (K.2.2 b))] (by decide +kernel) (Nat.le_of_ble_eq_true rfl) rfl ?_
  intro pP eE sS mM bW mT cC B hrt hlk
  replace B : CB pP sS mM [.ref (K.2.2 1), .ref (K.2.2 b)].toArray cC cX9_readInto RX9 3 K := B
  obtain ⟨hT1, hT2, hT3⟩ := id hT
  have a1b : (1 : Nat) ≠ b := by omega
  have a1b1 : (1 : Nat) ≠ b + 1 := by omega
  have a1b7 : (1 : Nat) ≠ b + 7 := by omega
  have a2b : (2 : Nat) ≠ b := by omega
  have a2b1 : (2 : Nat) ≠ b + 1 := by omega
  have a2b7 : (2 : Nat) ≠ b + 7 := by omega
  refine g_aload_n (pc' := 1) B 1 rfl rfl dX9_readInto_0 rfl ?_
  refine g_callVV (pc' := 4) (As := []) B (c_X8_clear l K _ (b := b) (by omega)) vt_X8_clear tw_380 (ly_S hb) rfl ⟨by decide, by decide⟩ rfl (Nat.le_of_ble_eq_true rfl) ⟨Nat.zero_le _, Nat.zero_le _⟩ rfl dX9_readInto_1 rfl (fun τ1 h1 => ?_)
  subst h1
  refine g_aload_n (pc' := 5) B 0 rfl rfl dX9_readInto_4 rfl ?_
  refine g_iconst (pc' := 6) B dX9_readInto_5 rfl ?_
  refine g_put (pc' := 9) B 2 rfl fp_X9_19 rfl rfl dX9_readInto_6 rfl ?_
  refine g_aload_n (pc' := 10) B 0 rfl rfl dX9_readInto_9 rfl ?_
  refine g_iconst (pc' := 11) B dX9_readInto_10 rfl ?_
  refine g_put (pc' := 14) B 3 rfl fp_X9_22 rfl rfl dX9_readInto_11 rfl ?_
  refine g_aload_n (pc' := 15) B 0 rfl rfl dX9_readInto_14 rfl ?_
  refine g_iconst (pc' := 16) B dX9_readInto_15 rfl ?_
  refine g_put (pc' := 19) B 4 rfl fp_X9_25 rfl rfl dX9_readInto_16 rfl ?_
  refine g_aload_n (pc' := 20) B 0 rfl rfl dX9_readInto_19 rfl ?_
  refine g_callVV (pc' := 23) (As := []) B (c_X9_skipBlanks l K _ (tx := tx) (n := n) (a := 0) (hT.keep (by simp [up, a1b, a1b1, a1b7]) (by rw [up_row (by decide), up_row (by decide), up_row (by decide), up_row a2b, up_row a2b, up_row a2b7, up_row a2b1, up_row a2b1])) (by simp [up]) (by omega)) vt_X9_skipBlanks tw_388 rfl rfl ⟨by decide, by decide⟩ rfl (Nat.le_of_ble_eq_true rfl) ⟨Nat.zero_le _, Nat.zero_le _⟩ rfl dX9_readInto_20 rfl (fun τ20 h20 => ?_)
  subst h20
  refine g_iconst (pc' := 24) B dX9_readInto_23 rfl ?_
  refine g_istore_n (pc' := 25) B [(2, .int (iI 0)), (0, .ref (K.2.2 1)), (1, .ref (K.2.2 b))] dX9_readInto_24 rfl rfl (by decide) rfl ?_
  have L25 : ∀ (nn : Nat) (ρ : SG) (i : Int) , (250 - i).toNat = nn → (0 ≤ i ∧ i ≤ 250) → (cPb ρ b tx n (itP tx n i.toNat)) → (∀ k, k ≠ 1 → (k < b ∨ b + 13 < k) → ρ k = σ k) → G pP l eE (rmo 5 111) sS mM [.ref (K.2.2 1), .ref (K.2.2 b)].toArray bW mT cC 0 0 (MQ bW (Qi K (fun z τ => z = itP tx n 250 11 1 ∧ cPb τ b tx n (itP tx n 250) ∧ ∀ k, k ≠ 1 → (k < b ∨ b + 13 < k) → τ k = σ k)) [.ref (K.2.2 1), .ref (K.2.2 b)].toArray sS 0 0 (wA K)) K sS.heap 3 ρ 25 [(2, .int (iI i)), (0, .ref (K.2.2 1)), (1, .ref (K.2.2 b))] [] := by
    intro nn
    induction nn using Nat.strongRecOn with
    | _ nn ih25 =>
      intro ρ i hn25 i1 i2 i4
      have i3 := okP_it (tx := tx) (n := n) (by omega) i.toNat
      have i31 := i3.1.1.1
      have i32 := i3.1.1.2
      refine g_iload_n (pc' := 26) B 0 rfl rfl dX9_readInto_25 rfl ?_
      refine g_sipush (pc' := 29) B (by decide +kernel) dX9_readInto_26 rfl ?_
      refine g_icmp_ge (pc' := 32) B 65 (by omega) (by omega) dX9_readInto_29 (by decide) rfl (fun c29 => ?_) (fun c29 => ?_)
      · have hstop : ¬ (itP tx n i.toNat 11 0 < n ∧ itP tx n i.toNat 11 1 = 0) := by intro q9; have q8 := i3.2 q9.2; omega
        refine g_aload_n (pc' := 66) B 1 rfl rfl dX9_readInto_65 rfl ?_
        refine g_get (pc' := 69) B (itP tx n i.toNat 11 1) i2.2.1.2.1 fl_X9_22 rfl rfl dX9_readInto_66 rfl ?_
        exact g_iret (z := itP tx n i.toNat 11 1) B hrt rfl hlk dX9_readInto_69 ⟨by rw [itP_stop (k := i.toNat) (m := 250) hstop (by omega)], by rw [itP_stop (k := i.toNat) (m := 250) hstop (by omega)]; exact i2, i4⟩
      · refine g_aload_n (pc' := 33) B 1 rfl rfl dX9_readInto_32 rfl ?_
        refine g_get (pc' := 36) B (itP tx n i.toNat 11 0) i2.2.1.1 fl_X9_19 rfl rfl dX9_readInto_33 rfl ?_
        refine g_aload_n (pc' := 37) B 1 rfl rfl dX9_readInto_36 rfl ?_
        refine g_get (pc' := 40) B n i2.1.1 fl_X9_15 rfl rfl dX9_readInto_37 rfl ?_
        refine g_icmp_ge (pc' := 43) B 65 (by omega) (by omega) dX9_readInto_40 (by decide) rfl (fun c40 => ?_) (fun c40 => ?_)
        · have hstop : ¬ (itP tx n i.toNat 11 0 < n ∧ itP tx n i.toNat 11 1 = 0) := by intro q9; have q8 := i3.2 q9.2; omega
          refine g_aload_n (pc' := 66) B 1 rfl rfl dX9_readInto_65 rfl ?_
          refine g_get (pc' := 69) B (itP tx n i.toNat 11 1) i2.2.1.2.1 fl_X9_22 rfl rfl dX9_readInto_66 rfl ?_
          exact g_iret (z := itP tx n i.toNat 11 1) B hrt rfl hlk dX9_readInto_69 ⟨by rw [itP_stop (k := i.toNat) (m := 250) hstop (by omega)], by rw [itP_stop (k := i.toNat) (m := 250) hstop (by omega)]; exact i2, i4⟩
        · refine g_aload_n (pc' := 44) B 1 rfl rfl dX9_readInto_43 rfl ?_
          refine g_get (pc' := 47) B (itP tx n i.toNat 11 1) i2.2.1.2.1 fl_X9_22 rfl rfl dX9_readInto_44 rfl ?_
          refine g_if_ne (pc' := 50) B 65 (by omega) dX9_readInto_47 (by decide) rfl (fun c47 => ?_) (fun c47 => ?_)
          · have hstop : ¬ (itP tx n i.toNat 11 0 < n ∧ itP tx n i.toNat 11 1 = 0) := by intro q9; have q8 := i3.2 q9.2; omega
            refine g_aload_n (pc' := 66) B 1 rfl rfl dX9_readInto_65 rfl ?_
            refine g_get (pc' := 69) B (itP tx n i.toNat 11 1) i2.2.1.2.1 fl_X9_22 rfl rfl dX9_readInto_66 rfl ?_
            exact g_iret (z := itP tx n i.toNat 11 1) B hrt rfl hlk dX9_readInto_69 ⟨by rw [itP_stop (k := i.toNat) (m := 250) hstop (by omega)], by rw [itP_stop (k := i.toNat) (m := 250) hstop (by omega)]; exact i2, i4⟩
          · refine g_aload_n (pc' := 51) B 1 rfl rfl dX9_readInto_50 rfl ?_
            refine g_aload_n (pc' := 52) B 2 rfl rfl dX9_readInto_51 rfl ?_
            refine g_callVV (pc' := 55) (As := [.ref (K.2.2 b)]) B (c_X9_readClause l K _ (b := b) (tx := tx) (n := n) (P := itP tx n i.toNat) (by omega) i2 i3.1 (⟨c47, c40⟩)) vt_X9_readClause tw_396 rfl rfl ⟨by decide, by decide⟩ rfl (Nat.le_of_ble_eq_true rfl) ⟨Nat.zero_le _, Nat.zero_le _⟩ rfl dX9_readInto_52 rfl (fun τ52 h52 => ?_)
            obtain ⟨h52a, h52b⟩ := h52
            have o52 := (okP_cl (tx := tx) i3.1 c47 c40).1
            have o53 := o52.1.1
            refine g_aload_n (pc' := 56) B 1 rfl rfl dX9_readInto_55 rfl ?_
            refine g_callVV (pc' := 59) (As := []) B (c_X9_skipBlanks l K _ (tx := tx) (n := n) (a := cl tx n (itP tx n i.toNat) 11 0) h52a.1 h52a.2.1.1 (by omega)) vt_X9_skipBlanks tw_388 rfl rfl ⟨by decide, by decide⟩ rfl (Nat.le_of_ble_eq_true rfl) ⟨Nat.zero_le _, Nat.zero_le _⟩ rfl dX9_readInto_56 rfl (fun τ56 h56 => ?_)
            subst h56
            refine g_iinc (pc' := 62) B 0 [(2, .int (iI (i + 1))), (0, .ref (K.2.2 1)), (1, .ref (K.2.2 b))] dX9_readInto_59 rfl rfl (by decide) rfl ?_
            refine g_goto (pc' := 25) B dX9_readInto_62 (by decide) ?_
            exact ih25 _ (by omega) (up τ52 1 2 (sb tx n (cl tx n (itP tx n i.toNat) 11 0))) (i + 1) rfl (by omega) (by rw [itP_next (by omega), if_pos ⟨c40, c47⟩]; exact cP_skp h52a hb) (by intro k hk hk2; rw [up_row hk, h52b k hk hk2]; exact i4 k hk hk2)
  exact L25 _ (up (up (up (up (up (up (up (up (up σ (b + 1) 5 0) (b + 1) 6 1) (b + 7) 4 0) b 4 0) b 5 (-1)) 1 2 0) 1 3 0) 1 4 (-1)) 1 2 (sb tx n 0)) 0 rfl (by omega) (by exact cP_start hb hT) (by intro k hk hk2; rw [up_row hk, up_row hk, up_row hk, up_row hk, up_row (by omega), up_row (by omega), up_row (by omega), up_row (by omega), up_row (by omega)])
