def mtx (σ : SG) (tx : Int → Int) (n : Int) : Prop := σ 57 14 = n ∧ (0 ≤ n ∧ n ≤ 250) ∧ ∀ j : Int, 0 ≤ j → j < n → σ 63 j = tx j ∧ 0 ≤ tx j ∧ tx j ≤ 255
def meD (σ E : SG) : Prop := σ 57 25 = E 2 0 ∧ (0 ≤ E 2 0 ∧ E 2 0 ≤ 12) ∧ ∀ k : Int, 0 ≤ k → k < E 2 0 → σ 66 k = E 0 k ∧ σ 67 k = E 1 k ∧ (0 ≤ E 0 k ∧ E 0 k ≤ 7) ∧ (0 ≤ E 1 k ∧ E 1 k ≤ 30)
def myD (σ Y : SG) : Prop := σ 57 30 = Y 3 0 ∧ (0 ≤ Y 3 0 ∧ Y 3 0 ≤ 12) ∧ ∀ k : Int, 0 ≤ k → k < Y 3 0 → σ 69 k = Y 0 k ∧ σ 70 k = Y 1 k ∧ σ 71 k = Y 2 k ∧ (0 ≤ Y 0 k ∧ Y 0 k ≤ 7) ∧ (0 ≤ Y 1 k ∧ Y 1 k ≤ 9999) ∧ (0 ≤ Y 2 k ∧ Y 2 k ≤ 999)
def mbD (σ : SG) (bn : Int) (wy : Int → Int) : Prop := σ 57 33 = bn ∧ (0 ≤ bn ∧ bn ≤ 30) ∧ ∀ k : Int, 0 ≤ k → k < bn → σ 73 k = wy k ∧ 0 ≤ wy k ∧ wy k ≤ 2
def mtD (σ T : SG) : Prop := σ 57 21 = T 4 0 ∧ (0 ≤ T 4 0 ∧ T 4 0 ≤ 40) ∧ ∀ j : Int, 0 ≤ j → j < T 4 0 → σ 64 (4 * j) = T 0 j ∧ σ 64 (4 * j + 1) = T 1 j ∧ σ 64 (4 * j + 2) = T 2 j ∧ σ 64 (4 * j + 3) = T 3 j
set_option maxRecDepth 100000 in
set_option maxHeartbeats 4000000 in
theorem c_X12_feed (l : Launch) (K : WK) (σ : SG) {tx : Int → Int} {n : Int} (hT : mtx σ tx n) {v : Int} (hv : -2147483648 ≤ v ∧ v < 2147483648) : MI l yX12_feed cX12_feed 2 (some .int) 1 25 K σ [.ref (K.2.2 57), .int (iI v)] (fun z τ => (((v < 0 ∨ 255 < v) ∧ τ = σ ∧ z = -1000000002) ∨ (¬ (v < 0 ∨ 255 < v) ∧ 250 ≤ n ∧ τ = σ ∧ z = -1000000004) ∨ (¬ (v < 0 ∨ 255 < v) ∧ n < 250 ∧ τ = up (up σ 63 n v) 57 14 (n + 1) ∧ z = n + 1))) := by
  refine met_of [(0, .ref (K.2.2 57)), (1, .int (iI v))] (by decide +kernel) (Nat.le_of_ble_eq_true rfl) rfl ?_
  intro pP eE sS mM bW mT cC B hrt hlk
  replace B : CB pP sS mM [.ref (K.2.2 57), .int (iI v)].toArray cC cX12_feed RX12 2 K := B
  obtain ⟨hT1, hT2, hT3⟩ := id hT
  refine g_iload_n (pc' := 1) B 1 rfl rfl dX12_feed_0 rfl ?_
  refine g_i2l (pc' := 2) B (by omega) dX12_feed_1 rfl ?_
  refine g_lconst (z := 0) (pc' := 3) B (by decide +kernel) dX12_feed_2 rfl ?_
  refine g_ldc2 (z := 255) (pc' := 6) B tw_1040 (by decide +kernel) dX12_feed_3 rfl ?_
  refine g_callSI (pc' := 9) (As := [.long (lI v), .long (lI 0), .long (lI 255)]) B (c_X12_in l K _ (v := v) (a := 0) (b := 255) (by omega) (by omega) (by omega)) st_X12_in tw_1041 ⟨by decide, by decide⟩ rfl (Nat.le_of_ble_eq_true rfl) ⟨Nat.zero_le _, Nat.zero_le _⟩ rfl dX12_feed_6 rfl (fun z6 τ6 h6 => ?_)
  obtain ⟨rfl, h6⟩ := h6
  rcases h6 with ⟨h6, rfl⟩ | ⟨h6, rfl⟩
  · refine g_if_ne (pc' := 12) B 15 (by omega) dX12_feed_9 (by decide) rfl (fun _ => ?_) (fun q => absurd q (by decide))
    refine g_aload_n (pc' := 16) B 0 rfl rfl dX12_feed_15 rfl ?_
    refine g_get (pc' := 19) B n hT.1 fl_X12_73 rfl rfl dX12_feed_16 rfl ?_
    refine g_sipush (pc' := 22) B (by decide +kernel) dX12_feed_19 rfl ?_
    refine g_icmp_ne (pc' := 25) B 28 (by omega) (by omega) dX12_feed_22 (by decide) rfl (fun c22 => ?_) (fun c22 => ?_)
    · refine g_aload_n (pc' := 29) B 0 rfl rfl dX12_feed_28 rfl ?_
      refine g_getR (pc' := 32) B 63 fl_X12_26 rfl rfl dX12_feed_29 rfl ?_
      refine g_aload_n (pc' := 33) B 0 rfl rfl dX12_feed_32 rfl ?_
      refine g_get (pc' := 36) B n hT.1 fl_X12_73 rfl rfl dX12_feed_33 rfl ?_
      refine g_iload_n (pc' := 37) B 1 rfl rfl dX12_feed_36 rfl ?_
      refine g_iast (pc' := 38) B rfl (by omega) (by decide) dX12_feed_37 rfl ?_
      refine g_aload_n (pc' := 39) B 0 rfl rfl dX12_feed_38 rfl ?_
      refine g_dup (pc' := 40) B rfl dX12_feed_39 rfl ?_
      refine g_get (pc' := 43) B n (by have q9 := hT.1; simpa [up] using q9) fl_X12_73 rfl rfl dX12_feed_40 rfl ?_
      refine g_iconst (pc' := 44) B dX12_feed_43 rfl ?_
      refine g_iadd (pc' := 45) B dX12_feed_44 rfl ?_
      refine g_put (pc' := 48) B 14 rfl fp_X12_73 rfl rfl dX12_feed_45 rfl ?_
      refine g_aload_n (pc' := 49) B 0 rfl rfl dX12_feed_48 rfl ?_
      refine g_get (pc' := 52) B (n + 1) (by simp [up]) fl_X12_73 rfl rfl dX12_feed_49 rfl ?_
      exact g_iret (z := n + 1) B hrt rfl hlk dX12_feed_52 (Or.inr (Or.inr ⟨by omega, by omega, rfl, rfl⟩))
    · refine g_ldc (z := (-1000000004)) (pc' := 27) B tw_1045 (by decide +kernel) dX12_feed_25 rfl ?_
      exact g_iret (z := (-1000000004)) B hrt rfl hlk dX12_feed_27 (Or.inr (Or.inl ⟨by omega, by omega, rfl, rfl⟩))
  · refine g_if_ne (pc' := 12) B 15 (by omega) dX12_feed_9 (by decide) rfl (fun q => absurd q (by decide)) (fun _ => ?_)
    refine g_ldc (z := (-1000000002)) (pc' := 14) B tw_1044 (by decide +kernel) dX12_feed_12 rfl ?_
    exact g_iret (z := (-1000000002)) B hrt rfl hlk dX12_feed_14 (Or.inl ⟨by omega, rfl, rfl⟩)
set_option maxRecDepth 100000 in
set_option maxHeartbeats 4000000 in
theorem c_X12_slack (l : Launch) (K : WK) (σ : SG) {D : SG} (hM : mD σ D) (hF : okF D) (hR : okR D) (hO : okQ D) (hH : okH D) {sl : Int → Int} (hms : ∀ h : Int, 0 ≤ h → h < D 9 1 → σ 58 (4 + h) = sl h ∧ 0 ≤ sl h ∧ sl h ≤ 999) {h v : Int} (hh : -2147483648 ≤ h ∧ h < 2147483648) (hv : -2147483648 ≤ v ∧ v < 2147483648) : MI l yX12_slack cX12_slack 4 (some .int) 1 25 K σ [.ref (K.2.2 57), .int (iI h), .int (iI v)] (fun z τ => ((¬ (0 ≤ h ∧ h < D 9 1) ∧ τ = σ ∧ z = -1000000001) ∨ ((0 ≤ h ∧ h < D 9 1) ∧ (v < 0 ∨ 999 < v) ∧ τ = σ ∧ z = -1000000002) ∨ ((0 ≤ h ∧ h < D 9 1) ∧ ¬ (v < 0 ∨ 999 < v) ∧ τ = up σ 58 (4 + h) v ∧ z = sl h))) := by
  refine met_of [(0, .ref (K.2.2 57)), (1, .int (iI h)), (2, .int (iI v))] (by decide +kernel) (Nat.le_of_ble_eq_true rfl) rfl ?_
  intro pP eE sS mM bW mT cC B hrt hlk
  replace B : CB pP sS mM [.ref (K.2.2 57), .int (iI h), .int (iI v)].toArray cC cX12_slack RX12 4 K := B
  obtain ⟨hF0, hF1⟩ := id hF
  obtain ⟨hO0, hO1⟩ := id hO
  obtain ⟨hH0, hH1⟩ := id hH
  obtain ⟨hR0, hR1⟩ := id hR
  refine g_iload_n (pc' := 1) B 1 rfl rfl dX12_slack_0 rfl ?_
  refine g_i2l (pc' := 2) B (by omega) dX12_slack_1 rfl ?_
  refine g_lconst (z := 0) (pc' := 3) B (by decide +kernel) dX12_slack_2 rfl ?_
  refine g_aload_n (pc' := 4) B 0 rfl rfl dX12_slack_3 rfl ?_
  refine g_get (pc' := 7) B (D 9 1) hM.2.1 fl_X12_134 rfl rfl dX12_slack_4 rfl ?_
  refine g_iconst (pc' := 8) B dX12_slack_7 rfl ?_
  refine g_isub (pc' := 9) B dX12_slack_8 rfl ?_
  refine g_i2l (pc' := 10) B (by omega) dX12_slack_9 rfl ?_
  refine g_callSI (pc' := 13) (As := [.long (lI h), .long (lI 0), .long (lI ((D 9 1) - 1))]) B (c_X12_in l K _ (v := h) (a := 0) (b := (D 9 1) - 1) (by omega) (by omega) (by omega)) st_X12_in tw_1041 ⟨by decide, by decide⟩ rfl (Nat.le_of_ble_eq_true rfl) ⟨Nat.zero_le _, Nat.zero_le _⟩ rfl dX12_slack_10 rfl (fun z10 τ10 h10 => ?_)
  obtain ⟨rfl, h10⟩ := h10
  rcases h10 with ⟨h10, rfl⟩ | ⟨h10, rfl⟩
  · refine g_if_ne (pc' := 16) B 19 (by omega) dX12_slack_13 (by decide) rfl (fun _ => ?_) (fun q => absurd q (by decide))
    refine g_iload_n (pc' := 20) B 2 rfl rfl dX12_slack_19 rfl ?_
    refine g_i2l (pc' := 21) B (by omega) dX12_slack_20 rfl ?_
    refine g_lconst (z := 0) (pc' := 22) B (by decide +kernel) dX12_slack_21 rfl ?_
    refine g_ldc2 (z := 999) (pc' := 25) B tw_1160 (by decide +kernel) dX12_slack_22 rfl ?_
    refine g_callSI (pc' := 28) (As := [.long (lI v), .long (lI 0), .long (lI 999)]) B (c_X12_in l K _ (v := v) (a := 0) (b := 999) (by omega) (by omega) (by omega)) st_X12_in tw_1041 ⟨by decide, by decide⟩ rfl (Nat.le_of_ble_eq_true rfl) ⟨Nat.zero_le _, Nat.zero_le _⟩ rfl dX12_slack_25 rfl (fun z25 τ25 h25 => ?_)
    obtain ⟨rfl, h25⟩ := h25
    rcases h25 with ⟨h25, rfl⟩ | ⟨h25, rfl⟩
    · refine g_if_ne (pc' := 31) B 34 (by omega) dX12_slack_28 (by decide) rfl (fun _ => ?_) (fun q => absurd q (by decide))
      refine g_aload_n (pc' := 35) B 0 rfl rfl dX12_slack_34 rfl ?_
      refine g_getR (pc' := 38) B 58 fl_X12_7 rfl rfl dX12_slack_35 rfl ?_
      refine g_iconst (pc' := 39) B dX12_slack_38 rfl ?_
      refine g_iload_n (pc' := 40) B 1 rfl rfl dX12_slack_39 rfl ?_
      refine g_iadd (pc' := 41) B dX12_slack_40 rfl ?_
      refine g_iald (pc' := 42) B (sl h) (hms _ (by omega) (by omega)).1 rfl (by omega) (by decide) dX12_slack_41 rfl ?_
      refine g_istore_n (pc' := 43) B [(3, .int (iI (sl h))), (0, .ref (K.2.2 57)), (1, .int (iI h)), (2, .int (iI v))] dX12_slack_42 rfl rfl (by decide) rfl ?_
      refine g_aload_n (pc' := 44) B 1 rfl rfl dX12_slack_43 rfl ?_
      refine g_getR (pc' := 47) B 58 fl_X12_7 rfl rfl dX12_slack_44 rfl ?_
      refine g_iconst (pc' := 48) B dX12_slack_47 rfl ?_
      refine g_iload_n (pc' := 49) B 2 rfl rfl dX12_slack_48 rfl ?_
      refine g_iadd (pc' := 50) B dX12_slack_49 rfl ?_
      refine g_iload_n (pc' := 51) B 3 rfl rfl dX12_slack_50 rfl ?_
      refine g_iast (pc' := 52) B rfl (by omega) (by decide) dX12_slack_51 rfl ?_
      refine g_iload_n (pc' := 53) B 0 rfl rfl dX12_slack_52 rfl ?_
      exact g_iret (z := sl h) B hrt rfl hlk dX12_slack_53 (Or.inr (Or.inr ⟨by omega, by omega, rfl, rfl⟩))
    · refine g_if_ne (pc' := 31) B 34 (by omega) dX12_slack_28 (by decide) rfl (fun q => absurd q (by decide)) (fun _ => ?_)
      refine g_ldc (z := (-1000000002)) (pc' := 33) B tw_1044 (by decide +kernel) dX12_slack_31 rfl ?_
      exact g_iret (z := (-1000000002)) B hrt rfl hlk dX12_slack_33 (Or.inr (Or.inl ⟨by omega, by omega, rfl, rfl⟩))
  · refine g_if_ne (pc' := 16) B 19 (by omega) dX12_slack_13 (by decide) rfl (fun q => absurd q (by decide)) (fun _ => ?_)
    refine g_ldc (z := (-1000000001)) (pc' := 18) B tw_1133 (by decide +kernel) dX12_slack_16 rfl ?_
    exact g_iret (z := (-1000000001)) B hrt rfl hlk dX12_slack_18 (Or.inl ⟨by omega, rfl, rfl⟩)
set_option maxRecDepth 100000 in
set_option maxHeartbeats 4000000 in
theorem c_X12_seed (l : Launch) (K : WK) (σ : SG) {v : Int} (hv : -2147483648 ≤ v ∧ v < 2147483648) : MI l yX12_seed cX12_seed 3 (some .int) 0 0 K σ [.ref (K.2.2 57), .int (iI v)] (fun z τ => ((v < 0 ∧ τ = σ ∧ z = -1000000002) ∨ (0 ≤ v ∧ τ = up σ 58 8 v ∧ z = σ 58 8))) := by
  refine met_of [(0, .ref (K.2.2 57)), (1, .int (iI v))] (by decide +kernel) (Nat.le_of_ble_eq_true rfl) rfl ?_
  intro pP eE sS mM bW mT cC B hrt hlk
  replace B : CB pP sS mM [.ref (K.2.2 57), .int (iI v)].toArray cC cX12_seed RX12 3 K := B
  refine g_iload_n (pc' := 1) B 1 rfl rfl dX12_seed_0 rfl ?_
  refine g_if_ge (pc' := 4) B 7 (by omega) dX12_seed_1 (by decide) rfl (fun c1 => ?_) (fun c1 => ?_)
  · refine g_aload_n (pc' := 8) B 0 rfl rfl dX12_seed_7 rfl ?_
    refine g_getR (pc' := 11) B 58 fl_X12_7 rfl rfl dX12_seed_8 rfl ?_
    refine g_bipush (pc' := 13) B (by decide +kernel) dX12_seed_11 rfl ?_
    refine g_iald (pc' := 14) B (σ 58 8) rfl rfl (by omega) (by decide) dX12_seed_13 rfl ?_
    refine g_istore_n (pc' := 15) B [(2, .int (iI (σ 58 8))), (0, .ref (K.2.2 57)), (1, .int (iI v))] dX12_seed_14 rfl rfl (by decide) rfl ?_
    refine g_aload_n (pc' := 16) B 1 rfl rfl dX12_seed_15 rfl ?_
    refine g_getR (pc' := 19) B 58 fl_X12_7 rfl rfl dX12_seed_16 rfl ?_
    refine g_bipush (pc' := 21) B (by decide +kernel) dX12_seed_19 rfl ?_
    refine g_iload_n (pc' := 22) B 2 rfl rfl dX12_seed_21 rfl ?_
    refine g_iast (pc' := 23) B rfl (by omega) (by decide) dX12_seed_22 rfl ?_
    refine g_iload_n (pc' := 24) B 0 rfl rfl dX12_seed_23 rfl ?_
    exact g_iret (z := σ 58 8) B hrt rfl hlk dX12_seed_24 (Or.inr ⟨by omega, rfl, rfl⟩)
  · refine g_ldc (z := (-1000000002)) (pc' := 6) B tw_1044 (by decide +kernel) dX12_seed_4 rfl ?_
    exact g_iret (z := (-1000000002)) B hrt rfl hlk dX12_seed_6 (Or.inl ⟨by omega, rfl, rfl⟩)
set_option maxRecDepth 100000 in
set_option maxHeartbeats 4000000 in
theorem c_X12_tear (l : Launch) (K : WK) (σ : SG)  : MI l yX12_tear cX12_tear 2 (some .int) 0 0 K σ [.ref (K.2.2 57)] (fun z τ => τ = up (up (up σ 57 25 0) 57 30 0) 57 33 0 ∧ z = σ 57 25 + σ 57 30 + σ 57 33) := by
  refine met_of [(0, .ref (K.2.2 57))] (by decide +kernel) (Nat.le_of_ble_eq_true rfl) rfl ?_
  intro pP eE sS mM bW mT cC B hrt hlk
  replace B : CB pP sS mM [.ref (K.2.2 57)].toArray cC cX12_tear RX12 2 K := B
  refine g_aload_n (pc' := 1) B 0 rfl rfl dX12_tear_0 rfl ?_
  refine g_get (pc' := 4) B (σ 57 25) rfl fl_X12_140 rfl rfl dX12_tear_1 rfl ?_
  refine g_aload_n (pc' := 5) B 0 rfl rfl dX12_tear_4 rfl ?_
  refine g_get (pc' := 8) B (σ 57 30) rfl fl_X12_143 rfl rfl dX12_tear_5 rfl ?_
  refine g_iadd (pc' := 9) B dX12_tear_8 rfl ?_
  refine g_aload_n (pc' := 10) B 0 rfl rfl dX12_tear_9 rfl ?_
  refine g_get (pc' := 13) B (σ 57 33) rfl fl_X12_146 rfl rfl dX12_tear_10 rfl ?_
  refine g_iadd (pc' := 14) B dX12_tear_13 rfl ?_
  refine g_istore_n (pc' := 15) B [(1, .int (iI (((σ 57 25) + (σ 57 30)) + (σ 57 33)))), (0, .ref (K.2.2 57))] dX12_tear_14 rfl rfl (by decide) rfl ?_
  refine g_aload_n (pc' := 16) B 1 rfl rfl dX12_tear_15 rfl ?_
  refine g_iconst (pc' := 17) B dX12_tear_16 rfl ?_
  refine g_put (pc' := 20) B 25 rfl fp_X12_140 rfl rfl dX12_tear_17 rfl ?_
  refine g_aload_n (pc' := 21) B 1 rfl rfl dX12_tear_20 rfl ?_
  refine g_iconst (pc' := 22) B dX12_tear_21 rfl ?_
  refine g_put (pc' := 25) B 30 rfl fp_X12_143 rfl rfl dX12_tear_22 rfl ?_
  refine g_aload_n (pc' := 26) B 1 rfl rfl dX12_tear_25 rfl ?_
  refine g_iconst (pc' := 27) B dX12_tear_26 rfl ?_
  refine g_put (pc' := 30) B 33 rfl fp_X12_146 rfl rfl dX12_tear_27 rfl ?_
  refine g_iload_n (pc' := 31) B 0 rfl rfl dX12_tear_30 rfl ?_
  exact g_iret (z := ((σ 57 25) + (σ 57 30)) + (σ 57 33)) B hrt rfl hlk dX12_tear_31 ⟨rfl, rfl⟩
set_option maxRecDepth 100000 in
set_option maxHeartbeats 4000000 in
theorem c_X12_write (l : Launch) (K : WK) (σ : SG) {bn : Int} {wy : Int → Int} (hB : mbD σ bn wy) {w : Int} (hw : -2147483648 ≤ w ∧ w < 2147483648) : MI l yX12_write cX12_write 2 (some .int) 1 25 K σ [.ref (K.2.2 57), .int (iI w)] (fun z τ => (((w < 0 ∨ 2 < w) ∧ τ = σ ∧ z = -1000000002) ∨ (¬ (w < 0 ∨ 2 < w) ∧ 30 ≤ bn ∧ τ = σ ∧ z = -1000000004) ∨ (¬ (w < 0 ∨ 2 < w) ∧ bn < 30 ∧ τ = up (up σ 73 bn w) 57 33 (bn + 1) ∧ z = bn + 1))) := by
  refine met_of [(0, .ref (K.2.2 57)), (1, .int (iI w))] (by decide +kernel) (Nat.le_of_ble_eq_true rfl) rfl ?_
  intro pP eE sS mM bW mT cC B hrt hlk
  replace B : CB pP sS mM [.ref (K.2.2 57), .int (iI w)].toArray cC cX12_write RX12 2 K := B
  obtain ⟨hB1, hB2, hB3⟩ := id hB
  refine g_iload_n (pc' := 1) B 1 rfl rfl dX12_write_0 rfl ?_
  refine g_i2l (pc' := 2) B (by omega) dX12_write_1 rfl ?_
  refine g_lconst (z := 0) (pc' := 3) B (by decide +kernel) dX12_write_2 rfl ?_
  refine g_ldc2 (z := 2) (pc' := 6) B tw_1174 (by decide +kernel) dX12_write_3 rfl ?_
  refine g_callSI (pc' := 9) (As := [.long (lI w), .long (lI 0), .long (lI 2)]) B (c_X12_in l K _ (v := w) (a := 0) (b := 2) (by omega) (by omega) (by omega)) st_X12_in tw_1041 ⟨by decide, by decide⟩ rfl (Nat.le_of_ble_eq_true rfl) ⟨Nat.zero_le _, Nat.zero_le _⟩ rfl dX12_write_6 rfl (fun z6 τ6 h6 => ?_)
  obtain ⟨rfl, h6⟩ := h6
  rcases h6 with ⟨h6, rfl⟩ | ⟨h6, rfl⟩
  · refine g_if_ne (pc' := 12) B 15 (by omega) dX12_write_9 (by decide) rfl (fun _ => ?_) (fun q => absurd q (by decide))
    refine g_aload_n (pc' := 16) B 0 rfl rfl dX12_write_15 rfl ?_
    refine g_get (pc' := 19) B bn hB.1 fl_X12_146 rfl rfl dX12_write_16 rfl ?_
    refine g_bipush (pc' := 21) B (by decide +kernel) dX12_write_19 rfl ?_
    refine g_icmp_ne (pc' := 24) B 27 (by omega) (by omega) dX12_write_21 (by decide) rfl (fun c21 => ?_) (fun c21 => ?_)
    · refine g_aload_n (pc' := 28) B 0 rfl rfl dX12_write_27 rfl ?_
      refine g_getR (pc' := 31) B 73 fl_X12_63 rfl rfl dX12_write_28 rfl ?_
      refine g_aload_n (pc' := 32) B 0 rfl rfl dX12_write_31 rfl ?_
      refine g_get (pc' := 35) B bn hB.1 fl_X12_146 rfl rfl dX12_write_32 rfl ?_
      refine g_iload_n (pc' := 36) B 1 rfl rfl dX12_write_35 rfl ?_
      refine g_iast (pc' := 37) B rfl (by omega) (by decide) dX12_write_36 rfl ?_
      refine g_aload_n (pc' := 38) B 0 rfl rfl dX12_write_37 rfl ?_
      refine g_dup (pc' := 39) B rfl dX12_write_38 rfl ?_
      refine g_get (pc' := 42) B bn (by have q9 := hB.1; simpa [up] using q9) fl_X12_146 rfl rfl dX12_write_39 rfl ?_
      refine g_iconst (pc' := 43) B dX12_write_42 rfl ?_
      refine g_iadd (pc' := 44) B dX12_write_43 rfl ?_
      refine g_put (pc' := 47) B 33 rfl fp_X12_146 rfl rfl dX12_write_44 rfl ?_
      refine g_aload_n (pc' := 48) B 0 rfl rfl dX12_write_47 rfl ?_
      refine g_get (pc' := 51) B (bn + 1) (by simp [up]) fl_X12_146 rfl rfl dX12_write_48 rfl ?_
      exact g_iret (z := bn + 1) B hrt rfl hlk dX12_write_51 (Or.inr (Or.inr ⟨by omega, by omega, rfl, rfl⟩))
    · refine g_ldc (z := (-1000000004)) (pc' := 26) B tw_1045 (by decide +kernel) dX12_write_24 rfl ?_
      exact g_iret (z := (-1000000004)) B hrt rfl hlk dX12_write_26 (Or.inr (Or.inl ⟨by omega, by omega, rfl, rfl⟩))
  · refine g_if_ne (pc' := 12) B 15 (by omega) dX12_write_9 (by decide) rfl (fun q => absurd q (by decide)) (fun _ => ?_)
    refine g_ldc (z := (-1000000002)) (pc' := 14) B tw_1044 (by decide +kernel) dX12_write_12 rfl ?_
    exact g_iret (z := (-1000000002)) B hrt rfl hlk dX12_write_14 (Or.inl ⟨by omega, rfl, rfl⟩)
set_option maxRecDepth 100000 in
set_option maxHeartbeats 4000000 in
theorem c_X12_hear (l : Launch) (K : WK) (σ : SG) {D : SG} (hM : mD σ D) (hF : okF D) (hR : okR D) (hO : okQ D) (hH : okH D) {E : SG} (hE : meD σ E) {f a : Int} (hf : -2147483648 ≤ f ∧ f < 2147483648) (ha : -2147483648 ≤ a ∧ a < 2147483648) : MI l yX12_hear cX12_hear 3 (some .int) 2 46 K σ [.ref (K.2.2 57), .int (iI f), .int (iI a)] (fun z τ => ((¬ (0 ≤ f ∧ f < D 9 0) ∧ τ = σ ∧ z = -1000000001) ∨ ((0 ≤ f ∧ f < D 9 0) ∧ (a < 0 ∨ 30 < a) ∧ τ = σ ∧ z = -1000000002) ∨ ((0 ≤ f ∧ f < D 9 0) ∧ ¬ (a < 0 ∨ 30 < a) ∧ 12 ≤ E 2 0 ∧ τ = σ ∧ z = -1000000004) ∨ ((0 ≤ f ∧ f < D 9 0) ∧ ¬ (a < 0 ∨ 30 < a) ∧ E 2 0 < 12 ∧ τ = up (up (up σ 66 (E 2 0) f) 67 (E 2 0) a) 57 25 (E 2 0 + 1) ∧ z = E 2 0 + 1))) := by
  refine met_of [(0, .ref (K.2.2 57)), (1, .int (iI f)), (2, .int (iI a))] (by decide +kernel) (Nat.le_of_ble_eq_true rfl) rfl ?_
  intro pP eE sS mM bW mT cC B hrt hlk
  replace B : CB pP sS mM [.ref (K.2.2 57), .int (iI f), .int (iI a)].toArray cC cX12_hear RX12 3 K := B
  obtain ⟨hF0, hF1⟩ := id hF
  obtain ⟨hO0, hO1⟩ := id hO
  obtain ⟨hH0, hH1⟩ := id hH
  obtain ⟨hR0, hR1⟩ := id hR
  obtain ⟨hE1, hE2, hE3⟩ := id hE
  refine g_aload_n (pc' := 1) B 0 rfl rfl dX12_hear_0 rfl ?_
  refine g_iload_n (pc' := 2) B 1 rfl rfl dX12_hear_1 rfl ?_
  refine g_callVI (pc' := 5) (As := [.int (iI f)]) B (c_X12_isField l K _ (D := D) (f := f) hM hF hR hO hH (by omega)) vt_X12_isField tw_1129 rfl rfl ⟨by decide, by decide⟩ rfl (Nat.le_of_ble_eq_true rfl) ⟨Nat.zero_le _, Nat.zero_le _⟩ rfl dX12_hear_2 rfl (fun z2 τ2 h2 => ?_)
  obtain ⟨rfl, h2⟩ := h2
  rcases h2 with ⟨h2, rfl⟩ | ⟨h2, rfl⟩
  · refine g_if_ne (pc' := 8) B 11 (by omega) dX12_hear_5 (by decide) rfl (fun _ => ?_) (fun q => absurd q (by decide))
    refine g_iload_n (pc' := 12) B 2 rfl rfl dX12_hear_11 rfl ?_
    refine g_i2l (pc' := 13) B (by omega) dX12_hear_12 rfl ?_
    refine g_lconst (z := 0) (pc' := 14) B (by decide +kernel) dX12_hear_13 rfl ?_
    refine g_ldc2 (z := 30) (pc' := 17) B tw_1249 (by decide +kernel) dX12_hear_14 rfl ?_
    refine g_callSI (pc' := 20) (As := [.long (lI a), .long (lI 0), .long (lI 30)]) B (c_X12_in l K _ (v := a) (a := 0) (b := 30) (by omega) (by omega) (by omega)) st_X12_in tw_1041 ⟨by decide, by decide⟩ rfl (Nat.le_of_ble_eq_true rfl) ⟨Nat.zero_le _, Nat.zero_le _⟩ rfl dX12_hear_17 rfl (fun z17 τ17 h17 => ?_)
    obtain ⟨rfl, h17⟩ := h17
    rcases h17 with ⟨h17, rfl⟩ | ⟨h17, rfl⟩
    · refine g_if_ne (pc' := 23) B 26 (by omega) dX12_hear_20 (by decide) rfl (fun _ => ?_) (fun q => absurd q (by decide))
      refine g_aload_n (pc' := 27) B 0 rfl rfl dX12_hear_26 rfl ?_
      refine g_get (pc' := 30) B (E 2 0) hE.1 fl_X12_140 rfl rfl dX12_hear_27 rfl ?_
      refine g_bipush (pc' := 32) B (by decide +kernel) dX12_hear_30 rfl ?_
      refine g_icmp_ne (pc' := 35) B 38 (by omega) (by omega) dX12_hear_32 (by decide) rfl (fun c32 => ?_) (fun c32 => ?_)
      · refine g_aload_n (pc' := 39) B 0 rfl rfl dX12_hear_38 rfl ?_
        refine g_getR (pc' := 42) B 66 fl_X12_42 rfl rfl dX12_hear_39 rfl ?_
        refine g_aload_n (pc' := 43) B 0 rfl rfl dX12_hear_42 rfl ?_
        refine g_get (pc' := 46) B (E 2 0) hE.1 fl_X12_140 rfl rfl dX12_hear_43 rfl ?_
        refine g_iload_n (pc' := 47) B 1 rfl rfl dX12_hear_46 rfl ?_
        refine g_iast (pc' := 48) B rfl (by omega) (by decide) dX12_hear_47 rfl ?_
        refine g_aload_n (pc' := 49) B 0 rfl rfl dX12_hear_48 rfl ?_
        refine g_getR (pc' := 52) B 67 fl_X12_45 rfl rfl dX12_hear_49 rfl ?_
        refine g_aload_n (pc' := 53) B 0 rfl rfl dX12_hear_52 rfl ?_
        refine g_get (pc' := 56) B (E 2 0) (by have q9 := hE.1; simpa [up] using q9) fl_X12_140 rfl rfl dX12_hear_53 rfl ?_
        refine g_iload_n (pc' := 57) B 2 rfl rfl dX12_hear_56 rfl ?_
        refine g_iast (pc' := 58) B rfl (by omega) (by decide) dX12_hear_57 rfl ?_
        refine g_aload_n (pc' := 59) B 0 rfl rfl dX12_hear_58 rfl ?_
        refine g_dup (pc' := 60) B rfl dX12_hear_59 rfl ?_
        refine g_get (pc' := 63) B (E 2 0) (by have q9 := hE.1; simpa [up] using q9) fl_X12_140 rfl rfl dX12_hear_60 rfl ?_
        refine g_iconst (pc' := 64) B dX12_hear_63 rfl ?_
        refine g_iadd (pc' := 65) B dX12_hear_64 rfl ?_
        refine g_put (pc' := 68) B 25 rfl fp_X12_140 rfl rfl dX12_hear_65 rfl ?_
        refine g_aload_n (pc' := 69) B 0 rfl rfl dX12_hear_68 rfl ?_
        refine g_get (pc' := 72) B ((E 2 0) + 1) (by simp [up]) fl_X12_140 rfl rfl dX12_hear_69 rfl ?_
        exact g_iret (z := (E 2 0) + 1) B hrt rfl hlk dX12_hear_72 (Or.inr (Or.inr (Or.inr ⟨by omega, by omega, by omega, rfl, rfl⟩)))
      · refine g_ldc (z := (-1000000004)) (pc' := 37) B tw_1045 (by decide +kernel) dX12_hear_35 rfl ?_
        exact g_iret (z := (-1000000004)) B hrt rfl hlk dX12_hear_37 (Or.inr (Or.inr (Or.inl ⟨by omega, by omega, by omega, rfl, rfl⟩)))
    · refine g_if_ne (pc' := 23) B 26 (by omega) dX12_hear_20 (by decide) rfl (fun q => absurd q (by decide)) (fun _ => ?_)
      refine g_ldc (z := (-1000000002)) (pc' := 25) B tw_1044 (by decide +kernel) dX12_hear_23 rfl ?_
      exact g_iret (z := (-1000000002)) B hrt rfl hlk dX12_hear_25 (Or.inr (Or.inl ⟨by omega, by omega, rfl, rfl⟩))
  · refine g_if_ne (pc' := 8) B 11 (by omega) dX12_hear_5 (by decide) rfl (fun q => absurd q (by decide)) (fun _ => ?_)
    refine g_ldc (z := (-1000000001)) (pc' := 10) B tw_1133 (by decide +kernel) dX12_hear_8 rfl ?_
    exact g_iret (z := (-1000000001)) B hrt rfl hlk dX12_hear_10 (Or.inl ⟨by omega, rfl, rfl⟩)
set_option maxRecDepth 100000 in
set_option maxHeartbeats 4000000 in
theorem c_X12_see (l : Launch) (K : WK) (σ : SG) {D : SG} (hM : mD σ D) (hF : okF D) (hR : okR D) (hO : okQ D) (hH : okH D) {Y : SG} (hY : myD σ Y) {f x v : Int} (hf : -2147483648 ≤ f ∧ f < 2147483648) (hx : -2147483648 ≤ x ∧ x < 2147483648) (hv : -2147483648 ≤ v ∧ v < 2147483648) : MI l yX12_see cX12_see 4 (some .int) 2 46 K σ [.ref (K.2.2 57), .int (iI f), .int (iI x), .int (iI v)] (fun z τ => ((¬ (0 ≤ f ∧ f < D 9 0) ∧ τ = σ ∧ z = -1000000001) ∨ ((0 ≤ f ∧ f < D 9 0) ∧ ((x < 0 ∨ 9999 < x) ∨ (v < 0 ∨ 999 < v)) ∧ τ = σ ∧ z = -1000000002) ∨ ((0 ≤ f ∧ f < D 9 0) ∧ ¬ ((x < 0 ∨ 9999 < x) ∨ (v < 0 ∨ 999 < v)) ∧ 12 ≤ Y 3 0 ∧ τ = σ ∧ z = -1000000004) ∨ ((0 ≤ f ∧ f < D 9 0) ∧ ¬ ((x < 0 ∨ 9999 < x) ∨ (v < 0 ∨ 999 < v)) ∧ Y 3 0 < 12 ∧ τ = up (up (up (up σ 69 (Y 3 0) f) 70 (Y 3 0) x) 71 (Y 3 0) v) 57 30 (Y 3 0 + 1) ∧ z = Y 3 0 + 1))) := by
  refine met_of [(0, .ref (K.2.2 57)), (1, .int (iI f)), (2, .int (iI x)), (3, .int (iI v))] (by decide +kernel) (Nat.le_of_ble_eq_true rfl) rfl ?_
  intro pP eE sS mM bW mT cC B hrt hlk
  replace B : CB pP sS mM [.ref (K.2.2 57), .int (iI f), .int (iI x), .int (iI v)].toArray cC cX12_see RX12 4 K := B
  obtain ⟨hF0, hF1⟩ := id hF
  obtain ⟨hO0, hO1⟩ := id hO
  obtain ⟨hH0, hH1⟩ := id hH
  obtain ⟨hR0, hR1⟩ := id hR
  obtain ⟨hY1, hY2, hY3⟩ := id hY
  refine g_aload_n (pc' := 1) B 0 rfl rfl dX12_see_0 rfl ?_
  refine g_iload_n (pc' := 2) B 1 rfl rfl dX12_see_1 rfl ?_
  refine g_callVI (pc' := 5) (As := [.int (iI f)]) B (c_X12_isField l K _ (D := D) (f := f) hM hF hR hO hH (by omega)) vt_X12_isField tw_1129 rfl rfl ⟨by decide, by decide⟩ rfl (Nat.le_of_ble_eq_true rfl) ⟨Nat.zero_le _, Nat.zero_le _⟩ rfl dX12_see_2 rfl (fun z2 τ2 h2 => ?_)
  obtain ⟨rfl, h2⟩ := h2
  rcases h2 with ⟨h2, rfl⟩ | ⟨h2, rfl⟩
  · refine g_if_ne (pc' := 8) B 11 (by omega) dX12_see_5 (by decide) rfl (fun _ => ?_) (fun q => absurd q (by decide))
    refine g_iload_n (pc' := 12) B 2 rfl rfl dX12_see_11 rfl ?_
    refine g_i2l (pc' := 13) B (by omega) dX12_see_12 rfl ?_
    refine g_lconst (z := 0) (pc' := 14) B (by decide +kernel) dX12_see_13 rfl ?_
    refine g_ldc2 (z := 9999) (pc' := 17) B tw_1308 (by decide +kernel) dX12_see_14 rfl ?_
    refine g_callSI (pc' := 20) (As := [.long (lI x), .long (lI 0), .long (lI 9999)]) B (c_X12_in l K _ (v := x) (a := 0) (b := 9999) (by omega) (by omega) (by omega)) st_X12_in tw_1041 ⟨by decide, by decide⟩ rfl (Nat.le_of_ble_eq_true rfl) ⟨Nat.zero_le _, Nat.zero_le _⟩ rfl dX12_see_17 rfl (fun z17 τ17 h17 => ?_)
    obtain ⟨rfl, h17⟩ := h17
    rcases h17 with ⟨h17, rfl⟩ | ⟨h17, rfl⟩
    · refine g_if_eq (pc' := 23) B 35 (by omega) dX12_see_20 (by decide) rfl (fun q => absurd q (by decide)) (fun _ => ?_)
      refine g_iload_n (pc' := 24) B 3 rfl rfl dX12_see_23 rfl ?_
      refine g_i2l (pc' := 25) B (by omega) dX12_see_24 rfl ?_
      refine g_lconst (z := 0) (pc' := 26) B (by decide +kernel) dX12_see_25 rfl ?_
      refine g_ldc2 (z := 999) (pc' := 29) B tw_1160 (by decide +kernel) dX12_see_26 rfl ?_
      refine g_callSI (pc' := 32) (As := [.long (lI v), .long (lI 0), .long (lI 999)]) B (c_X12_in l K _ (v := v) (a := 0) (b := 999) (by omega) (by omega) (by omega)) st_X12_in tw_1041 ⟨by decide, by decide⟩ rfl (Nat.le_of_ble_eq_true rfl) ⟨Nat.zero_le _, Nat.zero_le _⟩ rfl dX12_see_29 rfl (fun z29 τ29 h29 => ?_)
      obtain ⟨rfl, h29⟩ := h29
      rcases h29 with ⟨h29, rfl⟩ | ⟨h29, rfl⟩
      · refine g_if_ne (pc' := 35) B 38 (by omega) dX12_see_32 (by decide) rfl (fun _ => ?_) (fun q => absurd q (by decide))
        refine g_aload_n (pc' := 39) B 0 rfl rfl dX12_see_38 rfl ?_
        refine g_get (pc' := 42) B (Y 3 0) hY.1 fl_X12_143 rfl rfl dX12_see_39 rfl ?_
        refine g_bipush (pc' := 44) B (by decide +kernel) dX12_see_42 rfl ?_
        refine g_icmp_ne (pc' := 47) B 50 (by omega) (by omega) dX12_see_44 (by decide) rfl (fun c44 => ?_) (fun c44 => ?_)
        · refine g_aload_n (pc' := 51) B 0 rfl rfl dX12_see_50 rfl ?_
          refine g_getR (pc' := 54) B 69 fl_X12_51 rfl rfl dX12_see_51 rfl ?_
          refine g_aload_n (pc' := 55) B 0 rfl rfl dX12_see_54 rfl ?_
          refine g_get (pc' := 58) B (Y 3 0) hY.1 fl_X12_143 rfl rfl dX12_see_55 rfl ?_
          refine g_iload_n (pc' := 59) B 1 rfl rfl dX12_see_58 rfl ?_
          refine g_iast (pc' := 60) B rfl (by omega) (by decide) dX12_see_59 rfl ?_
          refine g_aload_n (pc' := 61) B 0 rfl rfl dX12_see_60 rfl ?_
          refine g_getR (pc' := 64) B 70 fl_X12_54 rfl rfl dX12_see_61 rfl ?_
          refine g_aload_n (pc' := 65) B 0 rfl rfl dX12_see_64 rfl ?_
          refine g_get (pc' := 68) B (Y 3 0) (by have q9 := hY.1; simpa [up] using q9) fl_X12_143 rfl rfl dX12_see_65 rfl ?_
          refine g_iload_n (pc' := 69) B 2 rfl rfl dX12_see_68 rfl ?_
          refine g_iast (pc' := 70) B rfl (by omega) (by decide) dX12_see_69 rfl ?_
          refine g_aload_n (pc' := 71) B 0 rfl rfl dX12_see_70 rfl ?_
          refine g_getR (pc' := 74) B 71 fl_X12_57 rfl rfl dX12_see_71 rfl ?_
          refine g_aload_n (pc' := 75) B 0 rfl rfl dX12_see_74 rfl ?_
          refine g_get (pc' := 78) B (Y 3 0) (by have q9 := hY.1; simpa [up] using q9) fl_X12_143 rfl rfl dX12_see_75 rfl ?_
          refine g_iload_n (pc' := 79) B 3 rfl rfl dX12_see_78 rfl ?_
          refine g_iast (pc' := 80) B rfl (by omega) (by decide) dX12_see_79 rfl ?_
          refine g_aload_n (pc' := 81) B 0 rfl rfl dX12_see_80 rfl ?_
          refine g_dup (pc' := 82) B rfl dX12_see_81 rfl ?_
          refine g_get (pc' := 85) B (Y 3 0) (by have q9 := hY.1; simpa [up] using q9) fl_X12_143 rfl rfl dX12_see_82 rfl ?_
          refine g_iconst (pc' := 86) B dX12_see_85 rfl ?_
          refine g_iadd (pc' := 87) B dX12_see_86 rfl ?_
          refine g_put (pc' := 90) B 30 rfl fp_X12_143 rfl rfl dX12_see_87 rfl ?_
          refine g_aload_n (pc' := 91) B 0 rfl rfl dX12_see_90 rfl ?_
          refine g_get (pc' := 94) B ((Y 3 0) + 1) (by simp [up]) fl_X12_143 rfl rfl dX12_see_91 rfl ?_
          exact g_iret (z := (Y 3 0) + 1) B hrt rfl hlk dX12_see_94 (Or.inr (Or.inr (Or.inr ⟨by omega, by omega, by omega, rfl, rfl⟩)))
        · refine g_ldc (z := (-1000000004)) (pc' := 49) B tw_1045 (by decide +kernel) dX12_see_47 rfl ?_
          exact g_iret (z := (-1000000004)) B hrt rfl hlk dX12_see_49 (Or.inr (Or.inr (Or.inl ⟨by omega, by omega, by omega, rfl, rfl⟩)))
      · refine g_if_ne (pc' := 35) B 38 (by omega) dX12_see_32 (by decide) rfl (fun q => absurd q (by decide)) (fun _ => ?_)
        refine g_ldc (z := (-1000000002)) (pc' := 37) B tw_1044 (by decide +kernel) dX12_see_35 rfl ?_
        exact g_iret (z := (-1000000002)) B hrt rfl hlk dX12_see_37 (Or.inr (Or.inl ⟨by omega, by omega, rfl, rfl⟩))
    · refine g_if_eq (pc' := 23) B 35 (by omega) dX12_see_20 (by decide) rfl (fun _ => ?_) (fun q => absurd q (by decide))
      refine g_ldc (z := (-1000000002)) (pc' := 37) B tw_1044 (by decide +kernel) dX12_see_35 rfl ?_
      exact g_iret (z := (-1000000002)) B hrt rfl hlk dX12_see_37 (Or.inr (Or.inl ⟨by omega, by omega, rfl, rfl⟩))
  · refine g_if_ne (pc' := 8) B 11 (by omega) dX12_see_5 (by decide) rfl (fun q => absurd q (by decide)) (fun _ => ?_)
    refine g_ldc (z := (-1000000001)) (pc' := 10) B tw_1133 (by decide +kernel) dX12_see_8 rfl ?_
    exact g_iret (z := (-1000000001)) B hrt rfl hlk dX12_see_10 (Or.inl ⟨by omega, rfl, rfl⟩)
set_option maxRecDepth 100000 in
set_option maxHeartbeats 4000000 in
theorem c_X12_copy (l : Launch) (K : WK) (σ : SG) {x y : Int} (hxy : (0 ≤ x ∧ x ≤ 20) ∧ (0 ≤ y ∧ y ≤ 20) ∧ (x + 10 ≤ y ∨ y + 10 ≤ x)) : MV l yX12_copy cX12_copy 4 none 0 0 K σ [.ref (K.2.2 57), .int (iI x), .int (iI y)] (fun τ => (∀ k : Int, 0 ≤ k → k < 10 → τ 58 (y + k) = σ 58 (x + k)) ∧ (∀ j : Int, (j < y ∨ y + 10 ≤ j) → τ 58 j = σ 58 j) ∧ ∀ k, k ≠ 58 → τ k = σ k) := by
  refine met_of [(0, .ref (K.2.2 57)), (1, .int (iI x)), (2, .int (iI y))] (by decide +kernel) (Nat.le_of_ble_eq_true rfl) rfl ?_
  intro pP eE sS mM bW mT cC B hrt hlk
  replace B : CB pP sS mM [.ref (K.2.2 57), .int (iI x), .int (iI y)].toArray cC cX12_copy RX12 4 K := B
  refine g_iconst (pc' := 1) B dX12_copy_0 rfl ?_
  refine g_istore_n (pc' := 2) B [(3, .int (iI 0)), (0, .ref (K.2.2 57)), (1, .int (iI x)), (2, .int (iI y))] dX12_copy_1 rfl rfl (by decide) rfl ?_
  have L2 : ∀ (nn : Nat) (ρ : SG) (k : Int) , (10 - k).toNat = nn → (0 ≤ k ∧ k ≤ 10) → (∀ j : Int, 0 ≤ j → j < k → ρ 58 (y + j) = σ 58 (x + j)) → (∀ j : Int, (j < y ∨ y + k ≤ j) → ρ 58 j = σ 58 j) → (∀ k, k ≠ 58 → ρ k = σ k) → G pP l eE (rmo 0 0) sS mM [.ref (K.2.2 57), .int (iI x), .int (iI y)].toArray bW mT cC 0 0 (MQ bW (Qv K (fun τ => (∀ k : Int, 0 ≤ k → k < 10 → τ 58 (y + k) = σ 58 (x + k)) ∧ (∀ j : Int, (j < y ∨ y + 10 ≤ j) → τ 58 j = σ 58 j) ∧ ∀ k, k ≠ 58 → τ k = σ k)) [.ref (K.2.2 57), .int (iI x), .int (iI y)].toArray sS 0 0 (wA K)) K sS.heap 4 ρ 2 [(3, .int (iI k)), (0, .ref (K.2.2 57)), (1, .int (iI x)), (2, .int (iI y))] [] := by
    intro nn
    induction nn using Nat.strongRecOn with
    | _ nn ih2 =>
      intro ρ k hn2 i1 i2 i3 i4
      refine g_iload_n (pc' := 3) B 0 rfl rfl dX12_copy_2 rfl ?_
      refine g_bipush (pc' := 5) B (by decide +kernel) dX12_copy_3 rfl ?_
      refine g_icmp_ge (pc' := 8) B 30 (by omega) (by omega) dX12_copy_5 (by decide) rfl (fun c5 => ?_) (fun c5 => ?_)
      · exact g_vret B hrt hlk dX12_copy_30 ⟨fun j a b => i2 j a (by omega), fun j a => i3 j (by omega), i4⟩
      · refine g_aload_n (pc' := 9) B 1 rfl rfl dX12_copy_8 rfl ?_
        refine g_getR (pc' := 12) B 58 fl_X12_7 rfl rfl dX12_copy_9 rfl ?_
        refine g_iload_n (pc' := 13) B 3 rfl rfl dX12_copy_12 rfl ?_
        refine g_iload_n (pc' := 14) B 0 rfl rfl dX12_copy_13 rfl ?_
        refine g_iadd (pc' := 15) B dX12_copy_14 rfl ?_
        refine g_aload_n (pc' := 16) B 1 rfl rfl dX12_copy_15 rfl ?_
        refine g_getR (pc' := 19) B 58 fl_X12_7 rfl rfl dX12_copy_16 rfl ?_
        refine g_iload_n (pc' := 20) B 2 rfl rfl dX12_copy_19 rfl ?_
        refine g_iload_n (pc' := 21) B 0 rfl rfl dX12_copy_20 rfl ?_
        refine g_iadd (pc' := 22) B dX12_copy_21 rfl ?_
        refine g_iald (pc' := 23) B (ρ 58 (x + k)) rfl rfl (by omega) (by decide) dX12_copy_22 rfl ?_
        refine g_iast (pc' := 24) B rfl (by omega) (by decide) dX12_copy_23 rfl ?_
        refine g_iinc (pc' := 27) B 0 [(3, .int (iI (k + 1))), (0, .ref (K.2.2 57)), (1, .int (iI x)), (2, .int (iI y))] dX12_copy_24 rfl rfl (by decide) rfl ?_
        refine g_goto (pc' := 2) B dX12_copy_27 (by decide) ?_
        exact ih2 _ (by omega) (up ρ 58 (y + k) (ρ 58 (x + k))) (k + 1) rfl (by omega) (by intro j a b; by_cases e9 : j = k; (subst e9; rw [up_same]; exact i3 _ (by omega)); (rw [up_col (by omega)]; exact i2 j a (by omega))) (by intro j a; rw [up_col (by omega)]; exact i3 j (by omega)) (by intro k a; rw [up_row a]; exact i4 k a)
  exact L2 _ σ 0 rfl (by omega) (by intro j a b; omega) (by intro j a; rfl) (by intro k a; rfl)
