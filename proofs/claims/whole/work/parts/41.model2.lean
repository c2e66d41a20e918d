set_option maxRecDepth 100000 in
set_option maxHeartbeats 4000000 in
theorem c_X12_size (l : Launch) (K : WK) (σ : SG) {v : Int} (hv : -2147483647 ≤ v ∧ v < 2147483648) : MI l yX12_size cX12_size 1 (some .int) 0 0 K σ [.int (iI v)] (fun z τ => σ = τ ∧ z = (v.natAbs : Int)) := by
  refine met_of [(0, .int (iI v))] (by decide +kernel) (Nat.le_of_ble_eq_true rfl) rfl ?_
  intro pP eE sS mM bW mT cC B hrt hlk
  replace B : CB pP sS mM [.int (iI v)].toArray cC cX12_size RX12 1 K := B
  refine g_iload_n (pc' := 1) B 0 rfl rfl dX12_size_0 rfl ?_
  refine g_if_ge (pc' := 4) B 9 (by omega) dX12_size_1 (by decide) rfl (fun c1 => ?_) (fun c1 => ?_)
  · refine g_iload_n (pc' := 10) B 0 rfl rfl dX12_size_9 rfl ?_
    exact g_iret (z := v) B hrt rfl hlk dX12_size_10 ⟨rfl, by omega⟩
  · refine g_iload_n (pc' := 5) B 0 rfl rfl dX12_size_4 rfl ?_
    refine g_ineg (pc' := 6) B dX12_size_5 rfl ?_
    refine g_goto (pc' := 10) B dX12_size_6 (by decide) ?_
    exact g_iret (z := -v) B hrt rfl hlk dX12_size_10 ⟨rfl, by omega⟩
set_option maxRecDepth 100000 in
set_option maxHeartbeats 4000000 in
theorem c_X12_leanOf (l : Launch) (K : WK) (σ : SG) {D : SG} (hM : mD σ D) (hF : okF D) (hR : okR D) (hO : okQ D) (hH : okH D) {f x : Int} (hf : 0 ≤ f ∧ f ≤ 100) (hx : 0 ≤ x ∧ x ≤ 100000000) : MI l yX12_leanOf cX12_leanOf 3 (some .int) 2 47 K σ [.ref (K.2.2 57), .int (iI f), .int (iI x)] (fun z τ => σ = τ ∧ z = lean D f x) := by
  refine met_of [(0, .ref (K.2.2 57)), (1, .int (iI f)), (2, .int (iI x))] (by decide +kernel) (Nat.le_of_ble_eq_true rfl) rfl ?_
  intro pP eE sS mM bW mT cC B hrt hlk
  replace B : CB pP sS mM [.ref (K.2.2 57), .int (iI f), .int (iI x)].toArray cC cX12_leanOf RX12 3 K := B
  obtain ⟨hF0, hF1⟩ := id hF
  obtain ⟨hO0, hO1⟩ := id hO
  obtain ⟨hH0, hH1⟩ := id hH
  obtain ⟨hR0, hR1⟩ := id hR
  refine g_iload_n (pc' := 1) B 1 rfl rfl dX12_leanOf_0 rfl ?_
  refine g_iconst (pc' := 2) B dX12_leanOf_1 rfl ?_
  refine g_iadd (pc' := 3) B dX12_leanOf_2 rfl ?_
  refine g_aload_n (pc' := 4) B 0 rfl rfl dX12_leanOf_3 rfl ?_
  refine g_get (pc' := 7) B (D 9 0) hM.1 fl_X12_131 rfl rfl dX12_leanOf_4 rfl ?_
  refine g_icmp_ge (pc' := 10) B 28 (by omega) (by omega) dX12_leanOf_7 (by decide) rfl (fun c7 => ?_) (fun c7 => ?_)
  · refine g_iconst (pc' := 29) B dX12_leanOf_28 rfl ?_
    exact g_iret (z := 0) B hrt rfl hlk dX12_leanOf_29 ⟨rfl, by unfold lean; first | rw [if_pos (by omega)] | rw [if_neg (by omega)]⟩
  · refine g_aload_n (pc' := 11) B 0 rfl rfl dX12_leanOf_10 rfl ?_
    refine g_iload_n (pc' := 12) B 1 rfl rfl dX12_leanOf_11 rfl ?_
    refine g_iconst (pc' := 13) B dX12_leanOf_12 rfl ?_
    refine g_iadd (pc' := 14) B dX12_leanOf_13 rfl ?_
    refine g_iload_n (pc' := 15) B 2 rfl rfl dX12_leanOf_14 rfl ?_
    refine g_callVI (pc' := 18) (As := [.int (iI (f + 1)), .int (iI x)]) B (c_X12_heightOf l K _ (D := D) (f := f + 1) (x := x) hM hF hR hO hH (by omega) (by omega)) vt_X12_heightOf tw_1115 rfl rfl ⟨by decide, by decide⟩ rfl (Nat.le_of_ble_eq_true rfl) ⟨Nat.zero_le _, Nat.zero_le _⟩ rfl dX12_leanOf_15 rfl (fun z15 τ15 h15 => ?_)
    obtain ⟨rfl, rfl⟩ := h15
    refine g_aload_n (pc' := 19) B 0 rfl rfl dX12_leanOf_18 rfl ?_
    refine g_iload_n (pc' := 20) B 1 rfl rfl dX12_leanOf_19 rfl ?_
    refine g_iload_n (pc' := 21) B 2 rfl rfl dX12_leanOf_20 rfl ?_
    refine g_callVI (pc' := 24) (As := [.int (iI f), .int (iI x)]) B (c_X12_heightOf l K _ (D := D) (f := f) (x := x) hM hF hR hO hH (by omega) (by omega)) vt_X12_heightOf tw_1115 rfl rfl ⟨by decide, by decide⟩ rfl (Nat.le_of_ble_eq_true rfl) ⟨Nat.zero_le _, Nat.zero_le _⟩ rfl dX12_leanOf_21 rfl (fun z21 τ21 h21 => ?_)
    obtain ⟨rfl, rfl⟩ := h21
    have hg1 := hgt_bd (x := x) hF (show 0 ≤ f by omega) (show f < D 9 0 by omega)
    have hg2 := hgt_bd (x := x) hF (show 0 ≤ f + 1 by omega) (by omega)
    refine g_isub (pc' := 25) B dX12_leanOf_24 rfl ?_
    refine g_goto (pc' := 29) B dX12_leanOf_25 (by decide) ?_
    exact g_iret (z := (hgt D (f + 1) x) - (hgt D f x)) B hrt rfl hlk dX12_leanOf_29 ⟨rfl, by unfold lean; first | rw [if_pos (by omega)] | rw [if_neg (by omega)]⟩
set_option maxRecDepth 100000 in
set_option maxHeartbeats 4000000 in
theorem c_X12_isSeamOpen (l : Launch) (K : WK) (σ : SG) {D : SG} (hM : mD σ D) (hF : okF D) (hR : okR D) (hO : okQ D) (hH : okH D) {s t : Int} (hs : 0 ≤ s ∧ s < D 9 2) (ht : 0 ≤ t ∧ t ≤ 100000000) : MI l yX12_isSeamOpen cX12_isSeamOpen 4 (some .boolean) 0 0 K σ [.ref (K.2.2 57), .int (iI s), .int (iI t)] (fun z τ => σ = τ ∧ ((opn D s t ∧ z = 1) ∨ (¬ (opn D s t) ∧ z = 0))) := by
  refine met_of [(0, .ref (K.2.2 57)), (1, .int (iI s)), (2, .int (iI t))] (by decide +kernel) (Nat.le_of_ble_eq_true rfl) rfl ?_
  intro pP eE sS mM bW mT cC B hrt hlk
  replace B : CB pP sS mM [.ref (K.2.2 57), .int (iI s), .int (iI t)].toArray cC cX12_isSeamOpen RX12 4 K := B
  obtain ⟨hF0, hF1⟩ := id hF
  obtain ⟨hO0, hO1⟩ := id hO
  obtain ⟨hH0, hH1⟩ := id hH
  obtain ⟨hR0, hR1⟩ := id hR
  have hs9 := hO1 s hs.1 hs.2
  refine g_aload_n (pc' := 1) B 0 rfl rfl dX12_isSeamOpen_0 rfl ?_
  refine g_getR (pc' := 4) B 62 fl_X12_23 rfl rfl dX12_isSeamOpen_1 rfl ?_
  refine g_iconst (pc' := 5) B dX12_isSeamOpen_4 rfl ?_
  refine g_iload_n (pc' := 6) B 1 rfl rfl dX12_isSeamOpen_5 rfl ?_
  refine g_imul (pc' := 7) B dX12_isSeamOpen_6 rfl ?_
  refine g_iconst (pc' := 8) B dX12_isSeamOpen_7 rfl ?_
  refine g_iadd (pc' := 9) B dX12_isSeamOpen_8 rfl ?_
  refine g_iald (pc' := 10) B (D 6 s) (hM.2.2.2.2.2.2 s (by omega) (by omega)).2.1 rfl (by omega) (by decide) dX12_isSeamOpen_9 rfl ?_
  refine g_istore_n (pc' := 11) B [(3, .int (iI (D 6 s))), (0, .ref (K.2.2 57)), (1, .int (iI s)), (2, .int (iI t))] dX12_isSeamOpen_10 rfl rfl (by decide) rfl ?_
  refine g_iload_n (pc' := 12) B 3 rfl rfl dX12_isSeamOpen_11 rfl ?_
  refine g_aload_n (pc' := 13) B 1 rfl rfl dX12_isSeamOpen_12 rfl ?_
  refine g_getR (pc' := 16) B 62 fl_X12_23 rfl rfl dX12_isSeamOpen_13 rfl ?_
  refine g_iconst (pc' := 17) B dX12_isSeamOpen_16 rfl ?_
  refine g_iload_n (pc' := 18) B 2 rfl rfl dX12_isSeamOpen_17 rfl ?_
  refine g_imul (pc' := 19) B dX12_isSeamOpen_18 rfl ?_
  refine g_iconst (pc' := 20) B dX12_isSeamOpen_19 rfl ?_
  refine g_iadd (pc' := 21) B dX12_isSeamOpen_20 rfl ?_
  refine g_iald (pc' := 22) B (D 7 s) (hM.2.2.2.2.2.2 s (by omega) (by omega)).2.2.1 rfl (by omega) (by decide) dX12_isSeamOpen_21 rfl ?_
  refine g_isub (pc' := 23) B dX12_isSeamOpen_22 rfl ?_
  refine g_iload_n (pc' := 24) B 0 rfl rfl dX12_isSeamOpen_23 rfl ?_
  obtain ⟨ht1, ht2, ht3⟩ := tmod_fix (x := t - D 7 s) (show 0 < D 6 s by omega)
  refine g_trem (pc' := 25) B (by omega) (by omega) dX12_isSeamOpen_24 rfl ?_
  refine g_iload_n (pc' := 26) B 0 rfl rfl dX12_isSeamOpen_25 rfl ?_
  refine g_iadd (pc' := 27) B dX12_isSeamOpen_26 rfl ?_
  refine g_iload_n (pc' := 28) B 0 rfl rfl dX12_isSeamOpen_27 rfl ?_
  refine g_irem (pc' := 29) B (by omega) (by omega) dX12_isSeamOpen_28 rfl ?_
  refine g_aload_n (pc' := 30) B 1 rfl rfl dX12_isSeamOpen_29 rfl ?_
  refine g_getR (pc' := 33) B 62 fl_X12_23 rfl rfl dX12_isSeamOpen_30 rfl ?_
  refine g_iconst (pc' := 34) B dX12_isSeamOpen_33 rfl ?_
  refine g_iload_n (pc' := 35) B 2 rfl rfl dX12_isSeamOpen_34 rfl ?_
  refine g_imul (pc' := 36) B dX12_isSeamOpen_35 rfl ?_
  refine g_iconst (pc' := 37) B dX12_isSeamOpen_36 rfl ?_
  refine g_iadd (pc' := 38) B dX12_isSeamOpen_37 rfl ?_
  refine g_iald (pc' := 39) B (D 8 s) (hM.2.2.2.2.2.2 s (by omega) (by omega)).2.2.2 rfl (by omega) (by decide) dX12_isSeamOpen_38 rfl ?_
  have e39 := tm_fix (x := t - D 7 s) (show 0 < D 6 s by omega)
  have m39 := Int.emod_nonneg (t - D 7 s) (show D 6 s ≠ 0 by omega)
  have n39 := Int.emod_lt_of_pos (t - D 7 s) (show 0 < D 6 s by omega)
  refine g_icmp_ge (pc' := 42) B 46 (by omega) (by omega) dX12_isSeamOpen_39 (by decide) rfl (fun c39 => ?_) (fun c39 => ?_)
  · refine g_iconst (pc' := 47) B dX12_isSeamOpen_46 rfl ?_
    exact g_iret (z := 0) B hrt rfl hlk dX12_isSeamOpen_47 ⟨rfl, Or.inr ⟨by unfold opn rs; omega, rfl⟩⟩
  · refine g_iconst (pc' := 43) B dX12_isSeamOpen_42 rfl ?_
    refine g_goto (pc' := 47) B dX12_isSeamOpen_43 (by decide) ?_
    exact g_iret (z := 1) B hrt rfl hlk dX12_isSeamOpen_47 ⟨rfl, Or.inl ⟨by unfold opn rs; omega, rfl⟩⟩
set_option maxRecDepth 100000 in
set_option maxHeartbeats 4000000 in
theorem c_X12_cracksAt (l : Launch) (K : WK) (σ : SG) {D : SG} (hM : mD σ D) (hF : okF D) (hR : okR D) (hO : okQ D) (hH : okH D) {sl : Int → Int} (hms : ∀ h : Int, 0 ≤ h → h < D 9 1 → σ 58 (4 + h) = sl h ∧ 0 ≤ sl h ∧ sl h ≤ 999) {h x : Int} (hh : 0 ≤ h ∧ h < D 9 1) (hx : 0 ≤ x ∧ x ≤ 100000000) : MI l yX12_cracksAt cX12_cracksAt 3 (some .boolean) 3 69 K σ [.ref (K.2.2 57), .int (iI h), .int (iI x)] (fun z τ => σ = τ ∧ ((sl h < cst D h x ∧ z = 1) ∨ (¬ (sl h < cst D h x) ∧ z = 0))) := by
  refine met_of [(0, .ref (K.2.2 57)), (1, .int (iI h)), (2, .int (iI x))] (by decide +kernel) (Nat.le_of_ble_eq_true rfl) rfl ?_
  intro pP eE sS mM bW mT cC B hrt hlk
  replace B : CB pP sS mM [.ref (K.2.2 57), .int (iI h), .int (iI x)].toArray cC cX12_cracksAt RX12 3 K := B
  obtain ⟨hF0, hF1⟩ := id hF
  obtain ⟨hO0, hO1⟩ := id hO
  obtain ⟨hH0, hH1⟩ := id hH
  obtain ⟨hR0, hR1⟩ := id hR
  have hh9 := hH1 h hh.1 hh.2
  have hs9 := hms h hh.1 hh.2
  have hc9 := cst_bd (h := h) x hF hH hh.1 hh.2
  have hl9 := lean_bd (f := D 4 h) x hF hh9.1
  have hce : cst D h x = ((lean D (D 4 h) x).natAbs : Int) := rfl
  refine g_aload_n (pc' := 1) B 0 rfl rfl dX12_cracksAt_0 rfl ?_
  refine g_aload_n (pc' := 2) B 0 rfl rfl dX12_cracksAt_1 rfl ?_
  refine g_getR (pc' := 5) B 61 fl_X12_20 rfl rfl dX12_cracksAt_2 rfl ?_
  refine g_iconst (pc' := 6) B dX12_cracksAt_5 rfl ?_
  refine g_iload_n (pc' := 7) B 1 rfl rfl dX12_cracksAt_6 rfl ?_
  refine g_imul (pc' := 8) B dX12_cracksAt_7 rfl ?_
  refine g_iald (pc' := 9) B (D 4 h) (hM.2.2.2.2.2.1 h (by omega) (by omega)) rfl (by omega) (by decide) dX12_cracksAt_8 rfl ?_
  refine g_iload_n (pc' := 10) B 2 rfl rfl dX12_cracksAt_9 rfl ?_
  refine g_callVI (pc' := 13) (As := [.int (iI (D 4 h)), .int (iI x)]) B (c_X12_leanOf l K _ (D := D) (f := D 4 h) (x := x) hM hF hR hO hH (by omega) (by omega)) vt_X12_leanOf tw_1111 rfl rfl ⟨by decide, by decide⟩ rfl (Nat.le_of_ble_eq_true rfl) ⟨Nat.zero_le _, Nat.zero_le _⟩ rfl dX12_cracksAt_10 rfl (fun z10 τ10 h10 => ?_)
  obtain ⟨rfl, rfl⟩ := h10
  refine g_callSI (pc' := 16) (As := [.int (iI (lean D (D 4 h) x))]) B (c_X12_size l K _ (v := lean D (D 4 h) x) (by omega)) st_X12_size tw_1122 ⟨by decide, by decide⟩ rfl (Nat.le_of_ble_eq_true rfl) ⟨Nat.zero_le _, Nat.zero_le _⟩ rfl dX12_cracksAt_13 rfl (fun z13 τ13 h13 => ?_)
  obtain ⟨rfl, rfl⟩ := h13
  refine g_aload_n (pc' := 17) B 0 rfl rfl dX12_cracksAt_16 rfl ?_
  refine g_getR (pc' := 20) B 58 fl_X12_7 rfl rfl dX12_cracksAt_17 rfl ?_
  refine g_iconst (pc' := 21) B dX12_cracksAt_20 rfl ?_
  refine g_iload_n (pc' := 22) B 1 rfl rfl dX12_cracksAt_21 rfl ?_
  refine g_iadd (pc' := 23) B dX12_cracksAt_22 rfl ?_
  refine g_iald (pc' := 24) B (sl h) (hms _ (by omega) (by omega)).1 rfl (by omega) (by decide) dX12_cracksAt_23 rfl ?_
  refine g_icmp_le (pc' := 27) B 31 (by omega) (by omega) dX12_cracksAt_24 (by decide) rfl (fun c24 => ?_) (fun c24 => ?_)
  · refine g_iconst (pc' := 32) B dX12_cracksAt_31 rfl ?_
    exact g_iret (z := 0) B hrt rfl hlk dX12_cracksAt_32 ⟨rfl, by omega⟩
  · refine g_iconst (pc' := 28) B dX12_cracksAt_27 rfl ?_
    refine g_goto (pc' := 32) B dX12_cracksAt_28 (by decide) ?_
    exact g_iret (z := 1) B hrt rfl hlk dX12_cracksAt_32 ⟨rfl, by omega⟩
set_option maxRecDepth 100000 in
set_option maxHeartbeats 4000000 in
theorem c_X12_openNow (l : Launch) (K : WK) (σ : SG) {D : SG} (hM : mD σ D) (hF : okF D) (hR : okR D) (hO : okQ D) (hH : okH D) {S X L P : Int} (hn0 : σ 58 0 = S ∧ σ 58 1 = X ∧ σ 58 2 = L ∧ σ 58 3 = P) (hSX : 0 ≤ X ∧ X ≤ S ∧ S ≤ 70000)  : MI l yX12_openNow cX12_openNow 3 (some .int) 1 23 K σ [.ref (K.2.2 57)] (fun z τ => σ = τ ∧ z = oset D S (D 9 2).toNat) := by
  refine met_of [(0, .ref (K.2.2 57))] (by decide +kernel) (Nat.le_of_ble_eq_true rfl) rfl ?_
  intro pP eE sS mM bW mT cC B hrt hlk
  replace B : CB pP sS mM [.ref (K.2.2 57)].toArray cC cX12_openNow RX12 3 K := B
  obtain ⟨hF0, hF1⟩ := id hF
  obtain ⟨hO0, hO1⟩ := id hO
  obtain ⟨hH0, hH1⟩ := id hH
  obtain ⟨hR0, hR1⟩ := id hR
  refine g_iconst (pc' := 1) B dX12_openNow_0 rfl ?_
  refine g_istore_n (pc' := 2) B [(1, .int (iI 0)), (0, .ref (K.2.2 57))] dX12_openNow_1 rfl rfl (by decide) rfl ?_
  refine g_iconst (pc' := 3) B dX12_openNow_2 rfl ?_
  refine g_istore_n (pc' := 4) B [(2, .int (iI 0)), (1, .int (iI 0)), (0, .ref (K.2.2 57))] dX12_openNow_3 rfl rfl (by decide) rfl ?_
  have L4 : ∀ (nn : Nat) (u s : Int) , (D 9 2 - s).toNat = nn → (0 ≤ s ∧ s ≤ D 9 2) → (u = oset D S s.toNat) → G pP l eE (rmo 1 23) sS mM [.ref (K.2.2 57)].toArray bW mT cC 0 0 (MQ bW (Qi K (fun z τ => σ = τ ∧ z = oset D S (D 9 2).toNat)) [.ref (K.2.2 57)].toArray sS 0 0 (wA K)) K sS.heap 3 σ 4 [(2, .int (iI s)), (1, .int (iI u)), (0, .ref (K.2.2 57))] [] := by
    intro nn
    induction nn using Nat.strongRecOn with
    | _ nn ih4 =>
      intro u s hn4 i1 i2
      refine g_iload_n (pc' := 5) B 0 rfl rfl dX12_openNow_4 rfl ?_
      refine g_aload_n (pc' := 6) B 2 rfl rfl dX12_openNow_5 rfl ?_
      refine g_get (pc' := 9) B (D 9 2) hM.2.2.1 fl_X12_137 rfl rfl dX12_openNow_6 rfl ?_
      refine g_icmp_ge (pc' := 12) B 37 (by omega) (by omega) dX12_openNow_9 (by decide) rfl (fun c9 => ?_) (fun c9 => ?_)
      · refine g_iload_n (pc' := 38) B 1 rfl rfl dX12_openNow_37 rfl ?_
        exact g_iret (z := u) B hrt rfl hlk dX12_openNow_38 ⟨rfl, by rw [i2, show s = D 9 2 by omega]⟩
      · have hu := oset_bd D S s.toNat
        rw [← i2] at hu
        have hp9 := pow_le7 (k := s.toNat) (by omega)
        refine g_iload_n (pc' := 13) B 1 rfl rfl dX12_openNow_12 rfl ?_
        refine g_aload_n (pc' := 14) B 2 rfl rfl dX12_openNow_13 rfl ?_
        refine g_iload_n (pc' := 15) B 0 rfl rfl dX12_openNow_14 rfl ?_
        refine g_aload_n (pc' := 16) B 2 rfl rfl dX12_openNow_15 rfl ?_
        refine g_getR (pc' := 19) B 58 fl_X12_7 rfl rfl dX12_openNow_16 rfl ?_
        refine g_iconst (pc' := 20) B dX12_openNow_19 rfl ?_
        refine g_iald (pc' := 21) B S hn0.1 rfl (by omega) (by decide) dX12_openNow_20 rfl ?_
        refine g_callVI (pc' := 24) (As := [.int (iI s), .int (iI S)]) B (c_X12_isSeamOpen l K _ (D := D) (s := s) (t := S) hM hF hR hO hH (by omega) (by omega)) vt_X12_isSeamOpen tw_1096 rfl rfl ⟨by decide, by decide⟩ rfl (Nat.le_of_ble_eq_true rfl) ⟨Nat.zero_le _, Nat.zero_le _⟩ rfl dX12_openNow_21 rfl (fun z21 τ21 h21 => ?_)
        obtain ⟨rfl, h21⟩ := h21
        rcases h21 with ⟨h21, rfl⟩ | ⟨h21, rfl⟩
        · refine g_callSI (pc' := 27) (As := [.int (iI 1)]) B (c_X12_one l K _ (v := 1) (by omega)) st_X12_one tw_1100 ⟨by decide, by decide⟩ rfl (Nat.le_of_ble_eq_true rfl) ⟨Nat.zero_le _, Nat.zero_le _⟩ rfl dX12_openNow_24 rfl (fun z24 τ24 h24 => ?_)
          obtain ⟨rfl, rfl⟩ := h24
          refine g_iload_n (pc' := 28) B 0 rfl rfl dX12_openNow_27 rfl ?_
          refine g_ishl (pc' := 29) B (2 ^ s.toNat) (sh1 ⟨by omega, by omega⟩) dX12_openNow_28 rfl ?_
          refine g_ior (pc' := 30) B (u + 2 ^ s.toNat) (or_add hu.1 hu.2) dX12_openNow_29 rfl ?_
          refine g_istore_n (pc' := 31) B [(1, .int (iI (u + 2 ^ s.toNat))), (2, .int (iI s)), (0, .ref (K.2.2 57))] dX12_openNow_30 rfl rfl (by decide) rfl ?_
          refine g_iinc (pc' := 34) B 1 [(2, .int (iI (s + 1))), (1, .int (iI (u + 2 ^ s.toNat))), (0, .ref (K.2.2 57))] dX12_openNow_31 rfl rfl (by decide) rfl ?_
          refine g_goto (pc' := 4) B dX12_openNow_34 (by decide) ?_
          exact ih4 _ (by omega) (u + 2 ^ s.toNat) (s + 1) rfl (by omega) (by rw [oset_next (by omega), i2]; unfold opn at h21; first | rw [if_pos h21] | (rw [if_neg h21]; omega))
        · refine g_callSI (pc' := 27) (As := [.int (iI 0)]) B (c_X12_one l K _ (v := 0) (by omega)) st_X12_one tw_1100 ⟨by decide, by decide⟩ rfl (Nat.le_of_ble_eq_true rfl) ⟨Nat.zero_le _, Nat.zero_le _⟩ rfl dX12_openNow_24 rfl (fun z24 τ24 h24 => ?_)
          obtain ⟨rfl, rfl⟩ := h24
          refine g_iload_n (pc' := 28) B 0 rfl rfl dX12_openNow_27 rfl ?_
          refine g_ishl (pc' := 29) B 0 (sh0 _) dX12_openNow_28 rfl ?_
          refine g_ior (pc' := 30) B u (or0 _) dX12_openNow_29 rfl ?_
          refine g_istore_n (pc' := 31) B [(1, .int (iI u)), (2, .int (iI s)), (0, .ref (K.2.2 57))] dX12_openNow_30 rfl rfl (by decide) rfl ?_
          refine g_iinc (pc' := 34) B 1 [(2, .int (iI (s + 1))), (1, .int (iI u)), (0, .ref (K.2.2 57))] dX12_openNow_31 rfl rfl (by decide) rfl ?_
          refine g_goto (pc' := 4) B dX12_openNow_34 (by decide) ?_
          exact ih4 _ (by omega) u (s + 1) rfl (by omega) (by rw [oset_next (by omega), i2]; unfold opn at h21; first | rw [if_pos h21] | (rw [if_neg h21]; omega))
  exact L4 _ 0 0 rfl (by omega) (by rfl)
set_option maxRecDepth 100000 in
set_option maxHeartbeats 4000000 in
theorem c_X12_crackNow (l : Launch) (K : WK) (σ : SG) {D : SG} (hM : mD σ D) (hF : okF D) (hR : okR D) (hO : okQ D) (hH : okH D) {S X L P : Int} (hn0 : σ 58 0 = S ∧ σ 58 1 = X ∧ σ 58 2 = L ∧ σ 58 3 = P) (hSX : 0 ≤ X ∧ X ≤ S ∧ S ≤ 70000) {sl : Int → Int} (hms : ∀ h : Int, 0 ≤ h → h < D 9 1 → σ 58 (4 + h) = sl h ∧ 0 ≤ sl h ∧ sl h ≤ 999)  : MI l yX12_crackNow cX12_crackNow 3 (some .int) 4 91 K σ [.ref (K.2.2 57)] (fun z τ => σ = τ ∧ z = cset D sl X (D 9 1).toNat) := by
  refine met_of [(0, .ref (K.2.2 57))] (by decide +kernel) (Nat.le_of_ble_eq_true rfl) rfl ?_
  intro pP eE sS mM bW mT cC B hrt hlk
  replace B : CB pP sS mM [.ref (K.2.2 57)].toArray cC cX12_crackNow RX12 3 K := B
  obtain ⟨hF0, hF1⟩ := id hF
  obtain ⟨hO0, hO1⟩ := id hO
  obtain ⟨hH0, hH1⟩ := id hH
  obtain ⟨hR0, hR1⟩ := id hR
  refine g_iconst (pc' := 1) B dX12_crackNow_0 rfl ?_
  refine g_istore_n (pc' := 2) B [(1, .int (iI 0)), (0, .ref (K.2.2 57))] dX12_crackNow_1 rfl rfl (by decide) rfl ?_
  refine g_iconst (pc' := 3) B dX12_crackNow_2 rfl ?_
  refine g_istore_n (pc' := 4) B [(2, .int (iI 0)), (1, .int (iI 0)), (0, .ref (K.2.2 57))] dX12_crackNow_3 rfl rfl (by decide) rfl ?_
  have L4 : ∀ (nn : Nat) (u h : Int) , (D 9 1 - h).toNat = nn → (0 ≤ h ∧ h ≤ D 9 1) → (u = cset D sl X h.toNat) → G pP l eE (rmo 4 91) sS mM [.ref (K.2.2 57)].toArray bW mT cC 0 0 (MQ bW (Qi K (fun z τ => σ = τ ∧ z = cset D sl X (D 9 1).toNat)) [.ref (K.2.2 57)].toArray sS 0 0 (wA K)) K sS.heap 3 σ 4 [(2, .int (iI h)), (1, .int (iI u)), (0, .ref (K.2.2 57))] [] := by
    intro nn
    induction nn using Nat.strongRecOn with
    | _ nn ih4 =>
      intro u h hn4 i1 i2
      refine g_iload_n (pc' := 5) B 0 rfl rfl dX12_crackNow_4 rfl ?_
      refine g_aload_n (pc' := 6) B 2 rfl rfl dX12_crackNow_5 rfl ?_
      refine g_get (pc' := 9) B (D 9 1) hM.2.1 fl_X12_134 rfl rfl dX12_crackNow_6 rfl ?_
      refine g_icmp_ge (pc' := 12) B 37 (by omega) (by omega) dX12_crackNow_9 (by decide) rfl (fun c9 => ?_) (fun c9 => ?_)
      · refine g_iload_n (pc' := 38) B 1 rfl rfl dX12_crackNow_37 rfl ?_
        exact g_iret (z := u) B hrt rfl hlk dX12_crackNow_38 ⟨rfl, by rw [i2, show h = D 9 1 by omega]⟩
      · have hu := cset_bd D sl X h.toNat
        rw [← i2] at hu
        have hp9 := pow_le7 (k := h.toNat) (by omega)
        refine g_iload_n (pc' := 13) B 1 rfl rfl dX12_crackNow_12 rfl ?_
        refine g_aload_n (pc' := 14) B 2 rfl rfl dX12_crackNow_13 rfl ?_
        refine g_iload_n (pc' := 15) B 0 rfl rfl dX12_crackNow_14 rfl ?_
        refine g_aload_n (pc' := 16) B 2 rfl rfl dX12_crackNow_15 rfl ?_
        refine g_getR (pc' := 19) B 58 fl_X12_7 rfl rfl dX12_crackNow_16 rfl ?_
        refine g_iconst (pc' := 20) B dX12_crackNow_19 rfl ?_
        refine g_iald (pc' := 21) B X hn0.2.1 rfl (by omega) (by decide) dX12_crackNow_20 rfl ?_
        refine g_callVI (pc' := 24) (As := [.int (iI h), .int (iI X)]) B (c_X12_cracksAt l K _ (D := D) (sl := sl) (h := h) (x := X) hM hF hR hO hH hms (by omega) (by omega)) vt_X12_cracksAt tw_1107 rfl rfl ⟨by decide, by decide⟩ rfl (Nat.le_of_ble_eq_true rfl) ⟨Nat.zero_le _, Nat.zero_le _⟩ rfl dX12_crackNow_21 rfl (fun z21 τ21 h21 => ?_)
        obtain ⟨rfl, h21⟩ := h21
        rcases h21 with ⟨h21, rfl⟩ | ⟨h21, rfl⟩
        · refine g_callSI (pc' := 27) (As := [.int (iI 1)]) B (c_X12_one l K _ (v := 1) (by omega)) st_X12_one tw_1100 ⟨by decide, by decide⟩ rfl (Nat.le_of_ble_eq_true rfl) ⟨Nat.zero_le _, Nat.zero_le _⟩ rfl dX12_crackNow_24 rfl (fun z24 τ24 h24 => ?_)
          obtain ⟨rfl, rfl⟩ := h24
          refine g_iload_n (pc' := 28) B 0 rfl rfl dX12_crackNow_27 rfl ?_
          refine g_ishl (pc' := 29) B (2 ^ h.toNat) (sh1 ⟨by omega, by omega⟩) dX12_crackNow_28 rfl ?_
          refine g_ior (pc' := 30) B (u + 2 ^ h.toNat) (or_add hu.1 hu.2) dX12_crackNow_29 rfl ?_
          refine g_istore_n (pc' := 31) B [(1, .int (iI (u + 2 ^ h.toNat))), (2, .int (iI h)), (0, .ref (K.2.2 57))] dX12_crackNow_30 rfl rfl (by decide) rfl ?_
          refine g_iinc (pc' := 34) B 1 [(2, .int (iI (h + 1))), (1, .int (iI (u + 2 ^ h.toNat))), (0, .ref (K.2.2 57))] dX12_crackNow_31 rfl rfl (by decide) rfl ?_
          refine g_goto (pc' := 4) B dX12_crackNow_34 (by decide) ?_
          exact ih4 _ (by omega) (u + 2 ^ h.toNat) (h + 1) rfl (by omega) (by rw [cset_next (by omega), i2]; first | rw [if_pos h21] | (rw [if_neg h21]; omega))
        · refine g_callSI (pc' := 27) (As := [.int (iI 0)]) B (c_X12_one l K _ (v := 0) (by omega)) st_X12_one tw_1100 ⟨by decide, by decide⟩ rfl (Nat.le_of_ble_eq_true rfl) ⟨Nat.zero_le _, Nat.zero_le _⟩ rfl dX12_crackNow_24 rfl (fun z24 τ24 h24 => ?_)
          obtain ⟨rfl, rfl⟩ := h24
          refine g_iload_n (pc' := 28) B 0 rfl rfl dX12_crackNow_27 rfl ?_
          refine g_ishl (pc' := 29) B 0 (sh0 _) dX12_crackNow_28 rfl ?_
          refine g_ior (pc' := 30) B u (or0 _) dX12_crackNow_29 rfl ?_
          refine g_istore_n (pc' := 31) B [(1, .int (iI u)), (2, .int (iI h)), (0, .ref (K.2.2 57))] dX12_crackNow_30 rfl rfl (by decide) rfl ?_
          refine g_iinc (pc' := 34) B 1 [(2, .int (iI (h + 1))), (1, .int (iI u)), (0, .ref (K.2.2 57))] dX12_crackNow_31 rfl rfl (by decide) rfl ?_
          refine g_goto (pc' := 4) B dX12_crackNow_34 (by decide) ?_
          exact ih4 _ (by omega) u (h + 1) rfl (by omega) (by rw [cset_next (by omega), i2]; first | rw [if_pos h21] | (rw [if_neg h21]; omega))
  exact L4 _ 0 0 rfl (by omega) (by rfl)
set_option maxRecDepth 100000 in
set_option maxHeartbeats 4000000 in
theorem c_X12_told (l : Launch) (K : WK) (σ : SG) {D : SG} (hM : mD σ D) (hF : okF D) (hR : okR D) (hO : okQ D) (hH : okH D) {S X L P : Int} (hn0 : σ 58 0 = S ∧ σ 58 1 = X ∧ σ 58 2 = L ∧ σ 58 3 = P) (hSX : 0 ≤ X ∧ X ≤ S ∧ S ≤ 70000) {sl : Int → Int} (hms : ∀ h : Int, 0 ≤ h → h < D 9 1 → σ 58 (4 + h) = sl h ∧ 0 ≤ sl h ∧ sl h ≤ 999) {w : Int} (hw : -2147483648 ≤ w ∧ w < 2147483648) : MI l yX12_told cX12_told 2 (some .int) 5 113 K σ [.ref (K.2.2 57), .int (iI w)] (fun z τ => σ = τ ∧ z = qTold D sl S X (if D 9 0 = 0 then -1 else L) P (σ 57 14) (σ 57 25) (σ 57 30) (σ 57 33) (σ 57 21) w) := by
  refine met_of [(0, .ref (K.2.2 57)), (1, .int (iI w))] (by decide +kernel) (Nat.le_of_ble_eq_true rfl) rfl ?_
  intro pP eE sS mM bW mT cC B hrt hlk
  replace B : CB pP sS mM [.ref (K.2.2 57), .int (iI w)].toArray cC cX12_told RX12 2 K := B
  obtain ⟨hF0, hF1⟩ := id hF
  obtain ⟨hO0, hO1⟩ := id hO
  obtain ⟨hH0, hH1⟩ := id hH
  obtain ⟨hR0, hR1⟩ := id hR
  refine g_iload_n (pc' := 1) B 1 rfl rfl dX12_told_0 rfl ?_
  rcases (show w = 0 ∨ w = 1 ∨ w = 2 ∨ w = 3 ∨ w = 4 ∨ w = 5 ∨ w = 6 ∨ w = 7 ∨ w = 8 ∨ w = 9 ∨ w = 10 ∨ w = 11 ∨ w = 12 ∨ w = 13 ∨ w = 14 ∨ (w < 0 ∨ 14 < w) by omega) with c1 | c1 | c1 | c1 | c1 | c1 | c1 | c1 | c1 | c1 | c1 | c1 | c1 | c1 | c1 | c1
  · refine g_tableIn B 0 76 c1 dX12_told_1 (by decide) (by decide) (by decide) rfl (by decide) ?_
    refine g_aload_n (pc' := 77) B 0 rfl rfl dX12_told_76 rfl ?_
    refine g_get (pc' := 80) B (D 9 0) hM.1 fl_X12_131 rfl rfl dX12_told_77 rfl ?_
    exact g_iret (z := D 9 0) B hrt rfl hlk dX12_told_80 ⟨rfl, by rw [c1]; rfl⟩
  · refine g_tableIn B 1 81 c1 dX12_told_1 (by decide) (by decide) (by decide) rfl (by decide) ?_
    refine g_aload_n (pc' := 82) B 0 rfl rfl dX12_told_81 rfl ?_
    refine g_get (pc' := 85) B (D 9 1) hM.2.1 fl_X12_134 rfl rfl dX12_told_82 rfl ?_
    exact g_iret (z := D 9 1) B hrt rfl hlk dX12_told_85 ⟨rfl, by rw [c1]; rfl⟩
  · refine g_tableIn B 2 86 c1 dX12_told_1 (by decide) (by decide) (by decide) rfl (by decide) ?_
    refine g_aload_n (pc' := 87) B 0 rfl rfl dX12_told_86 rfl ?_
    refine g_get (pc' := 90) B (D 9 2) hM.2.2.1 fl_X12_137 rfl rfl dX12_told_87 rfl ?_
    exact g_iret (z := D 9 2) B hrt rfl hlk dX12_told_90 ⟨rfl, by rw [c1]; rfl⟩
  · refine g_tableIn B 3 91 c1 dX12_told_1 (by decide) (by decide) (by decide) rfl (by decide) ?_
    refine g_aload_n (pc' := 92) B 0 rfl rfl dX12_told_91 rfl ?_
    refine g_get (pc' := 95) B (σ 57 14) rfl fl_X12_73 rfl rfl dX12_told_92 rfl ?_
    exact g_iret (z := σ 57 14) B hrt rfl hlk dX12_told_95 ⟨rfl, by rw [c1]; rfl⟩
  · refine g_tableIn B 4 96 c1 dX12_told_1 (by decide) (by decide) (by decide) rfl (by decide) ?_
    refine g_aload_n (pc' := 97) B 0 rfl rfl dX12_told_96 rfl ?_
    refine g_getR (pc' := 100) B 58 fl_X12_7 rfl rfl dX12_told_97 rfl ?_
    refine g_iconst (pc' := 101) B dX12_told_100 rfl ?_
    refine g_iald (pc' := 102) B S hn0.1 rfl (by omega) (by decide) dX12_told_101 rfl ?_
    exact g_iret (z := S) B hrt rfl hlk dX12_told_102 ⟨rfl, by rw [c1]; rfl⟩
  · refine g_tableIn B 5 103 c1 dX12_told_1 (by decide) (by decide) (by decide) rfl (by decide) ?_
    refine g_aload_n (pc' := 104) B 0 rfl rfl dX12_told_103 rfl ?_
    refine g_getR (pc' := 107) B 58 fl_X12_7 rfl rfl dX12_told_104 rfl ?_
    refine g_iconst (pc' := 108) B dX12_told_107 rfl ?_
    refine g_iald (pc' := 109) B X hn0.2.1 rfl (by omega) (by decide) dX12_told_108 rfl ?_
    exact g_iret (z := X) B hrt rfl hlk dX12_told_109 ⟨rfl, by rw [c1]; rfl⟩
  · refine g_tableIn B 6 110 c1 dX12_told_1 (by decide) (by decide) (by decide) rfl (by decide) ?_
    refine g_aload_n (pc' := 111) B 0 rfl rfl dX12_told_110 rfl ?_
    refine g_get (pc' := 114) B (D 9 0) hM.1 fl_X12_131 rfl rfl dX12_told_111 rfl ?_
    refine g_if_ne (pc' := 117) B 121 (by omega) dX12_told_114 (by decide) rfl (fun c114 => ?_) (fun c114 => ?_)
    · refine g_aload_n (pc' := 122) B 0 rfl rfl dX12_told_121 rfl ?_
      refine g_getR (pc' := 125) B 58 fl_X12_7 rfl rfl dX12_told_122 rfl ?_
      refine g_iconst (pc' := 126) B dX12_told_125 rfl ?_
      refine g_iald (pc' := 127) B L hn0.2.2.1 rfl (by omega) (by decide) dX12_told_126 rfl ?_
      exact g_iret (z := L) B hrt rfl hlk dX12_told_127 ⟨rfl, by rw [c1, if_neg c114]; rfl⟩
    · refine g_iconst (pc' := 118) B dX12_told_117 rfl ?_
      refine g_goto (pc' := 127) B dX12_told_118 (by decide) ?_
      exact g_iret (z := (-1)) B hrt rfl hlk dX12_told_127 ⟨rfl, by rw [c1, if_pos c114]; rfl⟩
  · refine g_tableIn B 7 128 c1 dX12_told_1 (by decide) (by decide) (by decide) rfl (by decide) ?_
    refine g_aload_n (pc' := 129) B 0 rfl rfl dX12_told_128 rfl ?_
    refine g_getR (pc' := 132) B 58 fl_X12_7 rfl rfl dX12_told_129 rfl ?_
    refine g_iconst (pc' := 133) B dX12_told_132 rfl ?_
    refine g_iald (pc' := 134) B P hn0.2.2.2 rfl (by omega) (by decide) dX12_told_133 rfl ?_
    exact g_iret (z := P) B hrt rfl hlk dX12_told_134 ⟨rfl, by rw [c1]; rfl⟩
  · refine g_tableIn B 8 135 c1 dX12_told_1 (by decide) (by decide) (by decide) rfl (by decide) ?_
    refine g_aload_n (pc' := 136) B 0 rfl rfl dX12_told_135 rfl ?_
    refine g_get (pc' := 139) B (D 9 3) hM.2.2.2.1 fl_X12_33 rfl rfl dX12_told_136 rfl ?_
    exact g_iret (z := D 9 3) B hrt rfl hlk dX12_told_139 ⟨rfl, by rw [c1]; rfl⟩
  · refine g_tableIn B 9 140 c1 dX12_told_1 (by decide) (by decide) (by decide) rfl (by decide) ?_
    refine g_aload_n (pc' := 141) B 0 rfl rfl dX12_told_140 rfl ?_
    refine g_get (pc' := 144) B (σ 57 25) rfl fl_X12_140 rfl rfl dX12_told_141 rfl ?_
    exact g_iret (z := σ 57 25) B hrt rfl hlk dX12_told_144 ⟨rfl, by rw [c1]; rfl⟩
  · refine g_tableIn B 10 145 c1 dX12_told_1 (by decide) (by decide) (by decide) rfl (by decide) ?_
    refine g_aload_n (pc' := 146) B 0 rfl rfl dX12_told_145 rfl ?_
    refine g_get (pc' := 149) B (σ 57 30) rfl fl_X12_143 rfl rfl dX12_told_146 rfl ?_
    exact g_iret (z := σ 57 30) B hrt rfl hlk dX12_told_149 ⟨rfl, by rw [c1]; rfl⟩
  · refine g_tableIn B 11 150 c1 dX12_told_1 (by decide) (by decide) (by decide) rfl (by decide) ?_
    refine g_aload_n (pc' := 151) B 0 rfl rfl dX12_told_150 rfl ?_
    refine g_get (pc' := 154) B (σ 57 33) rfl fl_X12_146 rfl rfl dX12_told_151 rfl ?_
    exact g_iret (z := σ 57 33) B hrt rfl hlk dX12_told_154 ⟨rfl, by rw [c1]; rfl⟩
  · refine g_tableIn B 12 155 c1 dX12_told_1 (by decide) (by decide) (by decide) rfl (by decide) ?_
    refine g_aload_n (pc' := 156) B 0 rfl rfl dX12_told_155 rfl ?_
    refine g_get (pc' := 159) B (σ 57 21) rfl fl_X12_149 rfl rfl dX12_told_156 rfl ?_
    exact g_iret (z := σ 57 21) B hrt rfl hlk dX12_told_159 ⟨rfl, by rw [c1]; rfl⟩
  · refine g_tableIn B 13 160 c1 dX12_told_1 (by decide) (by decide) (by decide) rfl (by decide) ?_
    refine g_aload_n (pc' := 161) B 0 rfl rfl dX12_told_160 rfl ?_
    refine g_callVI (pc' := 164) (As := []) B (c_X12_openNow l K _ (D := D) (S := S) (X := X) (L := L) (P := P) hM hF hR hO hH hn0 (by omega)) vt_X12_openNow tw_1092 rfl rfl ⟨by decide, by decide⟩ rfl (Nat.le_of_ble_eq_true rfl) ⟨Nat.zero_le _, Nat.zero_le _⟩ rfl dX12_told_161 rfl (fun z161 τ161 h161 => ?_)
    obtain ⟨rfl, rfl⟩ := h161
    exact g_iret (z := oset D S (D 9 2).toNat) B hrt rfl hlk dX12_told_164 ⟨rfl, by rw [c1]; rfl⟩
  · refine g_tableIn B 14 165 c1 dX12_told_1 (by decide) (by decide) (by decide) rfl (by decide) ?_
    refine g_aload_n (pc' := 166) B 0 rfl rfl dX12_told_165 rfl ?_
    refine g_callVI (pc' := 169) (As := []) B (c_X12_crackNow l K _ (D := D) (S := S) (X := X) (L := L) (P := P) (sl := sl) hM hF hR hO hH hn0 (by omega) hms) vt_X12_crackNow tw_1103 rfl rfl ⟨by decide, by decide⟩ rfl (Nat.le_of_ble_eq_true rfl) ⟨Nat.zero_le _, Nat.zero_le _⟩ rfl dX12_told_166 rfl (fun z166 τ166 h166 => ?_)
    obtain ⟨rfl, rfl⟩ := h166
    exact g_iret (z := cset D sl X (D 9 1).toNat) B hrt rfl hlk dX12_told_169 ⟨rfl, by rw [c1]; rfl⟩
  · refine g_tableOut B 170 c1 (by omega) dX12_told_1 (by decide) ?_
    refine g_ldc (z := (-1000000002)) (pc' := 172) B tw_1044 (by decide +kernel) dX12_told_170 rfl ?_
    exact g_iret (z := (-1000000002)) B hrt rfl hlk dX12_told_172 ⟨rfl, by unfold qTold; rw [if_neg (by omega), if_neg (by omega), if_neg (by omega), if_neg (by omega), if_neg (by omega), if_neg (by omega), if_neg (by omega), if_neg (by omega), if_neg (by omega), if_neg (by omega), if_neg (by omega), if_neg (by omega), if_neg (by omega), if_neg (by omega), if_neg (by omega)]⟩
set_option maxRecDepth 100000 in
set_option maxHeartbeats 4000000 in
theorem c_X12_field (l : Launch) (K : WK) (σ : SG) {D : SG} (hM : mD σ D) (hF : okF D) (hR : okR D) (hO : okQ D) (hH : okH D) {S X L P : Int} (hn0 : σ 58 0 = S ∧ σ 58 1 = X ∧ σ 58 2 = L ∧ σ 58 3 = P) (hSX : 0 ≤ X ∧ X ≤ S ∧ S ≤ 70000) {f w : Int} (hf : -2147483648 ≤ f ∧ f < 2147483648) (hw : -2147483648 ≤ w ∧ w < 2147483648) : MI l yX12_field cX12_field 3 (some .int) 3 69 K σ [.ref (K.2.2 57), .int (iI f), .int (iI w)] (fun z τ => σ = τ ∧ z = qField D X f w) := by
  refine met_of [(0, .ref (K.2.2 57)), (1, .int (iI f)), (2, .int (iI w))] (by decide +kernel) (Nat.le_of_ble_eq_true rfl) rfl ?_
  intro pP eE sS mM bW mT cC B hrt hlk
  replace B : CB pP sS mM [.ref (K.2.2 57), .int (iI f), .int (iI w)].toArray cC cX12_field RX12 3 K := B
  obtain ⟨hF0, hF1⟩ := id hF
  obtain ⟨hO0, hO1⟩ := id hO
  obtain ⟨hH0, hH1⟩ := id hH
  obtain ⟨hR0, hR1⟩ := id hR
  refine g_aload_n (pc' := 1) B 0 rfl rfl dX12_field_0 rfl ?_
  refine g_iload_n (pc' := 2) B 1 rfl rfl dX12_field_1 rfl ?_
  refine g_callVI (pc' := 5) (As := [.int (iI f)]) B (c_X12_isField l K _ (D := D) (f := f) hM hF hR hO hH (by omega)) vt_X12_isField tw_1129 rfl rfl ⟨by decide, by decide⟩ rfl (Nat.le_of_ble_eq_true rfl) ⟨Nat.zero_le _, Nat.zero_le _⟩ rfl dX12_field_2 rfl (fun z2 τ2 h2 => ?_)
  obtain ⟨rfl, h2⟩ := h2
  rcases h2 with ⟨h2, rfl⟩ | ⟨h2, rfl⟩
  · refine g_if_ne (pc' := 8) B 11 (by omega) dX12_field_5 (by decide) rfl (fun _ => ?_) (fun q => absurd q (by decide))
    refine g_iload_n (pc' := 12) B 2 rfl rfl dX12_field_11 rfl ?_
    refine g_i2l (pc' := 13) B (by omega) dX12_field_12 rfl ?_
    refine g_lconst (z := 0) (pc' := 14) B (by decide +kernel) dX12_field_13 rfl ?_
    refine g_ldc2 (z := 3) (pc' := 17) B tw_1134 (by decide +kernel) dX12_field_14 rfl ?_
    refine g_callSI (pc' := 20) (As := [.long (lI w), .long (lI 0), .long (lI 3)]) B (c_X12_in l K _ (v := w) (a := 0) (b := 3) (by omega) (by omega) (by omega)) st_X12_in tw_1041 ⟨by decide, by decide⟩ rfl (Nat.le_of_ble_eq_true rfl) ⟨Nat.zero_le _, Nat.zero_le _⟩ rfl dX12_field_17 rfl (fun z17 τ17 h17 => ?_)
    obtain ⟨rfl, h17⟩ := h17
    rcases h17 with ⟨h17, rfl⟩ | ⟨h17, rfl⟩
    · refine g_if_eq (pc' := 23) B 36 (by omega) dX12_field_20 (by decide) rfl (fun q => absurd q (by decide)) (fun _ => ?_)
      refine g_aload_n (pc' := 24) B 0 rfl rfl dX12_field_23 rfl ?_
      refine g_getR (pc' := 27) B 60 fl_X12_17 rfl rfl dX12_field_24 rfl ?_
      refine g_iconst (pc' := 28) B dX12_field_27 rfl ?_
      refine g_iload_n (pc' := 29) B 1 rfl rfl dX12_field_28 rfl ?_
      refine g_imul (pc' := 30) B dX12_field_29 rfl ?_
      refine g_iload_n (pc' := 31) B 2 rfl rfl dX12_field_30 rfl ?_
      refine g_iadd (pc' := 32) B dX12_field_31 rfl ?_
      refine g_iald (pc' := 33) B (fdv D f w) (mD_f hM (by omega) (by omega) (by omega)) rfl (by omega) (by decide) dX12_field_32 rfl ?_
      refine g_goto (pc' := 76) B dX12_field_33 (by decide) ?_
      exact g_iret (z := fdv D f w) B hrt rfl hlk dX12_field_76 ⟨rfl, by unfold qField; (try unfold fdv); (repeat' split) <;> first | rfl | (exfalso; omega)⟩
    · refine g_if_eq (pc' := 23) B 36 (by omega) dX12_field_20 (by decide) rfl (fun _ => ?_) (fun q => absurd q (by decide))
      refine g_iload_n (pc' := 37) B 2 rfl rfl dX12_field_36 rfl ?_
      refine g_iconst (pc' := 38) B dX12_field_37 rfl ?_
      refine g_icmp_ne (pc' := 41) B 55 (by omega) (by omega) dX12_field_38 (by decide) rfl (fun c38 => ?_) (fun c38 => ?_)
      · refine g_iload_n (pc' := 56) B 2 rfl rfl dX12_field_55 rfl ?_
        refine g_iconst (pc' := 57) B dX12_field_56 rfl ?_
        refine g_icmp_ne (pc' := 60) B 74 (by omega) (by omega) dX12_field_57 (by decide) rfl (fun c57 => ?_) (fun c57 => ?_)
        · refine g_ldc (z := (-1000000002)) (pc' := 76) B tw_1044 (by decide +kernel) dX12_field_74 rfl ?_
          exact g_iret (z := (-1000000002)) B hrt rfl hlk dX12_field_76 ⟨rfl, by unfold qField; (try unfold fdv); (repeat' split) <;> first | rfl | (exfalso; omega)⟩
        · refine g_aload_n (pc' := 61) B 0 rfl rfl dX12_field_60 rfl ?_
          refine g_iload_n (pc' := 62) B 1 rfl rfl dX12_field_61 rfl ?_
          refine g_aload_n (pc' := 63) B 0 rfl rfl dX12_field_62 rfl ?_
          refine g_getR (pc' := 66) B 58 fl_X12_7 rfl rfl dX12_field_63 rfl ?_
          refine g_iconst (pc' := 67) B dX12_field_66 rfl ?_
          refine g_iald (pc' := 68) B X hn0.2.1 rfl (by omega) (by decide) dX12_field_67 rfl ?_
          refine g_callVI (pc' := 71) (As := [.int (iI f), .int (iI X)]) B (c_X12_leanOf l K _ (D := D) (f := f) (x := X) hM hF hR hO hH (by omega) (by omega)) vt_X12_leanOf tw_1111 rfl rfl ⟨by decide, by decide⟩ rfl (Nat.le_of_ble_eq_true rfl) ⟨Nat.zero_le _, Nat.zero_le _⟩ rfl dX12_field_68 rfl (fun z68 τ68 h68 => ?_)
          obtain ⟨rfl, rfl⟩ := h68
          refine g_goto (pc' := 76) B dX12_field_71 (by decide) ?_
          exact g_iret (z := lean D f X) B hrt rfl hlk dX12_field_76 ⟨rfl, by unfold qField; (try unfold fdv); (repeat' split) <;> first | rfl | (exfalso; omega)⟩
      · refine g_aload_n (pc' := 42) B 0 rfl rfl dX12_field_41 rfl ?_
        refine g_iload_n (pc' := 43) B 1 rfl rfl dX12_field_42 rfl ?_
        refine g_aload_n (pc' := 44) B 0 rfl rfl dX12_field_43 rfl ?_
        refine g_getR (pc' := 47) B 58 fl_X12_7 rfl rfl dX12_field_44 rfl ?_
        refine g_iconst (pc' := 48) B dX12_field_47 rfl ?_
        refine g_iald (pc' := 49) B X hn0.2.1 rfl (by omega) (by decide) dX12_field_48 rfl ?_
        refine g_callVI (pc' := 52) (As := [.int (iI f), .int (iI X)]) B (c_X12_heightOf l K _ (D := D) (f := f) (x := X) hM hF hR hO hH (by omega) (by omega)) vt_X12_heightOf tw_1115 rfl rfl ⟨by decide, by decide⟩ rfl (Nat.le_of_ble_eq_true rfl) ⟨Nat.zero_le _, Nat.zero_le _⟩ rfl dX12_field_49 rfl (fun z49 τ49 h49 => ?_)
        obtain ⟨rfl, rfl⟩ := h49
        refine g_goto (pc' := 76) B dX12_field_52 (by decide) ?_
        exact g_iret (z := hgt D f X) B hrt rfl hlk dX12_field_76 ⟨rfl, by unfold qField; (try unfold fdv); (repeat' split) <;> first | rfl | (exfalso; omega)⟩
  · refine g_if_ne (pc' := 8) B 11 (by omega) dX12_field_5 (by decide) rfl (fun q => absurd q (by decide)) (fun _ => ?_)
    refine g_ldc (z := (-1000000001)) (pc' := 10) B tw_1133 (by decide +kernel) dX12_field_8 rfl ?_
    exact g_iret (z := (-1000000001)) B hrt rfl hlk dX12_field_10 ⟨rfl, by unfold qField; (try unfold fdv); (repeat' split) <;> first | rfl | (exfalso; omega)⟩
set_option maxRecDepth 100000 in
set_option maxHeartbeats 4000000 in
theorem c_X12_height (l : Launch) (K : WK) (σ : SG) {D : SG} (hM : mD σ D) (hF : okF D) (hR : okR D) (hO : okQ D) (hH : okH D) {f x : Int} (hf : -2147483648 ≤ f ∧ f < 2147483648) (hx : -2147483648 ≤ x ∧ x < 2147483648) : MI l yX12_height cX12_height 3 (some .int) 2 47 K σ [.ref (K.2.2 57), .int (iI f), .int (iI x)] (fun z τ => σ = τ ∧ z = qHeight D f x) := by
  refine met_of [(0, .ref (K.2.2 57)), (1, .int (iI f)), (2, .int (iI x))] (by decide +kernel) (Nat.le_of_ble_eq_true rfl) rfl ?_
  intro pP eE sS mM bW mT cC B hrt hlk
  replace B : CB pP sS mM [.ref (K.2.2 57), .int (iI f), .int (iI x)].toArray cC cX12_height RX12 3 K := B
  obtain ⟨hF0, hF1⟩ := id hF
  obtain ⟨hO0, hO1⟩ := id hO
  obtain ⟨hH0, hH1⟩ := id hH
  obtain ⟨hR0, hR1⟩ := id hR
  refine g_aload_n (pc' := 1) B 0 rfl rfl dX12_height_0 rfl ?_
  refine g_iload_n (pc' := 2) B 1 rfl rfl dX12_height_1 rfl ?_
  refine g_callVI (pc' := 5) (As := [.int (iI f)]) B (c_X12_isField l K _ (D := D) (f := f) hM hF hR hO hH (by omega)) vt_X12_isField tw_1129 rfl rfl ⟨by decide, by decide⟩ rfl (Nat.le_of_ble_eq_true rfl) ⟨Nat.zero_le _, Nat.zero_le _⟩ rfl dX12_height_2 rfl (fun z2 τ2 h2 => ?_)
  obtain ⟨rfl, h2⟩ := h2
  rcases h2 with ⟨h2, rfl⟩ | ⟨h2, rfl⟩
  · refine g_if_ne (pc' := 8) B 13 (by omega) dX12_height_5 (by decide) rfl (fun _ => ?_) (fun q => absurd q (by decide))
    refine g_iload_n (pc' := 14) B 2 rfl rfl dX12_height_13 rfl ?_
    refine g_i2l (pc' := 15) B (by omega) dX12_height_14 rfl ?_
    refine g_lconst (z := 0) (pc' := 16) B (by decide +kernel) dX12_height_15 rfl ?_
    refine g_ldc2 (z := 1000000) (pc' := 19) B tw_1139 (by decide +kernel) dX12_height_16 rfl ?_
    refine g_callSI (pc' := 22) (As := [.long (lI x), .long (lI 0), .long (lI 1000000)]) B (c_X12_in l K _ (v := x) (a := 0) (b := 1000000) (by omega) (by omega) (by omega)) st_X12_in tw_1041 ⟨by decide, by decide⟩ rfl (Nat.le_of_ble_eq_true rfl) ⟨Nat.zero_le _, Nat.zero_le _⟩ rfl dX12_height_19 rfl (fun z19 τ19 h19 => ?_)
    obtain ⟨rfl, h19⟩ := h19
    rcases h19 with ⟨h19, rfl⟩ | ⟨h19, rfl⟩
    · refine g_if_eq (pc' := 25) B 34 (by omega) dX12_height_22 (by decide) rfl (fun q => absurd q (by decide)) (fun _ => ?_)
      refine g_aload_n (pc' := 26) B 0 rfl rfl dX12_height_25 rfl ?_
      refine g_iload_n (pc' := 27) B 1 rfl rfl dX12_height_26 rfl ?_
      refine g_iload_n (pc' := 28) B 2 rfl rfl dX12_height_27 rfl ?_
      refine g_callVI (pc' := 31) (As := [.int (iI f), .int (iI x)]) B (c_X12_heightOf l K _ (D := D) (f := f) (x := x) hM hF hR hO hH (by omega) (by omega)) vt_X12_heightOf tw_1115 rfl rfl ⟨by decide, by decide⟩ rfl (Nat.le_of_ble_eq_true rfl) ⟨Nat.zero_le _, Nat.zero_le _⟩ rfl dX12_height_28 rfl (fun z28 τ28 h28 => ?_)
      obtain ⟨rfl, rfl⟩ := h28
      refine g_goto (pc' := 36) B dX12_height_31 (by decide) ?_
      exact g_iret (z := hgt D f x) B hrt rfl hlk dX12_height_36 ⟨rfl, by unfold qHeight; (repeat' split) <;> first | rfl | (exfalso; omega)⟩
    · refine g_if_eq (pc' := 25) B 34 (by omega) dX12_height_22 (by decide) rfl (fun _ => ?_) (fun q => absurd q (by decide))
      refine g_ldc (z := (-1000000002)) (pc' := 36) B tw_1044 (by decide +kernel) dX12_height_34 rfl ?_
      exact g_iret (z := (-1000000002)) B hrt rfl hlk dX12_height_36 ⟨rfl, by unfold qHeight; (repeat' split) <;> first | rfl | (exfalso; omega)⟩
  · refine g_if_ne (pc' := 8) B 13 (by omega) dX12_height_5 (by decide) rfl (fun q => absurd q (by decide)) (fun _ => ?_)
    refine g_ldc (z := (-1000000001)) (pc' := 10) B tw_1133 (by decide +kernel) dX12_height_8 rfl ?_
    refine g_goto (pc' := 36) B dX12_height_10 (by decide) ?_
    exact g_iret (z := (-1000000001)) B hrt rfl hlk dX12_height_36 ⟨rfl, by unfold qHeight; (repeat' split) <;> first | rfl | (exfalso; omega)⟩
set_option maxRecDepth 100000 in
set_option maxHeartbeats 4000000 in
theorem c_X12_needs (l : Launch) (K : WK) (σ : SG) {D : SG} (hM : mD σ D) (hF : okF D) (hR : okR D) (hO : okQ D) (hH : okH D) {h : Int} (hh : 0 ≤ h ∧ h < D 9 1) : MI l yX12_needs cX12_needs 5 (some .int) 3 69 K σ [.ref (K.2.2 57), .int (iI h)] (fun z τ => σ = τ ∧ z = nd D h) := by
  refine met_of [(0, .ref (K.2.2 57)), (1, .int (iI h))] (by decide +kernel) (Nat.le_of_ble_eq_true rfl) rfl ?_
  intro pP eE sS mM bW mT cC B hrt hlk
  replace B : CB pP sS mM [.ref (K.2.2 57), .int (iI h)].toArray cC cX12_needs RX12 5 K := B
  obtain ⟨hF0, hF1⟩ := id hF
  obtain ⟨hO0, hO1⟩ := id hO
  obtain ⟨hH0, hH1⟩ := id hH
  obtain ⟨hR0, hR1⟩ := id hR
  have hh9 := hH1 h hh.1 hh.2
  refine g_iconst (pc' := 1) B dX12_needs_0 rfl ?_
  refine g_istore_n (pc' := 2) B [(2, .int (iI 0)), (0, .ref (K.2.2 57)), (1, .int (iI h))] dX12_needs_1 rfl rfl (by decide) rfl ?_
  refine g_iconst (pc' := 3) B dX12_needs_2 rfl ?_
  refine g_istore_n (pc' := 4) B [(3, .int (iI 0)), (2, .int (iI 0)), (0, .ref (K.2.2 57)), (1, .int (iI h))] dX12_needs_3 rfl rfl (by decide) rfl ?_
  have L4 : ∀ (nn : Nat) (y x : Int) , (D 9 3 - x).toNat = nn → (0 ≤ x ∧ x ≤ D 9 3) → (y = mx (cst D h) x.toNat) → G pP l eE (rmo 3 69) sS mM [.ref (K.2.2 57), .int (iI h)].toArray bW mT cC 0 0 (MQ bW (Qi K (fun z τ => σ = τ ∧ z = nd D h)) [.ref (K.2.2 57), .int (iI h)].toArray sS 0 0 (wA K)) K sS.heap 5 σ 4 [(3, .int (iI x)), (2, .int (iI y)), (0, .ref (K.2.2 57)), (1, .int (iI h))] [] := by
    intro nn
    induction nn using Nat.strongRecOn with
    | _ nn ih4 =>
      intro y x hn4 i1 i2
      refine g_iload_n (pc' := 5) B 0 rfl rfl dX12_needs_4 rfl ?_
      refine g_aload_n (pc' := 6) B 2 rfl rfl dX12_needs_5 rfl ?_
      refine g_get (pc' := 9) B (D 9 3) hM.2.2.2.1 fl_X12_33 rfl rfl dX12_needs_6 rfl ?_
      refine g_icmp_ge (pc' := 12) B 49 (by omega) (by omega) dX12_needs_9 (by decide) rfl (fun c9 => ?_) (fun c9 => ?_)
      · refine g_iload_n (pc' := 50) B 1 rfl rfl dX12_needs_49 rfl ?_
        exact g_iret (z := y) B hrt rfl hlk dX12_needs_50 ⟨rfl, by rw [i2, show x = D 9 3 by omega]; rfl⟩
      · have hc9 := cst_bd (h := h) x hF hH hh.1 hh.2
        have hl9 := lean_bd (f := D 4 h) x hF hh9.1
        have hce : cst D h x = ((lean D (D 4 h) x).natAbs : Int) := rfl
        have hm9 := mx_bd (F := cst D h) (c := 153) (by omega) (fun x => (cst_bd x hF hH hh.1 hh.2).2) x.toNat
        rw [← i2] at hm9
        refine g_aload_n (pc' := 13) B 2 rfl rfl dX12_needs_12 rfl ?_
        refine g_aload_n (pc' := 14) B 2 rfl rfl dX12_needs_13 rfl ?_
        refine g_getR (pc' := 17) B 61 fl_X12_20 rfl rfl dX12_needs_14 rfl ?_
        refine g_iconst (pc' := 18) B dX12_needs_17 rfl ?_
        refine g_iload_n (pc' := 19) B 3 rfl rfl dX12_needs_18 rfl ?_
        refine g_imul (pc' := 20) B dX12_needs_19 rfl ?_
        refine g_iald (pc' := 21) B (D 4 h) (hM.2.2.2.2.2.1 h (by omega) (by omega)) rfl (by omega) (by decide) dX12_needs_20 rfl ?_
        refine g_iload_n (pc' := 22) B 0 rfl rfl dX12_needs_21 rfl ?_
        refine g_callVI (pc' := 25) (As := [.int (iI (D 4 h)), .int (iI x)]) B (c_X12_leanOf l K _ (D := D) (f := D 4 h) (x := x) hM hF hR hO hH (by omega) (by omega)) vt_X12_leanOf tw_1111 rfl rfl ⟨by decide, by decide⟩ rfl (Nat.le_of_ble_eq_true rfl) ⟨Nat.zero_le _, Nat.zero_le _⟩ rfl dX12_needs_22 rfl (fun z22 τ22 h22 => ?_)
        obtain ⟨rfl, rfl⟩ := h22
        refine g_callSI (pc' := 28) (As := [.int (iI (lean D (D 4 h) x))]) B (c_X12_size l K _ (v := lean D (D 4 h) x) (by omega)) st_X12_size tw_1122 ⟨by decide, by decide⟩ rfl (Nat.le_of_ble_eq_true rfl) ⟨Nat.zero_le _, Nat.zero_le _⟩ rfl dX12_needs_25 rfl (fun z25 τ25 h25 => ?_)
        obtain ⟨rfl, rfl⟩ := h25
        refine g_istore (pc' := 30) B [(4, .int (iI ((lean D (D 4 h) x).natAbs : Int))), (3, .int (iI x)), (2, .int (iI y)), (0, .ref (K.2.2 57)), (1, .int (iI h))] dX12_needs_28 rfl (by decide) rfl ?_
        refine g_iload (pc' := 32) B 0 rfl dX12_needs_30 rfl ?_
        refine g_iload_n (pc' := 33) B 2 rfl rfl dX12_needs_32 rfl ?_
        refine g_icmp_le (pc' := 36) B 41 (by omega) (by omega) dX12_needs_33 (by decide) rfl (fun c33 => ?_) (fun c33 => ?_)
        · refine g_iload_n (pc' := 42) B 2 rfl rfl dX12_needs_41 rfl ?_
          refine g_istore_n (pc' := 43) B [(2, .int (iI y)), (4, .int (iI ((lean D (D 4 h) x).natAbs : Int))), (3, .int (iI x)), (0, .ref (K.2.2 57)), (1, .int (iI h))] dX12_needs_42 rfl rfl (by decide) rfl ?_
          refine g_iinc (pc' := 46) B 2 [(3, .int (iI (x + 1))), (2, .int (iI y)), (4, .int (iI ((lean D (D 4 h) x).natAbs : Int))), (0, .ref (K.2.2 57)), (1, .int (iI h))] dX12_needs_43 rfl rfl (by decide) rfl ?_
          refine g_goto (pc' := 4) B dX12_needs_46 (by decide) ?_
          refine g_loc B [(3, .int (iI (x + 1))), (2, .int (iI y)), (0, .ref (K.2.2 57)), (1, .int (iI h))] [0, 1, 3, 4] rfl ?_
          exact ih4 _ (by omega) y (x + 1) rfl (by omega) (by rw [mx_next (by omega), ← i2, hce]; omega)
        · refine g_iload (pc' := 38) B 0 rfl dX12_needs_36 rfl ?_
          refine g_goto (pc' := 42) B dX12_needs_38 (by decide) ?_
          refine g_istore_n (pc' := 43) B [(2, .int (iI ((lean D (D 4 h) x).natAbs : Int))), (4, .int (iI ((lean D (D 4 h) x).natAbs : Int))), (3, .int (iI x)), (0, .ref (K.2.2 57)), (1, .int (iI h))] dX12_needs_42 rfl rfl (by decide) rfl ?_
          refine g_iinc (pc' := 46) B 2 [(3, .int (iI (x + 1))), (2, .int (iI ((lean D (D 4 h) x).natAbs : Int))), (4, .int (iI ((lean D (D 4 h) x).natAbs : Int))), (0, .ref (K.2.2 57)), (1, .int (iI h))] dX12_needs_43 rfl rfl (by decide) rfl ?_
          refine g_goto (pc' := 4) B dX12_needs_46 (by decide) ?_
          refine g_loc B [(3, .int (iI (x + 1))), (2, .int (iI ((lean D (D 4 h) x).natAbs : Int))), (0, .ref (K.2.2 57)), (1, .int (iI h))] [0, 1, 3, 4] rfl ?_
          exact ih4 _ (by omega) ((lean D (D 4 h) x).natAbs : Int) (x + 1) rfl (by omega) (by rw [mx_next (by omega), ← i2, hce]; omega)
  exact L4 _ 0 0 rfl (by omega) (by rfl)
set_option maxRecDepth 100000 in
set_option maxHeartbeats 4000000 in
theorem c_X12_house (l : Launch) (K : WK) (σ : SG) {D : SG} (hM : mD σ D) (hF : okF D) (hR : okR D) (hO : okQ D) (hH : okH D) {sl : Int → Int} (hms : ∀ h : Int, 0 ≤ h → h < D 9 1 → σ 58 (4 + h) = sl h ∧ 0 ≤ sl h ∧ sl h ≤ 999) {h w : Int} (hh : -2147483648 ≤ h ∧ h < 2147483648) (hw : -2147483648 ≤ w ∧ w < 2147483648) : MI l yX12_house cX12_house 3 (some .int) 4 93 K σ [.ref (K.2.2 57), .int (iI h), .int (iI w)] (fun z τ => σ = τ ∧ z = qHouse D sl h w) := by
  refine met_of [(0, .ref (K.2.2 57)), (1, .int (iI h)), (2, .int (iI w))] (by decide +kernel) (Nat.le_of_ble_eq_true rfl) rfl ?_
  intro pP eE sS mM bW mT cC B hrt hlk
  replace B : CB pP sS mM [.ref (K.2.2 57), .int (iI h), .int (iI w)].toArray cC cX12_house RX12 3 K := B
  obtain ⟨hF0, hF1⟩ := id hF
  obtain ⟨hO0, hO1⟩ := id hO
  obtain ⟨hH0, hH1⟩ := id hH
  obtain ⟨hR0, hR1⟩ := id hR
  refine g_iload_n (pc' := 1) B 1 rfl rfl dX12_house_0 rfl ?_
  refine g_i2l (pc' := 2) B (by omega) dX12_house_1 rfl ?_
  refine g_lconst (z := 0) (pc' := 3) B (by decide +kernel) dX12_house_2 rfl ?_
  refine g_aload_n (pc' := 4) B 0 rfl rfl dX12_house_3 rfl ?_
  refine g_get (pc' := 7) B (D 9 1) hM.2.1 fl_X12_134 rfl rfl dX12_house_4 rfl ?_
  refine g_iconst (pc' := 8) B dX12_house_7 rfl ?_
  refine g_isub (pc' := 9) B dX12_house_8 rfl ?_
  refine g_i2l (pc' := 10) B (by omega) dX12_house_9 rfl ?_
  refine g_callSI (pc' := 13) (As := [.long (lI h), .long (lI 0), .long (lI ((D 9 1) - 1))]) B (c_X12_in l K _ (v := h) (a := 0) (b := (D 9 1) - 1) (by omega) (by omega) (by omega)) st_X12_in tw_1041 ⟨by decide, by decide⟩ rfl (Nat.le_of_ble_eq_true rfl) ⟨Nat.zero_le _, Nat.zero_le _⟩ rfl dX12_house_10 rfl (fun z10 τ10 h10 => ?_)
  obtain ⟨rfl, h10⟩ := h10
  rcases h10 with ⟨h10, rfl⟩ | ⟨h10, rfl⟩
  · refine g_if_ne (pc' := 16) B 19 (by omega) dX12_house_13 (by decide) rfl (fun _ => ?_) (fun q => absurd q (by decide))
    refine g_iload_n (pc' := 20) B 2 rfl rfl dX12_house_19 rfl ?_
    refine g_if_ne (pc' := 23) B 34 (by omega) dX12_house_20 (by decide) rfl (fun c20 => ?_) (fun c20 => ?_)
    · refine g_iload_n (pc' := 35) B 2 rfl rfl dX12_house_34 rfl ?_
      refine g_iconst (pc' := 36) B dX12_house_35 rfl ?_
      refine g_icmp_ne (pc' := 39) B 50 (by omega) (by omega) dX12_house_36 (by decide) rfl (fun c36 => ?_) (fun c36 => ?_)
      · refine g_iload_n (pc' := 51) B 2 rfl rfl dX12_house_50 rfl ?_
        refine g_iconst (pc' := 52) B dX12_house_51 rfl ?_
        refine g_icmp_ne (pc' := 55) B 63 (by omega) (by omega) dX12_house_52 (by decide) rfl (fun c52 => ?_) (fun c52 => ?_)
        · refine g_ldc (z := (-1000000002)) (pc' := 65) B tw_1044 (by decide +kernel) dX12_house_63 rfl ?_
          exact g_iret (z := (-1000000002)) B hrt rfl hlk dX12_house_65 ⟨rfl, by unfold qHouse; (repeat' split) <;> first | rfl | (exfalso; omega)⟩
        · refine g_aload_n (pc' := 56) B 0 rfl rfl dX12_house_55 rfl ?_
          refine g_iload_n (pc' := 57) B 1 rfl rfl dX12_house_56 rfl ?_
          refine g_callVI (pc' := 60) (As := [.int (iI h)]) B (c_X12_needs l K _ (D := D) (h := h) hM hF hR hO hH (by omega)) vt_X12_needs tw_1144 rfl rfl ⟨by decide, by decide⟩ rfl (Nat.le_of_ble_eq_true rfl) ⟨Nat.zero_le _, Nat.zero_le _⟩ rfl dX12_house_57 rfl (fun z57 τ57 h57 => ?_)
          obtain ⟨rfl, rfl⟩ := h57
          refine g_goto (pc' := 65) B dX12_house_60 (by decide) ?_
          exact g_iret (z := nd D h) B hrt rfl hlk dX12_house_65 ⟨rfl, by unfold qHouse; (repeat' split) <;> first | rfl | (exfalso; omega)⟩
      · refine g_aload_n (pc' := 40) B 0 rfl rfl dX12_house_39 rfl ?_
        refine g_getR (pc' := 43) B 58 fl_X12_7 rfl rfl dX12_house_40 rfl ?_
        refine g_iconst (pc' := 44) B dX12_house_43 rfl ?_
        refine g_iload_n (pc' := 45) B 1 rfl rfl dX12_house_44 rfl ?_
        refine g_iadd (pc' := 46) B dX12_house_45 rfl ?_
        refine g_iald (pc' := 47) B (sl h) (hms _ (by omega) (by omega)).1 rfl (by omega) (by decide) dX12_house_46 rfl ?_
        refine g_goto (pc' := 65) B dX12_house_47 (by decide) ?_
        exact g_iret (z := sl h) B hrt rfl hlk dX12_house_65 ⟨rfl, by unfold qHouse; (repeat' split) <;> first | rfl | (exfalso; omega)⟩
    · refine g_aload_n (pc' := 24) B 0 rfl rfl dX12_house_23 rfl ?_
      refine g_getR (pc' := 27) B 61 fl_X12_20 rfl rfl dX12_house_24 rfl ?_
      refine g_iconst (pc' := 28) B dX12_house_27 rfl ?_
      refine g_iload_n (pc' := 29) B 1 rfl rfl dX12_house_28 rfl ?_
      refine g_imul (pc' := 30) B dX12_house_29 rfl ?_
      refine g_iald (pc' := 31) B (D 4 h) (hM.2.2.2.2.2.1 h (by omega) (by omega)) rfl (by omega) (by decide) dX12_house_30 rfl ?_
      refine g_goto (pc' := 65) B dX12_house_31 (by decide) ?_
      exact g_iret (z := D 4 h) B hrt rfl hlk dX12_house_65 ⟨rfl, by unfold qHouse; (repeat' split) <;> first | rfl | (exfalso; omega)⟩
  · refine g_if_ne (pc' := 16) B 19 (by omega) dX12_house_13 (by decide) rfl (fun q => absurd q (by decide)) (fun _ => ?_)
    refine g_ldc (z := (-1000000001)) (pc' := 18) B tw_1133 (by decide +kernel) dX12_house_16 rfl ?_
    exact g_iret (z := (-1000000001)) B hrt rfl hlk dX12_house_18 ⟨rfl, by unfold qHouse; (repeat' split) <;> first | rfl | (exfalso; omega)⟩
set_option maxRecDepth 100000 in
set_option maxHeartbeats 4000000 in
theorem c_X12_seam (l : Launch) (K : WK) (σ : SG) {D : SG} (hM : mD σ D) (hF : okF D) (hR : okR D) (hO : okQ D) (hH : okH D) {s w : Int} (hs : -2147483648 ≤ s ∧ s < 2147483648) (hw : -2147483648 ≤ w ∧ w < 2147483648) : MI l yX12_seam cX12_seam 3 (some .int) 1 25 K σ [.ref (K.2.2 57), .int (iI s), .int (iI w)] (fun z τ => σ = τ ∧ z = qSeam D s w) := by
  refine met_of [(0, .ref (K.2.2 57)), (1, .int (iI s)), (2, .int (iI w))] (by decide +kernel) (Nat.le_of_ble_eq_true rfl) rfl ?_
  intro pP eE sS mM bW mT cC B hrt hlk
  replace B : CB pP sS mM [.ref (K.2.2 57), .int (iI s), .int (iI w)].toArray cC cX12_seam RX12 3 K := B
  obtain ⟨hF0, hF1⟩ := id hF
  obtain ⟨hO0, hO1⟩ := id hO
  obtain ⟨hH0, hH1⟩ := id hH
  obtain ⟨hR0, hR1⟩ := id hR
  refine g_iload_n (pc' := 1) B 1 rfl rfl dX12_seam_0 rfl ?_
  refine g_i2l (pc' := 2) B (by omega) dX12_seam_1 rfl ?_
  refine g_lconst (z := 0) (pc' := 3) B (by decide +kernel) dX12_seam_2 rfl ?_
  refine g_aload_n (pc' := 4) B 0 rfl rfl dX12_seam_3 rfl ?_
  refine g_get (pc' := 7) B (D 9 2) hM.2.2.1 fl_X12_137 rfl rfl dX12_seam_4 rfl ?_
  refine g_iconst (pc' := 8) B dX12_seam_7 rfl ?_
  refine g_isub (pc' := 9) B dX12_seam_8 rfl ?_
  refine g_i2l (pc' := 10) B (by omega) dX12_seam_9 rfl ?_
  refine g_callSI (pc' := 13) (As := [.long (lI s), .long (lI 0), .long (lI ((D 9 2) - 1))]) B (c_X12_in l K _ (v := s) (a := 0) (b := (D 9 2) - 1) (by omega) (by omega) (by omega)) st_X12_in tw_1041 ⟨by decide, by decide⟩ rfl (Nat.le_of_ble_eq_true rfl) ⟨Nat.zero_le _, Nat.zero_le _⟩ rfl dX12_seam_10 rfl (fun z10 τ10 h10 => ?_)
  obtain ⟨rfl, h10⟩ := h10
  rcases h10 with ⟨h10, rfl⟩ | ⟨h10, rfl⟩
  · refine g_if_ne (pc' := 16) B 21 (by omega) dX12_seam_13 (by decide) rfl (fun _ => ?_) (fun q => absurd q (by decide))
    refine g_iload_n (pc' := 22) B 2 rfl rfl dX12_seam_21 rfl ?_
    refine g_i2l (pc' := 23) B (by omega) dX12_seam_22 rfl ?_
    refine g_lconst (z := 0) (pc' := 24) B (by decide +kernel) dX12_seam_23 rfl ?_
    refine g_ldc2 (z := 3) (pc' := 27) B tw_1134 (by decide +kernel) dX12_seam_24 rfl ?_
    refine g_callSI (pc' := 30) (As := [.long (lI w), .long (lI 0), .long (lI 3)]) B (c_X12_in l K _ (v := w) (a := 0) (b := 3) (by omega) (by omega) (by omega)) st_X12_in tw_1041 ⟨by decide, by decide⟩ rfl (Nat.le_of_ble_eq_true rfl) ⟨Nat.zero_le _, Nat.zero_le _⟩ rfl dX12_seam_27 rfl (fun z27 τ27 h27 => ?_)
    obtain ⟨rfl, h27⟩ := h27
    rcases h27 with ⟨h27, rfl⟩ | ⟨h27, rfl⟩
    · refine g_if_eq (pc' := 33) B 46 (by omega) dX12_seam_30 (by decide) rfl (fun q => absurd q (by decide)) (fun _ => ?_)
      refine g_aload_n (pc' := 34) B 0 rfl rfl dX12_seam_33 rfl ?_
      refine g_getR (pc' := 37) B 62 fl_X12_23 rfl rfl dX12_seam_34 rfl ?_
      refine g_iconst (pc' := 38) B dX12_seam_37 rfl ?_
      refine g_iload_n (pc' := 39) B 1 rfl rfl dX12_seam_38 rfl ?_
      refine g_imul (pc' := 40) B dX12_seam_39 rfl ?_
      refine g_iload_n (pc' := 41) B 2 rfl rfl dX12_seam_40 rfl ?_
      refine g_iadd (pc' := 42) B dX12_seam_41 rfl ?_
      refine g_iald (pc' := 43) B (sdv D s w) (mD_s hM (by omega) (by omega) (by omega)) rfl (by omega) (by decide) dX12_seam_42 rfl ?_
      refine g_goto (pc' := 48) B dX12_seam_43 (by decide) ?_
      exact g_iret (z := sdv D s w) B hrt rfl hlk dX12_seam_48 ⟨rfl, by unfold qSeam; (try unfold sdv); (repeat' split) <;> first | rfl | (exfalso; omega)⟩
    · refine g_if_eq (pc' := 33) B 46 (by omega) dX12_seam_30 (by decide) rfl (fun _ => ?_) (fun q => absurd q (by decide))
      refine g_ldc (z := (-1000000002)) (pc' := 48) B tw_1044 (by decide +kernel) dX12_seam_46 rfl ?_
      exact g_iret (z := (-1000000002)) B hrt rfl hlk dX12_seam_48 ⟨rfl, by unfold qSeam; (try unfold sdv); (repeat' split) <;> first | rfl | (exfalso; omega)⟩
  · refine g_if_ne (pc' := 16) B 21 (by omega) dX12_seam_13 (by decide) rfl (fun q => absurd q (by decide)) (fun _ => ?_)
    refine g_ldc (z := (-1000000001)) (pc' := 18) B tw_1133 (by decide +kernel) dX12_seam_16 rfl ?_
    refine g_goto (pc' := 48) B dX12_seam_18 (by decide) ?_
    exact g_iret (z := (-1000000001)) B hrt rfl hlk dX12_seam_48 ⟨rfl, by unfold qSeam; (try unfold sdv); (repeat' split) <;> first | rfl | (exfalso; omega)⟩
set_option maxRecDepth 100000 in
set_option maxHeartbeats 4000000 in
theorem c_X12_fault (l : Launch) (K : WK) (σ : SG)  : MI l yX12_fault cX12_fault 1 (some .int) 0 0 K σ [.ref (K.2.2 57)] (fun z τ => σ = τ ∧ z = σ 57 18) := by
  refine met_of [(0, .ref (K.2.2 57))] (by decide +kernel) (Nat.le_of_ble_eq_true rfl) rfl ?_
  intro pP eE sS mM bW mT cC B hrt hlk
  replace B : CB pP sS mM [.ref (K.2.2 57)].toArray cC cX12_fault RX12 1 K := B
  refine g_aload_n (pc' := 1) B 0 rfl rfl dX12_fault_0 rfl ?_
  refine g_get (pc' := 4) B (σ 57 18) rfl fl_X12_29 rfl rfl dX12_fault_1 rfl ?_
  exact g_iret (z := σ 57 18) B hrt rfl hlk dX12_fault_4 ⟨rfl, rfl⟩
