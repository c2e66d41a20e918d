set_option maxRecDepth 100000 in
set_option maxHeartbeats 4000000 in
theorem c_X11_street (l : Launch) (K : WK) (σ : SG) {b c : Nat} (hbc : (b = 3 ∧ c = 17) ∨ (b = 17 ∧ c = 3)) (hcb : σ 0 1 = ((b : Nat) : Int)) (hsp : σ 0 2 = ((c : Nat) : Int)) {tx : Int → Int} {n : Int} (hT : txD σ tx n) : MI l yX11_street cX11_street 3 (some .int) 6 133 K σ [.ref (K.2.2 0)] (fun z τ => τ 1 1 = 0 ∧ τ 0 3 = itP tx n 250 11 2 ∧ ((itP tx n 250 11 1 ≠ 0 ∧ z = -10 - itP tx n 250 11 1 ∧ (∀ j, j ≠ 3 → τ 0 j = σ 0 j) ∧ (∀ k, k ≠ 0 → k ≠ 1 → (k < c ∨ c + 13 < k) → τ k = σ k)) ∨ (itP tx n 250 11 1 = 0 ∧ z = itP tx n 250 9 0 ∧ τ 0 1 = ((c : Nat) : Int) ∧ τ 0 2 = ((b : Nat) : Int) ∧ (∀ j, j ≠ 1 → j ≠ 2 → j ≠ 3 → τ 0 j = σ 0 j) ∧ sD τ c (itP tx n 250) ∧ (∀ h : Int, 0 ≤ h → h < itP tx n 250 9 1 → τ (c + 13) h = itP tx n 250 10 h) ∧ (τ 31 0 = 0 ∧ τ 31 1 = 0 ∧ τ 31 2 = (if itP tx n 250 9 0 = 0 then -1 else if itP tx n 250 11 3 = -1 then 0 else itP tx n 250 11 3) ∧ τ 31 3 = 0) ∧ τ 32 4 = σ 32 4 ∧ τ 32 5 = 0 ∧ τ 37 0 = 0 ∧ τ 40 0 = 0 ∧ τ 45 2 = 0 ∧ τ 50 3 = 0 ∧ τ 54 2 = 0 ∧ (∀ k, k ≠ 0 → k ≠ 1 → k ≠ 31 → k ≠ 32 → k ≠ 37 → k ≠ 40 → k ≠ 45 → k ≠ 50 → k ≠ 54 → (k < c ∨ c + 13 < k) → τ k = σ k)))) := by
  refine met_of [(0, .ref (K.2.2 0))] (by decide +kernel) (Nat.le_of_ble_eq_true rfl) rfl ?_
  intro pP eE sS mM bW mT cC B hrt hlk
  replace B : CB pP sS mM [.ref (K.2.2 0)].toArray cC cX11_street RX11 3 K := B
  have hb : b = 3 ∨ b = 17 := by omega
  have hb2 : c = 3 ∨ c = 17 := by omega
  have hok := (okP_it (tx := tx) hT.2.1.1 250).1
  obtain ⟨⟨hp0, hp1⟩, hp2, hp3, hp4, hp5, hp6, hp7, hp8⟩ := id hok
  have hF0 := hp2.1
  refine g_aload_n (pc' := 1) B 0 rfl rfl dX11_street_0 rfl ?_
  refine g_getR (pc' := 4) B 1 fl_X11_10 rfl rfl dX11_street_1 rfl ?_
  refine g_aload_n (pc' := 5) B 0 rfl rfl dX11_street_4 rfl ?_
  refine g_getV (pc' := 8) B c (vr hsp) fl_X11_23 rfl rfl dX11_street_5 rfl ?_
  refine g_callVI (pc' := 11) (As := [.ref (K.2.2 c)]) B (c_X9_readInto l K _ (b := c) (tx := tx) (n := n) (by omega) hT) vt_X9_readInto tw_376 rfl rfl ⟨by decide, by decide⟩ rfl (Nat.le_of_ble_eq_true rfl) ⟨Nat.zero_le _, Nat.zero_le _⟩ rfl dX11_street_8 rfl (fun z8 τ8 h8 => ?_)
  obtain ⟨h8a, h8b, h8c⟩ := h8
  refine g_istore_n (pc' := 12) B [(1, .int (iI z8)), (0, .ref (K.2.2 0))] dX11_street_11 rfl rfl (by decide) rfl ?_
  refine g_aload_n (pc' := 13) B 1 rfl rfl dX11_street_12 rfl ?_
  refine g_aload_n (pc' := 14) B 1 rfl rfl dX11_street_13 rfl ?_
  refine g_getR (pc' := 17) B 1 fl_X11_10 rfl rfl dX11_street_14 rfl ?_
  refine g_get (pc' := 20) B (itP tx n 250 11 2) h8b.2.1.2.2 fl_X11_102 rfl rfl dX11_street_17 rfl ?_
  refine g_put (pc' := 23) B 3 rfl fp_X11_26 rfl rfl dX11_street_20 rfl ?_
  refine g_aload_n (pc' := 24) B 1 rfl rfl dX11_street_23 rfl ?_
  refine g_getR (pc' := 27) B 1 fl_X11_10 rfl rfl dX11_street_24 rfl ?_
  refine g_iconst (pc' := 28) B dX11_street_27 rfl ?_
  refine g_put (pc' := 31) B 1 rfl fp_X11_90 rfl rfl dX11_street_28 rfl ?_
  refine g_iload_n (pc' := 32) B 0 rfl rfl dX11_street_31 rfl ?_
  refine g_if_eq (pc' := 35) B 40 (by omega) dX11_street_32 (by decide) rfl (fun c32 => ?_) (fun c32 => ?_)
  · refine g_aload_n (pc' := 41) B 1 rfl rfl dX11_street_40 rfl ?_
    refine g_getV (pc' := 44) B b (vr (by rw [up_row (by decide), up_col (by decide), h8c 0 (by decide) (by omega)]; exact hcb)) fl_X11_19 rfl rfl dX11_street_41 rfl ?_
    refine g_astore_n (pc' := 45) B [(2, .ref (K.2.2 b)), (1, .int (iI z8)), (0, .ref (K.2.2 0))] dX11_street_44 rfl rfl (by decide) rfl ?_
    refine g_aload_n (pc' := 46) B 2 rfl rfl dX11_street_45 rfl ?_
    refine g_aload_n (pc' := 47) B 2 rfl rfl dX11_street_46 rfl ?_
    refine g_getV (pc' := 50) B c (vr (by rw [up_row (by decide), up_col (by decide), h8c 0 (by decide) (by omega)]; exact hsp)) fl_X11_23 rfl rfl dX11_street_47 rfl ?_
    refine g_putV (pc' := 53) (v := ((c : Nat) : Int)) B 1 rfl fp_X11_19 rfl rfl dX11_street_50 rfl ?_
    refine g_aload_n (pc' := 54) B 2 rfl rfl dX11_street_53 rfl ?_
    refine g_aload_n (pc' := 55) B 0 rfl rfl dX11_street_54 rfl ?_
    refine g_putV (pc' := 58) (v := ((b : Nat) : Int)) B 2 rfl fp_X11_23 rfl rfl dX11_street_55 rfl ?_
    refine g_aload_n (pc' := 59) B 2 rfl rfl dX11_street_58 rfl ?_
    refine g_getR (pc' := 62) B 31 fl_X11_33 rfl rfl dX11_street_59 rfl ?_
    refine g_aload_n (pc' := 63) B 2 rfl rfl dX11_street_62 rfl ?_
    refine g_getV (pc' := 66) B c (vr (by simp [up])) fl_X11_19 rfl rfl dX11_street_63 rfl ?_
    refine g_callVI (pc' := 69) (As := []) B (c_X8_barrelStart l K _ (b := c) (D := itP tx n 250) (by omega) (h8b.2.2.1.keep (fun k a e => by (repeat rw [up_row (by omega)]))) hp2 hp4 (by (repeat rw [up_row (by omega)]); rw [h8b.2.2.2.2]; omega)) vt_X8_barrelStart tw_451 (ly_S hb2) rfl ⟨by decide, by decide⟩ rfl (Nat.le_of_ble_eq_true rfl) ⟨Nat.zero_le _, Nat.zero_le _⟩ rfl dX11_street_66 rfl (fun z66 τ66 h66 => ?_)
    obtain ⟨rfl, rfl⟩ := h66
    refine g_callVV (pc' := 72) (As := [.int (iI (if (itP tx n 250) 9 0 = 0 then -1 else if (up (up (up (up τ8 0 3 (itP tx n 250 11 2)) 1 1 0) 0 1 ((c : Nat) : Int)) 0 2 ((b : Nat) : Int)) c 5 = -1 then 0 else (up (up (up (up τ8 0 3 (itP tx n 250 11 2)) 1 1 0) 0 1 ((c : Nat) : Int)) 0 2 ((b : Nat) : Int)) c 5))]) B (c_X5_startAt l K _ (f := (if (itP tx n 250) 9 0 = 0 then -1 else if (up (up (up (up τ8 0 3 (itP tx n 250 11 2)) 1 1 0) 0 1 ((c : Nat) : Int)) 0 2 ((b : Nat) : Int)) c 5 = -1 then 0 else (up (up (up (up τ8 0 3 (itP tx n 250 11 2)) 1 1 0) 0 1 ((c : Nat) : Int)) 0 2 ((b : Nat) : Int)) c 5)) ) vt_X5_startAt tw_455 rfl rfl ⟨by decide, by decide⟩ rfl (Nat.le_of_ble_eq_true rfl) ⟨Nat.zero_le _, Nat.zero_le _⟩ rfl dX11_street_69 rfl (fun τ69 h69 => ?_)
    subst h69
    refine g_aload_n (pc' := 73) B 2 rfl rfl dX11_street_72 rfl ?_
    refine g_getR (pc' := 76) B 32 fl_X11_40 rfl rfl dX11_street_73 rfl ?_
    refine g_iconst (pc' := 77) B dX11_street_76 rfl ?_
    refine g_put (pc' := 80) B 5 rfl fp_X11_111 rfl rfl dX11_street_77 rfl ?_
    refine g_aload_n (pc' := 81) B 2 rfl rfl dX11_street_80 rfl ?_
    refine g_getR (pc' := 84) B 37 fl_X11_47 rfl rfl dX11_street_81 rfl ?_
    refine g_iconst (pc' := 85) B dX11_street_84 rfl ?_
    refine g_putZ (pc' := 88) B 0 rfl (by omega) fp_X11_114 rfl rfl dX11_street_85 rfl ?_
    refine g_aload_n (pc' := 89) B 2 rfl rfl dX11_street_88 rfl ?_
    refine g_getR (pc' := 92) B 40 fl_X11_51 rfl rfl dX11_street_89 rfl ?_
    refine g_iconst (pc' := 93) B dX11_street_92 rfl ?_
    refine g_putZ (pc' := 96) B 0 rfl (by omega) fp_X11_114 rfl rfl dX11_street_93 rfl ?_
    refine g_aload_n (pc' := 97) B 2 rfl rfl dX11_street_96 rfl ?_
    refine g_callVV (pc' := 100) (As := []) B (c_X11_forgetNotes l K _  ) vt_X11_forgetNotes tw_459 rfl rfl ⟨by decide, by decide⟩ rfl (Nat.le_of_ble_eq_true rfl) ⟨Nat.zero_le _, Nat.zero_le _⟩ rfl dX11_street_97 rfl (fun τ97 h97 => ?_)
    subst h97
    refine g_aload_n (pc' := 101) B 2 rfl rfl dX11_street_100 rfl ?_
    refine g_getV (pc' := 104) B c (vr (by simp [up])) fl_X11_19 rfl rfl dX11_street_101 rfl ?_
    refine g_getR (pc' := 107) B (c + 1) fl_X11_121 (ly_S hb2) rfl dX11_street_104 rfl ?_
    refine g_get (pc' := 110) B (itP tx n 250 9 0) (by (repeat rw [up_row (by omega)]); exact h8b.2.2.1.1.1) fl_X11_125 (ly_G (by omega)) rfl dX11_street_107 rfl ?_
    exact g_iret (z := itP tx n 250 9 0) B hrt rfl hlk dX11_street_110 ⟨by (repeat rw [up_row (by omega)]); exact up_same _ _ _ _, by (repeat rw [up_row (by omega)]); rw [up_col (by decide), up_col (by decide), up_row (by decide), up_same], Or.inr ⟨by omega, rfl, by (repeat rw [up_row (by omega)]); rw [up_col (by decide), up_same], by (repeat rw [up_row (by omega)]); exact up_same _ _ _ _, fun j j1 j2 j3 => by (repeat rw [up_row (by omega)]); rw [up_col j2, up_col j1, up_row (by decide), up_col j3, h8c 0 (by decide) (by omega)], h8b.2.2.1.keep (fun k a e => by (repeat rw [up_row (by omega)])), fun h a e => by (repeat rw [up_row (by omega)]); exact h8b.2.2.2.1 h a e, by (repeat rw [up_row (by omega)]); simp [up, h8b.2.2.2.2] <;> omega, by (repeat rw [up_row (by omega)]); rw [up_col (by decide)]; (repeat rw [up_row (by omega)]); rw [h8c 32 (by decide) (by omega)], by (repeat rw [up_row (by omega)]); exact up_same _ _ _ _, by (repeat rw [up_row (by omega)]); exact up_same _ _ _ _, by (repeat rw [up_row (by omega)]); exact up_same _ _ _ _, by (repeat rw [up_row (by omega)]); exact up_same _ _ _ _, by (repeat rw [up_row (by omega)]); exact up_same _ _ _ _, up_same _ _ _ _, fun k k0 k1 k2 k3 k4 k5 k6 k7 k8 k9 => by (repeat rw [up_row (by omega)]); exact h8c k k1 k9⟩⟩
  · refine g_bipush (pc' := 37) B (by decide +kernel) dX11_street_35 rfl ?_
    refine g_iload_n (pc' := 38) B 0 rfl rfl dX11_street_37 rfl ?_
    refine g_isub (pc' := 39) B dX11_street_38 rfl ?_
    exact g_iret (z := (-10) - z8) B hrt rfl hlk dX11_street_39 ⟨up_same _ _ _ _, by rw [up_row (by decide), up_same], Or.inl ⟨by omega, by omega, fun j hj => by rw [up_row (by decide), up_col hj, h8c 0 (by decide) (by omega)], fun k k0 k1 k2 => by rw [up_row k1, up_row k0]; exact h8c k k1 k2⟩⟩
