set_option maxRecDepth 100000 in
set_option maxHeartbeats 4000000 in
theorem c_X9_readWord (l : Launch) (K : WK) (σ : SG) {tx : Int → Int} {n : Int} (hT : txD σ tx n) {P : SG} (hP : ctx σ P) (hp0 : 0 ≤ P 11 0 ∧ P 11 0 ≤ n) (hp1 : 0 ≤ P 11 1 ∧ P 11 1 ≤ 3) {w : Int} (hw : 0 ≤ w ∧ w ≤ 1) : MV l yX9_readWord cX9_readWord 2 none 1 22 K σ [.ref (K.2.2 1), .int (iI w)] (fun τ => txD τ tx n ∧ ctx τ (wd w P) ∧ ∀ k, k ≠ 1 → τ k = σ k) := by
  refine met_of [(0, .ref (K.2.2 1)), (1, .int (iI w))] (by decide +kernel) (Nat.le_of_ble_eq_true rfl) rfl ?_
  intro pP eE sS mM bW mT cC B hrt hlk
  replace B : CB pP sS mM [.ref (K.2.2 1), .int (iI w)].toArray cC cX9_readWord RX9 2 K := B
  obtain ⟨hP1, hP2, hP3⟩ := id hP
  refine g_iload_n (pc' := 1) B 1 rfl rfl dX9_readWord_0 rfl ?_
  refine g_if_eq (pc' := 4) B 16 (by omega) dX9_readWord_1 (by decide) rfl (fun c1 => ?_) (fun c1 => ?_)
  · refine g_aload_n (pc' := 17) B 0 rfl rfl dX9_readWord_16 rfl ?_
    refine g_dup (pc' := 18) B rfl dX9_readWord_17 rfl ?_
    refine g_get (pc' := 21) B (P 11 0) hP.1 fl_X9_19 rfl rfl dX9_readWord_18 rfl ?_
    refine g_iconst (pc' := 22) B dX9_readWord_21 rfl ?_
    refine g_iadd (pc' := 23) B dX9_readWord_22 rfl ?_
    refine g_put (pc' := 26) B 2 rfl fp_X9_19 rfl rfl dX9_readWord_23 rfl ?_
    exact g_vret B hrt hlk dX9_readWord_26 ⟨hT.keep (by simp [up]) (by rw [up_row (by decide)]), by rw [show wd w P = _ from if_pos c1]; simp [up, ctx, hP1, hP2, hP3], fun k hk => by rw [up_row hk]⟩
  · refine g_aload_n (pc' := 5) B 0 rfl rfl dX9_readWord_4 rfl ?_
    refine g_iconst (pc' := 6) B dX9_readWord_5 rfl ?_
    refine g_aload_n (pc' := 7) B 0 rfl rfl dX9_readWord_6 rfl ?_
    refine g_get (pc' := 10) B (P 11 0) hP.1 fl_X9_19 rfl rfl dX9_readWord_7 rfl ?_
    refine g_callVV (pc' := 13) (As := [.int (iI 3), .int (iI (P 11 0))]) B (c_X9_blame l K _ (k := 3) (p := P 11 0) ) vt_X9_blame tw_408 rfl rfl ⟨by decide, by decide⟩ rfl (Nat.le_of_ble_eq_true rfl) ⟨Nat.zero_le _, Nat.zero_le _⟩ rfl dX9_readWord_10 rfl (fun τ10 h10 => ?_)
    subst h10
    refine g_goto (pc' := 26) B dX9_readWord_13 (by decide) ?_
    exact g_vret B hrt hlk dX9_readWord_26 ⟨hT.keep (by simp [up]) (by rw [up_row (by decide), up_row (by decide)]), by rw [show wd w P = _ from if_neg c1]; simp [up, ctx, hP1, hP2, hP3], fun k hk => by rw [up_row hk, up_row hk]⟩
set_option maxRecDepth 100000 in
set_option maxHeartbeats 4000000 in
theorem c_X9_readEnd (l : Launch) (K : WK) (σ : SG) {tx : Int → Int} {n : Int} (hT : txD σ tx n) {P : SG} (hP : ctx σ P) (hp0 : 0 ≤ P 11 0 ∧ P 11 0 ≤ n) (hp1 : 0 ≤ P 11 1 ∧ P 11 1 ≤ 3)  : MV l yX9_readEnd cX9_readEnd 1 none 2 40 K σ [.ref (K.2.2 1)] (fun τ => txD τ tx n ∧ ctx τ (ne tx n P) ∧ ∀ k, k ≠ 1 → τ k = σ k) := by
  refine met_of [(0, .ref (K.2.2 1))] (by decide +kernel) (Nat.le_of_ble_eq_true rfl) rfl ?_
  intro pP eE sS mM bW mT cC B hrt hlk
  replace B : CB pP sS mM [.ref (K.2.2 1)].toArray cC cX9_readEnd RX9 1 K := B
  obtain ⟨hP1, hP2, hP3⟩ := id hP
  obtain ⟨hT1, hT2, hT3⟩ := id hT
  have hs9 := sb_in tx n (P 11 0)
  refine g_aload_n (pc' := 1) B 0 rfl rfl dX9_readEnd_0 rfl ?_
  refine g_get (pc' := 4) B (P 11 1) hP.2.1 fl_X9_22 rfl rfl dX9_readEnd_1 rfl ?_
  refine g_if_eq (pc' := 7) B 8 (by omega) dX9_readEnd_4 (by decide) rfl (fun c4 => ?_) (fun c4 => ?_)
  · refine g_aload_n (pc' := 9) B 0 rfl rfl dX9_readEnd_8 rfl ?_
    refine g_callVV (pc' := 12) (As := []) B (c_X9_skipBlanks l K _ (tx := tx) (n := n) (a := P 11 0) hT hP1 (by omega)) vt_X9_skipBlanks tw_388 rfl rfl ⟨by decide, by decide⟩ rfl (Nat.le_of_ble_eq_true rfl) ⟨Nat.zero_le _, Nat.zero_le _⟩ rfl dX9_readEnd_9 rfl (fun τ9 h9 => ?_)
    subst h9
    refine g_aload_n (pc' := 13) B 0 rfl rfl dX9_readEnd_12 rfl ?_
    refine g_callVI (pc' := 16) (As := []) B (c_X9_letterHere l K _ (tx := tx) (n := n) (a := sb tx n (P 11 0)) (hT.keep (by simp [up]) (up_row (by decide))) (by simp [up]) (by omega)) vt_X9_letterHere tw_392 rfl rfl ⟨by decide, by decide⟩ rfl (Nat.le_of_ble_eq_true rfl) ⟨Nat.zero_le _, Nat.zero_le _⟩ rfl dX9_readEnd_13 rfl (fun z13 τ13 h13 => ?_)
    obtain ⟨rfl, rfl⟩ := h13
    have hl9 : -1 ≤ lh tx n (sb tx n (P 11 0)) ∧ lh tx n (sb tx n (P 11 0)) ≤ 255 := by unfold lh; split; (have q9 := hT3 (sb tx n (P 11 0)) (by omega) (by omega); omega); omega
    refine g_bipush (pc' := 18) B (by decide +kernel) dX9_readEnd_16 rfl ?_
    refine g_icmp_ne (pc' := 21) B 34 (by omega) (by omega) dX9_readEnd_18 (by decide) rfl (fun c18 => ?_) (fun c18 => ?_)
    · refine g_aload_n (pc' := 35) B 0 rfl rfl dX9_readEnd_34 rfl ?_
      refine g_iconst (pc' := 36) B dX9_readEnd_35 rfl ?_
      refine g_aload_n (pc' := 37) B 0 rfl rfl dX9_readEnd_36 rfl ?_
      refine g_get (pc' := 40) B (sb tx n (P 11 0)) (by simp [up]) fl_X9_19 rfl rfl dX9_readEnd_37 rfl ?_
      refine g_callVV (pc' := 43) (As := [.int (iI 1), .int (iI (sb tx n (P 11 0)))]) B (c_X9_blame l K _ (k := 1) (p := sb tx n (P 11 0)) ) vt_X9_blame tw_408 rfl rfl ⟨by decide, by decide⟩ rfl (Nat.le_of_ble_eq_true rfl) ⟨Nat.zero_le _, Nat.zero_le _⟩ rfl dX9_readEnd_40 rfl (fun τ40 h40 => ?_)
      subst h40
      exact g_vret B hrt hlk dX9_readEnd_43 ⟨hT.keep (by simp [up]) (by rw [up_row (by decide), up_row (by decide), up_row (by decide)]), by rw [show ne tx n P = _ from (if_pos c4).trans (if_neg c18)]; simp [up, ctx, hP1, hP2, hP3], fun k hk => by rw [up_row hk, up_row hk, up_row hk]⟩
    · refine g_aload_n (pc' := 22) B 0 rfl rfl dX9_readEnd_21 rfl ?_
      refine g_dup (pc' := 23) B rfl dX9_readEnd_22 rfl ?_
      refine g_get (pc' := 26) B (sb tx n (P 11 0)) (by simp [up]) fl_X9_19 rfl rfl dX9_readEnd_23 rfl ?_
      refine g_iconst (pc' := 27) B dX9_readEnd_26 rfl ?_
      refine g_iadd (pc' := 28) B dX9_readEnd_27 rfl ?_
      refine g_put (pc' := 31) B 2 rfl fp_X9_19 rfl rfl dX9_readEnd_28 rfl ?_
      refine g_goto (pc' := 43) B dX9_readEnd_31 (by decide) ?_
      exact g_vret B hrt hlk dX9_readEnd_43 ⟨hT.keep (by simp [up]) (by rw [up_row (by decide), up_row (by decide)]), by rw [show ne tx n P = _ from (if_pos c4).trans (if_pos c18)]; simp [up, ctx, hP1, hP2, hP3], fun k hk => by rw [up_row hk, up_row hk]⟩
  · exact g_vret B hrt hlk dX9_readEnd_7 ⟨hT, by rw [show ne tx n P = P from if_neg c4]; exact hP, fun k _ => rfl⟩
set_option maxRecDepth 100000 in
set_option maxHeartbeats 4000000 in
theorem c_X9_readNumber (l : Launch) (K : WK) (σ : SG) {tx : Int → Int} {n : Int} (hT : txD σ tx n) {P : SG} (hP : ctx σ P) (hp0 : 0 ≤ P 11 0 ∧ P 11 0 ≤ n) (hp1 : 0 ≤ P 11 1 ∧ P 11 1 ≤ 3) {lo hi : Int} (hlo : -10 ≤ lo ∧ lo ≤ 1000) (hhi : -10 ≤ hi ∧ hi ≤ 1000) : MI l yX9_readNumber cX9_readNumber 5 (some .int) 2 40 K σ [.ref (K.2.2 1), .int (iI lo), .int (iI hi)] (fun z τ => txD τ tx n ∧ ctx τ (nm tx n lo hi P) ∧ z = nv tx n P ∧ ∀ k, k ≠ 1 → τ k = σ k) := by
  refine met_of [(0, .ref (K.2.2 1)), (1, .int (iI lo)), (2, .int (iI hi))] (by decide +kernel) (Nat.le_of_ble_eq_true rfl) rfl ?_
  intro pP eE sS mM bW mT cC B hrt hlk
  replace B : CB pP sS mM [.ref (K.2.2 1), .int (iI lo), .int (iI hi)].toArray cC cX9_readNumber RX9 5 K := B
  obtain ⟨hP1, hP2, hP3⟩ := id hP
  obtain ⟨hT1, hT2, hT3⟩ := id hT
  have hs9 := sb_in tx n (P 11 0)
  refine g_aload_n (pc' := 1) B 0 rfl rfl dX9_readNumber_0 rfl ?_
  refine g_get (pc' := 4) B (P 11 1) hP.2.1 fl_X9_22 rfl rfl dX9_readNumber_1 rfl ?_
  refine g_if_eq (pc' := 7) B 9 (by omega) dX9_readNumber_4 (by decide) rfl (fun c4 => ?_) (fun c4 => ?_)
  · refine g_aload_n (pc' := 10) B 0 rfl rfl dX9_readNumber_9 rfl ?_
    refine g_callVV (pc' := 13) (As := []) B (c_X9_skipBlanks l K _ (tx := tx) (n := n) (a := P 11 0) hT hP1 (by omega)) vt_X9_skipBlanks tw_388 rfl rfl ⟨by decide, by decide⟩ rfl (Nat.le_of_ble_eq_true rfl) ⟨Nat.zero_le _, Nat.zero_le _⟩ rfl dX9_readNumber_10 rfl (fun τ10 h10 => ?_)
    subst h10
    refine g_aload_n (pc' := 14) B 0 rfl rfl dX9_readNumber_13 rfl ?_
    refine g_get (pc' := 17) B (sb tx n (P 11 0)) (by simp [up]) fl_X9_19 rfl rfl dX9_readNumber_14 rfl ?_
    refine g_istore_n (pc' := 18) B [(3, .int (iI (sb tx n (P 11 0)))), (0, .ref (K.2.2 1)), (1, .int (iI lo)), (2, .int (iI hi))] dX9_readNumber_17 rfl rfl (by decide) rfl ?_
    refine g_iconst (pc' := 19) B dX9_readNumber_18 rfl ?_
    refine g_istore (pc' := 21) B [(4, .int (iI 0)), (3, .int (iI (sb tx n (P 11 0)))), (0, .ref (K.2.2 1)), (1, .int (iI lo)), (2, .int (iI hi))] dX9_readNumber_19 rfl (by decide) rfl ?_
    have L21 : ∀ (nn : Nat) (ρ : SG) (v : Int) (y : Int) , (n - y).toNat = nn → (sb tx n (P 11 0) ≤ y ∧ y ≤ n) → (dg tx n y = dg tx n (sb tx n (P 11 0))) → (ρ = up σ 1 2 y) → (v = vlF tx (sb tx n (P 11 0)) (min 3 (y - sb tx n (P 11 0))).toNat) → ((0 ≤ v ∧ v ≤ 999) ∧ (y = sb tx n (P 11 0) → v = 0) ∧ (y = sb tx n (P 11 0) + 1 → v ≤ 9) ∧ (y = sb tx n (P 11 0) + 2 → v ≤ 99)) → G pP l eE (rmo 2 40) sS mM [.ref (K.2.2 1), .int (iI lo), .int (iI hi)].toArray bW mT cC 0 0 (MQ bW (Qi K (fun z τ => txD τ tx n ∧ ctx τ (nm tx n lo hi P) ∧ z = nv tx n P ∧ ∀ k, k ≠ 1 → τ k = σ k)) [.ref (K.2.2 1), .int (iI lo), .int (iI hi)].toArray sS 0 0 (wA K)) K sS.heap 5 ρ 21 [(4, .int (iI v)), (3, .int (iI (sb tx n (P 11 0)))), (0, .ref (K.2.2 1)), (1, .int (iI lo)), (2, .int (iI hi))] [] := by
      intro nn
      induction nn using Nat.strongRecOn with
      | _ nn ih21 =>
        intro ρ v y hn21 i1 i2 i3 i4 i5
        have hTρ : txD ρ tx n := hT.keep (by rw [i3]; simp [up]) (by rw [i3]; exact up_row (by decide))
        refine g_aload_n (pc' := 22) B 2 rfl rfl dX9_readNumber_21 rfl ?_
        refine g_get (pc' := 25) B y (by rw [i3]; simp [up]) fl_X9_19 rfl rfl dX9_readNumber_22 rfl ?_
        refine g_aload_n (pc' := 26) B 2 rfl rfl dX9_readNumber_25 rfl ?_
        refine g_get (pc' := 29) B n (by rw [i3]; simp [up, hT1]) fl_X9_15 rfl rfl dX9_readNumber_26 rfl ?_
        refine g_icmp_ge (pc' := 32) B 80 (by omega) (by omega) dX9_readNumber_29 (by decide) rfl (fun c29 => ?_) (fun c29 => ?_)
        · have hA : nrA tx n (P 11 0) = y := by unfold nrA; rw [← i2]; exact dg_stop (by first | exact Or.inl c29 | (right; rw [← hle]; exact h36))
          have hV : nrV tx n (P 11 0) = v := by unfold nrV; rw [hA]; exact i4.symm
          refine g_aload_n (pc' := 81) B 2 rfl rfl dX9_readNumber_80 rfl ?_
          refine g_get (pc' := 84) B y (by rw [i3]; simp [up]) fl_X9_19 rfl rfl dX9_readNumber_81 rfl ?_
          refine g_iload_n (pc' := 85) B 1 rfl rfl dX9_readNumber_84 rfl ?_
          refine g_icmp_ne (pc' := 88) B 100 (by omega) (by omega) dX9_readNumber_85 (by decide) rfl (fun c85 => ?_) (fun c85 => ?_)
          · refine g_aload_n (pc' := 101) B 2 rfl rfl dX9_readNumber_100 rfl ?_
            refine g_get (pc' := 104) B y (by rw [i3]; simp [up]) fl_X9_19 rfl rfl dX9_readNumber_101 rfl ?_
            refine g_iload_n (pc' := 105) B 1 rfl rfl dX9_readNumber_104 rfl ?_
            refine g_isub (pc' := 106) B dX9_readNumber_105 rfl ?_
            refine g_iconst (pc' := 107) B dX9_readNumber_106 rfl ?_
            refine g_icmp_gt (pc' := 110) B 120 (by omega) (by omega) dX9_readNumber_107 (by decide) rfl (fun c107 => ?_) (fun c107 => ?_)
            · refine g_aload_n (pc' := 121) B 2 rfl rfl dX9_readNumber_120 rfl ?_
              refine g_iconst (pc' := 122) B dX9_readNumber_121 rfl ?_
              refine g_iload_n (pc' := 123) B 1 rfl rfl dX9_readNumber_122 rfl ?_
              refine g_callVV (pc' := 126) (As := [.int (iI 2), .int (iI (sb tx n (P 11 0)))]) B (c_X9_blame l K _ (k := 2) (p := sb tx n (P 11 0)) ) vt_X9_blame tw_408 rfl rfl ⟨by decide, by decide⟩ rfl (Nat.le_of_ble_eq_true rfl) ⟨Nat.zero_le _, Nat.zero_le _⟩ rfl dX9_readNumber_123 rfl (fun τ123 h123 => ?_)
              subst h123
              refine g_iload (pc' := 128) B 0 rfl dX9_readNumber_126 rfl ?_
              exact g_iret (z := v) B hrt rfl hlk dX9_readNumber_128 ⟨hTρ.keep (by simp [up]) (by rw [up_row (by decide), up_row (by decide)]), by rw [show nm tx n lo hi P = _ from if_pos c4, hA, show nrK tx n lo hi (P 11 0) = 2 from by unfold nrK; rw [hA, hV]; rw [if_neg c85, if_pos (by omega)], show nrP tx n lo hi (P 11 0) (P 11 2) = sb tx n (P 11 0) from by unfold nrP; rw [hA, hV]; rw [if_neg c85, if_pos (by omega)]]; simp [up, ctx, i3, hP1, hP2, hP3, c4], by rw [show nv tx n P = _ from if_pos c4, hV], fun k hk => by rw [up_row hk, up_row hk, i3, up_row hk]⟩
            · refine g_iload (pc' := 112) B 0 rfl dX9_readNumber_110 rfl ?_
              refine g_iload_n (pc' := 113) B 3 rfl rfl dX9_readNumber_112 rfl ?_
              refine g_iload_n (pc' := 114) B 4 rfl rfl dX9_readNumber_113 rfl ?_
              refine g_callNI (pc' := 117) (As := [.int (iI v), .int (iI lo), .int (iI hi)]) B (c_X11_isOutside l K _ (v := v) (low := lo) (high := hi) (by omega) (by omega) (by omega)) st_X11_isOutside tw_419 ⟨by decide, by decide⟩ rfl (Nat.le_of_ble_eq_true rfl) ⟨Nat.zero_le _, Nat.zero_le _⟩ rfl dX9_readNumber_114 rfl (fun z114 τ114 h114 => ?_)
              obtain ⟨rfl, h114⟩ := h114
              rcases h114 with ⟨h114, rfl⟩ | ⟨h114, rfl⟩
              · refine g_if_eq (pc' := 120) B 126 (by omega) dX9_readNumber_117 (by decide) rfl (fun q => absurd q (by decide)) (fun _ => ?_)
                refine g_aload_n (pc' := 121) B 2 rfl rfl dX9_readNumber_120 rfl ?_
                refine g_iconst (pc' := 122) B dX9_readNumber_121 rfl ?_
                refine g_iload_n (pc' := 123) B 1 rfl rfl dX9_readNumber_122 rfl ?_
                refine g_callVV (pc' := 126) (As := [.int (iI 2), .int (iI (sb tx n (P 11 0)))]) B (c_X9_blame l K _ (k := 2) (p := sb tx n (P 11 0)) ) vt_X9_blame tw_408 rfl rfl ⟨by decide, by decide⟩ rfl (Nat.le_of_ble_eq_true rfl) ⟨Nat.zero_le _, Nat.zero_le _⟩ rfl dX9_readNumber_123 rfl (fun τ123 h123 => ?_)
                subst h123
                refine g_iload (pc' := 128) B 0 rfl dX9_readNumber_126 rfl ?_
                exact g_iret (z := v) B hrt rfl hlk dX9_readNumber_128 ⟨hTρ.keep (by simp [up]) (by rw [up_row (by decide), up_row (by decide)]), by rw [show nm tx n lo hi P = _ from if_pos c4, hA, show nrK tx n lo hi (P 11 0) = 2 from by unfold nrK; rw [hA, hV]; rw [if_neg c85, if_pos (by omega)], show nrP tx n lo hi (P 11 0) (P 11 2) = sb tx n (P 11 0) from by unfold nrP; rw [hA, hV]; rw [if_neg c85, if_pos (by omega)]]; simp [up, ctx, i3, hP1, hP2, hP3, c4], by rw [show nv tx n P = _ from if_pos c4, hV], fun k hk => by rw [up_row hk, up_row hk, i3, up_row hk]⟩
              · refine g_if_eq (pc' := 120) B 126 (by omega) dX9_readNumber_117 (by decide) rfl (fun _ => ?_) (fun q => absurd q (by decide))
                refine g_iload (pc' := 128) B 0 rfl dX9_readNumber_126 rfl ?_
                exact g_iret (z := v) B hrt rfl hlk dX9_readNumber_128 ⟨hTρ.keep (by simp [up]) (by rfl), by rw [show nm tx n lo hi P = _ from if_pos c4, hA, show nrK tx n lo hi (P 11 0) = 0 from by unfold nrK; rw [hA, hV]; rw [if_neg c85, if_neg (by omega)], show nrP tx n lo hi (P 11 0) (P 11 2) = P 11 2 from by unfold nrP; rw [hA, hV]; rw [if_neg c85, if_neg (by omega)]]; simp [up, ctx, i3, hP1, hP2, hP3, c4], by rw [show nv tx n P = _ from if_pos c4, hV], fun k hk => by rw [i3, up_row hk]⟩
          · refine g_aload_n (pc' := 89) B 2 rfl rfl dX9_readNumber_88 rfl ?_
            refine g_iconst (pc' := 90) B dX9_readNumber_89 rfl ?_
            refine g_aload_n (pc' := 91) B 2 rfl rfl dX9_readNumber_90 rfl ?_
            refine g_get (pc' := 94) B y (by rw [i3]; simp [up]) fl_X9_19 rfl rfl dX9_readNumber_91 rfl ?_
            refine g_callVV (pc' := 97) (As := [.int (iI 1), .int (iI y)]) B (c_X9_blame l K _ (k := 1) (p := y) ) vt_X9_blame tw_408 rfl rfl ⟨by decide, by decide⟩ rfl (Nat.le_of_ble_eq_true rfl) ⟨Nat.zero_le _, Nat.zero_le _⟩ rfl dX9_readNumber_94 rfl (fun τ94 h94 => ?_)
            subst h94
            refine g_goto (pc' := 126) B dX9_readNumber_97 (by decide) ?_
            refine g_iload (pc' := 128) B 0 rfl dX9_readNumber_126 rfl ?_
            exact g_iret (z := v) B hrt rfl hlk dX9_readNumber_128 ⟨hTρ.keep (by simp [up]) (by rw [up_row (by decide), up_row (by decide)]), by rw [show nm tx n lo hi P = _ from if_pos c4, hA, show nrK tx n lo hi (P 11 0) = 1 from by unfold nrK; rw [hA, hV]; rw [if_pos c85], show nrP tx n lo hi (P 11 0) (P 11 2) = y from by unfold nrP; rw [hA, hV]; rw [if_pos c85]]; simp [up, ctx, i3, hP1, hP2, hP3, c4], by rw [show nv tx n P = _ from if_pos c4, hV], fun k hk => by rw [up_row hk, up_row hk, i3, up_row hk]⟩
        · refine g_aload_n (pc' := 33) B 2 rfl rfl dX9_readNumber_32 rfl ?_
          refine g_callVI (pc' := 36) (As := []) B (c_X9_letterHere l K _ (tx := tx) (n := n) (a := y) hTρ (by rw [i3]; simp [up]) (by omega)) vt_X9_letterHere tw_392 rfl rfl ⟨by decide, by decide⟩ rfl (Nat.le_of_ble_eq_true rfl) ⟨Nat.zero_le _, Nat.zero_le _⟩ rfl dX9_readNumber_33 rfl (fun z33 τ33 h33 => ?_)
          obtain ⟨rfl, rfl⟩ := h33
          have hly := hT3 y (by omega) c29
          have hle : lh tx n y = tx y := by unfold lh; rw [if_pos (by omega)]
          refine g_callSI (pc' := 39) (As := [.int (iI (lh tx n y))]) B (c_X9_isFigure l K _ (c := lh tx n y) (by omega)) st_X9_isFigure tw_416 ⟨by decide, by decide⟩ rfl (Nat.le_of_ble_eq_true rfl) ⟨Nat.zero_le _, Nat.zero_le _⟩ rfl dX9_readNumber_36 rfl (fun z36 τ36 h36 => ?_)
          obtain ⟨rfl, h36⟩ := h36
          rcases h36 with ⟨h36, rfl⟩ | ⟨h36, rfl⟩
          · have hdy : 48 ≤ tx y ∧ tx y ≤ 57 := by rw [← hle]; exact h36
            refine g_if_eq (pc' := 42) B 80 (by omega) dX9_readNumber_39 (by decide) rfl (fun q => absurd q (by decide)) (fun _ => ?_)
            refine g_aload_n (pc' := 43) B 2 rfl rfl dX9_readNumber_42 rfl ?_
            refine g_get (pc' := 46) B y (by rw [i3]; simp [up]) fl_X9_19 rfl rfl dX9_readNumber_43 rfl ?_
            refine g_iload_n (pc' := 47) B 1 rfl rfl dX9_readNumber_46 rfl ?_
            refine g_isub (pc' := 48) B dX9_readNumber_47 rfl ?_
            refine g_iconst (pc' := 49) B dX9_readNumber_48 rfl ?_
            refine g_icmp_ge (pc' := 52) B 67 (by omega) (by omega) dX9_readNumber_49 (by decide) rfl (fun c49 => ?_) (fun c49 => ?_)
            · refine g_aload_n (pc' := 68) B 2 rfl rfl dX9_readNumber_67 rfl ?_
              refine g_dup (pc' := 69) B rfl dX9_readNumber_68 rfl ?_
              refine g_get (pc' := 72) B y (by rw [i3]; simp [up]) fl_X9_19 rfl rfl dX9_readNumber_69 rfl ?_
              refine g_iconst (pc' := 73) B dX9_readNumber_72 rfl ?_
              refine g_iadd (pc' := 74) B dX9_readNumber_73 rfl ?_
              refine g_put (pc' := 77) B 2 rfl fp_X9_19 rfl rfl dX9_readNumber_74 rfl ?_
              refine g_goto (pc' := 21) B dX9_readNumber_77 (by decide) ?_
              exact ih21 _ (by omega) (up ρ 1 2 (y + 1)) v (y + 1) rfl (by omega) (by rw [← i2, dg_go (a := y) c29 hdy]) (by rw [i3]; funext k j; simp [up]; split <;> simp_all) (by first | (rw [show min 3 (y + 1 - sb tx n (P 11 0)) = (y - sb tx n (P 11 0)) + 1 by omega, vlF_next (by omega), show sb tx n (P 11 0) + (y - sb tx n (P 11 0)) = y by omega, ← hle, i4, show min 3 (y - sb tx n (P 11 0)) = y - sb tx n (P 11 0) by omega]; done) | (rw [show min 3 (y + 1 - sb tx n (P 11 0)) = min 3 (y - sb tx n (P 11 0)) by omega]; exact i4)) (by omega)
            · refine g_iload (pc' := 54) B 0 rfl dX9_readNumber_52 rfl ?_
              refine g_bipush (pc' := 56) B (by decide +kernel) dX9_readNumber_54 rfl ?_
              refine g_imul (pc' := 57) B dX9_readNumber_56 rfl ?_
              refine g_aload_n (pc' := 58) B 2 rfl rfl dX9_readNumber_57 rfl ?_
              refine g_callVI (pc' := 61) (As := []) B (c_X9_letterHere l K _ (tx := tx) (n := n) (a := y) hTρ (by rw [i3]; simp [up]) (by omega)) vt_X9_letterHere tw_392 rfl rfl ⟨by decide, by decide⟩ rfl (Nat.le_of_ble_eq_true rfl) ⟨Nat.zero_le _, Nat.zero_le _⟩ rfl dX9_readNumber_58 rfl (fun z58 τ58 h58 => ?_)
              obtain ⟨rfl, rfl⟩ := h58
              refine g_iadd (pc' := 62) B dX9_readNumber_61 rfl ?_
              refine g_bipush (pc' := 64) B (by decide +kernel) dX9_readNumber_62 rfl ?_
              refine g_isub (pc' := 65) B dX9_readNumber_64 rfl ?_
              refine g_istore (pc' := 67) B [(4, .int (iI (((v * 10) + (lh tx n y)) - 48))), (3, .int (iI (sb tx n (P 11 0)))), (0, .ref (K.2.2 1)), (1, .int (iI lo)), (2, .int (iI hi))] dX9_readNumber_65 rfl (by decide) rfl ?_
              refine g_aload_n (pc' := 68) B 2 rfl rfl dX9_readNumber_67 rfl ?_
              refine g_dup (pc' := 69) B rfl dX9_readNumber_68 rfl ?_
              refine g_get (pc' := 72) B y (by rw [i3]; simp [up]) fl_X9_19 rfl rfl dX9_readNumber_69 rfl ?_
              refine g_iconst (pc' := 73) B dX9_readNumber_72 rfl ?_
              refine g_iadd (pc' := 74) B dX9_readNumber_73 rfl ?_
              refine g_put (pc' := 77) B 2 rfl fp_X9_19 rfl rfl dX9_readNumber_74 rfl ?_
              refine g_goto (pc' := 21) B dX9_readNumber_77 (by decide) ?_
              exact ih21 _ (by omega) (up ρ 1 2 (y + 1)) (((v * 10) + (lh tx n y)) - 48) (y + 1) rfl (by omega) (by rw [← i2, dg_go (a := y) c29 hdy]) (by rw [i3]; funext k j; simp [up]; split <;> simp_all) (by first | (rw [show min 3 (y + 1 - sb tx n (P 11 0)) = (y - sb tx n (P 11 0)) + 1 by omega, vlF_next (by omega), show sb tx n (P 11 0) + (y - sb tx n (P 11 0)) = y by omega, ← hle, i4, show min 3 (y - sb tx n (P 11 0)) = y - sb tx n (P 11 0) by omega]; done) | (rw [show min 3 (y + 1 - sb tx n (P 11 0)) = min 3 (y - sb tx n (P 11 0)) by omega]; exact i4)) (by omega)
          · refine g_if_eq (pc' := 42) B 80 (by omega) dX9_readNumber_39 (by decide) rfl (fun _ => ?_) (fun q => absurd q (by decide))
            have hA : nrA tx n (P 11 0) = y := by unfold nrA; rw [← i2]; exact dg_stop (by first | exact Or.inl c29 | (right; rw [← hle]; exact h36))
            have hV : nrV tx n (P 11 0) = v := by unfold nrV; rw [hA]; exact i4.symm
            refine g_aload_n (pc' := 81) B 2 rfl rfl dX9_readNumber_80 rfl ?_
            refine g_get (pc' := 84) B y (by rw [i3]; simp [up]) fl_X9_19 rfl rfl dX9_readNumber_81 rfl ?_
            refine g_iload_n (pc' := 85) B 1 rfl rfl dX9_readNumber_84 rfl ?_
            refine g_icmp_ne (pc' := 88) B 100 (by omega) (by omega) dX9_readNumber_85 (by decide) rfl (fun c85 => ?_) (fun c85 => ?_)
            · refine g_aload_n (pc' := 101) B 2 rfl rfl dX9_readNumber_100 rfl ?_
              refine g_get (pc' := 104) B y (by rw [i3]; simp [up]) fl_X9_19 rfl rfl dX9_readNumber_101 rfl ?_
              refine g_iload_n (pc' := 105) B 1 rfl rfl dX9_readNumber_104 rfl ?_
              refine g_isub (pc' := 106) B dX9_readNumber_105 rfl ?_
              refine g_iconst (pc' := 107) B dX9_readNumber_106 rfl ?_
              refine g_icmp_gt (pc' := 110) B 120 (by omega) (by omega) dX9_readNumber_107 (by decide) rfl (fun c107 => ?_) (fun c107 => ?_)
              · refine g_aload_n (pc' := 121) B 2 rfl rfl dX9_readNumber_120 rfl ?_
                refine g_iconst (pc' := 122) B dX9_readNumber_121 rfl ?_
                refine g_iload_n (pc' := 123) B 1 rfl rfl dX9_readNumber_122 rfl ?_
                refine g_callVV (pc' := 126) (As := [.int (iI 2), .int (iI (sb tx n (P 11 0)))]) B (c_X9_blame l K _ (k := 2) (p := sb tx n (P 11 0)) ) vt_X9_blame tw_408 rfl rfl ⟨by decide, by decide⟩ rfl (Nat.le_of_ble_eq_true rfl) ⟨Nat.zero_le _, Nat.zero_le _⟩ rfl dX9_readNumber_123 rfl (fun τ123 h123 => ?_)
                subst h123
                refine g_iload (pc' := 128) B 0 rfl dX9_readNumber_126 rfl ?_
                exact g_iret (z := v) B hrt rfl hlk dX9_readNumber_128 ⟨hTρ.keep (by simp [up]) (by rw [up_row (by decide), up_row (by decide)]), by rw [show nm tx n lo hi P = _ from if_pos c4, hA, show nrK tx n lo hi (P 11 0) = 2 from by unfold nrK; rw [hA, hV]; rw [if_neg c85, if_pos (by omega)], show nrP tx n lo hi (P 11 0) (P 11 2) = sb tx n (P 11 0) from by unfold nrP; rw [hA, hV]; rw [if_neg c85, if_pos (by omega)]]; simp [up, ctx, i3, hP1, hP2, hP3, c4], by rw [show nv tx n P = _ from if_pos c4, hV], fun k hk => by rw [up_row hk, up_row hk, i3, up_row hk]⟩
              · refine g_iload (pc' := 112) B 0 rfl dX9_readNumber_110 rfl ?_
                refine g_iload_n (pc' := 113) B 3 rfl rfl dX9_readNumber_112 rfl ?_
                refine g_iload_n (pc' := 114) B 4 rfl rfl dX9_readNumber_113 rfl ?_
                refine g_callNI (pc' := 117) (As := [.int (iI v), .int (iI lo), .int (iI hi)]) B (c_X11_isOutside l K _ (v := v) (low := lo) (high := hi) (by omega) (by omega) (by omega)) st_X11_isOutside tw_419 ⟨by decide, by decide⟩ rfl (Nat.le_of_ble_eq_true rfl) ⟨Nat.zero_le _, Nat.zero_le _⟩ rfl dX9_readNumber_114 rfl (fun z114 τ114 h114 => ?_)
                obtain ⟨rfl, h114⟩ := h114
                rcases h114 with ⟨h114, rfl⟩ | ⟨h114, rfl⟩
                · refine g_if_eq (pc' := 120) B 126 (by omega) dX9_readNumber_117 (by decide) rfl (fun q => absurd q (by decide)) (fun _ => ?_)
                  refine g_aload_n (pc' := 121) B 2 rfl rfl dX9_readNumber_120 rfl ?_
                  refine g_iconst (pc' := 122) B dX9_readNumber_121 rfl ?_
                  refine g_iload_n (pc' := 123) B 1 rfl rfl dX9_readNumber_122 rfl ?_
                  refine g_callVV (pc' := 126) (As := [.int (iI 2), .int (iI (sb tx n (P 11 0)))]) B (c_X9_blame l K _ (k := 2) (p := sb tx n (P 11 0)) ) vt_X9_blame tw_408 rfl rfl ⟨by decide, by decide⟩ rfl (Nat.le_of_ble_eq_true rfl) ⟨Nat.zero_le _, Nat.zero_le _⟩ rfl dX9_readNumber_123 rfl (fun τ123 h123 => ?_)
                  subst h123
                  refine g_iload (pc' := 128) B 0 rfl dX9_readNumber_126 rfl ?_
                  exact g_iret (z := v) B hrt rfl hlk dX9_readNumber_128 ⟨hTρ.keep (by simp [up]) (by rw [up_row (by decide), up_row (by decide)]), by rw [show nm tx n lo hi P = _ from if_pos c4, hA, show nrK tx n lo hi (P 11 0) = 2 from by unfold nrK; rw [hA, hV]; rw [if_neg c85, if_pos (by omega)], show nrP tx n lo hi (P 11 0) (P 11 2) = sb tx n (P 11 0) from by unfold nrP; rw [hA, hV]; rw [if_neg c85, if_pos (by omega)]]; simp [up, ctx, i3, hP1, hP2, hP3, c4], by rw [show nv tx n P = _ from if_pos c4, hV], fun k hk => by rw [up_row hk, up_row hk, i3, up_row hk]⟩
                · refine g_if_eq (pc' := 120) B 126 (by omega) dX9_readNumber_117 (by decide) rfl (fun _ => ?_) (fun q => absurd q (by decide))
                  refine g_iload (pc' := 128) B 0 rfl dX9_readNumber_126 rfl ?_
                  exact g_iret (z := v) B hrt rfl hlk dX9_readNumber_128 ⟨hTρ.keep (by simp [up]) (by rfl), by rw [show nm tx n lo hi P = _ from if_pos c4, hA, show nrK tx n lo hi (P 11 0) = 0 from by unfold nrK; rw [hA, hV]; rw [if_neg c85, if_neg (by omega)], show nrP tx n lo hi (P 11 0) (P 11 2) = P 11 2 from by unfold nrP; rw [hA, hV]; rw [if_neg c85, if_neg (by omega)]]; simp [up, ctx, i3, hP1, hP2, hP3, c4], by rw [show nv tx n P = _ from if_pos c4, hV], fun k hk => by rw [i3, up_row hk]⟩
            · refine g_aload_n (pc' := 89) B 2 rfl rfl dX9_readNumber_88 rfl ?_
              refine g_iconst (pc' := 90) B dX9_readNumber_89 rfl ?_
              refine g_aload_n (pc' := 91) B 2 rfl rfl dX9_readNumber_90 rfl ?_
              refine g_get (pc' := 94) B y (by rw [i3]; simp [up]) fl_X9_19 rfl rfl dX9_readNumber_91 rfl ?_
              refine g_callVV (pc' := 97) (As := [.int (iI 1), .int (iI y)]) B (c_X9_blame l K _ (k := 1) (p := y) ) vt_X9_blame tw_408 rfl rfl ⟨by decide, by decide⟩ rfl (Nat.le_of_ble_eq_true rfl) ⟨Nat.zero_le _, Nat.zero_le _⟩ rfl dX9_readNumber_94 rfl (fun τ94 h94 => ?_)
              subst h94
              refine g_goto (pc' := 126) B dX9_readNumber_97 (by decide) ?_
              refine g_iload (pc' := 128) B 0 rfl dX9_readNumber_126 rfl ?_
              exact g_iret (z := v) B hrt rfl hlk dX9_readNumber_128 ⟨hTρ.keep (by simp [up]) (by rw [up_row (by decide), up_row (by decide)]), by rw [show nm tx n lo hi P = _ from if_pos c4, hA, show nrK tx n lo hi (P 11 0) = 1 from by unfold nrK; rw [hA, hV]; rw [if_pos c85], show nrP tx n lo hi (P 11 0) (P 11 2) = y from by unfold nrP; rw [hA, hV]; rw [if_pos c85]]; simp [up, ctx, i3, hP1, hP2, hP3, c4], by rw [show nv tx n P = _ from if_pos c4, hV], fun k hk => by rw [up_row hk, up_row hk, i3, up_row hk]⟩
    exact L21 _ (up σ 1 2 (sb tx n (P 11 0))) 0 (sb tx n (P 11 0)) rfl (by omega) (by rfl) (by rfl) (by rw [show (min 3 (sb tx n (P 11 0) - sb tx n (P 11 0))).toNat = 0 by omega]; rfl) (by omega)
  · refine g_iconst (pc' := 8) B dX9_readNumber_7 rfl ?_
    exact g_iret (z := 0) B hrt rfl hlk dX9_readNumber_8 ⟨hT, by rw [show nm tx n lo hi P = P from if_neg c4]; exact hP, by rw [show nv tx n P = 0 from if_neg c4], fun k _ => rfl⟩
