set_option maxRecDepth 100000 in
set_option maxHeartbeats 4000000 in
theorem c_X12_drift (l : Launch) (K : WK) (σ : SG) {D : SG} (hM : mD σ D) (hF : okF D) (hR : okR D) (hO : okQ D) (hH : okH D) {Q : SG} (hV : mdV σ Q) (hQb : 0 ≤ Q 5 1 ∧ Q 5 1 ≤ Q 5 0 ∧ Q 5 0 ≤ 69000) (hLr : D 9 0 ≠ 0 → 0 ≤ Q 5 2 ∧ Q 5 2 < D 9 0) (hvr : 0 ≤ Q 5 4 ∧ Q 5 4 < 2147483648) {n : Int} (hn : -2147483648 ≤ n ∧ n < 2147483648) : MI l yX12_drift cX12_drift 6 (some .int) 4 97 K σ [.ref (K.2.2 57), .int (iI n)] (fun z τ => (((n < 1 ∨ 99 < n) ∧ τ = σ ∧ z = -1000000002) ∨ (¬ (n < 1 ∨ 99 < n) ∧ D 9 0 = 0 ∧ τ = σ ∧ z = -1000000003) ∨ (¬ (n < 1 ∨ 99 < n) ∧ D 9 0 ≠ 0 ∧ mdV τ (dfI D Q n.toNat) ∧ (∀ j : Int, 4 ≤ j → j ≠ 8 → τ 58 j = σ 58 j) ∧ (∀ j : Int, j ≠ 21 → τ 57 j = σ 57 j) ∧ (∀ k, k ≠ 57 → k ≠ 58 → k ≠ 64 → τ k = σ k) ∧ z = dfI D Q n.toNat 5 2))) := by
  refine met_of [(0, .ref (K.2.2 57)), (1, .int (iI n))] (by decide +kernel) (Nat.le_of_ble_eq_true rfl) rfl ?_
  intro pP eE sS mM bW mT cC B hrt hlk
  replace B : CB pP sS mM [.ref (K.2.2 57), .int (iI n)].toArray cC cX12_drift RX12 6 K := B
  obtain ⟨hF0, hF1⟩ := id hF
  obtain ⟨hO0, hO1⟩ := id hO
  obtain ⟨hH0, hH1⟩ := id hH
  obtain ⟨hR0, hR1⟩ := id hR
  refine g_iload_n (pc' := 1) B 1 rfl rfl dX12_drift_0 rfl ?_
  refine g_i2l (pc' := 2) B (by omega) dX12_drift_1 rfl ?_
  refine g_lconst (z := 1) (pc' := 3) B (by decide +kernel) dX12_drift_2 rfl ?_
  refine g_ldc2 (z := 99) (pc' := 6) B tw_1196 (by decide +kernel) dX12_drift_3 rfl ?_
  refine g_callSI (pc' := 9) (As := [.long (lI n), .long (lI 1), .long (lI 99)]) B (c_X12_in l K _ (v := n) (a := 1) (b := 99) (by omega) (by omega) (by omega)) st_X12_in tw_1041 ⟨by decide, by decide⟩ rfl (Nat.le_of_ble_eq_true rfl) ⟨Nat.zero_le _, Nat.zero_le _⟩ rfl dX12_drift_6 rfl (fun z6 τ6 h6 => ?_)
  obtain ⟨rfl, h6⟩ := h6
  rcases h6 with ⟨h6, rfl⟩ | ⟨h6, rfl⟩
  · refine g_if_ne (pc' := 12) B 15 (by omega) dX12_drift_9 (by decide) rfl (fun _ => ?_) (fun q => absurd q (by decide))
    refine g_aload_n (pc' := 16) B 0 rfl rfl dX12_drift_15 rfl ?_
    refine g_get (pc' := 19) B (D 9 0) hM.1 fl_X12_131 rfl rfl dX12_drift_16 rfl ?_
    refine g_if_ne (pc' := 22) B 25 (by omega) dX12_drift_19 (by decide) rfl (fun c19 => ?_) (fun c19 => ?_)
    · refine g_aload_n (pc' := 26) B 0 rfl rfl dX12_drift_25 rfl ?_
      refine g_getR (pc' := 29) B 58 fl_X12_7 rfl rfl dX12_drift_26 rfl ?_
      refine g_iconst (pc' := 30) B dX12_drift_29 rfl ?_
      refine g_iald (pc' := 31) B (Q 5 0) hV.2.1.1 rfl (by omega) (by decide) dX12_drift_30 rfl ?_
      refine g_ldc (z := 900000) (pc' := 33) B tw_1161 (by decide +kernel) dX12_drift_31 rfl ?_
      refine g_icmp_le (pc' := 36) B 39 (by omega) (by omega) dX12_drift_33 (by decide) rfl (fun c33 => ?_) (fun c33 => by exfalso; omega)
      refine g_iconst (pc' := 40) B dX12_drift_39 rfl ?_
      refine g_istore_n (pc' := 41) B [(2, .int (iI 0)), (0, .ref (K.2.2 57)), (1, .int (iI n))] dX12_drift_40 rfl rfl (by decide) rfl ?_
      have L41 : ∀ (nn : Nat) (ρ : SG) (i : Int) (Q9 : SG) , (n - i).toNat = nn → (0 ≤ i ∧ i ≤ n) → (Q9 = dfI D Q i.toNat) → (mdV ρ Q9) → (dB D Q9) → (Q9 5 0 = Q 5 0 + i) → (∀ k, k ≠ 57 → k ≠ 58 → k ≠ 64 → ρ k = σ k) → (∀ j : Int, j ≠ 21 → ρ 57 j = σ 57 j) → (∀ j : Int, 4 ≤ j → j ≠ 8 → ρ 58 j = σ 58 j) → G pP l eE (rmo 4 97) sS mM [.ref (K.2.2 57), .int (iI n)].toArray bW mT cC 0 0 (MQ bW (Qi K (fun z τ => (((n < 1 ∨ 99 < n) ∧ τ = σ ∧ z = -1000000002) ∨ (¬ (n < 1 ∨ 99 < n) ∧ D 9 0 = 0 ∧ τ = σ ∧ z = -1000000003) ∨ (¬ (n < 1 ∨ 99 < n) ∧ D 9 0 ≠ 0 ∧ mdV τ (dfI D Q n.toNat) ∧ (∀ j : Int, 4 ≤ j → j ≠ 8 → τ 58 j = σ 58 j) ∧ (∀ j : Int, j ≠ 21 → τ 57 j = σ 57 j) ∧ (∀ k, k ≠ 57 → k ≠ 58 → k ≠ 64 → τ k = σ k) ∧ z = dfI D Q n.toNat 5 2)))) [.ref (K.2.2 57), .int (iI n)].toArray sS 0 0 (wA K)) K sS.heap 6 ρ 41 [(2, .int (iI i)), (0, .ref (K.2.2 57)), (1, .int (iI n))] [] := by
        intro nn
        induction nn using Nat.strongRecOn with
        | _ nn ih41 =>
          intro ρ i Q9 hn41 i1 i2 i3 i4 i5 i6 i7 i8
          refine g_iload_n (pc' := 42) B 0 rfl rfl dX12_drift_41 rfl ?_
          refine g_iload_n (pc' := 43) B 2 rfl rfl dX12_drift_42 rfl ?_
          refine g_icmp_ge (pc' := 46) B 114 (by omega) (by omega) dX12_drift_43 (by decide) rfl (fun c43 => ?_) (fun c43 => ?_)
          · refine g_aload_n (pc' := 115) B 1 rfl rfl dX12_drift_114 rfl ?_
            refine g_getR (pc' := 118) B 58 fl_X12_7 rfl rfl dX12_drift_115 rfl ?_
            refine g_iconst (pc' := 119) B dX12_drift_118 rfl ?_
            refine g_iald (pc' := 120) B (Q9 5 2) i3.2.1.2.2.1 rfl (by omega) (by decide) dX12_drift_119 rfl ?_
            exact g_iret (z := Q9 5 2) B hrt rfl hlk dX12_drift_120 (Or.inr (Or.inr (by have hin : i = n := (by omega); subst hin; subst i2; exact ⟨by omega, by omega, i3, i8, i7, i6, rfl⟩)))
          · obtain ⟨i41, i42, i43⟩ := id i4
            have hsd1 := sdn_bd (Q9 5 4)
            have hsd2 := sdn_bd (sdn (Q9 5 4))
            refine g_aload_n (pc' := 47) B 1 rfl rfl dX12_drift_46 rfl ?_
            refine g_callVV (pc' := 50) (As := []) B (c_X12_remember l K _ (T := Q9) (S := Q9 5 0) (X := Q9 5 1) (L := Q9 5 2) (P := Q9 5 3) i3.1 i3.2.1) vt_X12_remember tw_1162 rfl rfl ⟨by decide, by decide⟩ rfl (Nat.le_of_ble_eq_true rfl) ⟨Nat.zero_le _, Nat.zero_le _⟩ rfl dX12_drift_47 rfl (fun τ47 h47 => ?_)
            obtain ⟨h47a, h47b, h47c⟩ := h47
            have hn47 : τ47 58 0 = Q9 5 0 ∧ τ47 58 1 = Q9 5 1 ∧ τ47 58 2 = Q9 5 2 ∧ τ47 58 3 = Q9 5 3 := by rw [h47c 58 (by decide) (by decide)]; exact i3.2.1
            have hs47 : τ47 58 8 = Q9 5 4 := by rw [h47c 58 (by decide) (by decide)]; exact i3.2.2
            have hM47 : mD τ47 D := hM.keep (by rw [h47b 5 (by decide)]; exact i7 5 (by decide)) (by rw [h47b 6 (by decide)]; exact i7 6 (by decide)) (by rw [h47b 7 (by decide)]; exact i7 7 (by decide)) (by rw [h47b 19 (by decide)]; exact i7 19 (by decide)) (fun k a c => by rw [h47c k (by omega) (by omega)]; exact i6 k (by omega) (by omega) (by omega))
            refine g_aload_n (pc' := 51) B 1 rfl rfl dX12_drift_50 rfl ?_
            refine g_bipush (pc' := 53) B (by decide +kernel) dX12_drift_51 rfl ?_
            refine g_callVI (pc' := 56) (As := [.int (iI 8)]) B (c_X12_draw l K _ (n := 8) (v := Q9 5 4) hs47 (by omega) (by omega)) vt_X12_draw tw_1197 rfl rfl ⟨by decide, by decide⟩ rfl (Nat.le_of_ble_eq_true rfl) ⟨Nat.zero_le _, Nat.zero_le _⟩ rfl dX12_drift_53 rfl (fun z53 τ53 h53 => ?_)
            obtain ⟨h53a, h53b⟩ := h53
            subst h53a
            subst h53b
            refine g_if_ne (pc' := 59) B 63 (by omega) dX12_drift_56 (by decide) rfl (fun c56 => ?_) (fun c56 => ?_)
            · refine g_iconst (pc' := 64) B dX12_drift_63 rfl ?_
              refine g_istore_n (pc' := 65) B [(3, .int (iI 1)), (2, .int (iI i)), (0, .ref (K.2.2 57)), (1, .int (iI n))] dX12_drift_64 rfl rfl (by decide) rfl ?_
              refine g_aload_n (pc' := 66) B 2 rfl rfl dX12_drift_65 rfl ?_
              refine g_iconst (pc' := 67) B dX12_drift_66 rfl ?_
              refine g_callVI (pc' := 70) (As := [.int (iI 3)]) B (c_X12_draw l K _ (n := 3) (v := sdn (Q9 5 4)) (by simp [up]) (by omega) (by omega)) vt_X12_draw tw_1197 rfl rfl ⟨by decide, by decide⟩ rfl (Nat.le_of_ble_eq_true rfl) ⟨Nat.zero_le _, Nat.zero_le _⟩ rfl dX12_drift_67 rfl (fun z67 τ67 h67 => ?_)
              obtain ⟨h67a, h67b⟩ := h67
              subst h67a
              subst h67b
              refine g_istore (pc' := 72) B [(4, .int (iI (sdn (sdn (Q9 5 4)) / 65536 % 3))), (3, .int (iI 1)), (2, .int (iI i)), (0, .ref (K.2.2 57)), (1, .int (iI n))] dX12_drift_70 rfl (by decide) rfl ?_
              refine g_aload_n (pc' := 73) B 3 rfl rfl dX12_drift_72 rfl ?_
              refine g_aload_n (pc' := 74) B 3 rfl rfl dX12_drift_73 rfl ?_
              refine g_aload_n (pc' := 75) B 3 rfl rfl dX12_drift_74 rfl ?_
              refine g_getR (pc' := 78) B 58 fl_X12_7 rfl rfl dX12_drift_75 rfl ?_
              refine g_iconst (pc' := 79) B dX12_drift_78 rfl ?_
              refine g_iald (pc' := 80) B (Q9 5 2) (by have q9 := hn47.2.2.1; simpa [up] using q9) rfl (by omega) (by decide) dX12_drift_79 rfl ?_
              refine g_iload (pc' := 82) B 0 rfl dX12_drift_80 rfl ?_
              refine g_aload_n (pc' := 83) B 3 rfl rfl dX12_drift_82 rfl ?_
              refine g_getR (pc' := 86) B 58 fl_X12_7 rfl rfl dX12_drift_83 rfl ?_
              refine g_iconst (pc' := 87) B dX12_drift_86 rfl ?_
              refine g_iald (pc' := 88) B (Q9 5 0) (by have q9 := hn47.1; simpa [up] using q9) rfl (by omega) (by decide) dX12_drift_87 rfl ?_
              refine g_iconst (pc' := 89) B dX12_drift_88 rfl ?_
              refine g_iadd (pc' := 90) B dX12_drift_89 rfl ?_
              refine g_callVI (pc' := 93) (As := [.int (iI (Q9 5 2)), .int (iI (sdn (sdn (Q9 5 4)) / 65536 % 3)), .int (iI ((Q9 5 0) + 1))]) B (c_X12_to l K _ (D := D) (f := Q9 5 2) (w := sdn (sdn (Q9 5 4)) / 65536 % 3) (t := (Q9 5 0) + 1) (hM47.keep (by simp [up]) (by simp [up]) (by simp [up]) (by simp [up]) (fun k a c => by rw [up_row (by omega), up_row (by omega)])) hF hR hO hH (by omega) (by omega) (by omega)) vt_X12_to tw_1175 rfl rfl ⟨by decide, by decide⟩ rfl (Nat.le_of_ble_eq_true rfl) ⟨Nat.zero_le _, Nat.zero_le _⟩ rfl dX12_drift_90 rfl (fun z90 τ90 h90 => ?_)
              obtain ⟨rfl, rfl⟩ := h90
              have htb := tow_bd (D := D) (f := Q9 5 2) (t := Q9 5 0 + 1) (w := sdn (sdn (Q9 5 4)) / 65536 % 3)
              refine g_if_ge (pc' := 96) B 100 (by omega) dX12_drift_93 (by decide) rfl (fun c93 => ?_) (fun c93 => ?_)
              · refine g_iload (pc' := 102) B 0 rfl dX12_drift_100 rfl ?_
                refine g_iload_n (pc' := 103) B 1 rfl rfl dX12_drift_102 rfl ?_
                refine g_callVI (pc' := 106) (As := [.int (iI (sdn (sdn (Q9 5 4)) / 65536 % 3)), .int (iI 1)]) B (c_X12_rollOn l K _ (D := D) (S := Q9 5 0) (X := Q9 5 1) (L := Q9 5 2) (P := Q9 5 3) (w := sdn (sdn (Q9 5 4)) / 65536 % 3) (e := 1) (hM47.keep (by simp [up]) (by simp [up]) (by simp [up]) (by simp [up]) (fun k a c => by rw [up_row (by omega), up_row (by omega)])) hF hR hO hH (by simp [up, hn47]) (by omega) (by omega) (by omega) (by omega) (by first | exact can0 i42 | exact tow_ge (by omega))) vt_X12_rollOn tw_1180 rfl rfl ⟨by decide, by decide⟩ rfl (Nat.le_of_ble_eq_true rfl) ⟨Nat.zero_le _, Nat.zero_le _⟩ rfl dX12_drift_103 rfl (fun z103 τ103 h103 => ?_)
                obtain ⟨h103a, h103b⟩ := h103
                refine g_istore (pc' := 108) B [(5, .int (iI z103)), (4, .int (iI (sdn (sdn (Q9 5 4)) / 65536 % 3))), (3, .int (iI 1)), (2, .int (iI i)), (0, .ref (K.2.2 57)), (1, .int (iI n))] dX12_drift_106 rfl (by decide) rfl ?_
                refine g_iinc (pc' := 111) B 3 [(2, .int (iI (i + 1))), (5, .int (iI z103)), (4, .int (iI (sdn (sdn (Q9 5 4)) / 65536 % 3))), (3, .int (iI 1)), (0, .ref (K.2.2 57)), (1, .int (iI n))] dX12_drift_108 rfl rfl (by decide) rfl ?_
                refine g_goto (pc' := 41) B dX12_drift_111 (by decide) ?_
                refine g_loc B [(2, .int (iI (i + 1))), (0, .ref (K.2.2 57)), (1, .int (iI n))] [0, 4, 5] rfl ?_
                exact ih41 _ (by omega) τ103 (i + 1) (dfN D Q9) rfl (by omega) (by rw [i2]; exact dfI_next D Q (by omega)) (by rw [h103a]; exact mdV_next (h47a.keep (by simp [up]) (by funext j; simp [up])) (up_same _ _ _ _) (by simp [dfh, c56]) (by first | exact cif_pos (tow_ge (by omega)) | exact cif_neg (tow_lt (by omega)))) (by exact dB_next i4) (by show Q9 5 0 + 1 = _; omega) (by intro k a b c; rw [h103a, up_row b, up_row b, up_row b, up_row b, up_row b, up_row b, h47c k a c]; exact i6 k a b c) (by intro j a; rw [h103a, up_row (by decide), up_row (by decide), up_row (by decide), up_row (by decide), up_row (by decide), up_row (by decide), h47b j a]; exact i7 j a) (by intro j a b; rw [h103a, up_col (by omega), up_col (by omega), up_col (by omega), up_col (by omega), up_col (by omega), up_col (by omega), h47c 58 (by decide) (by decide)]; exact i8 j a b)
              · refine g_iconst (pc' := 97) B dX12_drift_96 rfl ?_
                refine g_goto (pc' := 102) B dX12_drift_97 (by decide) ?_
                refine g_iload_n (pc' := 103) B 1 rfl rfl dX12_drift_102 rfl ?_
                refine g_callVI (pc' := 106) (As := [.int (iI 0), .int (iI 1)]) B (c_X12_rollOn l K _ (D := D) (S := Q9 5 0) (X := Q9 5 1) (L := Q9 5 2) (P := Q9 5 3) (w := 0) (e := 1) (hM47.keep (by simp [up]) (by simp [up]) (by simp [up]) (by simp [up]) (fun k a c => by rw [up_row (by omega), up_row (by omega)])) hF hR hO hH (by simp [up, hn47]) (by omega) (by omega) (by omega) (by omega) (by first | exact can0 i42 | exact tow_ge (by omega))) vt_X12_rollOn tw_1180 rfl rfl ⟨by decide, by decide⟩ rfl (Nat.le_of_ble_eq_true rfl) ⟨Nat.zero_le _, Nat.zero_le _⟩ rfl dX12_drift_103 rfl (fun z103 τ103 h103 => ?_)
                obtain ⟨h103a, h103b⟩ := h103
                refine g_istore (pc' := 108) B [(5, .int (iI z103)), (4, .int (iI (sdn (sdn (Q9 5 4)) / 65536 % 3))), (3, .int (iI 1)), (2, .int (iI i)), (0, .ref (K.2.2 57)), (1, .int (iI n))] dX12_drift_106 rfl (by decide) rfl ?_
                refine g_iinc (pc' := 111) B 3 [(2, .int (iI (i + 1))), (5, .int (iI z103)), (4, .int (iI (sdn (sdn (Q9 5 4)) / 65536 % 3))), (3, .int (iI 1)), (0, .ref (K.2.2 57)), (1, .int (iI n))] dX12_drift_108 rfl rfl (by decide) rfl ?_
                refine g_goto (pc' := 41) B dX12_drift_111 (by decide) ?_
                refine g_loc B [(2, .int (iI (i + 1))), (0, .ref (K.2.2 57)), (1, .int (iI n))] [0, 4, 5] rfl ?_
                exact ih41 _ (by omega) τ103 (i + 1) (dfN D Q9) rfl (by omega) (by rw [i2]; exact dfI_next D Q (by omega)) (by rw [h103a]; exact mdV_next (h47a.keep (by simp [up]) (by funext j; simp [up])) (up_same _ _ _ _) (by simp [dfh, c56]) (by first | exact cif_pos (tow_ge (by omega)) | exact cif_neg (tow_lt (by omega)))) (by exact dB_next i4) (by show Q9 5 0 + 1 = _; omega) (by intro k a b c; rw [h103a, up_row b, up_row b, up_row b, up_row b, up_row b, up_row b, h47c k a c]; exact i6 k a b c) (by intro j a; rw [h103a, up_row (by decide), up_row (by decide), up_row (by decide), up_row (by decide), up_row (by decide), up_row (by decide), h47b j a]; exact i7 j a) (by intro j a b; rw [h103a, up_col (by omega), up_col (by omega), up_col (by omega), up_col (by omega), up_col (by omega), up_col (by omega), h47c 58 (by decide) (by decide)]; exact i8 j a b)
            · refine g_iconst (pc' := 60) B dX12_drift_59 rfl ?_
              refine g_goto (pc' := 64) B dX12_drift_60 (by decide) ?_
              refine g_istore_n (pc' := 65) B [(3, .int (iI 0)), (2, .int (iI i)), (0, .ref (K.2.2 57)), (1, .int (iI n))] dX12_drift_64 rfl rfl (by decide) rfl ?_
              refine g_aload_n (pc' := 66) B 2 rfl rfl dX12_drift_65 rfl ?_
              refine g_iconst (pc' := 67) B dX12_drift_66 rfl ?_
              refine g_callVI (pc' := 70) (As := [.int (iI 3)]) B (c_X12_draw l K _ (n := 3) (v := sdn (Q9 5 4)) (by simp [up]) (by omega) (by omega)) vt_X12_draw tw_1197 rfl rfl ⟨by decide, by decide⟩ rfl (Nat.le_of_ble_eq_true rfl) ⟨Nat.zero_le _, Nat.zero_le _⟩ rfl dX12_drift_67 rfl (fun z67 τ67 h67 => ?_)
              obtain ⟨h67a, h67b⟩ := h67
              subst h67a
              subst h67b
              refine g_istore (pc' := 72) B [(4, .int (iI (sdn (sdn (Q9 5 4)) / 65536 % 3))), (3, .int (iI 0)), (2, .int (iI i)), (0, .ref (K.2.2 57)), (1, .int (iI n))] dX12_drift_70 rfl (by decide) rfl ?_
              refine g_aload_n (pc' := 73) B 3 rfl rfl dX12_drift_72 rfl ?_
              refine g_aload_n (pc' := 74) B 3 rfl rfl dX12_drift_73 rfl ?_
              refine g_aload_n (pc' := 75) B 3 rfl rfl dX12_drift_74 rfl ?_
              refine g_getR (pc' := 78) B 58 fl_X12_7 rfl rfl dX12_drift_75 rfl ?_
              refine g_iconst (pc' := 79) B dX12_drift_78 rfl ?_
              refine g_iald (pc' := 80) B (Q9 5 2) (by have q9 := hn47.2.2.1; simpa [up] using q9) rfl (by omega) (by decide) dX12_drift_79 rfl ?_
              refine g_iload (pc' := 82) B 0 rfl dX12_drift_80 rfl ?_
              refine g_aload_n (pc' := 83) B 3 rfl rfl dX12_drift_82 rfl ?_
              refine g_getR (pc' := 86) B 58 fl_X12_7 rfl rfl dX12_drift_83 rfl ?_
              refine g_iconst (pc' := 87) B dX12_drift_86 rfl ?_
              refine g_iald (pc' := 88) B (Q9 5 0) (by have q9 := hn47.1; simpa [up] using q9) rfl (by omega) (by decide) dX12_drift_87 rfl ?_
              refine g_iconst (pc' := 89) B dX12_drift_88 rfl ?_
              refine g_iadd (pc' := 90) B dX12_drift_89 rfl ?_
              refine g_callVI (pc' := 93) (As := [.int (iI (Q9 5 2)), .int (iI (sdn (sdn (Q9 5 4)) / 65536 % 3)), .int (iI ((Q9 5 0) + 1))]) B (c_X12_to l K _ (D := D) (f := Q9 5 2) (w := sdn (sdn (Q9 5 4)) / 65536 % 3) (t := (Q9 5 0) + 1) (hM47.keep (by simp [up]) (by simp [up]) (by simp [up]) (by simp [up]) (fun k a c => by rw [up_row (by omega), up_row (by omega)])) hF hR hO hH (by omega) (by omega) (by omega)) vt_X12_to tw_1175 rfl rfl ⟨by decide, by decide⟩ rfl (Nat.le_of_ble_eq_true rfl) ⟨Nat.zero_le _, Nat.zero_le _⟩ rfl dX12_drift_90 rfl (fun z90 τ90 h90 => ?_)
              obtain ⟨rfl, rfl⟩ := h90
              have htb := tow_bd (D := D) (f := Q9 5 2) (t := Q9 5 0 + 1) (w := sdn (sdn (Q9 5 4)) / 65536 % 3)
              refine g_if_ge (pc' := 96) B 100 (by omega) dX12_drift_93 (by decide) rfl (fun c93 => ?_) (fun c93 => ?_)
              · refine g_iload (pc' := 102) B 0 rfl dX12_drift_100 rfl ?_
                refine g_iload_n (pc' := 103) B 1 rfl rfl dX12_drift_102 rfl ?_
                refine g_callVI (pc' := 106) (As := [.int (iI (sdn (sdn (Q9 5 4)) / 65536 % 3)), .int (iI 0)]) B (c_X12_rollOn l K _ (D := D) (S := Q9 5 0) (X := Q9 5 1) (L := Q9 5 2) (P := Q9 5 3) (w := sdn (sdn (Q9 5 4)) / 65536 % 3) (e := 0) (hM47.keep (by simp [up]) (by simp [up]) (by simp [up]) (by simp [up]) (fun k a c => by rw [up_row (by omega), up_row (by omega)])) hF hR hO hH (by simp [up, hn47]) (by omega) (by omega) (by omega) (by omega) (by first | exact can0 i42 | exact tow_ge (by omega))) vt_X12_rollOn tw_1180 rfl rfl ⟨by decide, by decide⟩ rfl (Nat.le_of_ble_eq_true rfl) ⟨Nat.zero_le _, Nat.zero_le _⟩ rfl dX12_drift_103 rfl (fun z103 τ103 h103 => ?_)
                obtain ⟨h103a, h103b⟩ := h103
                refine g_istore (pc' := 108) B [(5, .int (iI z103)), (4, .int (iI (sdn (sdn (Q9 5 4)) / 65536 % 3))), (3, .int (iI 0)), (2, .int (iI i)), (0, .ref (K.2.2 57)), (1, .int (iI n))] dX12_drift_106 rfl (by decide) rfl ?_
                refine g_iinc (pc' := 111) B 3 [(2, .int (iI (i + 1))), (5, .int (iI z103)), (4, .int (iI (sdn (sdn (Q9 5 4)) / 65536 % 3))), (3, .int (iI 0)), (0, .ref (K.2.2 57)), (1, .int (iI n))] dX12_drift_108 rfl rfl (by decide) rfl ?_
                refine g_goto (pc' := 41) B dX12_drift_111 (by decide) ?_
                refine g_loc B [(2, .int (iI (i + 1))), (0, .ref (K.2.2 57)), (1, .int (iI n))] [0, 4, 5] rfl ?_
                exact ih41 _ (by omega) τ103 (i + 1) (dfN D Q9) rfl (by omega) (by rw [i2]; exact dfI_next D Q (by omega)) (by rw [h103a]; exact mdV_next (h47a.keep (by simp [up]) (by funext j; simp [up])) (up_same _ _ _ _) (by simp [dfh, c56]) (by first | exact cif_pos (tow_ge (by omega)) | exact cif_neg (tow_lt (by omega)))) (by exact dB_next i4) (by show Q9 5 0 + 1 = _; omega) (by intro k a b c; rw [h103a, up_row b, up_row b, up_row b, up_row b, up_row b, up_row b, h47c k a c]; exact i6 k a b c) (by intro j a; rw [h103a, up_row (by decide), up_row (by decide), up_row (by decide), up_row (by decide), up_row (by decide), up_row (by decide), h47b j a]; exact i7 j a) (by intro j a b; rw [h103a, up_col (by omega), up_col (by omega), up_col (by omega), up_col (by omega), up_col (by omega), up_col (by omega), h47c 58 (by decide) (by decide)]; exact i8 j a b)
              · refine g_iconst (pc' := 97) B dX12_drift_96 rfl ?_
                refine g_goto (pc' := 102) B dX12_drift_97 (by decide) ?_
                refine g_iload_n (pc' := 103) B 1 rfl rfl dX12_drift_102 rfl ?_
                refine g_callVI (pc' := 106) (As := [.int (iI 0), .int (iI 0)]) B (c_X12_rollOn l K _ (D := D) (S := Q9 5 0) (X := Q9 5 1) (L := Q9 5 2) (P := Q9 5 3) (w := 0) (e := 0) (hM47.keep (by simp [up]) (by simp [up]) (by simp [up]) (by simp [up]) (fun k a c => by rw [up_row (by omega), up_row (by omega)])) hF hR hO hH (by simp [up, hn47]) (by omega) (by omega) (by omega) (by omega) (by first | exact can0 i42 | exact tow_ge (by omega))) vt_X12_rollOn tw_1180 rfl rfl ⟨by decide, by decide⟩ rfl (Nat.le_of_ble_eq_true rfl) ⟨Nat.zero_le _, Nat.zero_le _⟩ rfl dX12_drift_103 rfl (fun z103 τ103 h103 => ?_)
                obtain ⟨h103a, h103b⟩ := h103
                refine g_istore (pc' := 108) B [(5, .int (iI z103)), (4, .int (iI (sdn (sdn (Q9 5 4)) / 65536 % 3))), (3, .int (iI 0)), (2, .int (iI i)), (0, .ref (K.2.2 57)), (1, .int (iI n))] dX12_drift_106 rfl (by decide) rfl ?_
                refine g_iinc (pc' := 111) B 3 [(2, .int (iI (i + 1))), (5, .int (iI z103)), (4, .int (iI (sdn (sdn (Q9 5 4)) / 65536 % 3))), (3, .int (iI 0)), (0, .ref (K.2.2 57)), (1, .int (iI n))] dX12_drift_108 rfl rfl (by decide) rfl ?_
                refine g_goto (pc' := 41) B dX12_drift_111 (by decide) ?_
                refine g_loc B [(2, .int (iI (i + 1))), (0, .ref (K.2.2 57)), (1, .int (iI n))] [0, 4, 5] rfl ?_
                exact ih41 _ (by omega) τ103 (i + 1) (dfN D Q9) rfl (by omega) (by rw [i2]; exact dfI_next D Q (by omega)) (by rw [h103a]; exact mdV_next (h47a.keep (by simp [up]) (by funext j; simp [up])) (up_same _ _ _ _) (by simp [dfh, c56]) (by first | exact cif_pos (tow_ge (by omega)) | exact cif_neg (tow_lt (by omega)))) (by exact dB_next i4) (by show Q9 5 0 + 1 = _; omega) (by intro k a b c; rw [h103a, up_row b, up_row b, up_row b, up_row b, up_row b, up_row b, h47c k a c]; exact i6 k a b c) (by intro j a; rw [h103a, up_row (by decide), up_row (by decide), up_row (by decide), up_row (by decide), up_row (by decide), up_row (by decide), h47b j a]; exact i7 j a) (by intro j a b; rw [h103a, up_col (by omega), up_col (by omega), up_col (by omega), up_col (by omega), up_col (by omega), up_col (by omega), h47c 58 (by decide) (by decide)]; exact i8 j a b)
      exact L41 _ σ 0 Q rfl (by omega) (by rfl) (by exact hV) (by exact ⟨by omega, hLr (by omega), hvr⟩) (by simp) (by intro k a b c; rfl) (by intro j a; rfl) (by intro j a b; rfl)
    · refine g_ldc (z := (-1000000003)) (pc' := 24) B tw_1179 (by decide +kernel) dX12_drift_22 rfl ?_
      exact g_iret (z := (-1000000003)) B hrt rfl hlk dX12_drift_24 (Or.inr (Or.inl ⟨by omega, by omega, rfl, rfl⟩))
  · refine g_if_ne (pc' := 12) B 15 (by omega) dX12_drift_9 (by decide) rfl (fun q => absurd q (by decide)) (fun _ => ?_)
    refine g_ldc (z := (-1000000002)) (pc' := 14) B tw_1044 (by decide +kernel) dX12_drift_12 rfl ?_
    exact g_iret (z := (-1000000002)) B hrt rfl hlk dX12_drift_14 (Or.inl ⟨by omega, rfl, rfl⟩)
