set_option maxRecDepth 100000 in
set_option maxHeartbeats 4000000 in
theorem c_X12_to (l : Launch) (K : WK) (σ : SG) {D : SG} (hM : mD σ D) (hF : okF D) (hR : okR D) (hO : okQ D) (hH : okH D) {f w t : Int} (hf : 0 ≤ f ∧ f < D 9 0) (hw : 0 ≤ w ∧ w ≤ 2) (ht : 0 ≤ t ∧ t ≤ 100000000) : MI l yX12_to cX12_to 8 (some .int) 2 46 K σ [.ref (K.2.2 57), .int (iI f), .int (iI w), .int (iI t)] (fun z τ => σ = τ ∧ z = tow D f t w) := by
  refine met_of [(0, .ref (K.2.2 57)), (1, .int (iI f)), (2, .int (iI w)), (3, .int (iI t))] (by decide +kernel) (Nat.le_of_ble_eq_true rfl) rfl ?_
  intro pP eE sS mM bW mT cC B hrt hlk
  replace B : CB pP sS mM [.ref (K.2.2 57), .int (iI f), .int (iI w), .int (iI t)].toArray cC cX12_to RX12 8 K := B
  obtain ⟨hF0, hF1⟩ := id hF
  obtain ⟨hO0, hO1⟩ := id hO
  obtain ⟨hH0, hH1⟩ := id hH
  obtain ⟨hR0, hR1⟩ := id hR
  have hbb0 := bes_bd f w
  refine g_iload_n (pc' := 1) B 2 rfl rfl dX12_to_0 rfl ?_
  refine g_if_ne (pc' := 4) B 8 (by omega) dX12_to_1 (by decide) rfl (fun c1 => ?_) (fun c1 => ?_)
  · refine g_iload_n (pc' := 9) B 2 rfl rfl dX12_to_8 rfl ?_
    refine g_iconst (pc' := 10) B dX12_to_9 rfl ?_
    refine g_icmp_ne (pc' := 13) B 19 (by omega) (by omega) dX12_to_10 (by decide) rfl (fun c10 => ?_) (fun c10 => ?_)
    · refine g_iload_n (pc' := 20) B 1 rfl rfl dX12_to_19 rfl ?_
      refine g_iconst (pc' := 21) B dX12_to_20 rfl ?_
      refine g_iadd (pc' := 22) B dX12_to_21 rfl ?_
      refine g_istore (pc' := 24) B [(4, .int (iI (f + 1))), (0, .ref (K.2.2 57)), (1, .int (iI f)), (2, .int (iI w)), (3, .int (iI t))] dX12_to_22 rfl (by decide) rfl ?_
      refine g_aload_n (pc' := 25) B 1 rfl rfl dX12_to_24 rfl ?_
      refine g_iload (pc' := 27) B 0 rfl dX12_to_25 rfl ?_
      refine g_callVI (pc' := 30) (As := [.int (iI (f + 1))]) B (c_X12_isField l K _ (D := D) (f := f + 1) hM hF hR hO hH (by omega)) vt_X12_isField tw_1129 rfl rfl ⟨by decide, by decide⟩ rfl (Nat.le_of_ble_eq_true rfl) ⟨Nat.zero_le _, Nat.zero_le _⟩ rfl dX12_to_27 rfl (fun z27 τ27 h27 => ?_)
      obtain ⟨rfl, h27⟩ := h27
      rcases h27 with ⟨h27, rfl⟩ | ⟨h27, rfl⟩
      · refine g_istore (pc' := 32) B [(5, .int (iI 1)), (4, .int (iI (f + 1))), (0, .ref (K.2.2 57)), (1, .int (iI f)), (2, .int (iI w)), (3, .int (iI t))] dX12_to_30 rfl (by decide) rfl ?_
        refine g_iload (pc' := 34) B 1 rfl dX12_to_32 rfl ?_
        refine g_iload_n (pc' := 35) B 3 rfl rfl dX12_to_34 rfl ?_
        refine g_icmp_ge (pc' := 38) B 43 (by omega) (by omega) dX12_to_35 (by decide) rfl (fun c35 => ?_) (fun c35 => ?_)
        · refine g_iload_n (pc' := 44) B 3 rfl rfl dX12_to_43 rfl ?_
          refine g_istore (pc' := 46) B [(6, .int (iI f)), (5, .int (iI 1)), (4, .int (iI (f + 1))), (0, .ref (K.2.2 57)), (1, .int (iI f)), (2, .int (iI w)), (3, .int (iI t))] dX12_to_44 rfl (by decide) rfl ?_
          refine g_iconst (pc' := 47) B dX12_to_46 rfl ?_
          refine g_istore (pc' := 49) B [(7, .int (iI 0)), (6, .int (iI f)), (5, .int (iI 1)), (4, .int (iI (f + 1))), (0, .ref (K.2.2 57)), (1, .int (iI f)), (2, .int (iI w)), (3, .int (iI t))] dX12_to_47 rfl (by decide) rfl ?_
          have L49 : ∀ (nn : Nat) (d c e s : Int) , (D 9 2 - s).toNat = nn → (0 ≤ s ∧ s ≤ D 9 2) → (d = bes f w) → (e = min f (bes f w)) → (c = 0 ∨ c = 1) → (c = 0 → ¬ can D f t w) → (c = 1 → (0 ≤ bes f w ∧ bes f w < D 9 0) ∧ ∀ y : Int, 0 ≤ y → y < s → bes f w ≠ f → D 5 y = min f (bes f w) → opn D y t) → G pP l eE (rmo 2 46) sS mM [.ref (K.2.2 57), .int (iI f), .int (iI w), .int (iI t)].toArray bW mT cC 0 0 (MQ bW (Qi K (fun z τ => σ = τ ∧ z = tow D f t w)) [.ref (K.2.2 57), .int (iI f), .int (iI w), .int (iI t)].toArray sS 0 0 (wA K)) K sS.heap 8 σ 49 [(7, .int (iI s)), (6, .int (iI e)), (5, .int (iI c)), (4, .int (iI d)), (0, .ref (K.2.2 57)), (1, .int (iI f)), (2, .int (iI w)), (3, .int (iI t))] [] := by
            intro nn
            induction nn using Nat.strongRecOn with
            | _ nn ih49 =>
              intro d c e s hn49 i1 i0 i6 i7 i4 i5
              have hbb := bes_bd f w
              refine g_iload (pc' := 51) B 0 rfl dX12_to_49 rfl ?_
              refine g_aload_n (pc' := 52) B 4 rfl rfl dX12_to_51 rfl ?_
              refine g_get (pc' := 55) B (D 9 2) hM.2.2.1 fl_X12_137 rfl rfl dX12_to_52 rfl ?_
              refine g_icmp_ge (pc' := 58) B 106 (by omega) (by omega) dX12_to_55 (by decide) rfl (fun c55 => ?_) (fun c55 => ?_)
              · refine g_iload (pc' := 108) B 2 rfl dX12_to_106 rfl ?_
                refine g_if_eq (pc' := 111) B 116 (by omega) dX12_to_108 (by decide) rfl (fun c108 => ?_) (fun c108 => ?_)
                · refine g_iconst (pc' := 117) B dX12_to_116 rfl ?_
                  exact g_iret (z := (-1)) B hrt rfl hlk dX12_to_117 ⟨rfl, (tow_neg (i4 (by omega))).symm⟩
                · refine g_iload (pc' := 113) B 3 rfl dX12_to_111 rfl ?_
                  refine g_goto (pc' := 117) B dX12_to_113 (by decide) ?_
                  exact g_iret (z := d) B hrt rfl hlk dX12_to_117 ⟨rfl, by first | (exfalso; omega) | (have q9 := i5 (by omega); rw [i0, tow_pos (show can D f t w from ⟨hf, q9.1, by first | exact Or.inl (by omega) | (by_cases q8 : bes f w = f; exact Or.inl q8; exact Or.inr (fun y a b e9 => q9.2 y a (by omega) q8 e9))⟩)])⟩
              · refine g_iload (pc' := 60) B 2 rfl dX12_to_58 rfl ?_
                refine g_if_eq (pc' := 63) B 106 (by omega) dX12_to_60 (by decide) rfl (fun c60 => ?_) (fun c60 => ?_)
                · refine g_iload (pc' := 108) B 2 rfl dX12_to_106 rfl ?_
                  refine g_if_eq (pc' := 111) B 116 (by omega) dX12_to_108 (by decide) rfl (fun c108 => ?_) (fun c108 => ?_)
                  · refine g_iconst (pc' := 117) B dX12_to_116 rfl ?_
                    exact g_iret (z := (-1)) B hrt rfl hlk dX12_to_117 ⟨rfl, (tow_neg (i4 (by omega))).symm⟩
                  · refine g_iload (pc' := 113) B 3 rfl dX12_to_111 rfl ?_
                    refine g_goto (pc' := 117) B dX12_to_113 (by decide) ?_
                    exact g_iret (z := d) B hrt rfl hlk dX12_to_117 ⟨rfl, by first | (exfalso; omega) | (have q9 := i5 (by omega); rw [i0, tow_pos (show can D f t w from ⟨hf, q9.1, by first | exact Or.inl (by omega) | (by_cases q8 : bes f w = f; exact Or.inl q8; exact Or.inr (fun y a b e9 => q9.2 y a (by omega) q8 e9))⟩)])⟩
                · refine g_iload (pc' := 65) B 3 rfl dX12_to_63 rfl ?_
                  refine g_iload_n (pc' := 66) B 5 rfl rfl dX12_to_65 rfl ?_
                  refine g_icmp_eq (pc' := 69) B 106 (by omega) (by omega) dX12_to_66 (by decide) rfl (fun c66 => ?_) (fun c66 => ?_)
                  · refine g_iload (pc' := 108) B 2 rfl dX12_to_106 rfl ?_
                    refine g_if_eq (pc' := 111) B 116 (by omega) dX12_to_108 (by decide) rfl (fun c108 => ?_) (fun c108 => ?_)
                    · refine g_iconst (pc' := 117) B dX12_to_116 rfl ?_
                      exact g_iret (z := (-1)) B hrt rfl hlk dX12_to_117 ⟨rfl, (tow_neg (i4 (by omega))).symm⟩
                    · refine g_iload (pc' := 113) B 3 rfl dX12_to_111 rfl ?_
                      refine g_goto (pc' := 117) B dX12_to_113 (by decide) ?_
                      exact g_iret (z := d) B hrt rfl hlk dX12_to_117 ⟨rfl, by first | (exfalso; omega) | (have q9 := i5 (by omega); rw [i0, tow_pos (show can D f t w from ⟨hf, q9.1, by first | exact Or.inl (by omega) | (by_cases q8 : bes f w = f; exact Or.inl q8; exact Or.inr (fun y a b e9 => q9.2 y a (by omega) q8 e9))⟩)])⟩
                  · refine g_aload_n (pc' := 70) B 4 rfl rfl dX12_to_69 rfl ?_
                    refine g_getR (pc' := 73) B 62 fl_X12_23 rfl rfl dX12_to_70 rfl ?_
                    refine g_iconst (pc' := 74) B dX12_to_73 rfl ?_
                    refine g_iload (pc' := 76) B 0 rfl dX12_to_74 rfl ?_
                    refine g_imul (pc' := 77) B dX12_to_76 rfl ?_
                    refine g_iald (pc' := 78) B (D 5 s) (hM.2.2.2.2.2.2 s (by omega) (by omega)).1 rfl (by omega) (by decide) dX12_to_77 rfl ?_
                    refine g_iload (pc' := 80) B 1 rfl dX12_to_78 rfl ?_
                    have hs9 := hO1 s (by omega) (by omega)
                    refine g_icmp_ne (pc' := 83) B 93 (by omega) (by omega) dX12_to_80 (by decide) rfl (fun c80 => ?_) (fun c80 => ?_)
                    · refine g_iconst (pc' := 94) B dX12_to_93 rfl ?_
                      refine g_goto (pc' := 98) B dX12_to_94 (by decide) ?_
                      refine g_istore (pc' := 100) B [(5, .int (iI 1)), (7, .int (iI s)), (6, .int (iI e)), (4, .int (iI d)), (0, .ref (K.2.2 57)), (1, .int (iI f)), (2, .int (iI w)), (3, .int (iI t))] dX12_to_98 rfl (by decide) rfl ?_
                      refine g_iinc (pc' := 103) B 1 [(7, .int (iI (s + 1))), (5, .int (iI 1)), (6, .int (iI e)), (4, .int (iI d)), (0, .ref (K.2.2 57)), (1, .int (iI f)), (2, .int (iI w)), (3, .int (iI t))] dX12_to_100 rfl rfl (by decide) rfl ?_
                      refine g_goto (pc' := 49) B dX12_to_103 (by decide) ?_
                      refine g_loc B [(7, .int (iI (s + 1))), (6, .int (iI e)), (5, .int (iI 1)), (4, .int (iI d)), (0, .ref (K.2.2 57)), (1, .int (iI f)), (2, .int (iI w)), (3, .int (iI t))] [0, 2, 1, 3, 4, 5, 6, 7] rfl ?_
                      exact ih49 _ (by omega) d 1 e (s + 1) rfl (by omega) (by exact i0) (by exact i6) (by omega) (by intro q9 q8; first | (exfalso; omega) | (rcases q8.2.2 with q7 | q7; omega; exact h87 (q7 s (by omega) (by omega) (by omega)))) (by intro q9; first | (exfalso; omega) | exact ⟨(i5 (by omega)).1, fun y a b q8 q7 => by by_cases e9 : y = s; (subst e9; first | (exfalso; omega) | exact h87); exact (i5 (by omega)).2 y a (by omega) q8 q7⟩)
                    · refine g_aload_n (pc' := 84) B 4 rfl rfl dX12_to_83 rfl ?_
                      refine g_iload (pc' := 86) B 0 rfl dX12_to_84 rfl ?_
                      refine g_iload_n (pc' := 87) B 7 rfl rfl dX12_to_86 rfl ?_
                      refine g_callVI (pc' := 90) (As := [.int (iI s), .int (iI t)]) B (c_X12_isSeamOpen l K _ (D := D) (s := s) (t := t) hM hF hR hO hH (by omega) (by omega)) vt_X12_isSeamOpen tw_1096 rfl rfl ⟨by decide, by decide⟩ rfl (Nat.le_of_ble_eq_true rfl) ⟨Nat.zero_le _, Nat.zero_le _⟩ rfl dX12_to_87 rfl (fun z87 τ87 h87 => ?_)
                      obtain ⟨rfl, h87⟩ := h87
                      rcases h87 with ⟨h87, rfl⟩ | ⟨h87, rfl⟩
                      · refine g_if_eq (pc' := 93) B 97 (by omega) dX12_to_90 (by decide) rfl (fun q => absurd q (by decide)) (fun _ => ?_)
                        refine g_iconst (pc' := 94) B dX12_to_93 rfl ?_
                        refine g_goto (pc' := 98) B dX12_to_94 (by decide) ?_
                        refine g_istore (pc' := 100) B [(5, .int (iI 1)), (7, .int (iI s)), (6, .int (iI e)), (4, .int (iI d)), (0, .ref (K.2.2 57)), (1, .int (iI f)), (2, .int (iI w)), (3, .int (iI t))] dX12_to_98 rfl (by decide) rfl ?_
                        refine g_iinc (pc' := 103) B 1 [(7, .int (iI (s + 1))), (5, .int (iI 1)), (6, .int (iI e)), (4, .int (iI d)), (0, .ref (K.2.2 57)), (1, .int (iI f)), (2, .int (iI w)), (3, .int (iI t))] dX12_to_100 rfl rfl (by decide) rfl ?_
                        refine g_goto (pc' := 49) B dX12_to_103 (by decide) ?_
                        refine g_loc B [(7, .int (iI (s + 1))), (6, .int (iI e)), (5, .int (iI 1)), (4, .int (iI d)), (0, .ref (K.2.2 57)), (1, .int (iI f)), (2, .int (iI w)), (3, .int (iI t))] [0, 2, 1, 3, 4, 5, 6, 7] rfl ?_
                        exact ih49 _ (by omega) d 1 e (s + 1) rfl (by omega) (by exact i0) (by exact i6) (by omega) (by intro q9 q8; first | (exfalso; omega) | (rcases q8.2.2 with q7 | q7; omega; exact h87 (q7 s (by omega) (by omega) (by omega)))) (by intro q9; first | (exfalso; omega) | exact ⟨(i5 (by omega)).1, fun y a b q8 q7 => by by_cases e9 : y = s; (subst e9; first | (exfalso; omega) | exact h87); exact (i5 (by omega)).2 y a (by omega) q8 q7⟩)
                      · refine g_if_eq (pc' := 93) B 97 (by omega) dX12_to_90 (by decide) rfl (fun _ => ?_) (fun q => absurd q (by decide))
                        refine g_iconst (pc' := 98) B dX12_to_97 rfl ?_
                        refine g_istore (pc' := 100) B [(5, .int (iI 0)), (7, .int (iI s)), (6, .int (iI e)), (4, .int (iI d)), (0, .ref (K.2.2 57)), (1, .int (iI f)), (2, .int (iI w)), (3, .int (iI t))] dX12_to_98 rfl (by decide) rfl ?_
                        refine g_iinc (pc' := 103) B 1 [(7, .int (iI (s + 1))), (5, .int (iI 0)), (6, .int (iI e)), (4, .int (iI d)), (0, .ref (K.2.2 57)), (1, .int (iI f)), (2, .int (iI w)), (3, .int (iI t))] dX12_to_100 rfl rfl (by decide) rfl ?_
                        refine g_goto (pc' := 49) B dX12_to_103 (by decide) ?_
                        refine g_loc B [(7, .int (iI (s + 1))), (6, .int (iI e)), (5, .int (iI 0)), (4, .int (iI d)), (0, .ref (K.2.2 57)), (1, .int (iI f)), (2, .int (iI w)), (3, .int (iI t))] [0, 2, 1, 3, 4, 5, 6, 7] rfl ?_
                        exact ih49 _ (by omega) d 0 e (s + 1) rfl (by omega) (by exact i0) (by exact i6) (by omega) (by intro q9 q8; first | (exfalso; omega) | (rcases q8.2.2 with q7 | q7; omega; exact h87 (q7 s (by omega) (by omega) (by omega)))) (by intro q9; first | (exfalso; omega) | exact ⟨(i5 (by omega)).1, fun y a b q8 q7 => by by_cases e9 : y = s; (subst e9; first | (exfalso; omega) | exact h87); exact (i5 (by omega)).2 y a (by omega) q8 q7⟩)
          exact L49 _ (f + 1) 1 f 0 rfl (by omega) (by unfold bes; (repeat' split) <;> omega) (by unfold bes; (repeat' split) <;> omega) (by omega) (by intro q9 q8; first | (exfalso; omega) | (have q7 := q8.2.1; revert q7; unfold bes; (repeat' split) <;> omega)) (by intro q9; first | (exfalso; omega) | exact ⟨by unfold bes; (repeat' split) <;> omega, fun y a b => by omega⟩)
        · refine g_iload (pc' := 40) B 1 rfl dX12_to_38 rfl ?_
          refine g_goto (pc' := 44) B dX12_to_40 (by decide) ?_
          refine g_istore (pc' := 46) B [(6, .int (iI (f + 1))), (5, .int (iI 1)), (4, .int (iI (f + 1))), (0, .ref (K.2.2 57)), (1, .int (iI f)), (2, .int (iI w)), (3, .int (iI t))] dX12_to_44 rfl (by decide) rfl ?_
          refine g_iconst (pc' := 47) B dX12_to_46 rfl ?_
          refine g_istore (pc' := 49) B [(7, .int (iI 0)), (6, .int (iI (f + 1))), (5, .int (iI 1)), (4, .int (iI (f + 1))), (0, .ref (K.2.2 57)), (1, .int (iI f)), (2, .int (iI w)), (3, .int (iI t))] dX12_to_47 rfl (by decide) rfl ?_
          have L49 : ∀ (nn : Nat) (d c e s : Int) , (D 9 2 - s).toNat = nn → (0 ≤ s ∧ s ≤ D 9 2) → (d = bes f w) → (e = min f (bes f w)) → (c = 0 ∨ c = 1) → (c = 0 → ¬ can D f t w) → (c = 1 → (0 ≤ bes f w ∧ bes f w < D 9 0) ∧ ∀ y : Int, 0 ≤ y → y < s → bes f w ≠ f → D 5 y = min f (bes f w) → opn D y t) → G pP l eE (rmo 2 46) sS mM [.ref (K.2.2 57), .int (iI f), .int (iI w), .int (iI t)].toArray bW mT cC 0 0 (MQ bW (Qi K (fun z τ => σ = τ ∧ z = tow D f t w)) [.ref (K.2.2 57), .int (iI f), .int (iI w), .int (iI t)].toArray sS 0 0 (wA K)) K sS.heap 8 σ 49 [(7, .int (iI s)), (6, .int (iI e)), (5, .int (iI c)), (4, .int (iI d)), (0, .ref (K.2.2 57)), (1, .int (iI f)), (2, .int (iI w)), (3, .int (iI t))] [] := by
            intro nn
            induction nn using Nat.strongRecOn with
            | _ nn ih49 =>
              intro d c e s hn49 i1 i0 i6 i7 i4 i5
              have hbb := bes_bd f w
              refine g_iload (pc' := 51) B 0 rfl dX12_to_49 rfl ?_
              refine g_aload_n (pc' := 52) B 4 rfl rfl dX12_to_51 rfl ?_
              refine g_get (pc' := 55) B (D 9 2) hM.2.2.1 fl_X12_137 rfl rfl dX12_to_52 rfl ?_
              refine g_icmp_ge (pc' := 58) B 106 (by omega) (by omega) dX12_to_55 (by decide) rfl (fun c55 => ?_) (fun c55 => ?_)
              · refine g_iload (pc' := 108) B 2 rfl dX12_to_106 rfl ?_
                refine g_if_eq (pc' := 111) B 116 (by omega) dX12_to_108 (by decide) rfl (fun c108 => ?_) (fun c108 => ?_)
                · refine g_iconst (pc' := 117) B dX12_to_116 rfl ?_
                  exact g_iret (z := (-1)) B hrt rfl hlk dX12_to_117 ⟨rfl, (tow_neg (i4 (by omega))).symm⟩
                · refine g_iload (pc' := 113) B 3 rfl dX12_to_111 rfl ?_
                  refine g_goto (pc' := 117) B dX12_to_113 (by decide) ?_
                  exact g_iret (z := d) B hrt rfl hlk dX12_to_117 ⟨rfl, by first | (exfalso; omega) | (have q9 := i5 (by omega); rw [i0, tow_pos (show can D f t w from ⟨hf, q9.1, by first | exact Or.inl (by omega) | (by_cases q8 : bes f w = f; exact Or.inl q8; exact Or.inr (fun y a b e9 => q9.2 y a (by omega) q8 e9))⟩)])⟩
              · refine g_iload (pc' := 60) B 2 rfl dX12_to_58 rfl ?_
                refine g_if_eq (pc' := 63) B 106 (by omega) dX12_to_60 (by decide) rfl (fun c60 => ?_) (fun c60 => ?_)
                · refine g_iload (pc' := 108) B 2 rfl dX12_to_106 rfl ?_
                  refine g_if_eq (pc' := 111) B 116 (by omega) dX12_to_108 (by decide) rfl (fun c108 => ?_) (fun c108 => ?_)
                  · refine g_iconst (pc' := 117) B dX12_to_116 rfl ?_
                    exact g_iret (z := (-1)) B hrt rfl hlk dX12_to_117 ⟨rfl, (tow_neg (i4 (by omega))).symm⟩
                  · refine g_iload (pc' := 113) B 3 rfl dX12_to_111 rfl ?_
                    refine g_goto (pc' := 117) B dX12_to_113 (by decide) ?_
                    exact g_iret (z := d) B hrt rfl hlk dX12_to_117 ⟨rfl, by first | (exfalso; omega) | (have q9 := i5 (by omega); rw [i0, tow_pos (show can D f t w from ⟨hf, q9.1, by first | exact Or.inl (by omega) | (by_cases q8 : bes f w = f; exact Or.inl q8; exact Or.inr (fun y a b e9 => q9.2 y a (by omega) q8 e9))⟩)])⟩
                · refine g_iload (pc' := 65) B 3 rfl dX12_to_63 rfl ?_
                  refine g_iload_n (pc' := 66) B 5 rfl rfl dX12_to_65 rfl ?_
                  refine g_icmp_eq (pc' := 69) B 106 (by omega) (by omega) dX12_to_66 (by decide) rfl (fun c66 => ?_) (fun c66 => ?_)
                  · refine g_iload (pc' := 108) B 2 rfl dX12_to_106 rfl ?_
                    refine g_if_eq (pc' := 111) B 116 (by omega) dX12_to_108 (by decide) rfl (fun c108 => ?_) (fun c108 => ?_)
                    · refine g_iconst (pc' := 117) B dX12_to_116 rfl ?_
                      exact g_iret (z := (-1)) B hrt rfl hlk dX12_to_117 ⟨rfl, (tow_neg (i4 (by omega))).symm⟩
                    · refine g_iload (pc' := 113) B 3 rfl dX12_to_111 rfl ?_
                      refine g_goto (pc' := 117) B dX12_to_113 (by decide) ?_
                      exact g_iret (z := d) B hrt rfl hlk dX12_to_117 ⟨rfl, by first | (exfalso; omega) | (have q9 := i5 (by omega); rw [i0, tow_pos (show can D f t w from ⟨hf, q9.1, by first | exact Or.inl (by omega) | (by_cases q8 : bes f w = f; exact Or.inl q8; exact Or.inr (fun y a b e9 => q9.2 y a (by omega) q8 e9))⟩)])⟩
                  · refine g_aload_n (pc' := 70) B 4 rfl rfl dX12_to_69 rfl ?_
                    refine g_getR (pc' := 73) B 62 fl_X12_23 rfl rfl dX12_to_70 rfl ?_
                    refine g_iconst (pc' := 74) B dX12_to_73 rfl ?_
                    refine g_iload (pc' := 76) B 0 rfl dX12_to_74 rfl ?_
                    refine g_imul (pc' := 77) B dX12_to_76 rfl ?_
                    refine g_iald (pc' := 78) B (D 5 s) (hM.2.2.2.2.2.2 s (by omega) (by omega)).1 rfl (by omega) (by decide) dX12_to_77 rfl ?_
                    refine g_iload (pc' := 80) B 1 rfl dX12_to_78 rfl ?_
                    have hs9 := hO1 s (by omega) (by omega)
                    refine g_icmp_ne (pc' := 83) B 93 (by omega) (by omega) dX12_to_80 (by decide) rfl (fun c80 => ?_) (fun c80 => ?_)
                    · refine g_iconst (pc' := 94) B dX12_to_93 rfl ?_
                      refine g_goto (pc' := 98) B dX12_to_94 (by decide) ?_
                      refine g_istore (pc' := 100) B [(5, .int (iI 1)), (7, .int (iI s)), (6, .int (iI e)), (4, .int (iI d)), (0, .ref (K.2.2 57)), (1, .int (iI f)), (2, .int (iI w)), (3, .int (iI t))] dX12_to_98 rfl (by decide) rfl ?_
                      refine g_iinc (pc' := 103) B 1 [(7, .int (iI (s + 1))), (5, .int (iI 1)), (6, .int (iI e)), (4, .int (iI d)), (0, .ref (K.2.2 57)), (1, .int (iI f)), (2, .int (iI w)), (3, .int (iI t))] dX12_to_100 rfl rfl (by decide) rfl ?_
                      refine g_goto (pc' := 49) B dX12_to_103 (by decide) ?_
                      refine g_loc B [(7, .int (iI (s + 1))), (6, .int (iI e)), (5, .int (iI 1)), (4, .int (iI d)), (0, .ref (K.2.2 57)), (1, .int (iI f)), (2, .int (iI w)), (3, .int (iI t))] [0, 2, 1, 3, 4, 5, 6, 7] rfl ?_
                      exact ih49 _ (by omega) d 1 e (s + 1) rfl (by omega) (by exact i0) (by exact i6) (by omega) (by intro q9 q8; first | (exfalso; omega) | (rcases q8.2.2 with q7 | q7; omega; exact h87 (q7 s (by omega) (by omega) (by omega)))) (by intro q9; first | (exfalso; omega) | exact ⟨(i5 (by omega)).1, fun y a b q8 q7 => by by_cases e9 : y = s; (subst e9; first | (exfalso; omega) | exact h87); exact (i5 (by omega)).2 y a (by omega) q8 q7⟩)
                    · refine g_aload_n (pc' := 84) B 4 rfl rfl dX12_to_83 rfl ?_
                      refine g_iload (pc' := 86) B 0 rfl dX12_to_84 rfl ?_
                      refine g_iload_n (pc' := 87) B 7 rfl rfl dX12_to_86 rfl ?_
                      refine g_callVI (pc' := 90) (As := [.int (iI s), .int (iI t)]) B (c_X12_isSeamOpen l K _ (D := D) (s := s) (t := t) hM hF hR hO hH (by omega) (by omega)) vt_X12_isSeamOpen tw_1096 rfl rfl ⟨by decide, by decide⟩ rfl (Nat.le_of_ble_eq_true rfl) ⟨Nat.zero_le _, Nat.zero_le _⟩ rfl dX12_to_87 rfl (fun z87 τ87 h87 => ?_)
                      obtain ⟨rfl, h87⟩ := h87
                      rcases h87 with ⟨h87, rfl⟩ | ⟨h87, rfl⟩
                      · refine g_if_eq (pc' := 93) B 97 (by omega) dX12_to_90 (by decide) rfl (fun q => absurd q (by decide)) (fun _ => ?_)
                        refine g_iconst (pc' := 94) B dX12_to_93 rfl ?_
                        refine g_goto (pc' := 98) B dX12_to_94 (by decide) ?_
                        refine g_istore (pc' := 100) B [(5, .int (iI 1)), (7, .int (iI s)), (6, .int (iI e)), (4, .int (iI d)), (0, .ref (K.2.2 57)), (1, .int (iI f)), (2, .int (iI w)), (3, .int (iI t))] dX12_to_98 rfl (by decide) rfl ?_
                        refine g_iinc (pc' := 103) B 1 [(7, .int (iI (s + 1))), (5, .int (iI 1)), (6, .int (iI e)), (4, .int (iI d)), (0, .ref (K.2.2 57)), (1, .int (iI f)), (2, .int (iI w)), (3, .int (iI t))] dX12_to_100 rfl rfl (by decide) rfl ?_
                        refine g_goto (pc' := 49) B dX12_to_103 (by decide) ?_
                        refine g_loc B [(7, .int (iI (s + 1))), (6, .int (iI e)), (5, .int (iI 1)), (4, .int (iI d)), (0, .ref (K.2.2 57)), (1, .int (iI f)), (2, .int (iI w)), (3, .int (iI t))] [0, 2, 1, 3, 4, 5, 6, 7] rfl ?_
                        exact ih49 _ (by omega) d 1 e (s + 1) rfl (by omega) (by exact i0) (by exact i6) (by omega) (by intro q9 q8; first | (exfalso; omega) | (rcases q8.2.2 with q7 | q7; omega; exact h87 (q7 s (by omega) (by omega) (by omega)))) (by intro q9; first | (exfalso; omega) | exact ⟨(i5 (by omega)).1, fun y a b q8 q7 => by by_cases e9 : y = s; (subst e9; first | (exfalso; omega) | exact h87); exact (i5 (by omega)).2 y a (by omega) q8 q7⟩)
                      · refine g_if_eq (pc' := 93) B 97 (by omega) dX12_to_90 (by decide) rfl (fun _ => ?_) (fun q => absurd q (by decide))
                        refine g_iconst (pc' := 98) B dX12_to_97 rfl ?_
                        refine g_istore (pc' := 100) B [(5, .int (iI 0)), (7, .int (iI s)), (6, .int (iI e)), (4, .int (iI d)), (0, .ref (K.2.2 57)), (1, .int (iI f)), (2, .int (iI w)), (3, .int (iI t))] dX12_to_98 rfl (by decide) rfl ?_
                        refine g_iinc (pc' := 103) B 1 [(7, .int (iI (s + 1))), (5, .int (iI 0)), (6, .int (iI e)), (4, .int (iI d)), (0, .ref (K.2.2 57)), (1, .int (iI f)), (2, .int (iI w)), (3, .int (iI t))] dX12_to_100 rfl rfl (by decide) rfl ?_
                        refine g_goto (pc' := 49) B dX12_to_103 (by decide) ?_
                        refine g_loc B [(7, .int (iI (s + 1))), (6, .int (iI e)), (5, .int (iI 0)), (4, .int (iI d)), (0, .ref (K.2.2 57)), (1, .int (iI f)), (2, .int (iI w)), (3, .int (iI t))] [0, 2, 1, 3, 4, 5, 6, 7] rfl ?_
                        exact ih49 _ (by omega) d 0 e (s + 1) rfl (by omega) (by exact i0) (by exact i6) (by omega) (by intro q9 q8; first | (exfalso; omega) | (rcases q8.2.2 with q7 | q7; omega; exact h87 (q7 s (by omega) (by omega) (by omega)))) (by intro q9; first | (exfalso; omega) | exact ⟨(i5 (by omega)).1, fun y a b q8 q7 => by by_cases e9 : y = s; (subst e9; first | (exfalso; omega) | exact h87); exact (i5 (by omega)).2 y a (by omega) q8 q7⟩)
          exact L49 _ (f + 1) 1 (f + 1) 0 rfl (by omega) (by unfold bes; (repeat' split) <;> omega) (by unfold bes; (repeat' split) <;> omega) (by omega) (by intro q9 q8; first | (exfalso; omega) | (have q7 := q8.2.1; revert q7; unfold bes; (repeat' split) <;> omega)) (by intro q9; first | (exfalso; omega) | exact ⟨by unfold bes; (repeat' split) <;> omega, fun y a b => by omega⟩)
      · refine g_istore (pc' := 32) B [(5, .int (iI 0)), (4, .int (iI (f + 1))), (0, .ref (K.2.2 57)), (1, .int (iI f)), (2, .int (iI w)), (3, .int (iI t))] dX12_to_30 rfl (by decide) rfl ?_
        refine g_iload (pc' := 34) B 1 rfl dX12_to_32 rfl ?_
        refine g_iload_n (pc' := 35) B 3 rfl rfl dX12_to_34 rfl ?_
        refine g_icmp_ge (pc' := 38) B 43 (by omega) (by omega) dX12_to_35 (by decide) rfl (fun c35 => ?_) (fun c35 => ?_)
        · refine g_iload_n (pc' := 44) B 3 rfl rfl dX12_to_43 rfl ?_
          refine g_istore (pc' := 46) B [(6, .int (iI f)), (5, .int (iI 0)), (4, .int (iI (f + 1))), (0, .ref (K.2.2 57)), (1, .int (iI f)), (2, .int (iI w)), (3, .int (iI t))] dX12_to_44 rfl (by decide) rfl ?_
          refine g_iconst (pc' := 47) B dX12_to_46 rfl ?_
          refine g_istore (pc' := 49) B [(7, .int (iI 0)), (6, .int (iI f)), (5, .int (iI 0)), (4, .int (iI (f + 1))), (0, .ref (K.2.2 57)), (1, .int (iI f)), (2, .int (iI w)), (3, .int (iI t))] dX12_to_47 rfl (by decide) rfl ?_
          have L49 : ∀ (nn : Nat) (d c e s : Int) , (D 9 2 - s).toNat = nn → (0 ≤ s ∧ s ≤ D 9 2) → (d = bes f w) → (e = min f (bes f w)) → (c = 0 ∨ c = 1) → (c = 0 → ¬ can D f t w) → (c = 1 → (0 ≤ bes f w ∧ bes f w < D 9 0) ∧ ∀ y : Int, 0 ≤ y → y < s → bes f w ≠ f → D 5 y = min f (bes f w) → opn D y t) → G pP l eE (rmo 2 46) sS mM [.ref (K.2.2 57), .int (iI f), .int (iI w), .int (iI t)].toArray bW mT cC 0 0 (MQ bW (Qi K (fun z τ => σ = τ ∧ z = tow D f t w)) [.ref (K.2.2 57), .int (iI f), .int (iI w), .int (iI t)].toArray sS 0 0 (wA K)) K sS.heap 8 σ 49 [(7, .int (iI s)), (6, .int (iI e)), (5, .int (iI c)), (4, .int (iI d)), (0, .ref (K.2.2 57)), (1, .int (iI f)), (2, .int (iI w)), (3, .int (iI t))] [] := by
            intro nn
            induction nn using Nat.strongRecOn with
            | _ nn ih49 =>
              intro d c e s hn49 i1 i0 i6 i7 i4 i5
              have hbb := bes_bd f w
              refine g_iload (pc' := 51) B 0 rfl dX12_to_49 rfl ?_
              refine g_aload_n (pc' := 52) B 4 rfl rfl dX12_to_51 rfl ?_
              refine g_get (pc' := 55) B (D 9 2) hM.2.2.1 fl_X12_137 rfl rfl dX12_to_52 rfl ?_
              refine g_icmp_ge (pc' := 58) B 106 (by omega) (by omega) dX12_to_55 (by decide) rfl (fun c55 => ?_) (fun c55 => ?_)
              · refine g_iload (pc' := 108) B 2 rfl dX12_to_106 rfl ?_
                refine g_if_eq (pc' := 111) B 116 (by omega) dX12_to_108 (by decide) rfl (fun c108 => ?_) (fun c108 => ?_)
                · refine g_iconst (pc' := 117) B dX12_to_116 rfl ?_
                  exact g_iret (z := (-1)) B hrt rfl hlk dX12_to_117 ⟨rfl, (tow_neg (i4 (by omega))).symm⟩
                · refine g_iload (pc' := 113) B 3 rfl dX12_to_111 rfl ?_
                  refine g_goto (pc' := 117) B dX12_to_113 (by decide) ?_
                  exact g_iret (z := d) B hrt rfl hlk dX12_to_117 ⟨rfl, by first | (exfalso; omega) | (have q9 := i5 (by omega); rw [i0, tow_pos (show can D f t w from ⟨hf, q9.1, by first | exact Or.inl (by omega) | (by_cases q8 : bes f w = f; exact Or.inl q8; exact Or.inr (fun y a b e9 => q9.2 y a (by omega) q8 e9))⟩)])⟩
              · refine g_iload (pc' := 60) B 2 rfl dX12_to_58 rfl ?_
                refine g_if_eq (pc' := 63) B 106 (by omega) dX12_to_60 (by decide) rfl (fun c60 => ?_) (fun c60 => ?_)
                · refine g_iload (pc' := 108) B 2 rfl dX12_to_106 rfl ?_
                  refine g_if_eq (pc' := 111) B 116 (by omega) dX12_to_108 (by decide) rfl (fun c108 => ?_) (fun c108 => ?_)
                  · refine g_iconst (pc' := 117) B dX12_to_116 rfl ?_
                    exact g_iret (z := (-1)) B hrt rfl hlk dX12_to_117 ⟨rfl, (tow_neg (i4 (by omega))).symm⟩
                  · refine g_iload (pc' := 113) B 3 rfl dX12_to_111 rfl ?_
                    refine g_goto (pc' := 117) B dX12_to_113 (by decide) ?_
                    exact g_iret (z := d) B hrt rfl hlk dX12_to_117 ⟨rfl, by first | (exfalso; omega) | (have q9 := i5 (by omega); rw [i0, tow_pos (show can D f t w from ⟨hf, q9.1, by first | exact Or.inl (by omega) | (by_cases q8 : bes f w = f; exact Or.inl q8; exact Or.inr (fun y a b e9 => q9.2 y a (by omega) q8 e9))⟩)])⟩
                · refine g_iload (pc' := 65) B 3 rfl dX12_to_63 rfl ?_
                  refine g_iload_n (pc' := 66) B 5 rfl rfl dX12_to_65 rfl ?_
                  refine g_icmp_eq (pc' := 69) B 106 (by omega) (by omega) dX12_to_66 (by decide) rfl (fun c66 => ?_) (fun c66 => ?_)
                  · refine g_iload (pc' := 108) B 2 rfl dX12_to_106 rfl ?_
                    refine g_if_eq (pc' := 111) B 116 (by omega) dX12_to_108 (by decide) rfl (fun c108 => ?_) (fun c108 => ?_)
                    · refine g_iconst (pc' := 117) B dX12_to_116 rfl ?_
                      exact g_iret (z := (-1)) B hrt rfl hlk dX12_to_117 ⟨rfl, (tow_neg (i4 (by omega))).symm⟩
                    · refine g_iload (pc' := 113) B 3 rfl dX12_to_111 rfl ?_
                      refine g_goto (pc' := 117) B dX12_to_113 (by decide) ?_
                      exact g_iret (z := d) B hrt rfl hlk dX12_to_117 ⟨rfl, by first | (exfalso; omega) | (have q9 := i5 (by omega); rw [i0, tow_pos (show can D f t w from ⟨hf, q9.1, by first | exact Or.inl (by omega) | (by_cases q8 : bes f w = f; exact Or.inl q8; exact Or.inr (fun y a b e9 => q9.2 y a (by omega) q8 e9))⟩)])⟩
                  · refine g_aload_n (pc' := 70) B 4 rfl rfl dX12_to_69 rfl ?_
                    refine g_getR (pc' := 73) B 62 fl_X12_23 rfl rfl dX12_to_70 rfl ?_
                    refine g_iconst (pc' := 74) B dX12_to_73 rfl ?_
                    refine g_iload (pc' := 76) B 0 rfl dX12_to_74 rfl ?_
                    refine g_imul (pc' := 77) B dX12_to_76 rfl ?_
                    refine g_iald (pc' := 78) B (D 5 s) (hM.2.2.2.2.2.2 s (by omega) (by omega)).1 rfl (by omega) (by decide) dX12_to_77 rfl ?_
                    refine g_iload (pc' := 80) B 1 rfl dX12_to_78 rfl ?_
                    have hs9 := hO1 s (by omega) (by omega)
                    refine g_icmp_ne (pc' := 83) B 93 (by omega) (by omega) dX12_to_80 (by decide) rfl (fun c80 => ?_) (fun c80 => ?_)
                    · refine g_iconst (pc' := 94) B dX12_to_93 rfl ?_
                      refine g_goto (pc' := 98) B dX12_to_94 (by decide) ?_
                      refine g_istore (pc' := 100) B [(5, .int (iI 1)), (7, .int (iI s)), (6, .int (iI e)), (4, .int (iI d)), (0, .ref (K.2.2 57)), (1, .int (iI f)), (2, .int (iI w)), (3, .int (iI t))] dX12_to_98 rfl (by decide) rfl ?_
                      refine g_iinc (pc' := 103) B 1 [(7, .int (iI (s + 1))), (5, .int (iI 1)), (6, .int (iI e)), (4, .int (iI d)), (0, .ref (K.2.2 57)), (1, .int (iI f)), (2, .int (iI w)), (3, .int (iI t))] dX12_to_100 rfl rfl (by decide) rfl ?_
                      refine g_goto (pc' := 49) B dX12_to_103 (by decide) ?_
                      refine g_loc B [(7, .int (iI (s + 1))), (6, .int (iI e)), (5, .int (iI 1)), (4, .int (iI d)), (0, .ref (K.2.2 57)), (1, .int (iI f)), (2, .int (iI w)), (3, .int (iI t))] [0, 2, 1, 3, 4, 5, 6, 7] rfl ?_
                      exact ih49 _ (by omega) d 1 e (s + 1) rfl (by omega) (by exact i0) (by exact i6) (by omega) (by intro q9 q8; first | (exfalso; omega) | (rcases q8.2.2 with q7 | q7; omega; exact h87 (q7 s (by omega) (by omega) (by omega)))) (by intro q9; first | (exfalso; omega) | exact ⟨(i5 (by omega)).1, fun y a b q8 q7 => by by_cases e9 : y = s; (subst e9; first | (exfalso; omega) | exact h87); exact (i5 (by omega)).2 y a (by omega) q8 q7⟩)
                    · refine g_aload_n (pc' := 84) B 4 rfl rfl dX12_to_83 rfl ?_
                      refine g_iload (pc' := 86) B 0 rfl dX12_to_84 rfl ?_
                      refine g_iload_n (pc' := 87) B 7 rfl rfl dX12_to_86 rfl ?_
                      refine g_callVI (pc' := 90) (As := [.int (iI s), .int (iI t)]) B (c_X12_isSeamOpen l K _ (D := D) (s := s) (t := t) hM hF hR hO hH (by omega) (by omega)) vt_X12_isSeamOpen tw_1096 rfl rfl ⟨by decide, by decide⟩ rfl (Nat.le_of_ble_eq_true rfl) ⟨Nat.zero_le _, Nat.zero_le _⟩ rfl dX12_to_87 rfl (fun z87 τ87 h87 => ?_)
                      obtain ⟨rfl, h87⟩ := h87
                      rcases h87 with ⟨h87, rfl⟩ | ⟨h87, rfl⟩
                      · refine g_if_eq (pc' := 93) B 97 (by omega) dX12_to_90 (by decide) rfl (fun q => absurd q (by decide)) (fun _ => ?_)
                        refine g_iconst (pc' := 94) B dX12_to_93 rfl ?_
                        refine g_goto (pc' := 98) B dX12_to_94 (by decide) ?_
                        refine g_istore (pc' := 100) B [(5, .int (iI 1)), (7, .int (iI s)), (6, .int (iI e)), (4, .int (iI d)), (0, .ref (K.2.2 57)), (1, .int (iI f)), (2, .int (iI w)), (3, .int (iI t))] dX12_to_98 rfl (by decide) rfl ?_
                        refine g_iinc (pc' := 103) B 1 [(7, .int (iI (s + 1))), (5, .int (iI 1)), (6, .int (iI e)), (4, .int (iI d)), (0, .ref (K.2.2 57)), (1, .int (iI f)), (2, .int (iI w)), (3, .int (iI t))] dX12_to_100 rfl rfl (by decide) rfl ?_
                        refine g_goto (pc' := 49) B dX12_to_103 (by decide) ?_
                        refine g_loc B [(7, .int (iI (s + 1))), (6, .int (iI e)), (5, .int (iI 1)), (4, .int (iI d)), (0, .ref (K.2.2 57)), (1, .int (iI f)), (2, .int (iI w)), (3, .int (iI t))] [0, 2, 1, 3, 4, 5, 6, 7] rfl ?_
                        exact ih49 _ (by omega) d 1 e (s + 1) rfl (by omega) (by exact i0) (by exact i6) (by omega) (by intro q9 q8; first | (exfalso; omega) | (rcases q8.2.2 with q7 | q7; omega; exact h87 (q7 s (by omega) (by omega) (by omega)))) (by intro q9; first | (exfalso; omega) | exact ⟨(i5 (by omega)).1, fun y a b q8 q7 => by by_cases e9 : y = s; (subst e9; first | (exfalso; omega) | exact h87); exact (i5 (by omega)).2 y a (by omega) q8 q7⟩)
                      · refine g_if_eq (pc' := 93) B 97 (by omega) dX12_to_90 (by decide) rfl (fun _ => ?_) (fun q => absurd q (by decide))
                        refine g_iconst (pc' := 98) B dX12_to_97 rfl ?_
                        refine g_istore (pc' := 100) B [(5, .int (iI 0)), (7, .int (iI s)), (6, .int (iI e)), (4, .int (iI d)), (0, .ref (K.2.2 57)), (1, .int (iI f)), (2, .int (iI w)), (3, .int (iI t))] dX12_to_98 rfl (by decide) rfl ?_
                        refine g_iinc (pc' := 103) B 1 [(7, .int (iI (s + 1))), (5, .int (iI 0)), (6, .int (iI e)), (4, .int (iI d)), (0, .ref (K.2.2 57)), (1, .int (iI f)), (2, .int (iI w)), (3, .int (iI t))] dX12_to_100 rfl rfl (by decide) rfl ?_
                        refine g_goto (pc' := 49) B dX12_to_103 (by decide) ?_
                        refine g_loc B [(7, .int (iI (s + 1))), (6, .int (iI e)), (5, .int (iI 0)), (4, .int (iI d)), (0, .ref (K.2.2 57)), (1, .int (iI f)), (2, .int (iI w)), (3, .int (iI t))] [0, 2, 1, 3, 4, 5, 6, 7] rfl ?_
                        exact ih49 _ (by omega) d 0 e (s + 1) rfl (by omega) (by exact i0) (by exact i6) (by omega) (by intro q9 q8; first | (exfalso; omega) | (rcases q8.2.2 with q7 | q7; omega; exact h87 (q7 s (by omega) (by omega) (by omega)))) (by intro q9; first | (exfalso; omega) | exact ⟨(i5 (by omega)).1, fun y a b q8 q7 => by by_cases e9 : y = s; (subst e9; first | (exfalso; omega) | exact h87); exact (i5 (by omega)).2 y a (by omega) q8 q7⟩)
          exact L49 _ (f + 1) 0 f 0 rfl (by omega) (by unfold bes; (repeat' split) <;> omega) (by unfold bes; (repeat' split) <;> omega) (by omega) (by intro q9 q8; first | (exfalso; omega) | (have q7 := q8.2.1; revert q7; unfold bes; (repeat' split) <;> omega)) (by intro q9; first | (exfalso; omega) | exact ⟨by unfold bes; (repeat' split) <;> omega, fun y a b => by omega⟩)
        · refine g_iload (pc' := 40) B 1 rfl dX12_to_38 rfl ?_
          refine g_goto (pc' := 44) B dX12_to_40 (by decide) ?_
          refine g_istore (pc' := 46) B [(6, .int (iI (f + 1))), (5, .int (iI 0)), (4, .int (iI (f + 1))), (0, .ref (K.2.2 57)), (1, .int (iI f)), (2, .int (iI w)), (3, .int (iI t))] dX12_to_44 rfl (by decide) rfl ?_
          refine g_iconst (pc' := 47) B dX12_to_46 rfl ?_
          refine g_istore (pc' := 49) B [(7, .int (iI 0)), (6, .int (iI (f + 1))), (5, .int (iI 0)), (4, .int (iI (f + 1))), (0, .ref (K.2.2 57)), (1, .int (iI f)), (2, .int (iI w)), (3, .int (iI t))] dX12_to_47 rfl (by decide) rfl ?_
          have L49 : ∀ (nn : Nat) (d c e s : Int) , (D 9 2 - s).toNat = nn → (0 ≤ s ∧ s ≤ D 9 2) → (d = bes f w) → (e = min f (bes f w)) → (c = 0 ∨ c = 1) → (c = 0 → ¬ can D f t w) → (c = 1 → (0 ≤ bes f w ∧ bes f w < D 9 0) ∧ ∀ y : Int, 0 ≤ y → y < s → bes f w ≠ f → D 5 y = min f (bes f w) → opn D y t) → G pP l eE (rmo 2 46) sS mM [.ref (K.2.2 57), .int (iI f), .int (iI w), .int (iI t)].toArray bW mT cC 0 0 (MQ bW (Qi K (fun z τ => σ = τ ∧ z = tow D f t w)) [.ref (K.2.2 57), .int (iI f), .int (iI w), .int (iI t)].toArray sS 0 0 (wA K)) K sS.heap 8 σ 49 [(7, .int (iI s)), (6, .int (iI e)), (5, .int (iI c)), (4, .int (iI d)), (0, .ref (K.2.2 57)), (1, .int (iI f)), (2, .int (iI w)), (3, .int (iI t))] [] := by
            intro nn
            induction nn using Nat.strongRecOn with
            | _ nn ih49 =>
              intro d c e s hn49 i1 i0 i6 i7 i4 i5
              have hbb := bes_bd f w
              refine g_iload (pc' := 51) B 0 rfl dX12_to_49 rfl ?_
              refine g_aload_n (pc' := 52) B 4 rfl rfl dX12_to_51 rfl ?_
              refine g_get (pc' := 55) B (D 9 2) hM.2.2.1 fl_X12_137 rfl rfl dX12_to_52 rfl ?_
              refine g_icmp_ge (pc' := 58) B 106 (by omega) (by omega) dX12_to_55 (by decide) rfl (fun c55 => ?_) (fun c55 => ?_)
              · refine g_iload (pc' := 108) B 2 rfl dX12_to_106 rfl ?_
                refine g_if_eq (pc' := 111) B 116 (by omega) dX12_to_108 (by decide) rfl (fun c108 => ?_) (fun c108 => ?_)
                · refine g_iconst (pc' := 117) B dX12_to_116 rfl ?_
                  exact g_iret (z := (-1)) B hrt rfl hlk dX12_to_117 ⟨rfl, (tow_neg (i4 (by omega))).symm⟩
                · refine g_iload (pc' := 113) B 3 rfl dX12_to_111 rfl ?_
                  refine g_goto (pc' := 117) B dX12_to_113 (by decide) ?_
                  exact g_iret (z := d) B hrt rfl hlk dX12_to_117 ⟨rfl, by first | (exfalso; omega) | (have q9 := i5 (by omega); rw [i0, tow_pos (show can D f t w from ⟨hf, q9.1, by first | exact Or.inl (by omega) | (by_cases q8 : bes f w = f; exact Or.inl q8; exact Or.inr (fun y a b e9 => q9.2 y a (by omega) q8 e9))⟩)])⟩
              · refine g_iload (pc' := 60) B 2 rfl dX12_to_58 rfl ?_
                refine g_if_eq (pc' := 63) B 106 (by omega) dX12_to_60 (by decide) rfl (fun c60 => ?_) (fun c60 => ?_)
                · refine g_iload (pc' := 108) B 2 rfl dX12_to_106 rfl ?_
                  refine g_if_eq (pc' := 111) B 116 (by omega) dX12_to_108 (by decide) rfl (fun c108 => ?_) (fun c108 => ?_)
                  · refine g_iconst (pc' := 117) B dX12_to_116 rfl ?_
                    exact g_iret (z := (-1)) B hrt rfl hlk dX12_to_117 ⟨rfl, (tow_neg (i4 (by omega))).symm⟩
                  · refine g_iload (pc' := 113) B 3 rfl dX12_to_111 rfl ?_
                    refine g_goto (pc' := 117) B dX12_to_113 (by decide) ?_
                    exact g_iret (z := d) B hrt rfl hlk dX12_to_117 ⟨rfl, by first | (exfalso; omega) | (have q9 := i5 (by omega); rw [i0, tow_pos (show can D f t w from ⟨hf, q9.1, by first | exact Or.inl (by omega) | (by_cases q8 : bes f w = f; exact Or.inl q8; exact Or.inr (fun y a b e9 => q9.2 y a (by omega) q8 e9))⟩)])⟩
                · refine g_iload (pc' := 65) B 3 rfl dX12_to_63 rfl ?_
                  refine g_iload_n (pc' := 66) B 5 rfl rfl dX12_to_65 rfl ?_
                  refine g_icmp_eq (pc' := 69) B 106 (by omega) (by omega) dX12_to_66 (by decide) rfl (fun c66 => ?_) (fun c66 => ?_)
                  · refine g_iload (pc' := 108) B 2 rfl dX12_to_106 rfl ?_
                    refine g_if_eq (pc' := 111) B 116 (by omega) dX12_to_108 (by decide) rfl (fun c108 => ?_) (fun c108 => ?_)
                    · refine g_iconst (pc' := 117) B dX12_to_116 rfl ?_
                      exact g_iret (z := (-1)) B hrt rfl hlk dX12_to_117 ⟨rfl, (tow_neg (i4 (by omega))).symm⟩
                    · refine g_iload (pc' := 113) B 3 rfl dX12_to_111 rfl ?_
                      refine g_goto (pc' := 117) B dX12_to_113 (by decide) ?_
                      exact g_iret (z := d) B hrt rfl hlk dX12_to_117 ⟨rfl, by first | (exfalso; omega) | (have q9 := i5 (by omega); rw [i0, tow_pos (show can D f t w from ⟨hf, q9.1, by first | exact Or.inl (by omega) | (by_cases q8 : bes f w = f; exact Or.inl q8; exact Or.inr (fun y a b e9 => q9.2 y a (by omega) q8 e9))⟩)])⟩
                  · refine g_aload_n (pc' := 70) B 4 rfl rfl dX12_to_69 rfl ?_
                    refine g_getR (pc' := 73) B 62 fl_X12_23 rfl rfl dX12_to_70 rfl ?_
                    refine g_iconst (pc' := 74) B dX12_to_73 rfl ?_
                    refine g_iload (pc' := 76) B 0 rfl dX12_to_74 rfl ?_
                    refine g_imul (pc' := 77) B dX12_to_76 rfl ?_
                    refine g_iald (pc' := 78) B (D 5 s) (hM.2.2.2.2.2.2 s (by omega) (by omega)).1 rfl (by omega) (by decide) dX12_to_77 rfl ?_
                    refine g_iload (pc' := 80) B 1 rfl dX12_to_78 rfl ?_
                    have hs9 := hO1 s (by omega) (by omega)
                    refine g_icmp_ne (pc' := 83) B 93 (by omega) (by omega) dX12_to_80 (by decide) rfl (fun c80 => ?_) (fun c80 => ?_)
                    · refine g_iconst (pc' := 94) B dX12_to_93 rfl ?_
                      refine g_goto (pc' := 98) B dX12_to_94 (by decide) ?_
                      refine g_istore (pc' := 100) B [(5, .int (iI 1)), (7, .int (iI s)), (6, .int (iI e)), (4, .int (iI d)), (0, .ref (K.2.2 57)), (1, .int (iI f)), (2, .int (iI w)), (3, .int (iI t))] dX12_to_98 rfl (by decide) rfl ?_
                      refine g_iinc (pc' := 103) B 1 [(7, .int (iI (s + 1))), (5, .int (iI 1)), (6, .int (iI e)), (4, .int (iI d)), (0, .ref (K.2.2 57)), (1, .int (iI f)), (2, .int (iI w)), (3, .int (iI t))] dX12_to_100 rfl rfl (by decide) rfl ?_
                      refine g_goto (pc' := 49) B dX12_to_103 (by decide) ?_
                      refine g_loc B [(7, .int (iI (s + 1))), (6, .int (iI e)), (5, .int (iI 1)), (4, .int (iI d)), (0, .ref (K.2.2 57)), (1, .int (iI f)), (2, .int (iI w)), (3, .int (iI t))] [0, 2, 1, 3, 4, 5, 6, 7] rfl ?_
                      exact ih49 _ (by omega) d 1 e (s + 1) rfl (by omega) (by exact i0) (by exact i6) (by omega) (by intro q9 q8; first | (exfalso; omega) | (rcases q8.2.2 with q7 | q7; omega; exact h87 (q7 s (by omega) (by omega) (by omega)))) (by intro q9; first | (exfalso; omega) | exact ⟨(i5 (by omega)).1, fun y a b q8 q7 => by by_cases e9 : y = s; (subst e9; first | (exfalso; omega) | exact h87); exact (i5 (by omega)).2 y a (by omega) q8 q7⟩)
                    · refine g_aload_n (pc' := 84) B 4 rfl rfl dX12_to_83 rfl ?_
                      refine g_iload (pc' := 86) B 0 rfl dX12_to_84 rfl ?_
                      refine g_iload_n (pc' := 87) B 7 rfl rfl dX12_to_86 rfl ?_
                      refine g_callVI (pc' := 90) (As := [.int (iI s), .int (iI t)]) B (c_X12_isSeamOpen l K _ (D := D) (s := s) (t := t) hM hF hR hO hH (by omega) (by omega)) vt_X12_isSeamOpen tw_1096 rfl rfl ⟨by decide, by decide⟩ rfl (Nat.le_of_ble_eq_true rfl) ⟨Nat.zero_le _, Nat.zero_le _⟩ rfl dX12_to_87 rfl (fun z87 τ87 h87 => ?_)
                      obtain ⟨rfl, h87⟩ := h87
                      rcases h87 with ⟨h87, rfl⟩ | ⟨h87, rfl⟩
                      · refine g_if_eq (pc' := 93) B 97 (by omega) dX12_to_90 (by decide) rfl (fun q => absurd q (by decide)) (fun _ => ?_)
                        refine g_iconst (pc' := 94) B dX12_to_93 rfl ?_
                        refine g_goto (pc' := 98) B dX12_to_94 (by decide) ?_
                        refine g_istore (pc' := 100) B [(5, .int (iI 1)), (7, .int (iI s)), (6, .int (iI e)), (4, .int (iI d)), (0, .ref (K.2.2 57)), (1, .int (iI f)), (2, .int (iI w)), (3, .int (iI t))] dX12_to_98 rfl (by decide) rfl ?_
                        refine g_iinc (pc' := 103) B 1 [(7, .int (iI (s + 1))), (5, .int (iI 1)), (6, .int (iI e)), (4, .int (iI d)), (0, .ref (K.2.2 57)), (1, .int (iI f)), (2, .int (iI w)), (3, .int (iI t))] dX12_to_100 rfl rfl (by decide) rfl ?_
                        refine g_goto (pc' := 49) B dX12_to_103 (by decide) ?_
                        refine g_loc B [(7, .int (iI (s + 1))), (6, .int (iI e)), (5, .int (iI 1)), (4, .int (iI d)), (0, .ref (K.2.2 57)), (1, .int (iI f)), (2, .int (iI w)), (3, .int (iI t))] [0, 2, 1, 3, 4, 5, 6, 7] rfl ?_
                        exact ih49 _ (by omega) d 1 e (s + 1) rfl (by omega) (by exact i0) (by exact i6) (by omega) (by intro q9 q8; first | (exfalso; omega) | (rcases q8.2.2 with q7 | q7; omega; exact h87 (q7 s (by omega) (by omega) (by omega)))) (by intro q9; first | (exfalso; omega) | exact ⟨(i5 (by omega)).1, fun y a b q8 q7 => by by_cases e9 : y = s; (subst e9; first | (exfalso; omega) | exact h87); exact (i5 (by omega)).2 y a (by omega) q8 q7⟩)
                      · refine g_if_eq (pc' := 93) B 97 (by omega) dX12_to_90 (by decide) rfl (fun _ => ?_) (fun q => absurd q (by decide))
                        refine g_iconst (pc' := 98) B dX12_to_97 rfl ?_
                        refine g_istore (pc' := 100) B [(5, .int (iI 0)), (7, .int (iI s)), (6, .int (iI e)), (4, .int (iI d)), (0, .ref (K.2.2 57)), (1, .int (iI f)), (2, .int (iI w)), (3, .int (iI t))] dX12_to_98 rfl (by decide) rfl ?_
                        refine g_iinc (pc' := 103) B 1 [(7, .int (iI (s + 1))), (5, .int (iI 0)), (6, .int (iI e)), (4, .int (iI d)), (0, .ref (K.2.2 57)), (1, .int (iI f)), (2, .int (iI w)), (3, .int (iI t))] dX12_to_100 rfl rfl (by decide) rfl ?_
                        refine g_goto (pc' := 49) B dX12_to_103 (by decide) ?_
                        refine g_loc B [(7, .int (iI (s + 1))), (6, .int (iI e)), (5, .int (iI 0)), (4, .int (iI d)), (0, .ref (K.2.2 57)), (1, .int (iI f)), (2, .int (iI w)), (3, .int (iI t))] [0, 2, 1, 3, 4, 5, 6, 7] rfl ?_
                        exact ih49 _ (by omega) d 0 e (s + 1) rfl (by omega) (by exact i0) (by exact i6) (by omega) (by intro q9 q8; first | (exfalso; omega) | (rcases q8.2.2 with q7 | q7; omega; exact h87 (q7 s (by omega) (by omega) (by omega)))) (by intro q9; first | (exfalso; omega) | exact ⟨(i5 (by omega)).1, fun y a b q8 q7 => by by_cases e9 : y = s; (subst e9; first | (exfalso; omega) | exact h87); exact (i5 (by omega)).2 y a (by omega) q8 q7⟩)
          exact L49 _ (f + 1) 0 (f + 1) 0 rfl (by omega) (by unfold bes; (repeat' split) <;> omega) (by unfold bes; (repeat' split) <;> omega) (by omega) (by intro q9 q8; first | (exfalso; omega) | (have q7 := q8.2.1; revert q7; unfold bes; (repeat' split) <;> omega)) (by intro q9; first | (exfalso; omega) | exact ⟨by unfold bes; (repeat' split) <;> omega, fun y a b => by omega⟩)
    · refine g_iload_n (pc' := 14) B 1 rfl rfl dX12_to_13 rfl ?_
      refine g_iconst (pc' := 15) B dX12_to_14 rfl ?_
      refine g_isub (pc' := 16) B dX12_to_15 rfl ?_
      refine g_goto (pc' := 22) B dX12_to_16 (by decide) ?_
      refine g_istore (pc' := 24) B [(4, .int (iI (f - 1))), (0, .ref (K.2.2 57)), (1, .int (iI f)), (2, .int (iI w)), (3, .int (iI t))] dX12_to_22 rfl (by decide) rfl ?_
      refine g_aload_n (pc' := 25) B 1 rfl rfl dX12_to_24 rfl ?_
      refine g_iload (pc' := 27) B 0 rfl dX12_to_25 rfl ?_
      refine g_callVI (pc' := 30) (As := [.int (iI (f - 1))]) B (c_X12_isField l K _ (D := D) (f := f - 1) hM hF hR hO hH (by omega)) vt_X12_isField tw_1129 rfl rfl ⟨by decide, by decide⟩ rfl (Nat.le_of_ble_eq_true rfl) ⟨Nat.zero_le _, Nat.zero_le _⟩ rfl dX12_to_27 rfl (fun z27 τ27 h27 => ?_)
      obtain ⟨rfl, h27⟩ := h27
      rcases h27 with ⟨h27, rfl⟩ | ⟨h27, rfl⟩
      · refine g_istore (pc' := 32) B [(5, .int (iI 1)), (4, .int (iI (f - 1))), (0, .ref (K.2.2 57)), (1, .int (iI f)), (2, .int (iI w)), (3, .int (iI t))] dX12_to_30 rfl (by decide) rfl ?_
        refine g_iload (pc' := 34) B 1 rfl dX12_to_32 rfl ?_
        refine g_iload_n (pc' := 35) B 3 rfl rfl dX12_to_34 rfl ?_
        refine g_icmp_ge (pc' := 38) B 43 (by omega) (by omega) dX12_to_35 (by decide) rfl (fun c35 => ?_) (fun c35 => ?_)
        · refine g_iload_n (pc' := 44) B 3 rfl rfl dX12_to_43 rfl ?_
          refine g_istore (pc' := 46) B [(6, .int (iI f)), (5, .int (iI 1)), (4, .int (iI (f - 1))), (0, .ref (K.2.2 57)), (1, .int (iI f)), (2, .int (iI w)), (3, .int (iI t))] dX12_to_44 rfl (by decide) rfl ?_
          refine g_iconst (pc' := 47) B dX12_to_46 rfl ?_
          refine g_istore (pc' := 49) B [(7, .int (iI 0)), (6, .int (iI f)), (5, .int (iI 1)), (4, .int (iI (f - 1))), (0, .ref (K.2.2 57)), (1, .int (iI f)), (2, .int (iI w)), (3, .int (iI t))] dX12_to_47 rfl (by decide) rfl ?_
          have L49 : ∀ (nn : Nat) (d c e s : Int) , (D 9 2 - s).toNat = nn → (0 ≤ s ∧ s ≤ D 9 2) → (d = bes f w) → (e = min f (bes f w)) → (c = 0 ∨ c = 1) → (c = 0 → ¬ can D f t w) → (c = 1 → (0 ≤ bes f w ∧ bes f w < D 9 0) ∧ ∀ y : Int, 0 ≤ y → y < s → bes f w ≠ f → D 5 y = min f (bes f w) → opn D y t) → G pP l eE (rmo 2 46) sS mM [.ref (K.2.2 57), .int (iI f), .int (iI w), .int (iI t)].toArray bW mT cC 0 0 (MQ bW (Qi K (fun z τ => σ = τ ∧ z = tow D f t w)) [.ref (K.2.2 57), .int (iI f), .int (iI w), .int (iI t)].toArray sS 0 0 (wA K)) K sS.heap 8 σ 49 [(7, .int (iI s)), (6, .int (iI e)), (5, .int (iI c)), (4, .int (iI d)), (0, .ref (K.2.2 57)), (1, .int (iI f)), (2, .int (iI w)), (3, .int (iI t))] [] := by
            intro nn
            induction nn using Nat.strongRecOn with
            | _ nn ih49 =>
              intro d c e s hn49 i1 i0 i6 i7 i4 i5
              have hbb := bes_bd f w
              refine g_iload (pc' := 51) B 0 rfl dX12_to_49 rfl ?_
              refine g_aload_n (pc' := 52) B 4 rfl rfl dX12_to_51 rfl ?_
              refine g_get (pc' := 55) B (D 9 2) hM.2.2.1 fl_X12_137 rfl rfl dX12_to_52 rfl ?_
              refine g_icmp_ge (pc' := 58) B 106 (by omega) (by omega) dX12_to_55 (by decide) rfl (fun c55 => ?_) (fun c55 => ?_)
              · refine g_iload (pc' := 108) B 2 rfl dX12_to_106 rfl ?_
                refine g_if_eq (pc' := 111) B 116 (by omega) dX12_to_108 (by decide) rfl (fun c108 => ?_) (fun c108 => ?_)
                · refine g_iconst (pc' := 117) B dX12_to_116 rfl ?_
                  exact g_iret (z := (-1)) B hrt rfl hlk dX12_to_117 ⟨rfl, (tow_neg (i4 (by omega))).symm⟩
                · refine g_iload (pc' := 113) B 3 rfl dX12_to_111 rfl ?_
                  refine g_goto (pc' := 117) B dX12_to_113 (by decide) ?_
                  exact g_iret (z := d) B hrt rfl hlk dX12_to_117 ⟨rfl, by first | (exfalso; omega) | (have q9 := i5 (by omega); rw [i0, tow_pos (show can D f t w from ⟨hf, q9.1, by first | exact Or.inl (by omega) | (by_cases q8 : bes f w = f; exact Or.inl q8; exact Or.inr (fun y a b e9 => q9.2 y a (by omega) q8 e9))⟩)])⟩
              · refine g_iload (pc' := 60) B 2 rfl dX12_to_58 rfl ?_
                refine g_if_eq (pc' := 63) B 106 (by omega) dX12_to_60 (by decide) rfl (fun c60 => ?_) (fun c60 => ?_)
                · refine g_iload (pc' := 108) B 2 rfl dX12_to_106 rfl ?_
                  refine g_if_eq (pc' := 111) B 116 (by omega) dX12_to_108 (by decide) rfl (fun c108 => ?_) (fun c108 => ?_)
                  · refine g_iconst (pc' := 117) B dX12_to_116 rfl ?_
                    exact g_iret (z := (-1)) B hrt rfl hlk dX12_to_117 ⟨rfl, (tow_neg (i4 (by omega))).symm⟩
                  · refine g_iload (pc' := 113) B 3 rfl dX12_to_111 rfl ?_
                    refine g_goto (pc' := 117) B dX12_to_113 (by decide) ?_
                    exact g_iret (z := d) B hrt rfl hlk dX12_to_117 ⟨rfl, by first | (exfalso; omega) | (have q9 := i5 (by omega); rw [i0, tow_pos (show can D f t w from ⟨hf, q9.1, by first | exact Or.inl (by omega) | (by_cases q8 : bes f w = f; exact Or.inl q8; exact Or.inr (fun y a b e9 => q9.2 y a (by omega) q8 e9))⟩)])⟩
                · refine g_iload (pc' := 65) B 3 rfl dX12_to_63 rfl ?_
                  refine g_iload_n (pc' := 66) B 5 rfl rfl dX12_to_65 rfl ?_
                  refine g_icmp_eq (pc' := 69) B 106 (by omega) (by omega) dX12_to_66 (by decide) rfl (fun c66 => ?_) (fun c66 => ?_)
                  · refine g_iload (pc' := 108) B 2 rfl dX12_to_106 rfl ?_
                    refine g_if_eq (pc' := 111) B 116 (by omega) dX12_to_108 (by decide) rfl (fun c108 => ?_) (fun c108 => ?_)
                    · refine g_iconst (pc' := 117) B dX12_to_116 rfl ?_
                      exact g_iret (z := (-1)) B hrt rfl hlk dX12_to_117 ⟨rfl, (tow_neg (i4 (by omega))).symm⟩
                    · refine g_iload (pc' := 113) B 3 rfl dX12_to_111 rfl ?_
                      refine g_goto (pc' := 117) B dX12_to_113 (by decide) ?_
                      exact g_iret (z := d) B hrt rfl hlk dX12_to_117 ⟨rfl, by first | (exfalso; omega) | (have q9 := i5 (by omega); rw [i0, tow_pos (show can D f t w from ⟨hf, q9.1, by first | exact Or.inl (by omega) | (by_cases q8 : bes f w = f; exact Or.inl q8; exact Or.inr (fun y a b e9 => q9.2 y a (by omega) q8 e9))⟩)])⟩
                  · refine g_aload_n (pc' := 70) B 4 rfl rfl dX12_to_69 rfl ?_
                    refine g_getR (pc' := 73) B 62 fl_X12_23 rfl rfl dX12_to_70 rfl ?_
                    refine g_iconst (pc' := 74) B dX12_to_73 rfl ?_
                    refine g_iload (pc' := 76) B 0 rfl dX12_to_74 rfl ?_
                    refine g_imul (pc' := 77) B dX12_to_76 rfl ?_
                    refine g_iald (pc' := 78) B (D 5 s) (hM.2.2.2.2.2.2 s (by omega) (by omega)).1 rfl (by omega) (by decide) dX12_to_77 rfl ?_
                    refine g_iload (pc' := 80) B 1 rfl dX12_to_78 rfl ?_
                    have hs9 := hO1 s (by omega) (by omega)
                    refine g_icmp_ne (pc' := 83) B 93 (by omega) (by omega) dX12_to_80 (by decide) rfl (fun c80 => ?_) (fun c80 => ?_)
                    · refine g_iconst (pc' := 94) B dX12_to_93 rfl ?_
                      refine g_goto (pc' := 98) B dX12_to_94 (by decide) ?_
                      refine g_istore (pc' := 100) B [(5, .int (iI 1)), (7, .int (iI s)), (6, .int (iI e)), (4, .int (iI d)), (0, .ref (K.2.2 57)), (1, .int (iI f)), (2, .int (iI w)), (3, .int (iI t))] dX12_to_98 rfl (by decide) rfl ?_
                      refine g_iinc (pc' := 103) B 1 [(7, .int (iI (s + 1))), (5, .int (iI 1)), (6, .int (iI e)), (4, .int (iI d)), (0, .ref (K.2.2 57)), (1, .int (iI f)), (2, .int (iI w)), (3, .int (iI t))] dX12_to_100 rfl rfl (by decide) rfl ?_
                      refine g_goto (pc' := 49) B dX12_to_103 (by decide) ?_
                      refine g_loc B [(7, .int (iI (s + 1))), (6, .int (iI e)), (5, .int (iI 1)), (4, .int (iI d)), (0, .ref (K.2.2 57)), (1, .int (iI f)), (2, .int (iI w)), (3, .int (iI t))] [0, 2, 1, 3, 4, 5, 6, 7] rfl ?_
                      exact ih49 _ (by omega) d 1 e (s + 1) rfl (by omega) (by exact i0) (by exact i6) (by omega) (by intro q9 q8; first | (exfalso; omega) | (rcases q8.2.2 with q7 | q7; omega; exact h87 (q7 s (by omega) (by omega) (by omega)))) (by intro q9; first | (exfalso; omega) | exact ⟨(i5 (by omega)).1, fun y a b q8 q7 => by by_cases e9 : y = s; (subst e9; first | (exfalso; omega) | exact h87); exact (i5 (by omega)).2 y a (by omega) q8 q7⟩)
                    · refine g_aload_n (pc' := 84) B 4 rfl rfl dX12_to_83 rfl ?_
                      refine g_iload (pc' := 86) B 0 rfl dX12_to_84 rfl ?_
                      refine g_iload_n (pc' := 87) B 7 rfl rfl dX12_to_86 rfl ?_
                      refine g_callVI (pc' := 90) (As := [.int (iI s), .int (iI t)]) B (c_X12_isSeamOpen l K _ (D := D) (s := s) (t := t) hM hF hR hO hH (by omega) (by omega)) vt_X12_isSeamOpen tw_1096 rfl rfl ⟨by decide, by decide⟩ rfl (Nat.le_of_ble_eq_true rfl) ⟨Nat.zero_le _, Nat.zero_le _⟩ rfl dX12_to_87 rfl (fun z87 τ87 h87 => ?_)
                      obtain ⟨rfl, h87⟩ := h87
                      rcases h87 with ⟨h87, rfl⟩ | ⟨h87, rfl⟩
                      · refine g_if_eq (pc' := 93) B 97 (by omega) dX12_to_90 (by decide) rfl (fun q => absurd q (by decide)) (fun _ => ?_)
                        refine g_iconst (pc' := 94) B dX12_to_93 rfl ?_
                        refine g_goto (pc' := 98) B dX12_to_94 (by decide) ?_
                        refine g_istore (pc' := 100) B [(5, .int (iI 1)), (7, .int (iI s)), (6, .int (iI e)), (4, .int (iI d)), (0, .ref (K.2.2 57)), (1, .int (iI f)), (2, .int (iI w)), (3, .int (iI t))] dX12_to_98 rfl (by decide) rfl ?_
                        refine g_iinc (pc' := 103) B 1 [(7, .int (iI (s + 1))), (5, .int (iI 1)), (6, .int (iI e)), (4, .int (iI d)), (0, .ref (K.2.2 57)), (1, .int (iI f)), (2, .int (iI w)), (3, .int (iI t))] dX12_to_100 rfl rfl (by decide) rfl ?_
                        refine g_goto (pc' := 49) B dX12_to_103 (by decide) ?_
                        refine g_loc B [(7, .int (iI (s + 1))), (6, .int (iI e)), (5, .int (iI 1)), (4, .int (iI d)), (0, .ref (K.2.2 57)), (1, .int (iI f)), (2, .int (iI w)), (3, .int (iI t))] [0, 2, 1, 3, 4, 5, 6, 7] rfl ?_
                        exact ih49 _ (by omega) d 1 e (s + 1) rfl (by omega) (by exact i0) (by exact i6) (by omega) (by intro q9 q8; first | (exfalso; omega) | (rcases q8.2.2 with q7 | q7; omega; exact h87 (q7 s (by omega) (by omega) (by omega)))) (by intro q9; first | (exfalso; omega) | exact ⟨(i5 (by omega)).1, fun y a b q8 q7 => by by_cases e9 : y = s; (subst e9; first | (exfalso; omega) | exact h87); exact (i5 (by omega)).2 y a (by omega) q8 q7⟩)
                      · refine g_if_eq (pc' := 93) B 97 (by omega) dX12_to_90 (by decide) rfl (fun _ => ?_) (fun q => absurd q (by decide))
                        refine g_iconst (pc' := 98) B dX12_to_97 rfl ?_
                        refine g_istore (pc' := 100) B [(5, .int (iI 0)), (7, .int (iI s)), (6, .int (iI e)), (4, .int (iI d)), (0, .ref (K.2.2 57)), (1, .int (iI f)), (2, .int (iI w)), (3, .int (iI t))] dX12_to_98 rfl (by decide) rfl ?_
                        refine g_iinc (pc' := 103) B 1 [(7, .int (iI (s + 1))), (5, .int (iI 0)), (6, .int (iI e)), (4, .int (iI d)), (0, .ref (K.2.2 57)), (1, .int (iI f)), (2, .int (iI w)), (3, .int (iI t))] dX12_to_100 rfl rfl (by decide) rfl ?_
                        refine g_goto (pc' := 49) B dX12_to_103 (by decide) ?_
                        refine g_loc B [(7, .int (iI (s + 1))), (6, .int (iI e)), (5, .int (iI 0)), (4, .int (iI d)), (0, .ref (K.2.2 57)), (1, .int (iI f)), (2, .int (iI w)), (3, .int (iI t))] [0, 2, 1, 3, 4, 5, 6, 7] rfl ?_
                        exact ih49 _ (by omega) d 0 e (s + 1) rfl (by omega) (by exact i0) (by exact i6) (by omega) (by intro q9 q8; first | (exfalso; omega) | (rcases q8.2.2 with q7 | q7; omega; exact h87 (q7 s (by omega) (by omega) (by omega)))) (by intro q9; first | (exfalso; omega) | exact ⟨(i5 (by omega)).1, fun y a b q8 q7 => by by_cases e9 : y = s; (subst e9; first | (exfalso; omega) | exact h87); exact (i5 (by omega)).2 y a (by omega) q8 q7⟩)
          exact L49 _ (f - 1) 1 f 0 rfl (by omega) (by unfold bes; (repeat' split) <;> omega) (by unfold bes; (repeat' split) <;> omega) (by omega) (by intro q9 q8; first | (exfalso; omega) | (have q7 := q8.2.1; revert q7; unfold bes; (repeat' split) <;> omega)) (by intro q9; first | (exfalso; omega) | exact ⟨by unfold bes; (repeat' split) <;> omega, fun y a b => by omega⟩)
        · refine g_iload (pc' := 40) B 1 rfl dX12_to_38 rfl ?_
          refine g_goto (pc' := 44) B dX12_to_40 (by decide) ?_
          refine g_istore (pc' := 46) B [(6, .int (iI (f - 1))), (5, .int (iI 1)), (4, .int (iI (f - 1))), (0, .ref (K.2.2 57)), (1, .int (iI f)), (2, .int (iI w)), (3, .int (iI t))] dX12_to_44 rfl (by decide) rfl ?_
          refine g_iconst (pc' := 47) B dX12_to_46 rfl ?_
          refine g_istore (pc' := 49) B [(7, .int (iI 0)), (6, .int (iI (f - 1))), (5, .int (iI 1)), (4, .int (iI (f - 1))), (0, .ref (K.2.2 57)), (1, .int (iI f)), (2, .int (iI w)), (3, .int (iI t))] dX12_to_47 rfl (by decide) rfl ?_
          have L49 : ∀ (nn : Nat) (d c e s : Int) , (D 9 2 - s).toNat = nn → (0 ≤ s ∧ s ≤ D 9 2) → (d = bes f w) → (e = min f (bes f w)) → (c = 0 ∨ c = 1) → (c = 0 → ¬ can D f t w) → (c = 1 → (0 ≤ bes f w ∧ bes f w < D 9 0) ∧ ∀ y : Int, 0 ≤ y → y < s → bes f w ≠ f → D 5 y = min f (bes f w) → opn D y t) → G pP l eE (rmo 2 46) sS mM [.ref (K.2.2 57), .int (iI f), .int (iI w), .int (iI t)].toArray bW mT cC 0 0 (MQ bW (Qi K (fun z τ => σ = τ ∧ z = tow D f t w)) [.ref (K.2.2 57), .int (iI f), .int (iI w), .int (iI t)].toArray sS 0 0 (wA K)) K sS.heap 8 σ 49 [(7, .int (iI s)), (6, .int (iI e)), (5, .int (iI c)), (4, .int (iI d)), (0, .ref (K.2.2 57)), (1, .int (iI f)), (2, .int (iI w)), (3, .int (iI t))] [] := by
            intro nn
            induction nn using Nat.strongRecOn with
            | _ nn ih49 =>
              intro d c e s hn49 i1 i0 i6 i7 i4 i5
              have hbb := bes_bd f w
              refine g_iload (pc' := 51) B 0 rfl dX12_to_49 rfl ?_
              refine g_aload_n (pc' := 52) B 4 rfl rfl dX12_to_51 rfl ?_
              refine g_get (pc' := 55) B (D 9 2) hM.2.2.1 fl_X12_137 rfl rfl dX12_to_52 rfl ?_
              refine g_icmp_ge (pc' := 58) B 106 (by omega) (by omega) dX12_to_55 (by decide) rfl (fun c55 => ?_) (fun c55 => ?_)
              · refine g_iload (pc' := 108) B 2 rfl dX12_to_106 rfl ?_
                refine g_if_eq (pc' := 111) B 116 (by omega) dX12_to_108 (by decide) rfl (fun c108 => ?_) (fun c108 => ?_)
                · refine g_iconst (pc' := 117) B dX12_to_116 rfl ?_
                  exact g_iret (z := (-1)) B hrt rfl hlk dX12_to_117 ⟨rfl, (tow_neg (i4 (by omega))).symm⟩
                · refine g_iload (pc' := 113) B 3 rfl dX12_to_111 rfl ?_
                  refine g_goto (pc' := 117) B dX12_to_113 (by decide) ?_
                  exact g_iret (z := d) B hrt rfl hlk dX12_to_117 ⟨rfl, by first | (exfalso; omega) | (have q9 := i5 (by omega); rw [i0, tow_pos (show can D f t w from ⟨hf, q9.1, by first | exact Or.inl (by omega) | (by_cases q8 : bes f w = f; exact Or.inl q8; exact Or.inr (fun y a b e9 => q9.2 y a (by omega) q8 e9))⟩)])⟩
              · refine g_iload (pc' := 60) B 2 rfl dX12_to_58 rfl ?_
                refine g_if_eq (pc' := 63) B 106 (by omega) dX12_to_60 (by decide) rfl (fun c60 => ?_) (fun c60 => ?_)
                · refine g_iload (pc' := 108) B 2 rfl dX12_to_106 rfl ?_
                  refine g_if_eq (pc' := 111) B 116 (by omega) dX12_to_108 (by decide) rfl (fun c108 => ?_) (fun c108 => ?_)
                  · refine g_iconst (pc' := 117) B dX12_to_116 rfl ?_
                    exact g_iret (z := (-1)) B hrt rfl hlk dX12_to_117 ⟨rfl, (tow_neg (i4 (by omega))).symm⟩
                  · refine g_iload (pc' := 113) B 3 rfl dX12_to_111 rfl ?_
                    refine g_goto (pc' := 117) B dX12_to_113 (by decide) ?_
                    exact g_iret (z := d) B hrt rfl hlk dX12_to_117 ⟨rfl, by first | (exfalso; omega) | (have q9 := i5 (by omega); rw [i0, tow_pos (show can D f t w from ⟨hf, q9.1, by first | exact Or.inl (by omega) | (by_cases q8 : bes f w = f; exact Or.inl q8; exact Or.inr (fun y a b e9 => q9.2 y a (by omega) q8 e9))⟩)])⟩
                · refine g_iload (pc' := 65) B 3 rfl dX12_to_63 rfl ?_
                  refine g_iload_n (pc' := 66) B 5 rfl rfl dX12_to_65 rfl ?_
                  refine g_icmp_eq (pc' := 69) B 106 (by omega) (by omega) dX12_to_66 (by decide) rfl (fun c66 => ?_) (fun c66 => ?_)
                  · refine g_iload (pc' := 108) B 2 rfl dX12_to_106 rfl ?_
                    refine g_if_eq (pc' := 111) B 116 (by omega) dX12_to_108 (by decide) rfl (fun c108 => ?_) (fun c108 => ?_)
                    · refine g_iconst (pc' := 117) B dX12_to_116 rfl ?_
                      exact g_iret (z := (-1)) B hrt rfl hlk dX12_to_117 ⟨rfl, (tow_neg (i4 (by omega))).symm⟩
                    · refine g_iload (pc' := 113) B 3 rfl dX12_to_111 rfl ?_
                      refine g_goto (pc' := 117) B dX12_to_113 (by decide) ?_
                      exact g_iret (z := d) B hrt rfl hlk dX12_to_117 ⟨rfl, by first | (exfalso; omega) | (have q9 := i5 (by omega); rw [i0, tow_pos (show can D f t w from ⟨hf, q9.1, by first | exact Or.inl (by omega) | (by_cases q8 : bes f w = f; exact Or.inl q8; exact Or.inr (fun y a b e9 => q9.2 y a (by omega) q8 e9))⟩)])⟩
                  · refine g_aload_n (pc' := 70) B 4 rfl rfl dX12_to_69 rfl ?_
                    refine g_getR (pc' := 73) B 62 fl_X12_23 rfl rfl dX12_to_70 rfl ?_
                    refine g_iconst (pc' := 74) B dX12_to_73 rfl ?_
                    refine g_iload (pc' := 76) B 0 rfl dX12_to_74 rfl ?_
                    refine g_imul (pc' := 77) B dX12_to_76 rfl ?_
                    refine g_iald (pc' := 78) B (D 5 s) (hM.2.2.2.2.2.2 s (by omega) (by omega)).1 rfl (by omega) (by decide) dX12_to_77 rfl ?_
                    refine g_iload (pc' := 80) B 1 rfl dX12_to_78 rfl ?_
                    have hs9 := hO1 s (by omega) (by omega)
                    refine g_icmp_ne (pc' := 83) B 93 (by omega) (by omega) dX12_to_80 (by decide) rfl (fun c80 => ?_) (fun c80 => ?_)
                    · refine g_iconst (pc' := 94) B dX12_to_93 rfl ?_
                      refine g_goto (pc' := 98) B dX12_to_94 (by decide) ?_
                      refine g_istore (pc' := 100) B [(5, .int (iI 1)), (7, .int (iI s)), (6, .int (iI e)), (4, .int (iI d)), (0, .ref (K.2.2 57)), (1, .int (iI f)), (2, .int (iI w)), (3, .int (iI t))] dX12_to_98 rfl (by decide) rfl ?_
                      refine g_iinc (pc' := 103) B 1 [(7, .int (iI (s + 1))), (5, .int (iI 1)), (6, .int (iI e)), (4, .int (iI d)), (0, .ref (K.2.2 57)), (1, .int (iI f)), (2, .int (iI w)), (3, .int (iI t))] dX12_to_100 rfl rfl (by decide) rfl ?_
                      refine g_goto (pc' := 49) B dX12_to_103 (by decide) ?_
                      refine g_loc B [(7, .int (iI (s + 1))), (6, .int (iI e)), (5, .int (iI 1)), (4, .int (iI d)), (0, .ref (K.2.2 57)), (1, .int (iI f)), (2, .int (iI w)), (3, .int (iI t))] [0, 2, 1, 3, 4, 5, 6, 7] rfl ?_
                      exact ih49 _ (by omega) d 1 e (s + 1) rfl (by omega) (by exact i0) (by exact i6) (by omega) (by intro q9 q8; first | (exfalso; omega) | (rcases q8.2.2 with q7 | q7; omega; exact h87 (q7 s (by omega) (by omega) (by omega)))) (by intro q9; first | (exfalso; omega) | exact ⟨(i5 (by omega)).1, fun y a b q8 q7 => by by_cases e9 : y = s; (subst e9; first | (exfalso; omega) | exact h87); exact (i5 (by omega)).2 y a (by omega) q8 q7⟩)
                    · refine g_aload_n (pc' := 84) B 4 rfl rfl dX12_to_83 rfl ?_
                      refine g_iload (pc' := 86) B 0 rfl dX12_to_84 rfl ?_
                      refine g_iload_n (pc' := 87) B 7 rfl rfl dX12_to_86 rfl ?_
                      refine g_callVI (pc' := 90) (As := [.int (iI s), .int (iI t)]) B (c_X12_isSeamOpen l K _ (D := D) (s := s) (t := t) hM hF hR hO hH (by omega) (by omega)) vt_X12_isSeamOpen tw_1096 rfl rfl ⟨by decide, by decide⟩ rfl (Nat.le_of_ble_eq_true rfl) ⟨Nat.zero_le _, Nat.zero_le _⟩ rfl dX12_to_87 rfl (fun z87 τ87 h87 => ?_)
                      obtain ⟨rfl, h87⟩ := h87
                      rcases h87 with ⟨h87, rfl⟩ | ⟨h87, rfl⟩
                      · refine g_if_eq (pc' := 93) B 97 (by omega) dX12_to_90 (by decide) rfl (fun q => absurd q (by decide)) (fun _ => ?_)
                        refine g_iconst (pc' := 94) B dX12_to_93 rfl ?_
                        refine g_goto (pc' := 98) B dX12_to_94 (by decide) ?_
                        refine g_istore (pc' := 100) B [(5, .int (iI 1)), (7, .int (iI s)), (6, .int (iI e)), (4, .int (iI d)), (0, .ref (K.2.2 57)), (1, .int (iI f)), (2, .int (iI w)), (3, .int (iI t))] dX12_to_98 rfl (by decide) rfl ?_
                        refine g_iinc (pc' := 103) B 1 [(7, .int (iI (s + 1))), (5, .int (iI 1)), (6, .int (iI e)), (4, .int (iI d)), (0, .ref (K.2.2 57)), (1, .int (iI f)), (2, .int (iI w)), (3, .int (iI t))] dX12_to_100 rfl rfl (by decide) rfl ?_
                        refine g_goto (pc' := 49) B dX12_to_103 (by decide) ?_
                        refine g_loc B [(7, .int (iI (s + 1))), (6, .int (iI e)), (5, .int (iI 1)), (4, .int (iI d)), (0, .ref (K.2.2 57)), (1, .int (iI f)), (2, .int (iI w)), (3, .int (iI t))] [0, 2, 1, 3, 4, 5, 6, 7] rfl ?_
                        exact ih49 _ (by omega) d 1 e (s + 1) rfl (by omega) (by exact i0) (by exact i6) (by omega) (by intro q9 q8; first | (exfalso; omega) | (rcases q8.2.2 with q7 | q7; omega; exact h87 (q7 s (by omega) (by omega) (by omega)))) (by intro q9; first | (exfalso; omega) | exact ⟨(i5 (by omega)).1, fun y a b q8 q7 => by by_cases e9 : y = s; (subst e9; first | (exfalso; omega) | exact h87); exact (i5 (by omega)).2 y a (by omega) q8 q7⟩)
                      · refine g_if_eq (pc' := 93) B 97 (by omega) dX12_to_90 (by decide) rfl (fun _ => ?_) (fun q => absurd q (by decide))
                        refine g_iconst (pc' := 98) B dX12_to_97 rfl ?_
                        refine g_istore (pc' := 100) B [(5, .int (iI 0)), (7, .int (iI s)), (6, .int (iI e)), (4, .int (iI d)), (0, .ref (K.2.2 57)), (1, .int (iI f)), (2, .int (iI w)), (3, .int (iI t))] dX12_to_98 rfl (by decide) rfl ?_
                        refine g_iinc (pc' := 103) B 1 [(7, .int (iI (s + 1))), (5, .int (iI 0)), (6, .int (iI e)), (4, .int (iI d)), (0, .ref (K.2.2 57)), (1, .int (iI f)), (2, .int (iI w)), (3, .int (iI t))] dX12_to_100 rfl rfl (by decide) rfl ?_
                        refine g_goto (pc' := 49) B dX12_to_103 (by decide) ?_
                        refine g_loc B [(7, .int (iI (s + 1))), (6, .int (iI e)), (5, .int (iI 0)), (4, .int (iI d)), (0, .ref (K.2.2 57)), (1, .int (iI f)), (2, .int (iI w)), (3, .int (iI t))] [0, 2, 1, 3, 4, 5, 6, 7] rfl ?_
                        exact ih49 _ (by omega) d 0 e (s + 1) rfl (by omega) (by exact i0) (by exact i6) (by omega) (by intro q9 q8; first | (exfalso; omega) | (rcases q8.2.2 with q7 | q7; omega; exact h87 (q7 s (by omega) (by omega) (by omega)))) (by intro q9; first | (exfalso; omega) | exact ⟨(i5 (by omega)).1, fun y a b q8 q7 => by by_cases e9 : y = s; (subst e9; first | (exfalso; omega) | exact h87); exact (i5 (by omega)).2 y a (by omega) q8 q7⟩)
          exact L49 _ (f - 1) 1 (f - 1) 0 rfl (by omega) (by unfold bes; (repeat' split) <;> omega) (by unfold bes; (repeat' split) <;> omega) (by omega) (by intro q9 q8; first | (exfalso; omega) | (have q7 := q8.2.1; revert q7; unfold bes; (repeat' split) <;> omega)) (by intro q9; first | (exfalso; omega) | exact ⟨by unfold bes; (repeat' split) <;> omega, fun y a b => by omega⟩)
      · refine g_istore (pc' := 32) B [(5, .int (iI 0)), (4, .int (iI (f - 1))), (0, .ref (K.2.2 57)), (1, .int (iI f)), (2, .int (iI w)), (3, .int (iI t))] dX12_to_30 rfl (by decide) rfl ?_
        refine g_iload (pc' := 34) B 1 rfl dX12_to_32 rfl ?_
        refine g_iload_n (pc' := 35) B 3 rfl rfl dX12_to_34 rfl ?_
        refine g_icmp_ge (pc' := 38) B 43 (by omega) (by omega) dX12_to_35 (by decide) rfl (fun c35 => ?_) (fun c35 => ?_)
        · refine g_iload_n (pc' := 44) B 3 rfl rfl dX12_to_43 rfl ?_
          refine g_istore (pc' := 46) B [(6, .int (iI f)), (5, .int (iI 0)), (4, .int (iI (f - 1))), (0, .ref (K.2.2 57)), (1, .int (iI f)), (2, .int (iI w)), (3, .int (iI t))] dX12_to_44 rfl (by decide) rfl ?_
          refine g_iconst (pc' := 47) B dX12_to_46 rfl ?_
          refine g_istore (pc' := 49) B [(7, .int (iI 0)), (6, .int (iI f)), (5, .int (iI 0)), (4, .int (iI (f - 1))), (0, .ref (K.2.2 57)), (1, .int (iI f)), (2, .int (iI w)), (3, .int (iI t))] dX12_to_47 rfl (by decide) rfl ?_
          have L49 : ∀ (nn : Nat) (d c e s : Int) , (D 9 2 - s).toNat = nn → (0 ≤ s ∧ s ≤ D 9 2) → (d = bes f w) → (e = min f (bes f w)) → (c = 0 ∨ c = 1) → (c = 0 → ¬ can D f t w) → (c = 1 → (0 ≤ bes f w ∧ bes f w < D 9 0) ∧ ∀ y : Int, 0 ≤ y → y < s → bes f w ≠ f → D 5 y = min f (bes f w) → opn D y t) → G pP l eE (rmo 2 46) sS mM [.ref (K.2.2 57), .int (iI f), .int (iI w), .int (iI t)].toArray bW mT cC 0 0 (MQ bW (Qi K (fun z τ => σ = τ ∧ z = tow D f t w)) [.ref (K.2.2 57), .int (iI f), .int (iI w), .int (iI t)].toArray sS 0 0 (wA K)) K sS.heap 8 σ 49 [(7, .int (iI s)), (6, .int (iI e)), (5, .int (iI c)), (4, .int (iI d)), (0, .ref (K.2.2 57)), (1, .int (iI f)), (2, .int (iI w)), (3, .int (iI t))] [] := by
            intro nn
            induction nn using Nat.strongRecOn with
            | _ nn ih49 =>
              intro d c e s hn49 i1 i0 i6 i7 i4 i5
              have hbb := bes_bd f w
              refine g_iload (pc' := 51) B 0 rfl dX12_to_49 rfl ?_
              refine g_aload_n (pc' := 52) B 4 rfl rfl dX12_to_51 rfl ?_
              refine g_get (pc' := 55) B (D 9 2) hM.2.2.1 fl_X12_137 rfl rfl dX12_to_52 rfl ?_
              refine g_icmp_ge (pc' := 58) B 106 (by omega) (by omega) dX12_to_55 (by decide) rfl (fun c55 => ?_) (fun c55 => ?_)
              · refine g_iload (pc' := 108) B 2 rfl dX12_to_106 rfl ?_
                refine g_if_eq (pc' := 111) B 116 (by omega) dX12_to_108 (by decide) rfl (fun c108 => ?_) (fun c108 => ?_)
                · refine g_iconst (pc' := 117) B dX12_to_116 rfl ?_
                  exact g_iret (z := (-1)) B hrt rfl hlk dX12_to_117 ⟨rfl, (tow_neg (i4 (by omega))).symm⟩
                · refine g_iload (pc' := 113) B 3 rfl dX12_to_111 rfl ?_
                  refine g_goto (pc' := 117) B dX12_to_113 (by decide) ?_
                  exact g_iret (z := d) B hrt rfl hlk dX12_to_117 ⟨rfl, by first | (exfalso; omega) | (have q9 := i5 (by omega); rw [i0, tow_pos (show can D f t w from ⟨hf, q9.1, by first | exact Or.inl (by omega) | (by_cases q8 : bes f w = f; exact Or.inl q8; exact Or.inr (fun y a b e9 => q9.2 y a (by omega) q8 e9))⟩)])⟩
              · refine g_iload (pc' := 60) B 2 rfl dX12_to_58 rfl ?_
                refine g_if_eq (pc' := 63) B 106 (by omega) dX12_to_60 (by decide) rfl (fun c60 => ?_) (fun c60 => ?_)
                · refine g_iload (pc' := 108) B 2 rfl dX12_to_106 rfl ?_
                  refine g_if_eq (pc' := 111) B 116 (by omega) dX12_to_108 (by decide) rfl (fun c108 => ?_) (fun c108 => ?_)
                  · refine g_iconst (pc' := 117) B dX12_to_116 rfl ?_
                    exact g_iret (z := (-1)) B hrt rfl hlk dX12_to_117 ⟨rfl, (tow_neg (i4 (by omega))).symm⟩
                  · refine g_iload (pc' := 113) B 3 rfl dX12_to_111 rfl ?_
                    refine g_goto (pc' := 117) B dX12_to_113 (by decide) ?_
                    exact g_iret (z := d) B hrt rfl hlk dX12_to_117 ⟨rfl, by first | (exfalso; omega) | (have q9 := i5 (by omega); rw [i0, tow_pos (show can D f t w from ⟨hf, q9.1, by first | exact Or.inl (by omega) | (by_cases q8 : bes f w = f; exact Or.inl q8; exact Or.inr (fun y a b e9 => q9.2 y a (by omega) q8 e9))⟩)])⟩
                · refine g_iload (pc' := 65) B 3 rfl dX12_to_63 rfl ?_
                  refine g_iload_n (pc' := 66) B 5 rfl rfl dX12_to_65 rfl ?_
                  refine g_icmp_eq (pc' := 69) B 106 (by omega) (by omega) dX12_to_66 (by decide) rfl (fun c66 => ?_) (fun c66 => ?_)
                  · refine g_iload (pc' := 108) B 2 rfl dX12_to_106 rfl ?_
                    refine g_if_eq (pc' := 111) B 116 (by omega) dX12_to_108 (by decide) rfl (fun c108 => ?_) (fun c108 => ?_)
                    · refine g_iconst (pc' := 117) B dX12_to_116 rfl ?_
                      exact g_iret (z := (-1)) B hrt rfl hlk dX12_to_117 ⟨rfl, (tow_neg (i4 (by omega))).symm⟩
                    · refine g_iload (pc' := 113) B 3 rfl dX12_to_111 rfl ?_
                      refine g_goto (pc' := 117) B dX12_to_113 (by decide) ?_
                      exact g_iret (z := d) B hrt rfl hlk dX12_to_117 ⟨rfl, by first | (exfalso; omega) | (have q9 := i5 (by omega); rw [i0, tow_pos (show can D f t w from ⟨hf, q9.1, by first | exact Or.inl (by omega) | (by_cases q8 : bes f w = f; exact Or.inl q8; exact Or.inr (fun y a b e9 => q9.2 y a (by omega) q8 e9))⟩)])⟩
                  · refine g_aload_n (pc' := 70) B 4 rfl rfl dX12_to_69 rfl ?_
                    refine g_getR (pc' := 73) B 62 fl_X12_23 rfl rfl dX12_to_70 rfl ?_
                    refine g_iconst (pc' := 74) B dX12_to_73 rfl ?_
                    refine g_iload (pc' := 76) B 0 rfl dX12_to_74 rfl ?_
                    refine g_imul (pc' := 77) B dX12_to_76 rfl ?_
                    refine g_iald (pc' := 78) B (D 5 s) (hM.2.2.2.2.2.2 s (by omega) (by omega)).1 rfl (by omega) (by decide) dX12_to_77 rfl ?_
                    refine g_iload (pc' := 80) B 1 rfl dX12_to_78 rfl ?_
                    have hs9 := hO1 s (by omega) (by omega)
                    refine g_icmp_ne (pc' := 83) B 93 (by omega) (by omega) dX12_to_80 (by decide) rfl (fun c80 => ?_) (fun c80 => ?_)
                    · refine g_iconst (pc' := 94) B dX12_to_93 rfl ?_
                      refine g_goto (pc' := 98) B dX12_to_94 (by decide) ?_
                      refine g_istore (pc' := 100) B [(5, .int (iI 1)), (7, .int (iI s)), (6, .int (iI e)), (4, .int (iI d)), (0, .ref (K.2.2 57)), (1, .int (iI f)), (2, .int (iI w)), (3, .int (iI t))] dX12_to_98 rfl (by decide) rfl ?_
                      refine g_iinc (pc' := 103) B 1 [(7, .int (iI (s + 1))), (5, .int (iI 1)), (6, .int (iI e)), (4, .int (iI d)), (0, .ref (K.2.2 57)), (1, .int (iI f)), (2, .int (iI w)), (3, .int (iI t))] dX12_to_100 rfl rfl (by decide) rfl ?_
                      refine g_goto (pc' := 49) B dX12_to_103 (by decide) ?_
                      refine g_loc B [(7, .int (iI (s + 1))), (6, .int (iI e)), (5, .int (iI 1)), (4, .int (iI d)), (0, .ref (K.2.2 57)), (1, .int (iI f)), (2, .int (iI w)), (3, .int (iI t))] [0, 2, 1, 3, 4, 5, 6, 7] rfl ?_
                      exact ih49 _ (by omega) d 1 e (s + 1) rfl (by omega) (by exact i0) (by exact i6) (by omega) (by intro q9 q8; first | (exfalso; omega) | (rcases q8.2.2 with q7 | q7; omega; exact h87 (q7 s (by omega) (by omega) (by omega)))) (by intro q9; first | (exfalso; omega) | exact ⟨(i5 (by omega)).1, fun y a b q8 q7 => by by_cases e9 : y = s; (subst e9; first | (exfalso; omega) | exact h87); exact (i5 (by omega)).2 y a (by omega) q8 q7⟩)
                    · refine g_aload_n (pc' := 84) B 4 rfl rfl dX12_to_83 rfl ?_
                      refine g_iload (pc' := 86) B 0 rfl dX12_to_84 rfl ?_
                      refine g_iload_n (pc' := 87) B 7 rfl rfl dX12_to_86 rfl ?_
                      refine g_callVI (pc' := 90) (As := [.int (iI s), .int (iI t)]) B (c_X12_isSeamOpen l K _ (D := D) (s := s) (t := t) hM hF hR hO hH (by omega) (by omega)) vt_X12_isSeamOpen tw_1096 rfl rfl ⟨by decide, by decide⟩ rfl (Nat.le_of_ble_eq_true rfl) ⟨Nat.zero_le _, Nat.zero_le _⟩ rfl dX12_to_87 rfl (fun z87 τ87 h87 => ?_)
                      obtain ⟨rfl, h87⟩ := h87
                      rcases h87 with ⟨h87, rfl⟩ | ⟨h87, rfl⟩
                      · refine g_if_eq (pc' := 93) B 97 (by omega) dX12_to_90 (by decide) rfl (fun q => absurd q (by decide)) (fun _ => ?_)
                        refine g_iconst (pc' := 94) B dX12_to_93 rfl ?_
                        refine g_goto (pc' := 98) B dX12_to_94 (by decide) ?_
                        refine g_istore (pc' := 100) B [(5, .int (iI 1)), (7, .int (iI s)), (6, .int (iI e)), (4, .int (iI d)), (0, .ref (K.2.2 57)), (1, .int (iI f)), (2, .int (iI w)), (3, .int (iI t))] dX12_to_98 rfl (by decide) rfl ?_
                        refine g_iinc (pc' := 103) B 1 [(7, .int (iI (s + 1))), (5, .int (iI 1)), (6, .int (iI e)), (4, .int (iI d)), (0, .ref (K.2.2 57)), (1, .int (iI f)), (2, .int (iI w)), (3, .int (iI t))] dX12_to_100 rfl rfl (by decide) rfl ?_
                        refine g_goto (pc' := 49) B dX12_to_103 (by decide) ?_
                        refine g_loc B [(7, .int (iI (s + 1))), (6, .int (iI e)), (5, .int (iI 1)), (4, .int (iI d)), (0, .ref (K.2.2 57)), (1, .int (iI f)), (2, .int (iI w)), (3, .int (iI t))] [0, 2, 1, 3, 4, 5, 6, 7] rfl ?_
                        exact ih49 _ (by omega) d 1 e (s + 1) rfl (by omega) (by exact i0) (by exact i6) (by omega) (by intro q9 q8; first | (exfalso; omega) | (rcases q8.2.2 with q7 | q7; omega; exact h87 (q7 s (by omega) (by omega) (by omega)))) (by intro q9; first | (exfalso; omega) | exact ⟨(i5 (by omega)).1, fun y a b q8 q7 => by by_cases e9 : y = s; (subst e9; first | (exfalso; omega) | exact h87); exact (i5 (by omega)).2 y a (by omega) q8 q7⟩)
                      · refine g_if_eq (pc' := 93) B 97 (by omega) dX12_to_90 (by decide) rfl (fun _ => ?_) (fun q => absurd q (by decide))
                        refine g_iconst (pc' := 98) B dX12_to_97 rfl ?_
                        refine g_istore (pc' := 100) B [(5, .int (iI 0)), (7, .int (iI s)), (6, .int (iI e)), (4, .int (iI d)), (0, .ref (K.2.2 57)), (1, .int (iI f)), (2, .int (iI w)), (3, .int (iI t))] dX12_to_98 rfl (by decide) rfl ?_
                        refine g_iinc (pc' := 103) B 1 [(7, .int (iI (s + 1))), (5, .int (iI 0)), (6, .int (iI e)), (4, .int (iI d)), (0, .ref (K.2.2 57)), (1, .int (iI f)), (2, .int (iI w)), (3, .int (iI t))] dX12_to_100 rfl rfl (by decide) rfl ?_
                        refine g_goto (pc' := 49) B dX12_to_103 (by decide) ?_
                        refine g_loc B [(7, .int (iI (s + 1))), (6, .int (iI e)), (5, .int (iI 0)), (4, .int (iI d)), (0, .ref (K.2.2 57)), (1, .int (iI f)), (2, .int (iI w)), (3, .int (iI t))] [0, 2, 1, 3, 4, 5, 6, 7] rfl ?_
                        exact ih49 _ (by omega) d 0 e (s + 1) rfl (by omega) (by exact i0) (by exact i6) (by omega) (by intro q9 q8; first | (exfalso; omega) | (rcases q8.2.2 with q7 | q7; omega; exact h87 (q7 s (by omega) (by omega) (by omega)))) (by intro q9; first | (exfalso; omega) | exact ⟨(i5 (by omega)).1, fun y a b q8 q7 => by by_cases e9 : y = s; (subst e9; first | (exfalso; omega) | exact h87); exact (i5 (by omega)).2 y a (by omega) q8 q7⟩)
          exact L49 _ (f - 1) 0 f 0 rfl (by omega) (by unfold bes; (repeat' split) <;> omega) (by unfold bes; (repeat' split) <;> omega) (by omega) (by intro q9 q8; first | (exfalso; omega) | (have q7 := q8.2.1; revert q7; unfold bes; (repeat' split) <;> omega)) (by intro q9; first | (exfalso; omega) | exact ⟨by unfold bes; (repeat' split) <;> omega, fun y a b => by omega⟩)
        · refine g_iload (pc' := 40) B 1 rfl dX12_to_38 rfl ?_
          refine g_goto (pc' := 44) B dX12_to_40 (by decide) ?_
          refine g_istore (pc' := 46) B [(6, .int (iI (f - 1))), (5, .int (iI 0)), (4, .int (iI (f - 1))), (0, .ref (K.2.2 57)), (1, .int (iI f)), (2, .int (iI w)), (3, .int (iI t))] dX12_to_44 rfl (by decide) rfl ?_
          refine g_iconst (pc' := 47) B dX12_to_46 rfl ?_
          refine g_istore (pc' := 49) B [(7, .int (iI 0)), (6, .int (iI (f - 1))), (5, .int (iI 0)), (4, .int (iI (f - 1))), (0, .ref (K.2.2 57)), (1, .int (iI f)), (2, .int (iI w)), (3, .int (iI t))] dX12_to_47 rfl (by decide) rfl ?_
          have L49 : ∀ (nn : Nat) (d c e s : Int) , (D 9 2 - s).toNat = nn → (0 ≤ s ∧ s ≤ D 9 2) → (d = bes f w) → (e = min f (bes f w)) → (c = 0 ∨ c = 1) → (c = 0 → ¬ can D f t w) → (c = 1 → (0 ≤ bes f w ∧ bes f w < D 9 0) ∧ ∀ y : Int, 0 ≤ y → y < s → bes f w ≠ f → D 5 y = min f (bes f w) → opn D y t) → G pP l eE (rmo 2 46) sS mM [.ref (K.2.2 57), .int (iI f), .int (iI w), .int (iI t)].toArray bW mT cC 0 0 (MQ bW (Qi K (fun z τ => σ = τ ∧ z = tow D f t w)) [.ref (K.2.2 57), .int (iI f), .int (iI w), .int (iI t)].toArray sS 0 0 (wA K)) K sS.heap 8 σ 49 [(7, .int (iI s)), (6, .int (iI e)), (5, .int (iI c)), (4, .int (iI d)), (0, .ref (K.2.2 57)), (1, .int (iI f)), (2, .int (iI w)), (3, .int (iI t))] [] := by
            intro nn
            induction nn using Nat.strongRecOn with
            | _ nn ih49 =>
              intro d c e s hn49 i1 i0 i6 i7 i4 i5
              have hbb := bes_bd f w
              refine g_iload (pc' := 51) B 0 rfl dX12_to_49 rfl ?_
              refine g_aload_n (pc' := 52) B 4 rfl rfl dX12_to_51 rfl ?_
              refine g_get (pc' := 55) B (D 9 2) hM.2.2.1 fl_X12_137 rfl rfl dX12_to_52 rfl ?_
              refine g_icmp_ge (pc' := 58) B 106 (by omega) (by omega) dX12_to_55 (by decide) rfl (fun c55 => ?_) (fun c55 => ?_)
              · refine g_iload (pc' := 108) B 2 rfl dX12_to_106 rfl ?_
                refine g_if_eq (pc' := 111) B 116 (by omega) dX12_to_108 (by decide) rfl (fun c108 => ?_) (fun c108 => ?_)
                · refine g_iconst (pc' := 117) B dX12_to_116 rfl ?_
                  exact g_iret (z := (-1)) B hrt rfl hlk dX12_to_117 ⟨rfl, (tow_neg (i4 (by omega))).symm⟩
                · refine g_iload (pc' := 113) B 3 rfl dX12_to_111 rfl ?_
                  refine g_goto (pc' := 117) B dX12_to_113 (by decide) ?_
                  exact g_iret (z := d) B hrt rfl hlk dX12_to_117 ⟨rfl, by first | (exfalso; omega) | (have q9 := i5 (by omega); rw [i0, tow_pos (show can D f t w from ⟨hf, q9.1, by first | exact Or.inl (by omega) | (by_cases q8 : bes f w = f; exact Or.inl q8; exact Or.inr (fun y a b e9 => q9.2 y a (by omega) q8 e9))⟩)])⟩
              · refine g_iload (pc' := 60) B 2 rfl dX12_to_58 rfl ?_
                refine g_if_eq (pc' := 63) B 106 (by omega) dX12_to_60 (by decide) rfl (fun c60 => ?_) (fun c60 => ?_)
                · refine g_iload (pc' := 108) B 2 rfl dX12_to_106 rfl ?_
                  refine g_if_eq (pc' := 111) B 116 (by omega) dX12_to_108 (by decide) rfl (fun c108 => ?_) (fun c108 => ?_)
                  · refine g_iconst (pc' := 117) B dX12_to_116 rfl ?_
                    exact g_iret (z := (-1)) B hrt rfl hlk dX12_to_117 ⟨rfl, (tow_neg (i4 (by omega))).symm⟩
                  · refine g_iload (pc' := 113) B 3 rfl dX12_to_111 rfl ?_
                    refine g_goto (pc' := 117) B dX12_to_113 (by decide) ?_
                    exact g_iret (z := d) B hrt rfl hlk dX12_to_117 ⟨rfl, by first | (exfalso; omega) | (have q9 := i5 (by omega); rw [i0, tow_pos (show can D f t w from ⟨hf, q9.1, by first | exact Or.inl (by omega) | (by_cases q8 : bes f w = f; exact Or.inl q8; exact Or.inr (fun y a b e9 => q9.2 y a (by omega) q8 e9))⟩)])⟩
                · refine g_iload (pc' := 65) B 3 rfl dX12_to_63 rfl ?_
                  refine g_iload_n (pc' := 66) B 5 rfl rfl dX12_to_65 rfl ?_
                  refine g_icmp_eq (pc' := 69) B 106 (by omega) (by omega) dX12_to_66 (by decide) rfl (fun c66 => ?_) (fun c66 => ?_)
                  · refine g_iload (pc' := 108) B 2 rfl dX12_to_106 rfl ?_
                    refine g_if_eq (pc' := 111) B 116 (by omega) dX12_to_108 (by decide) rfl (fun c108 => ?_) (fun c108 => ?_)
                    · refine g_iconst (pc' := 117) B dX12_to_116 rfl ?_
                      exact g_iret (z := (-1)) B hrt rfl hlk dX12_to_117 ⟨rfl, (tow_neg (i4 (by omega))).symm⟩
                    · refine g_iload (pc' := 113) B 3 rfl dX12_to_111 rfl ?_
                      refine g_goto (pc' := 117) B dX12_to_113 (by decide) ?_
                      exact g_iret (z := d) B hrt rfl hlk dX12_to_117 ⟨rfl, by first | (exfalso; omega) | (have q9 := i5 (by omega); rw [i0, tow_pos (show can D f t w from ⟨hf, q9.1, by first | exact Or.inl (by omega) | (by_cases q8 : bes f w = f; exact Or.inl q8; exact Or.inr (fun y a b e9 => q9.2 y a (by omega) q8 e9))⟩)])⟩
                  · refine g_aload_n (pc' := 70) B 4 rfl rfl dX12_to_69 rfl ?_
                    refine g_getR (pc' := 73) B 62 fl_X12_23 rfl rfl dX12_to_70 rfl ?_
                    refine g_iconst (pc' := 74) B dX12_to_73 rfl ?_
                    refine g_iload (pc' := 76) B 0 rfl dX12_to_74 rfl ?_
                    refine g_imul (pc' := 77) B dX12_to_76 rfl ?_
                    refine g_iald (pc' := 78) B (D 5 s) (hM.2.2.2.2.2.2 s (by omega) (by omega)).1 rfl (by omega) (by decide) dX12_to_77 rfl ?_
                    refine g_iload (pc' := 80) B 1 rfl dX12_to_78 rfl ?_
                    have hs9 := hO1 s (by omega) (by omega)
                    refine g_icmp_ne (pc' := 83) B 93 (by omega) (by omega) dX12_to_80 (by decide) rfl (fun c80 => ?_) (fun c80 => ?_)
                    · refine g_iconst (pc' := 94) B dX12_to_93 rfl ?_
                      refine g_goto (pc' := 98) B dX12_to_94 (by decide) ?_
                      refine g_istore (pc' := 100) B [(5, .int (iI 1)), (7, .int (iI s)), (6, .int (iI e)), (4, .int (iI d)), (0, .ref (K.2.2 57)), (1, .int (iI f)), (2, .int (iI w)), (3, .int (iI t))] dX12_to_98 rfl (by decide) rfl ?_
                      refine g_iinc (pc' := 103) B 1 [(7, .int (iI (s + 1))), (5, .int (iI 1)), (6, .int (iI e)), (4, .int (iI d)), (0, .ref (K.2.2 57)), (1, .int (iI f)), (2, .int (iI w)), (3, .int (iI t))] dX12_to_100 rfl rfl (by decide) rfl ?_
                      refine g_goto (pc' := 49) B dX12_to_103 (by decide) ?_
                      refine g_loc B [(7, .int (iI (s + 1))), (6, .int (iI e)), (5, .int (iI 1)), (4, .int (iI d)), (0, .ref (K.2.2 57)), (1, .int (iI f)), (2, .int (iI w)), (3, .int (iI t))] [0, 2, 1, 3, 4, 5, 6, 7] rfl ?_
                      exact ih49 _ (by omega) d 1 e (s + 1) rfl (by omega) (by exact i0) (by exact i6) (by omega) (by intro q9 q8; first | (exfalso; omega) | (rcases q8.2.2 with q7 | q7; omega; exact h87 (q7 s (by omega) (by omega) (by omega)))) (by intro q9; first | (exfalso; omega) | exact ⟨(i5 (by omega)).1, fun y a b q8 q7 => by by_cases e9 : y = s; (subst e9; first | (exfalso; omega) | exact h87); exact (i5 (by omega)).2 y a (by omega) q8 q7⟩)
                    · refine g_aload_n (pc' := 84) B 4 rfl rfl dX12_to_83 rfl ?_
                      refine g_iload (pc' := 86) B 0 rfl dX12_to_84 rfl ?_
                      refine g_iload_n (pc' := 87) B 7 rfl rfl dX12_to_86 rfl ?_
                      refine g_callVI (pc' := 90) (As := [.int (iI s), .int (iI t)]) B (c_X12_isSeamOpen l K _ (D := D) (s := s) (t := t) hM hF hR hO hH (by omega) (by omega)) vt_X12_isSeamOpen tw_1096 rfl rfl ⟨by decide, by decide⟩ rfl (Nat.le_of_ble_eq_true rfl) ⟨Nat.zero_le _, Nat.zero_le _⟩ rfl dX12_to_87 rfl (fun z87 τ87 h87 => ?_)
                      obtain ⟨rfl, h87⟩ := h87
                      rcases h87 with ⟨h87, rfl⟩ | ⟨h87, rfl⟩
                      · refine g_if_eq (pc' := 93) B 97 (by omega) dX12_to_90 (by decide) rfl (fun q => absurd q (by decide)) (fun _ => ?_)
                        refine g_iconst (pc' := 94) B dX12_to_93 rfl ?_
                        refine g_goto (pc' := 98) B dX12_to_94 (by decide) ?_
                        refine g_istore (pc' := 100) B [(5, .int (iI 1)), (7, .int (iI s)), (6, .int (iI e)), (4, .int (iI d)), (0, .ref (K.2.2 57)), (1, .int (iI f)), (2, .int (iI w)), (3, .int (iI t))] dX12_to_98 rfl (by decide) rfl ?_
                        refine g_iinc (pc' := 103) B 1 [(7, .int (iI (s + 1))), (5, .int (iI 1)), (6, .int (iI e)), (4, .int (iI d)), (0, .ref (K.2.2 57)), (1, .int (iI f)), (2, .int (iI w)), (3, .int (iI t))] dX12_to_100 rfl rfl (by decide) rfl ?_
                        refine g_goto (pc' := 49) B dX12_to_103 (by decide) ?_
                        refine g_loc B [(7, .int (iI (s + 1))), (6, .int (iI e)), (5, .int (iI 1)), (4, .int (iI d)), (0, .ref (K.2.2 57)), (1, .int (iI f)), (2, .int (iI w)), (3, .int (iI t))] [0, 2, 1, 3, 4, 5, 6, 7] rfl ?_
                        exact ih49 _ (by omega) d 1 e (s + 1) rfl (by omega) (by exact i0) (by exact i6) (by omega) (by intro q9 q8; first | (exfalso; omega) | (rcases q8.2.2 with q7 | q7; omega; exact h87 (q7 s (by omega) (by omega) (by omega)))) (by intro q9; first | (exfalso; omega) | exact ⟨(i5 (by omega)).1, fun y a b q8 q7 => by by_cases e9 : y = s; (subst e9; first | (exfalso; omega) | exact h87); exact (i5 (by omega)).2 y a (by omega) q8 q7⟩)
                      · refine g_if_eq (pc' := 93) B 97 (by omega) dX12_to_90 (by decide) rfl (fun _ => ?_) (fun q => absurd q (by decide))
                        refine g_iconst (pc' := 98) B dX12_to_97 rfl ?_
                        refine g_istore (pc' := 100) B [(5, .int (iI 0)), (7, .int (iI s)), (6, .int (iI e)), (4, .int (iI d)), (0, .ref (K.2.2 57)), (1, .int (iI f)), (2, .int (iI w)), (3, .int (iI t))] dX12_to_98 rfl (by decide) rfl ?_
                        refine g_iinc (pc' := 103) B 1 [(7, .int (iI (s + 1))), (5, .int (iI 0)), (6, .int (iI e)), (4, .int (iI d)), (0, .ref (K.2.2 57)), (1, .int (iI f)), (2, .int (iI w)), (3, .int (iI t))] dX12_to_100 rfl rfl (by decide) rfl ?_
                        refine g_goto (pc' := 49) B dX12_to_103 (by decide) ?_
                        refine g_loc B [(7, .int (iI (s + 1))), (6, .int (iI e)), (5, .int (iI 0)), (4, .int (iI d)), (0, .ref (K.2.2 57)), (1, .int (iI f)), (2, .int (iI w)), (3, .int (iI t))] [0, 2, 1, 3, 4, 5, 6, 7] rfl ?_
                        exact ih49 _ (by omega) d 0 e (s + 1) rfl (by omega) (by exact i0) (by exact i6) (by omega) (by intro q9 q8; first | (exfalso; omega) | (rcases q8.2.2 with q7 | q7; omega; exact h87 (q7 s (by omega) (by omega) (by omega)))) (by intro q9; first | (exfalso; omega) | exact ⟨(i5 (by omega)).1, fun y a b q8 q7 => by by_cases e9 : y = s; (subst e9; first | (exfalso; omega) | exact h87); exact (i5 (by omega)).2 y a (by omega) q8 q7⟩)
          exact L49 _ (f - 1) 0 (f - 1) 0 rfl (by omega) (by unfold bes; (repeat' split) <;> omega) (by unfold bes; (repeat' split) <;> omega) (by omega) (by intro q9 q8; first | (exfalso; omega) | (have q7 := q8.2.1; revert q7; unfold bes; (repeat' split) <;> omega)) (by intro q9; first | (exfalso; omega) | exact ⟨by unfold bes; (repeat' split) <;> omega, fun y a b => by omega⟩)
  · refine g_iload_n (pc' := 5) B 1 rfl rfl dX12_to_4 rfl ?_
    refine g_goto (pc' := 22) B dX12_to_5 (by decide) ?_
    refine g_istore (pc' := 24) B [(4, .int (iI f)), (0, .ref (K.2.2 57)), (1, .int (iI f)), (2, .int (iI w)), (3, .int (iI t))] dX12_to_22 rfl (by decide) rfl ?_
    refine g_aload_n (pc' := 25) B 1 rfl rfl dX12_to_24 rfl ?_
    refine g_iload (pc' := 27) B 0 rfl dX12_to_25 rfl ?_
    refine g_callVI (pc' := 30) (As := [.int (iI f)]) B (c_X12_isField l K _ (D := D) (f := f) hM hF hR hO hH (by omega)) vt_X12_isField tw_1129 rfl rfl ⟨by decide, by decide⟩ rfl (Nat.le_of_ble_eq_true rfl) ⟨Nat.zero_le _, Nat.zero_le _⟩ rfl dX12_to_27 rfl (fun z27 τ27 h27 => ?_)
    obtain ⟨rfl, h27⟩ := h27
    rcases h27 with ⟨h27, rfl⟩ | ⟨h27, rfl⟩
    · refine g_istore (pc' := 32) B [(5, .int (iI 1)), (4, .int (iI f)), (0, .ref (K.2.2 57)), (1, .int (iI f)), (2, .int (iI w)), (3, .int (iI t))] dX12_to_30 rfl (by decide) rfl ?_
      refine g_iload (pc' := 34) B 1 rfl dX12_to_32 rfl ?_
      refine g_iload_n (pc' := 35) B 3 rfl rfl dX12_to_34 rfl ?_
      refine g_icmp_ge (pc' := 38) B 43 (by omega) (by omega) dX12_to_35 (by decide) rfl (fun c35 => ?_) (fun c35 => ?_)
      · refine g_iload_n (pc' := 44) B 3 rfl rfl dX12_to_43 rfl ?_
        refine g_istore (pc' := 46) B [(6, .int (iI f)), (5, .int (iI 1)), (4, .int (iI f)), (0, .ref (K.2.2 57)), (1, .int (iI f)), (2, .int (iI w)), (3, .int (iI t))] dX12_to_44 rfl (by decide) rfl ?_
        refine g_iconst (pc' := 47) B dX12_to_46 rfl ?_
        refine g_istore (pc' := 49) B [(7, .int (iI 0)), (6, .int (iI f)), (5, .int (iI 1)), (4, .int (iI f)), (0, .ref (K.2.2 57)), (1, .int (iI f)), (2, .int (iI w)), (3, .int (iI t))] dX12_to_47 rfl (by decide) rfl ?_
        have L49 : ∀ (nn : Nat) (d c e s : Int) , (D 9 2 - s).toNat = nn → (0 ≤ s ∧ s ≤ D 9 2) → (d = bes f w) → (e = min f (bes f w)) → (c = 0 ∨ c = 1) → (c = 0 → ¬ can D f t w) → (c = 1 → (0 ≤ bes f w ∧ bes f w < D 9 0) ∧ ∀ y : Int, 0 ≤ y → y < s → bes f w ≠ f → D 5 y = min f (bes f w) → opn D y t) → G pP l eE (rmo 2 46) sS mM [.ref (K.2.2 57), .int (iI f), .int (iI w), .int (iI t)].toArray bW mT cC 0 0 (MQ bW (Qi K (fun z τ => σ = τ ∧ z = tow D f t w)) [.ref (K.2.2 57), .int (iI f), .int (iI w), .int (iI t)].toArray sS 0 0 (wA K)) K sS.heap 8 σ 49 [(7, .int (iI s)), (6, .int (iI e)), (5, .int (iI c)), (4, .int (iI d)), (0, .ref (K.2.2 57)), (1, .int (iI f)), (2, .int (iI w)), (3, .int (iI t))] [] := by
          intro nn
          induction nn using Nat.strongRecOn with
          | _ nn ih49 =>
            intro d c e s hn49 i1 i0 i6 i7 i4 i5
            have hbb := bes_bd f w
            refine g_iload (pc' := 51) B 0 rfl dX12_to_49 rfl ?_
            refine g_aload_n (pc' := 52) B 4 rfl rfl dX12_to_51 rfl ?_
            refine g_get (pc' := 55) B (D 9 2) hM.2.2.1 fl_X12_137 rfl rfl dX12_to_52 rfl ?_
            refine g_icmp_ge (pc' := 58) B 106 (by omega) (by omega) dX12_to_55 (by decide) rfl (fun c55 => ?_) (fun c55 => ?_)
            · refine g_iload (pc' := 108) B 2 rfl dX12_to_106 rfl ?_
              refine g_if_eq (pc' := 111) B 116 (by omega) dX12_to_108 (by decide) rfl (fun c108 => ?_) (fun c108 => ?_)
              · refine g_iconst (pc' := 117) B dX12_to_116 rfl ?_
                exact g_iret (z := (-1)) B hrt rfl hlk dX12_to_117 ⟨rfl, (tow_neg (i4 (by omega))).symm⟩
              · refine g_iload (pc' := 113) B 3 rfl dX12_to_111 rfl ?_
                refine g_goto (pc' := 117) B dX12_to_113 (by decide) ?_
                exact g_iret (z := d) B hrt rfl hlk dX12_to_117 ⟨rfl, by first | (exfalso; omega) | (have q9 := i5 (by omega); rw [i0, tow_pos (show can D f t w from ⟨hf, q9.1, by first | exact Or.inl (by omega) | (by_cases q8 : bes f w = f; exact Or.inl q8; exact Or.inr (fun y a b e9 => q9.2 y a (by omega) q8 e9))⟩)])⟩
            · refine g_iload (pc' := 60) B 2 rfl dX12_to_58 rfl ?_
              refine g_if_eq (pc' := 63) B 106 (by omega) dX12_to_60 (by decide) rfl (fun c60 => ?_) (fun c60 => ?_)
              · refine g_iload (pc' := 108) B 2 rfl dX12_to_106 rfl ?_
                refine g_if_eq (pc' := 111) B 116 (by omega) dX12_to_108 (by decide) rfl (fun c108 => ?_) (fun c108 => ?_)
                · refine g_iconst (pc' := 117) B dX12_to_116 rfl ?_
                  exact g_iret (z := (-1)) B hrt rfl hlk dX12_to_117 ⟨rfl, (tow_neg (i4 (by omega))).symm⟩
                · refine g_iload (pc' := 113) B 3 rfl dX12_to_111 rfl ?_
                  refine g_goto (pc' := 117) B dX12_to_113 (by decide) ?_
                  exact g_iret (z := d) B hrt rfl hlk dX12_to_117 ⟨rfl, by first | (exfalso; omega) | (have q9 := i5 (by omega); rw [i0, tow_pos (show can D f t w from ⟨hf, q9.1, by first | exact Or.inl (by omega) | (by_cases q8 : bes f w = f; exact Or.inl q8; exact Or.inr (fun y a b e9 => q9.2 y a (by omega) q8 e9))⟩)])⟩
              · refine g_iload (pc' := 65) B 3 rfl dX12_to_63 rfl ?_
                refine g_iload_n (pc' := 66) B 5 rfl rfl dX12_to_65 rfl ?_
                refine g_icmp_eq (pc' := 69) B 106 (by omega) (by omega) dX12_to_66 (by decide) rfl (fun c66 => ?_) (fun c66 => ?_)
                · refine g_iload (pc' := 108) B 2 rfl dX12_to_106 rfl ?_
                  refine g_if_eq (pc' := 111) B 116 (by omega) dX12_to_108 (by decide) rfl (fun c108 => ?_) (fun c108 => ?_)
                  · refine g_iconst (pc' := 117) B dX12_to_116 rfl ?_
                    exact g_iret (z := (-1)) B hrt rfl hlk dX12_to_117 ⟨rfl, (tow_neg (i4 (by omega))).symm⟩
                  · refine g_iload (pc' := 113) B 3 rfl dX12_to_111 rfl ?_
                    refine g_goto (pc' := 117) B dX12_to_113 (by decide) ?_
                    exact g_iret (z := d) B hrt rfl hlk dX12_to_117 ⟨rfl, by first | (exfalso; omega) | (have q9 := i5 (by omega); rw [i0, tow_pos (show can D f t w from ⟨hf, q9.1, by first | exact Or.inl (by omega) | (by_cases q8 : bes f w = f; exact Or.inl q8; exact Or.inr (fun y a b e9 => q9.2 y a (by omega) q8 e9))⟩)])⟩
                · refine g_aload_n (pc' := 70) B 4 rfl rfl dX12_to_69 rfl ?_
                  refine g_getR (pc' := 73) B 62 fl_X12_23 rfl rfl dX12_to_70 rfl ?_
                  refine g_iconst (pc' := 74) B dX12_to_73 rfl ?_
                  refine g_iload (pc' := 76) B 0 rfl dX12_to_74 rfl ?_
                  refine g_imul (pc' := 77) B dX12_to_76 rfl ?_
                  refine g_iald (pc' := 78) B (D 5 s) (hM.2.2.2.2.2.2 s (by omega) (by omega)).1 rfl (by omega) (by decide) dX12_to_77 rfl ?_
                  refine g_iload (pc' := 80) B 1 rfl dX12_to_78 rfl ?_
                  have hs9 := hO1 s (by omega) (by omega)
                  refine g_icmp_ne (pc' := 83) B 93 (by omega) (by omega) dX12_to_80 (by decide) rfl (fun c80 => ?_) (fun c80 => ?_)
                  · refine g_iconst (pc' := 94) B dX12_to_93 rfl ?_
                    refine g_goto (pc' := 98) B dX12_to_94 (by decide) ?_
                    refine g_istore (pc' := 100) B [(5, .int (iI 1)), (7, .int (iI s)), (6, .int (iI e)), (4, .int (iI d)), (0, .ref (K.2.2 57)), (1, .int (iI f)), (2, .int (iI w)), (3, .int (iI t))] dX12_to_98 rfl (by decide) rfl ?_
                    refine g_iinc (pc' := 103) B 1 [(7, .int (iI (s + 1))), (5, .int (iI 1)), (6, .int (iI e)), (4, .int (iI d)), (0, .ref (K.2.2 57)), (1, .int (iI f)), (2, .int (iI w)), (3, .int (iI t))] dX12_to_100 rfl rfl (by decide) rfl ?_
                    refine g_goto (pc' := 49) B dX12_to_103 (by decide) ?_
                    refine g_loc B [(7, .int (iI (s + 1))), (6, .int (iI e)), (5, .int (iI 1)), (4, .int (iI d)), (0, .ref (K.2.2 57)), (1, .int (iI f)), (2, .int (iI w)), (3, .int (iI t))] [0, 2, 1, 3, 4, 5, 6, 7] rfl ?_
                    exact ih49 _ (by omega) d 1 e (s + 1) rfl (by omega) (by exact i0) (by exact i6) (by omega) (by intro q9 q8; first | (exfalso; omega) | (rcases q8.2.2 with q7 | q7; omega; exact h87 (q7 s (by omega) (by omega) (by omega)))) (by intro q9; first | (exfalso; omega) | exact ⟨(i5 (by omega)).1, fun y a b q8 q7 => by by_cases e9 : y = s; (subst e9; first | (exfalso; omega) | exact h87); exact (i5 (by omega)).2 y a (by omega) q8 q7⟩)
                  · refine g_aload_n (pc' := 84) B 4 rfl rfl dX12_to_83 rfl ?_
                    refine g_iload (pc' := 86) B 0 rfl dX12_to_84 rfl ?_
                    refine g_iload_n (pc' := 87) B 7 rfl rfl dX12_to_86 rfl ?_
                    refine g_callVI (pc' := 90) (As := [.int (iI s), .int (iI t)]) B (c_X12_isSeamOpen l K _ (D := D) (s := s) (t := t) hM hF hR hO hH (by omega) (by omega)) vt_X12_isSeamOpen tw_1096 rfl rfl ⟨by decide, by decide⟩ rfl (Nat.le_of_ble_eq_true rfl) ⟨Nat.zero_le _, Nat.zero_le _⟩ rfl dX12_to_87 rfl (fun z87 τ87 h87 => ?_)
                    obtain ⟨rfl, h87⟩ := h87
                    rcases h87 with ⟨h87, rfl⟩ | ⟨h87, rfl⟩
                    · refine g_if_eq (pc' := 93) B 97 (by omega) dX12_to_90 (by decide) rfl (fun q => absurd q (by decide)) (fun _ => ?_)
                      refine g_iconst (pc' := 94) B dX12_to_93 rfl ?_
                      refine g_goto (pc' := 98) B dX12_to_94 (by decide) ?_
                      refine g_istore (pc' := 100) B [(5, .int (iI 1)), (7, .int (iI s)), (6, .int (iI e)), (4, .int (iI d)), (0, .ref (K.2.2 57)), (1, .int (iI f)), (2, .int (iI w)), (3, .int (iI t))] dX12_to_98 rfl (by decide) rfl ?_
                      refine g_iinc (pc' := 103) B 1 [(7, .int (iI (s + 1))), (5, .int (iI 1)), (6, .int (iI e)), (4, .int (iI d)), (0, .ref (K.2.2 57)), (1, .int (iI f)), (2, .int (iI w)), (3, .int (iI t))] dX12_to_100 rfl rfl (by decide) rfl ?_
                      refine g_goto (pc' := 49) B dX12_to_103 (by decide) ?_
                      refine g_loc B [(7, .int (iI (s + 1))), (6, .int (iI e)), (5, .int (iI 1)), (4, .int (iI d)), (0, .ref (K.2.2 57)), (1, .int (iI f)), (2, .int (iI w)), (3, .int (iI t))] [0, 2, 1, 3, 4, 5, 6, 7] rfl ?_
                      exact ih49 _ (by omega) d 1 e (s + 1) rfl (by omega) (by exact i0) (by exact i6) (by omega) (by intro q9 q8; first | (exfalso; omega) | (rcases q8.2.2 with q7 | q7; omega; exact h87 (q7 s (by omega) (by omega) (by omega)))) (by intro q9; first | (exfalso; omega) | exact ⟨(i5 (by omega)).1, fun y a b q8 q7 => by by_cases e9 : y = s; (subst e9; first | (exfalso; omega) | exact h87); exact (i5 (by omega)).2 y a (by omega) q8 q7⟩)
                    · refine g_if_eq (pc' := 93) B 97 (by omega) dX12_to_90 (by decide) rfl (fun _ => ?_) (fun q => absurd q (by decide))
                      refine g_iconst (pc' := 98) B dX12_to_97 rfl ?_
                      refine g_istore (pc' := 100) B [(5, .int (iI 0)), (7, .int (iI s)), (6, .int (iI e)), (4, .int (iI d)), (0, .ref (K.2.2 57)), (1, .int (iI f)), (2, .int (iI w)), (3, .int (iI t))] dX12_to_98 rfl (by decide) rfl ?_
                      refine g_iinc (pc' := 103) B 1 [(7, .int (iI (s + 1))), (5, .int (iI 0)), (6, .int (iI e)), (4, .int (iI d)), (0, .ref (K.2.2 57)), (1, .int (iI f)), (2, .int (iI w)), (3, .int (iI t))] dX12_to_100 rfl rfl (by decide) rfl ?_
                      refine g_goto (pc' := 49) B dX12_to_103 (by decide) ?_
                      refine g_loc B [(7, .int (iI (s + 1))), (6, .int (iI e)), (5, .int (iI 0)), (4, .int (iI d)), (0, .ref (K.2.2 57)), (1, .int (iI f)), (2, .int (iI w)), (3, .int (iI t))] [0, 2, 1, 3, 4, 5, 6, 7] rfl ?_
                      exact ih49 _ (by omega) d 0 e (s + 1) rfl (by omega) (by exact i0) (by exact i6) (by omega) (by intro q9 q8; first | (exfalso; omega) | (rcases q8.2.2 with q7 | q7; omega; exact h87 (q7 s (by omega) (by omega) (by omega)))) (by intro q9; first | (exfalso; omega) | exact ⟨(i5 (by omega)).1, fun y a b q8 q7 => by by_cases e9 : y = s; (subst e9; first | (exfalso; omega) | exact h87); exact (i5 (by omega)).2 y a (by omega) q8 q7⟩)
        exact L49 _ f 1 f 0 rfl (by omega) (by unfold bes; (repeat' split) <;> omega) (by unfold bes; (repeat' split) <;> omega) (by omega) (by intro q9 q8; first | (exfalso; omega) | (have q7 := q8.2.1; revert q7; unfold bes; (repeat' split) <;> omega)) (by intro q9; first | (exfalso; omega) | exact ⟨by unfold bes; (repeat' split) <;> omega, fun y a b => by omega⟩)
      · refine g_iload (pc' := 40) B 1 rfl dX12_to_38 rfl ?_
        refine g_goto (pc' := 44) B dX12_to_40 (by decide) ?_
        refine g_istore (pc' := 46) B [(6, .int (iI f)), (5, .int (iI 1)), (4, .int (iI f)), (0, .ref (K.2.2 57)), (1, .int (iI f)), (2, .int (iI w)), (3, .int (iI t))] dX12_to_44 rfl (by decide) rfl ?_
        refine g_iconst (pc' := 47) B dX12_to_46 rfl ?_
        refine g_istore (pc' := 49) B [(7, .int (iI 0)), (6, .int (iI f)), (5, .int (iI 1)), (4, .int (iI f)), (0, .ref (K.2.2 57)), (1, .int (iI f)), (2, .int (iI w)), (3, .int (iI t))] dX12_to_47 rfl (by decide) rfl ?_
        have L49 : ∀ (nn : Nat) (d c e s : Int) , (D 9 2 - s).toNat = nn → (0 ≤ s ∧ s ≤ D 9 2) → (d = bes f w) → (e = min f (bes f w)) → (c = 0 ∨ c = 1) → (c = 0 → ¬ can D f t w) → (c = 1 → (0 ≤ bes f w ∧ bes f w < D 9 0) ∧ ∀ y : Int, 0 ≤ y → y < s → bes f w ≠ f → D 5 y = min f (bes f w) → opn D y t) → G pP l eE (rmo 2 46) sS mM [.ref (K.2.2 57), .int (iI f), .int (iI w), .int (iI t)].toArray bW mT cC 0 0 (MQ bW (Qi K (fun z τ => σ = τ ∧ z = tow D f t w)) [.ref (K.2.2 57), .int (iI f), .int (iI w), .int (iI t)].toArray sS 0 0 (wA K)) K sS.heap 8 σ 49 [(7, .int (iI s)), (6, .int (iI e)), (5, .int (iI c)), (4, .int (iI d)), (0, .ref (K.2.2 57)), (1, .int (iI f)), (2, .int (iI w)), (3, .int (iI t))] [] := by
          intro nn
          induction nn using Nat.strongRecOn with
          | _ nn ih49 =>
            intro d c e s hn49 i1 i0 i6 i7 i4 i5
            have hbb := bes_bd f w
            refine g_iload (pc' := 51) B 0 rfl dX12_to_49 rfl ?_
            refine g_aload_n (pc' := 52) B 4 rfl rfl dX12_to_51 rfl ?_
            refine g_get (pc' := 55) B (D 9 2) hM.2.2.1 fl_X12_137 rfl rfl dX12_to_52 rfl ?_
            refine g_icmp_ge (pc' := 58) B 106 (by omega) (by omega) dX12_to_55 (by decide) rfl (fun c55 => ?_) (fun c55 => ?_)
            · refine g_iload (pc' := 108) B 2 rfl dX12_to_106 rfl ?_
              refine g_if_eq (pc' := 111) B 116 (by omega) dX12_to_108 (by decide) rfl (fun c108 => ?_) (fun c108 => ?_)
              · refine g_iconst (pc' := 117) B dX12_to_116 rfl ?_
                exact g_iret (z := (-1)) B hrt rfl hlk dX12_to_117 ⟨rfl, (tow_neg (i4 (by omega))).symm⟩
              · refine g_iload (pc' := 113) B 3 rfl dX12_to_111 rfl ?_
                refine g_goto (pc' := 117) B dX12_to_113 (by decide) ?_
                exact g_iret (z := d) B hrt rfl hlk dX12_to_117 ⟨rfl, by first | (exfalso; omega) | (have q9 := i5 (by omega); rw [i0, tow_pos (show can D f t w from ⟨hf, q9.1, by first | exact Or.inl (by omega) | (by_cases q8 : bes f w = f; exact Or.inl q8; exact Or.inr (fun y a b e9 => q9.2 y a (by omega) q8 e9))⟩)])⟩
            · refine g_iload (pc' := 60) B 2 rfl dX12_to_58 rfl ?_
              refine g_if_eq (pc' := 63) B 106 (by omega) dX12_to_60 (by decide) rfl (fun c60 => ?_) (fun c60 => ?_)
              · refine g_iload (pc' := 108) B 2 rfl dX12_to_106 rfl ?_
                refine g_if_eq (pc' := 111) B 116 (by omega) dX12_to_108 (by decide) rfl (fun c108 => ?_) (fun c108 => ?_)
                · refine g_iconst (pc' := 117) B dX12_to_116 rfl ?_
                  exact g_iret (z := (-1)) B hrt rfl hlk dX12_to_117 ⟨rfl, (tow_neg (i4 (by omega))).symm⟩
                · refine g_iload (pc' := 113) B 3 rfl dX12_to_111 rfl ?_
                  refine g_goto (pc' := 117) B dX12_to_113 (by decide) ?_
                  exact g_iret (z := d) B hrt rfl hlk dX12_to_117 ⟨rfl, by first | (exfalso; omega) | (have q9 := i5 (by omega); rw [i0, tow_pos (show can D f t w from ⟨hf, q9.1, by first | exact Or.inl (by omega) | (by_cases q8 : bes f w = f; exact Or.inl q8; exact Or.inr (fun y a b e9 => q9.2 y a (by omega) q8 e9))⟩)])⟩
              · refine g_iload (pc' := 65) B 3 rfl dX12_to_63 rfl ?_
                refine g_iload_n (pc' := 66) B 5 rfl rfl dX12_to_65 rfl ?_
                refine g_icmp_eq (pc' := 69) B 106 (by omega) (by omega) dX12_to_66 (by decide) rfl (fun c66 => ?_) (fun c66 => ?_)
                · refine g_iload (pc' := 108) B 2 rfl dX12_to_106 rfl ?_
                  refine g_if_eq (pc' := 111) B 116 (by omega) dX12_to_108 (by decide) rfl (fun c108 => ?_) (fun c108 => ?_)
                  · refine g_iconst (pc' := 117) B dX12_to_116 rfl ?_
                    exact g_iret (z := (-1)) B hrt rfl hlk dX12_to_117 ⟨rfl, (tow_neg (i4 (by omega))).symm⟩
                  · refine g_iload (pc' := 113) B 3 rfl dX12_to_111 rfl ?_
                    refine g_goto (pc' := 117) B dX12_to_113 (by decide) ?_
                    exact g_iret (z := d) B hrt rfl hlk dX12_to_117 ⟨rfl, by first | (exfalso; omega) | (have q9 := i5 (by omega); rw [i0, tow_pos (show can D f t w from ⟨hf, q9.1, by first | exact Or.inl (by omega) | (by_cases q8 : bes f w = f; exact Or.inl q8; exact Or.inr (fun y a b e9 => q9.2 y a (by omega) q8 e9))⟩)])⟩
                · refine g_aload_n (pc' := 70) B 4 rfl rfl dX12_to_69 rfl ?_
                  refine g_getR (pc' := 73) B 62 fl_X12_23 rfl rfl dX12_to_70 rfl ?_
                  refine g_iconst (pc' := 74) B dX12_to_73 rfl ?_
                  refine g_iload (pc' := 76) B 0 rfl dX12_to_74 rfl ?_
                  refine g_imul (pc' := 77) B dX12_to_76 rfl ?_
                  refine g_iald (pc' := 78) B (D 5 s) (hM.2.2.2.2.2.2 s (by omega) (by omega)).1 rfl (by omega) (by decide) dX12_to_77 rfl ?_
                  refine g_iload (pc' := 80) B 1 rfl dX12_to_78 rfl ?_
                  have hs9 := hO1 s (by omega) (by omega)
                  refine g_icmp_ne (pc' := 83) B 93 (by omega) (by omega) dX12_to_80 (by decide) rfl (fun c80 => ?_) (fun c80 => ?_)
                  · refine g_iconst (pc' := 94) B dX12_to_93 rfl ?_
                    refine g_goto (pc' := 98) B dX12_to_94 (by decide) ?_
                    refine g_istore (pc' := 100) B [(5, .int (iI 1)), (7, .int (iI s)), (6, .int (iI e)), (4, .int (iI d)), (0, .ref (K.2.2 57)), (1, .int (iI f)), (2, .int (iI w)), (3, .int (iI t))] dX12_to_98 rfl (by decide) rfl ?_
                    refine g_iinc (pc' := 103) B 1 [(7, .int (iI (s + 1))), (5, .int (iI 1)), (6, .int (iI e)), (4, .int (iI d)), (0, .ref (K.2.2 57)), (1, .int (iI f)), (2, .int (iI w)), (3, .int (iI t))] dX12_to_100 rfl rfl (by decide) rfl ?_
                    refine g_goto (pc' := 49) B dX12_to_103 (by decide) ?_
                    refine g_loc B [(7, .int (iI (s + 1))), (6, .int (iI e)), (5, .int (iI 1)), (4, .int (iI d)), (0, .ref (K.2.2 57)), (1, .int (iI f)), (2, .int (iI w)), (3, .int (iI t))] [0, 2, 1, 3, 4, 5, 6, 7] rfl ?_
                    exact ih49 _ (by omega) d 1 e (s + 1) rfl (by omega) (by exact i0) (by exact i6) (by omega) (by intro q9 q8; first | (exfalso; omega) | (rcases q8.2.2 with q7 | q7; omega; exact h87 (q7 s (by omega) (by omega) (by omega)))) (by intro q9; first | (exfalso; omega) | exact ⟨(i5 (by omega)).1, fun y a b q8 q7 => by by_cases e9 : y = s; (subst e9; first | (exfalso; omega) | exact h87); exact (i5 (by omega)).2 y a (by omega) q8 q7⟩)
                  · refine g_aload_n (pc' := 84) B 4 rfl rfl dX12_to_83 rfl ?_
                    refine g_iload (pc' := 86) B 0 rfl dX12_to_84 rfl ?_
                    refine g_iload_n (pc' := 87) B 7 rfl rfl dX12_to_86 rfl ?_
                    refine g_callVI (pc' := 90) (As := [.int (iI s), .int (iI t)]) B (c_X12_isSeamOpen l K _ (D := D) (s := s) (t := t) hM hF hR hO hH (by omega) (by omega)) vt_X12_isSeamOpen tw_1096 rfl rfl ⟨by decide, by decide⟩ rfl (Nat.le_of_ble_eq_true rfl) ⟨Nat.zero_le _, Nat.zero_le _⟩ rfl dX12_to_87 rfl (fun z87 τ87 h87 => ?_)
                    obtain ⟨rfl, h87⟩ := h87
                    rcases h87 with ⟨h87, rfl⟩ | ⟨h87, rfl⟩
                    · refine g_if_eq (pc' := 93) B 97 (by omega) dX12_to_90 (by decide) rfl (fun q => absurd q (by decide)) (fun _ => ?_)
                      refine g_iconst (pc' := 94) B dX12_to_93 rfl ?_
                      refine g_goto (pc' := 98) B dX12_to_94 (by decide) ?_
                      refine g_istore (pc' := 100) B [(5, .int (iI 1)), (7, .int (iI s)), (6, .int (iI e)), (4, .int (iI d)), (0, .ref (K.2.2 57)), (1, .int (iI f)), (2, .int (iI w)), (3, .int (iI t))] dX12_to_98 rfl (by decide) rfl ?_
                      refine g_iinc (pc' := 103) B 1 [(7, .int (iI (s + 1))), (5, .int (iI 1)), (6, .int (iI e)), (4, .int (iI d)), (0, .ref (K.2.2 57)), (1, .int (iI f)), (2, .int (iI w)), (3, .int (iI t))] dX12_to_100 rfl rfl (by decide) rfl ?_
                      refine g_goto (pc' := 49) B dX12_to_103 (by decide) ?_
                      refine g_loc B [(7, .int (iI (s + 1))), (6, .int (iI e)), (5, .int (iI 1)), (4, .int (iI d)), (0, .ref (K.2.2 57)), (1, .int (iI f)), (2, .int (iI w)), (3, .int (iI t))] [0, 2, 1, 3, 4, 5, 6, 7] rfl ?_
                      exact ih49 _ (by omega) d 1 e (s + 1) rfl (by omega) (by exact i0) (by exact i6) (by omega) (by intro q9 q8; first | (exfalso; omega) | (rcases q8.2.2 with q7 | q7; omega; exact h87 (q7 s (by omega) (by omega) (by omega)))) (by intro q9; first | (exfalso; omega) | exact ⟨(i5 (by omega)).1, fun y a b q8 q7 => by by_cases e9 : y = s; (subst e9; first | (exfalso; omega) | exact h87); exact (i5 (by omega)).2 y a (by omega) q8 q7⟩)
                    · refine g_if_eq (pc' := 93) B 97 (by omega) dX12_to_90 (by decide) rfl (fun _ => ?_) (fun q => absurd q (by decide))
                      refine g_iconst (pc' := 98) B dX12_to_97 rfl ?_
                      refine g_istore (pc' := 100) B [(5, .int (iI 0)), (7, .int (iI s)), (6, .int (iI e)), (4, .int (iI d)), (0, .ref (K.2.2 57)), (1, .int (iI f)), (2, .int (iI w)), (3, .int (iI t))] dX12_to_98 rfl (by decide) rfl ?_
                      refine g_iinc (pc' := 103) B 1 [(7, .int (iI (s + 1))), (5, .int (iI 0)), (6, .int (iI e)), (4, .int (iI d)), (0, .ref (K.2.2 57)), (1, .int (iI f)), (2, .int (iI w)), (3, .int (iI t))] dX12_to_100 rfl rfl (by decide) rfl ?_
                      refine g_goto (pc' := 49) B dX12_to_103 (by decide) ?_
                      refine g_loc B [(7, .int (iI (s + 1))), (6, .int (iI e)), (5, .int (iI 0)), (4, .int (iI d)), (0, .ref (K.2.2 57)), (1, .int (iI f)), (2, .int (iI w)), (3, .int (iI t))] [0, 2, 1, 3, 4, 5, 6, 7] rfl ?_
                      exact ih49 _ (by omega) d 0 e (s + 1) rfl (by omega) (by exact i0) (by exact i6) (by omega) (by intro q9 q8; first | (exfalso; omega) | (rcases q8.2.2 with q7 | q7; omega; exact h87 (q7 s (by omega) (by omega) (by omega)))) (by intro q9; first | (exfalso; omega) | exact ⟨(i5 (by omega)).1, fun y a b q8 q7 => by by_cases e9 : y = s; (subst e9; first | (exfalso; omega) | exact h87); exact (i5 (by omega)).2 y a (by omega) q8 q7⟩)
        exact L49 _ f 1 f 0 rfl (by omega) (by unfold bes; (repeat' split) <;> omega) (by unfold bes; (repeat' split) <;> omega) (by omega) (by intro q9 q8; first | (exfalso; omega) | (have q7 := q8.2.1; revert q7; unfold bes; (repeat' split) <;> omega)) (by intro q9; first | (exfalso; omega) | exact ⟨by unfold bes; (repeat' split) <;> omega, fun y a b => by omega⟩)
    · refine g_istore (pc' := 32) B [(5, .int (iI 0)), (4, .int (iI f)), (0, .ref (K.2.2 57)), (1, .int (iI f)), (2, .int (iI w)), (3, .int (iI t))] dX12_to_30 rfl (by decide) rfl ?_
      refine g_iload (pc' := 34) B 1 rfl dX12_to_32 rfl ?_
      refine g_iload_n (pc' := 35) B 3 rfl rfl dX12_to_34 rfl ?_
      refine g_icmp_ge (pc' := 38) B 43 (by omega) (by omega) dX12_to_35 (by decide) rfl (fun c35 => ?_) (fun c35 => ?_)
      · refine g_iload_n (pc' := 44) B 3 rfl rfl dX12_to_43 rfl ?_
        refine g_istore (pc' := 46) B [(6, .int (iI f)), (5, .int (iI 0)), (4, .int (iI f)), (0, .ref (K.2.2 57)), (1, .int (iI f)), (2, .int (iI w)), (3, .int (iI t))] dX12_to_44 rfl (by decide) rfl ?_
        refine g_iconst (pc' := 47) B dX12_to_46 rfl ?_
        refine g_istore (pc' := 49) B [(7, .int (iI 0)), (6, .int (iI f)), (5, .int (iI 0)), (4, .int (iI f)), (0, .ref (K.2.2 57)), (1, .int (iI f)), (2, .int (iI w)), (3, .int (iI t))] dX12_to_47 rfl (by decide) rfl ?_
        have L49 : ∀ (nn : Nat) (d c e s : Int) , (D 9 2 - s).toNat = nn → (0 ≤ s ∧ s ≤ D 9 2) → (d = bes f w) → (e = min f (bes f w)) → (c = 0 ∨ c = 1) → (c = 0 → ¬ can D f t w) → (c = 1 → (0 ≤ bes f w ∧ bes f w < D 9 0) ∧ ∀ y : Int, 0 ≤ y → y < s → bes f w ≠ f → D 5 y = min f (bes f w) → opn D y t) → G pP l eE (rmo 2 46) sS mM [.ref (K.2.2 57), .int (iI f), .int (iI w), .int (iI t)].toArray bW mT cC 0 0 (MQ bW (Qi K (fun z τ => σ = τ ∧ z = tow D f t w)) [.ref (K.2.2 57), .int (iI f), .int (iI w), .int (iI t)].toArray sS 0 0 (wA K)) K sS.heap 8 σ 49 [(7, .int (iI s)), (6, .int (iI e)), (5, .int (iI c)), (4, .int (iI d)), (0, .ref (K.2.2 57)), (1, .int (iI f)), (2, .int (iI w)), (3, .int (iI t))] [] := by
          intro nn
          induction nn using Nat.strongRecOn with
          | _ nn ih49 =>
            intro d c e s hn49 i1 i0 i6 i7 i4 i5
            have hbb := bes_bd f w
            refine g_iload (pc' := 51) B 0 rfl dX12_to_49 rfl ?_
            refine g_aload_n (pc' := 52) B 4 rfl rfl dX12_to_51 rfl ?_
            refine g_get (pc' := 55) B (D 9 2) hM.2.2.1 fl_X12_137 rfl rfl dX12_to_52 rfl ?_
            refine g_icmp_ge (pc' := 58) B 106 (by omega) (by omega) dX12_to_55 (by decide) rfl (fun c55 => ?_) (fun c55 => ?_)
            · refine g_iload (pc' := 108) B 2 rfl dX12_to_106 rfl ?_
              refine g_if_eq (pc' := 111) B 116 (by omega) dX12_to_108 (by decide) rfl (fun c108 => ?_) (fun c108 => ?_)
              · refine g_iconst (pc' := 117) B dX12_to_116 rfl ?_
                exact g_iret (z := (-1)) B hrt rfl hlk dX12_to_117 ⟨rfl, (tow_neg (i4 (by omega))).symm⟩
              · refine g_iload (pc' := 113) B 3 rfl dX12_to_111 rfl ?_
                refine g_goto (pc' := 117) B dX12_to_113 (by decide) ?_
                exact g_iret (z := d) B hrt rfl hlk dX12_to_117 ⟨rfl, by first | (exfalso; omega) | (have q9 := i5 (by omega); rw [i0, tow_pos (show can D f t w from ⟨hf, q9.1, by first | exact Or.inl (by omega) | (by_cases q8 : bes f w = f; exact Or.inl q8; exact Or.inr (fun y a b e9 => q9.2 y a (by omega) q8 e9))⟩)])⟩
            · refine g_iload (pc' := 60) B 2 rfl dX12_to_58 rfl ?_
              refine g_if_eq (pc' := 63) B 106 (by omega) dX12_to_60 (by decide) rfl (fun c60 => ?_) (fun c60 => ?_)
              · refine g_iload (pc' := 108) B 2 rfl dX12_to_106 rfl ?_
                refine g_if_eq (pc' := 111) B 116 (by omega) dX12_to_108 (by decide) rfl (fun c108 => ?_) (fun c108 => ?_)
                · refine g_iconst (pc' := 117) B dX12_to_116 rfl ?_
                  exact g_iret (z := (-1)) B hrt rfl hlk dX12_to_117 ⟨rfl, (tow_neg (i4 (by omega))).symm⟩
                · refine g_iload (pc' := 113) B 3 rfl dX12_to_111 rfl ?_
                  refine g_goto (pc' := 117) B dX12_to_113 (by decide) ?_
                  exact g_iret (z := d) B hrt rfl hlk dX12_to_117 ⟨rfl, by first | (exfalso; omega) | (have q9 := i5 (by omega); rw [i0, tow_pos (show can D f t w from ⟨hf, q9.1, by first | exact Or.inl (by omega) | (by_cases q8 : bes f w = f; exact Or.inl q8; exact Or.inr (fun y a b e9 => q9.2 y a (by omega) q8 e9))⟩)])⟩
              · refine g_iload (pc' := 65) B 3 rfl dX12_to_63 rfl ?_
                refine g_iload_n (pc' := 66) B 5 rfl rfl dX12_to_65 rfl ?_
                refine g_icmp_eq (pc' := 69) B 106 (by omega) (by omega) dX12_to_66 (by decide) rfl (fun c66 => ?_) (fun c66 => ?_)
                · refine g_iload (pc' := 108) B 2 rfl dX12_to_106 rfl ?_
                  refine g_if_eq (pc' := 111) B 116 (by omega) dX12_to_108 (by decide) rfl (fun c108 => ?_) (fun c108 => ?_)
                  · refine g_iconst (pc' := 117) B dX12_to_116 rfl ?_
                    exact g_iret (z := (-1)) B hrt rfl hlk dX12_to_117 ⟨rfl, (tow_neg (i4 (by omega))).symm⟩
                  · refine g_iload (pc' := 113) B 3 rfl dX12_to_111 rfl ?_
                    refine g_goto (pc' := 117) B dX12_to_113 (by decide) ?_
                    exact g_iret (z := d) B hrt rfl hlk dX12_to_117 ⟨rfl, by first | (exfalso; omega) | (have q9 := i5 (by omega); rw [i0, tow_pos (show can D f t w from ⟨hf, q9.1, by first | exact Or.inl (by omega) | (by_cases q8 : bes f w = f; exact Or.inl q8; exact Or.inr (fun y a b e9 => q9.2 y a (by omega) q8 e9))⟩)])⟩
                · refine g_aload_n (pc' := 70) B 4 rfl rfl dX12_to_69 rfl ?_
                  refine g_getR (pc' := 73) B 62 fl_X12_23 rfl rfl dX12_to_70 rfl ?_
                  refine g_iconst (pc' := 74) B dX12_to_73 rfl ?_
                  refine g_iload (pc' := 76) B 0 rfl dX12_to_74 rfl ?_
                  refine g_imul (pc' := 77) B dX12_to_76 rfl ?_
                  refine g_iald (pc' := 78) B (D 5 s) (hM.2.2.2.2.2.2 s (by omega) (by omega)).1 rfl (by omega) (by decide) dX12_to_77 rfl ?_
                  refine g_iload (pc' := 80) B 1 rfl dX12_to_78 rfl ?_
                  have hs9 := hO1 s (by omega) (by omega)
                  refine g_icmp_ne (pc' := 83) B 93 (by omega) (by omega) dX12_to_80 (by decide) rfl (fun c80 => ?_) (fun c80 => ?_)
                  · refine g_iconst (pc' := 94) B dX12_to_93 rfl ?_
                    refine g_goto (pc' := 98) B dX12_to_94 (by decide) ?_
                    refine g_istore (pc' := 100) B [(5, .int (iI 1)), (7, .int (iI s)), (6, .int (iI e)), (4, .int (iI d)), (0, .ref (K.2.2 57)), (1, .int (iI f)), (2, .int (iI w)), (3, .int (iI t))] dX12_to_98 rfl (by decide) rfl ?_
                    refine g_iinc (pc' := 103) B 1 [(7, .int (iI (s + 1))), (5, .int (iI 1)), (6, .int (iI e)), (4, .int (iI d)), (0, .ref (K.2.2 57)), (1, .int (iI f)), (2, .int (iI w)), (3, .int (iI t))] dX12_to_100 rfl rfl (by decide) rfl ?_
                    refine g_goto (pc' := 49) B dX12_to_103 (by decide) ?_
                    refine g_loc B [(7, .int (iI (s + 1))), (6, .int (iI e)), (5, .int (iI 1)), (4, .int (iI d)), (0, .ref (K.2.2 57)), (1, .int (iI f)), (2, .int (iI w)), (3, .int (iI t))] [0, 2, 1, 3, 4, 5, 6, 7] rfl ?_
                    exact ih49 _ (by omega) d 1 e (s + 1) rfl (by omega) (by exact i0) (by exact i6) (by omega) (by intro q9 q8; first | (exfalso; omega) | (rcases q8.2.2 with q7 | q7; omega; exact h87 (q7 s (by omega) (by omega) (by omega)))) (by intro q9; first | (exfalso; omega) | exact ⟨(i5 (by omega)).1, fun y a b q8 q7 => by by_cases e9 : y = s; (subst e9; first | (exfalso; omega) | exact h87); exact (i5 (by omega)).2 y a (by omega) q8 q7⟩)
                  · refine g_aload_n (pc' := 84) B 4 rfl rfl dX12_to_83 rfl ?_
                    refine g_iload (pc' := 86) B 0 rfl dX12_to_84 rfl ?_
                    refine g_iload_n (pc' := 87) B 7 rfl rfl dX12_to_86 rfl ?_
                    refine g_callVI (pc' := 90) (As := [.int (iI s), .int (iI t)]) B (c_X12_isSeamOpen l K _ (D := D) (s := s) (t := t) hM hF hR hO hH (by omega) (by omega)) vt_X12_isSeamOpen tw_1096 rfl rfl ⟨by decide, by decide⟩ rfl (Nat.le_of_ble_eq_true rfl) ⟨Nat.zero_le _, Nat.zero_le _⟩ rfl dX12_to_87 rfl (fun z87 τ87 h87 => ?_)
                    obtain ⟨rfl, h87⟩ := h87
                    rcases h87 with ⟨h87, rfl⟩ | ⟨h87, rfl⟩
                    · refine g_if_eq (pc' := 93) B 97 (by omega) dX12_to_90 (by decide) rfl (fun q => absurd q (by decide)) (fun _ => ?_)
                      refine g_iconst (pc' := 94) B dX12_to_93 rfl ?_
                      refine g_goto (pc' := 98) B dX12_to_94 (by decide) ?_
                      refine g_istore (pc' := 100) B [(5, .int (iI 1)), (7, .int (iI s)), (6, .int (iI e)), (4, .int (iI d)), (0, .ref (K.2.2 57)), (1, .int (iI f)), (2, .int (iI w)), (3, .int (iI t))] dX12_to_98 rfl (by decide) rfl ?_
                      refine g_iinc (pc' := 103) B 1 [(7, .int (iI (s + 1))), (5, .int (iI 1)), (6, .int (iI e)), (4, .int (iI d)), (0, .ref (K.2.2 57)), (1, .int (iI f)), (2, .int (iI w)), (3, .int (iI t))] dX12_to_100 rfl rfl (by decide) rfl ?_
                      refine g_goto (pc' := 49) B dX12_to_103 (by decide) ?_
                      refine g_loc B [(7, .int (iI (s + 1))), (6, .int (iI e)), (5, .int (iI 1)), (4, .int (iI d)), (0, .ref (K.2.2 57)), (1, .int (iI f)), (2, .int (iI w)), (3, .int (iI t))] [0, 2, 1, 3, 4, 5, 6, 7] rfl ?_
                      exact ih49 _ (by omega) d 1 e (s + 1) rfl (by omega) (by exact i0) (by exact i6) (by omega) (by intro q9 q8; first | (exfalso; omega) | (rcases q8.2.2 with q7 | q7; omega; exact h87 (q7 s (by omega) (by omega) (by omega)))) (by intro q9; first | (exfalso; omega) | exact ⟨(i5 (by omega)).1, fun y a b q8 q7 => by by_cases e9 : y = s; (subst e9; first | (exfalso; omega) | exact h87); exact (i5 (by omega)).2 y a (by omega) q8 q7⟩)
                    · refine g_if_eq (pc' := 93) B 97 (by omega) dX12_to_90 (by decide) rfl (fun _ => ?_) (fun q => absurd q (by decide))
                      refine g_iconst (pc' := 98) B dX12_to_97 rfl ?_
                      refine g_istore (pc' := 100) B [(5, .int (iI 0)), (7, .int (iI s)), (6, .int (iI e)), (4, .int (iI d)), (0, .ref (K.2.2 57)), (1, .int (iI f)), (2, .int (iI w)), (3, .int (iI t))] dX12_to_98 rfl (by decide) rfl ?_
                      refine g_iinc (pc' := 103) B 1 [(7, .int (iI (s + 1))), (5, .int (iI 0)), (6, .int (iI e)), (4, .int (iI d)), (0, .ref (K.2.2 57)), (1, .int (iI f)), (2, .int (iI w)), (3, .int (iI t))] dX12_to_100 rfl rfl (by decide) rfl ?_
                      refine g_goto (pc' := 49) B dX12_to_103 (by decide) ?_
                      refine g_loc B [(7, .int (iI (s + 1))), (6, .int (iI e)), (5, .int (iI 0)), (4, .int (iI d)), (0, .ref (K.2.2 57)), (1, .int (iI f)), (2, .int (iI w)), (3, .int (iI t))] [0, 2, 1, 3, 4, 5, 6, 7] rfl ?_
                      exact ih49 _ (by omega) d 0 e (s + 1) rfl (by omega) (by exact i0) (by exact i6) (by omega) (by intro q9 q8; first | (exfalso; omega) | (rcases q8.2.2 with q7 | q7; omega; exact h87 (q7 s (by omega) (by omega) (by omega)))) (by intro q9; first | (exfalso; omega) | exact ⟨(i5 (by omega)).1, fun y a b q8 q7 => by by_cases e9 : y = s; (subst e9; first | (exfalso; omega) | exact h87); exact (i5 (by omega)).2 y a (by omega) q8 q7⟩)
        exact L49 _ f 0 f 0 rfl (by omega) (by unfold bes; (repeat' split) <;> omega) (by unfold bes; (repeat' split) <;> omega) (by omega) (by intro q9 q8; first | (exfalso; omega) | (have q7 := q8.2.1; revert q7; unfold bes; (repeat' split) <;> omega)) (by intro q9; first | (exfalso; omega) | exact ⟨by unfold bes; (repeat' split) <;> omega, fun y a b => by omega⟩)
      · refine g_iload (pc' := 40) B 1 rfl dX12_to_38 rfl ?_
        refine g_goto (pc' := 44) B dX12_to_40 (by decide) ?_
        refine g_istore (pc' := 46) B [(6, .int (iI f)), (5, .int (iI 0)), (4, .int (iI f)), (0, .ref (K.2.2 57)), (1, .int (iI f)), (2, .int (iI w)), (3, .int (iI t))] dX12_to_44 rfl (by decide) rfl ?_
        refine g_iconst (pc' := 47) B dX12_to_46 rfl ?_
        refine g_istore (pc' := 49) B [(7, .int (iI 0)), (6, .int (iI f)), (5, .int (iI 0)), (4, .int (iI f)), (0, .ref (K.2.2 57)), (1, .int (iI f)), (2, .int (iI w)), (3, .int (iI t))] dX12_to_47 rfl (by decide) rfl ?_
        have L49 : ∀ (nn : Nat) (d c e s : Int) , (D 9 2 - s).toNat = nn → (0 ≤ s ∧ s ≤ D 9 2) → (d = bes f w) → (e = min f (bes f w)) → (c = 0 ∨ c = 1) → (c = 0 → ¬ can D f t w) → (c = 1 → (0 ≤ bes f w ∧ bes f w < D 9 0) ∧ ∀ y : Int, 0 ≤ y → y < s → bes f w ≠ f → D 5 y = min f (bes f w) → opn D y t) → G pP l eE (rmo 2 46) sS mM [.ref (K.2.2 57), .int (iI f), .int (iI w), .int (iI t)].toArray bW mT cC 0 0 (MQ bW (Qi K (fun z τ => σ = τ ∧ z = tow D f t w)) [.ref (K.2.2 57), .int (iI f), .int (iI w), .int (iI t)].toArray sS 0 0 (wA K)) K sS.heap 8 σ 49 [(7, .int (iI s)), (6, .int (iI e)), (5, .int (iI c)), (4, .int (iI d)), (0, .ref (K.2.2 57)), (1, .int (iI f)), (2, .int (iI w)), (3, .int (iI t))] [] := by
          intro nn
          induction nn using Nat.strongRecOn with
          | _ nn ih49 =>
            intro d c e s hn49 i1 i0 i6 i7 i4 i5
            have hbb := bes_bd f w
            refine g_iload (pc' := 51) B 0 rfl dX12_to_49 rfl ?_
            refine g_aload_n (pc' := 52) B 4 rfl rfl dX12_to_51 rfl ?_
            refine g_get (pc' := 55) B (D 9 2) hM.2.2.1 fl_X12_137 rfl rfl dX12_to_52 rfl ?_
            refine g_icmp_ge (pc' := 58) B 106 (by omega) (by omega) dX12_to_55 (by decide) rfl (fun c55 => ?_) (fun c55 => ?_)
            · refine g_iload (pc' := 108) B 2 rfl dX12_to_106 rfl ?_
              refine g_if_eq (pc' := 111) B 116 (by omega) dX12_to_108 (by decide) rfl (fun c108 => ?_) (fun c108 => ?_)
              · refine g_iconst (pc' := 117) B dX12_to_116 rfl ?_
                exact g_iret (z := (-1)) B hrt rfl hlk dX12_to_117 ⟨rfl, (tow_neg (i4 (by omega))).symm⟩
              · refine g_iload (pc' := 113) B 3 rfl dX12_to_111 rfl ?_
                refine g_goto (pc' := 117) B dX12_to_113 (by decide) ?_
                exact g_iret (z := d) B hrt rfl hlk dX12_to_117 ⟨rfl, by first | (exfalso; omega) | (have q9 := i5 (by omega); rw [i0, tow_pos (show can D f t w from ⟨hf, q9.1, by first | exact Or.inl (by omega) | (by_cases q8 : bes f w = f; exact Or.inl q8; exact Or.inr (fun y a b e9 => q9.2 y a (by omega) q8 e9))⟩)])⟩
            · refine g_iload (pc' := 60) B 2 rfl dX12_to_58 rfl ?_
              refine g_if_eq (pc' := 63) B 106 (by omega) dX12_to_60 (by decide) rfl (fun c60 => ?_) (fun c60 => ?_)
              · refine g_iload (pc' := 108) B 2 rfl dX12_to_106 rfl ?_
                refine g_if_eq (pc' := 111) B 116 (by omega) dX12_to_108 (by decide) rfl (fun c108 => ?_) (fun c108 => ?_)
                · refine g_iconst (pc' := 117) B dX12_to_116 rfl ?_
                  exact g_iret (z := (-1)) B hrt rfl hlk dX12_to_117 ⟨rfl, (tow_neg (i4 (by omega))).symm⟩
                · refine g_iload (pc' := 113) B 3 rfl dX12_to_111 rfl ?_
                  refine g_goto (pc' := 117) B dX12_to_113 (by decide) ?_
                  exact g_iret (z := d) B hrt rfl hlk dX12_to_117 ⟨rfl, by first | (exfalso; omega) | (have q9 := i5 (by omega); rw [i0, tow_pos (show can D f t w from ⟨hf, q9.1, by first | exact Or.inl (by omega) | (by_cases q8 : bes f w = f; exact Or.inl q8; exact Or.inr (fun y a b e9 => q9.2 y a (by omega) q8 e9))⟩)])⟩
              · refine g_iload (pc' := 65) B 3 rfl dX12_to_63 rfl ?_
                refine g_iload_n (pc' := 66) B 5 rfl rfl dX12_to_65 rfl ?_
                refine g_icmp_eq (pc' := 69) B 106 (by omega) (by omega) dX12_to_66 (by decide) rfl (fun c66 => ?_) (fun c66 => ?_)
                · refine g_iload (pc' := 108) B 2 rfl dX12_to_106 rfl ?_
                  refine g_if_eq (pc' := 111) B 116 (by omega) dX12_to_108 (by decide) rfl (fun c108 => ?_) (fun c108 => ?_)
                  · refine g_iconst (pc' := 117) B dX12_to_116 rfl ?_
                    exact g_iret (z := (-1)) B hrt rfl hlk dX12_to_117 ⟨rfl, (tow_neg (i4 (by omega))).symm⟩
                  · refine g_iload (pc' := 113) B 3 rfl dX12_to_111 rfl ?_
                    refine g_goto (pc' := 117) B dX12_to_113 (by decide) ?_
                    exact g_iret (z := d) B hrt rfl hlk dX12_to_117 ⟨rfl, by first | (exfalso; omega) | (have q9 := i5 (by omega); rw [i0, tow_pos (show can D f t w from ⟨hf, q9.1, by first | exact Or.inl (by omega) | (by_cases q8 : bes f w = f; exact Or.inl q8; exact Or.inr (fun y a b e9 => q9.2 y a (by omega) q8 e9))⟩)])⟩
                · refine g_aload_n (pc' := 70) B 4 rfl rfl dX12_to_69 rfl ?_
                  refine g_getR (pc' := 73) B 62 fl_X12_23 rfl rfl dX12_to_70 rfl ?_
                  refine g_iconst (pc' := 74) B dX12_to_73 rfl ?_
                  refine g_iload (pc' := 76) B 0 rfl dX12_to_74 rfl ?_
                  refine g_imul (pc' := 77) B dX12_to_76 rfl ?_
                  refine g_iald (pc' := 78) B (D 5 s) (hM.2.2.2.2.2.2 s (by omega) (by omega)).1 rfl (by omega) (by decide) dX12_to_77 rfl ?_
                  refine g_iload (pc' := 80) B 1 rfl dX12_to_78 rfl ?_
                  have hs9 := hO1 s (by omega) (by omega)
                  refine g_icmp_ne (pc' := 83) B 93 (by omega) (by omega) dX12_to_80 (by decide) rfl (fun c80 => ?_) (fun c80 => ?_)
                  · refine g_iconst (pc' := 94) B dX12_to_93 rfl ?_
                    refine g_goto (pc' := 98) B dX12_to_94 (by decide) ?_
                    refine g_istore (pc' := 100) B [(5, .int (iI 1)), (7, .int (iI s)), (6, .int (iI e)), (4, .int (iI d)), (0, .ref (K.2.2 57)), (1, .int (iI f)), (2, .int (iI w)), (3, .int (iI t))] dX12_to_98 rfl (by decide) rfl ?_
                    refine g_iinc (pc' := 103) B 1 [(7, .int (iI (s + 1))), (5, .int (iI 1)), (6, .int (iI e)), (4, .int (iI d)), (0, .ref (K.2.2 57)), (1, .int (iI f)), (2, .int (iI w)), (3, .int (iI t))] dX12_to_100 rfl rfl (by decide) rfl ?_
                    refine g_goto (pc' := 49) B dX12_to_103 (by decide) ?_
                    refine g_loc B [(7, .int (iI (s + 1))), (6, .int (iI e)), (5, .int (iI 1)), (4, .int (iI d)), (0, .ref (K.2.2 57)), (1, .int (iI f)), (2, .int (iI w)), (3, .int (iI t))] [0, 2, 1, 3, 4, 5, 6, 7] rfl ?_
                    exact ih49 _ (by omega) d 1 e (s + 1) rfl (by omega) (by exact i0) (by exact i6) (by omega) (by intro q9 q8; first | (exfalso; omega) | (rcases q8.2.2 with q7 | q7; omega; exact h87 (q7 s (by omega) (by omega) (by omega)))) (by intro q9; first | (exfalso; omega) | exact ⟨(i5 (by omega)).1, fun y a b q8 q7 => by by_cases e9 : y = s; (subst e9; first | (exfalso; omega) | exact h87); exact (i5 (by omega)).2 y a (by omega) q8 q7⟩)
                  · refine g_aload_n (pc' := 84) B 4 rfl rfl dX12_to_83 rfl ?_
                    refine g_iload (pc' := 86) B 0 rfl dX12_to_84 rfl ?_
                    refine g_iload_n (pc' := 87) B 7 rfl rfl dX12_to_86 rfl ?_
                    refine g_callVI (pc' := 90) (As := [.int (iI s), .int (iI t)]) B (c_X12_isSeamOpen l K _ (D := D) (s := s) (t := t) hM hF hR hO hH (by omega) (by omega)) vt_X12_isSeamOpen tw_1096 rfl rfl ⟨by decide, by decide⟩ rfl (Nat.le_of_ble_eq_true rfl) ⟨Nat.zero_le _, Nat.zero_le _⟩ rfl dX12_to_87 rfl (fun z87 τ87 h87 => ?_)
                    obtain ⟨rfl, h87⟩ := h87
                    rcases h87 with ⟨h87, rfl⟩ | ⟨h87, rfl⟩
                    · refine g_if_eq (pc' := 93) B 97 (by omega) dX12_to_90 (by decide) rfl (fun q => absurd q (by decide)) (fun _ => ?_)
                      refine g_iconst (pc' := 94) B dX12_to_93 rfl ?_
                      refine g_goto (pc' := 98) B dX12_to_94 (by decide) ?_
                      refine g_istore (pc' := 100) B [(5, .int (iI 1)), (7, .int (iI s)), (6, .int (iI e)), (4, .int (iI d)), (0, .ref (K.2.2 57)), (1, .int (iI f)), (2, .int (iI w)), (3, .int (iI t))] dX12_to_98 rfl (by decide) rfl ?_
                      refine g_iinc (pc' := 103) B 1 [(7, .int (iI (s + 1))), (5, .int (iI 1)), (6, .int (iI e)), (4, .int (iI d)), (0, .ref (K.2.2 57)), (1, .int (iI f)), (2, .int (iI w)), (3, .int (iI t))] dX12_to_100 rfl rfl (by decide) rfl ?_
                      refine g_goto (pc' := 49) B dX12_to_103 (by decide) ?_
                      refine g_loc B [(7, .int (iI (s + 1))), (6, .int (iI e)), (5, .int (iI 1)), (4, .int (iI d)), (0, .ref (K.2.2 57)), (1, .int (iI f)), (2, .int (iI w)), (3, .int (iI t))] [0, 2, 1, 3, 4, 5, 6, 7] rfl ?_
                      exact ih49 _ (by omega) d 1 e (s + 1) rfl (by omega) (by exact i0) (by exact i6) (by omega) (by intro q9 q8; first | (exfalso; omega) | (rcases q8.2.2 with q7 | q7; omega; exact h87 (q7 s (by omega) (by omega) (by omega)))) (by intro q9; first | (exfalso; omega) | exact ⟨(i5 (by omega)).1, fun y a b q8 q7 => by by_cases e9 : y = s; (subst e9; first | (exfalso; omega) | exact h87); exact (i5 (by omega)).2 y a (by omega) q8 q7⟩)
                    · refine g_if_eq (pc' := 93) B 97 (by omega) dX12_to_90 (by decide) rfl (fun _ => ?_) (fun q => absurd q (by decide))
                      refine g_iconst (pc' := 98) B dX12_to_97 rfl ?_
                      refine g_istore (pc' := 100) B [(5, .int (iI 0)), (7, .int (iI s)), (6, .int (iI e)), (4, .int (iI d)), (0, .ref (K.2.2 57)), (1, .int (iI f)), (2, .int (iI w)), (3, .int (iI t))] dX12_to_98 rfl (by decide) rfl ?_
                      refine g_iinc (pc' := 103) B 1 [(7, .int (iI (s + 1))), (5, .int (iI 0)), (6, .int (iI e)), (4, .int (iI d)), (0, .ref (K.2.2 57)), (1, .int (iI f)), (2, .int (iI w)), (3, .int (iI t))] dX12_to_100 rfl rfl (by decide) rfl ?_
                      refine g_goto (pc' := 49) B dX12_to_103 (by decide) ?_
                      refine g_loc B [(7, .int (iI (s + 1))), (6, .int (iI e)), (5, .int (iI 0)), (4, .int (iI d)), (0, .ref (K.2.2 57)), (1, .int (iI f)), (2, .int (iI w)), (3, .int (iI t))] [0, 2, 1, 3, 4, 5, 6, 7] rfl ?_
                      exact ih49 _ (by omega) d 0 e (s + 1) rfl (by omega) (by exact i0) (by exact i6) (by omega) (by intro q9 q8; first | (exfalso; omega) | (rcases q8.2.2 with q7 | q7; omega; exact h87 (q7 s (by omega) (by omega) (by omega)))) (by intro q9; first | (exfalso; omega) | exact ⟨(i5 (by omega)).1, fun y a b q8 q7 => by by_cases e9 : y = s; (subst e9; first | (exfalso; omega) | exact h87); exact (i5 (by omega)).2 y a (by omega) q8 q7⟩)
        exact L49 _ f 0 f 0 rfl (by omega) (by unfold bes; (repeat' split) <;> omega) (by unfold bes; (repeat' split) <;> omega) (by omega) (by intro q9 q8; first | (exfalso; omega) | (have q7 := q8.2.1; revert q7; unfold bes; (repeat' split) <;> omega)) (by intro q9; first | (exfalso; omega) | exact ⟨by unfold bes; (repeat' split) <;> omega, fun y a b => by omega⟩)
set_option maxRecDepth 100000 in
set_option maxHeartbeats 4000000 in
theorem c_X12_pulledBy (l : Launch) (K : WK) (σ : SG) {D : SG} (hM : mD σ D) (hF : okF D) (hR : okR D) (hO : okQ D) (hH : okH D) {f d x : Int} (hf : 0 ≤ f ∧ f < D 9 0) (hd : 0 ≤ d ∧ d < D 9 0) (hx : 0 ≤ x ∧ x ≤ 100000000) : MI l yX12_pulledBy cX12_pulledBy 5 (some .int) 2 47 K σ [.ref (K.2.2 57), .int (iI f), .int (iI d), .int (iI x)] (fun z τ => σ = τ ∧ z = max 0 (hgt D d x - hgt D f x)) := by
  refine met_of [(0, .ref (K.2.2 57)), (1, .int (iI f)), (2, .int (iI d)), (3, .int (iI x))] (by decide +kernel) (Nat.le_of_ble_eq_true rfl) rfl ?_
  intro pP eE sS mM bW mT cC B hrt hlk
  replace B : CB pP sS mM [.ref (K.2.2 57), .int (iI f), .int (iI d), .int (iI x)].toArray cC cX12_pulledBy RX12 5 K := B
  obtain ⟨hF0, hF1⟩ := id hF
  obtain ⟨hO0, hO1⟩ := id hO
  obtain ⟨hH0, hH1⟩ := id hH
  obtain ⟨hR0, hR1⟩ := id hR
  refine g_aload_n (pc' := 1) B 0 rfl rfl dX12_pulledBy_0 rfl ?_
  refine g_iload_n (pc' := 2) B 2 rfl rfl dX12_pulledBy_1 rfl ?_
  refine g_iload_n (pc' := 3) B 3 rfl rfl dX12_pulledBy_2 rfl ?_
  refine g_callVI (pc' := 6) (As := [.int (iI d), .int (iI x)]) B (c_X12_heightOf l K _ (D := D) (f := d) (x := x) hM hF hR hO hH (by omega) (by omega)) vt_X12_heightOf tw_1115 rfl rfl ⟨by decide, by decide⟩ rfl (Nat.le_of_ble_eq_true rfl) ⟨Nat.zero_le _, Nat.zero_le _⟩ rfl dX12_pulledBy_3 rfl (fun z3 τ3 h3 => ?_)
  obtain ⟨rfl, rfl⟩ := h3
  refine g_aload_n (pc' := 7) B 0 rfl rfl dX12_pulledBy_6 rfl ?_
  refine g_iload_n (pc' := 8) B 1 rfl rfl dX12_pulledBy_7 rfl ?_
  refine g_iload_n (pc' := 9) B 3 rfl rfl dX12_pulledBy_8 rfl ?_
  refine g_callVI (pc' := 12) (As := [.int (iI f), .int (iI x)]) B (c_X12_heightOf l K _ (D := D) (f := f) (x := x) hM hF hR hO hH (by omega) (by omega)) vt_X12_heightOf tw_1115 rfl rfl ⟨by decide, by decide⟩ rfl (Nat.le_of_ble_eq_true rfl) ⟨Nat.zero_le _, Nat.zero_le _⟩ rfl dX12_pulledBy_9 rfl (fun z9 τ9 h9 => ?_)
  obtain ⟨rfl, rfl⟩ := h9
  have hg1 := hgt_bd (x := x) hF hf.1 hf.2
  have hg2 := hgt_bd (x := x) hF hd.1 hd.2
  refine g_isub (pc' := 13) B dX12_pulledBy_12 rfl ?_
  refine g_istore (pc' := 15) B [(4, .int (iI ((hgt D d x) - (hgt D f x)))), (0, .ref (K.2.2 57)), (1, .int (iI f)), (2, .int (iI d)), (3, .int (iI x))] dX12_pulledBy_13 rfl (by decide) rfl ?_
  refine g_iload (pc' := 17) B 0 rfl dX12_pulledBy_15 rfl ?_
  refine g_if_le (pc' := 20) B 25 (by omega) dX12_pulledBy_17 (by decide) rfl (fun c17 => ?_) (fun c17 => ?_)
  · refine g_iconst (pc' := 26) B dX12_pulledBy_25 rfl ?_
    exact g_iret (z := 0) B hrt rfl hlk dX12_pulledBy_26 ⟨rfl, by omega⟩
  · refine g_iload (pc' := 22) B 0 rfl dX12_pulledBy_20 rfl ?_
    refine g_goto (pc' := 26) B dX12_pulledBy_22 (by decide) ?_
    exact g_iret (z := (hgt D d x) - (hgt D f x)) B hrt rfl hlk dX12_pulledBy_26 ⟨rfl, by omega⟩
set_option maxRecDepth 100000 in
set_option maxHeartbeats 4000000 in
theorem c_X12_rollOn (l : Launch) (K : WK) (σ : SG) {D : SG} (hM : mD σ D) (hF : okF D) (hR : okR D) (hO : okQ D) (hH : okH D) {S X L P : Int} (hn0 : σ 58 0 = S ∧ σ 58 1 = X ∧ σ 58 2 = L ∧ σ 58 3 = P) (hSX : 0 ≤ X ∧ X ≤ S ∧ S ≤ 70000) {w e : Int} (hw : 0 ≤ w ∧ w ≤ 2) (he : 0 ≤ e ∧ e ≤ 1) (hLL : 0 ≤ L ∧ L < D 9 0) (hc : can D L (S + 1) w) : MI l yX12_rollOn cX12_rollOn 5 (some .int) 3 73 K σ [.ref (K.2.2 57), .int (iI w), .int (iI e)] (fun z τ => τ = up (up (up (up σ 58 0 (S + 1)) 58 1 (X + e)) 58 2 (bes L w)) 58 3 (P + max 0 (hgt D (bes L w) (X + e) - hgt D L (X + e))) ∧ z = max 0 (hgt D (bes L w) (X + e) - hgt D L (X + e))) := by
  refine met_of [(0, .ref (K.2.2 57)), (1, .int (iI w)), (2, .int (iI e))] (by decide +kernel) (Nat.le_of_ble_eq_true rfl) rfl ?_
  intro pP eE sS mM bW mT cC B hrt hlk
  replace B : CB pP sS mM [.ref (K.2.2 57), .int (iI w), .int (iI e)].toArray cC cX12_rollOn RX12 5 K := B
  obtain ⟨hF0, hF1⟩ := id hF
  obtain ⟨hO0, hO1⟩ := id hO
  obtain ⟨hH0, hH1⟩ := id hH
  obtain ⟨hR0, hR1⟩ := id hR
  refine g_aload_n (pc' := 1) B 0 rfl rfl dX12_rollOn_0 rfl ?_
  refine g_aload_n (pc' := 2) B 0 rfl rfl dX12_rollOn_1 rfl ?_
  refine g_getR (pc' := 5) B 58 fl_X12_7 rfl rfl dX12_rollOn_2 rfl ?_
  refine g_iconst (pc' := 6) B dX12_rollOn_5 rfl ?_
  refine g_iald (pc' := 7) B L hn0.2.2.1 rfl (by omega) (by decide) dX12_rollOn_6 rfl ?_
  refine g_iload_n (pc' := 8) B 1 rfl rfl dX12_rollOn_7 rfl ?_
  refine g_aload_n (pc' := 9) B 0 rfl rfl dX12_rollOn_8 rfl ?_
  refine g_getR (pc' := 12) B 58 fl_X12_7 rfl rfl dX12_rollOn_9 rfl ?_
  refine g_iconst (pc' := 13) B dX12_rollOn_12 rfl ?_
  refine g_iald (pc' := 14) B S hn0.1 rfl (by omega) (by decide) dX12_rollOn_13 rfl ?_
  refine g_iconst (pc' := 15) B dX12_rollOn_14 rfl ?_
  refine g_iadd (pc' := 16) B dX12_rollOn_15 rfl ?_
  refine g_callVI (pc' := 19) (As := [.int (iI L), .int (iI w), .int (iI (S + 1))]) B (c_X12_to l K _ (D := D) (f := L) (w := w) (t := S + 1) hM hF hR hO hH (by omega) (by omega) (by omega)) vt_X12_to tw_1175 rfl rfl ⟨by decide, by decide⟩ rfl (Nat.le_of_ble_eq_true rfl) ⟨Nat.zero_le _, Nat.zero_le _⟩ rfl dX12_rollOn_16 rfl (fun z16 τ16 h16 => ?_)
  obtain ⟨rfl, rfl⟩ := h16
  have ht9 := tow_pos hc
  have hN9 := hc.2.1
  refine g_istore_n (pc' := 20) B [(3, .int (iI (tow D L (S + 1) w))), (0, .ref (K.2.2 57)), (1, .int (iI w)), (2, .int (iI e))] dX12_rollOn_19 rfl rfl (by decide) rfl ?_
  refine g_aload_n (pc' := 21) B 1 rfl rfl dX12_rollOn_20 rfl ?_
  refine g_aload_n (pc' := 22) B 1 rfl rfl dX12_rollOn_21 rfl ?_
  refine g_getR (pc' := 25) B 58 fl_X12_7 rfl rfl dX12_rollOn_22 rfl ?_
  refine g_iconst (pc' := 26) B dX12_rollOn_25 rfl ?_
  refine g_iald (pc' := 27) B L hn0.2.2.1 rfl (by omega) (by decide) dX12_rollOn_26 rfl ?_
  refine g_iload_n (pc' := 28) B 0 rfl rfl dX12_rollOn_27 rfl ?_
  refine g_aload_n (pc' := 29) B 1 rfl rfl dX12_rollOn_28 rfl ?_
  refine g_getR (pc' := 32) B 58 fl_X12_7 rfl rfl dX12_rollOn_29 rfl ?_
  refine g_iconst (pc' := 33) B dX12_rollOn_32 rfl ?_
  refine g_iald (pc' := 34) B X hn0.2.1 rfl (by omega) (by decide) dX12_rollOn_33 rfl ?_
  refine g_iload_n (pc' := 35) B 3 rfl rfl dX12_rollOn_34 rfl ?_
  refine g_iadd (pc' := 36) B dX12_rollOn_35 rfl ?_
  refine g_callVI (pc' := 39) (As := [.int (iI L), .int (iI (tow D L (S + 1) w)), .int (iI (X + e))]) B (c_X12_pulledBy l K _ (D := D) (f := L) (d := tow D L (S + 1) w) (x := X + e) hM hF hR hO hH (by omega) (by rw [ht9]; exact hN9) (by omega)) vt_X12_pulledBy tw_1184 rfl rfl ⟨by decide, by decide⟩ rfl (Nat.le_of_ble_eq_true rfl) ⟨Nat.zero_le _, Nat.zero_le _⟩ rfl dX12_rollOn_36 rfl (fun z36 τ36 h36 => ?_)
  obtain ⟨rfl, rfl⟩ := h36
  have hg1 := hgt_bd (x := X + e) hF hLL.1 hLL.2
  have hg2 := hgt_bd (x := X + e) hF hN9.1 hN9.2
  refine g_istore (pc' := 41) B [(4, .int (iI (max 0 (hgt D (tow D L (S + 1) w) (X + e) - hgt D L (X + e))))), (3, .int (iI (tow D L (S + 1) w))), (0, .ref (K.2.2 57)), (1, .int (iI w)), (2, .int (iI e))] dX12_rollOn_39 rfl (by decide) rfl ?_
  refine g_aload_n (pc' := 42) B 2 rfl rfl dX12_rollOn_41 rfl ?_
  refine g_getR (pc' := 45) B 58 fl_X12_7 rfl rfl dX12_rollOn_42 rfl ?_
  refine g_iconst (pc' := 46) B dX12_rollOn_45 rfl ?_
  refine g_dup2 (pc' := 47) B rfl rfl dX12_rollOn_46 rfl ?_
  refine g_iald (pc' := 48) B S hn0.1 rfl (by omega) (by decide) dX12_rollOn_47 rfl ?_
  refine g_iconst (pc' := 49) B dX12_rollOn_48 rfl ?_
  refine g_iadd (pc' := 50) B dX12_rollOn_49 rfl ?_
  refine g_iast (pc' := 51) B rfl (by omega) (by decide) dX12_rollOn_50 rfl ?_
  refine g_aload_n (pc' := 52) B 2 rfl rfl dX12_rollOn_51 rfl ?_
  refine g_getR (pc' := 55) B 58 fl_X12_7 rfl rfl dX12_rollOn_52 rfl ?_
  refine g_iconst (pc' := 56) B dX12_rollOn_55 rfl ?_
  refine g_dup2 (pc' := 57) B rfl rfl dX12_rollOn_56 rfl ?_
  refine g_iald (pc' := 58) B X (by have q9 := hn0.2.1; simpa [up] using q9) rfl (by omega) (by decide) dX12_rollOn_57 rfl ?_
  refine g_iload_n (pc' := 59) B 4 rfl rfl dX12_rollOn_58 rfl ?_
  refine g_iadd (pc' := 60) B dX12_rollOn_59 rfl ?_
  refine g_iast (pc' := 61) B rfl (by omega) (by decide) dX12_rollOn_60 rfl ?_
  refine g_aload_n (pc' := 62) B 2 rfl rfl dX12_rollOn_61 rfl ?_
  refine g_getR (pc' := 65) B 58 fl_X12_7 rfl rfl dX12_rollOn_62 rfl ?_
  refine g_iconst (pc' := 66) B dX12_rollOn_65 rfl ?_
  refine g_iload_n (pc' := 67) B 1 rfl rfl dX12_rollOn_66 rfl ?_
  refine g_iast (pc' := 68) B rfl (by omega) (by decide) dX12_rollOn_67 rfl ?_
  refine g_aload_n (pc' := 69) B 2 rfl rfl dX12_rollOn_68 rfl ?_
  refine g_getR (pc' := 72) B 58 fl_X12_7 rfl rfl dX12_rollOn_69 rfl ?_
  refine g_iconst (pc' := 73) B dX12_rollOn_72 rfl ?_
  refine g_dup2 (pc' := 74) B rfl rfl dX12_rollOn_73 rfl ?_
  refine g_iald (pc' := 75) B P (by have q9 := hn0.2.2.2; simpa [up] using q9) rfl (by omega) (by decide) dX12_rollOn_74 rfl ?_
  refine g_iload (pc' := 77) B 0 rfl dX12_rollOn_75 rfl ?_
  refine g_iadd (pc' := 78) B dX12_rollOn_77 rfl ?_
  refine g_iast (pc' := 79) B rfl (by omega) (by decide) dX12_rollOn_78 rfl ?_
  refine g_iload (pc' := 81) B 0 rfl dX12_rollOn_79 rfl ?_
  exact g_iret (z := max 0 (hgt D (tow D L (S + 1) w) (X + e) - hgt D L (X + e))) B hrt rfl hlk dX12_rollOn_81 ⟨by rw [ht9], by rw [ht9]⟩
set_option maxRecDepth 100000 in
set_option maxHeartbeats 4000000 in
theorem c_X12_draw (l : Launch) (K : WK) (σ : SG) {n v : Int} (hv : σ 58 8 = v) (hvr : 0 ≤ v ∧ v < 2147483648) (hn : 1 ≤ n ∧ n ≤ 100) : MI l yX12_draw cX12_draw 2 (some .int) 0 0 K σ [.ref (K.2.2 57), .int (iI n)] (fun z τ => τ = up σ 58 8 (sdn v) ∧ z = sdn v / 65536 % n) := by
  refine met_of [(0, .ref (K.2.2 57)), (1, .int (iI n))] (by decide +kernel) (Nat.le_of_ble_eq_true rfl) rfl ?_
  intro pP eE sS mM bW mT cC B hrt hlk
  replace B : CB pP sS mM [.ref (K.2.2 57), .int (iI n)].toArray cC cX12_draw RX12 2 K := B
  refine g_aload_n (pc' := 1) B 0 rfl rfl dX12_draw_0 rfl ?_
  refine g_getR (pc' := 4) B 58 fl_X12_7 rfl rfl dX12_draw_1 rfl ?_
  refine g_bipush (pc' := 6) B (by decide +kernel) dX12_draw_4 rfl ?_
  refine g_aload_n (pc' := 7) B 0 rfl rfl dX12_draw_6 rfl ?_
  refine g_getR (pc' := 10) B 58 fl_X12_7 rfl rfl dX12_draw_7 rfl ?_
  refine g_bipush (pc' := 12) B (by decide +kernel) dX12_draw_10 rfl ?_
  refine g_iald (pc' := 13) B v hv rfl (by omega) (by decide) dX12_draw_12 rfl ?_
  refine g_i2l (pc' := 14) B (by omega) dX12_draw_13 rfl ?_
  refine g_ldc2 (z := 1103515245) (pc' := 17) B tw_1201 (by decide +kernel) dX12_draw_14 rfl ?_
  refine g_lmul (pc' := 18) B dX12_draw_17 rfl ?_
  refine g_ldc2 (z := 12345) (pc' := 21) B tw_1202 (by decide +kernel) dX12_draw_18 rfl ?_
  refine g_ladd (pc' := 22) B dX12_draw_21 rfl ?_
  refine g_ldc2 (z := 2147483648) (pc' := 25) B tw_1203 (by decide +kernel) dX12_draw_22 rfl ?_
  refine g_lrem (pc' := 26) B (by omega) (by omega) dX12_draw_25 rfl ?_
  refine g_l2i (pc' := 27) B dX12_draw_26 rfl ?_
  refine g_iast (pc' := 28) B rfl (by omega) (by decide) dX12_draw_27 rfl ?_
  refine g_aload_n (pc' := 29) B 0 rfl rfl dX12_draw_28 rfl ?_
  refine g_getR (pc' := 32) B 58 fl_X12_7 rfl rfl dX12_draw_29 rfl ?_
  refine g_bipush (pc' := 34) B (by decide +kernel) dX12_draw_32 rfl ?_
  refine g_iald (pc' := 35) B (sdn v) (by unfold sdn; simp [up]) rfl (by omega) (by decide) dX12_draw_34 rfl ?_
  have hsd := sdn_bd v
  have hq1 := Int.ediv_nonneg hsd.1 (show (0 : Int) ≤ 65536 by decide)
  refine g_ldc (z := 65536) (pc' := 37) B tw_1204 (by decide +kernel) dX12_draw_35 rfl ?_
  refine g_idiv (pc' := 38) B (by omega) (by omega) dX12_draw_37 rfl ?_
  refine g_iload_n (pc' := 39) B 1 rfl rfl dX12_draw_38 rfl ?_
  refine g_irem (pc' := 40) B (by omega) (by omega) dX12_draw_39 rfl ?_
  exact g_iret (z := ((sdn v) / 65536) % n) B hrt rfl hlk dX12_draw_40 ⟨rfl, rfl⟩
