theorem wg_goal (D : SG) (S X g n : Int) : ∀ l : Nat, wg D S X g n l g = 0
  | 0 => by show (if g = g then (0 : Int) else -1) = 0; rw [if_pos rfl]
  | l + 1 => by show (if g = g then (0 : Int) else _) = 0; rw [if_pos rfl]
theorem wg_cell {D : SG} {S X g n i f v w : Int} (h0 : 0 ≤ i) (k2 : f = g → v = 0) (k3 : f ≠ g → i = n → v = 1000000) (k4 : f ≠ g → i < n → v = enc (pmin D (wg D S X g n (n - (i + 1)).toNat) (S + i + 1) (X + i + 1) f w.toNat)) (hw : f ≠ g → i < n → w = 3) (h1 : i ≤ n) : v = enc (wg D S X g n (n - i).toNat f) := by
  by_cases e1 : f = g
  · rw [k2 e1, e1, wg_goal]; rfl
  · by_cases e2 : i = n
    · rw [k3 e1 e2, show (n - i).toNat = 0 by omega]
      show _ = enc (if f = g then (0 : Int) else -1)
      rw [if_neg e1]; rfl
    · rw [k4 e1 (by omega), wg_step (by omega) (by omega), if_neg e1, hw e1 (by omega)]; rfl
theorem lwF_end {D : SG} {S X g n i a : Int} : ∀ l : Nat, (a = g ∨ l = 0) → lwF D S X g n i l a = -1
  | 0, _ => rfl
  | l + 1, h => by
    show (if a = g then (-1 : Int) else _) = -1
    rw [if_pos (by rcases h with h | h; exact h; omega)]
set_option maxRecDepth 100000 in
set_option maxHeartbeats 4000000 in
theorem c_X3_weigh (l : Launch) (K : WK) (σ : SG) {S X L P : Int} (hm : σ 31 0 = S ∧ σ 31 1 = X ∧ σ 31 2 = L ∧ σ 31 3 = P) {b : Nat} (hb : b = 3 ∨ b = 17) {D : SG} (hS : sD σ b D) (hF : okF D) (hH : okH D) (hO : okQ D) (hSS : 0 ≤ S ∧ S ≤ 100000000) (hX : 0 ≤ X ∧ X ≤ 100000000) {g n : Int} (hg0 : 0 ≤ g ∧ g < D 9 0) (hn : 1 ≤ n ∧ n ≤ 30) : MV l yX3_weigh cX3_weigh 9 none 5 116 K σ [.ref (K.2.2 43), .ref (K.2.2 b), .ref (K.2.2 31), .int (iI g), .int (iI n)] (fun τ => (∀ k, k ≠ 43 → k ≠ 44 → τ k = σ k) ∧ τ 43 1 = g ∧ τ 43 2 = n ∧ ∀ i f : Int, 0 ≤ i → i ≤ n → 0 ≤ f → f < D 9 0 → τ 44 (i * 8 + f) = enc (wg D S X g n (n - i).toNat f)) := by
  refine met_of [(0, .ref (K.2.2 43)), (1, .ref (K.2.2 b)), (2, .ref (K.2.2 31)), (3, .int (iI g)), (4, .int (iI n))] (by decide +kernel) (Nat.le_of_ble_eq_true rfl) rfl ?_
  intro pP eE sS mM bW mT cC B hrt hlk
  replace B : CB pP sS mM [.ref (K.2.2 43), .ref (K.2.2 b), .ref (K.2.2 31), .int (iI g), .int (iI n)].toArray cC cX3_weigh RX3 9 K := B
  obtain ⟨hF0, hF1⟩ := id hF
  refine g_aload_n (pc' := 1) B 0 rfl rfl dX3_weigh_0 rfl ?_
  refine g_iload_n (pc' := 2) B 3 rfl rfl dX3_weigh_1 rfl ?_
  refine g_put (pc' := 5) B 1 rfl fp_X3_15 rfl rfl dX3_weigh_2 rfl ?_
  refine g_aload_n (pc' := 6) B 0 rfl rfl dX3_weigh_5 rfl ?_
  refine g_iconst (pc' := 7) B dX3_weigh_6 rfl ?_
  refine g_iload (pc' := 9) B 4 rfl dX3_weigh_7 rfl ?_
  refine g_bipush (pc' := 11) B (by decide +kernel) dX3_weigh_9 rfl ?_
  refine g_mmin (pc' := 14) B (by omega) (by omega) tw_699 (by decide) (Nat.le_of_ble_eq_true rfl) (Nat.zero_le _) (Nat.zero_le _) dX3_weigh_11 rfl ?_
  refine g_mmax (pc' := 17) B (by omega) (by omega) tw_709 (by decide) (Nat.le_of_ble_eq_true rfl) (Nat.zero_le _) (Nat.zero_le _) dX3_weigh_14 rfl ?_
  refine g_put (pc' := 20) B 2 rfl fp_X3_19 rfl rfl dX3_weigh_17 rfl ?_
  refine g_aload_n (pc' := 21) B 0 rfl rfl dX3_weigh_20 rfl ?_
  refine g_get (pc' := 24) B (max 0 (min n 30)) (by simp [up]) fl_X3_19 rfl rfl dX3_weigh_21 rfl ?_
  refine g_istore (pc' := 26) B [(5, .int (iI (max 0 (min n 30)))), (0, .ref (K.2.2 43)), (1, .ref (K.2.2 b)), (2, .ref (K.2.2 31)), (3, .int (iI g)), (4, .int (iI n))] dX3_weigh_24 rfl (by decide) rfl ?_
  have L26 : ∀ (nn : Nat) (ρ : SG) (i : Int) , (i + 1).toNat = nn → (-1 ≤ i ∧ i ≤ n) → (∀ k, k ≠ 43 → k ≠ 44 → ρ k = σ k) → (ρ 43 1 = g ∧ ρ 43 2 = n) → (∀ y f : Int, i < y → y ≤ n → 0 ≤ f → f < D 9 0 → ρ 44 (y * 8 + f) = enc (wg D S X g n (n - y).toNat f)) → G pP l eE (rmo 5 116) sS mM [.ref (K.2.2 43), .ref (K.2.2 b), .ref (K.2.2 31), .int (iI g), .int (iI n)].toArray bW mT cC 0 0 (MQ bW (Qv K (fun τ => (∀ k, k ≠ 43 → k ≠ 44 → τ k = σ k) ∧ τ 43 1 = g ∧ τ 43 2 = n ∧ ∀ i f : Int, 0 ≤ i → i ≤ n → 0 ≤ f → f < D 9 0 → τ 44 (i * 8 + f) = enc (wg D S X g n (n - i).toNat f))) [.ref (K.2.2 43), .ref (K.2.2 b), .ref (K.2.2 31), .int (iI g), .int (iI n)].toArray sS 0 0 (wA K)) K sS.heap 9 ρ 26 [(5, .int (iI i)), (0, .ref (K.2.2 43)), (1, .ref (K.2.2 b)), (2, .ref (K.2.2 31)), (3, .int (iI g)), (4, .int (iI n))] [] := by
    intro nn
    induction nn using Nat.strongRecOn with
    | _ nn ih26 =>
      intro ρ i hn26 i1 i2 i3 i4
      refine g_iload (pc' := 28) B 0 rfl dX3_weigh_26 rfl ?_
      refine g_if_lt (pc' := 31) B 142 (by omega) dX3_weigh_28 (by decide) rfl (fun c28 => ?_) (fun c28 => ?_)
      · exact g_vret B hrt hlk dX3_weigh_142 ⟨i2, i3.1, i3.2, fun y f9 a b9 c d => i4 y f9 (by omega) b9 c d⟩
      · refine g_iconst (pc' := 32) B dX3_weigh_31 rfl ?_
        refine g_istore (pc' := 34) B [(6, .int (iI 0)), (5, .int (iI i)), (0, .ref (K.2.2 43)), (1, .ref (K.2.2 b)), (2, .ref (K.2.2 31)), (3, .int (iI g)), (4, .int (iI n))] dX3_weigh_32 rfl (by decide) rfl ?_
        have L34 : ∀ (nn : Nat) (ω : SG) (f : Int) , (D 9 0 - f).toNat = nn → (0 ≤ f ∧ f ≤ D 9 0) → (∀ k, k ≠ 44 → ω k = ρ k) → (∀ y f : Int, i < y → y ≤ n → 0 ≤ f → f < D 9 0 → ω 44 (y * 8 + f) = enc (wg D S X g n (n - y).toNat f)) → (∀ y : Int, 0 ≤ y → y < f → ω 44 (i * 8 + y) = enc (wg D S X g n (n - i).toNat y)) → G pP l eE (rmo 5 116) sS mM [.ref (K.2.2 43), .ref (K.2.2 b), .ref (K.2.2 31), .int (iI g), .int (iI n)].toArray bW mT cC 0 0 (MQ bW (Qv K (fun τ => (∀ k, k ≠ 43 → k ≠ 44 → τ k = σ k) ∧ τ 43 1 = g ∧ τ 43 2 = n ∧ ∀ i f : Int, 0 ≤ i → i ≤ n → 0 ≤ f → f < D 9 0 → τ 44 (i * 8 + f) = enc (wg D S X g n (n - i).toNat f))) [.ref (K.2.2 43), .ref (K.2.2 b), .ref (K.2.2 31), .int (iI g), .int (iI n)].toArray sS 0 0 (wA K)) K sS.heap 9 ω 34 [(6, .int (iI f)), (5, .int (iI i)), (0, .ref (K.2.2 43)), (1, .ref (K.2.2 b)), (2, .ref (K.2.2 31)), (3, .int (iI g)), (4, .int (iI n))] [] := by
          intro nn
          induction nn using Nat.strongRecOn with
          | _ nn ih34 =>
            intro ω f hn34 j1 j2 j4 j5
            have hωσ : ∀ k, k ≠ 43 → k ≠ 44 → ω k = σ k := fun k a b => (j2 k b).trans (i2 k a b)
            have hmω : ω 31 0 = S ∧ ω 31 1 = X ∧ ω 31 2 = L ∧ ω 31 3 = P := by rw [hωσ 31 (by decide) (by decide)]; exact hm
            have hSω : sD ω b D := hS.keep (fun k a c => hωσ k (by omega) (by omega))
            have hgω : ω 43 1 = g := by rw [j2 43 (by decide)]; exact i3.1
            have hnω : ω 43 2 = n := by rw [j2 43 (by decide)]; exact i3.2
            refine g_iload (pc' := 36) B 0 rfl dX3_weigh_34 rfl ?_
            refine g_aload_n (pc' := 37) B 3 rfl rfl dX3_weigh_36 rfl ?_
            refine g_getR (pc' := 40) B (b + 1) fl_X3_48 (ly_S hb) rfl dX3_weigh_37 rfl ?_
            refine g_get (pc' := 43) B (D 9 0) hSω.1.1 fl_X3_52 (ly_G (by omega)) rfl dX3_weigh_40 rfl ?_
            refine g_icmp_ge (pc' := 46) B 136 (by omega) (by omega) dX3_weigh_43 (by decide) rfl (fun c43 => ?_) (fun c43 => ?_)
            · refine g_iinc (pc' := 139) B 1 [(5, .int (iI (i + (-1)))), (6, .int (iI f)), (0, .ref (K.2.2 43)), (1, .ref (K.2.2 b)), (2, .ref (K.2.2 31)), (3, .int (iI g)), (4, .int (iI n))] dX3_weigh_136 rfl rfl (by decide) rfl ?_
              refine g_goto (pc' := 26) B dX3_weigh_139 (by decide) ?_
              refine g_loc B [(5, .int (iI (i + (-1)))), (0, .ref (K.2.2 43)), (1, .ref (K.2.2 b)), (2, .ref (K.2.2 31)), (3, .int (iI g)), (4, .int (iI n))] [0, 2, 3, 4, 5, 6] rfl ?_
              exact ih26 _ (by omega) ω (i + (-1)) rfl (by omega) (by intro k a b; rw [j2 k b]; exact i2 k a b) (by rw [j2 43 (by decide)]; exact i3) (by intro y f9 a b9 c d; by_cases e9 : y = i; (subst e9; exact j5 f9 c (by omega)); exact j4 y f9 (by omega) b9 c d)
            · refine g_iload (pc' := 48) B 0 rfl dX3_weigh_46 rfl ?_
              refine g_aload_n (pc' := 49) B 2 rfl rfl dX3_weigh_48 rfl ?_
              refine g_get (pc' := 52) B g hgω fl_X3_15 rfl rfl dX3_weigh_49 rfl ?_
              refine g_icmp_ne (pc' := 55) B 59 (by omega) (by omega) dX3_weigh_52 (by decide) rfl (fun c52 => ?_) (fun c52 => ?_)
              · refine g_ldc (z := 1000000) (pc' := 61) B tw_710 (by decide +kernel) dX3_weigh_59 rfl ?_
                refine g_istore (pc' := 63) B [(7, .int (iI 1000000)), (6, .int (iI f)), (5, .int (iI i)), (0, .ref (K.2.2 43)), (1, .ref (K.2.2 b)), (2, .ref (K.2.2 31)), (3, .int (iI g)), (4, .int (iI n))] dX3_weigh_61 rfl (by decide) rfl ?_
                refine g_iconst (pc' := 64) B dX3_weigh_63 rfl ?_
                refine g_istore (pc' := 66) B [(8, .int (iI 0)), (7, .int (iI 1000000)), (6, .int (iI f)), (5, .int (iI i)), (0, .ref (K.2.2 43)), (1, .ref (K.2.2 b)), (2, .ref (K.2.2 31)), (3, .int (iI g)), (4, .int (iI n))] dX3_weigh_64 rfl (by decide) rfl ?_
                have L66 : ∀ (nn : Nat) (v w : Int) , (3 - w).toNat = nn → ((0 ≤ w ∧ w ≤ 3) ∧ 0 ≤ v ∧ v ≤ 1000000) → (f = g → v = 0) → (f ≠ g → i = n → v = 1000000) → (f ≠ g → i < n → v = enc (pmin D (wg D S X g n (n - (i + 1)).toNat) (S + i + 1) (X + i + 1) f w.toNat)) → G pP l eE (rmo 5 116) sS mM [.ref (K.2.2 43), .ref (K.2.2 b), .ref (K.2.2 31), .int (iI g), .int (iI n)].toArray bW mT cC 0 0 (MQ bW (Qv K (fun τ => (∀ k, k ≠ 43 → k ≠ 44 → τ k = σ k) ∧ τ 43 1 = g ∧ τ 43 2 = n ∧ ∀ i f : Int, 0 ≤ i → i ≤ n → 0 ≤ f → f < D 9 0 → τ 44 (i * 8 + f) = enc (wg D S X g n (n - i).toNat f))) [.ref (K.2.2 43), .ref (K.2.2 b), .ref (K.2.2 31), .int (iI g), .int (iI n)].toArray sS 0 0 (wA K)) K sS.heap 9 ω 66 [(8, .int (iI w)), (7, .int (iI v)), (6, .int (iI f)), (5, .int (iI i)), (0, .ref (K.2.2 43)), (1, .ref (K.2.2 b)), (2, .ref (K.2.2 31)), (3, .int (iI g)), (4, .int (iI n))] [] := by
                  intro nn
                  induction nn using Nat.strongRecOn with
                  | _ nn ih66 =>
                    intro v w hn66 k1 k2 k3 k4
                    refine g_iload (pc' := 68) B 0 rfl dX3_weigh_66 rfl ?_
                    refine g_iconst (pc' := 69) B dX3_weigh_68 rfl ?_
                    refine g_icmp_gt (pc' := 72) B 115 (by omega) (by omega) dX3_weigh_69 (by decide) rfl (fun c69 => ?_) (fun c69 => ?_)
                    · have hv9 := wg_cell (by omega) k2 k3 k4 (by intro q9 q8; omega) (by omega)
                      refine g_aload_n (pc' := 116) B 4 rfl rfl dX3_weigh_115 rfl ?_
                      refine g_getR (pc' := 119) B 44 fl_X3_9 rfl rfl dX3_weigh_116 rfl ?_
                      refine g_iload (pc' := 121) B 3 rfl dX3_weigh_119 rfl ?_
                      refine g_bipush (pc' := 123) B (by decide +kernel) dX3_weigh_121 rfl ?_
                      refine g_imul (pc' := 124) B dX3_weigh_123 rfl ?_
                      refine g_iload (pc' := 126) B 2 rfl dX3_weigh_124 rfl ?_
                      refine g_iadd (pc' := 127) B dX3_weigh_126 rfl ?_
                      refine g_iload (pc' := 129) B 1 rfl dX3_weigh_127 rfl ?_
                      refine g_iast (pc' := 130) B rfl (by omega) (by decide) dX3_weigh_129 rfl ?_
                      refine g_iinc (pc' := 133) B 2 [(6, .int (iI (f + 1))), (8, .int (iI w)), (7, .int (iI v)), (5, .int (iI i)), (0, .ref (K.2.2 43)), (1, .ref (K.2.2 b)), (2, .ref (K.2.2 31)), (3, .int (iI g)), (4, .int (iI n))] dX3_weigh_130 rfl rfl (by decide) rfl ?_
                      refine g_goto (pc' := 34) B dX3_weigh_133 (by decide) ?_
                      refine g_loc B [(6, .int (iI (f + 1))), (5, .int (iI i)), (0, .ref (K.2.2 43)), (1, .ref (K.2.2 b)), (2, .ref (K.2.2 31)), (3, .int (iI g)), (4, .int (iI n))] [0, 3, 4, 5, 6, 7, 8] rfl ?_
                      exact ih34 _ (by omega) (up ω 44 ((i * 8) + f) v) (f + 1) rfl (by omega) (by intro k a; rw [up_row a]; exact j2 k a) (by intro y f9 a b9 c d; rw [up_col (by omega)]; exact j4 y f9 a b9 c d) (by intro y a b9; by_cases e9 : y = f; (subst e9; rw [up_same]; exact hv9); (rw [up_col (by omega)]; exact j5 y a (by omega)))
                    · refine g_iload (pc' := 74) B 3 rfl dX3_weigh_72 rfl ?_
                      refine g_aload_n (pc' := 75) B 4 rfl rfl dX3_weigh_74 rfl ?_
                      refine g_get (pc' := 78) B n hnω fl_X3_19 rfl rfl dX3_weigh_75 rfl ?_
                      refine g_icmp_ge (pc' := 81) B 115 (by omega) (by omega) dX3_weigh_78 (by decide) rfl (fun c78 => ?_) (fun c78 => ?_)
                      · have hv9 := wg_cell (by omega) k2 k3 k4 (by intro q9 q8; omega) (by omega)
                        refine g_aload_n (pc' := 116) B 4 rfl rfl dX3_weigh_115 rfl ?_
                        refine g_getR (pc' := 119) B 44 fl_X3_9 rfl rfl dX3_weigh_116 rfl ?_
                        refine g_iload (pc' := 121) B 3 rfl dX3_weigh_119 rfl ?_
                        refine g_bipush (pc' := 123) B (by decide +kernel) dX3_weigh_121 rfl ?_
                        refine g_imul (pc' := 124) B dX3_weigh_123 rfl ?_
                        refine g_iload (pc' := 126) B 2 rfl dX3_weigh_124 rfl ?_
                        refine g_iadd (pc' := 127) B dX3_weigh_126 rfl ?_
                        refine g_iload (pc' := 129) B 1 rfl dX3_weigh_127 rfl ?_
                        refine g_iast (pc' := 130) B rfl (by omega) (by decide) dX3_weigh_129 rfl ?_
                        refine g_iinc (pc' := 133) B 2 [(6, .int (iI (f + 1))), (8, .int (iI w)), (7, .int (iI v)), (5, .int (iI i)), (0, .ref (K.2.2 43)), (1, .ref (K.2.2 b)), (2, .ref (K.2.2 31)), (3, .int (iI g)), (4, .int (iI n))] dX3_weigh_130 rfl rfl (by decide) rfl ?_
                        refine g_goto (pc' := 34) B dX3_weigh_133 (by decide) ?_
                        refine g_loc B [(6, .int (iI (f + 1))), (5, .int (iI i)), (0, .ref (K.2.2 43)), (1, .ref (K.2.2 b)), (2, .ref (K.2.2 31)), (3, .int (iI g)), (4, .int (iI n))] [0, 3, 4, 5, 6, 7, 8] rfl ?_
                        exact ih34 _ (by omega) (up ω 44 ((i * 8) + f) v) (f + 1) rfl (by omega) (by intro k a; rw [up_row a]; exact j2 k a) (by intro y f9 a b9 c d; rw [up_col (by omega)]; exact j4 y f9 a b9 c d) (by intro y a b9; by_cases e9 : y = f; (subst e9; rw [up_same]; exact hv9); (rw [up_col (by omega)]; exact j5 y a (by omega)))
                      · refine g_iload (pc' := 83) B 2 rfl dX3_weigh_81 rfl ?_
                        refine g_aload_n (pc' := 84) B 4 rfl rfl dX3_weigh_83 rfl ?_
                        refine g_get (pc' := 87) B g hgω fl_X3_15 rfl rfl dX3_weigh_84 rfl ?_
                        refine g_icmp_eq (pc' := 90) B 115 (by omega) (by omega) dX3_weigh_87 (by decide) rfl (fun c87 => ?_) (fun c87 => ?_)
                        · have hv9 := wg_cell (by omega) k2 k3 k4 (by intro q9 q8; omega) (by omega)
                          refine g_aload_n (pc' := 116) B 4 rfl rfl dX3_weigh_115 rfl ?_
                          refine g_getR (pc' := 119) B 44 fl_X3_9 rfl rfl dX3_weigh_116 rfl ?_
                          refine g_iload (pc' := 121) B 3 rfl dX3_weigh_119 rfl ?_
                          refine g_bipush (pc' := 123) B (by decide +kernel) dX3_weigh_121 rfl ?_
                          refine g_imul (pc' := 124) B dX3_weigh_123 rfl ?_
                          refine g_iload (pc' := 126) B 2 rfl dX3_weigh_124 rfl ?_
                          refine g_iadd (pc' := 127) B dX3_weigh_126 rfl ?_
                          refine g_iload (pc' := 129) B 1 rfl dX3_weigh_127 rfl ?_
                          refine g_iast (pc' := 130) B rfl (by omega) (by decide) dX3_weigh_129 rfl ?_
                          refine g_iinc (pc' := 133) B 2 [(6, .int (iI (f + 1))), (8, .int (iI w)), (7, .int (iI v)), (5, .int (iI i)), (0, .ref (K.2.2 43)), (1, .ref (K.2.2 b)), (2, .ref (K.2.2 31)), (3, .int (iI g)), (4, .int (iI n))] dX3_weigh_130 rfl rfl (by decide) rfl ?_
                          refine g_goto (pc' := 34) B dX3_weigh_133 (by decide) ?_
                          refine g_loc B [(6, .int (iI (f + 1))), (5, .int (iI i)), (0, .ref (K.2.2 43)), (1, .ref (K.2.2 b)), (2, .ref (K.2.2 31)), (3, .int (iI g)), (4, .int (iI n))] [0, 3, 4, 5, 6, 7, 8] rfl ?_
                          exact ih34 _ (by omega) (up ω 44 ((i * 8) + f) v) (f + 1) rfl (by omega) (by intro k a; rw [up_row a]; exact j2 k a) (by intro y f9 a b9 c d; rw [up_col (by omega)]; exact j4 y f9 a b9 c d) (by intro y a b9; by_cases e9 : y = f; (subst e9; rw [up_same]; exact hv9); (rw [up_col (by omega)]; exact j5 y a (by omega)))
                        · have hp9 := pmin_bd (r := wg D S X g n (n - (i + 1)).toNat) hF (S + i + 1) (X + i + 1) f (fun y _ _ => wg_bd hF S X g n (n - (i + 1)).toNat y) (by omega) w.toNat
                          have hw9 := wyv_bd (r := wg D S X g n (n - (i + 1)).toNat) hF (S + i + 1) (X + i + 1) f w (fun y _ _ => wg_bd hF S X g n (n - (i + 1)).toNat y) (by omega)
                          have he9 := enc_bd (a := wyv D (wg D S X g n (n - (i + 1)).toNat) (S + i + 1) (X + i + 1) f w) (by omega)
                          refine g_iload (pc' := 92) B 1 rfl dX3_weigh_90 rfl ?_
                          refine g_aload_n (pc' := 93) B 4 rfl rfl dX3_weigh_92 rfl ?_
                          refine g_aload_n (pc' := 94) B 5 rfl rfl dX3_weigh_93 rfl ?_
                          refine g_aload_n (pc' := 95) B 6 rfl rfl dX3_weigh_94 rfl ?_
                          refine g_iload (pc' := 97) B 3 rfl dX3_weigh_95 rfl ?_
                          refine g_iload (pc' := 99) B 2 rfl dX3_weigh_97 rfl ?_
                          refine g_iload (pc' := 101) B 0 rfl dX3_weigh_99 rfl ?_
                          refine g_callVI (pc' := 104) (As := [.ref (K.2.2 b), .ref (K.2.2 31), .int (iI i), .int (iI f), .int (iI w)]) B (c_X3_pulledBy l K _ (S := S) (X := X) (L := L) (P := P) (b := b) (D := D) (r := wg D S X g n (n - (i + 1)).toNat) (m := n) (i := i) (f := f) (w := w) hmω hb hSω hF hH hO (by omega) (by omega) hnω (by omega) (by omega) (by omega) (fun y a b => ⟨j4 (i + 1) y (by omega) (by omega) a b, (wg_bd hF S X g n (n - (i + 1)).toNat y).1, by have q9 := (wg_bd hF S X g n (n - (i + 1)).toNat y).2; omega⟩)) vt_X3_pulledBy tw_711 rfl rfl ⟨by decide, by decide⟩ rfl (Nat.le_of_ble_eq_true rfl) ⟨Nat.zero_le _, Nat.zero_le _⟩ rfl dX3_weigh_101 rfl (fun z101 τ101 h101 => ?_)
                          obtain ⟨rfl, rfl⟩ := h101
                          refine g_mmin (pc' := 107) B (by omega) (by omega) tw_699 (by decide) (Nat.le_of_ble_eq_true rfl) (Nat.zero_le _) (Nat.zero_le _) dX3_weigh_104 rfl ?_
                          refine g_istore (pc' := 109) B [(7, .int (iI (min v (enc (wyv D (wg D S X g n (n - (i + 1)).toNat) (S + i + 1) (X + i + 1) f w))))), (8, .int (iI w)), (6, .int (iI f)), (5, .int (iI i)), (0, .ref (K.2.2 43)), (1, .ref (K.2.2 b)), (2, .ref (K.2.2 31)), (3, .int (iI g)), (4, .int (iI n))] dX3_weigh_107 rfl (by decide) rfl ?_
                          refine g_iinc (pc' := 112) B 1 [(8, .int (iI (w + 1))), (7, .int (iI (min v (enc (wyv D (wg D S X g n (n - (i + 1)).toNat) (S + i + 1) (X + i + 1) f w))))), (6, .int (iI f)), (5, .int (iI i)), (0, .ref (K.2.2 43)), (1, .ref (K.2.2 b)), (2, .ref (K.2.2 31)), (3, .int (iI g)), (4, .int (iI n))] dX3_weigh_109 rfl rfl (by decide) rfl ?_
                          refine g_goto (pc' := 66) B dX3_weigh_112 (by decide) ?_
                          exact ih66 _ (by omega) (min v (enc (wyv D (wg D S X g n (n - (i + 1)).toNat) (S + i + 1) (X + i + 1) f w))) (w + 1) rfl (by omega) (by intro q9; exact absurd q9 c87) (by intro q9 q8; omega) (by intro q9 q8; rw [k4 q9 q8, pmin_next (by omega), enc_mn (by omega) (by omega)])
                exact L66 _ 1000000 0 rfl (by omega) (by intro q9; first | rfl | exact absurd q9 c52) (by intro q9 q8; first | rfl | exact absurd c52 q9) (by intro q9 q8; first | rfl | exact absurd c52 q9)
              · refine g_iconst (pc' := 56) B dX3_weigh_55 rfl ?_
                refine g_goto (pc' := 61) B dX3_weigh_56 (by decide) ?_
                refine g_istore (pc' := 63) B [(7, .int (iI 0)), (6, .int (iI f)), (5, .int (iI i)), (0, .ref (K.2.2 43)), (1, .ref (K.2.2 b)), (2, .ref (K.2.2 31)), (3, .int (iI g)), (4, .int (iI n))] dX3_weigh_61 rfl (by decide) rfl ?_
                refine g_iconst (pc' := 64) B dX3_weigh_63 rfl ?_
                refine g_istore (pc' := 66) B [(8, .int (iI 0)), (7, .int (iI 0)), (6, .int (iI f)), (5, .int (iI i)), (0, .ref (K.2.2 43)), (1, .ref (K.2.2 b)), (2, .ref (K.2.2 31)), (3, .int (iI g)), (4, .int (iI n))] dX3_weigh_64 rfl (by decide) rfl ?_
                have L66 : ∀ (nn : Nat) (v w : Int) , (3 - w).toNat = nn → ((0 ≤ w ∧ w ≤ 3) ∧ 0 ≤ v ∧ v ≤ 1000000) → (f = g → v = 0) → (f ≠ g → i = n → v = 1000000) → (f ≠ g → i < n → v = enc (pmin D (wg D S X g n (n - (i + 1)).toNat) (S + i + 1) (X + i + 1) f w.toNat)) → G pP l eE (rmo 5 116) sS mM [.ref (K.2.2 43), .ref (K.2.2 b), .ref (K.2.2 31), .int (iI g), .int (iI n)].toArray bW mT cC 0 0 (MQ bW (Qv K (fun τ => (∀ k, k ≠ 43 → k ≠ 44 → τ k = σ k) ∧ τ 43 1 = g ∧ τ 43 2 = n ∧ ∀ i f : Int, 0 ≤ i → i ≤ n → 0 ≤ f → f < D 9 0 → τ 44 (i * 8 + f) = enc (wg D S X g n (n - i).toNat f))) [.ref (K.2.2 43), .ref (K.2.2 b), .ref (K.2.2 31), .int (iI g), .int (iI n)].toArray sS 0 0 (wA K)) K sS.heap 9 ω 66 [(8, .int (iI w)), (7, .int (iI v)), (6, .int (iI f)), (5, .int (iI i)), (0, .ref (K.2.2 43)), (1, .ref (K.2.2 b)), (2, .ref (K.2.2 31)), (3, .int (iI g)), (4, .int (iI n))] [] := by
                  intro nn
                  induction nn using Nat.strongRecOn with
                  | _ nn ih66 =>
                    intro v w hn66 k1 k2 k3 k4
                    refine g_iload (pc' := 68) B 0 rfl dX3_weigh_66 rfl ?_
                    refine g_iconst (pc' := 69) B dX3_weigh_68 rfl ?_
                    refine g_icmp_gt (pc' := 72) B 115 (by omega) (by omega) dX3_weigh_69 (by decide) rfl (fun c69 => ?_) (fun c69 => ?_)
                    · have hv9 := wg_cell (by omega) k2 k3 k4 (by intro q9 q8; omega) (by omega)
                      refine g_aload_n (pc' := 116) B 4 rfl rfl dX3_weigh_115 rfl ?_
                      refine g_getR (pc' := 119) B 44 fl_X3_9 rfl rfl dX3_weigh_116 rfl ?_
                      refine g_iload (pc' := 121) B 3 rfl dX3_weigh_119 rfl ?_
                      refine g_bipush (pc' := 123) B (by decide +kernel) dX3_weigh_121 rfl ?_
                      refine g_imul (pc' := 124) B dX3_weigh_123 rfl ?_
                      refine g_iload (pc' := 126) B 2 rfl dX3_weigh_124 rfl ?_
                      refine g_iadd (pc' := 127) B dX3_weigh_126 rfl ?_
                      refine g_iload (pc' := 129) B 1 rfl dX3_weigh_127 rfl ?_
                      refine g_iast (pc' := 130) B rfl (by omega) (by decide) dX3_weigh_129 rfl ?_
                      refine g_iinc (pc' := 133) B 2 [(6, .int (iI (f + 1))), (8, .int (iI w)), (7, .int (iI v)), (5, .int (iI i)), (0, .ref (K.2.2 43)), (1, .ref (K.2.2 b)), (2, .ref (K.2.2 31)), (3, .int (iI g)), (4, .int (iI n))] dX3_weigh_130 rfl rfl (by decide) rfl ?_
                      refine g_goto (pc' := 34) B dX3_weigh_133 (by decide) ?_
                      refine g_loc B [(6, .int (iI (f + 1))), (5, .int (iI i)), (0, .ref (K.2.2 43)), (1, .ref (K.2.2 b)), (2, .ref (K.2.2 31)), (3, .int (iI g)), (4, .int (iI n))] [0, 3, 4, 5, 6, 7, 8] rfl ?_
                      exact ih34 _ (by omega) (up ω 44 ((i * 8) + f) v) (f + 1) rfl (by omega) (by intro k a; rw [up_row a]; exact j2 k a) (by intro y f9 a b9 c d; rw [up_col (by omega)]; exact j4 y f9 a b9 c d) (by intro y a b9; by_cases e9 : y = f; (subst e9; rw [up_same]; exact hv9); (rw [up_col (by omega)]; exact j5 y a (by omega)))
                    · refine g_iload (pc' := 74) B 3 rfl dX3_weigh_72 rfl ?_
                      refine g_aload_n (pc' := 75) B 4 rfl rfl dX3_weigh_74 rfl ?_
                      refine g_get (pc' := 78) B n hnω fl_X3_19 rfl rfl dX3_weigh_75 rfl ?_
                      refine g_icmp_ge (pc' := 81) B 115 (by omega) (by omega) dX3_weigh_78 (by decide) rfl (fun c78 => ?_) (fun c78 => ?_)
                      · have hv9 := wg_cell (by omega) k2 k3 k4 (by intro q9 q8; omega) (by omega)
                        refine g_aload_n (pc' := 116) B 4 rfl rfl dX3_weigh_115 rfl ?_
                        refine g_getR (pc' := 119) B 44 fl_X3_9 rfl rfl dX3_weigh_116 rfl ?_
                        refine g_iload (pc' := 121) B 3 rfl dX3_weigh_119 rfl ?_
                        refine g_bipush (pc' := 123) B (by decide +kernel) dX3_weigh_121 rfl ?_
                        refine g_imul (pc' := 124) B dX3_weigh_123 rfl ?_
                        refine g_iload (pc' := 126) B 2 rfl dX3_weigh_124 rfl ?_
                        refine g_iadd (pc' := 127) B dX3_weigh_126 rfl ?_
                        refine g_iload (pc' := 129) B 1 rfl dX3_weigh_127 rfl ?_
                        refine g_iast (pc' := 130) B rfl (by omega) (by decide) dX3_weigh_129 rfl ?_
                        refine g_iinc (pc' := 133) B 2 [(6, .int (iI (f + 1))), (8, .int (iI w)), (7, .int (iI v)), (5, .int (iI i)), (0, .ref (K.2.2 43)), (1, .ref (K.2.2 b)), (2, .ref (K.2.2 31)), (3, .int (iI g)), (4, .int (iI n))] dX3_weigh_130 rfl rfl (by decide) rfl ?_
                        refine g_goto (pc' := 34) B dX3_weigh_133 (by decide) ?_
                        refine g_loc B [(6, .int (iI (f + 1))), (5, .int (iI i)), (0, .ref (K.2.2 43)), (1, .ref (K.2.2 b)), (2, .ref (K.2.2 31)), (3, .int (iI g)), (4, .int (iI n))] [0, 3, 4, 5, 6, 7, 8] rfl ?_
                        exact ih34 _ (by omega) (up ω 44 ((i * 8) + f) v) (f + 1) rfl (by omega) (by intro k a; rw [up_row a]; exact j2 k a) (by intro y f9 a b9 c d; rw [up_col (by omega)]; exact j4 y f9 a b9 c d) (by intro y a b9; by_cases e9 : y = f; (subst e9; rw [up_same]; exact hv9); (rw [up_col (by omega)]; exact j5 y a (by omega)))
                      · refine g_iload (pc' := 83) B 2 rfl dX3_weigh_81 rfl ?_
                        refine g_aload_n (pc' := 84) B 4 rfl rfl dX3_weigh_83 rfl ?_
                        refine g_get (pc' := 87) B g hgω fl_X3_15 rfl rfl dX3_weigh_84 rfl ?_
                        refine g_icmp_eq (pc' := 90) B 115 (by omega) (by omega) dX3_weigh_87 (by decide) rfl (fun c87 => ?_) (fun c87 => ?_)
                        · have hv9 := wg_cell (by omega) k2 k3 k4 (by intro q9 q8; omega) (by omega)
                          refine g_aload_n (pc' := 116) B 4 rfl rfl dX3_weigh_115 rfl ?_
                          refine g_getR (pc' := 119) B 44 fl_X3_9 rfl rfl dX3_weigh_116 rfl ?_
                          refine g_iload (pc' := 121) B 3 rfl dX3_weigh_119 rfl ?_
                          refine g_bipush (pc' := 123) B (by decide +kernel) dX3_weigh_121 rfl ?_
                          refine g_imul (pc' := 124) B dX3_weigh_123 rfl ?_
                          refine g_iload (pc' := 126) B 2 rfl dX3_weigh_124 rfl ?_
                          refine g_iadd (pc' := 127) B dX3_weigh_126 rfl ?_
                          refine g_iload (pc' := 129) B 1 rfl dX3_weigh_127 rfl ?_
                          refine g_iast (pc' := 130) B rfl (by omega) (by decide) dX3_weigh_129 rfl ?_
                          refine g_iinc (pc' := 133) B 2 [(6, .int (iI (f + 1))), (8, .int (iI w)), (7, .int (iI v)), (5, .int (iI i)), (0, .ref (K.2.2 43)), (1, .ref (K.2.2 b)), (2, .ref (K.2.2 31)), (3, .int (iI g)), (4, .int (iI n))] dX3_weigh_130 rfl rfl (by decide) rfl ?_
                          refine g_goto (pc' := 34) B dX3_weigh_133 (by decide) ?_
                          refine g_loc B [(6, .int (iI (f + 1))), (5, .int (iI i)), (0, .ref (K.2.2 43)), (1, .ref (K.2.2 b)), (2, .ref (K.2.2 31)), (3, .int (iI g)), (4, .int (iI n))] [0, 3, 4, 5, 6, 7, 8] rfl ?_
                          exact ih34 _ (by omega) (up ω 44 ((i * 8) + f) v) (f + 1) rfl (by omega) (by intro k a; rw [up_row a]; exact j2 k a) (by intro y f9 a b9 c d; rw [up_col (by omega)]; exact j4 y f9 a b9 c d) (by intro y a b9; by_cases e9 : y = f; (subst e9; rw [up_same]; exact hv9); (rw [up_col (by omega)]; exact j5 y a (by omega)))
                        · have hp9 := pmin_bd (r := wg D S X g n (n - (i + 1)).toNat) hF (S + i + 1) (X + i + 1) f (fun y _ _ => wg_bd hF S X g n (n - (i + 1)).toNat y) (by omega) w.toNat
                          have hw9 := wyv_bd (r := wg D S X g n (n - (i + 1)).toNat) hF (S + i + 1) (X + i + 1) f w (fun y _ _ => wg_bd hF S X g n (n - (i + 1)).toNat y) (by omega)
                          have he9 := enc_bd (a := wyv D (wg D S X g n (n - (i + 1)).toNat) (S + i + 1) (X + i + 1) f w) (by omega)
                          refine g_iload (pc' := 92) B 1 rfl dX3_weigh_90 rfl ?_
                          refine g_aload_n (pc' := 93) B 4 rfl rfl dX3_weigh_92 rfl ?_
                          refine g_aload_n (pc' := 94) B 5 rfl rfl dX3_weigh_93 rfl ?_
                          refine g_aload_n (pc' := 95) B 6 rfl rfl dX3_weigh_94 rfl ?_
                          refine g_iload (pc' := 97) B 3 rfl dX3_weigh_95 rfl ?_
                          refine g_iload (pc' := 99) B 2 rfl dX3_weigh_97 rfl ?_
                          refine g_iload (pc' := 101) B 0 rfl dX3_weigh_99 rfl ?_
                          refine g_callVI (pc' := 104) (As := [.ref (K.2.2 b), .ref (K.2.2 31), .int (iI i), .int (iI f), .int (iI w)]) B (c_X3_pulledBy l K _ (S := S) (X := X) (L := L) (P := P) (b := b) (D := D) (r := wg D S X g n (n - (i + 1)).toNat) (m := n) (i := i) (f := f) (w := w) hmω hb hSω hF hH hO (by omega) (by omega) hnω (by omega) (by omega) (by omega) (fun y a b => ⟨j4 (i + 1) y (by omega) (by omega) a b, (wg_bd hF S X g n (n - (i + 1)).toNat y).1, by have q9 := (wg_bd hF S X g n (n - (i + 1)).toNat y).2; omega⟩)) vt_X3_pulledBy tw_711 rfl rfl ⟨by decide, by decide⟩ rfl (Nat.le_of_ble_eq_true rfl) ⟨Nat.zero_le _, Nat.zero_le _⟩ rfl dX3_weigh_101 rfl (fun z101 τ101 h101 => ?_)
                          obtain ⟨rfl, rfl⟩ := h101
                          refine g_mmin (pc' := 107) B (by omega) (by omega) tw_699 (by decide) (Nat.le_of_ble_eq_true rfl) (Nat.zero_le _) (Nat.zero_le _) dX3_weigh_104 rfl ?_
                          refine g_istore (pc' := 109) B [(7, .int (iI (min v (enc (wyv D (wg D S X g n (n - (i + 1)).toNat) (S + i + 1) (X + i + 1) f w))))), (8, .int (iI w)), (6, .int (iI f)), (5, .int (iI i)), (0, .ref (K.2.2 43)), (1, .ref (K.2.2 b)), (2, .ref (K.2.2 31)), (3, .int (iI g)), (4, .int (iI n))] dX3_weigh_107 rfl (by decide) rfl ?_
                          refine g_iinc (pc' := 112) B 1 [(8, .int (iI (w + 1))), (7, .int (iI (min v (enc (wyv D (wg D S X g n (n - (i + 1)).toNat) (S + i + 1) (X + i + 1) f w))))), (6, .int (iI f)), (5, .int (iI i)), (0, .ref (K.2.2 43)), (1, .ref (K.2.2 b)), (2, .ref (K.2.2 31)), (3, .int (iI g)), (4, .int (iI n))] dX3_weigh_109 rfl rfl (by decide) rfl ?_
                          refine g_goto (pc' := 66) B dX3_weigh_112 (by decide) ?_
                          exact ih66 _ (by omega) (min v (enc (wyv D (wg D S X g n (n - (i + 1)).toNat) (S + i + 1) (X + i + 1) f w))) (w + 1) rfl (by omega) (by intro q9; exact absurd q9 c87) (by intro q9 q8; omega) (by intro q9 q8; rw [k4 q9 q8, pmin_next (by omega), enc_mn (by omega) (by omega)])
                exact L66 _ 0 0 rfl (by omega) (by intro q9; first | rfl | exact absurd q9 c52) (by intro q9 q8; first | rfl | exact absurd c52 q9) (by intro q9 q8; first | rfl | exact absurd c52 q9)
        exact L34 _ ρ 0 rfl (by omega) (by intro k a; rfl) (by exact i4) (by intro y a b; omega)
  exact L26 _ (up (up σ 43 1 g) 43 2 (max 0 (min n 30))) (max 0 (min n 30)) rfl (by omega) (by intro k a b; rw [up_row a, up_row a]) (by exact ⟨by simp [up], by simp [up]; omega⟩) (by intro y f a b c d; omega)
set_option maxRecDepth 100000 in
set_option maxHeartbeats 4000000 in
theorem c_X3_leastPulled (l : Launch) (K : WK) (σ : SG) {f m v : Int} (hmo : σ 43 2 = m) (hmm : 0 ≤ m ∧ m ≤ 30) (hf : 0 ≤ f ∧ f ≤ 7) (hv : σ 44 (0 * 8 + f) = enc v ∧ -1 ≤ v ∧ v ≤ 100000) : MI l yX3_leastPulled cX3_leastPulled 3 (some .int) 2 44 K σ [.ref (K.2.2 43), .int (iI f)] (fun z τ => σ = τ ∧ z = v) := by
  refine met_of [(0, .ref (K.2.2 43)), (1, .int (iI f))] (by decide +kernel) (Nat.le_of_ble_eq_true rfl) rfl ?_
  intro pP eE sS mM bW mT cC B hrt hlk
  replace B : CB pP sS mM [.ref (K.2.2 43), .int (iI f)].toArray cC cX3_leastPulled RX3 3 K := B
  have q9 := hv.1
  unfold enc at q9
  refine g_aload_n (pc' := 1) B 0 rfl rfl dX3_leastPulled_0 rfl ?_
  refine g_iconst (pc' := 2) B dX3_leastPulled_1 rfl ?_
  refine g_iload_n (pc' := 3) B 1 rfl rfl dX3_leastPulled_2 rfl ?_
  refine g_callVI (pc' := 6) (As := [.int (iI 0), .int (iI f)]) B (c_X3_pulledFrom l K _ (i := 0) (f := f) (m := m) hmo (by omega) (by omega)) vt_X3_pulledFrom tw_717 rfl rfl ⟨by decide, by decide⟩ rfl (Nat.le_of_ble_eq_true rfl) ⟨Nat.zero_le _, Nat.zero_le _⟩ rfl dX3_leastPulled_3 rfl (fun z3 τ3 h3 => ?_)
  obtain ⟨rfl, rfl⟩ := h3
  refine g_istore_n (pc' := 7) B [(2, .int (iI (σ 44 (0 * 8 + f)))), (0, .ref (K.2.2 43)), (1, .int (iI f))] dX3_leastPulled_6 rfl rfl (by decide) rfl ?_
  have q8 : 0 ≤ σ 44 (0 * 8 + f) ∧ σ 44 (0 * 8 + f) ≤ 1000000 := by split at q9 <;> omega
  refine g_iload_n (pc' := 8) B 0 rfl rfl dX3_leastPulled_7 rfl ?_
  refine g_ldc (z := 1000000) (pc' := 10) B tw_710 (by decide +kernel) dX3_leastPulled_8 rfl ?_
  refine g_icmp_ge (pc' := 13) B 17 (by omega) (by omega) dX3_leastPulled_10 (by decide) rfl (fun c10 => ?_) (fun c10 => ?_)
  · refine g_iconst (pc' := 18) B dX3_leastPulled_17 rfl ?_
    exact g_iret (z := (-1)) B hrt rfl hlk dX3_leastPulled_18 ⟨rfl, by split at q9 <;> omega⟩
  · refine g_iload_n (pc' := 14) B 0 rfl rfl dX3_leastPulled_13 rfl ?_
    refine g_goto (pc' := 18) B dX3_leastPulled_14 (by decide) ?_
    exact g_iret (z := σ 44 (0 * 8 + f)) B hrt rfl hlk dX3_leastPulled_18 ⟨rfl, by split at q9 <;> omega⟩
set_option maxRecDepth 100000 in
set_option maxHeartbeats 4000000 in
theorem c_X3_firstBest (l : Launch) (K : WK) (σ : SG) {S X L P : Int} (hm : σ 31 0 = S ∧ σ 31 1 = X ∧ σ 31 2 = L ∧ σ 31 3 = P) {b : Nat} (hb : b = 3 ∨ b = 17) {D : SG} (hS : sD σ b D) (hF : okF D) (hH : okH D) (hO : okQ D) (hSS : 0 ≤ S ∧ S ≤ 100000000) (hX : 0 ≤ X ∧ X ≤ 100000000) {r : Int → Int} {m i f : Int} (hmo : σ 43 2 = m) (hi : 0 ≤ i ∧ i < m ∧ m ≤ 30) (hf : 0 ≤ f ∧ f < D 9 0) (hr : ∀ y : Int, 0 ≤ y → y < D 9 0 → σ 44 ((i + 1) * 8 + y) = enc (r y) ∧ -1 ≤ r y ∧ r y ≤ 100000) (hbt : σ 44 (i * 8 + f) = enc (pmin D r (S + i + 1) (X + i + 1) f 3)) : MI l yX3_firstBest cX3_firstBest 7 (some .int) 5 116 K σ [.ref (K.2.2 43), .ref (K.2.2 b), .ref (K.2.2 31), .int (iI i), .int (iI f)] (fun z τ => σ = τ ∧ z = fbw D r (S + i + 1) (X + i + 1) f) := by
  refine met_of [(0, .ref (K.2.2 43)), (1, .ref (K.2.2 b)), (2, .ref (K.2.2 31)), (3, .int (iI i)), (4, .int (iI f))] (by decide +kernel) (Nat.le_of_ble_eq_true rfl) rfl ?_
  intro pP eE sS mM bW mT cC B hrt hlk
  replace B : CB pP sS mM [.ref (K.2.2 43), .ref (K.2.2 b), .ref (K.2.2 31), .int (iI i), .int (iI f)].toArray cC cX3_firstBest RX3 7 K := B
  obtain ⟨hF0, hF1⟩ := id hF
  have hp9 := pmin_bd hF (S + i + 1) (X + i + 1) f (fun y a b => (hr y a b).2) (by omega) 3
  have hq9 := enc_bd (a := pmin D r (S + i + 1) (X + i + 1) f 3) (by omega)
  refine g_aload_n (pc' := 1) B 0 rfl rfl dX3_firstBest_0 rfl ?_
  refine g_iload_n (pc' := 2) B 3 rfl rfl dX3_firstBest_1 rfl ?_
  refine g_iload (pc' := 4) B 4 rfl dX3_firstBest_2 rfl ?_
  refine g_callVI (pc' := 7) (As := [.int (iI i), .int (iI f)]) B (c_X3_pulledFrom l K _ (i := i) (f := f) (m := m) hmo (by omega) (by omega)) vt_X3_pulledFrom tw_717 rfl rfl ⟨by decide, by decide⟩ rfl (Nat.le_of_ble_eq_true rfl) ⟨Nat.zero_le _, Nat.zero_le _⟩ rfl dX3_firstBest_4 rfl (fun z4 τ4 h4 => ?_)
  obtain ⟨rfl, rfl⟩ := h4
  refine g_istore (pc' := 9) B [(5, .int (iI (σ 44 (i * 8 + f)))), (0, .ref (K.2.2 43)), (1, .ref (K.2.2 b)), (2, .ref (K.2.2 31)), (3, .int (iI i)), (4, .int (iI f))] dX3_firstBest_7 rfl (by decide) rfl ?_
  refine g_iconst (pc' := 10) B dX3_firstBest_9 rfl ?_
  refine g_istore (pc' := 12) B [(6, .int (iI 0)), (5, .int (iI (σ 44 (i * 8 + f)))), (0, .ref (K.2.2 43)), (1, .ref (K.2.2 b)), (2, .ref (K.2.2 31)), (3, .int (iI i)), (4, .int (iI f))] dX3_firstBest_10 rfl (by decide) rfl ?_
  have L12 : ∀ (nn : Nat) (w : Int) , (2 - w).toNat = nn → (0 ≤ w ∧ w ≤ 2) → ((1 ≤ w → wyv D r (S + i + 1) (X + i + 1) f 0 ≠ pmin D r (S + i + 1) (X + i + 1) f 3) ∧ (2 ≤ w → wyv D r (S + i + 1) (X + i + 1) f 1 ≠ pmin D r (S + i + 1) (X + i + 1) f 3)) → G pP l eE (rmo 5 116) sS mM [.ref (K.2.2 43), .ref (K.2.2 b), .ref (K.2.2 31), .int (iI i), .int (iI f)].toArray bW mT cC 0 0 (MQ bW (Qi K (fun z τ => σ = τ ∧ z = fbw D r (S + i + 1) (X + i + 1) f)) [.ref (K.2.2 43), .ref (K.2.2 b), .ref (K.2.2 31), .int (iI i), .int (iI f)].toArray sS 0 0 (wA K)) K sS.heap 7 σ 12 [(6, .int (iI w)), (5, .int (iI (σ 44 (i * 8 + f)))), (0, .ref (K.2.2 43)), (1, .ref (K.2.2 b)), (2, .ref (K.2.2 31)), (3, .int (iI i)), (4, .int (iI f))] [] := by
    intro nn
    induction nn using Nat.strongRecOn with
    | _ nn ih12 =>
      intro w hn12 i1 i2
      refine g_iload (pc' := 14) B 0 rfl dX3_firstBest_12 rfl ?_
      refine g_iconst (pc' := 15) B dX3_firstBest_14 rfl ?_
      refine g_icmp_ge (pc' := 18) B 43 (by omega) (by omega) dX3_firstBest_15 (by decide) rfl (fun c15 => ?_) (fun c15 => ?_)
      · refine g_iconst (pc' := 44) B dX3_firstBest_43 rfl ?_
        exact g_iret (z := 2) B hrt rfl hlk dX3_firstBest_44 ⟨rfl, by unfold fbw; rw [if_neg (i2.1 (by omega)), if_neg (i2.2 (by omega))]⟩
      · refine g_aload_n (pc' := 19) B 2 rfl rfl dX3_firstBest_18 rfl ?_
        refine g_aload_n (pc' := 20) B 3 rfl rfl dX3_firstBest_19 rfl ?_
        refine g_aload_n (pc' := 21) B 4 rfl rfl dX3_firstBest_20 rfl ?_
        refine g_iload_n (pc' := 22) B 5 rfl rfl dX3_firstBest_21 rfl ?_
        refine g_iload (pc' := 24) B 6 rfl dX3_firstBest_22 rfl ?_
        refine g_iload (pc' := 26) B 0 rfl dX3_firstBest_24 rfl ?_
        refine g_callVI (pc' := 29) (As := [.ref (K.2.2 b), .ref (K.2.2 31), .int (iI i), .int (iI f), .int (iI w)]) B (c_X3_pulledBy l K _ (S := S) (X := X) (L := L) (P := P) (b := b) (D := D) (r := r) (m := m) (i := i) (f := f) (w := w) hm hb hS hF hH hO (by omega) (by omega) hmo (by omega) (by omega) (by omega) hr) vt_X3_pulledBy tw_711 rfl rfl ⟨by decide, by decide⟩ rfl (Nat.le_of_ble_eq_true rfl) ⟨Nat.zero_le _, Nat.zero_le _⟩ rfl dX3_firstBest_26 rfl (fun z26 τ26 h26 => ?_)
        obtain ⟨rfl, rfl⟩ := h26
        have hw9 := wyv_bd hF (S + i + 1) (X + i + 1) f w (fun y a b => (hr y a b).2) (by omega)
        have he9 := enc_bd (a := wyv D r (S + i + 1) (X + i + 1) f w) (by omega)
        have hb9 : 0 ≤ σ 44 (i * 8 + f) ∧ σ 44 (i * 8 + f) ≤ 1000000 := by rw [hbt]; exact hq9
        refine g_iload (pc' := 31) B 1 rfl dX3_firstBest_29 rfl ?_
        refine g_icmp_ne (pc' := 34) B 37 (by omega) (by omega) dX3_firstBest_31 (by decide) rfl (fun c31 => ?_) (fun c31 => ?_)
        · refine g_iinc (pc' := 40) B 0 [(6, .int (iI (w + 1))), (5, .int (iI (σ 44 (i * 8 + f)))), (0, .ref (K.2.2 43)), (1, .ref (K.2.2 b)), (2, .ref (K.2.2 31)), (3, .int (iI i)), (4, .int (iI f))] dX3_firstBest_37 rfl rfl (by decide) rfl ?_
          refine g_goto (pc' := 12) B dX3_firstBest_40 (by decide) ?_
          exact ih12 _ (by omega) (w + 1) rfl (by omega) (by rw [hbt] at c31; exact ⟨fun _ => by by_cases e9 : w = 0; (subst e9; exact fun q => c31 (by rw [q])); exact i2.1 (by omega), fun q9 => by rw [show w = 1 by omega] at c31; exact fun q => c31 (by rw [q])⟩)
        · refine g_iload (pc' := 36) B 0 rfl dX3_firstBest_34 rfl ?_
          exact g_iret (z := w) B hrt rfl hlk dX3_firstBest_36 ⟨rfl, by rw [hbt] at c31; have q9 := enc_inj (by omega) (by omega) c31; unfold fbw; rcases (show w = 0 ∨ w = 1 by omega) with e | e; (subst e; rw [if_pos q9]); (subst e; rw [if_neg (i2.1 (by omega)), if_pos q9])⟩
  exact L12 _ 0 rfl (by omega) (by exact ⟨fun q => absurd q (by decide), fun q => absurd q (by decide)⟩)
set_option maxRecDepth 100000 in
set_option maxHeartbeats 4000000 in
theorem c_X3_leastWay (l : Launch) (K : WK) (σ : SG) {S X L P : Int} (hm : σ 31 0 = S ∧ σ 31 1 = X ∧ σ 31 2 = L ∧ σ 31 3 = P) {b : Nat} (hb : b = 3 ∨ b = 17) {D : SG} (hS : sD σ b D) (hF : okF D) (hH : okH D) (hO : okQ D) (hSS : 0 ≤ S ∧ S ≤ 100000000) (hX : 0 ≤ X ∧ X ≤ 100000000) {g n f y : Int} (hgo : σ 43 1 = g) (hmo : σ 43 2 = n) (hn : 1 ≤ n ∧ n ≤ 30) (hg0 : 0 ≤ g ∧ g < D 9 0) (hf : 0 ≤ f ∧ f < D 9 0) (hy : -2147483648 ≤ y ∧ y < 2147483648) (ht : ∀ i f : Int, 0 ≤ i → i ≤ n → 0 ≤ f → f < D 9 0 → σ 44 (i * 8 + f) = enc (wg D S X g n (n - i).toNat f)) : MI l yX3_leastWay cX3_leastWay 8 (some .int) 6 142 K σ [.ref (K.2.2 43), .ref (K.2.2 b), .ref (K.2.2 31), .int (iI f), .int (iI y)] (fun z τ => σ = τ ∧ z = (if wg D S X g n n.toNat f < 0 then -1 else lwF D S X g n y n.toNat f)) := by
  refine met_of [(0, .ref (K.2.2 43)), (1, .ref (K.2.2 b)), (2, .ref (K.2.2 31)), (3, .int (iI f)), (4, .int (iI y))] (by decide +kernel) (Nat.le_of_ble_eq_true rfl) rfl ?_
  intro pP eE sS mM bW mT cC B hrt hlk
  replace B : CB pP sS mM [.ref (K.2.2 43), .ref (K.2.2 b), .ref (K.2.2 31), .int (iI f), .int (iI y)].toArray cC cX3_leastWay RX3 8 K := B
  obtain ⟨hF0, hF1⟩ := id hF
  have hw0 := wg_bd hF S X g n n.toNat f
  have ht0 := ht 0 f (by omega) (by omega) hf.1 hf.2
  rw [show n - 0 = n by omega] at ht0
  refine g_aload_n (pc' := 1) B 0 rfl rfl dX3_leastWay_0 rfl ?_
  refine g_iload_n (pc' := 2) B 3 rfl rfl dX3_leastWay_1 rfl ?_
  refine g_callVI (pc' := 5) (As := [.int (iI f)]) B (c_X3_leastPulled l K _ (f := f) (m := n) (v := wg D S X g n n.toNat f) hmo (by omega) (by omega) (⟨ht0, hw0.1, by omega⟩)) vt_X3_leastPulled tw_731 rfl rfl ⟨by decide, by decide⟩ rfl (Nat.le_of_ble_eq_true rfl) ⟨Nat.zero_le _, Nat.zero_le _⟩ rfl dX3_leastWay_2 rfl (fun z2 τ2 h2 => ?_)
  obtain ⟨rfl, rfl⟩ := h2
  refine g_iconst (pc' := 6) B dX3_leastWay_5 rfl ?_
  refine g_icmp_ne (pc' := 9) B 11 (by omega) (by omega) dX3_leastWay_6 (by decide) rfl (fun c6 => ?_) (fun c6 => ?_)
  · refine g_iload_n (pc' := 12) B 3 rfl rfl dX3_leastWay_11 rfl ?_
    refine g_istore (pc' := 14) B [(5, .int (iI f)), (0, .ref (K.2.2 43)), (1, .ref (K.2.2 b)), (2, .ref (K.2.2 31)), (3, .int (iI f)), (4, .int (iI y))] dX3_leastWay_12 rfl (by decide) rfl ?_
    refine g_iconst (pc' := 15) B dX3_leastWay_14 rfl ?_
    refine g_istore (pc' := 17) B [(6, .int (iI 0)), (5, .int (iI f)), (0, .ref (K.2.2 43)), (1, .ref (K.2.2 b)), (2, .ref (K.2.2 31)), (3, .int (iI f)), (4, .int (iI y))] dX3_leastWay_15 rfl (by decide) rfl ?_
    have L17 : ∀ (nn : Nat) (a i : Int) , (n - i).toNat = nn → (0 ≤ i ∧ i ≤ n) → (0 ≤ a ∧ a < D 9 0) → (0 ≤ wg D S X g n (n - i).toNat a) → (lwF D S X g n y (n - i).toNat a = lwF D S X g n y n.toNat f) → G pP l eE (rmo 6 142) sS mM [.ref (K.2.2 43), .ref (K.2.2 b), .ref (K.2.2 31), .int (iI f), .int (iI y)].toArray bW mT cC 0 0 (MQ bW (Qi K (fun z τ => σ = τ ∧ z = (if wg D S X g n n.toNat f < 0 then -1 else lwF D S X g n y n.toNat f))) [.ref (K.2.2 43), .ref (K.2.2 b), .ref (K.2.2 31), .int (iI f), .int (iI y)].toArray sS 0 0 (wA K)) K sS.heap 8 σ 17 [(6, .int (iI i)), (5, .int (iI a)), (0, .ref (K.2.2 43)), (1, .ref (K.2.2 b)), (2, .ref (K.2.2 31)), (3, .int (iI f)), (4, .int (iI y))] [] := by
      intro nn
      induction nn using Nat.strongRecOn with
      | _ nn ih17 =>
        intro a i hn17 i1 i2 i3 i4
        refine g_iload (pc' := 19) B 0 rfl dX3_leastWay_17 rfl ?_
        refine g_aload_n (pc' := 20) B 2 rfl rfl dX3_leastWay_19 rfl ?_
        refine g_get (pc' := 23) B n hmo fl_X3_19 rfl rfl dX3_leastWay_20 rfl ?_
        refine g_icmp_ge (pc' := 26) B 72 (by omega) (by omega) dX3_leastWay_23 (by decide) rfl (fun c23 => ?_) (fun c23 => ?_)
        · refine g_iconst (pc' := 73) B dX3_leastWay_72 rfl ?_
          exact g_iret (z := (-1)) B hrt rfl hlk dX3_leastWay_73 ⟨rfl, by rw [if_neg (by omega), ← i4, lwF_end _ (by omega)]⟩
        · refine g_iload (pc' := 28) B 1 rfl dX3_leastWay_26 rfl ?_
          refine g_aload_n (pc' := 29) B 2 rfl rfl dX3_leastWay_28 rfl ?_
          refine g_get (pc' := 32) B g hgo fl_X3_15 rfl rfl dX3_leastWay_29 rfl ?_
          refine g_icmp_eq (pc' := 35) B 72 (by omega) (by omega) dX3_leastWay_32 (by decide) rfl (fun c32 => ?_) (fun c32 => ?_)
          · refine g_iconst (pc' := 73) B dX3_leastWay_72 rfl ?_
            exact g_iret (z := (-1)) B hrt rfl hlk dX3_leastWay_73 ⟨rfl, by rw [if_neg (by omega), ← i4, lwF_end _ (by omega)]⟩
          · refine g_aload_n (pc' := 36) B 2 rfl rfl dX3_leastWay_35 rfl ?_
            refine g_aload_n (pc' := 37) B 3 rfl rfl dX3_leastWay_36 rfl ?_
            refine g_aload_n (pc' := 38) B 4 rfl rfl dX3_leastWay_37 rfl ?_
            refine g_iload (pc' := 40) B 0 rfl dX3_leastWay_38 rfl ?_
            refine g_iload (pc' := 42) B 1 rfl dX3_leastWay_40 rfl ?_
            refine g_callVI (pc' := 45) (As := [.ref (K.2.2 b), .ref (K.2.2 31), .int (iI i), .int (iI a)]) B (c_X3_firstBest l K _ (S := S) (X := X) (L := L) (P := P) (b := b) (D := D) (r := wg D S X g n (n - (i + 1)).toNat) (m := n) (i := i) (f := a) hm hb hS hF hH hO (by omega) (by omega) hmo (by omega) (by omega) (fun x a b => ⟨ht (i + 1) x (by omega) (by omega) a b, (wg_bd hF S X g n (n - (i + 1)).toNat x).1, by have q9 := (wg_bd hF S X g n (n - (i + 1)).toNat x).2; omega⟩) (by rw [ht i a (by omega) (by omega) (by omega) (by omega), wg_step (by omega) (by omega), if_neg c32])) vt_X3_firstBest tw_732 rfl rfl ⟨by decide, by decide⟩ rfl (Nat.le_of_ble_eq_true rfl) ⟨Nat.zero_le _, Nat.zero_le _⟩ rfl dX3_leastWay_42 rfl (fun z42 τ42 h42 => ?_)
            obtain ⟨rfl, rfl⟩ := h42
            have hwk := wg_walk (S := S) (X := X) (n := n) (i := i) (a := a) (g := g) (by omega) (by omega) c32 i3
            have hfi := fbw_in D (wg D S X g n (n - (i + 1)).toNat) (S + i + 1) (X + i + 1) a
            refine g_istore (pc' := 47) B [(7, .int (iI (fbw D (wg D S X g n (n - (i + 1)).toNat) (S + i + 1) (X + i + 1) a))), (6, .int (iI i)), (5, .int (iI a)), (0, .ref (K.2.2 43)), (1, .ref (K.2.2 b)), (2, .ref (K.2.2 31)), (3, .int (iI f)), (4, .int (iI y))] dX3_leastWay_45 rfl (by decide) rfl ?_
            refine g_iload (pc' := 49) B 1 rfl dX3_leastWay_47 rfl ?_
            refine g_iload (pc' := 51) B 7 rfl dX3_leastWay_49 rfl ?_
            refine g_icmp_ne (pc' := 54) B 57 (by omega) (by omega) dX3_leastWay_51 (by decide) rfl (fun c51 => ?_) (fun c51 => ?_)
            · refine g_iload (pc' := 59) B 2 rfl dX3_leastWay_57 rfl ?_
              refine g_iload (pc' := 61) B 0 rfl dX3_leastWay_59 rfl ?_
              refine g_callNI (pc' := 64) (As := [.int (iI a), .int (iI (fbw D (wg D S X g n (n - (i + 1)).toNat) (S + i + 1) (X + i + 1) a))]) B (c_X11_besideOf l K _ (f := a) (way := fbw D (wg D S X g n (n - (i + 1)).toNat) (S + i + 1) (X + i + 1) a) (by omega) (by omega)) st_X11_besideOf tw_715 ⟨by decide, by decide⟩ rfl (Nat.le_of_ble_eq_true rfl) ⟨Nat.zero_le _, Nat.zero_le _⟩ rfl dX3_leastWay_61 rfl (fun z61 τ61 h61 => ?_)
              obtain ⟨rfl, rfl⟩ := h61
              refine g_istore (pc' := 66) B [(5, .int (iI (bes a (fbw D (wg D S X g n (n - (i + 1)).toNat) (S + i + 1) (X + i + 1) a)))), (7, .int (iI (fbw D (wg D S X g n (n - (i + 1)).toNat) (S + i + 1) (X + i + 1) a))), (6, .int (iI i)), (0, .ref (K.2.2 43)), (1, .ref (K.2.2 b)), (2, .ref (K.2.2 31)), (3, .int (iI f)), (4, .int (iI y))] dX3_leastWay_64 rfl (by decide) rfl ?_
              refine g_iinc (pc' := 69) B 2 [(6, .int (iI (i + 1))), (5, .int (iI (bes a (fbw D (wg D S X g n (n - (i + 1)).toNat) (S + i + 1) (X + i + 1) a)))), (7, .int (iI (fbw D (wg D S X g n (n - (i + 1)).toNat) (S + i + 1) (X + i + 1) a))), (0, .ref (K.2.2 43)), (1, .ref (K.2.2 b)), (2, .ref (K.2.2 31)), (3, .int (iI f)), (4, .int (iI y))] dX3_leastWay_66 rfl rfl (by decide) rfl ?_
              refine g_goto (pc' := 17) B dX3_leastWay_69 (by decide) ?_
              refine g_loc B [(6, .int (iI (i + 1))), (5, .int (iI (bes a (fbw D (wg D S X g n (n - (i + 1)).toNat) (S + i + 1) (X + i + 1) a)))), (0, .ref (K.2.2 43)), (1, .ref (K.2.2 b)), (2, .ref (K.2.2 31)), (3, .int (iI f)), (4, .int (iI y))] [0, 1, 3, 4, 5, 6, 7] rfl ?_
              exact ih17 _ (by omega) (bes a (fbw D (wg D S X g n (n - (i + 1)).toNat) (S + i + 1) (X + i + 1) a)) (i + 1) rfl (by omega) (by exact hwk.1) (by exact hwk.2.2) (by rw [← i4, lwF_step (i := i) (by omega) (by omega), if_neg c32, if_neg c51])
            · refine g_iload (pc' := 56) B 0 rfl dX3_leastWay_54 rfl ?_
              exact g_iret (z := fbw D (wg D S X g n (n - (i + 1)).toNat) (S + i + 1) (X + i + 1) a) B hrt rfl hlk dX3_leastWay_56 ⟨rfl, by rw [if_neg (by omega), ← i4, lwF_step (i := i) (by omega) (by omega), if_neg c32, if_pos c51]⟩
    exact L17 _ f 0 rfl (by omega) (by omega) (by rw [show n - 0 = n by omega]; omega) (by rw [show n - 0 = n by omega])
  · refine g_iconst (pc' := 10) B dX3_leastWay_9 rfl ?_
    exact g_iret (z := (-1)) B hrt rfl hlk dX3_leastWay_10 ⟨rfl, by rw [if_pos (by omega)]⟩
