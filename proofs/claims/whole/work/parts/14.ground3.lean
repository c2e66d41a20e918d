def osm (D : SG) (f v x n q : Int) : Nat → Int
  | 0 => 0
  | k + 1 => osm D f v x n q k + (if v ≤ hgt D f (x + n - k) then sh q n.toNat k else 0)
theorem osm_next {D : SG} {f v x n q k : Int} (h : 0 ≤ k) : osm D f v x n q (k + 1).toNat = osm D f v x n q k.toNat + (if v ≤ hgt D f (x + n - k) then sh q n.toNat k else 0) := by
  rw [show (k + 1).toNat = k.toNat + 1 by omega]
  show osm D f v x n q k.toNat + (if v ≤ hgt D f (x + n - ((k.toNat : Nat) : Int)) then sh q n.toNat ((k.toNat : Nat) : Int) else 0) = _
  rw [show ((k.toNat : Nat) : Int) = k by omega]
/-- the street's data with one field more -/
def dF (D : SG) (b n l s : Int) : SG := up (up (up (up (up (up D 0 (D 9 0) b) 1 (D 9 0) n) 2 (D 9 0) l) 3 (D 9 0) s) 9 0 (D 9 0 + 1)) 9 3 (lc (D 9 3) n)
theorem up_id {σ : SG} {k : Nat} {i v : Int} (h : σ k i = v) : up σ k i v = σ := by
  funext k' j
  unfold up
  split
  · rename_i q; rw [q.1, q.2, h]
  · rfl
set_option maxRecDepth 100000 in
set_option maxHeartbeats 4000000 in
theorem c_X2_chanceOf (l : Launch) (K : WK) (σ : SG) {g : Nat} (hg : g = 4 ∨ g = 18) {D : SG} (hD : gD σ g D) (hF : okF D) {f v x n q : Int} (h0 : 0 ≤ f) (h1 : f < D 9 0) (hv : 0 ≤ v ∧ v ≤ 999) (hx : 0 ≤ x ∧ x ≤ 1000000000) (hn : 1 ≤ n ∧ n ≤ 20) (hq : 0 ≤ q ∧ q ≤ 100) : MI l yX2_chanceOf cX2_chanceOf 10 (some .int) 3 66 K σ [.ref (K.2.2 g), .int (iI f), .int (iI v), .int (iI x), .int (iI n), .int (iI q)] (fun z τ => (∀ k, k ≠ g + 5 → τ k = σ k) ∧ z = osm D f v x n q (n + 1).toNat) := by
  refine met_of [(0, .ref (K.2.2 g)), (1, .int (iI f)), (2, .int (iI v)), (3, .int (iI x)), (4, .int (iI n)), (5, .int (iI q))] (by decide +kernel) (Nat.le_of_ble_eq_true rfl) rfl ?_
  intro pP eE sS mM bW mT cC B hrt hlk
  replace B : CB pP sS mM [.ref (K.2.2 g), .int (iI f), .int (iI v), .int (iI x), .int (iI n), .int (iI q)].toArray cC cX2_chanceOf RX2 10 K := B
  obtain ⟨hF0, hF1⟩ := id hF
  refine g_iload (pc' := 2) B 4 rfl dX2_chanceOf_0 rfl ?_
  refine g_bipush (pc' := 4) B (by decide +kernel) dX2_chanceOf_2 rfl ?_
  refine g_mmin (pc' := 7) B (by omega) (by omega) tw_850 (by decide) (Nat.le_of_ble_eq_true rfl) (Nat.zero_le _) (Nat.zero_le _) dX2_chanceOf_4 rfl ?_
  refine g_istore (pc' := 9) B [(6, .int (iI (min n 20))), (0, .ref (K.2.2 g)), (1, .int (iI f)), (2, .int (iI v)), (3, .int (iI x)), (4, .int (iI n)), (5, .int (iI q))] dX2_chanceOf_7 rfl (by decide) rfl ?_
  refine g_aload_n (pc' := 10) B 1 rfl rfl dX2_chanceOf_9 rfl ?_
  refine g_getR (pc' := 13) B (g + 5) fl_X2_24 (ly_G hg) rfl dX2_chanceOf_10 rfl ?_
  refine g_iconst (pc' := 14) B dX2_chanceOf_13 rfl ?_
  refine g_ldc2 (z := 1000000000) (pc' := 17) B tw_866 (by decide +kernel) dX2_chanceOf_14 rfl ?_
  refine g_last (pc' := 18) B (ly_Ga4 hg) (by omega) (by decide) dX2_chanceOf_17 rfl ?_
  refine g_iconst (pc' := 19) B dX2_chanceOf_18 rfl ?_
  refine g_istore (pc' := 21) B [(7, .int (iI 1)), (6, .int (iI (min n 20))), (0, .ref (K.2.2 g)), (1, .int (iI f)), (2, .int (iI v)), (3, .int (iI x)), (4, .int (iI n)), (5, .int (iI q))] dX2_chanceOf_19 rfl (by decide) rfl ?_
  have L21 : ∀ (nn : Nat) (ρ : SG) (i : Int) , (n + 1 - i).toNat = nn → (1 ≤ i ∧ i ≤ n + 1) → (∀ k, k ≠ g + 5 → ρ k = σ k) → (∀ h : Int, 0 ≤ h → h < i → ρ (g + 5) h = sh q (i - 1).toNat h) → G pP l eE (rmo 3 66) sS mM [.ref (K.2.2 g), .int (iI f), .int (iI v), .int (iI x), .int (iI n), .int (iI q)].toArray bW mT cC 0 0 (MQ bW (Qi K (fun z τ => (∀ k, k ≠ g + 5 → τ k = σ k) ∧ z = osm D f v x n q (n + 1).toNat)) [.ref (K.2.2 g), .int (iI f), .int (iI v), .int (iI x), .int (iI n), .int (iI q)].toArray sS 0 0 (wA K)) K sS.heap 10 ρ 21 [(7, .int (iI i)), (6, .int (iI (min n 20))), (0, .ref (K.2.2 g)), (1, .int (iI f)), (2, .int (iI v)), (3, .int (iI x)), (4, .int (iI n)), (5, .int (iI q))] [] := by
    intro nn
    induction nn using Nat.strongRecOn with
    | _ nn ih21 =>
      intro ρ i hn21 i1 i2 i3
      refine g_iload (pc' := 23) B 0 rfl dX2_chanceOf_21 rfl ?_
      refine g_iload (pc' := 25) B 1 rfl dX2_chanceOf_23 rfl ?_
      refine g_icmp_gt (pc' := 28) B 42 (by omega) (by omega) dX2_chanceOf_25 (by decide) rfl (fun c25 => ?_) (fun c25 => ?_)
      · have hi9 : i - 1 = n := by omega
        rw [hi9] at i3
        refine g_lconst (z := 0) (pc' := 43) B (by decide +kernel) dX2_chanceOf_42 rfl ?_
        refine g_lstore (pc' := 45) B [(7, .long (lI 0)), (6, .int (iI (min n 20))), (0, .ref (K.2.2 g)), (1, .int (iI f)), (2, .int (iI v)), (3, .int (iI x)), (4, .int (iI n)), (5, .int (iI q))] dX2_chanceOf_43 rfl (by decide) rfl ?_
        refine g_iconst (pc' := 46) B dX2_chanceOf_45 rfl ?_
        refine g_istore (pc' := 48) B [(9, .int (iI 0)), (7, .long (lI 0)), (6, .int (iI (min n 20))), (0, .ref (K.2.2 g)), (1, .int (iI f)), (2, .int (iI v)), (3, .int (iI x)), (4, .int (iI n)), (5, .int (iI q))] dX2_chanceOf_46 rfl (by decide) rfl ?_
        have L48 : ∀ (nn : Nat) (w h : Int) , (n + 1 - h).toNat = nn → (0 ≤ h ∧ h ≤ n + 1) → (w = osm D f v x n q h.toNat) → G pP l eE (rmo 3 66) sS mM [.ref (K.2.2 g), .int (iI f), .int (iI v), .int (iI x), .int (iI n), .int (iI q)].toArray bW mT cC 0 0 (MQ bW (Qi K (fun z τ => (∀ k, k ≠ g + 5 → τ k = σ k) ∧ z = osm D f v x n q (n + 1).toNat)) [.ref (K.2.2 g), .int (iI f), .int (iI v), .int (iI x), .int (iI n), .int (iI q)].toArray sS 0 0 (wA K)) K sS.heap 10 ρ 48 [(9, .int (iI h)), (7, .long (lI w)), (6, .int (iI (min n 20))), (0, .ref (K.2.2 g)), (1, .int (iI f)), (2, .int (iI v)), (3, .int (iI x)), (4, .int (iI n)), (5, .int (iI q))] [] := by
          intro nn
          induction nn using Nat.strongRecOn with
          | _ nn ih48 =>
            intro w h hn48 j1 j2
            refine g_iload (pc' := 50) B 0 rfl dX2_chanceOf_48 rfl ?_
            refine g_iload (pc' := 52) B 2 rfl dX2_chanceOf_50 rfl ?_
            refine g_icmp_gt (pc' := 55) B 89 (by omega) (by omega) dX2_chanceOf_52 (by decide) rfl (fun c52 => ?_) (fun c52 => ?_)
            · refine g_lload (pc' := 91) B 1 rfl dX2_chanceOf_89 rfl ?_
              refine g_l2i (pc' := 92) B dX2_chanceOf_91 rfl ?_
              exact g_iret (z := w) B hrt rfl hlk dX2_chanceOf_92 ⟨i2, by rw [j2, show h = n + 1 by omega]⟩
            · refine g_aload_n (pc' := 56) B 3 rfl rfl dX2_chanceOf_55 rfl ?_
              refine g_iload_n (pc' := 57) B 4 rfl rfl dX2_chanceOf_56 rfl ?_
              refine g_iload_n (pc' := 58) B 6 rfl rfl dX2_chanceOf_57 rfl ?_
              refine g_iload (pc' := 60) B 2 rfl dX2_chanceOf_58 rfl ?_
              refine g_iadd (pc' := 61) B dX2_chanceOf_60 rfl ?_
              refine g_iload (pc' := 63) B 0 rfl dX2_chanceOf_61 rfl ?_
              refine g_isub (pc' := 64) B dX2_chanceOf_63 rfl ?_
              refine g_callVI (pc' := 67) (As := [.int (iI f), .int (iI ((x + (min n 20)) - h))]) B (c_X2_heightAt l K _ (g := g) (D := D) (f := f) (x := (x + (min n 20)) - h) hg (hD.keep (fun k a b => i2 k (by omega))) hF (by omega) (by omega) (by omega)) vt_X2_heightAt tw_510 (ly_G hg) rfl ⟨by decide, by decide⟩ rfl (Nat.le_of_ble_eq_true rfl) ⟨Nat.zero_le _, Nat.zero_le _⟩ rfl dX2_chanceOf_64 rfl (fun z64 τ64 h64 => ?_)
              obtain ⟨rfl, rfl⟩ := h64
              have hb := hgt_bd (x := x + min n 20 - h) hF h0 h1
              refine g_iload_n (pc' := 68) B 5 rfl rfl dX2_chanceOf_67 rfl ?_
              refine g_icmp_lt (pc' := 71) B 83 (by omega) (by omega) dX2_chanceOf_68 (by decide) rfl (fun c68 => ?_) (fun c68 => ?_)
              · have e83 : x + n - h = x + min n 20 - h := by omega
                refine g_iinc (pc' := 86) B 0 [(9, .int (iI (h + 1))), (7, .long (lI w)), (6, .int (iI (min n 20))), (0, .ref (K.2.2 g)), (1, .int (iI f)), (2, .int (iI v)), (3, .int (iI x)), (4, .int (iI n)), (5, .int (iI q))] dX2_chanceOf_83 rfl rfl (by decide) rfl ?_
                refine g_goto (pc' := 48) B dX2_chanceOf_86 (by decide) ?_
                exact ih48 _ (by omega) w (h + 1) rfl (by omega) (by rw [osm_next (by omega), j2]; first | rw [if_pos c68x] | (rw [e83, if_neg (by omega)]; omega))
              · have e77 := i3 h (by omega) (by omega)
                have c68x : v ≤ hgt D f (x + n - h) := by rw [show x + n - h = x + min n 20 - h by omega]; exact c68
                refine g_lload (pc' := 73) B 1 rfl dX2_chanceOf_71 rfl ?_
                refine g_aload_n (pc' := 74) B 3 rfl rfl dX2_chanceOf_73 rfl ?_
                refine g_getR (pc' := 77) B (g + 5) fl_X2_24 (ly_G hg) rfl dX2_chanceOf_74 rfl ?_
                refine g_iload (pc' := 79) B 0 rfl dX2_chanceOf_77 rfl ?_
                refine g_lald (pc' := 80) B (sh q n.toNat h) e77 (ly_Ga4 hg) (by omega) (by decide) dX2_chanceOf_79 rfl ?_
                refine g_ladd (pc' := 81) B dX2_chanceOf_80 rfl ?_
                refine g_lstore (pc' := 83) B [(7, .long (lI (w + (sh q n.toNat h)))), (9, .int (iI h)), (6, .int (iI (min n 20))), (0, .ref (K.2.2 g)), (1, .int (iI f)), (2, .int (iI v)), (3, .int (iI x)), (4, .int (iI n)), (5, .int (iI q))] dX2_chanceOf_81 rfl (by decide) rfl ?_
                have e83 : x + n - h = x + min n 20 - h := by omega
                refine g_iinc (pc' := 86) B 1 [(9, .int (iI (h + 1))), (7, .long (lI (w + (sh q n.toNat h)))), (6, .int (iI (min n 20))), (0, .ref (K.2.2 g)), (1, .int (iI f)), (2, .int (iI v)), (3, .int (iI x)), (4, .int (iI n)), (5, .int (iI q))] dX2_chanceOf_83 rfl rfl (by decide) rfl ?_
                refine g_goto (pc' := 48) B dX2_chanceOf_86 (by decide) ?_
                exact ih48 _ (by omega) (w + (sh q n.toNat h)) (h + 1) rfl (by omega) (by rw [osm_next (by omega), j2]; first | rw [if_pos c68x] | (rw [e83, if_neg (by omega)]; omega))
        exact L48 _ 0 0 rfl (by omega) (by rfl)
      · refine g_aload_n (pc' := 29) B 2 rfl rfl dX2_chanceOf_28 rfl ?_
        refine g_iload (pc' := 31) B 0 rfl dX2_chanceOf_29 rfl ?_
        refine g_iload (pc' := 33) B 7 rfl dX2_chanceOf_31 rfl ?_
        refine g_callVV (pc' := 36) (As := [.int (iI i), .int (iI q)]) B (c_X2_shareOut l K _ (g := g) (D := D) (i := i) (q := q) hg (hD.keep (fun k a b => i2 k (by omega))) hF (by omega) (by omega) i3) vt_X2_shareOut tw_867 (ly_G hg) rfl ⟨by decide, by decide⟩ rfl (Nat.le_of_ble_eq_true rfl) ⟨Nat.zero_le _, Nat.zero_le _⟩ rfl dX2_chanceOf_33 rfl (fun τ33 h33 => ?_)
        obtain ⟨h33a, h33b⟩ := h33
        refine g_iinc (pc' := 39) B 0 [(7, .int (iI (i + 1))), (6, .int (iI (min n 20))), (0, .ref (K.2.2 g)), (1, .int (iI f)), (2, .int (iI v)), (3, .int (iI x)), (4, .int (iI n)), (5, .int (iI q))] dX2_chanceOf_36 rfl rfl (by decide) rfl ?_
        refine g_goto (pc' := 21) B dX2_chanceOf_39 (by decide) ?_
        exact ih21 _ (by omega) τ33 (i + 1) rfl (by omega) (by intro k hk; rw [h33a k hk]; exact i2 k hk) (by intro h a b; rw [show i + 1 - 1 = i by omega]; exact h33b h a (by omega))
  exact L21 _ (up σ (g + 5) 0 1000000000) 1 rfl (by omega) (by intro k hk; exact up_row hk) (by intro h a b; rw [show h = 0 by omega, up_same]; rfl)
set_option maxRecDepth 100000 in
set_option maxHeartbeats 4000000 in
theorem c_X2_clear (l : Launch) (K : WK) (σ : SG) {g : Nat} (hg : g = 4 ∨ g = 18) : MV l yX2_clear cX2_clear 1 none 0 0 K σ [.ref (K.2.2 g)] (fun τ => τ = up (up σ g 5 0) g 6 1) := by
  refine met_of [(0, .ref (K.2.2 g))] (by decide +kernel) (Nat.le_of_ble_eq_true rfl) rfl ?_
  intro pP eE sS mM bW mT cC B hrt hlk
  replace B : CB pP sS mM [.ref (K.2.2 g)].toArray cC cX2_clear RX2 1 K := B
  refine g_aload_n (pc' := 1) B 0 rfl rfl dX2_clear_0 rfl ?_
  refine g_iconst (pc' := 2) B dX2_clear_1 rfl ?_
  refine g_put (pc' := 5) B 5 rfl fp_X2_28 (ly_G hg) rfl dX2_clear_2 rfl ?_
  refine g_aload_n (pc' := 6) B 0 rfl rfl dX2_clear_5 rfl ?_
  refine g_iconst (pc' := 7) B dX2_clear_6 rfl ?_
  refine g_put (pc' := 10) B 6 rfl fp_X2_32 (ly_G hg) rfl dX2_clear_7 rfl ?_
  exact g_vret B hrt hlk dX2_clear_10 rfl
set_option maxRecDepth 100000 in
set_option maxHeartbeats 4000000 in
theorem c_X2_add (l : Launch) (K : WK) (σ : SG) {g : Nat} (hg : g = 4 ∨ g = 18) {D : SG} (hD : gD σ g D) (hF : okF D) {b n l1 s : Int} (hb : -2147483648 ≤ b ∧ b < 2147483648) (hn : 1 ≤ n ∧ n ≤ 12) (hl1 : -2147483648 ≤ l1 ∧ l1 < 2147483648) (hs : -2147483648 ≤ s ∧ s < 2147483648) (hc : D 9 0 < 8) (hr : 1 ≤ D 9 3 ∧ D 9 3 ≤ 100000) : MV l yX2_add cX2_add 5 none 1 22 K σ [.ref (K.2.2 g), .int (iI b), .int (iI n), .int (iI l1), .int (iI s)] (fun τ => gD τ g (dF D b n l1 s) ∧ ∀ k, (k < g ∨ g + 4 < k) → τ k = σ k) := by
  refine met_of [(0, .ref (K.2.2 g)), (1, .int (iI b)), (2, .int (iI n)), (3, .int (iI l1)), (4, .int (iI s))] (by decide +kernel) (Nat.le_of_ble_eq_true rfl) rfl ?_
  intro pP eE sS mM bW mT cC B hrt hlk
  replace B : CB pP sS mM [.ref (K.2.2 g), .int (iI b), .int (iI n), .int (iI l1), .int (iI s)].toArray cC cX2_add RX2 5 K := B
  obtain ⟨hF0, hF1⟩ := id hF
  refine g_aload_n (pc' := 1) B 0 rfl rfl dX2_add_0 rfl ?_
  refine g_get (pc' := 4) B (D 9 0) hD.1 fl_X2_28 (ly_G hg) rfl dX2_add_1 rfl ?_
  refine g_bipush (pc' := 6) B (by decide +kernel) dX2_add_4 rfl ?_
  refine g_icmp_lt (pc' := 9) B 10 (by omega) (by omega) dX2_add_6 (by decide) rfl (fun c6 => ?_) (fun c6 => by exfalso; omega)
  refine g_aload_n (pc' := 11) B 0 rfl rfl dX2_add_10 rfl ?_
  refine g_getR (pc' := 14) B (g + 1) fl_X2_9 (ly_G hg) rfl dX2_add_11 rfl ?_
  refine g_aload_n (pc' := 15) B 0 rfl rfl dX2_add_14 rfl ?_
  refine g_get (pc' := 18) B (D 9 0) hD.1 fl_X2_28 (ly_G hg) rfl dX2_add_15 rfl ?_
  refine g_iload_n (pc' := 19) B 1 rfl rfl dX2_add_18 rfl ?_
  refine g_iast (pc' := 20) B (ly_Ga0 hg) (by omega) (by decide) dX2_add_19 rfl ?_
  refine g_aload_n (pc' := 21) B 0 rfl rfl dX2_add_20 rfl ?_
  refine g_getR (pc' := 24) B (g + 2) fl_X2_15 (ly_G hg) rfl dX2_add_21 rfl ?_
  refine g_aload_n (pc' := 25) B 0 rfl rfl dX2_add_24 rfl ?_
  refine g_get (pc' := 28) B (D 9 0) (by have q9 := hD.1; simpa [up] using q9) fl_X2_28 (ly_G hg) rfl dX2_add_25 rfl ?_
  refine g_iload_n (pc' := 29) B 2 rfl rfl dX2_add_28 rfl ?_
  refine g_iast (pc' := 30) B (ly_Ga1 hg) (by omega) (by decide) dX2_add_29 rfl ?_
  refine g_aload_n (pc' := 31) B 0 rfl rfl dX2_add_30 rfl ?_
  refine g_getR (pc' := 34) B (g + 3) fl_X2_18 (ly_G hg) rfl dX2_add_31 rfl ?_
  refine g_aload_n (pc' := 35) B 0 rfl rfl dX2_add_34 rfl ?_
  refine g_get (pc' := 38) B (D 9 0) (by have q9 := hD.1; simpa [up] using q9) fl_X2_28 (ly_G hg) rfl dX2_add_35 rfl ?_
  refine g_iload_n (pc' := 39) B 3 rfl rfl dX2_add_38 rfl ?_
  refine g_iast (pc' := 40) B (ly_Ga2 hg) (by omega) (by decide) dX2_add_39 rfl ?_
  refine g_aload_n (pc' := 41) B 0 rfl rfl dX2_add_40 rfl ?_
  refine g_getR (pc' := 44) B (g + 4) fl_X2_21 (ly_G hg) rfl dX2_add_41 rfl ?_
  refine g_aload_n (pc' := 45) B 0 rfl rfl dX2_add_44 rfl ?_
  refine g_get (pc' := 48) B (D 9 0) (by have q9 := hD.1; simpa [up] using q9) fl_X2_28 (ly_G hg) rfl dX2_add_45 rfl ?_
  refine g_iload (pc' := 50) B 4 rfl dX2_add_48 rfl ?_
  refine g_iast (pc' := 51) B (ly_Ga3 hg) (by omega) (by decide) dX2_add_50 rfl ?_
  refine g_aload_n (pc' := 52) B 0 rfl rfl dX2_add_51 rfl ?_
  refine g_dup (pc' := 53) B rfl dX2_add_52 rfl ?_
  refine g_get (pc' := 56) B (D 9 0) (by have q9 := hD.1; simpa [up] using q9) fl_X2_28 (ly_G hg) rfl dX2_add_53 rfl ?_
  refine g_iconst (pc' := 57) B dX2_add_56 rfl ?_
  refine g_iadd (pc' := 58) B dX2_add_57 rfl ?_
  refine g_put (pc' := 61) B 5 rfl fp_X2_28 (ly_G hg) rfl dX2_add_58 rfl ?_
  refine g_aload_n (pc' := 62) B 0 rfl rfl dX2_add_61 rfl ?_
  refine g_aload_n (pc' := 63) B 0 rfl rfl dX2_add_62 rfl ?_
  refine g_get (pc' := 66) B (D 9 3) (by have q9 := hD.2.1; simpa [up] using q9) fl_X2_32 (ly_G hg) rfl dX2_add_63 rfl ?_
  refine g_iload_n (pc' := 67) B 2 rfl rfl dX2_add_66 rfl ?_
  refine g_callNI (pc' := 70) (As := [.int (iI (D 9 3)), .int (iI n)]) B (c_X11_leastCommon l K _ (a := D 9 3) (b := n) (by omega) (by omega)) st_X11_leastCommon tw_428 ⟨by decide, by decide⟩ rfl (Nat.le_of_ble_eq_true rfl) ⟨Nat.zero_le _, Nat.zero_le _⟩ rfl dX2_add_67 rfl (fun z67 τ67 h67 => ?_)
  obtain ⟨rfl, rfl⟩ := h67
  refine g_put (pc' := 73) B 6 rfl fp_X2_32 (ly_G hg) rfl dX2_add_70 rfl ?_
  exact g_vret B hrt hlk dX2_add_73 ⟨by
    obtain ⟨q1, q2, q3⟩ := hD
    refine ⟨by simp [up, dF], by simp [up, dF], fun f a b2 => ?_⟩
    have b3 : f < D 9 0 + 1 := by simpa [up, dF] using b2
    by_cases e9 : f = D 9 0
    · subst e9; simp [up, dF]
    · have q4 := q3 f a (by omega)
      simp [up, dF, e9, q4], fun k hk => by
    rw [up_row (by omega), up_row (by omega), up_row (by omega), up_row (by omega), up_row (by omega), up_row (by omega)]⟩
def dQ (D : SG) (f p r w : Int) : SG := up (up (up (up (up D 5 (D 9 2) f) 6 (D 9 2) p) 7 (D 9 2) r) 8 (D 9 2) w) 9 2 (D 9 2 + 1)
set_option maxRecDepth 100000 in
set_option maxHeartbeats 4000000 in
theorem c_X6_add (l : Launch) (K : WK) (σ : SG) {q : Nat} (hq : q = 10 ∨ q = 24) {D : SG} (hQ : qD σ q D) (hO : okQ D) {f p r w : Int} (hf : -2147483648 ≤ f ∧ f < 2147483648) (hp : -2147483648 ≤ p ∧ p < 2147483648) (hr : -2147483648 ≤ r ∧ r < 2147483648) (hw : -2147483648 ≤ w ∧ w < 2147483648) (hc : D 9 2 < 4) : MV l yX6_add cX6_add 5 none 0 0 K σ [.ref (K.2.2 q), .int (iI f), .int (iI p), .int (iI r), .int (iI w)] (fun τ => qD τ q (dQ D f p r w) ∧ ∀ k, (k < q ∨ q + 4 < k) → τ k = σ k) := by
  refine met_of [(0, .ref (K.2.2 q)), (1, .int (iI f)), (2, .int (iI p)), (3, .int (iI r)), (4, .int (iI w))] (by decide +kernel) (Nat.le_of_ble_eq_true rfl) rfl ?_
  intro pP eE sS mM bW mT cC B hrt hlk
  replace B : CB pP sS mM [.ref (K.2.2 q), .int (iI f), .int (iI p), .int (iI r), .int (iI w)].toArray cC cX6_add RX6 5 K := B
  obtain ⟨hO0, hO1⟩ := id hO
  refine g_aload_n (pc' := 1) B 0 rfl rfl dX6_add_0 rfl ?_
  refine g_get (pc' := 4) B (D 9 2) hQ.1 fl_X6_24 (ly_Q hq) rfl dX6_add_1 rfl ?_
  refine g_iconst (pc' := 5) B dX6_add_4 rfl ?_
  refine g_icmp_lt (pc' := 8) B 9 (by omega) (by omega) dX6_add_5 (by decide) rfl (fun c5 => ?_) (fun c5 => by exfalso; omega)
  refine g_aload_n (pc' := 10) B 0 rfl rfl dX6_add_9 rfl ?_
  refine g_getR (pc' := 13) B (q + 1) fl_X6_9 (ly_Q hq) rfl dX6_add_10 rfl ?_
  refine g_aload_n (pc' := 14) B 0 rfl rfl dX6_add_13 rfl ?_
  refine g_get (pc' := 17) B (D 9 2) hQ.1 fl_X6_24 (ly_Q hq) rfl dX6_add_14 rfl ?_
  refine g_iload_n (pc' := 18) B 1 rfl rfl dX6_add_17 rfl ?_
  refine g_iast (pc' := 19) B (ly_Qa0 hq) (by omega) (by decide) dX6_add_18 rfl ?_
  refine g_aload_n (pc' := 20) B 0 rfl rfl dX6_add_19 rfl ?_
  refine g_getR (pc' := 23) B (q + 2) fl_X6_15 (ly_Q hq) rfl dX6_add_20 rfl ?_
  refine g_aload_n (pc' := 24) B 0 rfl rfl dX6_add_23 rfl ?_
  refine g_get (pc' := 27) B (D 9 2) (by have q9 := hQ.1; simpa [up] using q9) fl_X6_24 (ly_Q hq) rfl dX6_add_24 rfl ?_
  refine g_iload_n (pc' := 28) B 2 rfl rfl dX6_add_27 rfl ?_
  refine g_iast (pc' := 29) B (ly_Qa1 hq) (by omega) (by decide) dX6_add_28 rfl ?_
  refine g_aload_n (pc' := 30) B 0 rfl rfl dX6_add_29 rfl ?_
  refine g_getR (pc' := 33) B (q + 3) fl_X6_18 (ly_Q hq) rfl dX6_add_30 rfl ?_
  refine g_aload_n (pc' := 34) B 0 rfl rfl dX6_add_33 rfl ?_
  refine g_get (pc' := 37) B (D 9 2) (by have q9 := hQ.1; simpa [up] using q9) fl_X6_24 (ly_Q hq) rfl dX6_add_34 rfl ?_
  refine g_iload_n (pc' := 38) B 3 rfl rfl dX6_add_37 rfl ?_
  refine g_iast (pc' := 39) B (ly_Qa2 hq) (by omega) (by decide) dX6_add_38 rfl ?_
  refine g_aload_n (pc' := 40) B 0 rfl rfl dX6_add_39 rfl ?_
  refine g_getR (pc' := 43) B (q + 4) fl_X6_21 (ly_Q hq) rfl dX6_add_40 rfl ?_
  refine g_aload_n (pc' := 44) B 0 rfl rfl dX6_add_43 rfl ?_
  refine g_get (pc' := 47) B (D 9 2) (by have q9 := hQ.1; simpa [up] using q9) fl_X6_24 (ly_Q hq) rfl dX6_add_44 rfl ?_
  refine g_iload (pc' := 49) B 4 rfl dX6_add_47 rfl ?_
  refine g_iast (pc' := 50) B (ly_Qa3 hq) (by omega) (by decide) dX6_add_49 rfl ?_
  refine g_aload_n (pc' := 51) B 0 rfl rfl dX6_add_50 rfl ?_
  refine g_dup (pc' := 52) B rfl dX6_add_51 rfl ?_
  refine g_get (pc' := 55) B (D 9 2) (by have q9 := hQ.1; simpa [up] using q9) fl_X6_24 (ly_Q hq) rfl dX6_add_52 rfl ?_
  refine g_iconst (pc' := 56) B dX6_add_55 rfl ?_
  refine g_iadd (pc' := 57) B dX6_add_56 rfl ?_
  refine g_put (pc' := 60) B 4 rfl fp_X6_24 (ly_Q hq) rfl dX6_add_57 rfl ?_
  exact g_vret B hrt hlk dX6_add_60 ⟨by
    obtain ⟨q1, q3⟩ := hQ
    refine ⟨by simp [up, dQ], fun f a b2 => ?_⟩
    have b3 : f < D 9 2 + 1 := by simpa [up, dQ] using b2
    by_cases e9 : f = D 9 2
    · subst e9; simp [up, dQ]
    · have q4 := q3 f a (by omega)
      simp [up, dQ, e9, q4], fun k hk => by
    rw [up_row (by omega), up_row (by omega), up_row (by omega), up_row (by omega), up_row (by omega)]⟩
