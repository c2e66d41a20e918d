-- k steps noted behind T: en k i: of the i-th
def tNg (T : SG) (en : Nat → Int → Int) : Nat → SG
  | 0 => T
  | m + 1 => tP (tNg T en m) (en 0 m) (en 1 m) (en 2 m) (en 3 m)
theorem tNg_n {T : SG} (en : Nat → Int → Int) (h : 0 ≤ T 4 0 ∧ T 4 0 ≤ 40) : ∀ m : Nat, tNg T en m 4 0 = min (T 4 0 + m) 40
  | 0 => by show T 4 0 = _; omega
  | m + 1 => by
    have ih := tNg_n en h m
    show tP (tNg T en m) _ _ _ _ 4 0 = _
    rw [tP_n, ih]; omega
theorem tNg_get {T : SG} (en : Nat → Int → Int) (h : 0 ≤ T 4 0 ∧ T 4 0 ≤ 40) : ∀ (m k : Nat) (j : Int), k < 4 → 0 ≤ j → j < min (T 4 0 + m) 40 → tNg T en m k j = if T 4 0 + m - min (T 4 0 + m) 40 + j < T 4 0 then T k (T 4 0 + m - min (T 4 0 + m) 40 + j) else en k (T 4 0 + m - min (T 4 0 + m) 40 + j - T 4 0)
  | 0, k, j, hk, h0, h1 => by
    show T k j = _
    rw [if_pos (by omega)]
    congr 1
    omega
  | m + 1, k, j, hk, h0, h1 => by
    have hn := tNg_n en h m
    have ih := tNg_get en h m k
    show tP (tNg T en m) (en 0 m) (en 1 m) (en 2 m) (en 3 m) k j = _
    by_cases q : j + (if tNg T en m 4 0 = 40 then 1 else 0) < tNg T en m 4 0
    · rw [tP_old (by omega) q, ih _ hk (by split <;> omega) (by rw [← hn]; exact q)]
      have e : T 4 0 + (m : Int) - min (T 4 0 + m) 40 + (j + (if tNg T en m 4 0 = 40 then 1 else 0)) = T 4 0 + ((m + 1 : Nat) : Int) - min (T 4 0 + ((m + 1 : Nat) : Int)) 40 + j := by
        rw [hn]; split <;> omega
      rw [e]
    · rw [tP_new (by omega) q]
      have e : T 4 0 + ((m + 1 : Nat) : Int) - min (T 4 0 + ((m + 1 : Nat) : Int)) 40 + j = T 4 0 + m := by
        rw [hn] at q
        revert q; split <;> omega
      have e2 : (if T 4 0 + ((m + 1 : Nat) : Int) - min (T 4 0 + ((m + 1 : Nat) : Int)) 40 + j < T 4 0 then T k (T 4 0 + ((m + 1 : Nat) : Int) - min (T 4 0 + ((m + 1 : Nat) : Int)) 40 + j) else en k (T 4 0 + ((m + 1 : Nat) : Int) - min (T 4 0 + ((m + 1 : Nat) : Int)) 40 + j - T 4 0)) = en k m := by
        rw [e, if_neg (by omega), show T 4 0 + (m : Int) - T 4 0 = m by omega]
      rw [e2]
      rcases (show k = 0 ∨ k = 1 ∨ k = 2 ∨ k = 3 by omega) with e | e | e | e <;> subst e <;> rfl
theorem tD.cong {σ : SG} {T T' : SG} (h : tD σ T) (e0 : T' 4 0 = T 4 0) (e : ∀ (k : Nat) (j : Int), k < 4 → 0 ≤ j → j < T 4 0 → T' k j = T k j) : tD σ T' := by
  obtain ⟨h1, h2, h3, h4⟩ := h
  refine ⟨h1, by rw [e0]; exact h2, by rw [e0]; exact h3, fun j a b => ?_⟩
  rw [e0] at b ⊢
  rw [e 0 j (by decide) a b, e 1 j (by decide) a b, e 2 j (by decide) a b, e 3 j (by decide) a b]
  exact h4 j a b
/-- only the latest forty count -/
theorem tNg_skip {σ T : SG} {en : Nat → Int → Int} {m n : Nat} (h : 0 ≤ T 4 0 ∧ T 4 0 ≤ 40) (hm : m = 0 ∨ n = 40) (hd : tD σ (tNg T (fun k i => en k (m + i)) n)) : tD σ (tNg T en (m + n)) := by
  rcases hm with hm | hm
  · subst hm
    have e : (fun k i => en k (((0 : Nat) : Int) + i)) = en := by funext k i; simp
    rw [e] at hd
    rw [Nat.zero_add]; exact hd
  · subst hm
    refine hd.cong ?_ (fun k j hk h0 h1 => ?_)
    · rw [tNg_n _ h, tNg_n _ h]; omega
    · rw [tNg_n _ h] at h1
      rw [tNg_get _ h (m + 40) k j hk h0 (by omega), tNg_get _ h 40 k j hk h0 (by omega), if_neg (by omega), if_neg (by omega)]
      congr 1
      omega
/-- what is noted of n steps from (S, X), each e breaths -/
def en0 (S X L P e : Int) : Nat → Int → Int := fun k i => if k = 0 then S + i else if k = 1 then X + i * e else if k = 2 then L else P
set_option maxRecDepth 100000 in
set_option maxHeartbeats 4000000 in
theorem c_X11_undo (l : Launch) (K : WK) (σ : SG) {T : SG} (hT : tD σ T) {n : Int} (hn : -2147483648 ≤ n ∧ n < 2147483648) : MI l yX11_undo cX11_undo 2 (some .int) 2 44 K σ [.ref (K.2.2 0), .int (iI n)] (fun z τ => (((n < 1 ∨ 40 < n) ∧ τ = σ ∧ z = -1000000002) ∨ (¬ (n < 1 ∨ 40 < n) ∧ T 4 0 < n ∧ τ = σ ∧ z = -1000000003) ∨ (¬ (n < 1 ∨ 40 < n) ∧ n ≤ T 4 0 ∧ tD τ (up T 4 0 (T 4 0 - n)) ∧ (τ 31 0 = T 0 (T 4 0 - n) ∧ τ 31 1 = T 1 (T 4 0 - n) ∧ τ 31 2 = T 2 (T 4 0 - n) ∧ τ 31 3 = T 3 (T 4 0 - n)) ∧ (∀ k, k ≠ 31 → k ≠ 32 → τ k = σ k) ∧ z = T 0 (T 4 0 - n)))) := by
  refine met_of [(0, .ref (K.2.2 0)), (1, .int (iI n))] (by decide +kernel) (Nat.le_of_ble_eq_true rfl) rfl ?_
  intro pP eE sS mM bW mT cC B hrt hlk
  replace B : CB pP sS mM [.ref (K.2.2 0), .int (iI n)].toArray cC cX11_undo RX11 2 K := B
  obtain ⟨hT1, hT2, hT3, hT4⟩ := id hT
  refine g_iload_n (pc' := 1) B 1 rfl rfl dX11_undo_0 rfl ?_
  refine g_iconst (pc' := 2) B dX11_undo_1 rfl ?_
  refine g_bipush (pc' := 4) B (by decide +kernel) dX11_undo_2 rfl ?_
  refine g_callSI (pc' := 7) (As := [.int (iI n), .int (iI 1), .int (iI 40)]) B (c_X11_isOutside l K _ (v := n) (low := 1) (high := 40) (by omega) (by omega) (by omega)) st_X11_isOutside tw_363 ⟨by decide, by decide⟩ rfl (Nat.le_of_ble_eq_true rfl) ⟨Nat.zero_le _, Nat.zero_le _⟩ rfl dX11_undo_4 rfl (fun z4 τ4 h4 => ?_)
  obtain ⟨rfl, h4⟩ := h4
  rcases h4 with ⟨h4, rfl⟩ | ⟨h4, rfl⟩
  · refine g_if_eq (pc' := 10) B 13 (by omega) dX11_undo_7 (by decide) rfl (fun q => absurd q (by decide)) (fun _ => ?_)
    refine g_ldc (z := (-1000000002)) (pc' := 12) B tw_366 (by decide +kernel) dX11_undo_10 rfl ?_
    exact g_iret (z := (-1000000002)) B hrt rfl hlk dX11_undo_12 (Or.inl ⟨h4, rfl, rfl⟩)
  · refine g_if_eq (pc' := 10) B 13 (by omega) dX11_undo_7 (by decide) rfl (fun _ => ?_) (fun q => absurd q (by decide))
    refine g_iload_n (pc' := 14) B 1 rfl rfl dX11_undo_13 rfl ?_
    refine g_aload_n (pc' := 15) B 0 rfl rfl dX11_undo_14 rfl ?_
    refine g_getR (pc' := 18) B 32 fl_X11_40 rfl rfl dX11_undo_15 rfl ?_
    refine g_get (pc' := 21) B (T 4 0) hT2 fl_X11_111 rfl rfl dX11_undo_18 rfl ?_
    refine g_icmp_le (pc' := 24) B 27 (by omega) (by omega) dX11_undo_21 (by decide) rfl (fun c21 => ?_) (fun c21 => ?_)
    · refine g_aload_n (pc' := 28) B 0 rfl rfl dX11_undo_27 rfl ?_
      refine g_getR (pc' := 31) B 32 fl_X11_40 rfl rfl dX11_undo_28 rfl ?_
      refine g_aload_n (pc' := 32) B 0 rfl rfl dX11_undo_31 rfl ?_
      refine g_getR (pc' := 35) B 31 fl_X11_33 rfl rfl dX11_undo_32 rfl ?_
      refine g_iload_n (pc' := 36) B 1 rfl rfl dX11_undo_35 rfl ?_
      refine g_callVV (pc' := 39) (As := [.ref (K.2.2 31), .int (iI n)]) B (c_X10_takeBack l K _ (T := T) (n := n) hT (by omega)) vt_X10_takeBack tw_636 rfl rfl ⟨by decide, by decide⟩ rfl (Nat.le_of_ble_eq_true rfl) ⟨Nat.zero_le _, Nat.zero_le _⟩ rfl dX11_undo_36 rfl (fun τ36 h36 => ?_)
      obtain ⟨h36a, h36b, h36c⟩ := h36
      refine g_aload_n (pc' := 40) B 0 rfl rfl dX11_undo_39 rfl ?_
      refine g_getR (pc' := 43) B 31 fl_X11_33 rfl rfl dX11_undo_40 rfl ?_
      refine g_get (pc' := 46) B (T 0 (T 4 0 - n)) h36b.1 fl_X11_138 rfl rfl dX11_undo_43 rfl ?_
      exact g_iret (z := T 0 (T 4 0 - n)) B hrt rfl hlk dX11_undo_46 (Or.inr (Or.inr ⟨h4, c21, h36a, h36b, h36c, rfl⟩))
    · refine g_ldc (z := (-1000000003)) (pc' := 26) B tw_605 (by decide +kernel) dX11_undo_24 rfl ?_
      exact g_iret (z := (-1000000003)) B hrt rfl hlk dX11_undo_26 (Or.inr (Or.inl ⟨h4, c21, rfl, rfl⟩))
set_option maxRecDepth 100000 in
set_option maxHeartbeats 4000000 in
theorem c_X11_roll (l : Launch) (K : WK) (σ : SG) {b : Nat} (hb : b = 3 ∨ b = 17) (hcb : σ 0 1 = ((b : Nat) : Int)) {D : SG} (hS : sD σ b D) (hF : okF D) (hR : okR D) (hO : okQ D) (hH : okH D) {S X L P : Int} (hm : σ 31 0 = S ∧ σ 31 1 = X ∧ σ 31 2 = L ∧ σ 31 3 = P) (hSX : 0 ≤ X ∧ X ≤ S ∧ S ≤ 70000) {T : SG} (hT : tD σ T) (hLr : (D 9 0 = 0 ∧ L = -1) ∨ (0 ≤ L ∧ L < D 9 0)) {w : Int} (hw : -2147483648 ≤ w ∧ w < 2147483648) : MI l yX11_roll cX11_roll 2 (some .int) 5 114 K σ [.ref (K.2.2 0), .int (iI w)] (fun z τ => (((w < 0 ∨ 2 < w) ∧ τ = σ ∧ z = -1000000002) ∨ (¬ (w < 0 ∨ 2 < w) ∧ ¬ can D L (S + 1) w ∧ τ = σ ∧ z = -1000000003) ∨ (¬ (w < 0 ∨ 2 < w) ∧ can D L (S + 1) w ∧ tD τ (tP T S X L P) ∧ (τ 31 0 = S + 1 ∧ τ 31 1 = X + 1 ∧ τ 31 2 = bes L w ∧ τ 31 3 = P + max 0 (hgt D (bes L w) (X + 1) - hgt D L (X + 1))) ∧ (∀ k, (k < 31 ∨ 36 < k) → τ k = σ k) ∧ z = max 0 (hgt D (bes L w) (X + 1) - hgt D L (X + 1))))) := by
  refine met_of [(0, .ref (K.2.2 0)), (1, .int (iI w))] (by decide +kernel) (Nat.le_of_ble_eq_true rfl) rfl ?_
  intro pP eE sS mM bW mT cC B hrt hlk
  replace B : CB pP sS mM [.ref (K.2.2 0), .int (iI w)].toArray cC cX11_roll RX11 2 K := B
  obtain ⟨hF0, hF1⟩ := id hF
  obtain ⟨hO0, hO1⟩ := id hO
  obtain ⟨hH0, hH1⟩ := id hH
  obtain ⟨hR0, hR1⟩ := id hR
  obtain ⟨hm0, hm1, hm2, hm3⟩ := id hm
  refine g_iload_n (pc' := 1) B 1 rfl rfl dX11_roll_0 rfl ?_
  refine g_iconst (pc' := 2) B dX11_roll_1 rfl ?_
  refine g_iconst (pc' := 3) B dX11_roll_2 rfl ?_
  refine g_callSI (pc' := 6) (As := [.int (iI w), .int (iI 0), .int (iI 2)]) B (c_X11_isOutside l K _ (v := w) (low := 0) (high := 2) (by omega) (by omega) (by omega)) st_X11_isOutside tw_363 ⟨by decide, by decide⟩ rfl (Nat.le_of_ble_eq_true rfl) ⟨Nat.zero_le _, Nat.zero_le _⟩ rfl dX11_roll_3 rfl (fun z3 τ3 h3 => ?_)
  obtain ⟨rfl, h3⟩ := h3
  rcases h3 with ⟨h3, rfl⟩ | ⟨h3, rfl⟩
  · refine g_if_eq (pc' := 9) B 12 (by omega) dX11_roll_6 (by decide) rfl (fun q => absurd q (by decide)) (fun _ => ?_)
    refine g_ldc (z := (-1000000002)) (pc' := 11) B tw_366 (by decide +kernel) dX11_roll_9 rfl ?_
    exact g_iret (z := (-1000000002)) B hrt rfl hlk dX11_roll_11 (Or.inl ⟨h3, rfl, rfl⟩)
  · refine g_if_eq (pc' := 9) B 12 (by omega) dX11_roll_6 (by decide) rfl (fun _ => ?_) (fun q => absurd q (by decide))
    refine g_aload_n (pc' := 13) B 0 rfl rfl dX11_roll_12 rfl ?_
    refine g_getR (pc' := 16) B 31 fl_X11_33 rfl rfl dX11_roll_13 rfl ?_
    refine g_aload_n (pc' := 17) B 0 rfl rfl dX11_roll_16 rfl ?_
    refine g_getV (pc' := 20) B b (vr hcb) fl_X11_19 rfl rfl dX11_roll_17 rfl ?_
    refine g_iload_n (pc' := 21) B 1 rfl rfl dX11_roll_20 rfl ?_
    refine g_callVI (pc' := 24) (As := [.ref (K.2.2 b), .int (iI w)]) B (c_X5_canGo l K _ (u := 31) (S := S) (X := X) (L := L) (P := P) (b := b) (D := D) (w := w) (by omega) hm hb hS hF hH hO (by omega) (by omega) (by omega)) vt_X5_canGo tw_592 rfl rfl ⟨by decide, by decide⟩ rfl (Nat.le_of_ble_eq_true rfl) ⟨Nat.zero_le _, Nat.zero_le _⟩ rfl dX11_roll_21 rfl (fun z21 τ21 h21 => ?_)
    obtain ⟨rfl, h21⟩ := h21
    rcases h21 with ⟨h21, rfl⟩ | ⟨h21, rfl⟩
    · refine g_if_ne (pc' := 27) B 30 (by omega) dX11_roll_24 (by decide) rfl (fun _ => ?_) (fun q => absurd q (by decide))
      refine g_aload_n (pc' := 31) B 0 rfl rfl dX11_roll_30 rfl ?_
      refine g_getR (pc' := 34) B 31 fl_X11_33 rfl rfl dX11_roll_31 rfl ?_
      refine g_get (pc' := 37) B S hm.1 fl_X11_138 rfl rfl dX11_roll_34 rfl ?_
      refine g_iconst (pc' := 38) B dX11_roll_37 rfl ?_
      refine g_iadd (pc' := 39) B dX11_roll_38 rfl ?_
      refine g_ldc (z := 900000) (pc' := 41) B tw_572 (by decide +kernel) dX11_roll_39 rfl ?_
      refine g_icmp_le (pc' := 44) B 47 (by omega) (by omega) dX11_roll_41 (by decide) rfl (fun c41 => ?_) (fun c41 => by exfalso; omega)
      refine g_aload_n (pc' := 48) B 0 rfl rfl dX11_roll_47 rfl ?_
      refine g_getR (pc' := 51) B 32 fl_X11_40 rfl rfl dX11_roll_48 rfl ?_
      refine g_aload_n (pc' := 52) B 0 rfl rfl dX11_roll_51 rfl ?_
      refine g_getR (pc' := 55) B 31 fl_X11_33 rfl rfl dX11_roll_52 rfl ?_
      refine g_callVV (pc' := 58) (As := [.ref (K.2.2 31)]) B (c_X10_note l K _ (T := T) (S := S) (X := X) (L := L) (P := P) hT hm) vt_X10_note tw_578 rfl rfl ⟨by decide, by decide⟩ rfl (Nat.le_of_ble_eq_true rfl) ⟨Nat.zero_le _, Nat.zero_le _⟩ rfl dX11_roll_55 rfl (fun τ55 h55 => ?_)
      obtain ⟨h55a, h55b⟩ := h55
      have hm55 : τ55 31 0 = S ∧ τ55 31 1 = X ∧ τ55 31 2 = L ∧ τ55 31 3 = P := by rw [h55b 31 (by omega)]; exact hm
      have hS55 : sD τ55 b D := hS.keep (fun k a c => h55b k (by omega))
      have hcb55 : τ55 0 1 = ((b : Nat) : Int) := by rw [h55b 0 (by omega)]; exact hcb
      refine g_aload_n (pc' := 59) B 0 rfl rfl dX11_roll_58 rfl ?_
      refine g_getR (pc' := 62) B 31 fl_X11_33 rfl rfl dX11_roll_59 rfl ?_
      refine g_aload_n (pc' := 63) B 0 rfl rfl dX11_roll_62 rfl ?_
      refine g_getV (pc' := 66) B b (vr hcb55) fl_X11_19 rfl rfl dX11_roll_63 rfl ?_
      refine g_iload_n (pc' := 67) B 1 rfl rfl dX11_roll_66 rfl ?_
      refine g_iconst (pc' := 68) B dX11_roll_67 rfl ?_
      refine g_callVI (pc' := 71) (As := [.ref (K.2.2 b), .int (iI w), .int (iI 0)]) B (c_X5_go l K _ (u := 31) (S := S) (X := X) (L := L) (P := P) (b := b) (D := D) (w := w) (h := 0) (by omega) hm55 hb hS55 hF hH (by omega) (by omega) h21.1 h21.2.1 (by omega)) vt_X5_go tw_606 rfl rfl ⟨by decide, by decide⟩ rfl (Nat.le_of_ble_eq_true rfl) ⟨Nat.zero_le _, Nat.zero_le _⟩ rfl dX11_roll_68 rfl (fun z68 τ68 h68 => ?_)
      obtain ⟨h68a, h68b⟩ := h68
      subst h68a
      subst h68b
      exact g_iret (z := max 0 (hgt D (bes L w) (X + (if 0 = 0 then 1 else 0)) - hgt D L (X + (if 0 = 0 then 1 else 0)))) B hrt rfl hlk dX11_roll_71 (Or.inr (Or.inr ⟨h3, h21, h55a.keep (fun k a c => by rw [up_row (by omega), up_row (by omega), up_row (by omega), up_row (by omega)]), by simp [up], fun k hk => by rw [up_row (by omega), up_row (by omega), up_row (by omega), up_row (by omega)]; exact h55b k (by omega), by simp⟩))
    · refine g_if_ne (pc' := 27) B 30 (by omega) dX11_roll_24 (by decide) rfl (fun q => absurd q (by decide)) (fun _ => ?_)
      refine g_ldc (z := (-1000000003)) (pc' := 29) B tw_605 (by decide +kernel) dX11_roll_27 rfl ?_
      exact g_iret (z := (-1000000003)) B hrt rfl hlk dX11_roll_29 (Or.inr (Or.inl ⟨h3, h21, rfl, rfl⟩))
set_option maxRecDepth 100000 in
set_option maxHeartbeats 4000000 in
theorem c_X11_keep (l : Launch) (K : WK) (σ : SG) {b : Nat} (hb : b = 3 ∨ b = 17) (hcb : σ 0 1 = ((b : Nat) : Int)) {D : SG} (hS : sD σ b D) (hF : okF D) (hR : okR D) (hO : okQ D) (hH : okH D) {i : Int} (hi : -2147483648 ≤ i ∧ i < 2147483648) : MI l yX11_keep cX11_keep 2 (some .int) 2 44 K σ [.ref (K.2.2 0), .int (iI i)] (fun z τ => ((¬ (0 ≤ i ∧ i ≤ 1) ∧ τ = σ ∧ z = -1000000001) ∨ ((0 ≤ i ∧ i ≤ 1) ∧ z = 1 ∧ ∃ c : Nat, ((i = 0 ∧ c = 37) ∨ (i = 1 ∧ c = 40)) ∧ τ c 0 = 1 ∧ τ c 3 = σ 0 12 ∧ (τ (c + 1) 0 = σ 31 0 ∧ τ (c + 1) 1 = σ 31 1 ∧ τ (c + 1) 2 = σ 31 2 ∧ τ (c + 1) 3 = σ 31 3) ∧ (∀ h : Int, 0 ≤ h → h < 4 → τ (c + 2) h = σ (b + 13) h) ∧ τ 32 4 = σ 32 4 ∧ τ 32 5 = 0 ∧ ∀ k, (k < c ∨ c + 2 < k) → k ≠ 32 → τ k = σ k))) := by
  refine met_of [(0, .ref (K.2.2 0)), (1, .int (iI i))] (by decide +kernel) (Nat.le_of_ble_eq_true rfl) rfl ?_
  intro pP eE sS mM bW mT cC B hrt hlk
  replace B : CB pP sS mM [.ref (K.2.2 0), .int (iI i)].toArray cC cX11_keep RX11 2 K := B
  obtain ⟨hF0, hF1⟩ := id hF
  obtain ⟨hO0, hO1⟩ := id hO
  obtain ⟨hH0, hH1⟩ := id hH
  obtain ⟨hR0, hR1⟩ := id hR
  refine g_iload_n (pc' := 1) B 1 rfl rfl dX11_keep_0 rfl ?_
  refine g_iconst (pc' := 2) B dX11_keep_1 rfl ?_
  refine g_iconst (pc' := 3) B dX11_keep_2 rfl ?_
  refine g_callSI (pc' := 6) (As := [.int (iI i), .int (iI 0), .int (iI 1)]) B (c_X11_isOutside l K _ (v := i) (low := 0) (high := 1) (by omega) (by omega) (by omega)) st_X11_isOutside tw_363 ⟨by decide, by decide⟩ rfl (Nat.le_of_ble_eq_true rfl) ⟨Nat.zero_le _, Nat.zero_le _⟩ rfl dX11_keep_3 rfl (fun z3 τ3 h3 => ?_)
  obtain ⟨rfl, h3⟩ := h3
  rcases h3 with ⟨h3, rfl⟩ | ⟨h3, rfl⟩
  · refine g_if_eq (pc' := 9) B 12 (by omega) dX11_keep_6 (by decide) rfl (fun q => absurd q (by decide)) (fun _ => ?_)
    refine g_ldc (z := (-1000000001)) (pc' := 11) B tw_533 (by decide +kernel) dX11_keep_9 rfl ?_
    exact g_iret (z := (-1000000001)) B hrt rfl hlk dX11_keep_11 (Or.inl ⟨by omega, rfl, rfl⟩)
  · refine g_if_eq (pc' := 9) B 12 (by omega) dX11_keep_6 (by decide) rfl (fun _ => ?_) (fun q => absurd q (by decide))
    refine g_aload_n (pc' := 13) B 0 rfl rfl dX11_keep_12 rfl ?_
    refine g_iload_n (pc' := 14) B 1 rfl rfl dX11_keep_13 rfl ?_
    refine g_callVR (pc' := 17) (As := [.int (iI i)]) B (c_X11_imageOf l K _ (i := i) (by omega)) vt_X11_imageOf tw_906 rfl rfl ⟨by decide, by decide⟩ rfl (Nat.le_of_ble_eq_true rfl) ⟨Nat.zero_le _, Nat.zero_le _⟩ rfl dX11_keep_14 rfl (fun z14 τ14 h14 => ?_)
    obtain ⟨rfl, h14⟩ := h14
    rcases h14 with ⟨h14, rfl⟩ | ⟨h14, rfl⟩
    · refine g_aload_n (pc' := 18) B 0 rfl rfl dX11_keep_17 rfl ?_
      refine g_getR (pc' := 21) B 31 fl_X11_33 rfl rfl dX11_keep_18 rfl ?_
      refine g_aload_n (pc' := 22) B 0 rfl rfl dX11_keep_21 rfl ?_
      refine g_getV (pc' := 25) B b (vr hcb) fl_X11_19 rfl rfl dX11_keep_22 rfl ?_
      refine g_aload_n (pc' := 26) B 0 rfl rfl dX11_keep_25 rfl ?_
      refine g_get (pc' := 29) B (σ 0 12) rfl fl_X11_82 rfl rfl dX11_keep_26 rfl ?_
      refine g_callVV (pc' := 32) (As := [.ref (K.2.2 31), .ref (K.2.2 b), .int (iI (σ 0 12))]) B (c_X4_take l K _ (i := 37) (b := b) (v := σ 0 12) (by omega) hb) vt_X4_take tw_910 rfl rfl ⟨by decide, by decide⟩ rfl (Nat.le_of_ble_eq_true rfl) ⟨Nat.zero_le _, Nat.zero_le _⟩ rfl dX11_keep_29 rfl (fun τ29 h29 => ?_)
      obtain ⟨h29a, h29b, h29c, h29d, h29e⟩ := h29
      refine g_aload_n (pc' := 33) B 0 rfl rfl dX11_keep_32 rfl ?_
      refine g_getR (pc' := 36) B 32 fl_X11_40 rfl rfl dX11_keep_33 rfl ?_
      refine g_iconst (pc' := 37) B dX11_keep_36 rfl ?_
      refine g_put (pc' := 40) B 5 rfl fp_X11_111 rfl rfl dX11_keep_37 rfl ?_
      refine g_iconst (pc' := 41) B dX11_keep_40 rfl ?_
      exact g_iret (z := 1) B hrt rfl hlk dX11_keep_41 (Or.inr ⟨by omega, rfl, by first | exact ⟨37, by omega, by rw [up_row (by decide)]; exact h29a, by rw [up_row (by decide)]; exact h29b, by rw [up_row (by decide)]; exact h29c, by rw [up_row (by decide)]; exact h29d, by rw [up_col (by decide), h29e 32 (by omega)], up_same _ _ _ _, fun k hk hk2 => by rw [up_row hk2]; exact h29e k (by omega)⟩ | exact ⟨40, by omega, by rw [up_row (by decide)]; exact h29a, by rw [up_row (by decide)]; exact h29b, by rw [up_row (by decide)]; exact h29c, by rw [up_row (by decide)]; exact h29d, by rw [up_col (by decide), h29e 32 (by omega)], up_same _ _ _ _, fun k hk hk2 => by rw [up_row hk2]; exact h29e k (by omega)⟩⟩)
    · refine g_aload_n (pc' := 18) B 0 rfl rfl dX11_keep_17 rfl ?_
      refine g_getR (pc' := 21) B 31 fl_X11_33 rfl rfl dX11_keep_18 rfl ?_
      refine g_aload_n (pc' := 22) B 0 rfl rfl dX11_keep_21 rfl ?_
      refine g_getV (pc' := 25) B b (vr hcb) fl_X11_19 rfl rfl dX11_keep_22 rfl ?_
      refine g_aload_n (pc' := 26) B 0 rfl rfl dX11_keep_25 rfl ?_
      refine g_get (pc' := 29) B (σ 0 12) rfl fl_X11_82 rfl rfl dX11_keep_26 rfl ?_
      refine g_callVV (pc' := 32) (As := [.ref (K.2.2 31), .ref (K.2.2 b), .int (iI (σ 0 12))]) B (c_X4_take l K _ (i := 40) (b := b) (v := σ 0 12) (by omega) hb) vt_X4_take tw_910 rfl rfl ⟨by decide, by decide⟩ rfl (Nat.le_of_ble_eq_true rfl) ⟨Nat.zero_le _, Nat.zero_le _⟩ rfl dX11_keep_29 rfl (fun τ29 h29 => ?_)
      obtain ⟨h29a, h29b, h29c, h29d, h29e⟩ := h29
      refine g_aload_n (pc' := 33) B 0 rfl rfl dX11_keep_32 rfl ?_
      refine g_getR (pc' := 36) B 32 fl_X11_40 rfl rfl dX11_keep_33 rfl ?_
      refine g_iconst (pc' := 37) B dX11_keep_36 rfl ?_
      refine g_put (pc' := 40) B 5 rfl fp_X11_111 rfl rfl dX11_keep_37 rfl ?_
      refine g_iconst (pc' := 41) B dX11_keep_40 rfl ?_
      exact g_iret (z := 1) B hrt rfl hlk dX11_keep_41 (Or.inr ⟨by omega, rfl, by first | exact ⟨37, by omega, by rw [up_row (by decide)]; exact h29a, by rw [up_row (by decide)]; exact h29b, by rw [up_row (by decide)]; exact h29c, by rw [up_row (by decide)]; exact h29d, by rw [up_col (by decide), h29e 32 (by omega)], up_same _ _ _ _, fun k hk hk2 => by rw [up_row hk2]; exact h29e k (by omega)⟩ | exact ⟨40, by omega, by rw [up_row (by decide)]; exact h29a, by rw [up_row (by decide)]; exact h29b, by rw [up_row (by decide)]; exact h29c, by rw [up_row (by decide)]; exact h29d, by rw [up_col (by decide), h29e 32 (by omega)], up_same _ _ _ _, fun k hk hk2 => by rw [up_row hk2]; exact h29e k (by omega)⟩⟩)
set_option maxRecDepth 100000 in
set_option maxHeartbeats 4000000 in
theorem c_X11_goBack (l : Launch) (K : WK) (σ : SG) {b : Nat} (hb : b = 3 ∨ b = 17) (hcb : σ 0 1 = ((b : Nat) : Int)) {D : SG} (hS : sD σ b D) (hF : okF D) (hR : okR D) (hO : okQ D) (hH : okH D) (hk0 : (σ 37 0 = 0 ∨ σ 37 0 = 1) ∧ (σ 40 0 = 0 ∨ σ 40 0 = 1)) {i : Int} (hi : -2147483648 ≤ i ∧ i < 2147483648) : MI l yX11_goBack cX11_goBack 3 (some .int) 2 43 K σ [.ref (K.2.2 0), .int (iI i)] (fun z τ => ((¬ (0 ≤ i ∧ i ≤ 1) ∧ τ = σ ∧ z = -1000000001) ∨ ((0 ≤ i ∧ i ≤ 1) ∧ ∃ c : Nat, ((i = 0 ∧ c = 37) ∨ (i = 1 ∧ c = 40)) ∧ ((σ c 0 = 0 ∧ τ = σ ∧ z = -1000000003) ∨ (σ c 0 ≠ 0 ∧ z = 1 ∧ (τ 31 0 = σ (c + 1) 0 ∧ τ 31 1 = σ (c + 1) 1 ∧ τ 31 2 = σ (c + 1) 2 ∧ τ 31 3 = σ (c + 1) 3) ∧ (∀ h : Int, 0 ≤ h → h < 4 → τ (b + 13) h = σ (c + 2) h) ∧ τ 0 12 = σ c 3 ∧ (∀ j : Int, j ≠ 12 → τ 0 j = σ 0 j) ∧ τ 32 4 = σ 32 4 ∧ τ 32 5 = 0 ∧ ∀ k, k ≠ 31 → k ≠ b + 13 → k ≠ 0 → k ≠ 32 → τ k = σ k))))) := by
  refine met_of [(0, .ref (K.2.2 0)), (1, .int (iI i))] (by decide +kernel) (Nat.le_of_ble_eq_true rfl) rfl ?_
  intro pP eE sS mM bW mT cC B hrt hlk
  replace B : CB pP sS mM [.ref (K.2.2 0), .int (iI i)].toArray cC cX11_goBack RX11 3 K := B
  obtain ⟨hF0, hF1⟩ := id hF
  obtain ⟨hO0, hO1⟩ := id hO
  obtain ⟨hH0, hH1⟩ := id hH
  obtain ⟨hR0, hR1⟩ := id hR
  refine g_iload_n (pc' := 1) B 1 rfl rfl dX11_goBack_0 rfl ?_
  refine g_iconst (pc' := 2) B dX11_goBack_1 rfl ?_
  refine g_iconst (pc' := 3) B dX11_goBack_2 rfl ?_
  refine g_callSI (pc' := 6) (As := [.int (iI i), .int (iI 0), .int (iI 1)]) B (c_X11_isOutside l K _ (v := i) (low := 0) (high := 1) (by omega) (by omega) (by omega)) st_X11_isOutside tw_363 ⟨by decide, by decide⟩ rfl (Nat.le_of_ble_eq_true rfl) ⟨Nat.zero_le _, Nat.zero_le _⟩ rfl dX11_goBack_3 rfl (fun z3 τ3 h3 => ?_)
  obtain ⟨rfl, h3⟩ := h3
  rcases h3 with ⟨h3, rfl⟩ | ⟨h3, rfl⟩
  · refine g_if_eq (pc' := 9) B 12 (by omega) dX11_goBack_6 (by decide) rfl (fun q => absurd q (by decide)) (fun _ => ?_)
    refine g_ldc (z := (-1000000001)) (pc' := 11) B tw_533 (by decide +kernel) dX11_goBack_9 rfl ?_
    exact g_iret (z := (-1000000001)) B hrt rfl hlk dX11_goBack_11 (Or.inl ⟨by omega, rfl, rfl⟩)
  · refine g_if_eq (pc' := 9) B 12 (by omega) dX11_goBack_6 (by decide) rfl (fun _ => ?_) (fun q => absurd q (by decide))
    refine g_aload_n (pc' := 13) B 0 rfl rfl dX11_goBack_12 rfl ?_
    refine g_iload_n (pc' := 14) B 1 rfl rfl dX11_goBack_13 rfl ?_
    refine g_callVR (pc' := 17) (As := [.int (iI i)]) B (c_X11_imageOf l K _ (i := i) (by omega)) vt_X11_imageOf tw_906 rfl rfl ⟨by decide, by decide⟩ rfl (Nat.le_of_ble_eq_true rfl) ⟨Nat.zero_le _, Nat.zero_le _⟩ rfl dX11_goBack_14 rfl (fun z14 τ14 h14 => ?_)
    obtain ⟨rfl, h14⟩ := h14
    rcases h14 with ⟨h14, rfl⟩ | ⟨h14, rfl⟩
    · refine g_astore_n (pc' := 18) B [(2, .ref (K.2.2 37)), (0, .ref (K.2.2 0)), (1, .int (iI i))] dX11_goBack_17 rfl rfl (by decide) rfl ?_
      refine g_aload_n (pc' := 19) B 0 rfl rfl dX11_goBack_18 rfl ?_
      refine g_get (pc' := 22) B (σ 37 0) rfl fl_X11_114 rfl rfl dX11_goBack_19 rfl ?_
      refine g_if_ne (pc' := 25) B 28 (by omega) dX11_goBack_22 (by decide) rfl (fun c22 => ?_) (fun c22 => ?_)
      · refine g_aload_n (pc' := 29) B 0 rfl rfl dX11_goBack_28 rfl ?_
        refine g_aload_n (pc' := 30) B 1 rfl rfl dX11_goBack_29 rfl ?_
        refine g_getR (pc' := 33) B 31 fl_X11_33 rfl rfl dX11_goBack_30 rfl ?_
        refine g_aload_n (pc' := 34) B 1 rfl rfl dX11_goBack_33 rfl ?_
        refine g_getV (pc' := 37) B b (vr hcb) fl_X11_19 rfl rfl dX11_goBack_34 rfl ?_
        refine g_callVV (pc' := 40) (As := [.ref (K.2.2 31), .ref (K.2.2 b)]) B (c_X4_giveBack l K _ (i := 37) (b := b) (by omega) hb) vt_X4_giveBack tw_922 rfl rfl ⟨by decide, by decide⟩ rfl (Nat.le_of_ble_eq_true rfl) ⟨Nat.zero_le _, Nat.zero_le _⟩ rfl dX11_goBack_37 rfl (fun τ37 h37 => ?_)
        obtain ⟨h37a, h37b, h37c⟩ := h37
        refine g_aload_n (pc' := 41) B 1 rfl rfl dX11_goBack_40 rfl ?_
        refine g_aload_n (pc' := 42) B 0 rfl rfl dX11_goBack_41 rfl ?_
        refine g_get (pc' := 45) B (τ37 37 3) rfl fl_X11_341 rfl rfl dX11_goBack_42 rfl ?_
        refine g_put (pc' := 48) B 12 rfl fp_X11_82 rfl rfl dX11_goBack_45 rfl ?_
        refine g_aload_n (pc' := 49) B 1 rfl rfl dX11_goBack_48 rfl ?_
        refine g_getR (pc' := 52) B 32 fl_X11_40 rfl rfl dX11_goBack_49 rfl ?_
        refine g_iconst (pc' := 53) B dX11_goBack_52 rfl ?_
        refine g_put (pc' := 56) B 5 rfl fp_X11_111 rfl rfl dX11_goBack_53 rfl ?_
        refine g_iconst (pc' := 57) B dX11_goBack_56 rfl ?_
        exact g_iret (z := 1) B hrt rfl hlk dX11_goBack_57 (Or.inr ⟨by omega, by first | exact ⟨37, by omega, Or.inr ⟨c22, rfl, by rw [up_row (by decide), up_row (by decide)]; exact h37a, by rw [up_row (by omega), up_row (by omega)]; exact h37b, by rw [up_row (by decide), up_same, h37c 37 (by decide) (by omega)], fun j hj => by rw [up_row (by decide), up_col hj, h37c 0 (by decide) (by omega)], by rw [up_col (by decide), up_row (by decide), h37c 32 (by decide) (by omega)], up_same _ _ _ _, fun k k1 k2 k3 k4 => by rw [up_row k4, up_row k3]; exact h37c k k1 k2⟩⟩ | exact ⟨40, by omega, Or.inr ⟨c22, rfl, by rw [up_row (by decide), up_row (by decide)]; exact h37a, by rw [up_row (by omega), up_row (by omega)]; exact h37b, by rw [up_row (by decide), up_same, h37c 40 (by decide) (by omega)], fun j hj => by rw [up_row (by decide), up_col hj, h37c 0 (by decide) (by omega)], by rw [up_col (by decide), up_row (by decide), h37c 32 (by decide) (by omega)], up_same _ _ _ _, fun k k1 k2 k3 k4 => by rw [up_row k4, up_row k3]; exact h37c k k1 k2⟩⟩⟩)
      · refine g_ldc (z := (-1000000003)) (pc' := 27) B tw_605 (by decide +kernel) dX11_goBack_25 rfl ?_
        exact g_iret (z := (-1000000003)) B hrt rfl hlk dX11_goBack_27 (Or.inr ⟨by omega, by first | exact ⟨37, by omega, Or.inl ⟨c22, rfl, rfl⟩⟩ | exact ⟨40, by omega, Or.inl ⟨c22, rfl, rfl⟩⟩⟩)
    · refine g_astore_n (pc' := 18) B [(2, .ref (K.2.2 40)), (0, .ref (K.2.2 0)), (1, .int (iI i))] dX11_goBack_17 rfl rfl (by decide) rfl ?_
      refine g_aload_n (pc' := 19) B 0 rfl rfl dX11_goBack_18 rfl ?_
      refine g_get (pc' := 22) B (σ 40 0) rfl fl_X11_114 rfl rfl dX11_goBack_19 rfl ?_
      refine g_if_ne (pc' := 25) B 28 (by omega) dX11_goBack_22 (by decide) rfl (fun c22 => ?_) (fun c22 => ?_)
      · refine g_aload_n (pc' := 29) B 0 rfl rfl dX11_goBack_28 rfl ?_
        refine g_aload_n (pc' := 30) B 1 rfl rfl dX11_goBack_29 rfl ?_
        refine g_getR (pc' := 33) B 31 fl_X11_33 rfl rfl dX11_goBack_30 rfl ?_
        refine g_aload_n (pc' := 34) B 1 rfl rfl dX11_goBack_33 rfl ?_
        refine g_getV (pc' := 37) B b (vr hcb) fl_X11_19 rfl rfl dX11_goBack_34 rfl ?_
        refine g_callVV (pc' := 40) (As := [.ref (K.2.2 31), .ref (K.2.2 b)]) B (c_X4_giveBack l K _ (i := 40) (b := b) (by omega) hb) vt_X4_giveBack tw_922 rfl rfl ⟨by decide, by decide⟩ rfl (Nat.le_of_ble_eq_true rfl) ⟨Nat.zero_le _, Nat.zero_le _⟩ rfl dX11_goBack_37 rfl (fun τ37 h37 => ?_)
        obtain ⟨h37a, h37b, h37c⟩ := h37
        refine g_aload_n (pc' := 41) B 1 rfl rfl dX11_goBack_40 rfl ?_
        refine g_aload_n (pc' := 42) B 0 rfl rfl dX11_goBack_41 rfl ?_
        refine g_get (pc' := 45) B (τ37 40 3) rfl fl_X11_341 rfl rfl dX11_goBack_42 rfl ?_
        refine g_put (pc' := 48) B 12 rfl fp_X11_82 rfl rfl dX11_goBack_45 rfl ?_
        refine g_aload_n (pc' := 49) B 1 rfl rfl dX11_goBack_48 rfl ?_
        refine g_getR (pc' := 52) B 32 fl_X11_40 rfl rfl dX11_goBack_49 rfl ?_
        refine g_iconst (pc' := 53) B dX11_goBack_52 rfl ?_
        refine g_put (pc' := 56) B 5 rfl fp_X11_111 rfl rfl dX11_goBack_53 rfl ?_
        refine g_iconst (pc' := 57) B dX11_goBack_56 rfl ?_
        exact g_iret (z := 1) B hrt rfl hlk dX11_goBack_57 (Or.inr ⟨by omega, by first | exact ⟨37, by omega, Or.inr ⟨c22, rfl, by rw [up_row (by decide), up_row (by decide)]; exact h37a, by rw [up_row (by omega), up_row (by omega)]; exact h37b, by rw [up_row (by decide), up_same, h37c 37 (by decide) (by omega)], fun j hj => by rw [up_row (by decide), up_col hj, h37c 0 (by decide) (by omega)], by rw [up_col (by decide), up_row (by decide), h37c 32 (by decide) (by omega)], up_same _ _ _ _, fun k k1 k2 k3 k4 => by rw [up_row k4, up_row k3]; exact h37c k k1 k2⟩⟩ | exact ⟨40, by omega, Or.inr ⟨c22, rfl, by rw [up_row (by decide), up_row (by decide)]; exact h37a, by rw [up_row (by omega), up_row (by omega)]; exact h37b, by rw [up_row (by decide), up_same, h37c 40 (by decide) (by omega)], fun j hj => by rw [up_row (by decide), up_col hj, h37c 0 (by decide) (by omega)], by rw [up_col (by decide), up_row (by decide), h37c 32 (by decide) (by omega)], up_same _ _ _ _, fun k k1 k2 k3 k4 => by rw [up_row k4, up_row k3]; exact h37c k k1 k2⟩⟩⟩)
      · refine g_ldc (z := (-1000000003)) (pc' := 27) B tw_605 (by decide +kernel) dX11_goBack_25 rfl ?_
        exact g_iret (z := (-1000000003)) B hrt rfl hlk dX11_goBack_27 (Or.inr ⟨by omega, by first | exact ⟨37, by omega, Or.inl ⟨c22, rfl, rfl⟩⟩ | exact ⟨40, by omega, Or.inl ⟨c22, rfl, rfl⟩⟩⟩)
