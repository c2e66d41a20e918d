set_option maxRecDepth 100000 in
set_option maxHeartbeats 4000000 in
theorem c_X8_clear (l : Launch) (K : WK) (σ : SG) {b : Nat} (hb : b = 3 ∨ b = 17) : MV l yX8_clear cX8_clear 1 none 1 20 K σ [.ref (K.2.2 b)] (fun τ => τ = up (up (up (up (up σ (b + 1) 5 0) (b + 1) 6 1) (b + 7) 4 0) b 4 0) b 5 (-1)) := by
  refine met_of [(0, .ref (K.2.2 b))] (by decide +kernel) (Nat.le_of_ble_eq_true rfl) rfl ?_
  intro pP eE sS mM bW mT cC B hrt hlk
  replace B : CB pP sS mM [.ref (K.2.2 b)].toArray cC cX8_clear RX8 1 K := B
  refine g_aload_n (pc' := 1) B 0 rfl rfl dX8_clear_0 rfl ?_
  refine g_getR (pc' := 4) B (b + 1) fl_X8_12 (ly_S hb) rfl dX8_clear_1 rfl ?_
  refine g_callVV (pc' := 7) (As := []) B (c_X2_clear l K _ (g := b + 1) (by omega)) vt_X2_clear tw_384 (ly_G (by omega)) rfl ⟨by decide, by decide⟩ rfl (Nat.le_of_ble_eq_true rfl) ⟨Nat.zero_le _, Nat.zero_le _⟩ rfl dX8_clear_4 rfl (fun τ4 h4 => ?_)
  subst h4
  refine g_aload_n (pc' := 8) B 0 rfl rfl dX8_clear_7 rfl ?_
  refine g_getR (pc' := 11) B (b + 7) fl_X8_21 (ly_S hb) rfl dX8_clear_8 rfl ?_
  refine g_iconst (pc' := 12) B dX8_clear_11 rfl ?_
  refine g_put (pc' := 15) B 4 rfl fp_X8_42 (ly_Q (by omega)) rfl dX8_clear_12 rfl ?_
  refine g_aload_n (pc' := 16) B 0 rfl rfl dX8_clear_15 rfl ?_
  refine g_iconst (pc' := 17) B dX8_clear_16 rfl ?_
  refine g_put (pc' := 20) B 4 rfl fp_X8_32 (ly_S hb) rfl dX8_clear_17 rfl ?_
  refine g_aload_n (pc' := 21) B 0 rfl rfl dX8_clear_20 rfl ?_
  refine g_iconst (pc' := 22) B dX8_clear_21 rfl ?_
  refine g_put (pc' := 25) B 5 rfl fp_X8_36 (ly_S hb) rfl dX8_clear_22 rfl ?_
  exact g_vret B hrt hlk dX8_clear_25 rfl
set_option maxRecDepth 100000 in
set_option maxHeartbeats 4000000 in
theorem c_X8_barrelStart (l : Launch) (K : WK) (σ : SG) {b : Nat} (hb : b = 3 ∨ b = 17) {D : SG} (hS : sD σ b D) (hF : okF D) (hH : okH D) (hbt : -1 ≤ σ b 5 ∧ σ b 5 ≤ 7) : MI l yX8_barrelStart cX8_barrelStart 1 (some .int) 0 0 K σ [.ref (K.2.2 b)] (fun z τ => σ = τ ∧ z = (if D 9 0 = 0 then -1 else if σ b 5 = -1 then 0 else σ b 5)) := by
  refine met_of [(0, .ref (K.2.2 b))] (by decide +kernel) (Nat.le_of_ble_eq_true rfl) rfl ?_
  intro pP eE sS mM bW mT cC B hrt hlk
  replace B : CB pP sS mM [.ref (K.2.2 b)].toArray cC cX8_barrelStart RX8 1 K := B
  obtain ⟨hF0, hF1⟩ := id hF
  obtain ⟨hH0, hH1⟩ := id hH
  refine g_aload_n (pc' := 1) B 0 rfl rfl dX8_barrelStart_0 rfl ?_
  refine g_getR (pc' := 4) B (b + 1) fl_X8_12 (ly_S hb) rfl dX8_barrelStart_1 rfl ?_
  refine g_get (pc' := 7) B (D 9 0) hS.1.1 fl_X8_45 (ly_G (by omega)) rfl dX8_barrelStart_4 rfl ?_
  refine g_if_ne (pc' := 10) B 12 (by omega) dX8_barrelStart_7 (by decide) rfl (fun c7 => ?_) (fun c7 => ?_)
  · refine g_aload_n (pc' := 13) B 0 rfl rfl dX8_barrelStart_12 rfl ?_
    refine g_get (pc' := 16) B (σ b 5) rfl fl_X8_36 (ly_S hb) rfl dX8_barrelStart_13 rfl ?_
    refine g_iconst (pc' := 17) B dX8_barrelStart_16 rfl ?_
    refine g_icmp_ne (pc' := 20) B 24 (by omega) (by omega) dX8_barrelStart_17 (by decide) rfl (fun c17 => ?_) (fun c17 => ?_)
    · refine g_aload_n (pc' := 25) B 0 rfl rfl dX8_barrelStart_24 rfl ?_
      refine g_get (pc' := 28) B (σ b 5) rfl fl_X8_36 (ly_S hb) rfl dX8_barrelStart_25 rfl ?_
      exact g_iret (z := σ b 5) B hrt rfl hlk dX8_barrelStart_28 ⟨rfl, by rw [if_neg c7, if_neg c17]⟩
    · refine g_iconst (pc' := 21) B dX8_barrelStart_20 rfl ?_
      refine g_goto (pc' := 28) B dX8_barrelStart_21 (by decide) ?_
      exact g_iret (z := 0) B hrt rfl hlk dX8_barrelStart_28 ⟨rfl, by rw [if_neg c7, if_pos c17]⟩
  · refine g_iconst (pc' := 11) B dX8_barrelStart_10 rfl ?_
    exact g_iret (z := (-1)) B hrt rfl hlk dX8_barrelStart_11 ⟨rfl, by rw [if_pos c7]⟩
set_option maxRecDepth 100000 in
set_option maxHeartbeats 4000000 in
theorem c_X8_addHouse (l : Launch) (K : WK) (σ : SG) {b : Nat} (hb : b = 3 ∨ b = 17) {D : SG} (hS : sD σ b D) (hF : okF D) (hH : okH D) {f s : Int} (hf : -2147483648 ≤ f ∧ f < 2147483648) (hs : -2147483648 ≤ s ∧ s < 2147483648) (hc : D 9 1 < 4) : MV l yX8_addHouse cX8_addHouse 3 none 0 0 K σ [.ref (K.2.2 b), .int (iI f), .int (iI s)] (fun τ => τ = up (up (up σ (b + 12) (D 9 1) f) (b + 13) (D 9 1) s) b 4 (D 9 1 + 1)) := by
  refine met_of [(0, .ref (K.2.2 b)), (1, .int (iI f)), (2, .int (iI s))] (by decide +kernel) (Nat.le_of_ble_eq_true rfl) rfl ?_
  intro pP eE sS mM bW mT cC B hrt hlk
  replace B : CB pP sS mM [.ref (K.2.2 b), .int (iI f), .int (iI s)].toArray cC cX8_addHouse RX8 3 K := B
  obtain ⟨hF0, hF1⟩ := id hF
  obtain ⟨hH0, hH1⟩ := id hH
  refine g_aload_n (pc' := 1) B 0 rfl rfl dX8_addHouse_0 rfl ?_
  refine g_get (pc' := 4) B (D 9 1) hS.2.2.1 fl_X8_32 (ly_S hb) rfl dX8_addHouse_1 rfl ?_
  refine g_iconst (pc' := 5) B dX8_addHouse_4 rfl ?_
  refine g_icmp_lt (pc' := 8) B 9 (by omega) (by omega) dX8_addHouse_5 (by decide) rfl (fun c5 => ?_) (fun c5 => by exfalso; omega)
  refine g_aload_n (pc' := 10) B 0 rfl rfl dX8_addHouse_9 rfl ?_
  refine g_getR (pc' := 13) B (b + 12) fl_X8_25 (ly_S hb) rfl dX8_addHouse_10 rfl ?_
  refine g_aload_n (pc' := 14) B 0 rfl rfl dX8_addHouse_13 rfl ?_
  refine g_get (pc' := 17) B (D 9 1) hS.2.2.1 fl_X8_32 (ly_S hb) rfl dX8_addHouse_14 rfl ?_
  refine g_iload_n (pc' := 18) B 1 rfl rfl dX8_addHouse_17 rfl ?_
  refine g_iast (pc' := 19) B (ly_Sa2 hb) (by omega) (by decide) dX8_addHouse_18 rfl ?_
  refine g_aload_n (pc' := 20) B 0 rfl rfl dX8_addHouse_19 rfl ?_
  refine g_getR (pc' := 23) B (b + 13) fl_X8_29 (ly_S hb) rfl dX8_addHouse_20 rfl ?_
  refine g_aload_n (pc' := 24) B 0 rfl rfl dX8_addHouse_23 rfl ?_
  refine g_get (pc' := 27) B (D 9 1) (by have q9 := hS.2.2.1; simpa [up] using q9) fl_X8_32 (ly_S hb) rfl dX8_addHouse_24 rfl ?_
  refine g_iload_n (pc' := 28) B 2 rfl rfl dX8_addHouse_27 rfl ?_
  refine g_iast (pc' := 29) B (ly_Sa3 hb) (by omega) (by decide) dX8_addHouse_28 rfl ?_
  refine g_aload_n (pc' := 30) B 0 rfl rfl dX8_addHouse_29 rfl ?_
  refine g_dup (pc' := 31) B rfl dX8_addHouse_30 rfl ?_
  refine g_get (pc' := 34) B (D 9 1) (by have q9 := hS.2.2.1; simpa [up] using q9) fl_X8_32 (ly_S hb) rfl dX8_addHouse_31 rfl ?_
  refine g_iconst (pc' := 35) B dX8_addHouse_34 rfl ?_
  refine g_iadd (pc' := 36) B dX8_addHouse_35 rfl ?_
  refine g_put (pc' := 39) B 4 rfl fp_X8_32 (ly_S hb) rfl dX8_addHouse_36 rfl ?_
  exact g_vret B hrt hlk dX8_addHouse_39 rfl
-- THE TRAIL: T k j: of the j-th step that can be undone, 0 STEPS, 1 BREATH, 2 barrel, 3 PULLED; T 4 0: how many
def tD (σ : SG) (T : SG) : Prop := (0 ≤ σ 32 4 ∧ σ 32 4 < 40) ∧ σ 32 5 = T 4 0 ∧ (0 ≤ T 4 0 ∧ T 4 0 ≤ 40) ∧ ∀ j : Int, 0 ≤ j → j < T 4 0 → σ 33 ((σ 32 4 - T 4 0 + j) % 40) = T 0 j ∧ σ 34 ((σ 32 4 - T 4 0 + j) % 40) = T 1 j ∧ σ 35 ((σ 32 4 - T 4 0 + j) % 40) = T 2 j ∧ σ 36 ((σ 32 4 - T 4 0 + j) % 40) = T 3 j
theorem tD.keep {σ τ : SG} {T : SG} (h : tD σ T) (e : ∀ k, 32 ≤ k → k ≤ 36 → τ k = σ k) : tD τ T := by
  unfold tD at *
  rw [e 32 (by omega) (by omega), e 33 (by omega) (by omega), e 34 (by omega) (by omega), e 35 (by omega) (by omega), e 36 (by omega) (by omega)]
  exact h
/-- one step more -/
def tP (T : SG) (s x l p : Int) : SG := fun k j => if k = 4 ∧ j = 0 then min (T 4 0 + 1) 40 else if j + (if T 4 0 = 40 then 1 else 0) < T 4 0 then T k (j + (if T 4 0 = 40 then 1 else 0)) else if k = 0 then s else if k = 1 then x else if k = 2 then l else p
theorem tP_n (T : SG) (s x l p : Int) : tP T s x l p 4 0 = min (T 4 0 + 1) 40 := by simp [tP]
theorem tP_old {T : SG} {s x l p : Int} {k : Nat} {j : Int} (hk : k ≠ 4) (hj : j + (if T 4 0 = 40 then 1 else 0) < T 4 0) : tP T s x l p k j = T k (j + (if T 4 0 = 40 then 1 else 0)) := by
  unfold tP; rw [if_neg (fun q => hk q.1), if_pos hj]
theorem tP_new {T : SG} {s x l p : Int} {k : Nat} {j : Int} (hk : k ≠ 4) (hj : ¬ j + (if T 4 0 = 40 then 1 else 0) < T 4 0) : tP T s x l p k j = if k = 0 then s else if k = 1 then x else if k = 2 then l else p := by
  unfold tP; rw [if_neg (fun q => hk q.1), if_neg hj]
theorem tD_push {σ τ : SG} {T : SG} {s x l p : Int} (h : tD σ T) (e4 : τ 32 4 = (σ 32 4 + 1) % 40) (e5 : τ 32 5 = min (T 4 0 + 1) 40)
    (r3 : ∀ j, τ 33 j = if j = σ 32 4 then s else σ 33 j) (r4 : ∀ j, τ 34 j = if j = σ 32 4 then x else σ 34 j) (r5 : ∀ j, τ 35 j = if j = σ 32 4 then l else σ 35 j) (r6 : ∀ j, τ 36 j = if j = σ 32 4 then p else σ 36 j) : tD τ (tP T s x l p) := by
  obtain ⟨h1, h2, h3, h4⟩ := h
  refine ⟨by omega, by rw [e5, tP_n], by rw [tP_n]; omega, fun j a b => ?_⟩
  rw [tP_n] at b ⊢
  rw [e4, r3, r4, r5, r6]
  by_cases q : j + (if T 4 0 = 40 then 1 else 0) < T 4 0
  · have hq := h4 (j + (if T 4 0 = 40 then 1 else 0)) (by split <;> omega) q
    have e : ((σ 32 4 + 1) % 40 - min (T 4 0 + 1) 40 + j) % 40 = (σ 32 4 - T 4 0 + (j + (if T 4 0 = 40 then 1 else 0))) % 40 := by split <;> omega
    have ne : ¬ (σ 32 4 - T 4 0 + (j + (if T 4 0 = 40 then 1 else 0))) % 40 = σ 32 4 := by
      revert q; split <;> omega
    rw [e, if_neg ne, if_neg ne, if_neg ne, if_neg ne, tP_old (by omega) q, tP_old (by omega) q, tP_old (by omega) q, tP_old (by omega) q]
    exact hq
  · have e : ((σ 32 4 + 1) % 40 - min (T 4 0 + 1) 40 + j) % 40 = σ 32 4 := by
      revert q; split <;> omega
    rw [e, if_pos rfl, if_pos rfl, if_pos rfl, if_pos rfl, tP_new (by omega) q, tP_new (by omega) q, tP_new (by omega) q, tP_new (by omega) q]
    exact ⟨rfl, rfl, rfl, rfl⟩
set_option maxRecDepth 100000 in
set_option maxHeartbeats 4000000 in
theorem c_X10_note (l : Launch) (K : WK) (σ : SG) {T : SG} (hT : tD σ T) {S X L P : Int} (hm : σ 31 0 = S ∧ σ 31 1 = X ∧ σ 31 2 = L ∧ σ 31 3 = P) : MV l yX10_note cX10_note 2 none 1 22 K σ [.ref (K.2.2 32), .ref (K.2.2 31)] (fun τ => tD τ (tP T S X L P) ∧ ∀ k, (k < 32 ∨ 36 < k) → τ k = σ k) := by
  refine met_of [(0, .ref (K.2.2 32)), (1, .ref (K.2.2 31))] (by decide +kernel) (Nat.le_of_ble_eq_true rfl) rfl ?_
  intro pP eE sS mM bW mT cC B hrt hlk
  replace B : CB pP sS mM [.ref (K.2.2 32), .ref (K.2.2 31)].toArray cC cX10_note RX10 2 K := B
  obtain ⟨hT1, hT2, hT3, hT4⟩ := id hT
  refine g_aload_n (pc' := 1) B 0 rfl rfl dX10_note_0 rfl ?_
  refine g_get (pc' := 4) B (σ 32 4) rfl fl_X10_24 rfl rfl dX10_note_1 rfl ?_
  refine g_iconst (pc' := 5) B dX10_note_4 rfl ?_
  refine g_bipush (pc' := 7) B (by decide +kernel) dX10_note_5 rfl ?_
  refine g_callNI (pc' := 10) (As := [.int (iI (σ 32 4)), .int (iI 0), .int (iI 39)]) B (c_X11_isOutside l K _ (v := σ 32 4) (low := 0) (high := 39) (by omega) (by omega) (by omega)) st_X11_isOutside tw_582 ⟨by decide, by decide⟩ rfl (Nat.le_of_ble_eq_true rfl) ⟨Nat.zero_le _, Nat.zero_le _⟩ rfl dX10_note_7 rfl (fun z7 τ7 h7 => ?_)
  obtain ⟨rfl, h7⟩ := h7
  rcases h7 with ⟨h7, rfl⟩ | ⟨h7, rfl⟩
  · exfalso; omega
  · refine g_if_eq (pc' := 13) B 18 (by omega) dX10_note_10 (by decide) rfl (fun _ => ?_) (fun q => absurd q (by decide))
    refine g_aload_n (pc' := 19) B 0 rfl rfl dX10_note_18 rfl ?_
    refine g_getR (pc' := 22) B 33 fl_X10_9 rfl rfl dX10_note_19 rfl ?_
    refine g_aload_n (pc' := 23) B 0 rfl rfl dX10_note_22 rfl ?_
    refine g_get (pc' := 26) B (σ 32 4) rfl fl_X10_24 rfl rfl dX10_note_23 rfl ?_
    refine g_aload_n (pc' := 27) B 1 rfl rfl dX10_note_26 rfl ?_
    refine g_get (pc' := 30) B (σ 31 0) rfl fl_X10_35 rfl rfl dX10_note_27 rfl ?_
    refine g_iast (pc' := 31) B rfl (by omega) (by decide) dX10_note_30 rfl ?_
    refine g_aload_n (pc' := 32) B 0 rfl rfl dX10_note_31 rfl ?_
    refine g_getR (pc' := 35) B 34 fl_X10_15 rfl rfl dX10_note_32 rfl ?_
    refine g_aload_n (pc' := 36) B 0 rfl rfl dX10_note_35 rfl ?_
    refine g_get (pc' := 39) B (σ 32 4) (by simp [up]) fl_X10_24 rfl rfl dX10_note_36 rfl ?_
    refine g_aload_n (pc' := 40) B 1 rfl rfl dX10_note_39 rfl ?_
    refine g_get (pc' := 43) B (σ 31 1) (by simp [up]) fl_X10_39 rfl rfl dX10_note_40 rfl ?_
    refine g_iast (pc' := 44) B rfl (by omega) (by decide) dX10_note_43 rfl ?_
    refine g_aload_n (pc' := 45) B 0 rfl rfl dX10_note_44 rfl ?_
    refine g_getR (pc' := 48) B 35 fl_X10_18 rfl rfl dX10_note_45 rfl ?_
    refine g_aload_n (pc' := 49) B 0 rfl rfl dX10_note_48 rfl ?_
    refine g_get (pc' := 52) B (σ 32 4) (by simp [up]) fl_X10_24 rfl rfl dX10_note_49 rfl ?_
    refine g_aload_n (pc' := 53) B 1 rfl rfl dX10_note_52 rfl ?_
    refine g_get (pc' := 56) B (σ 31 2) (by simp [up]) fl_X10_42 rfl rfl dX10_note_53 rfl ?_
    refine g_iast (pc' := 57) B rfl (by omega) (by decide) dX10_note_56 rfl ?_
    refine g_aload_n (pc' := 58) B 0 rfl rfl dX10_note_57 rfl ?_
    refine g_getR (pc' := 61) B 36 fl_X10_21 rfl rfl dX10_note_58 rfl ?_
    refine g_aload_n (pc' := 62) B 0 rfl rfl dX10_note_61 rfl ?_
    refine g_get (pc' := 65) B (σ 32 4) (by simp [up]) fl_X10_24 rfl rfl dX10_note_62 rfl ?_
    refine g_aload_n (pc' := 66) B 1 rfl rfl dX10_note_65 rfl ?_
    refine g_get (pc' := 69) B (σ 31 3) (by simp [up]) fl_X10_45 rfl rfl dX10_note_66 rfl ?_
    refine g_iast (pc' := 70) B rfl (by omega) (by decide) dX10_note_69 rfl ?_
    refine g_aload_n (pc' := 71) B 0 rfl rfl dX10_note_70 rfl ?_
    refine g_aload_n (pc' := 72) B 0 rfl rfl dX10_note_71 rfl ?_
    refine g_get (pc' := 75) B (σ 32 4) (by simp [up]) fl_X10_24 rfl rfl dX10_note_72 rfl ?_
    refine g_iconst (pc' := 76) B dX10_note_75 rfl ?_
    refine g_iadd (pc' := 77) B dX10_note_76 rfl ?_
    refine g_bipush (pc' := 79) B (by decide +kernel) dX10_note_77 rfl ?_
    refine g_irem (pc' := 80) B (by omega) (by omega) dX10_note_79 rfl ?_
    refine g_put (pc' := 83) B 4 rfl fp_X10_24 rfl rfl dX10_note_80 rfl ?_
    refine g_aload_n (pc' := 84) B 0 rfl rfl dX10_note_83 rfl ?_
    refine g_aload_n (pc' := 85) B 0 rfl rfl dX10_note_84 rfl ?_
    refine g_get (pc' := 88) B (σ 32 5) (by simp [up]) fl_X10_28 rfl rfl dX10_note_85 rfl ?_
    refine g_iconst (pc' := 89) B dX10_note_88 rfl ?_
    refine g_iadd (pc' := 90) B dX10_note_89 rfl ?_
    refine g_bipush (pc' := 92) B (by decide +kernel) dX10_note_90 rfl ?_
    refine g_mmin (pc' := 95) B (by omega) (by omega) tw_583 (by decide) (Nat.le_of_ble_eq_true rfl) (Nat.zero_le _) (Nat.zero_le _) dX10_note_92 rfl ?_
    refine g_put (pc' := 98) B 5 rfl fp_X10_28 rfl rfl dX10_note_95 rfl ?_
    exact g_vret B hrt hlk dX10_note_98 ⟨tD_push hT (by simp [up]) (by simp [up, hT2]) (fun j => by simp [up, hm.1]) (fun j => by simp [up, hm.2.1]) (fun j => by simp [up, hm.2.2.1]) (fun j => by simp [up, hm.2.2.2]), fun k hk => by rw [up_row (by omega), up_row (by omega), up_row (by omega), up_row (by omega), up_row (by omega), up_row (by omega)]⟩
set_option maxRecDepth 100000 in
set_option maxHeartbeats 4000000 in
theorem c_X10_takeBack (l : Launch) (K : WK) (σ : SG) {T : SG} (hT : tD σ T) {n : Int} (hn : 1 ≤ n ∧ n ≤ T 4 0) : MV l yX10_takeBack cX10_takeBack 3 none 1 22 K σ [.ref (K.2.2 32), .ref (K.2.2 31), .int (iI n)] (fun τ => tD τ (up T 4 0 (T 4 0 - n)) ∧ (τ 31 0 = T 0 (T 4 0 - n) ∧ τ 31 1 = T 1 (T 4 0 - n) ∧ τ 31 2 = T 2 (T 4 0 - n) ∧ τ 31 3 = T 3 (T 4 0 - n)) ∧ ∀ k, k ≠ 31 → k ≠ 32 → τ k = σ k) := by
  refine met_of [(0, .ref (K.2.2 32)), (1, .ref (K.2.2 31)), (2, .int (iI n))] (by decide +kernel) (Nat.le_of_ble_eq_true rfl) rfl ?_
  intro pP eE sS mM bW mT cC B hrt hlk
  replace B : CB pP sS mM [.ref (K.2.2 32), .ref (K.2.2 31), .int (iI n)].toArray cC cX10_takeBack RX10 3 K := B
  obtain ⟨hT1, hT2, hT3, hT4⟩ := id hT
  have hq := hT4 (T 4 0 - n) (by omega) (by omega)
  rw [show σ 32 4 - T 4 0 + (T 4 0 - n) = σ 32 4 - n by omega] at hq
  refine g_iload_n (pc' := 1) B 2 rfl rfl dX10_takeBack_0 rfl ?_
  refine g_iconst (pc' := 2) B dX10_takeBack_1 rfl ?_
  refine g_aload_n (pc' := 3) B 0 rfl rfl dX10_takeBack_2 rfl ?_
  refine g_get (pc' := 6) B (σ 32 5) rfl fl_X10_28 rfl rfl dX10_takeBack_3 rfl ?_
  refine g_callNI (pc' := 9) (As := [.int (iI n), .int (iI 1), .int (iI (σ 32 5))]) B (c_X11_isOutside l K _ (v := n) (low := 1) (high := σ 32 5) (by omega) (by omega) (by omega)) st_X11_isOutside tw_582 ⟨by decide, by decide⟩ rfl (Nat.le_of_ble_eq_true rfl) ⟨Nat.zero_le _, Nat.zero_le _⟩ rfl dX10_takeBack_6 rfl (fun z6 τ6 h6 => ?_)
  obtain ⟨rfl, h6⟩ := h6
  rcases h6 with ⟨h6, rfl⟩ | ⟨h6, rfl⟩
  · exfalso; omega
  · refine g_if_eq (pc' := 12) B 13 (by omega) dX10_takeBack_9 (by decide) rfl (fun _ => ?_) (fun q => absurd q (by decide))
    refine g_aload_n (pc' := 14) B 0 rfl rfl dX10_takeBack_13 rfl ?_
    refine g_aload_n (pc' := 15) B 0 rfl rfl dX10_takeBack_14 rfl ?_
    refine g_get (pc' := 18) B (σ 32 4) rfl fl_X10_24 rfl rfl dX10_takeBack_15 rfl ?_
    refine g_iload_n (pc' := 19) B 2 rfl rfl dX10_takeBack_18 rfl ?_
    refine g_isub (pc' := 20) B dX10_takeBack_19 rfl ?_
    refine g_bipush (pc' := 22) B (by decide +kernel) dX10_takeBack_20 rfl ?_
    refine g_callSI (pc' := 25) (As := [.int (iI ((σ 32 4) - n)), .int (iI 40)]) B (c_J9_floorMod_7cf53 l K _ (x := (σ 32 4) - n) (y := 40) (by omega) (by omega)) st_J9_floorMod_7cf53 tw_640 ⟨by decide, by decide⟩ rfl (Nat.le_of_ble_eq_true rfl) ⟨Nat.zero_le _, Nat.zero_le _⟩ rfl dX10_takeBack_22 rfl (fun z22 τ22 h22 => ?_)
    obtain ⟨rfl, rfl⟩ := h22
    refine g_put (pc' := 28) B 4 rfl fp_X10_24 rfl rfl dX10_takeBack_25 rfl ?_
    refine g_aload_n (pc' := 29) B 0 rfl rfl dX10_takeBack_28 rfl ?_
    refine g_dup (pc' := 30) B rfl dX10_takeBack_29 rfl ?_
    refine g_get (pc' := 33) B (σ 32 5) (by simp [up]) fl_X10_28 rfl rfl dX10_takeBack_30 rfl ?_
    refine g_iload_n (pc' := 34) B 2 rfl rfl dX10_takeBack_33 rfl ?_
    refine g_isub (pc' := 35) B dX10_takeBack_34 rfl ?_
    refine g_put (pc' := 38) B 5 rfl fp_X10_28 rfl rfl dX10_takeBack_35 rfl ?_
    refine g_aload_n (pc' := 39) B 1 rfl rfl dX10_takeBack_38 rfl ?_
    refine g_aload_n (pc' := 40) B 0 rfl rfl dX10_takeBack_39 rfl ?_
    refine g_getR (pc' := 43) B 33 fl_X10_9 rfl rfl dX10_takeBack_40 rfl ?_
    refine g_aload_n (pc' := 44) B 0 rfl rfl dX10_takeBack_43 rfl ?_
    refine g_get (pc' := 47) B (((σ 32 4) - n) % 40) (by simp [up]) fl_X10_24 rfl rfl dX10_takeBack_44 rfl ?_
    refine g_iald (pc' := 48) B (σ 33 (((σ 32 4) - n) % 40)) (by simp [up]) rfl (by omega) (by decide) dX10_takeBack_47 rfl ?_
    refine g_put (pc' := 51) B 0 rfl fp_X10_35 rfl rfl dX10_takeBack_48 rfl ?_
    refine g_aload_n (pc' := 52) B 1 rfl rfl dX10_takeBack_51 rfl ?_
    refine g_aload_n (pc' := 53) B 0 rfl rfl dX10_takeBack_52 rfl ?_
    refine g_getR (pc' := 56) B 34 fl_X10_15 rfl rfl dX10_takeBack_53 rfl ?_
    refine g_aload_n (pc' := 57) B 0 rfl rfl dX10_takeBack_56 rfl ?_
    refine g_get (pc' := 60) B (((σ 32 4) - n) % 40) (by simp [up]) fl_X10_24 rfl rfl dX10_takeBack_57 rfl ?_
    refine g_iald (pc' := 61) B (σ 34 (((σ 32 4) - n) % 40)) (by simp [up]) rfl (by omega) (by decide) dX10_takeBack_60 rfl ?_
    refine g_put (pc' := 64) B 1 rfl fp_X10_39 rfl rfl dX10_takeBack_61 rfl ?_
    refine g_aload_n (pc' := 65) B 1 rfl rfl dX10_takeBack_64 rfl ?_
    refine g_aload_n (pc' := 66) B 0 rfl rfl dX10_takeBack_65 rfl ?_
    refine g_getR (pc' := 69) B 35 fl_X10_18 rfl rfl dX10_takeBack_66 rfl ?_
    refine g_aload_n (pc' := 70) B 0 rfl rfl dX10_takeBack_69 rfl ?_
    refine g_get (pc' := 73) B (((σ 32 4) - n) % 40) (by simp [up]) fl_X10_24 rfl rfl dX10_takeBack_70 rfl ?_
    refine g_iald (pc' := 74) B (σ 35 (((σ 32 4) - n) % 40)) (by simp [up]) rfl (by omega) (by decide) dX10_takeBack_73 rfl ?_
    refine g_put (pc' := 77) B 2 rfl fp_X10_42 rfl rfl dX10_takeBack_74 rfl ?_
    refine g_aload_n (pc' := 78) B 1 rfl rfl dX10_takeBack_77 rfl ?_
    refine g_aload_n (pc' := 79) B 0 rfl rfl dX10_takeBack_78 rfl ?_
    refine g_getR (pc' := 82) B 36 fl_X10_21 rfl rfl dX10_takeBack_79 rfl ?_
    refine g_aload_n (pc' := 83) B 0 rfl rfl dX10_takeBack_82 rfl ?_
    refine g_get (pc' := 86) B (((σ 32 4) - n) % 40) (by simp [up]) fl_X10_24 rfl rfl dX10_takeBack_83 rfl ?_
    refine g_iald (pc' := 87) B (σ 36 (((σ 32 4) - n) % 40)) (by simp [up]) rfl (by omega) (by decide) dX10_takeBack_86 rfl ?_
    refine g_put (pc' := 90) B 3 rfl fp_X10_45 rfl rfl dX10_takeBack_87 rfl ?_
    exact g_vret B hrt hlk dX10_takeBack_90 ⟨by
    refine ⟨by simp [up]; omega, by simp [up, hT2], by simp [up]; omega, fun j a b => ?_⟩
    have b2 : j < T 4 0 - n := by simpa [up] using b
    have q8 := hT4 j a (by omega)
    have e8 : ((σ 32 4 - n) % 40 - (T 4 0 - n) + j) % 40 = (σ 32 4 - T 4 0 + j) % 40 := by omega
    simp [up, e8, q8], by simp [up, hq], fun k h1 h2 => by
    rw [up_row (by omega), up_row (by omega), up_row (by omega), up_row (by omega), up_row (by omega), up_row (by omega)]⟩
set_option maxRecDepth 100000 in
set_option maxHeartbeats 4000000 in
theorem c_X4_take (l : Launch) (K : WK) (σ : SG) {i : Nat} (hi : i = 37 ∨ i = 40) {b : Nat} (hb : b = 3 ∨ b = 17) {v : Int} : MV l yX4_take cX4_take 4 none 1 21 K σ [.ref (K.2.2 i), .ref (K.2.2 31), .ref (K.2.2 b), .int (iI v)] (fun τ => τ i 0 = 1 ∧ τ i 3 = v ∧ (τ (i + 1) 0 = σ 31 0 ∧ τ (i + 1) 1 = σ 31 1 ∧ τ (i + 1) 2 = σ 31 2 ∧ τ (i + 1) 3 = σ 31 3) ∧ (∀ h : Int, 0 ≤ h → h < 4 → τ (i + 2) h = σ (b + 13) h) ∧ ∀ k, (k < i ∨ i + 2 < k) → τ k = σ k) := by
  refine met_of [(0, .ref (K.2.2 i)), (1, .ref (K.2.2 31)), (2, .ref (K.2.2 b)), (3, .int (iI v))] (by decide +kernel) (Nat.le_of_ble_eq_true rfl) rfl ?_
  intro pP eE sS mM bW mT cC B hrt hlk
  replace B : CB pP sS mM [.ref (K.2.2 i), .ref (K.2.2 31), .ref (K.2.2 b), .int (iI v)].toArray cC cX4_take RX4 4 K := B
  have ai : i ≠ 31 := by omega
  have ai2 : ¬ i + 1 = 31 := by omega
  have ab1 : ¬ b + 13 = i := by omega
  have ab2 : ¬ b + 13 = i + 1 := by omega
  have a31 : ¬ (31 : Nat) = i := by omega
  refine g_aload_n (pc' := 1) B 0 rfl rfl dX4_take_0 rfl ?_
  refine g_iconst (pc' := 2) B dX4_take_1 rfl ?_
  refine g_putZ (pc' := 5) B 0 rfl (by omega) fp_X4_9 (ly_I hi) rfl dX4_take_2 rfl ?_
  refine g_aload_n (pc' := 6) B 0 rfl rfl dX4_take_5 rfl ?_
  refine g_getR (pc' := 9) B (i + 1) fl_X4_18 (ly_I hi) rfl dX4_take_6 rfl ?_
  refine g_aload_n (pc' := 10) B 1 rfl rfl dX4_take_9 rfl ?_
  refine g_callVV (pc' := 13) (As := [.ref (K.2.2 31)]) B (c_X5_become l K _ (u := i + 1) (o := 31) (by omega) (by omega) (by omega)) vt_X5_become tw_914 (ly_M (by omega)) rfl ⟨by decide, by decide⟩ rfl (Nat.le_of_ble_eq_true rfl) ⟨Nat.zero_le _, Nat.zero_le _⟩ rfl dX4_take_10 rfl (fun τ10 h10 => ?_)
  subst h10
  refine g_aload_n (pc' := 14) B 2 rfl rfl dX4_take_13 rfl ?_
  refine g_getR (pc' := 17) B (b + 13) fl_X4_34 (ly_S hb) rfl dX4_take_14 rfl ?_
  refine g_iconst (pc' := 18) B dX4_take_17 rfl ?_
  refine g_aload_n (pc' := 19) B 0 rfl rfl dX4_take_18 rfl ?_
  refine g_getR (pc' := 22) B (i + 2) fl_X4_22 (ly_I hi) rfl dX4_take_19 rfl ?_
  refine g_iconst (pc' := 23) B dX4_take_22 rfl ?_
  refine g_iconst (pc' := 24) B dX4_take_23 rfl ?_
  refine g_acopy (pc' := 27) B tw_915 (ly_Sa3 hb) (ly_Ia2 hi) (by decide) (by decide) (Nat.le_of_ble_eq_true rfl) dX4_take_24 rfl ?_
  refine g_aload_n (pc' := 28) B 0 rfl rfl dX4_take_27 rfl ?_
  refine g_iload_n (pc' := 29) B 3 rfl rfl dX4_take_28 rfl ?_
  refine g_put (pc' := 32) B 3 rfl fp_X4_26 (ly_I hi) rfl dX4_take_29 rfl ?_
  exact g_vret B hrt hlk dX4_take_32 ⟨by simp [up, cpR], by simp [up], by simp [up, cpR, a31], fun h a b9 => by simp [up, cpR, a, b9, ab1, ab2], fun k hk => by rw [up_row (by omega), cpR_row (by omega), up_row (by omega), up_row (by omega), up_row (by omega), up_row (by omega), up_row (by omega)]⟩
set_option maxRecDepth 100000 in
set_option maxHeartbeats 4000000 in
theorem c_X4_giveBack (l : Launch) (K : WK) (σ : SG) {i : Nat} (hi : i = 37 ∨ i = 40) {b : Nat} (hb : b = 3 ∨ b = 17) : MV l yX4_giveBack cX4_giveBack 3 none 1 21 K σ [.ref (K.2.2 i), .ref (K.2.2 31), .ref (K.2.2 b)] (fun τ => (τ 31 0 = σ (i + 1) 0 ∧ τ 31 1 = σ (i + 1) 1 ∧ τ 31 2 = σ (i + 1) 2 ∧ τ 31 3 = σ (i + 1) 3) ∧ (∀ h : Int, 0 ≤ h → h < 4 → τ (b + 13) h = σ (i + 2) h) ∧ ∀ k, k ≠ 31 → k ≠ b + 13 → τ k = σ k) := by
  refine met_of [(0, .ref (K.2.2 i)), (1, .ref (K.2.2 31)), (2, .ref (K.2.2 b))] (by decide +kernel) (Nat.le_of_ble_eq_true rfl) rfl ?_
  intro pP eE sS mM bW mT cC B hrt hlk
  replace B : CB pP sS mM [.ref (K.2.2 i), .ref (K.2.2 31), .ref (K.2.2 b)].toArray cC cX4_giveBack RX4 3 K := B
  have ab : ¬ (31 : Nat) = b + 13 := by omega
  have a31 : ¬ i + 2 = 31 := by omega
  refine g_aload_n (pc' := 1) B 1 rfl rfl dX4_giveBack_0 rfl ?_
  refine g_aload_n (pc' := 2) B 0 rfl rfl dX4_giveBack_1 rfl ?_
  refine g_getR (pc' := 5) B (i + 1) fl_X4_18 (ly_I hi) rfl dX4_giveBack_2 rfl ?_
  refine g_callVV (pc' := 8) (As := [.ref (K.2.2 (i + 1))]) B (c_X5_become l K _ (u := 31) (o := i + 1) (by omega) (by omega) (by omega)) vt_X5_become tw_914 rfl rfl ⟨by decide, by decide⟩ rfl (Nat.le_of_ble_eq_true rfl) ⟨Nat.zero_le _, Nat.zero_le _⟩ rfl dX4_giveBack_5 rfl (fun τ5 h5 => ?_)
  subst h5
  refine g_aload_n (pc' := 9) B 0 rfl rfl dX4_giveBack_8 rfl ?_
  refine g_getR (pc' := 12) B (i + 2) fl_X4_22 (ly_I hi) rfl dX4_giveBack_9 rfl ?_
  refine g_iconst (pc' := 13) B dX4_giveBack_12 rfl ?_
  refine g_aload_n (pc' := 14) B 2 rfl rfl dX4_giveBack_13 rfl ?_
  refine g_getR (pc' := 17) B (b + 13) fl_X4_34 (ly_S hb) rfl dX4_giveBack_14 rfl ?_
  refine g_iconst (pc' := 18) B dX4_giveBack_17 rfl ?_
  refine g_iconst (pc' := 19) B dX4_giveBack_18 rfl ?_
  refine g_acopy (pc' := 22) B tw_915 (ly_Ia2 hi) (ly_Sa3 hb) (by decide) (by decide) (Nat.le_of_ble_eq_true rfl) dX4_giveBack_19 rfl ?_
  exact g_vret B hrt hlk dX4_giveBack_22 ⟨by simp [up, cpR, ab], fun h a b9 => by simp [up, cpR, a, b9, a31], fun k h1 h2 => by rw [cpR_row h2, up_row h1, up_row h1, up_row h1, up_row h1]⟩
