-- SEEN: Y 0 k the field, Y 1 k the breath, Y 2 k the height, Y 3 0 how much
def yD (σ : SG) (Y : SG) : Prop := σ 50 3 = Y 3 0 ∧ (0 ≤ Y 3 0 ∧ Y 3 0 ≤ 12) ∧ ∀ k : Int, 0 ≤ k → k < Y 3 0 → σ 51 k = Y 0 k ∧ σ 52 k = Y 1 k ∧ σ 53 k = Y 2 k ∧ (0 ≤ Y 0 k ∧ Y 0 k ≤ 7) ∧ (0 ≤ Y 1 k ∧ Y 1 k ≤ 9999) ∧ (0 ≤ Y 2 k ∧ Y 2 k ≤ 999)
theorem yD.keep {σ τ : SG} {Y : SG} (h : yD σ Y) (e : ∀ k, 50 ≤ k → k ≤ 53 → τ k = σ k) : yD τ Y := by
  unfold yD at *
  rw [e 50 (by omega) (by omega), e 51 (by omega) (by omega), e 52 (by omega) (by omega), e 53 (by omega) (by omega)]
  exact h
def gor (D Y : SG) (f n l : Int) : Prop := ∀ k : Int, 0 ≤ k → k < Y 3 0 → Y 0 k = f → D 0 f + D 3 f * min ((Y 1 k + l) % n) (n - (Y 1 k + l) % n) = Y 2 k
theorem due_bd {D : SG} {f : Int} (x : Int) {n : Int} (h : okF D) (h0 : 0 ≤ f) (h1 : f < D 9 0) (hn : 2 ≤ n ∧ n ≤ 12) : 0 ≤ D 0 f + D 3 f * min (x % n) (n - x % n) ∧ D 0 f + D 3 f * min (x % n) (n - x % n) ≤ 153 := by
  obtain ⟨a, b, c, d⟩ := h.2 f h0 h1
  have e := swl_bd x n (by omega)
  generalize min (x % n) (n - x % n) = w at e ⊢
  have hw : w ≤ 6 := by omega
  have h2 : 0 ≤ D 3 f * w := Int.mul_nonneg (by omega) (by omega)
  have h3 : D 3 f * w ≤ 9 * 6 := Int.mul_le_mul (by omega) hw (by omega) (by omega)
  omega
noncomputable def clt (D Y : SG) (f n : Int) : Nat → Int
  | 0 => 0
  | l + 1 => clt D Y f n l + cif (gor D Y f n l) 1 0
noncomputable def cNt (D Y : SG) (f : Int) : Nat → Int
  | 0 => 0
  | n + 1 => cNt D Y f n + (if 2 ≤ n then clt D Y f n n else 0)
theorem cif_01 (p : Prop) : cif p 1 0 = 0 ∨ cif p 1 0 = 1 := by
  by_cases h : p
  · rw [cif_pos h]; omega
  · rw [cif_neg h]; omega
theorem clt_next {D Y : SG} {f n l : Int} (h : 0 ≤ l) : clt D Y f n (l + 1).toNat = clt D Y f n l.toNat + cif (gor D Y f n l) 1 0 := by
  rw [show (l + 1).toNat = l.toNat + 1 by omega]
  show clt D Y f n l.toNat + cif (gor D Y f n ((l.toNat : Nat) : Int)) 1 0 = _
  rw [show ((l.toNat : Nat) : Int) = l by omega]
theorem cNt_next {D Y : SG} {f n : Int} (h : 2 ≤ n) : cNt D Y f (n + 1).toNat = cNt D Y f n.toNat + clt D Y f n n.toNat := by
  rw [show (n + 1).toNat = n.toNat + 1 by omega]
  show cNt D Y f n.toNat + (if 2 ≤ n.toNat then clt D Y f ((n.toNat : Nat) : Int) n.toNat else 0) = _
  rw [if_pos (by omega), show ((n.toNat : Nat) : Int) = n by omega]
theorem clt_bd (D Y : SG) (f n : Int) : ∀ l : Nat, 0 ≤ clt D Y f n l ∧ clt D Y f n l ≤ l
  | 0 => by simp [clt]
  | l + 1 => by
    have h := clt_bd D Y f n l
    have h2 := cif_01 (gor D Y f n l)
    show 0 ≤ clt D Y f n l + cif (gor D Y f n l) 1 0 ∧ clt D Y f n l + cif (gor D Y f n l) 1 0 ≤ ((l + 1 : Nat) : Int)
    omega
theorem clt_mono (D Y : SG) (f n : Int) : ∀ {a b : Nat}, a ≤ b → clt D Y f n a ≤ clt D Y f n b := by
  intro a b h
  induction h with
  | refl => exact Int.le_refl _
  | step _ ih =>
    rename_i k _
    have h2 := cif_01 (gor D Y f n k)
    show clt D Y f n a ≤ clt D Y f n k + cif (gor D Y f n k) 1 0
    omega
theorem cNt_mono (D Y : SG) (f : Int) : ∀ {a b : Nat}, a ≤ b → cNt D Y f a ≤ cNt D Y f b := by
  intro a b h
  induction h with
  | refl => exact Int.le_refl _
  | step _ ih =>
    rename_i k _
    have h2 := clt_bd D Y f k k
    show cNt D Y f a ≤ cNt D Y f k + (if 2 ≤ k then clt D Y f k k else 0)
    split <;> omega
theorem cNt_bd (D Y : SG) (f : Int) : ∀ n : Nat, n ≤ 13 → 0 ≤ cNt D Y f n ∧ cNt D Y f n ≤ 13 * n
  | 0, _ => by simp [cNt]
  | n + 1, hn => by
    have h := cNt_bd D Y f n (by omega)
    have h2 := clt_bd D Y f n n
    show 0 ≤ cNt D Y f n + (if 2 ≤ n then clt D Y f n n else 0) ∧ cNt D Y f n + (if 2 ≤ n then clt D Y f n n else 0) ≤ 13 * ((n + 1 : Nat) : Int)
    split <;> omega
/-- ROUNDS: the i-th -/
def isT (D Y : SG) (f i z : Int) : Prop := (∃ n l : Int, (2 ≤ n ∧ n ≤ 12) ∧ (0 ≤ l ∧ l < n) ∧ gor D Y f n l ∧ cNt D Y f n.toNat + clt D Y f n l.toNat = i ∧ z = 100 * n + l) ∨ (z = -1 ∧ ∀ n l : Int, 2 ≤ n → n ≤ 12 → 0 ≤ l → l < n → gor D Y f n l → cNt D Y f n.toNat + clt D Y f n l.toNat ≠ i)
theorem isT_lt {D Y : SG} {f n l n' l' : Int} (hn : 2 ≤ n) (hl : 0 ≤ l ∧ l < n) (hl' : 0 ≤ l') (hg : gor D Y f n l) (h : n < n' ∨ (n = n' ∧ l < l')) : cNt D Y f n.toNat + clt D Y f n l.toNat < cNt D Y f n'.toNat + clt D Y f n' l'.toNat := by
  have e1 := clt_next (D := D) (Y := Y) (f := f) (n := n) hl.1
  rw [cif_pos hg] at e1
  rcases h with h | ⟨h, h2⟩
  · have e2 := clt_mono D Y f n (show (l + 1).toNat ≤ n.toNat by omega)
    have e3 := cNt_next (D := D) (Y := Y) (f := f) hn
    have e4 := cNt_mono D Y f (show (n + 1).toNat ≤ n'.toNat by omega)
    have e5 := clt_bd D Y f n' l'.toNat
    omega
  · subst h
    have e2 := clt_mono D Y f n (show (l + 1).toNat ≤ l'.toNat by omega)
    omega
theorem isT_uniq {D Y : SG} {f i z y : Int} (h : isT D Y f i z) (h2 : isT D Y f i y) : z = y := by
  rcases h with ⟨n, l, a1, a2, a3, a4, a5⟩ | ⟨a1, a2⟩ <;> rcases h2 with ⟨n', l', b1, b2, b3, b4, b5⟩ | ⟨b1, b2⟩
  · rcases Int.lt_trichotomy n n' with q | q | q
    · have := isT_lt a1.1 a2 b2.1 a3 (Or.inl q); omega
    · rcases Int.lt_trichotomy l l' with q2 | q2 | q2
      · have := isT_lt a1.1 a2 b2.1 a3 (Or.inr ⟨q, q2⟩); omega
      · omega
      · have := isT_lt b1.1 b2 a2.1 b3 (Or.inr ⟨q.symm, q2⟩); omega
    · have := isT_lt b1.1 b2 a2.1 b3 (Or.inl q); omega
  · exact absurd a4 (b2 n l a1.1 a1.2 a2.1 a2.2 a3)
  · exact absurd b4 (a2 n' l' b1.1 b1.2 b2.1 b2.2 b3)
  · omega
set_option maxRecDepth 100000 in
set_option maxHeartbeats 4000000 in
theorem c_X7_note (l : Launch) (K : WK) (σ : SG) {Y : SG} (hY : yD σ Y) {f x v : Int} (hf : 0 ≤ f ∧ f ≤ 7) (hx : 0 ≤ x ∧ x ≤ 9999) (hv : 0 ≤ v ∧ v ≤ 999) (hc : Y 3 0 < 12) : MI l yX7_note cX7_note 4 (some .int) 0 0 K σ [.ref (K.2.2 50), .int (iI f), .int (iI x), .int (iI v)] (fun z τ => yD τ (up (up (up (up Y 0 (Y 3 0) f) 1 (Y 3 0) x) 2 (Y 3 0) v) 3 0 (Y 3 0 + 1)) ∧ (∀ k, (k < 50 ∨ 53 < k) → τ k = σ k) ∧ z = Y 3 0 + 1) := by
  refine met_of [(0, .ref (K.2.2 50)), (1, .int (iI f)), (2, .int (iI x)), (3, .int (iI v))] (by decide +kernel) (Nat.le_of_ble_eq_true rfl) rfl ?_
  intro pP eE sS mM bW mT cC B hrt hlk
  replace B : CB pP sS mM [.ref (K.2.2 50), .int (iI f), .int (iI x), .int (iI v)].toArray cC cX7_note RX7 4 K := B
  obtain ⟨hY1, hY2, hY3⟩ := id hY
  refine g_aload_n (pc' := 1) B 0 rfl rfl dX7_note_0 rfl ?_
  refine g_get (pc' := 4) B (Y 3 0) hY.1 fl_X7_21 rfl rfl dX7_note_1 rfl ?_
  refine g_bipush (pc' := 6) B (by decide +kernel) dX7_note_4 rfl ?_
  refine g_icmp_ge (pc' := 9) B 49 (by omega) (by omega) dX7_note_6 (by decide) rfl (fun c6 => by exfalso; omega) (fun c6 => ?_)
  refine g_aload_n (pc' := 10) B 0 rfl rfl dX7_note_9 rfl ?_
  refine g_getR (pc' := 13) B 51 fl_X7_9 rfl rfl dX7_note_10 rfl ?_
  refine g_aload_n (pc' := 14) B 0 rfl rfl dX7_note_13 rfl ?_
  refine g_get (pc' := 17) B (Y 3 0) hY.1 fl_X7_21 rfl rfl dX7_note_14 rfl ?_
  refine g_iload_n (pc' := 18) B 1 rfl rfl dX7_note_17 rfl ?_
  refine g_iast (pc' := 19) B rfl (by omega) (by decide) dX7_note_18 rfl ?_
  refine g_aload_n (pc' := 20) B 0 rfl rfl dX7_note_19 rfl ?_
  refine g_getR (pc' := 23) B 52 fl_X7_15 rfl rfl dX7_note_20 rfl ?_
  refine g_aload_n (pc' := 24) B 0 rfl rfl dX7_note_23 rfl ?_
  refine g_get (pc' := 27) B (Y 3 0) (by have q9 := hY.1; simpa [up] using q9) fl_X7_21 rfl rfl dX7_note_24 rfl ?_
  refine g_iload_n (pc' := 28) B 2 rfl rfl dX7_note_27 rfl ?_
  refine g_iast (pc' := 29) B rfl (by omega) (by decide) dX7_note_28 rfl ?_
  refine g_aload_n (pc' := 30) B 0 rfl rfl dX7_note_29 rfl ?_
  refine g_getR (pc' := 33) B 53 fl_X7_18 rfl rfl dX7_note_30 rfl ?_
  refine g_aload_n (pc' := 34) B 0 rfl rfl dX7_note_33 rfl ?_
  refine g_get (pc' := 37) B (Y 3 0) (by have q9 := hY.1; simpa [up] using q9) fl_X7_21 rfl rfl dX7_note_34 rfl ?_
  refine g_iload_n (pc' := 38) B 3 rfl rfl dX7_note_37 rfl ?_
  refine g_iast (pc' := 39) B rfl (by omega) (by decide) dX7_note_38 rfl ?_
  refine g_aload_n (pc' := 40) B 0 rfl rfl dX7_note_39 rfl ?_
  refine g_dup (pc' := 41) B rfl dX7_note_40 rfl ?_
  refine g_get (pc' := 44) B (Y 3 0) (by have q9 := hY.1; simpa [up] using q9) fl_X7_21 rfl rfl dX7_note_41 rfl ?_
  refine g_iconst (pc' := 45) B dX7_note_44 rfl ?_
  refine g_iadd (pc' := 46) B dX7_note_45 rfl ?_
  refine g_put (pc' := 49) B 3 rfl fp_X7_21 rfl rfl dX7_note_46 rfl ?_
  refine g_aload_n (pc' := 50) B 0 rfl rfl dX7_note_49 rfl ?_
  refine g_get (pc' := 53) B ((Y 3 0) + 1) (by simp [up]) fl_X7_21 rfl rfl dX7_note_50 rfl ?_
  exact g_iret (z := (Y 3 0) + 1) B hrt rfl hlk dX7_note_53 ⟨⟨by simp [up], by simp [up]; omega, fun k a9 b9 => by
      have b8 : k < Y 3 0 + 1 := by simpa [up] using b9
      by_cases e9 : k = Y 3 0
      · subst e9; simp [up]; omega
      · have q9 := hY3 k a9 (by omega)
        simp [up, e9]; exact q9⟩, fun k hk => by rw [up_row (by omega), up_row (by omega), up_row (by omega), up_row (by omega)], rfl⟩
set_option maxRecDepth 100000 in
set_option maxHeartbeats 4000000 in
theorem c_X7_explains (l : Launch) (K : WK) (σ : SG) {g : Nat} (hg : g = 4 ∨ g = 18) {D : SG} (hD : gD σ g D) (hF : okF D) {Y : SG} (hY : yD σ Y) {f n l1 : Int} (hf : 0 ≤ f ∧ f < D 9 0) (hn : 2 ≤ n ∧ n ≤ 12) (hl : 0 ≤ l1 ∧ l1 < n) : MI l yX7_explains cX7_explains 7 (some .boolean) 2 44 K σ [.ref (K.2.2 50), .ref (K.2.2 g), .int (iI f), .int (iI n), .int (iI l1)] (fun z τ => σ = τ ∧ ((gor D Y f n l1 ∧ z = 1) ∨ (¬ (gor D Y f n l1) ∧ z = 0))) := by
  refine met_of [(0, .ref (K.2.2 50)), (1, .ref (K.2.2 g)), (2, .int (iI f)), (3, .int (iI n)), (4, .int (iI l1))] (by decide +kernel) (Nat.le_of_ble_eq_true rfl) rfl ?_
  intro pP eE sS mM bW mT cC B hrt hlk
  replace B : CB pP sS mM [.ref (K.2.2 50), .ref (K.2.2 g), .int (iI f), .int (iI n), .int (iI l1)].toArray cC cX7_explains RX7 7 K := B
  obtain ⟨hF0, hF1⟩ := id hF
  obtain ⟨hY1, hY2, hY3⟩ := id hY
  refine g_aload_n (pc' := 1) B 1 rfl rfl dX7_explains_0 rfl ?_
  refine g_iload_n (pc' := 2) B 2 rfl rfl dX7_explains_1 rfl ?_
  refine g_callVI (pc' := 5) (As := [.int (iI f)]) B (c_X2_has l K _ (g := g) (D := D) (f := f) hg hD hF (by omega)) vt_X2_has tw_828 (ly_G hg) rfl ⟨by decide, by decide⟩ rfl (Nat.le_of_ble_eq_true rfl) ⟨Nat.zero_le _, Nat.zero_le _⟩ rfl dX7_explains_2 rfl (fun z2 τ2 h2 => ?_)
  obtain ⟨rfl, h2⟩ := h2
  rcases h2 with ⟨h2, rfl⟩ | ⟨h2, rfl⟩
  · refine g_if_ne (pc' := 8) B 10 (by omega) dX7_explains_5 (by decide) rfl (fun _ => ?_) (fun q => absurd q (by decide))
    refine g_iconst (pc' := 11) B dX7_explains_10 rfl ?_
    refine g_istore (pc' := 13) B [(5, .int (iI 0)), (0, .ref (K.2.2 50)), (1, .ref (K.2.2 g)), (2, .int (iI f)), (3, .int (iI n)), (4, .int (iI l1))] dX7_explains_11 rfl (by decide) rfl ?_
    have L13 : ∀ (nn : Nat) (y0 : Int) , (Y 3 0 - y0).toNat = nn → (0 ≤ y0 ∧ y0 ≤ Y 3 0) → (∀ k : Int, 0 ≤ k → k < y0 → Y 0 k = f → D 0 f + D 3 f * min ((Y 1 k + l1) % n) (n - (Y 1 k + l1) % n) = Y 2 k) → G pP l eE (rmo 2 44) sS mM [.ref (K.2.2 50), .ref (K.2.2 g), .int (iI f), .int (iI n), .int (iI l1)].toArray bW mT cC 0 0 (MQ bW (Qi K (fun z τ => σ = τ ∧ ((gor D Y f n l1 ∧ z = 1) ∨ (¬ (gor D Y f n l1) ∧ z = 0)))) [.ref (K.2.2 50), .ref (K.2.2 g), .int (iI f), .int (iI n), .int (iI l1)].toArray sS 0 0 (wA K)) K sS.heap 7 σ 13 [(5, .int (iI y0)), (0, .ref (K.2.2 50)), (1, .ref (K.2.2 g)), (2, .int (iI f)), (3, .int (iI n)), (4, .int (iI l1))] [] := by
      intro nn
      induction nn using Nat.strongRecOn with
      | _ nn ih13 =>
        intro y0 hn13 i1 i2
        refine g_iload (pc' := 15) B 0 rfl dX7_explains_13 rfl ?_
        refine g_aload_n (pc' := 16) B 1 rfl rfl dX7_explains_15 rfl ?_
        refine g_get (pc' := 19) B (Y 3 0) hY.1 fl_X7_21 rfl rfl dX7_explains_16 rfl ?_
        refine g_icmp_ge (pc' := 22) B 83 (by omega) (by omega) dX7_explains_19 (by decide) rfl (fun c19 => ?_) (fun c19 => ?_)
        · refine g_iconst (pc' := 84) B dX7_explains_83 rfl ?_
          exact g_iret (z := 1) B hrt rfl hlk dX7_explains_84 ⟨rfl, Or.inl ⟨fun k a9 b9 => i2 k a9 (by omega), rfl⟩⟩
        · have hk9 := hY3 y0 (by omega) (by omega)
          have hd9 := due_bd (f := f) (Y 1 y0 + l1) hF hf.1 hf.2 hn
          refine g_aload_n (pc' := 23) B 2 rfl rfl dX7_explains_22 rfl ?_
          refine g_getR (pc' := 26) B (g + 1) fl_X7_35 (ly_G hg) rfl dX7_explains_23 rfl ?_
          refine g_iload_n (pc' := 27) B 3 rfl rfl dX7_explains_26 rfl ?_
          refine g_iald (pc' := 28) B (D 0 f) (hD.2.2 _ (by omega) (by omega)).1 (ly_Ga0 hg) (by omega) (by decide) dX7_explains_27 rfl ?_
          refine g_aload_n (pc' := 29) B 2 rfl rfl dX7_explains_28 rfl ?_
          refine g_getR (pc' := 32) B (g + 4) fl_X7_38 (ly_G hg) rfl dX7_explains_29 rfl ?_
          refine g_iload_n (pc' := 33) B 3 rfl rfl dX7_explains_32 rfl ?_
          refine g_iald (pc' := 34) B (D 3 f) (hD.2.2 _ (by omega) (by omega)).2.2.2 (ly_Ga3 hg) (by omega) (by decide) dX7_explains_33 rfl ?_
          refine g_aload_n (pc' := 35) B 1 rfl rfl dX7_explains_34 rfl ?_
          refine g_getR (pc' := 38) B 52 fl_X7_15 rfl rfl dX7_explains_35 rfl ?_
          refine g_iload (pc' := 40) B 0 rfl dX7_explains_38 rfl ?_
          refine g_iald (pc' := 41) B (Y 1 y0) (hY.2.2 _ (by omega) (by omega)).2.1 rfl (by omega) (by decide) dX7_explains_40 rfl ?_
          refine g_iload (pc' := 43) B 5 rfl dX7_explains_41 rfl ?_
          refine g_iadd (pc' := 44) B dX7_explains_43 rfl ?_
          refine g_iload_n (pc' := 45) B 4 rfl rfl dX7_explains_44 rfl ?_
          refine g_callNI (pc' := 48) (As := [.int (iI ((Y 1 y0) + l1)), .int (iI n)]) B (c_X11_swell l K _ (x := (Y 1 y0) + l1) (n := n) (by omega) (by omega)) st_X11_swell tw_829 ⟨by decide, by decide⟩ rfl (Nat.le_of_ble_eq_true rfl) ⟨Nat.zero_le _, Nat.zero_le _⟩ rfl dX7_explains_45 rfl (fun z45 τ45 h45 => ?_)
          obtain ⟨rfl, rfl⟩ := h45
          refine g_imul (pc' := 49) B dX7_explains_48 rfl ?_
          refine g_iadd (pc' := 50) B dX7_explains_49 rfl ?_
          refine g_istore (pc' := 52) B [(6, .int (iI ((D 0 f) + ((D 3 f) * (min (((Y 1 y0) + l1) % n) (n - ((Y 1 y0) + l1) % n)))))), (5, .int (iI y0)), (0, .ref (K.2.2 50)), (1, .ref (K.2.2 g)), (2, .int (iI f)), (3, .int (iI n)), (4, .int (iI l1))] dX7_explains_50 rfl (by decide) rfl ?_
          refine g_aload_n (pc' := 53) B 2 rfl rfl dX7_explains_52 rfl ?_
          refine g_getR (pc' := 56) B 51 fl_X7_9 rfl rfl dX7_explains_53 rfl ?_
          refine g_iload (pc' := 58) B 1 rfl dX7_explains_56 rfl ?_
          refine g_iald (pc' := 59) B (Y 0 y0) (hY.2.2 _ (by omega) (by omega)).1 rfl (by omega) (by decide) dX7_explains_58 rfl ?_
          refine g_iload_n (pc' := 60) B 4 rfl rfl dX7_explains_59 rfl ?_
          refine g_icmp_ne (pc' := 63) B 77 (by omega) (by omega) dX7_explains_60 (by decide) rfl (fun c60 => ?_) (fun c60 => ?_)
          · refine g_iinc (pc' := 80) B 1 [(5, .int (iI (y0 + 1))), (6, .int (iI ((D 0 f) + ((D 3 f) * (min (((Y 1 y0) + l1) % n) (n - ((Y 1 y0) + l1) % n)))))), (0, .ref (K.2.2 50)), (1, .ref (K.2.2 g)), (2, .int (iI f)), (3, .int (iI n)), (4, .int (iI l1))] dX7_explains_77 rfl rfl (by decide) rfl ?_
            refine g_goto (pc' := 13) B dX7_explains_80 (by decide) ?_
            refine g_loc B [(5, .int (iI (y0 + 1))), (0, .ref (K.2.2 50)), (1, .ref (K.2.2 g)), (2, .int (iI f)), (3, .int (iI n)), (4, .int (iI l1))] [0, 2, 3, 4, 5, 6] rfl ?_
            exact ih13 _ (by omega) (y0 + 1) rfl (by omega) (by intro k a9 b9 d9; by_cases e9 : k = y0; (subst e9; first | exact absurd d9 c60 | exact c72); exact i2 k a9 (by omega) d9)
          · refine g_iload (pc' := 65) B 0 rfl dX7_explains_63 rfl ?_
            refine g_aload_n (pc' := 66) B 2 rfl rfl dX7_explains_65 rfl ?_
            refine g_getR (pc' := 69) B 53 fl_X7_18 rfl rfl dX7_explains_66 rfl ?_
            refine g_iload (pc' := 71) B 1 rfl dX7_explains_69 rfl ?_
            refine g_iald (pc' := 72) B (Y 2 y0) (hY.2.2 _ (by omega) (by omega)).2.2.1 rfl (by omega) (by decide) dX7_explains_71 rfl ?_
            refine g_icmp_eq (pc' := 75) B 77 (by omega) (by omega) dX7_explains_72 (by decide) rfl (fun c72 => ?_) (fun c72 => ?_)
            · refine g_iinc (pc' := 80) B 1 [(5, .int (iI (y0 + 1))), (6, .int (iI ((D 0 f) + ((D 3 f) * (min (((Y 1 y0) + l1) % n) (n - ((Y 1 y0) + l1) % n)))))), (0, .ref (K.2.2 50)), (1, .ref (K.2.2 g)), (2, .int (iI f)), (3, .int (iI n)), (4, .int (iI l1))] dX7_explains_77 rfl rfl (by decide) rfl ?_
              refine g_goto (pc' := 13) B dX7_explains_80 (by decide) ?_
              refine g_loc B [(5, .int (iI (y0 + 1))), (0, .ref (K.2.2 50)), (1, .ref (K.2.2 g)), (2, .int (iI f)), (3, .int (iI n)), (4, .int (iI l1))] [0, 2, 3, 4, 5, 6] rfl ?_
              exact ih13 _ (by omega) (y0 + 1) rfl (by omega) (by intro k a9 b9 d9; by_cases e9 : k = y0; (subst e9; first | exact absurd d9 c60 | exact c72); exact i2 k a9 (by omega) d9)
            · refine g_iconst (pc' := 76) B dX7_explains_75 rfl ?_
              exact g_iret (z := 0) B hrt rfl hlk dX7_explains_76 ⟨rfl, Or.inr ⟨fun q9 => c72 (q9 y0 (by omega) (by omega) c60), rfl⟩⟩
    exact L13 _ 0 rfl (by omega) (by intro k a9 b9; omega)
  · exfalso; omega
set_option maxRecDepth 100000 in
set_option maxHeartbeats 4000000 in
theorem c_X7_countTurns (l : Launch) (K : WK) (σ : SG) {g : Nat} (hg : g = 4 ∨ g = 18) {D : SG} (hD : gD σ g D) (hF : okF D) {Y : SG} (hY : yD σ Y) {f : Int} (hf : 0 ≤ f ∧ f < D 9 0) : MI l yX7_countTurns cX7_countTurns 6 (some .int) 3 70 K σ [.ref (K.2.2 50), .ref (K.2.2 g), .int (iI f)] (fun z τ => σ = τ ∧ z = cNt D Y f 13) := by
  refine met_of [(0, .ref (K.2.2 50)), (1, .ref (K.2.2 g)), (2, .int (iI f))] (by decide +kernel) (Nat.le_of_ble_eq_true rfl) rfl ?_
  intro pP eE sS mM bW mT cC B hrt hlk
  replace B : CB pP sS mM [.ref (K.2.2 50), .ref (K.2.2 g), .int (iI f)].toArray cC cX7_countTurns RX7 6 K := B
  refine g_iconst (pc' := 1) B dX7_countTurns_0 rfl ?_
  refine g_istore_n (pc' := 2) B [(3, .int (iI 0)), (0, .ref (K.2.2 50)), (1, .ref (K.2.2 g)), (2, .int (iI f))] dX7_countTurns_1 rfl rfl (by decide) rfl ?_
  refine g_iconst (pc' := 3) B dX7_countTurns_2 rfl ?_
  refine g_istore (pc' := 5) B [(4, .int (iI 2)), (3, .int (iI 0)), (0, .ref (K.2.2 50)), (1, .ref (K.2.2 g)), (2, .int (iI f))] dX7_countTurns_3 rfl (by decide) rfl ?_
  have L5 : ∀ (nn : Nat) (c n : Int) , (13 - n).toNat = nn → (2 ≤ n ∧ n ≤ 13) → (c = cNt D Y f n.toNat) → G pP l eE (rmo 3 70) sS mM [.ref (K.2.2 50), .ref (K.2.2 g), .int (iI f)].toArray bW mT cC 0 0 (MQ bW (Qi K (fun z τ => σ = τ ∧ z = cNt D Y f 13)) [.ref (K.2.2 50), .ref (K.2.2 g), .int (iI f)].toArray sS 0 0 (wA K)) K sS.heap 6 σ 5 [(4, .int (iI n)), (3, .int (iI c)), (0, .ref (K.2.2 50)), (1, .ref (K.2.2 g)), (2, .int (iI f))] [] := by
    intro nn
    induction nn using Nat.strongRecOn with
    | _ nn ih5 =>
      intro c n hn5 i1 i2
      refine g_iload (pc' := 7) B 0 rfl dX7_countTurns_5 rfl ?_
      refine g_bipush (pc' := 9) B (by decide +kernel) dX7_countTurns_7 rfl ?_
      refine g_icmp_gt (pc' := 12) B 50 (by omega) (by omega) dX7_countTurns_9 (by decide) rfl (fun c9 => ?_) (fun c9 => ?_)
      · refine g_iload_n (pc' := 51) B 1 rfl rfl dX7_countTurns_50 rfl ?_
        exact g_iret (z := c) B hrt rfl hlk dX7_countTurns_51 ⟨rfl, by rw [i2, show n = 13 by omega]; rfl⟩
      · refine g_iconst (pc' := 13) B dX7_countTurns_12 rfl ?_
        refine g_istore (pc' := 15) B [(5, .int (iI 0)), (4, .int (iI n)), (3, .int (iI c)), (0, .ref (K.2.2 50)), (1, .ref (K.2.2 g)), (2, .int (iI f))] dX7_countTurns_13 rfl (by decide) rfl ?_
        have L15 : ∀ (nn : Nat) (d m : Int) , (n - m).toNat = nn → (0 ≤ m ∧ m ≤ n) → (d = cNt D Y f n.toNat + clt D Y f n m.toNat) → G pP l eE (rmo 3 70) sS mM [.ref (K.2.2 50), .ref (K.2.2 g), .int (iI f)].toArray bW mT cC 0 0 (MQ bW (Qi K (fun z τ => σ = τ ∧ z = cNt D Y f 13)) [.ref (K.2.2 50), .ref (K.2.2 g), .int (iI f)].toArray sS 0 0 (wA K)) K sS.heap 6 σ 15 [(5, .int (iI m)), (4, .int (iI n)), (3, .int (iI d)), (0, .ref (K.2.2 50)), (1, .ref (K.2.2 g)), (2, .int (iI f))] [] := by
          intro nn
          induction nn using Nat.strongRecOn with
          | _ nn ih15 =>
            intro d m hn15 j1 j2
            refine g_iload (pc' := 17) B 0 rfl dX7_countTurns_15 rfl ?_
            refine g_iload (pc' := 19) B 1 rfl dX7_countTurns_17 rfl ?_
            refine g_icmp_ge (pc' := 22) B 44 (by omega) (by omega) dX7_countTurns_19 (by decide) rfl (fun c19 => ?_) (fun c19 => ?_)
            · refine g_iinc (pc' := 47) B 1 [(4, .int (iI (n + 1))), (5, .int (iI m)), (3, .int (iI d)), (0, .ref (K.2.2 50)), (1, .ref (K.2.2 g)), (2, .int (iI f))] dX7_countTurns_44 rfl rfl (by decide) rfl ?_
              refine g_goto (pc' := 5) B dX7_countTurns_47 (by decide) ?_
              refine g_loc B [(4, .int (iI (n + 1))), (3, .int (iI d)), (0, .ref (K.2.2 50)), (1, .ref (K.2.2 g)), (2, .int (iI f))] [0, 2, 3, 4, 5] rfl ?_
              exact ih5 _ (by omega) d (n + 1) rfl (by omega) (by rw [cNt_next (by omega), j2, show m = n by omega])
            · refine g_aload_n (pc' := 23) B 3 rfl rfl dX7_countTurns_22 rfl ?_
              refine g_aload_n (pc' := 24) B 4 rfl rfl dX7_countTurns_23 rfl ?_
              refine g_iload_n (pc' := 25) B 5 rfl rfl dX7_countTurns_24 rfl ?_
              refine g_iload (pc' := 27) B 1 rfl dX7_countTurns_25 rfl ?_
              refine g_iload (pc' := 29) B 0 rfl dX7_countTurns_27 rfl ?_
              refine g_callVI (pc' := 32) (As := [.ref (K.2.2 g), .int (iI f), .int (iI n), .int (iI m)]) B (c_X7_explains l K _ (g := g) (D := D) (Y := Y) (f := f) (n := n) (l1 := m) hg hD hF hY (by omega) (by omega) (by omega)) vt_X7_explains tw_824 rfl rfl ⟨by decide, by decide⟩ rfl (Nat.le_of_ble_eq_true rfl) ⟨Nat.zero_le _, Nat.zero_le _⟩ rfl dX7_countTurns_29 rfl (fun z29 τ29 h29 => ?_)
              obtain ⟨rfl, h29⟩ := h29
              rcases h29 with ⟨h29, rfl⟩ | ⟨h29, rfl⟩
              · refine g_if_eq (pc' := 35) B 38 (by omega) dX7_countTurns_32 (by decide) rfl (fun q => absurd q (by decide)) (fun _ => ?_)
                refine g_iinc (pc' := 38) B 2 [(3, .int (iI (d + 1))), (5, .int (iI m)), (4, .int (iI n)), (0, .ref (K.2.2 50)), (1, .ref (K.2.2 g)), (2, .int (iI f))] dX7_countTurns_35 rfl rfl (by decide) rfl ?_
                refine g_iinc (pc' := 41) B 1 [(5, .int (iI (m + 1))), (3, .int (iI (d + 1))), (4, .int (iI n)), (0, .ref (K.2.2 50)), (1, .ref (K.2.2 g)), (2, .int (iI f))] dX7_countTurns_38 rfl rfl (by decide) rfl ?_
                refine g_goto (pc' := 15) B dX7_countTurns_41 (by decide) ?_
                refine g_loc B [(5, .int (iI (m + 1))), (4, .int (iI n)), (3, .int (iI (d + 1))), (0, .ref (K.2.2 50)), (1, .ref (K.2.2 g)), (2, .int (iI f))] [0, 2, 1, 3, 4, 5] rfl ?_
                exact ih15 _ (by omega) (d + 1) (m + 1) rfl (by omega) (by rw [clt_next (by omega), j2]; first | (rw [cif_pos h29]; omega) | (rw [cif_neg h29]; omega))
              · refine g_if_eq (pc' := 35) B 38 (by omega) dX7_countTurns_32 (by decide) rfl (fun _ => ?_) (fun q => absurd q (by decide))
                refine g_iinc (pc' := 41) B 0 [(5, .int (iI (m + 1))), (4, .int (iI n)), (3, .int (iI d)), (0, .ref (K.2.2 50)), (1, .ref (K.2.2 g)), (2, .int (iI f))] dX7_countTurns_38 rfl rfl (by decide) rfl ?_
                refine g_goto (pc' := 15) B dX7_countTurns_41 (by decide) ?_
                exact ih15 _ (by omega) d (m + 1) rfl (by omega) (by rw [clt_next (by omega), j2]; first | (rw [cif_pos h29]; omega) | (rw [cif_neg h29]; omega))
        exact L15 _ c 0 rfl (by omega) (by rw [i2]; show _ = _ + (0 : Int); omega)
  exact L5 _ 0 2 rfl (by omega) (by rfl)
set_option maxRecDepth 100000 in
set_option maxHeartbeats 4000000 in
theorem c_X7_findTurn (l : Launch) (K : WK) (σ : SG) {g : Nat} (hg : g = 4 ∨ g = 18) {D : SG} (hD : gD σ g D) (hF : okF D) {Y : SG} (hY : yD σ Y) {f i : Int} (hf : 0 ≤ f ∧ f < D 9 0) (hi : -2147483648 ≤ i ∧ i < 2147483648) : MI l yX7_findTurn cX7_findTurn 7 (some .int) 3 70 K σ [.ref (K.2.2 50), .ref (K.2.2 g), .int (iI f), .int (iI i)] (fun z τ => σ = τ ∧ isT D Y f i z) := by
  refine met_of [(0, .ref (K.2.2 50)), (1, .ref (K.2.2 g)), (2, .int (iI f)), (3, .int (iI i))] (by decide +kernel) (Nat.le_of_ble_eq_true rfl) rfl ?_
  intro pP eE sS mM bW mT cC B hrt hlk
  replace B : CB pP sS mM [.ref (K.2.2 50), .ref (K.2.2 g), .int (iI f), .int (iI i)].toArray cC cX7_findTurn RX7 7 K := B
  refine g_iconst (pc' := 1) B dX7_findTurn_0 rfl ?_
  refine g_istore (pc' := 3) B [(4, .int (iI 0)), (0, .ref (K.2.2 50)), (1, .ref (K.2.2 g)), (2, .int (iI f)), (3, .int (iI i))] dX7_findTurn_1 rfl (by decide) rfl ?_
  refine g_iconst (pc' := 4) B dX7_findTurn_3 rfl ?_
  refine g_istore (pc' := 6) B [(5, .int (iI 2)), (4, .int (iI 0)), (0, .ref (K.2.2 50)), (1, .ref (K.2.2 g)), (2, .int (iI f)), (3, .int (iI i))] dX7_findTurn_4 rfl (by decide) rfl ?_
  have L6 : ∀ (nn : Nat) (c n : Int) , (13 - n).toNat = nn → (2 ≤ n ∧ n ≤ 13) → (c = cNt D Y f n.toNat) → (∀ n9 l9 : Int, 2 ≤ n9 → n9 < n → 0 ≤ l9 → l9 < n9 → gor D Y f n9 l9 → cNt D Y f n9.toNat + clt D Y f n9 l9.toNat ≠ i) → G pP l eE (rmo 3 70) sS mM [.ref (K.2.2 50), .ref (K.2.2 g), .int (iI f), .int (iI i)].toArray bW mT cC 0 0 (MQ bW (Qi K (fun z τ => σ = τ ∧ isT D Y f i z)) [.ref (K.2.2 50), .ref (K.2.2 g), .int (iI f), .int (iI i)].toArray sS 0 0 (wA K)) K sS.heap 7 σ 6 [(5, .int (iI n)), (4, .int (iI c)), (0, .ref (K.2.2 50)), (1, .ref (K.2.2 g)), (2, .int (iI f)), (3, .int (iI i))] [] := by
    intro nn
    induction nn using Nat.strongRecOn with
    | _ nn ih6 =>
      intro c n hn6 i1 i2 i3
      refine g_iload (pc' := 8) B 0 rfl dX7_findTurn_6 rfl ?_
      refine g_bipush (pc' := 10) B (by decide +kernel) dX7_findTurn_8 rfl ?_
      refine g_icmp_gt (pc' := 13) B 66 (by omega) (by omega) dX7_findTurn_10 (by decide) rfl (fun c10 => ?_) (fun c10 => ?_)
      · refine g_iconst (pc' := 67) B dX7_findTurn_66 rfl ?_
        exact g_iret (z := (-1)) B hrt rfl hlk dX7_findTurn_67 ⟨rfl, Or.inr ⟨rfl, fun n9 l9 a b a2 b2 => i3 n9 l9 a (by omega) a2 b2⟩⟩
      · refine g_iconst (pc' := 14) B dX7_findTurn_13 rfl ?_
        refine g_istore (pc' := 16) B [(6, .int (iI 0)), (5, .int (iI n)), (4, .int (iI c)), (0, .ref (K.2.2 50)), (1, .ref (K.2.2 g)), (2, .int (iI f)), (3, .int (iI i))] dX7_findTurn_14 rfl (by decide) rfl ?_
        have L16 : ∀ (nn : Nat) (d m : Int) , (n - m).toNat = nn → (0 ≤ m ∧ m ≤ n) → (d = cNt D Y f n.toNat + clt D Y f n m.toNat) → (∀ l9 : Int, 0 ≤ l9 → l9 < m → gor D Y f n l9 → cNt D Y f n.toNat + clt D Y f n l9.toNat ≠ i) → G pP l eE (rmo 3 70) sS mM [.ref (K.2.2 50), .ref (K.2.2 g), .int (iI f), .int (iI i)].toArray bW mT cC 0 0 (MQ bW (Qi K (fun z τ => σ = τ ∧ isT D Y f i z)) [.ref (K.2.2 50), .ref (K.2.2 g), .int (iI f), .int (iI i)].toArray sS 0 0 (wA K)) K sS.heap 7 σ 16 [(6, .int (iI m)), (5, .int (iI n)), (4, .int (iI d)), (0, .ref (K.2.2 50)), (1, .ref (K.2.2 g)), (2, .int (iI f)), (3, .int (iI i))] [] := by
          intro nn
          induction nn using Nat.strongRecOn with
          | _ nn ih16 =>
            intro d m hn16 j1 j2 j3
            have hb1 := cNt_bd D Y f n.toNat (by omega)
            have hb2 := clt_bd D Y f n m.toNat
            refine g_iload (pc' := 18) B 0 rfl dX7_findTurn_16 rfl ?_
            refine g_iload (pc' := 20) B 1 rfl dX7_findTurn_18 rfl ?_
            refine g_icmp_ge (pc' := 23) B 60 (by omega) (by omega) dX7_findTurn_20 (by decide) rfl (fun c20 => ?_) (fun c20 => ?_)
            · refine g_iinc (pc' := 63) B 1 [(5, .int (iI (n + 1))), (6, .int (iI m)), (4, .int (iI d)), (0, .ref (K.2.2 50)), (1, .ref (K.2.2 g)), (2, .int (iI f)), (3, .int (iI i))] dX7_findTurn_60 rfl rfl (by decide) rfl ?_
              refine g_goto (pc' := 6) B dX7_findTurn_63 (by decide) ?_
              refine g_loc B [(5, .int (iI (n + 1))), (4, .int (iI d)), (0, .ref (K.2.2 50)), (1, .ref (K.2.2 g)), (2, .int (iI f)), (3, .int (iI i))] [0, 2, 3, 4, 5, 6] rfl ?_
              exact ih6 _ (by omega) d (n + 1) rfl (by omega) (by rw [cNt_next (by omega), j2, show m = n by omega]) (by intro n9 l9 a b a2 b2 g9; by_cases e9 : n9 = n; (subst e9; exact j3 l9 a2 (by omega) g9); exact i3 n9 l9 a (by omega) a2 b2 g9)
            · refine g_aload_n (pc' := 24) B 3 rfl rfl dX7_findTurn_23 rfl ?_
              refine g_aload_n (pc' := 25) B 4 rfl rfl dX7_findTurn_24 rfl ?_
              refine g_iload_n (pc' := 26) B 5 rfl rfl dX7_findTurn_25 rfl ?_
              refine g_iload (pc' := 28) B 1 rfl dX7_findTurn_26 rfl ?_
              refine g_iload (pc' := 30) B 0 rfl dX7_findTurn_28 rfl ?_
              refine g_callVI (pc' := 33) (As := [.ref (K.2.2 g), .int (iI f), .int (iI n), .int (iI m)]) B (c_X7_explains l K _ (g := g) (D := D) (Y := Y) (f := f) (n := n) (l1 := m) hg hD hF hY (by omega) (by omega) (by omega)) vt_X7_explains tw_824 rfl rfl ⟨by decide, by decide⟩ rfl (Nat.le_of_ble_eq_true rfl) ⟨Nat.zero_le _, Nat.zero_le _⟩ rfl dX7_findTurn_30 rfl (fun z30 τ30 h30 => ?_)
              obtain ⟨rfl, h30⟩ := h30
              rcases h30 with ⟨h30, rfl⟩ | ⟨h30, rfl⟩
              · refine g_if_eq (pc' := 36) B 54 (by omega) dX7_findTurn_33 (by decide) rfl (fun q => absurd q (by decide)) (fun _ => ?_)
                refine g_iload (pc' := 38) B 2 rfl dX7_findTurn_36 rfl ?_
                refine g_iload_n (pc' := 39) B 6 rfl rfl dX7_findTurn_38 rfl ?_
                refine g_icmp_ne (pc' := 42) B 51 (by omega) (by omega) dX7_findTurn_39 (by decide) rfl (fun c39 => ?_) (fun c39 => ?_)
                · refine g_iinc (pc' := 54) B 2 [(4, .int (iI (d + 1))), (6, .int (iI m)), (5, .int (iI n)), (0, .ref (K.2.2 50)), (1, .ref (K.2.2 g)), (2, .int (iI f)), (3, .int (iI i))] dX7_findTurn_51 rfl rfl (by decide) rfl ?_
                  refine g_iinc (pc' := 57) B 1 [(6, .int (iI (m + 1))), (4, .int (iI (d + 1))), (5, .int (iI n)), (0, .ref (K.2.2 50)), (1, .ref (K.2.2 g)), (2, .int (iI f)), (3, .int (iI i))] dX7_findTurn_54 rfl rfl (by decide) rfl ?_
                  refine g_goto (pc' := 16) B dX7_findTurn_57 (by decide) ?_
                  refine g_loc B [(6, .int (iI (m + 1))), (5, .int (iI n)), (4, .int (iI (d + 1))), (0, .ref (K.2.2 50)), (1, .ref (K.2.2 g)), (2, .int (iI f)), (3, .int (iI i))] [0, 2, 1, 3, 4, 5, 6] rfl ?_
                  exact ih16 _ (by omega) (d + 1) (m + 1) rfl (by omega) (by rw [clt_next (by omega), j2]; first | (rw [cif_pos h30]; omega) | (rw [cif_neg h30]; omega)) (by intro l9 a b g9; by_cases e9 : l9 = m; (subst e9; first | exact absurd g9 h30 | (rw [← j2]; exact c39)); exact j3 l9 a (by omega) g9)
                · refine g_bipush (pc' := 44) B (by decide +kernel) dX7_findTurn_42 rfl ?_
                  refine g_iload (pc' := 46) B 1 rfl dX7_findTurn_44 rfl ?_
                  refine g_imul (pc' := 47) B dX7_findTurn_46 rfl ?_
                  refine g_iload (pc' := 49) B 0 rfl dX7_findTurn_47 rfl ?_
                  refine g_iadd (pc' := 50) B dX7_findTurn_49 rfl ?_
                  exact g_iret (z := (100 * n) + m) B hrt rfl hlk dX7_findTurn_50 ⟨rfl, Or.inl ⟨n, m, by omega, by omega, h30, by rw [← j2]; exact c39, rfl⟩⟩
              · refine g_if_eq (pc' := 36) B 54 (by omega) dX7_findTurn_33 (by decide) rfl (fun _ => ?_) (fun q => absurd q (by decide))
                refine g_iinc (pc' := 57) B 0 [(6, .int (iI (m + 1))), (5, .int (iI n)), (4, .int (iI d)), (0, .ref (K.2.2 50)), (1, .ref (K.2.2 g)), (2, .int (iI f)), (3, .int (iI i))] dX7_findTurn_54 rfl rfl (by decide) rfl ?_
                refine g_goto (pc' := 16) B dX7_findTurn_57 (by decide) ?_
                exact ih16 _ (by omega) d (m + 1) rfl (by omega) (by rw [clt_next (by omega), j2]; first | (rw [cif_pos h30]; omega) | (rw [cif_neg h30]; omega)) (by intro l9 a b g9; by_cases e9 : l9 = m; (subst e9; first | exact absurd g9 h30 | (rw [← j2]; exact c39)); exact j3 l9 a (by omega) g9)
        exact L16 _ c 0 rfl (by omega) (by rw [i2]; show _ = _ + (0 : Int); omega) (by intro l9 a b; omega)
  exact L6 _ 0 2 rfl (by omega) (by rfl) (by intro n9 l9 a b; omega)
