-- HEARD: E 0 k the field, E 1 k the steps ago, E 2 0 how much
def eD (σ : SG) (E : SG) : Prop := σ 45 2 = E 2 0 ∧ (0 ≤ E 2 0 ∧ E 2 0 ≤ 12) ∧ ∀ k : Int, 0 ≤ k → k < E 2 0 → σ 46 k = E 0 k ∧ σ 47 k = E 1 k ∧ (0 ≤ E 0 k ∧ E 0 k ≤ 7) ∧ (0 ≤ E 1 k ∧ E 1 k ≤ 30)
theorem eD.keep {σ τ : SG} {E : SG} (h : eD σ E) (e : ∀ k, 45 ≤ k → k ≤ 47 → τ k = σ k) : eD τ E := by
  unfold eD at *
  rw [e 45 (by omega) (by omega), e 46 (by omega) (by omega), e 47 (by omega) (by omega)]
  exact h
/-- an origin explains all that was heard -/
def xpl (E : SG) (f a : Int) : Prop := ∀ k : Int, 0 ≤ k → k < E 2 0 → a - ((f - E 0 k).natAbs : Int) = E 1 k
noncomputable def qb (E : SG) (m : Int) : Int := cif (xpl E (m / 31) (m % 31)) 1 0
theorem qb_01 (E : SG) (m : Int) : qb E m = 0 ∨ qb E m = 1 := by
  unfold qb
  by_cases h : xpl E (m / 31) (m % 31)
  · rw [cif_pos h]; omega
  · rw [cif_neg h]; omega
noncomputable def cn (E : SG) : Nat → Int
  | 0 => 0
  | m + 1 => cn E m + qb E m
theorem cn_next {E : SG} {m : Int} (h : 0 ≤ m) : cn E (m + 1).toNat = cn E m.toNat + qb E m := by
  rw [show (m + 1).toNat = m.toNat + 1 by omega]
  show cn E m.toNat + qb E ((m.toNat : Nat) : Int) = _
  rw [show ((m.toNat : Nat) : Int) = m by omega]
theorem cn_bd (E : SG) : ∀ m : Nat, 0 ≤ cn E m ∧ cn E m ≤ m
  | 0 => by simp [cn]
  | m + 1 => by
    have h := cn_bd E m
    have h2 := qb_01 E m
    show 0 ≤ cn E m + qb E m ∧ cn E m + qb E m ≤ ((m + 1 : Nat) : Int)
    omega
theorem cn_mono (E : SG) : ∀ {m n : Nat}, m ≤ n → cn E m ≤ cn E n := by
  intro m n h
  induction h with
  | refl => exact Int.le_refl _
  | step _ ih =>
    rename_i k _
    have h2 := qb_01 E k
    show cn E m ≤ cn E k + qb E k
    omega
theorem cn_surj (E : SG) {i : Int} (h0 : 0 ≤ i) : ∀ {M : Nat}, i < cn E M → ∃ m : Nat, m < M ∧ qb E m = 1 ∧ cn E m = i := by
  intro M
  induction M with
  | zero => intro h; simp [cn] at h; omega
  | succ M ih =>
    intro h
    by_cases q : i < cn E M
    · obtain ⟨m, a, b, c⟩ := ih q
      exact ⟨m, by omega, b, c⟩
    · have h2 := qb_01 E M
      have h3 : cn E (M + 1) = cn E M + qb E M := rfl
      exact ⟨M, by omega, by omega, by omega⟩
/-- BEGAN -/
def isB (E : SG) (M : Nat) (i z : Int) : Prop := (i = -1 ∧ z = cn E M) ∨ (i ≠ -1 ∧ ((∃ m : Nat, m < M ∧ qb E m = 1 ∧ cn E m = i ∧ z = 100 * ((m : Int) / 31) + (m : Int) % 31) ∨ (z = -1 ∧ ∀ m : Nat, m < M → qb E m = 1 → cn E m ≠ i)))
theorem cn_inj {E : SG} {m n : Nat} (h1 : qb E m = 1) (h2 : qb E n = 1) (h : cn E m = cn E n) : m = n := by
  rcases Nat.lt_trichotomy m n with q | q | q
  · have e := cn_mono E (show m + 1 ≤ n by omega)
    have e2 : cn E (m + 1) = cn E m + qb E m := rfl
    omega
  · exact q
  · have e := cn_mono E (show n + 1 ≤ m by omega)
    have e2 : cn E (n + 1) = cn E n + qb E n := rfl
    omega
theorem isB_uniq {E : SG} {M : Nat} {i z y : Int} (h : isB E M i z) (h2 : isB E M i y) : z = y := by
  rcases h with ⟨a, b⟩ | ⟨a, b⟩ <;> rcases h2 with ⟨a', b'⟩ | ⟨a', b'⟩
  · omega
  · exact absurd a a'
  · exact absurd a' a
  · rcases b with ⟨m, m1, m2, m3, m4⟩ | ⟨m1, m2⟩ <;> rcases b' with ⟨n, n1, n2, n3, n4⟩ | ⟨n1, n2⟩
    · have := cn_inj m2 n2 (by omega)
      subst this; omega
    · exact absurd m3 (n2 m m1 m2)
    · exact absurd n3 (m2 n n1 n2)
    · omega
set_option maxRecDepth 100000 in
set_option maxHeartbeats 4000000 in
theorem c_X1_note (l : Launch) (K : WK) (σ : SG) {E : SG} (hE : eD σ E) {f a : Int} (hf : 0 ≤ f ∧ f ≤ 7) (ha : 0 ≤ a ∧ a ≤ 30) (hc : E 2 0 < 12) : MI l yX1_note cX1_note 3 (some .int) 0 0 K σ [.ref (K.2.2 45), .int (iI f), .int (iI a)] (fun z τ => eD τ (up (up (up E 0 (E 2 0) f) 1 (E 2 0) a) 2 0 (E 2 0 + 1)) ∧ (∀ k, (k < 45 ∨ 47 < k) → τ k = σ k) ∧ z = E 2 0 + 1) := by
  refine met_of [(0, .ref (K.2.2 45)), (1, .int (iI f)), (2, .int (iI a))] (by decide +kernel) (Nat.le_of_ble_eq_true rfl) rfl ?_
  intro pP eE sS mM bW mT cC B hrt hlk
  replace B : CB pP sS mM [.ref (K.2.2 45), .int (iI f), .int (iI a)].toArray cC cX1_note RX1 3 K := B
  obtain ⟨hE1, hE2, hE3⟩ := id hE
  refine g_aload_n (pc' := 1) B 0 rfl rfl dX1_note_0 rfl ?_
  refine g_get (pc' := 4) B (E 2 0) hE.1 fl_X1_18 rfl rfl dX1_note_1 rfl ?_
  refine g_bipush (pc' := 6) B (by decide +kernel) dX1_note_4 rfl ?_
  refine g_icmp_ge (pc' := 9) B 39 (by omega) (by omega) dX1_note_6 (by decide) rfl (fun c6 => by exfalso; omega) (fun c6 => ?_)
  refine g_aload_n (pc' := 10) B 0 rfl rfl dX1_note_9 rfl ?_
  refine g_getR (pc' := 13) B 46 fl_X1_9 rfl rfl dX1_note_10 rfl ?_
  refine g_aload_n (pc' := 14) B 0 rfl rfl dX1_note_13 rfl ?_
  refine g_get (pc' := 17) B (E 2 0) hE.1 fl_X1_18 rfl rfl dX1_note_14 rfl ?_
  refine g_iload_n (pc' := 18) B 1 rfl rfl dX1_note_17 rfl ?_
  refine g_iast (pc' := 19) B rfl (by omega) (by decide) dX1_note_18 rfl ?_
  refine g_aload_n (pc' := 20) B 0 rfl rfl dX1_note_19 rfl ?_
  refine g_getR (pc' := 23) B 47 fl_X1_15 rfl rfl dX1_note_20 rfl ?_
  refine g_aload_n (pc' := 24) B 0 rfl rfl dX1_note_23 rfl ?_
  refine g_get (pc' := 27) B (E 2 0) (by have q9 := hE.1; simpa [up] using q9) fl_X1_18 rfl rfl dX1_note_24 rfl ?_
  refine g_iload_n (pc' := 28) B 2 rfl rfl dX1_note_27 rfl ?_
  refine g_iast (pc' := 29) B rfl (by omega) (by decide) dX1_note_28 rfl ?_
  refine g_aload_n (pc' := 30) B 0 rfl rfl dX1_note_29 rfl ?_
  refine g_dup (pc' := 31) B rfl dX1_note_30 rfl ?_
  refine g_get (pc' := 34) B (E 2 0) (by have q9 := hE.1; simpa [up] using q9) fl_X1_18 rfl rfl dX1_note_31 rfl ?_
  refine g_iconst (pc' := 35) B dX1_note_34 rfl ?_
  refine g_iadd (pc' := 36) B dX1_note_35 rfl ?_
  refine g_put (pc' := 39) B 2 rfl fp_X1_18 rfl rfl dX1_note_36 rfl ?_
  refine g_aload_n (pc' := 40) B 0 rfl rfl dX1_note_39 rfl ?_
  refine g_get (pc' := 43) B ((E 2 0) + 1) (by simp [up]) fl_X1_18 rfl rfl dX1_note_40 rfl ?_
  exact g_iret (z := (E 2 0) + 1) B hrt rfl hlk dX1_note_43 ⟨⟨by simp [up], by simp [up]; omega, fun k a9 b9 => by
      have b8 : k < E 2 0 + 1 := by simpa [up] using b9
      by_cases e9 : k = E 2 0
      · subst e9; simp [up]; omega
      · have q9 := hE3 k a9 (by omega)
        simp [up, e9]; exact q9⟩, fun k hk => by rw [up_row (by omega), up_row (by omega), up_row (by omega)], rfl⟩
set_option maxRecDepth 100000 in
set_option maxHeartbeats 4000000 in
theorem c_X1_explains (l : Launch) (K : WK) (σ : SG) {E : SG} (hE : eD σ E) {f a : Int} (hf : 0 ≤ f ∧ f ≤ 7) (ha : 0 ≤ a ∧ a ≤ 30) : MI l yX1_explains cX1_explains 4 (some .boolean) 1 14 K σ [.ref (K.2.2 45), .int (iI f), .int (iI a)] (fun z τ => σ = τ ∧ ((xpl E f a ∧ z = 1) ∨ (¬ (xpl E f a) ∧ z = 0))) := by
  refine met_of [(0, .ref (K.2.2 45)), (1, .int (iI f)), (2, .int (iI a))] (by decide +kernel) (Nat.le_of_ble_eq_true rfl) rfl ?_
  intro pP eE sS mM bW mT cC B hrt hlk
  replace B : CB pP sS mM [.ref (K.2.2 45), .int (iI f), .int (iI a)].toArray cC cX1_explains RX1 4 K := B
  obtain ⟨hE1, hE2, hE3⟩ := id hE
  refine g_iconst (pc' := 1) B dX1_explains_0 rfl ?_
  refine g_istore_n (pc' := 2) B [(3, .int (iI 0)), (0, .ref (K.2.2 45)), (1, .int (iI f)), (2, .int (iI a))] dX1_explains_1 rfl rfl (by decide) rfl ?_
  have L2 : ∀ (nn : Nat) (n0 : Int) , (E 2 0 - n0).toNat = nn → (0 ≤ n0 ∧ n0 ≤ E 2 0) → (∀ k : Int, 0 ≤ k → k < n0 → a - ((f - E 0 k).natAbs : Int) = E 1 k) → G pP l eE (rmo 1 14) sS mM [.ref (K.2.2 45), .int (iI f), .int (iI a)].toArray bW mT cC 0 0 (MQ bW (Qi K (fun z τ => σ = τ ∧ ((xpl E f a ∧ z = 1) ∨ (¬ (xpl E f a) ∧ z = 0)))) [.ref (K.2.2 45), .int (iI f), .int (iI a)].toArray sS 0 0 (wA K)) K sS.heap 4 σ 2 [(3, .int (iI n0)), (0, .ref (K.2.2 45)), (1, .int (iI f)), (2, .int (iI a))] [] := by
    intro nn
    induction nn using Nat.strongRecOn with
    | _ nn ih2 =>
      intro n0 hn2 i1 i2
      refine g_iload_n (pc' := 3) B 0 rfl rfl dX1_explains_2 rfl ?_
      refine g_aload_n (pc' := 4) B 1 rfl rfl dX1_explains_3 rfl ?_
      refine g_get (pc' := 7) B (E 2 0) hE.1 fl_X1_18 rfl rfl dX1_explains_4 rfl ?_
      refine g_icmp_ge (pc' := 10) B 40 (by omega) (by omega) dX1_explains_7 (by decide) rfl (fun c7 => ?_) (fun c7 => ?_)
      · refine g_iconst (pc' := 41) B dX1_explains_40 rfl ?_
        exact g_iret (z := 1) B hrt rfl hlk dX1_explains_41 ⟨rfl, Or.inl ⟨fun k a9 b9 => i2 k a9 (by omega), rfl⟩⟩
      · have hk9 := hE3 n0 (by omega) (by omega)
        refine g_iload_n (pc' := 11) B 3 rfl rfl dX1_explains_10 rfl ?_
        refine g_iload_n (pc' := 12) B 2 rfl rfl dX1_explains_11 rfl ?_
        refine g_aload_n (pc' := 13) B 1 rfl rfl dX1_explains_12 rfl ?_
        refine g_getR (pc' := 16) B 46 fl_X1_9 rfl rfl dX1_explains_13 rfl ?_
        refine g_iload_n (pc' := 17) B 0 rfl rfl dX1_explains_16 rfl ?_
        refine g_iald (pc' := 18) B (E 0 n0) (hE.2.2 _ (by omega) (by omega)).1 rfl (by omega) (by decide) dX1_explains_17 rfl ?_
        refine g_isub (pc' := 19) B dX1_explains_18 rfl ?_
        refine g_mabs (pc' := 22) B (by omega) tw_794 (by decide) (Nat.le_of_ble_eq_true rfl) (Nat.zero_le _) (Nat.zero_le _) dX1_explains_19 rfl ?_
        refine g_isub (pc' := 23) B dX1_explains_22 rfl ?_
        refine g_aload_n (pc' := 24) B 1 rfl rfl dX1_explains_23 rfl ?_
        refine g_getR (pc' := 27) B 47 fl_X1_15 rfl rfl dX1_explains_24 rfl ?_
        refine g_iload_n (pc' := 28) B 0 rfl rfl dX1_explains_27 rfl ?_
        refine g_iald (pc' := 29) B (E 1 n0) (hE.2.2 _ (by omega) (by omega)).2.1 rfl (by omega) (by decide) dX1_explains_28 rfl ?_
        refine g_icmp_eq (pc' := 32) B 34 (by omega) (by omega) dX1_explains_29 (by decide) rfl (fun c29 => ?_) (fun c29 => ?_)
        · refine g_iinc (pc' := 37) B 0 [(3, .int (iI (n0 + 1))), (0, .ref (K.2.2 45)), (1, .int (iI f)), (2, .int (iI a))] dX1_explains_34 rfl rfl (by decide) rfl ?_
          refine g_goto (pc' := 2) B dX1_explains_37 (by decide) ?_
          exact ih2 _ (by omega) (n0 + 1) rfl (by omega) (by intro k a9 b9; by_cases e9 : k = n0; (subst e9; exact c29); exact i2 k a9 (by omega))
        · refine g_iconst (pc' := 33) B dX1_explains_32 rfl ?_
          exact g_iret (z := 0) B hrt rfl hlk dX1_explains_33 ⟨rfl, Or.inr ⟨fun q9 => c29 (q9 n0 (by omega) (by omega)), rfl⟩⟩
  exact L2 _ 0 rfl (by omega) (by intro k a9 b9; omega)
set_option maxRecDepth 100000 in
set_option maxHeartbeats 4000000 in
theorem c_X1_gather (l : Launch) (K : WK) (σ : SG) {E : SG} (hE : eD σ E) {n : Int} (hn : 0 ≤ n ∧ n ≤ 8) : MI l yX1_gather cX1_gather 5 (some .int) 2 37 K σ [.ref (K.2.2 45), .int (iI n)] (fun z τ => (∀ k, k ≠ 48 → τ k = σ k) ∧ z = cn E (31 * n).toNat ∧ ∀ m : Nat, (m : Int) < 31 * n → qb E m = 1 → τ 48 (cn E m) = 100 * ((m : Int) / 31) + (m : Int) % 31) := by
  refine met_of [(0, .ref (K.2.2 45)), (1, .int (iI n))] (by decide +kernel) (Nat.le_of_ble_eq_true rfl) rfl ?_
  intro pP eE sS mM bW mT cC B hrt hlk
  replace B : CB pP sS mM [.ref (K.2.2 45), .int (iI n)].toArray cC cX1_gather RX1 5 K := B
  refine g_iconst (pc' := 1) B dX1_gather_0 rfl ?_
  refine g_istore_n (pc' := 2) B [(2, .int (iI 0)), (0, .ref (K.2.2 45)), (1, .int (iI n))] dX1_gather_1 rfl rfl (by decide) rfl ?_
  refine g_iconst (pc' := 3) B dX1_gather_2 rfl ?_
  refine g_istore_n (pc' := 4) B [(3, .int (iI 0)), (2, .int (iI 0)), (0, .ref (K.2.2 45)), (1, .int (iI n))] dX1_gather_3 rfl rfl (by decide) rfl ?_
  have L4 : ∀ (nn : Nat) (ρ : SG) (c f : Int) , (n - f).toNat = nn → (0 ≤ f ∧ f ≤ n) → (∀ k, k ≠ 48 → ρ k = σ k) → (c = cn E (31 * f).toNat) → (∀ m : Nat, (m : Int) < 31 * f → qb E m = 1 → ρ 48 (cn E m) = 100 * ((m : Int) / 31) + (m : Int) % 31) → G pP l eE (rmo 2 37) sS mM [.ref (K.2.2 45), .int (iI n)].toArray bW mT cC 0 0 (MQ bW (Qi K (fun z τ => (∀ k, k ≠ 48 → τ k = σ k) ∧ z = cn E (31 * n).toNat ∧ ∀ m : Nat, (m : Int) < 31 * n → qb E m = 1 → τ 48 (cn E m) = 100 * ((m : Int) / 31) + (m : Int) % 31)) [.ref (K.2.2 45), .int (iI n)].toArray sS 0 0 (wA K)) K sS.heap 5 ρ 4 [(3, .int (iI f)), (2, .int (iI c)), (0, .ref (K.2.2 45)), (1, .int (iI n))] [] := by
    intro nn
    induction nn using Nat.strongRecOn with
    | _ nn ih4 =>
      intro ρ c f hn4 i1 i2 i3 i4
      refine g_iload_n (pc' := 5) B 0 rfl rfl dX1_gather_4 rfl ?_
      refine g_iload_n (pc' := 6) B 3 rfl rfl dX1_gather_5 rfl ?_
      refine g_icmp_ge (pc' := 9) B 66 (by omega) (by omega) dX1_gather_6 (by decide) rfl (fun c6 => ?_) (fun c6 => ?_)
      · refine g_iload_n (pc' := 67) B 1 rfl rfl dX1_gather_66 rfl ?_
        exact g_iret (z := c) B hrt rfl hlk dX1_gather_67 ⟨i2, by rw [i3, show f = n by omega], fun m a9 b9 => i4 m (by omega) b9⟩
      · refine g_iconst (pc' := 10) B dX1_gather_9 rfl ?_
        refine g_istore (pc' := 12) B [(4, .int (iI 0)), (3, .int (iI f)), (2, .int (iI c)), (0, .ref (K.2.2 45)), (1, .int (iI n))] dX1_gather_10 rfl (by decide) rfl ?_
        have L12 : ∀ (nn : Nat) (ω : SG) (d a : Int) , (31 - a).toNat = nn → (0 ≤ a ∧ a ≤ 31) → (∀ k, k ≠ 48 → ω k = σ k) → (d = cn E (31 * f + a).toNat) → (∀ m : Nat, (m : Int) < 31 * f + a → qb E m = 1 → ω 48 (cn E m) = 100 * ((m : Int) / 31) + (m : Int) % 31) → G pP l eE (rmo 2 37) sS mM [.ref (K.2.2 45), .int (iI n)].toArray bW mT cC 0 0 (MQ bW (Qi K (fun z τ => (∀ k, k ≠ 48 → τ k = σ k) ∧ z = cn E (31 * n).toNat ∧ ∀ m : Nat, (m : Int) < 31 * n → qb E m = 1 → τ 48 (cn E m) = 100 * ((m : Int) / 31) + (m : Int) % 31)) [.ref (K.2.2 45), .int (iI n)].toArray sS 0 0 (wA K)) K sS.heap 5 ω 12 [(4, .int (iI a)), (3, .int (iI f)), (2, .int (iI d)), (0, .ref (K.2.2 45)), (1, .int (iI n))] [] := by
          intro nn
          induction nn using Nat.strongRecOn with
          | _ nn ih12 =>
            intro ω d a hn12 j1 j2 j3 j4
            have hdb := cn_bd E (31 * f + a).toNat
            rw [← j3] at hdb
            refine g_iload (pc' := 14) B 0 rfl dX1_gather_12 rfl ?_
            refine g_bipush (pc' := 16) B (by decide +kernel) dX1_gather_14 rfl ?_
            refine g_icmp_gt (pc' := 19) B 60 (by omega) (by omega) dX1_gather_16 (by decide) rfl (fun c16 => ?_) (fun c16 => ?_)
            · refine g_iinc (pc' := 63) B 1 [(3, .int (iI (f + 1))), (4, .int (iI a)), (2, .int (iI d)), (0, .ref (K.2.2 45)), (1, .int (iI n))] dX1_gather_60 rfl rfl (by decide) rfl ?_
              refine g_goto (pc' := 4) B dX1_gather_63 (by decide) ?_
              refine g_loc B [(3, .int (iI (f + 1))), (2, .int (iI d)), (0, .ref (K.2.2 45)), (1, .int (iI n))] [0, 2, 3, 4] rfl ?_
              exact ih4 _ (by omega) ω d (f + 1) rfl (by omega) (by exact j2) (by rw [j3, show 31 * f + a = 31 * (f + 1) by omega]) (by intro m a9 b9; exact j4 m (by omega) b9)
            · refine g_aload_n (pc' := 20) B 3 rfl rfl dX1_gather_19 rfl ?_
              refine g_iload_n (pc' := 21) B 1 rfl rfl dX1_gather_20 rfl ?_
              refine g_iload (pc' := 23) B 0 rfl dX1_gather_21 rfl ?_
              refine g_callVI (pc' := 26) (As := [.int (iI f), .int (iI a)]) B (c_X1_explains l K _ (f := f) (a := a) (hE.keep (fun k a9 b9 => j2 k (by omega))) (by omega) (by omega)) vt_X1_explains tw_790 rfl rfl ⟨by decide, by decide⟩ rfl (Nat.le_of_ble_eq_true rfl) ⟨Nat.zero_le _, Nat.zero_le _⟩ rfl dX1_gather_23 rfl (fun z23 τ23 h23 => ?_)
              obtain ⟨rfl, h23⟩ := h23
              rcases h23 with ⟨h23, rfl⟩ | ⟨h23, rfl⟩
              · have hqb : qb E (31 * f + a) = 1 := by unfold qb; rw [show (31 * f + a) / 31 = f by omega, show (31 * f + a) % 31 = a by omega]; exact cif_pos h23
                refine g_if_eq (pc' := 29) B 54 (by omega) dX1_gather_26 (by decide) rfl (fun q => absurd q (by decide)) (fun _ => ?_)
                refine g_iload_n (pc' := 30) B 2 rfl rfl dX1_gather_29 rfl ?_
                refine g_aload_n (pc' := 31) B 3 rfl rfl dX1_gather_30 rfl ?_
                refine g_getR (pc' := 34) B 48 fl_X1_22 rfl rfl dX1_gather_31 rfl ?_
                refine g_alen (pc' := 35) B rfl dX1_gather_34 rfl ?_
                refine g_icmp_ge (pc' := 38) B 54 (by omega) (by omega) dX1_gather_35 (by decide) rfl (fun c35 => by exfalso; omega) (fun c35 => ?_)
                refine g_aload_n (pc' := 39) B 3 rfl rfl dX1_gather_38 rfl ?_
                refine g_getR (pc' := 42) B 48 fl_X1_22 rfl rfl dX1_gather_39 rfl ?_
                refine g_iload_n (pc' := 43) B 2 rfl rfl dX1_gather_42 rfl ?_
                refine g_bipush (pc' := 45) B (by decide +kernel) dX1_gather_43 rfl ?_
                refine g_iload_n (pc' := 46) B 1 rfl rfl dX1_gather_45 rfl ?_
                refine g_imul (pc' := 47) B dX1_gather_46 rfl ?_
                refine g_iload (pc' := 49) B 0 rfl dX1_gather_47 rfl ?_
                refine g_iadd (pc' := 50) B dX1_gather_49 rfl ?_
                refine g_iast (pc' := 51) B rfl (by omega) (by decide) dX1_gather_50 rfl ?_
                refine g_iinc (pc' := 54) B 2 [(2, .int (iI (d + 1))), (4, .int (iI a)), (3, .int (iI f)), (0, .ref (K.2.2 45)), (1, .int (iI n))] dX1_gather_51 rfl rfl (by decide) rfl ?_
                refine g_iinc (pc' := 57) B 1 [(4, .int (iI (a + 1))), (2, .int (iI (d + 1))), (3, .int (iI f)), (0, .ref (K.2.2 45)), (1, .int (iI n))] dX1_gather_54 rfl rfl (by decide) rfl ?_
                refine g_goto (pc' := 12) B dX1_gather_57 (by decide) ?_
                refine g_loc B [(4, .int (iI (a + 1))), (3, .int (iI f)), (2, .int (iI (d + 1))), (0, .ref (K.2.2 45)), (1, .int (iI n))] [0, 2, 1, 3, 4] rfl ?_
                exact ih12 _ (by omega) (up ω 48 d ((100 * f) + a)) (d + 1) (a + 1) rfl (by omega) (by first | exact j2 | (intro k a9; rw [up_row a9]; exact j2 k a9)) (by rw [show 31 * f + (a + 1) = 31 * f + a + 1 by omega, cn_next (by omega), hqb, j3]; try omega) (by intro m a9 b9; by_cases e9 : (m : Int) < 31 * f + a; (have q9 := j4 m e9 b9; first | exact q9 | (rw [up_col (by have q8 := cn_mono E (show m + 1 ≤ (31 * f + a).toNat by omega); have q7 : cn E (m + 1) = cn E m + qb E m := rfl; omega)]; exact q9)); first | (exfalso; rw [show ((m : Int)) = 31 * f + a by omega, hqb] at b9; omega) | (rw [show (m : Nat) = (31 * f + a).toNat by omega, ← j3, up_same, show (((31 * f + a).toNat : Nat) : Int) = 31 * f + a by omega]; omega))
              · have hqb : qb E (31 * f + a) = 0 := by unfold qb; rw [show (31 * f + a) / 31 = f by omega, show (31 * f + a) % 31 = a by omega]; exact cif_neg h23
                refine g_if_eq (pc' := 29) B 54 (by omega) dX1_gather_26 (by decide) rfl (fun _ => ?_) (fun q => absurd q (by decide))
                refine g_iinc (pc' := 57) B 0 [(4, .int (iI (a + 1))), (3, .int (iI f)), (2, .int (iI d)), (0, .ref (K.2.2 45)), (1, .int (iI n))] dX1_gather_54 rfl rfl (by decide) rfl ?_
                refine g_goto (pc' := 12) B dX1_gather_57 (by decide) ?_
                exact ih12 _ (by omega) ω d (a + 1) rfl (by omega) (by first | exact j2 | (intro k a9; rw [up_row a9]; exact j2 k a9)) (by rw [show 31 * f + (a + 1) = 31 * f + a + 1 by omega, cn_next (by omega), hqb, j3]; try omega) (by intro m a9 b9; by_cases e9 : (m : Int) < 31 * f + a; (have q9 := j4 m e9 b9; first | exact q9 | (rw [up_col (by have q8 := cn_mono E (show m + 1 ≤ (31 * f + a).toNat by omega); have q7 : cn E (m + 1) = cn E m + qb E m := rfl; omega)]; exact q9)); first | (exfalso; rw [show ((m : Int)) = 31 * f + a by omega, hqb] at b9; omega) | (rw [show (m : Nat) = (31 * f + a).toNat by omega, ← j3, up_same, show (((31 * f + a).toNat : Nat) : Int) = 31 * f + a by omega]; omega))
        exact L12 _ ρ c 0 rfl (by omega) (by exact i2) (by rw [show 31 * f + 0 = 31 * f by omega]; exact i3) (by intro m a9 b9; exact i4 m (by omega) b9)
  exact L4 _ σ 0 0 rfl (by omega) (by intro k a; rfl) (by rfl) (by intro m a; omega)
