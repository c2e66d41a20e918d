/-- all seams of a set are open in a step -/
def aop (D : SG) (u t : Int) : Prop := ∀ s : Int, 0 ≤ s → s < D 9 2 → bt u s = 1 → opn D s t
def isW (A : Int → Prop) (R z : Int) : Prop := (0 ≤ z ∧ z < R ∧ A z ∧ ∀ k : Int, 0 ≤ k → k < z → ¬ A k) ∨ (z = -1 ∧ ∀ k : Int, 0 ≤ k → k < R → ¬ A k)
theorem isW_uniq {A : Int → Prop} {R z y : Int} (h : isW A R z) (h2 : isW A R y) : z = y := by
  rcases h with ⟨a, b, c, d⟩ | ⟨a, b⟩ <;> rcases h2 with ⟨a', b', c', d'⟩ | ⟨a', b'⟩
  · rcases Int.lt_trichotomy z y with q | q | q
    · exact absurd c (d' z a q)
    · exact q
    · exact absurd c' (d y a' q)
  · exact absurd c (b' z a b)
  · exact absurd c' (b y a' b')
  · omega
def isL (A : Int → Prop) (z : Int) : Prop := (z = -1 ∧ ∀ k : Int, 0 ≤ k → A k) ∨ (0 ≤ z ∧ (∃ a : Int, 0 ≤ a ∧ ∀ j : Int, 0 ≤ j → j < z → A (a + j)) ∧ ∀ a : Int, 0 ≤ a → ∃ j : Int, 0 ≤ j ∧ j ≤ z ∧ ¬ A (a + j))
theorem isL_uniq {A : Int → Prop} {z y : Int} (h : isL A z) (h2 : isL A y) : z = y := by
  rcases h with ⟨a, b⟩ | ⟨a, ⟨p, p0, p1⟩, b⟩ <;> rcases h2 with ⟨a', b'⟩ | ⟨a', ⟨q, q0, q1⟩, b'⟩
  · omega
  · obtain ⟨j, j0, -, j2⟩ := b' 0 (by omega)
    exact absurd (b _ (by omega)) j2
  · obtain ⟨j, j0, -, j2⟩ := b 0 (by omega)
    exact absurd (b' _ (by omega)) j2
  · rcases Int.lt_trichotomy z y with h | h | h
    · obtain ⟨j, j0, j1, j2⟩ := b q q0
      exact absurd (q1 j j0 (by omega)) j2
    · exact h
    · obtain ⟨j, j0, j1, j2⟩ := b' p p0
      exact absurd (p1 j j0 (by omega)) j2
theorem rs_add {D : SG} {s t j : Int} (h : okQ D) (h0 : 0 ≤ s) (h1 : s < D 9 2) (hj : 0 ≤ j) (hlt : rs D s t + j < D 6 s) : rs D s (t + j) = rs D s t + j := by
  obtain ⟨-, a, -⟩ := h.2 s h0 h1
  have hb := rs_bd t h h0 h1
  unfold rs at *
  rw [show t + j - D 7 s = (t - D 7 s) + j by omega, ← Int.emod_add_emod, Int.emod_eq_of_lt (by omega) hlt]
theorem ss_zero {D : SG} {s t : Int} (h : okQ D) (h0 : 0 ≤ s) (h1 : s < D 9 2) : ss D s t = 0 ↔ opn D s t := by
  have hb := rs_bd t h h0 h1
  rw [← so_opn h h0 h1]
  unfold ss
  split <;> omega
theorem ss_shut {D : SG} {s t j : Int} (h : okQ D) (h0 : 0 ≤ s) (h1 : s < D 9 2) (hj : 0 ≤ j) (hlt : j < ss D s t) : ¬ opn D s (t + j) := by
  have hb := rs_bd t h h0 h1
  have hz := ss_zero (t := t) h h0 h1
  have hn : ¬ opn D s t := fun q => by have := hz.mpr q; omega
  have hso : ¬ 0 < so D s t := fun q => hn ((so_opn h h0 h1).mp q)
  unfold ss at hlt
  rw [if_neg hso] at hlt
  unfold opn at *
  rw [rs_add h h0 h1 hj (by omega)]
  omega
theorem sf_zero {D : SG} {u t : Int} (h : okQ D) : ∀ k : Nat, (k : Int) ≤ D 9 2 → (sf D u t k = 0 ↔ ∀ s : Int, 0 ≤ s → s < k → bt u s = 1 → opn D s t)
  | 0, _ => ⟨fun _ s a b => by omega, fun _ => rfl⟩
  | k + 1, hk => by
    have ih := sf_zero (u := u) (t := t) h k (by omega)
    have hb := sf_bd (u := u) (t := t) h k (by omega)
    have hc := ss_bd (t := t) h (show 0 ≤ (k : Int) by omega) (by omega)
    have hz := ss_zero (t := t) h (show 0 ≤ (k : Int) by omega) (by omega)
    have split1 : (∀ s : Int, 0 ≤ s → s < ((k + 1 : Nat) : Int) → bt u s = 1 → opn D s t) ↔ (∀ s : Int, 0 ≤ s → s < k → bt u s = 1 → opn D s t) ∧ (bt u k = 1 → opn D k t) := by
      constructor
      · intro q; exact ⟨fun s a b => q s a (by omega), q k (by omega) (by omega)⟩
      · intro q s a b c
        by_cases e : s = k
        · subst e; exact q.2 c
        · exact q.1 s a (by omega) c
    rw [split1, ← ih, show sf D u t (k + 1) = (if bt u k = 1 then max (sf D u t k) (ss D k t) else sf D u t k) from rfl]
    by_cases hbt : bt u k = 1
    · rw [if_pos hbt]
      constructor
      · intro q; exact ⟨by omega, fun _ => hz.mp (by omega)⟩
      · intro q; have := hz.mpr (q.2 hbt); have := q.1; omega
    · rw [if_neg hbt]
      exact ⟨fun q => ⟨q, fun c => absurd c hbt⟩, fun q => q.1⟩
theorem sf_wit {D : SG} {u t : Int} (h : okQ D) : ∀ k : Nat, (k : Int) ≤ D 9 2 → 0 < sf D u t k → ∃ s : Int, 0 ≤ s ∧ s < k ∧ bt u s = 1 ∧ ss D s t = sf D u t k
  | 0, _, q => by simp [sf] at q
  | k + 1, hk, q => by
    have hc := ss_bd (t := t) h (show 0 ≤ (k : Int) by omega) (by omega)
    unfold sf at q ⊢
    by_cases hbt : bt u k = 1
    · rw [if_pos hbt] at q ⊢
      by_cases hm : ss D k t ≤ sf D u t k
      · rw [Int.max_eq_left hm] at q ⊢
        obtain ⟨s, a, b, c⟩ := sf_wit h k (by omega) q
        exact ⟨s, a, by omega, c⟩
      · rw [Int.max_eq_right (by omega)]
        exact ⟨k, by omega, by omega, hbt, rfl⟩
    · rw [if_neg hbt] at q ⊢
      obtain ⟨s, a, b, c⟩ := sf_wit h k (by omega) q
      exact ⟨s, a, by omega, c⟩
theorem sf_aop {D : SG} {u t : Int} (h : okQ D) : sf D u t (D 9 2).toNat = 0 ↔ aop D u t := by
  have h0 := h.1
  rw [sf_zero h (D 9 2).toNat (by omega), show (((D 9 2).toNat : Nat) : Int) = D 9 2 by omega]
  rfl
theorem sf_shut {D : SG} {u t j : Int} (h : okQ D) (hj : 0 ≤ j) (hlt : j < sf D u t (D 9 2).toNat) : ¬ aop D u (t + j) := by
  have h0 := h.1
  obtain ⟨s, a, b, c, d⟩ := sf_wit (u := u) (t := t) h (D 9 2).toNat (by omega) (by omega)
  intro q
  exact ss_shut h a (by omega) hj (by omega) (q s a (by omega) c)
theorem ao_open {D : SG} {u t j : Int} (h : okQ D) (hj : 0 ≤ j) : ∀ k : Nat, (k : Int) ≤ D 9 2 → j < ao D u t k → ∀ s : Int, 0 ≤ s → s < k → bt u s = 1 → opn D s (t + j)
  | 0, _, _, s, a, b, _ => by omega
  | k + 1, hk, hlt, s, a, b, c => by
    unfold ao at hlt
    have ih := ao_open (u := u) (t := t) h hj k (by omega)
    by_cases e : s = k
    · subst e
      rw [if_pos c] at hlt
      have hb := rs_bd t h a (by omega)
      have hb2 := rs_bd (t + j) h a (by omega)
      have hso : j < so D k t := by omega
      unfold so at hso
      unfold opn
      split at hso
      · omega
      · rw [rs_add h a (by omega) hj (by omega)]; omega
    · refine ih ?_ s a (by omega) c
      split at hlt <;> omega
theorem ao_aop {D : SG} {u t j : Int} (h : okQ D) (hj : 0 ≤ j) (hlt : j < ao D u t (D 9 2).toNat) : aop D u (t + j) := by
  have h0 := h.1
  intro s a b c
  exact ao_open h hj (D 9 2).toNat (by omega) hlt s a (by omega) c
theorem ao_shut {D : SG} {u t : Int} (h : okQ D) : ∀ k : Nat, (k : Int) ≤ D 9 2 → ao D u t k < 1000000 → ao D u t k ≤ 12 ∧ ∃ s : Int, 0 ≤ s ∧ s < k ∧ bt u s = 1 ∧ ¬ opn D s (t + ao D u t k)
  | 0, _, q => by simp [ao] at q
  | k + 1, hk, q => by
    unfold ao at q ⊢
    have ih := ao_shut (u := u) (t := t) h k (by omega)
    by_cases hbt : bt u k = 1
    · rw [if_pos hbt] at q ⊢
      by_cases hm : ao D u t k ≤ so D k t
      · rw [Int.min_eq_left hm] at q ⊢
        obtain ⟨z, s, a, b, c⟩ := ih q
        exact ⟨z, s, a, by omega, c⟩
      · rw [Int.min_eq_right (by omega)] at q ⊢
        have hb := rs_bd t h (show 0 ≤ (k : Int) by omega) (by omega)
        obtain ⟨-, a1, -, a2⟩ := h.2 k (by omega) (by omega)
        unfold so at q ⊢
        split at q
        · omega
        · rename_i hpw
          rw [if_neg hpw]
          refine ⟨by omega, k, by omega, by omega, hbt, ?_⟩
          unfold opn
          by_cases hrw : rs D k t < D 8 k
          · rw [Int.max_eq_right (by omega), rs_add h (by omega) (by omega) (by omega) (by omega)]; omega
          · rw [Int.max_eq_left (by omega), Int.add_zero]; exact hrw
    · rw [if_neg hbt] at q ⊢
      obtain ⟨z, s, a, b, c⟩ := ih q
      exact ⟨z, s, a, by omega, c⟩
theorem ao_naop {D : SG} {u t : Int} (h : okQ D) (q : ao D u t (D 9 2).toNat < 1000000) : ao D u t (D 9 2).toNat ≤ 12 ∧ ¬ aop D u (t + ao D u t (D 9 2).toNat) := by
  have h0 := h.1
  obtain ⟨z, s, a, b, c, d⟩ := ao_shut h (D 9 2).toNat (by omega) q
  exact ⟨z, fun p => d (p s a (by omega) c)⟩
theorem ao_always {D : SG} {u t : Int} (h : okQ D) (k : Int) : ∀ n : Nat, (n : Int) ≤ D 9 2 → 1000000 ≤ ao D u t n → ∀ s : Int, 0 ≤ s → s < n → bt u s = 1 → opn D s k
  | 0, _, _, s, a, b, _ => by omega
  | n + 1, hk, q, s, a, b, c => by
    unfold ao at q
    have ih := ao_always (u := u) (t := t) h k n (by omega)
    by_cases e : s = n
    · subst e
      rw [if_pos c] at q
      have hb := rs_bd k h a (by omega)
      have hb2 := rs_bd t h a (by omega)
      obtain ⟨-, a1, -, a2⟩ := h.2 n a (by omega)
      have hso : 1000000 ≤ so D n t := by omega
      unfold so at hso
      unfold opn
      split at hso <;> omega
    · refine ih ?_ s a (by omega) c
      split at q <;> omega
theorem aop_per {D : SG} {u t c : Int} (h : okQ D) : aop D u (t + rq D u (D 9 2).toNat * c) ↔ aop D u t := by
  have h0 := h.1
  have e : ∀ s : Int, 0 ≤ s → s < D 9 2 → bt u s = 1 → rs D s (t + rq D u (D 9 2).toNat * c) = rs D s t := by
    intro s a b hb
    obtain ⟨d, hd⟩ := rq_dvd (u := u) h (D 9 2).toNat s (by omega) a (by omega) hb
    unfold rs
    rw [hd, show t + D 6 s * d * c - D 7 s = t - D 7 s + D 6 s * (d * c) by rw [Int.mul_assoc]; omega, Int.add_mul_emod_self_left]
  constructor
  · intro q s a b hb
    have := q s a b hb
    unfold opn at *
    rwa [e s a b hb] at this
  · intro q s a b hb
    have := q s a b hb
    unfold opn at *
    rwa [e s a b hb]
theorem aop_mod {D : SG} {u a : Int} (h : okQ D) (j : Int) : aop D u (a + j) ↔ aop D u (a % rq D u (D 9 2).toNat + j) := by
  have e := aop_per (u := u) (t := a % rq D u (D 9 2).toNat + j) (c := a / rq D u (D 9 2).toNat) h
  rw [← e]
  have e2 := Int.emod_add_mul_ediv a (rq D u (D 9 2).toNat)
  rw [show a % rq D u (D 9 2).toNat + j + rq D u (D 9 2).toNat * (a / rq D u (D 9 2).toNat) = a + j by omega]
theorem isL_of {D : SG} {u m r : Int} (h : okQ D) (hr : r = rq D u (D 9 2).toNat) (hr1 : 1 ≤ r) (hm : 0 ≤ m) (w : ∃ a : Int, 0 ≤ a ∧ ∀ j : Int, 0 ≤ j → j < m → aop D u (a + j)) (n : ∀ a : Int, 0 ≤ a → a < r → ∃ j : Int, 0 ≤ j ∧ j ≤ m ∧ ¬ aop D u (a + j)) : isL (fun k => aop D u k) m := by
  subst hr
  refine Or.inr ⟨hm, w, fun a ha => ?_⟩
  obtain ⟨j, j0, j1, j2⟩ := n (a % rq D u (D 9 2).toNat) (Int.emod_nonneg _ (by omega)) (Int.emod_lt_of_pos _ (by omega))
  exact ⟨j, j0, j1, fun q => j2 ((aop_mod h j).mp q)⟩
set_option maxRecDepth 100000 in
set_option maxHeartbeats 4000000 in
theorem c_X6_waitFor (l : Launch) (K : WK) (σ : SG) {q : Nat} (hq : q = 10 ∨ q = 24) {D : SG} (hQ : qD σ q D) (hO : okQ D) {u f : Int} (hset : 0 ≤ u ∧ u < 16) (hf : 0 ≤ f ∧ f ≤ 900000000) : MI l yX6_waitFor cX6_waitFor 6 (some .int) 4 90 K σ [.ref (K.2.2 q), .int (iI u), .int (iI f)] (fun z τ => σ = τ ∧ isW (fun k => aop D u (f + k)) (rq D u (D 9 2).toNat) z) := by
  refine met_of [(0, .ref (K.2.2 q)), (1, .int (iI u)), (2, .int (iI f))] (by decide +kernel) (Nat.le_of_ble_eq_true rfl) rfl ?_
  intro pP eE sS mM bW mT cC B hrt hlk
  replace B : CB pP sS mM [.ref (K.2.2 q), .int (iI u), .int (iI f)].toArray cC cX6_waitFor RX6 6 K := B
  obtain ⟨hO0, hO1⟩ := id hO
  have hR := rq_lim (u := u) hO (k := (D 9 2).toNat) (by omega)
  refine g_aload_n (pc' := 1) B 0 rfl rfl dX6_waitFor_0 rfl ?_
  refine g_iload_n (pc' := 2) B 1 rfl rfl dX6_waitFor_1 rfl ?_
  refine g_callVI (pc' := 5) (As := [.int (iI u)]) B (c_X6_roundOf l K _ (q := q) (D := D) (u := u) hq hQ hO hset) vt_X6_roundOf tw_748 (ly_Q hq) rfl ⟨by decide, by decide⟩ rfl (Nat.le_of_ble_eq_true rfl) ⟨Nat.zero_le _, Nat.zero_le _⟩ rfl dX6_waitFor_2 rfl (fun z2 τ2 h2 => ?_)
  obtain ⟨rfl, rfl⟩ := h2
  refine g_istore_n (pc' := 6) B [(3, .int (iI (rq D u (D 9 2).toNat))), (0, .ref (K.2.2 q)), (1, .int (iI u)), (2, .int (iI f))] dX6_waitFor_5 rfl rfl (by decide) rfl ?_
  refine g_iconst (pc' := 7) B dX6_waitFor_6 rfl ?_
  refine g_istore (pc' := 9) B [(4, .int (iI 0)), (3, .int (iI (rq D u (D 9 2).toNat))), (0, .ref (K.2.2 q)), (1, .int (iI u)), (2, .int (iI f))] dX6_waitFor_7 rfl (by decide) rfl ?_
  have L9 : ∀ (nn : Nat) (w : Int) , (rq D u (D 9 2).toNat - w).toNat = nn → (0 ≤ w ∧ w ≤ 30000) → (∀ k : Int, 0 ≤ k → k < w → ¬ aop D u (f + k)) → G pP l eE (rmo 4 90) sS mM [.ref (K.2.2 q), .int (iI u), .int (iI f)].toArray bW mT cC 0 0 (MQ bW (Qi K (fun z τ => σ = τ ∧ isW (fun k => aop D u (f + k)) (rq D u (D 9 2).toNat) z)) [.ref (K.2.2 q), .int (iI u), .int (iI f)].toArray sS 0 0 (wA K)) K sS.heap 6 σ 9 [(4, .int (iI w)), (3, .int (iI (rq D u (D 9 2).toNat))), (0, .ref (K.2.2 q)), (1, .int (iI u)), (2, .int (iI f))] [] := by
    intro nn
    induction nn using Nat.strongRecOn with
    | _ nn ih9 =>
      intro w hn9 i1 i2
      refine g_iload (pc' := 11) B 0 rfl dX6_waitFor_9 rfl ?_
      refine g_iload_n (pc' := 12) B 1 rfl rfl dX6_waitFor_11 rfl ?_
      refine g_icmp_ge (pc' := 15) B 48 (by omega) (by omega) dX6_waitFor_12 (by decide) rfl (fun c12 => ?_) (fun c12 => ?_)
      · refine g_iconst (pc' := 49) B dX6_waitFor_48 rfl ?_
        exact g_iret (z := (-1)) B hrt rfl hlk dX6_waitFor_49 ⟨rfl, Or.inr ⟨rfl, fun k a b => i2 k a (by omega)⟩⟩
      · refine g_aload_n (pc' := 16) B 2 rfl rfl dX6_waitFor_15 rfl ?_
        refine g_iload_n (pc' := 17) B 3 rfl rfl dX6_waitFor_16 rfl ?_
        refine g_iload_n (pc' := 18) B 4 rfl rfl dX6_waitFor_17 rfl ?_
        refine g_iload (pc' := 20) B 0 rfl dX6_waitFor_18 rfl ?_
        refine g_iadd (pc' := 21) B dX6_waitFor_20 rfl ?_
        refine g_callVI (pc' := 24) (As := [.int (iI u), .int (iI (f + w))]) B (c_X6_someShutFor l K _ (q := q) (D := D) (u := u) (t := f + w) hq hQ hO hset (by omega)) vt_X6_someShutFor tw_753 (ly_Q hq) rfl ⟨by decide, by decide⟩ rfl (Nat.le_of_ble_eq_true rfl) ⟨Nat.zero_le _, Nat.zero_le _⟩ rfl dX6_waitFor_21 rfl (fun z21 τ21 h21 => ?_)
        obtain ⟨rfl, rfl⟩ := h21
        refine g_istore (pc' := 26) B [(5, .int (iI (sf D u (f + w) (D 9 2).toNat))), (4, .int (iI w)), (3, .int (iI (rq D u (D 9 2).toNat))), (0, .ref (K.2.2 q)), (1, .int (iI u)), (2, .int (iI f))] dX6_waitFor_24 rfl (by decide) rfl ?_
        have hsf := sf_bd (u := u) (t := f + w) hO (D 9 2).toNat (by omega)
        refine g_iload (pc' := 28) B 0 rfl dX6_waitFor_26 rfl ?_
        refine g_if_ne (pc' := 31) B 34 (by omega) dX6_waitFor_28 (by decide) rfl (fun c28 => ?_) (fun c28 => ?_)
        · refine g_iload (pc' := 36) B 1 rfl dX6_waitFor_34 rfl ?_
          refine g_iconst (pc' := 37) B dX6_waitFor_36 rfl ?_
          refine g_iload (pc' := 39) B 0 rfl dX6_waitFor_37 rfl ?_
          refine g_mmax (pc' := 42) B (by omega) (by omega) tw_487 (by decide) (Nat.le_of_ble_eq_true rfl) (Nat.zero_le _) (Nat.zero_le _) dX6_waitFor_39 rfl ?_
          refine g_iadd (pc' := 43) B dX6_waitFor_42 rfl ?_
          refine g_istore (pc' := 45) B [(4, .int (iI (w + (max 1 (sf D u (f + w) (D 9 2).toNat))))), (5, .int (iI (sf D u (f + w) (D 9 2).toNat))), (3, .int (iI (rq D u (D 9 2).toNat))), (0, .ref (K.2.2 q)), (1, .int (iI u)), (2, .int (iI f))] dX6_waitFor_43 rfl (by decide) rfl ?_
          refine g_goto (pc' := 9) B dX6_waitFor_45 (by decide) ?_
          refine g_loc B [(4, .int (iI (w + (max 1 (sf D u (f + w) (D 9 2).toNat))))), (3, .int (iI (rq D u (D 9 2).toNat))), (0, .ref (K.2.2 q)), (1, .int (iI u)), (2, .int (iI f))] [0, 2, 3, 4, 5] rfl ?_
          exact ih9 _ (by omega) (w + (max 1 (sf D u (f + w) (D 9 2).toNat))) rfl (by omega) (by intro k a b; by_cases e9 : k < w; exact i2 k a e9; have q9 := sf_shut (u := u) (t := f + w) (j := k - w) hO (by omega) (by omega); rwa [show f + w + (k - w) = f + k by omega] at q9)
        · refine g_iload (pc' := 33) B 1 rfl dX6_waitFor_31 rfl ?_
          exact g_iret (z := w) B hrt rfl hlk dX6_waitFor_33 ⟨rfl, Or.inl ⟨by omega, by omega, sf_aop hO |>.mp c28, i2⟩⟩
  exact L9 _ 0 rfl (by omega) (by intro k a b; omega)
set_option maxRecDepth 100000 in
set_option maxHeartbeats 4000000 in
theorem c_X6_longestRun (l : Launch) (K : WK) (σ : SG) {q : Nat} (hq : q = 10 ∨ q = 24) {D : SG} (hQ : qD σ q D) (hO : okQ D) {u : Int} (hset : 0 ≤ u ∧ u < 16) : MI l yX6_longestRun cX6_longestRun 6 (some .int) 4 90 K σ [.ref (K.2.2 q), .int (iI u)] (fun z τ => σ = τ ∧ isL (fun k => aop D u k) z) := by
  refine met_of [(0, .ref (K.2.2 q)), (1, .int (iI u))] (by decide +kernel) (Nat.le_of_ble_eq_true rfl) rfl ?_
  intro pP eE sS mM bW mT cC B hrt hlk
  replace B : CB pP sS mM [.ref (K.2.2 q), .int (iI u)].toArray cC cX6_longestRun RX6 6 K := B
  obtain ⟨hO0, hO1⟩ := id hO
  have hR := rq_lim (u := u) hO (k := (D 9 2).toNat) (by omega)
  refine g_aload_n (pc' := 1) B 0 rfl rfl dX6_longestRun_0 rfl ?_
  refine g_iload_n (pc' := 2) B 1 rfl rfl dX6_longestRun_1 rfl ?_
  refine g_callVI (pc' := 5) (As := [.int (iI u)]) B (c_X6_roundOf l K _ (q := q) (D := D) (u := u) hq hQ hO hset) vt_X6_roundOf tw_748 (ly_Q hq) rfl ⟨by decide, by decide⟩ rfl (Nat.le_of_ble_eq_true rfl) ⟨Nat.zero_le _, Nat.zero_le _⟩ rfl dX6_longestRun_2 rfl (fun z2 τ2 h2 => ?_)
  obtain ⟨rfl, rfl⟩ := h2
  refine g_istore_n (pc' := 6) B [(2, .int (iI (rq D u (D 9 2).toNat))), (0, .ref (K.2.2 q)), (1, .int (iI u))] dX6_longestRun_5 rfl rfl (by decide) rfl ?_
  refine g_iconst (pc' := 7) B dX6_longestRun_6 rfl ?_
  refine g_istore_n (pc' := 8) B [(3, .int (iI 0)), (2, .int (iI (rq D u (D 9 2).toNat))), (0, .ref (K.2.2 q)), (1, .int (iI u))] dX6_longestRun_7 rfl rfl (by decide) rfl ?_
  refine g_iconst (pc' := 9) B dX6_longestRun_8 rfl ?_
  refine g_istore (pc' := 11) B [(4, .int (iI 0)), (3, .int (iI 0)), (2, .int (iI (rq D u (D 9 2).toNat))), (0, .ref (K.2.2 q)), (1, .int (iI u))] dX6_longestRun_9 rfl (by decide) rfl ?_
  have L11 : ∀ (nn : Nat) (m w : Int) , (rq D u (D 9 2).toNat - w).toNat = nn → (0 ≤ w ∧ w ≤ 30000) → (0 ≤ m ∧ m ≤ 12) → (∃ a : Int, 0 ≤ a ∧ ∀ j : Int, 0 ≤ j → j < m → aop D u (a + j)) → (∀ a : Int, 0 ≤ a → a < w → ∃ j : Int, 0 ≤ j ∧ j ≤ m ∧ ¬ aop D u (a + j)) → G pP l eE (rmo 4 90) sS mM [.ref (K.2.2 q), .int (iI u)].toArray bW mT cC 0 0 (MQ bW (Qi K (fun z τ => σ = τ ∧ isL (fun k => aop D u k) z)) [.ref (K.2.2 q), .int (iI u)].toArray sS 0 0 (wA K)) K sS.heap 6 σ 11 [(4, .int (iI w)), (3, .int (iI m)), (2, .int (iI (rq D u (D 9 2).toNat))), (0, .ref (K.2.2 q)), (1, .int (iI u))] [] := by
    intro nn
    induction nn using Nat.strongRecOn with
    | _ nn ih11 =>
      intro m w hn11 i1 i0 i2 i3
      refine g_iload (pc' := 13) B 0 rfl dX6_longestRun_11 rfl ?_
      refine g_iload_n (pc' := 14) B 2 rfl rfl dX6_longestRun_13 rfl ?_
      refine g_icmp_ge (pc' := 17) B 71 (by omega) (by omega) dX6_longestRun_14 (by decide) rfl (fun c14 => ?_) (fun c14 => ?_)
      · refine g_iload_n (pc' := 72) B 1 rfl rfl dX6_longestRun_71 rfl ?_
        exact g_iret (z := m) B hrt rfl hlk dX6_longestRun_72 ⟨rfl, isL_of hO rfl (by omega) (by omega) i2 (fun a b c => i3 a b (by omega))⟩
      · refine g_aload_n (pc' := 18) B 3 rfl rfl dX6_longestRun_17 rfl ?_
        refine g_iload_n (pc' := 19) B 4 rfl rfl dX6_longestRun_18 rfl ?_
        refine g_iload (pc' := 21) B 0 rfl dX6_longestRun_19 rfl ?_
        refine g_callVI (pc' := 24) (As := [.int (iI u), .int (iI w)]) B (c_X6_allOpenFor l K _ (q := q) (D := D) (u := u) (t := w) hq hQ hO hset (by omega)) vt_X6_allOpenFor tw_769 (ly_Q hq) rfl ⟨by decide, by decide⟩ rfl (Nat.le_of_ble_eq_true rfl) ⟨Nat.zero_le _, Nat.zero_le _⟩ rfl dX6_longestRun_21 rfl (fun z21 τ21 h21 => ?_)
        obtain ⟨rfl, rfl⟩ := h21
        refine g_istore (pc' := 26) B [(5, .int (iI (ao D u w (D 9 2).toNat))), (4, .int (iI w)), (3, .int (iI m)), (2, .int (iI (rq D u (D 9 2).toNat))), (0, .ref (K.2.2 q)), (1, .int (iI u))] dX6_longestRun_24 rfl (by decide) rfl ?_
        have hao := ao_bd (u := u) (t := w) hO (D 9 2).toNat (by omega)
        refine g_iload (pc' := 28) B 0 rfl dX6_longestRun_26 rfl ?_
        refine g_ldc (z := 1000000) (pc' := 30) B tw_483 (by decide +kernel) dX6_longestRun_28 rfl ?_
        refine g_icmp_lt (pc' := 33) B 35 (by omega) (by omega) dX6_longestRun_30 (by decide) rfl (fun c30 => ?_) (fun c30 => ?_)
        · have hna := ao_naop hO c30
          refine g_iload_n (pc' := 36) B 2 rfl rfl dX6_longestRun_35 rfl ?_
          refine g_iload (pc' := 38) B 0 rfl dX6_longestRun_36 rfl ?_
          refine g_mmax (pc' := 41) B (by omega) (by omega) tw_487 (by decide) (Nat.le_of_ble_eq_true rfl) (Nat.zero_le _) (Nat.zero_le _) dX6_longestRun_38 rfl ?_
          refine g_istore_n (pc' := 42) B [(3, .int (iI (max m (ao D u w (D 9 2).toNat)))), (5, .int (iI (ao D u w (D 9 2).toNat))), (4, .int (iI w)), (2, .int (iI (rq D u (D 9 2).toNat))), (0, .ref (K.2.2 q)), (1, .int (iI u))] dX6_longestRun_41 rfl rfl (by decide) rfl ?_
          refine g_iload (pc' := 44) B 2 rfl dX6_longestRun_42 rfl ?_
          refine g_iconst (pc' := 45) B dX6_longestRun_44 rfl ?_
          refine g_iload (pc' := 47) B 1 rfl dX6_longestRun_45 rfl ?_
          refine g_if_le (pc' := 50) B 55 (by omega) dX6_longestRun_47 (by decide) rfl (fun c47 => ?_) (fun c47 => ?_)
          · refine g_aload_n (pc' := 56) B 4 rfl rfl dX6_longestRun_55 rfl ?_
            refine g_iload_n (pc' := 57) B 5 rfl rfl dX6_longestRun_56 rfl ?_
            refine g_iload (pc' := 59) B 2 rfl dX6_longestRun_57 rfl ?_
            refine g_callVI (pc' := 62) (As := [.int (iI u), .int (iI w)]) B (c_X6_someShutFor l K _ (q := q) (D := D) (u := u) (t := w) hq hQ hO hset (by omega)) vt_X6_someShutFor tw_753 (ly_Q hq) rfl ⟨by decide, by decide⟩ rfl (Nat.le_of_ble_eq_true rfl) ⟨Nat.zero_le _, Nat.zero_le _⟩ rfl dX6_longestRun_59 rfl (fun z59 τ59 h59 => ?_)
            obtain ⟨rfl, rfl⟩ := h59
            have hsf := sf_bd (u := u) (t := w) hO (D 9 2).toNat (by omega)
            have hsh : ∀ a : Int, 0 ≤ a → a < w + max 1 (sf D u w (D 9 2).toNat) → ¬ a < w → ao D u w (D 9 2).toNat ≤ 0 → ¬ aop D u (a + 0) := by
                intro a b c d e
                rw [Int.add_zero]
                by_cases q9 : a - w < sf D u w (D 9 2).toNat
                · have q8 := sf_shut (u := u) (t := w) (j := a - w) hO (by omega) q9
                  rwa [show w + (a - w) = a by omega] at q8
                · have q7 := hna.2
                  rwa [show w + ao D u w (D 9 2).toNat = a by omega] at q7
            refine g_mmax (pc' := 65) B (by omega) (by omega) tw_487 (by decide) (Nat.le_of_ble_eq_true rfl) (Nat.zero_le _) (Nat.zero_le _) dX6_longestRun_62 rfl ?_
            refine g_iadd (pc' := 66) B dX6_longestRun_65 rfl ?_
            refine g_istore (pc' := 68) B [(4, .int (iI (w + (max 1 (sf D u w (D 9 2).toNat))))), (3, .int (iI (max m (ao D u w (D 9 2).toNat)))), (5, .int (iI (ao D u w (D 9 2).toNat))), (2, .int (iI (rq D u (D 9 2).toNat))), (0, .ref (K.2.2 q)), (1, .int (iI u))] dX6_longestRun_66 rfl (by decide) rfl ?_
            refine g_goto (pc' := 11) B dX6_longestRun_68 (by decide) ?_
            refine g_loc B [(4, .int (iI (w + (max 1 (sf D u w (D 9 2).toNat))))), (3, .int (iI (max m (ao D u w (D 9 2).toNat)))), (2, .int (iI (rq D u (D 9 2).toNat))), (0, .ref (K.2.2 q)), (1, .int (iI u))] [0, 1, 3, 4, 5] rfl ?_
            exact ih11 _ (by omega) (max m (ao D u w (D 9 2).toNat)) (w + (max 1 (sf D u w (D 9 2).toNat))) rfl (by omega) (by omega) (by by_cases e9 : ao D u w (D 9 2).toNat ≤ m; (rw [Int.max_eq_left e9]; exact i2); (rw [Int.max_eq_right (by omega)]; exact ⟨w, by omega, fun j a b => ao_aop hO a b⟩)) (by intro a b c; by_cases e9 : a < w; (obtain ⟨j, j0, j1, j2⟩ := i3 a b e9; exact ⟨j, j0, by omega, j2⟩); first | exact ⟨ao D u w (D 9 2).toNat - (a - w), by omega, by omega, by rw [show a + (ao D u w (D 9 2).toNat - (a - w)) = w + ao D u w (D 9 2).toNat by omega]; exact hna.2⟩ | exact ⟨0, by omega, by omega, hsh a b c e9 c47⟩)
          · refine g_iload (pc' := 52) B 1 rfl dX6_longestRun_50 rfl ?_
            refine g_goto (pc' := 62) B dX6_longestRun_52 (by decide) ?_
            have hsf := sf_bd (u := u) (t := w) hO (D 9 2).toNat (by omega)
            have hsh : ∀ a : Int, 0 ≤ a → a < w + max 1 (ao D u w (D 9 2).toNat) → ¬ a < w → ao D u w (D 9 2).toNat ≤ 0 → ¬ aop D u (a + 0) := by
                intro a b c d e
                rw [Int.add_zero]
                by_cases q9 : a - w < sf D u w (D 9 2).toNat
                · have q8 := sf_shut (u := u) (t := w) (j := a - w) hO (by omega) q9
                  rwa [show w + (a - w) = a by omega] at q8
                · have q7 := hna.2
                  rwa [show w + ao D u w (D 9 2).toNat = a by omega] at q7
            refine g_mmax (pc' := 65) B (by omega) (by omega) tw_487 (by decide) (Nat.le_of_ble_eq_true rfl) (Nat.zero_le _) (Nat.zero_le _) dX6_longestRun_62 rfl ?_
            refine g_iadd (pc' := 66) B dX6_longestRun_65 rfl ?_
            refine g_istore (pc' := 68) B [(4, .int (iI (w + (max 1 (ao D u w (D 9 2).toNat))))), (3, .int (iI (max m (ao D u w (D 9 2).toNat)))), (5, .int (iI (ao D u w (D 9 2).toNat))), (2, .int (iI (rq D u (D 9 2).toNat))), (0, .ref (K.2.2 q)), (1, .int (iI u))] dX6_longestRun_66 rfl (by decide) rfl ?_
            refine g_goto (pc' := 11) B dX6_longestRun_68 (by decide) ?_
            refine g_loc B [(4, .int (iI (w + (max 1 (ao D u w (D 9 2).toNat))))), (3, .int (iI (max m (ao D u w (D 9 2).toNat)))), (2, .int (iI (rq D u (D 9 2).toNat))), (0, .ref (K.2.2 q)), (1, .int (iI u))] [0, 1, 3, 4, 5] rfl ?_
            exact ih11 _ (by omega) (max m (ao D u w (D 9 2).toNat)) (w + (max 1 (ao D u w (D 9 2).toNat))) rfl (by omega) (by omega) (by by_cases e9 : ao D u w (D 9 2).toNat ≤ m; (rw [Int.max_eq_left e9]; exact i2); (rw [Int.max_eq_right (by omega)]; exact ⟨w, by omega, fun j a b => ao_aop hO a b⟩)) (by intro a b c; by_cases e9 : a < w; (obtain ⟨j, j0, j1, j2⟩ := i3 a b e9; exact ⟨j, j0, by omega, j2⟩); first | exact ⟨ao D u w (D 9 2).toNat - (a - w), by omega, by omega, by rw [show a + (ao D u w (D 9 2).toNat - (a - w)) = w + ao D u w (D 9 2).toNat by omega]; exact hna.2⟩ | exact ⟨0, by omega, by omega, hsh a b c e9 c47⟩)
        · refine g_iconst (pc' := 34) B dX6_longestRun_33 rfl ?_
          exact g_iret (z := (-1)) B hrt rfl hlk dX6_longestRun_34 ⟨rfl, Or.inl ⟨rfl, fun k _ s a b c => ao_always hO k (D 9 2).toNat (by omega) c30 s a (by omega) c⟩⟩
  exact L11 _ 0 0 rfl (by omega) (by omega) (by exact ⟨0, by omega, fun j a b => by omega⟩) (by intro a b c; omega)
