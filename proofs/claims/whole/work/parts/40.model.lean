theorem sh0 (f : Int) : iI 0 <<< (iI f &&& 31) = iI 0 := by
  show (0 : Int32) <<< (iI f &&& 31) = 0
  apply Int32.toBitVec_inj.1
  simp
theorem or0 (a : Int) : iI a ||| iI 0 = iI a := by
  show iI a ||| (0 : Int32) = iI a
  apply Int32.toBitVec_inj.1
  simp
def pk (u : Int) : Nat → Int
  | 0 => 0
  | k + 1 => pk u k + bt u k
theorem pk_8 (u : Int) : pk u 8 = pcn u := by simp [pk, bt, pcn]
theorem pk_next {u k : Int} (h : 0 ≤ k) : pk u (k + 1).toNat = pk u k.toNat + bt u k := by
  rw [show (k + 1).toNat = k.toNat + 1 by omega]
  show pk u k.toNat + bt u ((k.toNat : Nat) : Int) = _
  rw [show ((k.toNat : Nat) : Int) = k by omega]
theorem pk_bd (u : Int) : ∀ k : Nat, 0 ≤ pk u k ∧ pk u k ≤ k
  | 0 => by show (0 : Int) ≤ 0 ∧ (0 : Int) ≤ ((0 : Nat) : Int); omega
  | k + 1 => by
    have ih := pk_bd u k
    have q := bt_01 u k
    show 0 ≤ pk u k + bt u k ∧ pk u k + bt u k ≤ ((k + 1 : Nat) : Int)
    omega
/-- greatest common -/
def gc (a b : Int) : Int := ((Nat.gcd a.toNat b.toNat : Nat) : Int)
theorem gc_0 {a : Int} (h : 0 ≤ a) : gc a 0 = a := by unfold gc; simp; omega
theorem gc_step {a b : Int} (ha : 0 ≤ a) (hb : 0 < b) : gc b (a % b) = gc a b := by
  unfold gc
  obtain ⟨A, rfl⟩ : ∃ A : Nat, a = A := ⟨a.toNat, by omega⟩
  obtain ⟨B, rfl⟩ : ∃ B : Nat, b = B := ⟨b.toNat, by omega⟩
  have e : ((A : Int) % (B : Int)).toNat = A % B := by omega
  rw [e]
  simp only [Int.toNat_natCast]
  rw [Nat.gcd_comm A B, Nat.gcd_rec B A, Nat.gcd_comm]
theorem gc_pos {a b : Int} (hb : 0 < b) : 1 ≤ gc a b := by
  unfold gc
  have := Nat.gcd_pos_of_pos_right a.toNat (show 0 < b.toNat by omega)
  omega
theorem gc_lc {a b : Int} (ha : 1 ≤ a) (hb : 1 ≤ b) : a / gc a b * b = lc a b := by
  unfold gc lc
  obtain ⟨A, rfl⟩ : ∃ A : Nat, a = A := ⟨a.toNat, by omega⟩
  obtain ⟨B, rfl⟩ : ∃ B : Nat, b = B := ⟨b.toNat, by omega⟩
  simp only [Int.toNat_natCast]
  have e : A / Nat.gcd A B * B = Nat.lcm A B := by
    unfold Nat.lcm
    exact Nat.div_mul_right_comm (Nat.gcd_dvd_left A B) B
  rw [← e]
  simp
theorem tm_fix {x p : Int} (hp : 0 < p) : (x.tmod p + p) % p = x % p := by
  obtain ⟨h1, h2, h3⟩ := tmod_fix (x := x) hp
  have b1 := Int.emod_nonneg x (show p ≠ 0 by omega)
  have b2 := Int.emod_lt_of_pos x hp
  have e : ∀ a : Int, (a + p) % p = a % p := fun a => by simp
  by_cases q : 0 ≤ x
  · rw [e, ← h1 q]
    exact Int.emod_eq_of_lt b1 b2
  · by_cases q2 : x.tmod p = 0
    · rw [e, (h2 (by omega)).1 q2, q2]
      simp
    · rw [← (h2 (by omega)).2 q2]
      exact Int.emod_eq_of_lt b1 b2
def fdv (D : SG) (f w : Int) : Int := if w = 0 then D 0 f else if w = 1 then D 1 f else if w = 2 then D 2 f else D 3 f
def sdv (D : SG) (s w : Int) : Int := if w = 0 then D 5 s else if w = 1 then D 6 s else if w = 2 then D 7 s else D 8 s
theorem mD_f {σ D : SG} {f w : Int} (h : mD σ D) (h0 : 0 ≤ f) (h1 : f < D 9 0) (hw : 0 ≤ w ∧ w ≤ 3) : σ 60 (4 * f + w) = fdv D f w := by
  have q := h.2.2.2.2.1 f h0 h1
  rcases (show w = 0 ∨ w = 1 ∨ w = 2 ∨ w = 3 by omega) with e | e | e | e <;> subst e <;> simp [fdv, q]
theorem mD_s {σ D : SG} {s w : Int} (h : mD σ D) (h0 : 0 ≤ s) (h1 : s < D 9 2) (hw : 0 ≤ w ∧ w ≤ 3) : σ 62 (4 * s + w) = sdv D s w := by
  have q := h.2.2.2.2.2.2 s h0 h1
  rcases (show w = 0 ∨ w = 1 ∨ w = 2 ∨ w = 3 by omega) with e | e | e | e <;> subst e <;> simp [sdv, q]
theorem mD.keep {σ τ D : SG} (h : mD σ D) (e5 : τ 57 5 = σ 57 5) (e6 : τ 57 6 = σ 57 6) (e7 : τ 57 7 = σ 57 7) (e9 : τ 57 19 = σ 57 19) (e : ∀ k, 60 ≤ k → k ≤ 62 → τ k = σ k) : mD τ D := by
  unfold mD at *
  rw [e5, e6, e7, e9, e 60 (by decide) (by decide), e 61 (by decide) (by decide), e 62 (by decide) (by decide)]
  exact h
set_option maxRecDepth 100000 in
set_option maxHeartbeats 4000000 in
theorem c_X12_in (l : Launch) (K : WK) (σ : SG) {v a b : Int} (hv : -4000000000 ≤ v ∧ v ≤ 4000000000) (ha : -4000000000 ≤ a ∧ a ≤ 4000000000) (hb : -4000000000 ≤ b ∧ b ≤ 4000000000) : MI l yX12_in cX12_in 6 (some .boolean) 0 0 K σ [.long (lI v), .long (lI a), .long (lI b)] (fun z τ => σ = τ ∧ (((a ≤ v ∧ v ≤ b) ∧ z = 1) ∨ (¬ (a ≤ v ∧ v ≤ b) ∧ z = 0))) := by
  refine met_of [(0, .long (lI v)), (2, .long (lI a)), (4, .long (lI b))] (by decide +kernel) (Nat.le_of_ble_eq_true rfl) rfl ?_
  intro pP eE sS mM bW mT cC B hrt hlk
  replace B : CB pP sS mM [.long (lI v), .long (lI a), .long (lI b)].toArray cC cX12_in RX12 6 K := B
  refine g_lload_n (pc' := 1) B 0 rfl rfl dX12_in_0 rfl ?_
  refine g_lload_n (pc' := 2) B 1 rfl rfl dX12_in_1 rfl ?_
  refine g_lcmp (pc' := 3) B (by omega) (by omega) dX12_in_2 rfl ?_
  refine g_if_lt (pc' := 6) B 17 (by (repeat' split) <;> omega) dX12_in_3 (by decide) rfl (fun c3 => ?_) (fun c3 => ?_)
  · have d3 : v < a := by revert c3; (repeat' split) <;> omega
    refine g_iconst (pc' := 18) B dX12_in_17 rfl ?_
    exact g_iret (z := 0) B hrt rfl hlk dX12_in_18 ⟨rfl, by omega⟩
  · have d3 : a ≤ v := by revert c3; (repeat' split) <;> omega
    refine g_lload_n (pc' := 7) B 0 rfl rfl dX12_in_6 rfl ?_
    refine g_lload (pc' := 9) B 2 rfl dX12_in_7 rfl ?_
    refine g_lcmp (pc' := 10) B (by omega) (by omega) dX12_in_9 rfl ?_
    refine g_if_gt (pc' := 13) B 17 (by (repeat' split) <;> omega) dX12_in_10 (by decide) rfl (fun c10 => ?_) (fun c10 => ?_)
    · have d10 : b < v := by revert c10; (repeat' split) <;> omega
      refine g_iconst (pc' := 18) B dX12_in_17 rfl ?_
      exact g_iret (z := 0) B hrt rfl hlk dX12_in_18 ⟨rfl, by omega⟩
    · have d10 : v ≤ b := by revert c10; (repeat' split) <;> omega
      refine g_iconst (pc' := 14) B dX12_in_13 rfl ?_
      refine g_goto (pc' := 18) B dX12_in_14 (by decide) ?_
      exact g_iret (z := 1) B hrt rfl hlk dX12_in_18 ⟨rfl, by omega⟩
set_option maxRecDepth 100000 in
set_option maxHeartbeats 4000000 in
theorem c_X12_one (l : Launch) (K : WK) (σ : SG) {v : Int} (hv : v = 0 ∨ v = 1) : MI l yX12_one cX12_one 1 (some .int) 0 0 K σ [.int (iI v)] (fun z τ => σ = τ ∧ z = v) := by
  refine met_of [(0, .int (iI v))] (by decide +kernel) (Nat.le_of_ble_eq_true rfl) rfl ?_
  intro pP eE sS mM bW mT cC B hrt hlk
  replace B : CB pP sS mM [.int (iI v)].toArray cC cX12_one RX12 1 K := B
  refine g_iload_n (pc' := 1) B 0 rfl rfl dX12_one_0 rfl ?_
  refine g_if_eq (pc' := 4) B 8 (by omega) dX12_one_1 (by decide) rfl (fun c1 => ?_) (fun c1 => ?_)
  · refine g_iconst (pc' := 9) B dX12_one_8 rfl ?_
    exact g_iret (z := 0) B hrt rfl hlk dX12_one_9 ⟨rfl, by omega⟩
  · refine g_iconst (pc' := 5) B dX12_one_4 rfl ?_
    refine g_goto (pc' := 9) B dX12_one_5 (by decide) ?_
    exact g_iret (z := 1) B hrt rfl hlk dX12_one_9 ⟨rfl, by omega⟩
set_option maxRecDepth 100000 in
set_option maxHeartbeats 4000000 in
theorem c_X12_has (l : Launch) (K : WK) (σ : SG) {u k : Int} (hu : 0 ≤ u ∧ u < 256) (hk : 0 ≤ k ∧ k < 8) : MI l yX12_has cX12_has 2 (some .boolean) 0 0 K σ [.int (iI u), .int (iI k)] (fun z τ => σ = τ ∧ ((bt u k = 1 ∧ z = 1) ∨ (¬ (bt u k = 1) ∧ z = 0))) := by
  refine met_of [(0, .int (iI u)), (1, .int (iI k))] (by decide +kernel) (Nat.le_of_ble_eq_true rfl) rfl ?_
  intro pP eE sS mM bW mT cC B hrt hlk
  replace B : CB pP sS mM [.int (iI u), .int (iI k)].toArray cC cX12_has RX12 2 K := B
  refine g_iload_n (pc' := 1) B 0 rfl rfl dX12_has_0 rfl ?_
  refine g_iload_n (pc' := 2) B 1 rfl rfl dX12_has_1 rfl ?_
  refine g_ishr (pc' := 3) B (u / 2 ^ (k).toNat) (sr1 (by omega) (by omega)) dX12_has_2 rfl ?_
  refine g_iconst (pc' := 4) B dX12_has_3 rfl ?_
  have hb0 : 0 ≤ u / 2 ^ k.toNat := Int.ediv_nonneg (by omega) (by have := pow_le7 (k := k.toNat) (by omega); omega)
  refine g_iand (pc' := 5) B (bt u (k)) (and1 (by omega)) dX12_has_4 rfl ?_
  refine g_iconst (pc' := 6) B dX12_has_5 rfl ?_
  have hbk := bt_01 u k
  refine g_icmp_ne (pc' := 9) B 13 (by omega) (by omega) dX12_has_6 (by decide) rfl (fun c6 => ?_) (fun c6 => ?_)
  · refine g_iconst (pc' := 14) B dX12_has_13 rfl ?_
    exact g_iret (z := 0) B hrt rfl hlk dX12_has_14 ⟨rfl, by omega⟩
  · refine g_iconst (pc' := 10) B dX12_has_9 rfl ?_
    refine g_goto (pc' := 14) B dX12_has_10 (by decide) ?_
    exact g_iret (z := 1) B hrt rfl hlk dX12_has_14 ⟨rfl, by omega⟩
set_option maxRecDepth 100000 in
set_option maxHeartbeats 4000000 in
theorem c_X12_ones (l : Launch) (K : WK) (σ : SG) {u : Int} (hu : 0 ≤ u ∧ u < 256) : MI l yX12_ones cX12_ones 3 (some .int) 0 0 K σ [.int (iI u)] (fun z τ => σ = τ ∧ z = pcn u) := by
  refine met_of [(0, .int (iI u))] (by decide +kernel) (Nat.le_of_ble_eq_true rfl) rfl ?_
  intro pP eE sS mM bW mT cC B hrt hlk
  replace B : CB pP sS mM [.int (iI u)].toArray cC cX12_ones RX12 3 K := B
  refine g_iconst (pc' := 1) B dX12_ones_0 rfl ?_
  refine g_istore_n (pc' := 2) B [(1, .int (iI 0)), (0, .int (iI u))] dX12_ones_1 rfl rfl (by decide) rfl ?_
  refine g_iconst (pc' := 3) B dX12_ones_2 rfl ?_
  refine g_istore_n (pc' := 4) B [(2, .int (iI 0)), (1, .int (iI 0)), (0, .int (iI u))] dX12_ones_3 rfl rfl (by decide) rfl ?_
  have L4 : ∀ (nn : Nat) (n k : Int) , (8 - k).toNat = nn → (0 ≤ k ∧ k ≤ 8) → (n = pk u k.toNat) → G pP l eE (rmo 0 0) sS mM [.int (iI u)].toArray bW mT cC 0 0 (MQ bW (Qi K (fun z τ => σ = τ ∧ z = pcn u)) [.int (iI u)].toArray sS 0 0 (wA K)) K sS.heap 3 σ 4 [(2, .int (iI k)), (1, .int (iI n)), (0, .int (iI u))] [] := by
    intro nn
    induction nn using Nat.strongRecOn with
    | _ nn ih4 =>
      intro n k hn4 i1 i2
      refine g_iload_n (pc' := 5) B 0 rfl rfl dX12_ones_4 rfl ?_
      refine g_bipush (pc' := 7) B (by decide +kernel) dX12_ones_5 rfl ?_
      refine g_icmp_ge (pc' := 10) B 24 (by omega) (by omega) dX12_ones_7 (by decide) rfl (fun c7 => ?_) (fun c7 => ?_)
      · refine g_iload_n (pc' := 25) B 1 rfl rfl dX12_ones_24 rfl ?_
        exact g_iret (z := n) B hrt rfl hlk dX12_ones_25 ⟨rfl, by rw [i2, show k.toNat = 8 by omega, pk_8]⟩
      · have hpb := pk_bd u k.toNat
        rw [← i2] at hpb
        have hb0 : 0 ≤ u / 2 ^ k.toNat := Int.ediv_nonneg (by omega) (by have := pow_le7 (k := k.toNat) (by omega); omega)
        refine g_iload_n (pc' := 11) B 1 rfl rfl dX12_ones_10 rfl ?_
        refine g_iload_n (pc' := 12) B 2 rfl rfl dX12_ones_11 rfl ?_
        refine g_iload_n (pc' := 13) B 0 rfl rfl dX12_ones_12 rfl ?_
        refine g_ishr (pc' := 14) B (u / 2 ^ (k).toNat) (sr1 (by omega) (by omega)) dX12_ones_13 rfl ?_
        refine g_iconst (pc' := 15) B dX12_ones_14 rfl ?_
        refine g_iand (pc' := 16) B (bt u (k)) (and1 (by omega)) dX12_ones_15 rfl ?_
        have hbk := bt_01 u k
        refine g_iadd (pc' := 17) B dX12_ones_16 rfl ?_
        refine g_istore_n (pc' := 18) B [(1, .int (iI (n + (bt u (k))))), (2, .int (iI k)), (0, .int (iI u))] dX12_ones_17 rfl rfl (by decide) rfl ?_
        refine g_iinc (pc' := 21) B 1 [(2, .int (iI (k + 1))), (1, .int (iI (n + (bt u (k))))), (0, .int (iI u))] dX12_ones_18 rfl rfl (by decide) rfl ?_
        refine g_goto (pc' := 4) B dX12_ones_21 (by decide) ?_
        exact ih4 _ (by omega) (n + (bt u (k))) (k + 1) rfl (by omega) (by rw [pk_next (by omega), i2])
  exact L4 _ 0 0 rfl (by omega) (by rfl)
set_option maxRecDepth 100000 in
set_option maxHeartbeats 4000000 in
theorem c_X12_common (l : Launch) (K : WK) (σ : SG) {a b : Int} (ha : 0 ≤ a ∧ a ≤ 1000000000) (hb : 0 ≤ b ∧ b ≤ 1000000000) : MI l yX12_common cX12_common 5 (some .int) 0 0 K σ [.int (iI a), .int (iI b)] (fun z τ => σ = τ ∧ z = gc a b) := by
  refine met_of [(0, .int (iI a)), (1, .int (iI b))] (by decide +kernel) (Nat.le_of_ble_eq_true rfl) rfl ?_
  intro pP eE sS mM bW mT cC B hrt hlk
  replace B : CB pP sS mM [.int (iI a), .int (iI b)].toArray cC cX12_common RX12 5 K := B
  refine g_iload_n (pc' := 1) B 0 rfl rfl dX12_common_0 rfl ?_
  refine g_istore_n (pc' := 2) B [(2, .int (iI a)), (0, .int (iI a)), (1, .int (iI b))] dX12_common_1 rfl rfl (by decide) rfl ?_
  refine g_iload_n (pc' := 3) B 2 rfl rfl dX12_common_2 rfl ?_
  refine g_istore_n (pc' := 4) B [(3, .int (iI b)), (2, .int (iI a)), (0, .int (iI a)), (1, .int (iI b))] dX12_common_3 rfl rfl (by decide) rfl ?_
  have L4 : ∀ (nn : Nat) (x y : Int) , y.toNat = nn → (0 ≤ x ∧ x ≤ 1000000000) → (0 ≤ y ∧ y ≤ 1000000000) → (gc x y = gc a b) → G pP l eE (rmo 0 0) sS mM [.int (iI a), .int (iI b)].toArray bW mT cC 0 0 (MQ bW (Qi K (fun z τ => σ = τ ∧ z = gc a b)) [.int (iI a), .int (iI b)].toArray sS 0 0 (wA K)) K sS.heap 5 σ 4 [(3, .int (iI y)), (2, .int (iI x)), (0, .int (iI a)), (1, .int (iI b))] [] := by
    intro nn
    induction nn using Nat.strongRecOn with
    | _ nn ih4 =>
      intro x y hn4 i1 i2 i3
      refine g_iload_n (pc' := 5) B 0 rfl rfl dX12_common_4 rfl ?_
      refine g_if_le (pc' := 8) B 21 (by omega) dX12_common_5 (by decide) rfl (fun c5 => ?_) (fun c5 => ?_)
      · refine g_iload_n (pc' := 22) B 1 rfl rfl dX12_common_21 rfl ?_
        exact g_iret (z := x) B hrt rfl hlk dX12_common_22 ⟨rfl, by rw [← i3, show y = 0 by omega, gc_0 i1.1]⟩
      · refine g_iload_n (pc' := 9) B 1 rfl rfl dX12_common_8 rfl ?_
        refine g_iload_n (pc' := 10) B 0 rfl rfl dX12_common_9 rfl ?_
        refine g_irem (pc' := 11) B (by omega) (by omega) dX12_common_10 rfl ?_
        have hm1 := Int.emod_nonneg x (show y ≠ 0 by omega)
        have hm2 := Int.emod_lt_of_pos x (show 0 < y by omega)
        refine g_istore (pc' := 13) B [(4, .int (iI (x % y))), (3, .int (iI y)), (2, .int (iI x)), (0, .int (iI a)), (1, .int (iI b))] dX12_common_11 rfl (by decide) rfl ?_
        refine g_iload_n (pc' := 14) B 1 rfl rfl dX12_common_13 rfl ?_
        refine g_istore_n (pc' := 15) B [(2, .int (iI y)), (4, .int (iI (x % y))), (3, .int (iI y)), (0, .int (iI a)), (1, .int (iI b))] dX12_common_14 rfl rfl (by decide) rfl ?_
        refine g_iload (pc' := 17) B 1 rfl dX12_common_15 rfl ?_
        refine g_istore_n (pc' := 18) B [(3, .int (iI (x % y))), (2, .int (iI y)), (4, .int (iI (x % y))), (0, .int (iI a)), (1, .int (iI b))] dX12_common_17 rfl rfl (by decide) rfl ?_
        refine g_goto (pc' := 4) B dX12_common_18 (by decide) ?_
        refine g_loc B [(3, .int (iI (x % y))), (2, .int (iI y)), (0, .int (iI a)), (1, .int (iI b))] [0, 1, 3, 4] rfl ?_
        exact ih4 _ (by omega) y (x % y) rfl (by omega) (by omega) (by rw [← i3]; exact gc_step i1.1 (by omega))
  exact L4 _ a b rfl (by omega) (by omega) (by rfl)
set_option maxRecDepth 100000 in
set_option maxHeartbeats 4000000 in
theorem c_X12_isField (l : Launch) (K : WK) (σ : SG) {D : SG} (hM : mD σ D) (hF : okF D) (hR : okR D) (hO : okQ D) (hH : okH D) {f : Int} (hf : -2147483648 ≤ f ∧ f < 2147483648) : MI l yX12_isField cX12_isField 2 (some .boolean) 1 25 K σ [.ref (K.2.2 57), .int (iI f)] (fun z τ => σ = τ ∧ (((0 ≤ f ∧ f < D 9 0) ∧ z = 1) ∨ (¬ (0 ≤ f ∧ f < D 9 0) ∧ z = 0))) := by
  refine met_of [(0, .ref (K.2.2 57)), (1, .int (iI f))] (by decide +kernel) (Nat.le_of_ble_eq_true rfl) rfl ?_
  intro pP eE sS mM bW mT cC B hrt hlk
  replace B : CB pP sS mM [.ref (K.2.2 57), .int (iI f)].toArray cC cX12_isField RX12 2 K := B
  obtain ⟨hF0, hF1⟩ := id hF
  obtain ⟨hO0, hO1⟩ := id hO
  obtain ⟨hH0, hH1⟩ := id hH
  obtain ⟨hR0, hR1⟩ := id hR
  refine g_iload_n (pc' := 1) B 1 rfl rfl dX12_isField_0 rfl ?_
  refine g_i2l (pc' := 2) B (by omega) dX12_isField_1 rfl ?_
  refine g_lconst (z := 0) (pc' := 3) B (by decide +kernel) dX12_isField_2 rfl ?_
  refine g_aload_n (pc' := 4) B 0 rfl rfl dX12_isField_3 rfl ?_
  refine g_get (pc' := 7) B (D 9 0) hM.1 fl_X12_131 rfl rfl dX12_isField_4 rfl ?_
  refine g_iconst (pc' := 8) B dX12_isField_7 rfl ?_
  refine g_isub (pc' := 9) B dX12_isField_8 rfl ?_
  refine g_i2l (pc' := 10) B (by omega) dX12_isField_9 rfl ?_
  refine g_callSI (pc' := 13) (As := [.long (lI f), .long (lI 0), .long (lI ((D 9 0) - 1))]) B (c_X12_in l K _ (v := f) (a := 0) (b := (D 9 0) - 1) (by omega) (by omega) (by omega)) st_X12_in tw_1041 ⟨by decide, by decide⟩ rfl (Nat.le_of_ble_eq_true rfl) ⟨Nat.zero_le _, Nat.zero_le _⟩ rfl dX12_isField_10 rfl (fun z10 τ10 h10 => ?_)
  obtain ⟨rfl, h10⟩ := h10
  rcases h10 with ⟨h10, rfl⟩ | ⟨h10, rfl⟩
  · exact g_iret (z := 1) B hrt rfl hlk dX12_isField_13 ⟨rfl, by omega⟩
  · exact g_iret (z := 0) B hrt rfl hlk dX12_isField_13 ⟨rfl, by omega⟩
set_option maxRecDepth 100000 in
set_option maxHeartbeats 4000000 in
theorem c_X12_heightBy (l : Launch) (K : WK) (σ : SG) {b n q s x : Int} (hb : 0 ≤ b ∧ b ≤ 99) (hn : 2 ≤ n ∧ n ≤ 12) (hq : 0 ≤ q ∧ q ≤ 11) (hs : 0 ≤ s ∧ s ≤ 9) (hx : 0 ≤ x ∧ x ≤ 100000000) : MI l yX12_heightBy cX12_heightBy 6 (some .int) 0 0 K σ [.int (iI b), .int (iI n), .int (iI q), .int (iI s), .int (iI x)] (fun z τ => σ = τ ∧ z = b + s * min ((x + q) % n) (n - (x + q) % n)) := by
  refine met_of [(0, .int (iI b)), (1, .int (iI n)), (2, .int (iI q)), (3, .int (iI s)), (4, .int (iI x))] (by decide +kernel) (Nat.le_of_ble_eq_true rfl) rfl ?_
  intro pP eE sS mM bW mT cC B hrt hlk
  replace B : CB pP sS mM [.int (iI b), .int (iI n), .int (iI q), .int (iI s), .int (iI x)].toArray cC cX12_heightBy RX12 6 K := B
  refine g_iload (pc' := 2) B 4 rfl dX12_heightBy_0 rfl ?_
  refine g_iload_n (pc' := 3) B 2 rfl rfl dX12_heightBy_2 rfl ?_
  refine g_iadd (pc' := 4) B dX12_heightBy_3 rfl ?_
  refine g_iload_n (pc' := 5) B 1 rfl rfl dX12_heightBy_4 rfl ?_
  refine g_irem (pc' := 6) B (by omega) (by omega) dX12_heightBy_5 rfl ?_
  have hm1 := Int.emod_nonneg (x + q) (show n ≠ 0 by omega)
  have hm2 := Int.emod_lt_of_pos (x + q) (show 0 < n by omega)
  refine g_istore (pc' := 8) B [(5, .int (iI ((x + q) % n))), (0, .int (iI b)), (1, .int (iI n)), (2, .int (iI q)), (3, .int (iI s)), (4, .int (iI x))] dX12_heightBy_6 rfl (by decide) rfl ?_
  refine g_iload_n (pc' := 9) B 1 rfl rfl dX12_heightBy_8 rfl ?_
  refine g_iload_n (pc' := 10) B 4 rfl rfl dX12_heightBy_9 rfl ?_
  refine g_iload (pc' := 12) B 0 rfl dX12_heightBy_10 rfl ?_
  refine g_iload_n (pc' := 13) B 2 rfl rfl dX12_heightBy_12 rfl ?_
  refine g_iload (pc' := 15) B 0 rfl dX12_heightBy_13 rfl ?_
  refine g_isub (pc' := 16) B dX12_heightBy_15 rfl ?_
  refine g_icmp_ge (pc' := 19) B 24 (by omega) (by omega) dX12_heightBy_16 (by decide) rfl (fun c16 => ?_) (fun c16 => ?_)
  · refine g_iload_n (pc' := 25) B 2 rfl rfl dX12_heightBy_24 rfl ?_
    refine g_iload (pc' := 27) B 0 rfl dX12_heightBy_25 rfl ?_
    refine g_isub (pc' := 28) B dX12_heightBy_27 rfl ?_
    have hq9 : 0 ≤ s * (n - ((x + q) % n)) ∧ s * (n - ((x + q) % n)) ≤ 9 * 12 := ⟨Int.mul_nonneg (by omega) (by omega), Int.mul_le_mul (by omega) (by omega) (by omega) (by omega)⟩
    refine g_imul (pc' := 29) B dX12_heightBy_28 rfl ?_
    refine g_iadd (pc' := 30) B dX12_heightBy_29 rfl ?_
    exact g_iret (z := b + (s * (n - ((x + q) % n)))) B hrt rfl hlk dX12_heightBy_30 ⟨rfl, by first | rw [Int.min_eq_left (by omega)] | rw [Int.min_eq_right (by omega)]⟩
  · refine g_iload (pc' := 21) B 0 rfl dX12_heightBy_19 rfl ?_
    refine g_goto (pc' := 28) B dX12_heightBy_21 (by decide) ?_
    have hq9 : 0 ≤ s * ((x + q) % n) ∧ s * ((x + q) % n) ≤ 9 * 12 := ⟨Int.mul_nonneg (by omega) (by omega), Int.mul_le_mul (by omega) (by omega) (by omega) (by omega)⟩
    refine g_imul (pc' := 29) B dX12_heightBy_28 rfl ?_
    refine g_iadd (pc' := 30) B dX12_heightBy_29 rfl ?_
    exact g_iret (z := b + (s * ((x + q) % n))) B hrt rfl hlk dX12_heightBy_30 ⟨rfl, by first | rw [Int.min_eq_left (by omega)] | rw [Int.min_eq_right (by omega)]⟩
set_option maxRecDepth 100000 in
set_option maxHeartbeats 4000000 in
theorem c_X12_heightOf (l : Launch) (K : WK) (σ : SG) {D : SG} (hM : mD σ D) (hF : okF D) (hR : okR D) (hO : okQ D) (hH : okH D) {f x : Int} (hf : 0 ≤ f ∧ f < D 9 0) (hx : 0 ≤ x ∧ x ≤ 100000000) : MI l yX12_heightOf cX12_heightOf 3 (some .int) 1 25 K σ [.ref (K.2.2 57), .int (iI f), .int (iI x)] (fun z τ => σ = τ ∧ z = hgt D f x) := by
  refine met_of [(0, .ref (K.2.2 57)), (1, .int (iI f)), (2, .int (iI x))] (by decide +kernel) (Nat.le_of_ble_eq_true rfl) rfl ?_
  intro pP eE sS mM bW mT cC B hrt hlk
  replace B : CB pP sS mM [.ref (K.2.2 57), .int (iI f), .int (iI x)].toArray cC cX12_heightOf RX12 3 K := B
  obtain ⟨hF0, hF1⟩ := id hF
  obtain ⟨hO0, hO1⟩ := id hO
  obtain ⟨hH0, hH1⟩ := id hH
  obtain ⟨hR0, hR1⟩ := id hR
  have hf9 := hF1 f hf.1 hf.2
  refine g_aload_n (pc' := 1) B 0 rfl rfl dX12_heightOf_0 rfl ?_
  refine g_getR (pc' := 4) B 60 fl_X12_17 rfl rfl dX12_heightOf_1 rfl ?_
  refine g_iconst (pc' := 5) B dX12_heightOf_4 rfl ?_
  refine g_iload_n (pc' := 6) B 1 rfl rfl dX12_heightOf_5 rfl ?_
  refine g_imul (pc' := 7) B dX12_heightOf_6 rfl ?_
  refine g_iald (pc' := 8) B (D 0 f) (hM.2.2.2.2.1 f (by omega) (by omega)).1 rfl (by omega) (by decide) dX12_heightOf_7 rfl ?_
  refine g_aload_n (pc' := 9) B 0 rfl rfl dX12_heightOf_8 rfl ?_
  refine g_getR (pc' := 12) B 60 fl_X12_17 rfl rfl dX12_heightOf_9 rfl ?_
  refine g_iconst (pc' := 13) B dX12_heightOf_12 rfl ?_
  refine g_iload_n (pc' := 14) B 1 rfl rfl dX12_heightOf_13 rfl ?_
  refine g_imul (pc' := 15) B dX12_heightOf_14 rfl ?_
  refine g_iconst (pc' := 16) B dX12_heightOf_15 rfl ?_
  refine g_iadd (pc' := 17) B dX12_heightOf_16 rfl ?_
  refine g_iald (pc' := 18) B (D 1 f) (hM.2.2.2.2.1 f (by omega) (by omega)).2.1 rfl (by omega) (by decide) dX12_heightOf_17 rfl ?_
  refine g_aload_n (pc' := 19) B 0 rfl rfl dX12_heightOf_18 rfl ?_
  refine g_getR (pc' := 22) B 60 fl_X12_17 rfl rfl dX12_heightOf_19 rfl ?_
  refine g_iconst (pc' := 23) B dX12_heightOf_22 rfl ?_
  refine g_iload_n (pc' := 24) B 1 rfl rfl dX12_heightOf_23 rfl ?_
  refine g_imul (pc' := 25) B dX12_heightOf_24 rfl ?_
  refine g_iconst (pc' := 26) B dX12_heightOf_25 rfl ?_
  refine g_iadd (pc' := 27) B dX12_heightOf_26 rfl ?_
  refine g_iald (pc' := 28) B (D 2 f) (hM.2.2.2.2.1 f (by omega) (by omega)).2.2.1 rfl (by omega) (by decide) dX12_heightOf_27 rfl ?_
  refine g_aload_n (pc' := 29) B 0 rfl rfl dX12_heightOf_28 rfl ?_
  refine g_getR (pc' := 32) B 60 fl_X12_17 rfl rfl dX12_heightOf_29 rfl ?_
  refine g_iconst (pc' := 33) B dX12_heightOf_32 rfl ?_
  refine g_iload_n (pc' := 34) B 1 rfl rfl dX12_heightOf_33 rfl ?_
  refine g_imul (pc' := 35) B dX12_heightOf_34 rfl ?_
  refine g_iconst (pc' := 36) B dX12_heightOf_35 rfl ?_
  refine g_iadd (pc' := 37) B dX12_heightOf_36 rfl ?_
  refine g_iald (pc' := 38) B (D 3 f) (hM.2.2.2.2.1 f (by omega) (by omega)).2.2.2 rfl (by omega) (by decide) dX12_heightOf_37 rfl ?_
  refine g_iload_n (pc' := 39) B 2 rfl rfl dX12_heightOf_38 rfl ?_
  refine g_callSI (pc' := 42) (As := [.int (iI (D 0 f)), .int (iI (D 1 f)), .int (iI (D 2 f)), .int (iI (D 3 f)), .int (iI x)]) B (c_X12_heightBy l K _ (b := D 0 f) (n := D 1 f) (q := D 2 f) (s := D 3 f) (x := x) (by omega) (by omega) (by omega) (by omega) (by omega)) st_X12_heightBy tw_1119 ⟨by decide, by decide⟩ rfl (Nat.le_of_ble_eq_true rfl) ⟨Nat.zero_le _, Nat.zero_le _⟩ rfl dX12_heightOf_39 rfl (fun z39 τ39 h39 => ?_)
  obtain ⟨rfl, rfl⟩ := h39
  exact g_iret (z := (D 0 f) + (D 3 f) * min ((x + (D 2 f)) % (D 1 f)) ((D 1 f) - (x + (D 2 f)) % (D 1 f))) B hrt rfl hlk dX12_heightOf_42 ⟨rfl, rfl⟩
