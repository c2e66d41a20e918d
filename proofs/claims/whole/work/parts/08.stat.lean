theorem xor_neg (x y : Int32) (hy : 0 ≤ y.toInt) : (x ^^^ y).toInt < 0 ↔ x.toInt < 0 := by
  have e : ∀ w : Int32, (w.toInt < 0) = (w.toBitVec.msb = true) := by
    intro w
    rw [BitVec.msb_eq_toInt]
    simp
  have hy2 : y.toBitVec.msb = false := by
    cases h : y.toBitVec.msb with
    | false => rfl
    | true => have := (e y).mpr h; omega
  rw [e, e, show (x ^^^ y).toBitVec = x.toBitVec ^^^ y.toBitVec from rfl, BitVec.msb_xor, hy2]
  simp
theorem tmod_fix {x y : Int} (hy : 0 < y) : (0 ≤ x → x % y = x.tmod y) ∧ (x < 0 → (x.tmod y = 0 → x % y = 0) ∧ (x.tmod y ≠ 0 → x % y = x.tmod y + y)) ∧ (-y < x.tmod y ∧ x.tmod y < y) := by
  have h1 := Int.emod_nonneg x (show y ≠ 0 by omega)
  have h2 := Int.emod_lt_of_pos x hy
  have h3 := Int.tmod_eq_emod (a := x) (b := y)
  by_cases h : 0 ≤ x
  · rw [if_pos (Or.inl h)] at h3
    omega
  · by_cases h4 : y ∣ x
    · rw [if_pos (Or.inr h4)] at h3
      have h5 := Int.emod_eq_zero_of_dvd h4
      omega
    · rw [if_neg (by intro q; rcases q with q | q; exact h q; exact h4 q)] at h3
      omega
set_option maxRecDepth 100000 in
set_option maxHeartbeats 4000000 in
theorem c_X11_isOutside (l : Launch) (K : WK) (σ : SG) {v low high : Int} (hv : -2147483648 ≤ v ∧ v < 2147483648) (hlow : -2147483648 ≤ low ∧ low < 2147483648) (hhigh : -2147483648 ≤ high ∧ high < 2147483648) : MI l yX11_isOutside cX11_isOutside 3 (some .boolean) 0 0 K σ [.int (iI v), .int (iI low), .int (iI high)] (fun z τ => σ = τ ∧ (((v < low ∨ high < v) ∧ z = 1) ∨ (¬ (v < low ∨ high < v) ∧ z = 0))) := by
  refine met_of [(0, .int (iI v)), (1, .int (iI low)), (2, .int (iI high))] (by decide +kernel) (Nat.le_of_ble_eq_true rfl) rfl ?_
  intro pP eE sS mM bW mT cC B hrt hlk
  replace B : CB pP sS mM [.int (iI v), .int (iI low), .int (iI high)].toArray cC cX11_isOutside RX11 3 K := B
  refine g_iload_n (pc' := 1) B 0 rfl rfl dX11_isOutside_0 rfl ?_
  refine g_iload_n (pc' := 2) B 1 rfl rfl dX11_isOutside_1 rfl ?_
  refine g_icmp_lt (pc' := 5) B 10 (by omega) (by omega) dX11_isOutside_2 (by decide) rfl (fun c2 => ?_) (fun c2 => ?_)
  · refine g_iconst (pc' := 11) B dX11_isOutside_10 rfl ?_
    refine g_goto (pc' := 15) B dX11_isOutside_11 (by decide) ?_
    exact g_iret (z := 1) B hrt rfl hlk dX11_isOutside_15 ⟨rfl, by omega⟩
  · refine g_iload_n (pc' := 6) B 0 rfl rfl dX11_isOutside_5 rfl ?_
    refine g_iload_n (pc' := 7) B 2 rfl rfl dX11_isOutside_6 rfl ?_
    refine g_icmp_le (pc' := 10) B 14 (by omega) (by omega) dX11_isOutside_7 (by decide) rfl (fun c7 => ?_) (fun c7 => ?_)
    · refine g_iconst (pc' := 15) B dX11_isOutside_14 rfl ?_
      exact g_iret (z := 0) B hrt rfl hlk dX11_isOutside_15 ⟨rfl, by omega⟩
    · refine g_iconst (pc' := 11) B dX11_isOutside_10 rfl ?_
      refine g_goto (pc' := 15) B dX11_isOutside_11 (by decide) ?_
      exact g_iret (z := 1) B hrt rfl hlk dX11_isOutside_15 ⟨rfl, by omega⟩
set_option maxRecDepth 100000 in
set_option maxHeartbeats 4000000 in
theorem c_J9_floorMod_7cf53 (l : Launch) (K : WK) (σ : SG) {x y : Int} (hx : -2147483648 ≤ x ∧ x < 2147483648) (hy : 0 < y ∧ y < 2147483648) : MI l yJ9_floorMod_7cf53 cJ9_floorMod_7cf53 3 (some .int) 0 0 K σ [.int (iI x), .int (iI y)] (fun z τ => σ = τ ∧ z = x % y) := by
  refine met_of [(0, .int (iI x)), (1, .int (iI y))] (by decide +kernel) (Nat.le_of_ble_eq_true rfl) rfl ?_
  intro pP eE sS mM bW mT cC B hrt hlk
  replace B : CB pP sS mM [.int (iI x), .int (iI y)].toArray cC cJ9_floorMod_7cf53 RJ9 3 K := B
  refine g_iload_n (pc' := 1) B 0 rfl rfl dJ9_floorMod_7cf53_0 rfl ?_
  refine g_iload_n (pc' := 2) B 1 rfl rfl dJ9_floorMod_7cf53_1 rfl ?_
  refine g_trem (pc' := 3) B (by omega) (by omega) dJ9_floorMod_7cf53_2 rfl ?_
  refine g_istore_n (pc' := 4) B [(2, .int (iI (x.tmod y))), (0, .int (iI x)), (1, .int (iI y))] dJ9_floorMod_7cf53_3 rfl rfl (by decide) rfl ?_
  obtain ⟨hf1, hf2, hf3⟩ := tmod_fix (x := x) hy.1
  have hx2 : (iI x ^^^ iI y).toInt < 0 ↔ x < 0 := by have q := xor_neg (iI x) (iI y) (by rw [iI_toInt (by omega)]; omega); rwa [iI_toInt hx] at q
  refine g_iload_n (pc' := 5) B 1 rfl rfl dJ9_floorMod_7cf53_4 rfl ?_
  refine g_iload_n (pc' := 6) B 2 rfl rfl dJ9_floorMod_7cf53_5 rfl ?_
  refine g_ixor (pc' := 7) B ((iI x ^^^ iI y).toInt) ((iI_of _).symm) dJ9_floorMod_7cf53_6 rfl ?_
  refine g_if_ge (pc' := 10) B 18 (by exact iI_rng _) dJ9_floorMod_7cf53_7 (by decide) rfl (fun c7 => ?_) (fun c7 => ?_)
  · refine g_iload_n (pc' := 19) B 0 rfl rfl dJ9_floorMod_7cf53_18 rfl ?_
    exact g_iret (z := x.tmod y) B hrt rfl hlk dJ9_floorMod_7cf53_19 ⟨rfl, by omega⟩
  · refine g_iload_n (pc' := 11) B 0 rfl rfl dJ9_floorMod_7cf53_10 rfl ?_
    refine g_if_eq (pc' := 14) B 18 (by omega) dJ9_floorMod_7cf53_11 (by decide) rfl (fun c11 => ?_) (fun c11 => ?_)
    · refine g_iload_n (pc' := 19) B 0 rfl rfl dJ9_floorMod_7cf53_18 rfl ?_
      exact g_iret (z := x.tmod y) B hrt rfl hlk dJ9_floorMod_7cf53_19 ⟨rfl, by omega⟩
    · refine g_iload_n (pc' := 15) B 0 rfl rfl dJ9_floorMod_7cf53_14 rfl ?_
      refine g_iload_n (pc' := 16) B 2 rfl rfl dJ9_floorMod_7cf53_15 rfl ?_
      refine g_iadd (pc' := 17) B dJ9_floorMod_7cf53_16 rfl ?_
      exact g_iret (z := (x.tmod y) + y) B hrt rfl hlk dJ9_floorMod_7cf53_17 ⟨rfl, by omega⟩
set_option maxRecDepth 100000 in
set_option maxHeartbeats 4000000 in
theorem c_X11_swell (l : Launch) (K : WK) (σ : SG) {x n : Int} (hx : -2147483648 ≤ x ∧ x < 2147483648) (hn : 1 ≤ n ∧ n < 2147483648) : MI l yX11_swell cX11_swell 3 (some .int) 1 22 K σ [.int (iI x), .int (iI n)] (fun z τ => σ = τ ∧ z = min (x % n) (n - x % n)) := by
  refine met_of [(0, .int (iI x)), (1, .int (iI n))] (by decide +kernel) (Nat.le_of_ble_eq_true rfl) rfl ?_
  intro pP eE sS mM bW mT cC B hrt hlk
  replace B : CB pP sS mM [.int (iI x), .int (iI n)].toArray cC cX11_swell RX11 3 K := B
  refine g_iload_n (pc' := 1) B 1 rfl rfl dX11_swell_0 rfl ?_
  refine g_iconst (pc' := 2) B dX11_swell_1 rfl ?_
  refine g_icmp_ge (pc' := 5) B 7 (by omega) (by omega) dX11_swell_2 (by decide) rfl (fun c2 => ?_) (fun c2 => by exfalso; omega)
  refine g_iload_n (pc' := 8) B 0 rfl rfl dX11_swell_7 rfl ?_
  refine g_iload_n (pc' := 9) B 1 rfl rfl dX11_swell_8 rfl ?_
  refine g_callSI (pc' := 12) (As := [.int (iI x), .int (iI n)]) B (c_J9_floorMod_7cf53 l K _ (x := x) (y := n) (by omega) (by omega)) st_J9_floorMod_7cf53 tw_521 ⟨by decide, by decide⟩ rfl (Nat.le_of_ble_eq_true rfl) ⟨Nat.zero_le _, Nat.zero_le _⟩ rfl dX11_swell_9 rfl (fun z9 τ9 h9 => ?_)
  obtain ⟨rfl, rfl⟩ := h9
  refine g_istore_n (pc' := 13) B [(2, .int (iI (x % n))), (0, .int (iI x)), (1, .int (iI n))] dX11_swell_12 rfl rfl (by decide) rfl ?_
  have hm1 := Int.emod_nonneg x (show n ≠ 0 by omega)
  have hm2 := Int.emod_lt_of_pos x (show 0 < n by omega)
  refine g_iload_n (pc' := 14) B 0 rfl rfl dX11_swell_13 rfl ?_
  refine g_iload_n (pc' := 15) B 2 rfl rfl dX11_swell_14 rfl ?_
  refine g_iload_n (pc' := 16) B 0 rfl rfl dX11_swell_15 rfl ?_
  refine g_isub (pc' := 17) B dX11_swell_16 rfl ?_
  refine g_mmin (pc' := 20) B (by omega) (by omega) tw_522 (by decide) (Nat.le_of_ble_eq_true rfl) (Nat.zero_le _) (Nat.zero_le _) dX11_swell_17 rfl ?_
  exact g_iret (z := min (x % n) (n - (x % n))) B hrt rfl hlk dX11_swell_20 ⟨rfl, rfl⟩
def bes (f way : Int) : Int := if way = 1 then f - 1 else if way = 2 then f + 1 else f
set_option maxRecDepth 100000 in
set_option maxHeartbeats 4000000 in
theorem c_X11_besideOf (l : Launch) (K : WK) (σ : SG) {f way : Int} (hf : -2147483648 ≤ f ∧ f < 2147483648) (hway : -2147483648 ≤ way ∧ way < 2147483648) : MI l yX11_besideOf cX11_besideOf 2 (some .int) 0 0 K σ [.int (iI f), .int (iI way)] (fun z τ => σ = τ ∧ z = bes f way) := by
  refine met_of [(0, .int (iI f)), (1, .int (iI way))] (by decide +kernel) (Nat.le_of_ble_eq_true rfl) rfl ?_
  intro pP eE sS mM bW mT cC B hrt hlk
  replace B : CB pP sS mM [.int (iI f), .int (iI way)].toArray cC cX11_besideOf RX11 2 K := B
  refine g_iload_n (pc' := 1) B 1 rfl rfl dX11_besideOf_0 rfl ?_
  refine g_iconst (pc' := 2) B dX11_besideOf_1 rfl ?_
  refine g_icmp_ne (pc' := 5) B 9 (by omega) (by omega) dX11_besideOf_2 (by decide) rfl (fun c2 => ?_) (fun c2 => ?_)
  · refine g_iload_n (pc' := 10) B 1 rfl rfl dX11_besideOf_9 rfl ?_
    refine g_iconst (pc' := 11) B dX11_besideOf_10 rfl ?_
    refine g_icmp_ne (pc' := 14) B 20 (by omega) (by omega) dX11_besideOf_11 (by decide) rfl (fun c11 => ?_) (fun c11 => ?_)
    · refine g_iload_n (pc' := 21) B 0 rfl rfl dX11_besideOf_20 rfl ?_
      exact g_iret (z := f) B hrt rfl hlk dX11_besideOf_21 ⟨rfl, by unfold bes; split <;> (try split) <;> omega⟩
    · refine g_iload_n (pc' := 15) B 0 rfl rfl dX11_besideOf_14 rfl ?_
      refine g_iconst (pc' := 16) B dX11_besideOf_15 rfl ?_
      refine g_iadd (pc' := 17) B dX11_besideOf_16 rfl ?_
      refine g_goto (pc' := 21) B dX11_besideOf_17 (by decide) ?_
      exact g_iret (z := f + 1) B hrt rfl hlk dX11_besideOf_21 ⟨rfl, by unfold bes; split <;> (try split) <;> omega⟩
  · refine g_iload_n (pc' := 6) B 0 rfl rfl dX11_besideOf_5 rfl ?_
    refine g_iconst (pc' := 7) B dX11_besideOf_6 rfl ?_
    refine g_isub (pc' := 8) B dX11_besideOf_7 rfl ?_
    exact g_iret (z := f - 1) B hrt rfl hlk dX11_besideOf_8 ⟨rfl, by unfold bes; split <;> (try split) <;> omega⟩
def lc (a b : Int) : Int := ((Nat.lcm a.toNat b.toNat : Nat) : Int)
theorem lc_char {a b t : Int} (ha : 1 ≤ a) (hb : 1 ≤ b) (ht : 1 ≤ t) (hd : a * t % b = 0) (hmin : ∀ u : Int, 1 ≤ u → u < t → a * u % b ≠ 0) : a * t = lc a b := by
  obtain ⟨A, rfl⟩ : ∃ A : Nat, a = A := ⟨a.toNat, by omega⟩
  obtain ⟨B, rfl⟩ : ∃ B : Nat, b = B := ⟨b.toNat, by omega⟩
  obtain ⟨T, rfl⟩ : ∃ T : Nat, t = T := ⟨t.toNat, by omega⟩
  have hA : 0 < A := by omega
  have hdN : B ∣ A * T := by
    have h1 : (A * T) % B = 0 := by
      have h2 : (((A * T) % B : Nat) : Int) = 0 := by rw [← hd]; simp
      exact_mod_cast h2
    exact Nat.dvd_of_mod_eq_zero h1
  obtain ⟨u, hu⟩ := Nat.dvd_lcm_left A B
  have hB : B ∣ A * u := by rw [← hu]; exact Nat.dvd_lcm_right A B
  have hu0 : 0 < u := by
    rcases Nat.eq_zero_or_pos u with h | h
    · subst h
      have : Nat.lcm A B = 0 := by rw [hu]; simp
      have hp := Nat.lcm_pos hA (show 0 < B by omega)
      omega
    · exact h
  have h1 : Nat.lcm A B ∣ A * T := Nat.lcm_dvd ⟨T, rfl⟩ hdN
  rw [hu] at h1
  have h2 : u ∣ T := Nat.dvd_of_mul_dvd_mul_left hA h1
  have h3 : u ≤ T := Nat.le_of_dvd (by omega) h2
  have h4 : ¬ u < T := by
    intro h
    refine hmin u (by omega) (by omega) ?_
    have h5 := Nat.mod_eq_zero_of_dvd hB
    have h6 : (((A * u) % B : Nat) : Int) = 0 := by rw [h5]; rfl
    simpa using h6
  have h5 : u = T := by omega
  subst h5
  show ((A : Int) * u) = ((Nat.lcm A B : Nat) : Int)
  rw [hu]
  simp
set_option maxRecDepth 100000 in
set_option maxHeartbeats 4000000 in
theorem c_X11_leastCommon (l : Launch) (K : WK) (σ : SG) {a b : Int} (ha : 1 ≤ a ∧ a ≤ 100000) (hb : 1 ≤ b ∧ b ≤ 12) : MI l yX11_leastCommon cX11_leastCommon 3 (some .int) 0 0 K σ [.int (iI a), .int (iI b)] (fun z τ => σ = τ ∧ z = lc a b) := by
  refine met_of [(0, .int (iI a)), (1, .int (iI b))] (by decide +kernel) (Nat.le_of_ble_eq_true rfl) rfl ?_
  intro pP eE sS mM bW mT cC B hrt hlk
  replace B : CB pP sS mM [.int (iI a), .int (iI b)].toArray cC cX11_leastCommon RX11 3 K := B
  refine g_iload_n (pc' := 1) B 1 rfl rfl dX11_leastCommon_0 rfl ?_
  refine g_iconst (pc' := 2) B dX11_leastCommon_1 rfl ?_
  refine g_icmp_ge (pc' := 5) B 7 (by omega) (by omega) dX11_leastCommon_2 (by decide) rfl (fun c2 => ?_) (fun c2 => by exfalso; omega)
  refine g_iconst (pc' := 8) B dX11_leastCommon_7 rfl ?_
  refine g_istore_n (pc' := 9) B [(2, .int (iI 1)), (0, .int (iI a)), (1, .int (iI b))] dX11_leastCommon_8 rfl rfl (by decide) rfl ?_
  have L9 : ∀ (nn : Nat) (t : Int) , (b - t).toNat = nn → (1 ≤ t ∧ t ≤ b) → (∀ u : Int, 1 ≤ u → u < t → a * u % b ≠ 0) → G pP l eE (rmo 0 0) sS mM [.int (iI a), .int (iI b)].toArray bW mT cC 0 0 (MQ bW (Qi K (fun z τ => σ = τ ∧ z = lc a b)) [.int (iI a), .int (iI b)].toArray sS 0 0 (wA K)) K sS.heap 3 σ 9 [(2, .int (iI t)), (0, .int (iI a)), (1, .int (iI b))] [] := by
    intro nn
    induction nn using Nat.strongRecOn with
    | _ nn ih9 =>
      intro t hn9 i1 i2
      refine g_iload_n (pc' := 10) B 0 rfl rfl dX11_leastCommon_9 rfl ?_
      refine g_iload_n (pc' := 11) B 2 rfl rfl dX11_leastCommon_10 rfl ?_
      refine g_icmp_ge (pc' := 14) B 32 (by omega) (by omega) dX11_leastCommon_11 (by decide) rfl (fun c11 => ?_) (fun c11 => ?_)
      · refine g_iload_n (pc' := 33) B 1 rfl rfl dX11_leastCommon_32 rfl ?_
        refine g_iload_n (pc' := 34) B 2 rfl rfl dX11_leastCommon_33 rfl ?_
        refine g_imul (pc' := 35) B dX11_leastCommon_34 rfl ?_
        exact g_iret (z := a * b) B hrt rfl hlk dX11_leastCommon_35 ⟨rfl, by obtain rfl : t = b := (by omega); exact lc_char ha.1 hb.1 i1.1 (Int.mul_emod_left a t) i2⟩
      · refine g_iload_n (pc' := 15) B 1 rfl rfl dX11_leastCommon_14 rfl ?_
        refine g_iload_n (pc' := 16) B 0 rfl rfl dX11_leastCommon_15 rfl ?_
        have hm1 : 0 ≤ a * t := Int.mul_nonneg (by omega) (by omega)
        have hm2 : a * t ≤ 100000 * 12 := Int.mul_le_mul (by omega) (by omega) (by omega) (by omega)
        refine g_imul (pc' := 17) B dX11_leastCommon_16 rfl ?_
        refine g_iload_n (pc' := 18) B 2 rfl rfl dX11_leastCommon_17 rfl ?_
        refine g_irem (pc' := 19) B (by omega) (by omega) dX11_leastCommon_18 rfl ?_
        have hr1 := Int.emod_nonneg (a * t) (show b ≠ 0 by omega)
        have hr2 := Int.emod_lt_of_pos (a * t) (show 0 < b by omega)
        refine g_if_ne (pc' := 22) B 26 (by omega) dX11_leastCommon_19 (by decide) rfl (fun c19 => ?_) (fun c19 => ?_)
        · refine g_iinc (pc' := 29) B 0 [(2, .int (iI (t + 1))), (0, .int (iI a)), (1, .int (iI b))] dX11_leastCommon_26 rfl rfl (by decide) rfl ?_
          refine g_goto (pc' := 9) B dX11_leastCommon_29 (by decide) ?_
          exact ih9 _ (by omega) (t + 1) rfl (by omega) (by intro u h1 h2; by_cases h3 : u = t; (subst h3; exact c19); exact i2 u h1 (by omega))
        · refine g_iload_n (pc' := 23) B 1 rfl rfl dX11_leastCommon_22 rfl ?_
          refine g_iload_n (pc' := 24) B 0 rfl rfl dX11_leastCommon_23 rfl ?_
          refine g_imul (pc' := 25) B dX11_leastCommon_24 rfl ?_
          exact g_iret (z := a * t) B hrt rfl hlk dX11_leastCommon_25 ⟨rfl, lc_char ha.1 hb.1 i1.1 c19 i2⟩
  exact L9 _ 1 rfl (by omega) (by intro u h1 h2; omega)
def pcn (v : Int) : Int := v % 2 + v / 2 % 2 + v / 4 % 2 + v / 8 % 2 + v / 16 % 2 + v / 32 % 2 + v / 64 % 2 + v / 128 % 2
theorem bc_eq (f : Int → Int) (h : ∀ n : Fin 256, f (n.val : Int) = pcn (n.val : Int)) {v : Int} (h0 : 0 ≤ v) (h1 : v < 256) : f v = pcn v := by
  have e := h ⟨v.toNat, by omega⟩
  have e2 : ((v.toNat : Nat) : Int) = v := by omega
  simp only [e2] at e
  exact e
set_option maxRecDepth 100000 in
set_option maxHeartbeats 4000000 in
theorem c_J6_bitCount_0f7a4 (l : Launch) (K : WK) (σ : SG) {v : Int} (hv : 0 ≤ v ∧ v < 256) : MI l yJ6_bitCount_0f7a4 cJ6_bitCount_0f7a4 1 (some .int) 0 0 K σ [.int (iI v)] (fun z τ => σ = τ ∧ z = pcn v) := by
  refine met_of [(0, .int (iI v))] (by decide +kernel) (Nat.le_of_ble_eq_true rfl) rfl ?_
  intro pP eE sS mM bW mT cC B hrt hlk
  replace B : CB pP sS mM [.int (iI v)].toArray cC cJ6_bitCount_0f7a4 RJ6 1 K := B
  refine g_iload_n (pc' := 1) B 0 rfl rfl dJ6_bitCount_0f7a4_0 rfl ?_
  refine g_iload_n (pc' := 2) B 0 rfl rfl dJ6_bitCount_0f7a4_1 rfl ?_
  refine g_iconst (pc' := 3) B dJ6_bitCount_0f7a4_2 rfl ?_
  refine g_iushr (pc' := 4) B ((((iI v).toUInt32 >>> ((iI 1).toUInt32 &&& Int32.toUInt32 31)).toInt32).toInt) (iI_of _).symm dJ6_bitCount_0f7a4_3 rfl ?_
  refine g_ldcw (z := 1431655765) (pc' := 7) B tw_854 (by decide +kernel) dJ6_bitCount_0f7a4_4 rfl ?_
  refine g_iand (pc' := 8) B (((iI ((((iI v).toUInt32 >>> ((iI 1).toUInt32 &&& Int32.toUInt32 31)).toInt32).toInt)) &&& (iI 1431655765)).toInt) (iI_of _).symm dJ6_bitCount_0f7a4_7 rfl ?_
  refine g_isub (pc' := 9) B dJ6_bitCount_0f7a4_8 rfl ?_
  refine g_istore_n (pc' := 10) B [(0, .int (iI (v - (((iI ((((iI v).toUInt32 >>> ((iI 1).toUInt32 &&& Int32.toUInt32 31)).toInt32).toInt)) &&& (iI 1431655765)).toInt))))] dJ6_bitCount_0f7a4_9 rfl rfl (by decide) rfl ?_
  refine g_iload_n (pc' := 11) B 0 rfl rfl dJ6_bitCount_0f7a4_10 rfl ?_
  refine g_ldcw (z := 858993459) (pc' := 14) B tw_855 (by decide +kernel) dJ6_bitCount_0f7a4_11 rfl ?_
  refine g_iand (pc' := 15) B (((iI (v - (((iI ((((iI v).toUInt32 >>> ((iI 1).toUInt32 &&& Int32.toUInt32 31)).toInt32).toInt)) &&& (iI 1431655765)).toInt))) &&& (iI 858993459)).toInt) (iI_of _).symm dJ6_bitCount_0f7a4_14 rfl ?_
  refine g_iload_n (pc' := 16) B 0 rfl rfl dJ6_bitCount_0f7a4_15 rfl ?_
  refine g_iconst (pc' := 17) B dJ6_bitCount_0f7a4_16 rfl ?_
  refine g_iushr (pc' := 18) B ((((iI (v - (((iI ((((iI v).toUInt32 >>> ((iI 1).toUInt32 &&& Int32.toUInt32 31)).toInt32).toInt)) &&& (iI 1431655765)).toInt))).toUInt32 >>> ((iI 2).toUInt32 &&& Int32.toUInt32 31)).toInt32).toInt) (iI_of _).symm dJ6_bitCount_0f7a4_17 rfl ?_
  refine g_ldcw (z := 858993459) (pc' := 21) B tw_855 (by decide +kernel) dJ6_bitCount_0f7a4_18 rfl ?_
  refine g_iand (pc' := 22) B (((iI ((((iI (v - (((iI ((((iI v).toUInt32 >>> ((iI 1).toUInt32 &&& Int32.toUInt32 31)).toInt32).toInt)) &&& (iI 1431655765)).toInt))).toUInt32 >>> ((iI 2).toUInt32 &&& Int32.toUInt32 31)).toInt32).toInt)) &&& (iI 858993459)).toInt) (iI_of _).symm dJ6_bitCount_0f7a4_21 rfl ?_
  refine g_iadd (pc' := 23) B dJ6_bitCount_0f7a4_22 rfl ?_
  refine g_istore_n (pc' := 24) B [(0, .int (iI ((((iI (v - (((iI ((((iI v).toUInt32 >>> ((iI 1).toUInt32 &&& Int32.toUInt32 31)).toInt32).toInt)) &&& (iI 1431655765)).toInt))) &&& (iI 858993459)).toInt) + (((iI ((((iI (v - (((iI ((((iI v).toUInt32 >>> ((iI 1).toUInt32 &&& Int32.toUInt32 31)).toInt32).toInt)) &&& (iI 1431655765)).toInt))).toUInt32 >>> ((iI 2).toUInt32 &&& Int32.toUInt32 31)).toInt32).toInt)) &&& (iI 858993459)).toInt))))] dJ6_bitCount_0f7a4_23 rfl rfl (by decide) rfl ?_
  refine g_iload_n (pc' := 25) B 0 rfl rfl dJ6_bitCount_0f7a4_24 rfl ?_
  refine g_iload_n (pc' := 26) B 0 rfl rfl dJ6_bitCount_0f7a4_25 rfl ?_
  refine g_iconst (pc' := 27) B dJ6_bitCount_0f7a4_26 rfl ?_
  refine g_iushr (pc' := 28) B ((((iI ((((iI (v - (((iI ((((iI v).toUInt32 >>> ((iI 1).toUInt32 &&& Int32.toUInt32 31)).toInt32).toInt)) &&& (iI 1431655765)).toInt))) &&& (iI 858993459)).toInt) + (((iI ((((iI (v - (((iI ((((iI v).toUInt32 >>> ((iI 1).toUInt32 &&& Int32.toUInt32 31)).toInt32).toInt)) &&& (iI 1431655765)).toInt))).toUInt32 >>> ((iI 2).toUInt32 &&& Int32.toUInt32 31)).toInt32).toInt)) &&& (iI 858993459)).toInt))).toUInt32 >>> ((iI 4).toUInt32 &&& Int32.toUInt32 31)).toInt32).toInt) (iI_of _).symm dJ6_bitCount_0f7a4_27 rfl ?_
  refine g_iadd (pc' := 29) B dJ6_bitCount_0f7a4_28 rfl ?_
  refine g_ldcw (z := 252645135) (pc' := 32) B tw_856 (by decide +kernel) dJ6_bitCount_0f7a4_29 rfl ?_
  refine g_iand (pc' := 33) B (((iI (((((iI (v - (((iI ((((iI v).toUInt32 >>> ((iI 1).toUInt32 &&& Int32.toUInt32 31)).toInt32).toInt)) &&& (iI 1431655765)).toInt))) &&& (iI 858993459)).toInt) + (((iI ((((iI (v - (((iI ((((iI v).toUInt32 >>> ((iI 1).toUInt32 &&& Int32.toUInt32 31)).toInt32).toInt)) &&& (iI 1431655765)).toInt))).toUInt32 >>> ((iI 2).toUInt32 &&& Int32.toUInt32 31)).toInt32).toInt)) &&& (iI 858993459)).toInt)) + ((((iI ((((iI (v - (((iI ((((iI v).toUInt32 >>> ((iI 1).toUInt32 &&& Int32.toUInt32 31)).toInt32).toInt)) &&& (iI 1431655765)).toInt))) &&& (iI 858993459)).toInt) + (((iI ((((iI (v - (((iI ((((iI v).toUInt32 >>> ((iI 1).toUInt32 &&& Int32.toUInt32 31)).toInt32).toInt)) &&& (iI 1431655765)).toInt))).toUInt32 >>> ((iI 2).toUInt32 &&& Int32.toUInt32 31)).toInt32).toInt)) &&& (iI 858993459)).toInt))).toUInt32 >>> ((iI 4).toUInt32 &&& Int32.toUInt32 31)).toInt32).toInt))) &&& (iI 252645135)).toInt) (iI_of _).symm dJ6_bitCount_0f7a4_32 rfl ?_
  refine g_istore_n (pc' := 34) B [(0, .int (iI (((iI (((((iI (v - (((iI ((((iI v).toUInt32 >>> ((iI 1).toUInt32 &&& Int32.toUInt32 31)).toInt32).toInt)) &&& (iI 1431655765)).toInt))) &&& (iI 858993459)).toInt) + (((iI ((((iI (v - (((iI ((((iI v).toUInt32 >>> ((iI 1).toUInt32 &&& Int32.toUInt32 31)).toInt32).toInt)) &&& (iI 1431655765)).toInt))).toUInt32 >>> ((iI 2).toUInt32 &&& Int32.toUInt32 31)).toInt32).toInt)) &&& (iI 858993459)).toInt)) + ((((iI ((((iI (v - (((iI ((((iI v).toUInt32 >>> ((iI 1).toUInt32 &&& Int32.toUInt32 31)).toInt32).toInt)) &&& (iI 1431655765)).toInt))) &&& (iI 858993459)).toInt) + (((iI ((((iI (v - (((iI ((((iI v).toUInt32 >>> ((iI 1).toUInt32 &&& Int32.toUInt32 31)).toInt32).toInt)) &&& (iI 1431655765)).toInt))).toUInt32 >>> ((iI 2).toUInt32 &&& Int32.toUInt32 31)).toInt32).toInt)) &&& (iI 858993459)).toInt))).toUInt32 >>> ((iI 4).toUInt32 &&& Int32.toUInt32 31)).toInt32).toInt))) &&& (iI 252645135)).toInt)))] dJ6_bitCount_0f7a4_33 rfl rfl (by decide) rfl ?_
  refine g_iload_n (pc' := 35) B 0 rfl rfl dJ6_bitCount_0f7a4_34 rfl ?_
  refine g_iload_n (pc' := 36) B 0 rfl rfl dJ6_bitCount_0f7a4_35 rfl ?_
  refine g_bipush (pc' := 38) B (by decide +kernel) dJ6_bitCount_0f7a4_36 rfl ?_
  refine g_iushr (pc' := 39) B ((((iI (((iI (((((iI (v - (((iI ((((iI v).toUInt32 >>> ((iI 1).toUInt32 &&& Int32.toUInt32 31)).toInt32).toInt)) &&& (iI 1431655765)).toInt))) &&& (iI 858993459)).toInt) + (((iI ((((iI (v - (((iI ((((iI v).toUInt32 >>> ((iI 1).toUInt32 &&& Int32.toUInt32 31)).toInt32).toInt)) &&& (iI 1431655765)).toInt))).toUInt32 >>> ((iI 2).toUInt32 &&& Int32.toUInt32 31)).toInt32).toInt)) &&& (iI 858993459)).toInt)) + ((((iI ((((iI (v - (((iI ((((iI v).toUInt32 >>> ((iI 1).toUInt32 &&& Int32.toUInt32 31)).toInt32).toInt)) &&& (iI 1431655765)).toInt))) &&& (iI 858993459)).toInt) + (((iI ((((iI (v - (((iI ((((iI v).toUInt32 >>> ((iI 1).toUInt32 &&& Int32.toUInt32 31)).toInt32).toInt)) &&& (iI 1431655765)).toInt))).toUInt32 >>> ((iI 2).toUInt32 &&& Int32.toUInt32 31)).toInt32).toInt)) &&& (iI 858993459)).toInt))).toUInt32 >>> ((iI 4).toUInt32 &&& Int32.toUInt32 31)).toInt32).toInt))) &&& (iI 252645135)).toInt)).toUInt32 >>> ((iI 8).toUInt32 &&& Int32.toUInt32 31)).toInt32).toInt) (iI_of _).symm dJ6_bitCount_0f7a4_38 rfl ?_
  refine g_iadd (pc' := 40) B dJ6_bitCount_0f7a4_39 rfl ?_
  refine g_istore_n (pc' := 41) B [(0, .int (iI ((((iI (((((iI (v - (((iI ((((iI v).toUInt32 >>> ((iI 1).toUInt32 &&& Int32.toUInt32 31)).toInt32).toInt)) &&& (iI 1431655765)).toInt))) &&& (iI 858993459)).toInt) + (((iI ((((iI (v - (((iI ((((iI v).toUInt32 >>> ((iI 1).toUInt32 &&& Int32.toUInt32 31)).toInt32).toInt)) &&& (iI 1431655765)).toInt))).toUInt32 >>> ((iI 2).toUInt32 &&& Int32.toUInt32 31)).toInt32).toInt)) &&& (iI 858993459)).toInt)) + ((((iI ((((iI (v - (((iI ((((iI v).toUInt32 >>> ((iI 1).toUInt32 &&& Int32.toUInt32 31)).toInt32).toInt)) &&& (iI 1431655765)).toInt))) &&& (iI 858993459)).toInt) + (((iI ((((iI (v - (((iI ((((iI v).toUInt32 >>> ((iI 1).toUInt32 &&& Int32.toUInt32 31)).toInt32).toInt)) &&& (iI 1431655765)).toInt))).toUInt32 >>> ((iI 2).toUInt32 &&& Int32.toUInt32 31)).toInt32).toInt)) &&& (iI 858993459)).toInt))).toUInt32 >>> ((iI 4).toUInt32 &&& Int32.toUInt32 31)).toInt32).toInt))) &&& (iI 252645135)).toInt) + ((((iI (((iI (((((iI (v - (((iI ((((iI v).toUInt32 >>> ((iI 1).toUInt32 &&& Int32.toUInt32 31)).toInt32).toInt)) &&& (iI 1431655765)).toInt))) &&& (iI 858993459)).toInt) + (((iI ((((iI (v - (((iI ((((iI v).toUInt32 >>> ((iI 1).toUInt32 &&& Int32.toUInt32 31)).toInt32).toInt)) &&& (iI 1431655765)).toInt))).toUInt32 >>> ((iI 2).toUInt32 &&& Int32.toUInt32 31)).toInt32).toInt)) &&& (iI 858993459)).toInt)) + ((((iI ((((iI (v - (((iI ((((iI v).toUInt32 >>> ((iI 1).toUInt32 &&& Int32.toUInt32 31)).toInt32).toInt)) &&& (iI 1431655765)).toInt))) &&& (iI 858993459)).toInt) + (((iI ((((iI (v - (((iI ((((iI v).toUInt32 >>> ((iI 1).toUInt32 &&& Int32.toUInt32 31)).toInt32).toInt)) &&& (iI 1431655765)).toInt))).toUInt32 >>> ((iI 2).toUInt32 &&& Int32.toUInt32 31)).toInt32).toInt)) &&& (iI 858993459)).toInt))).toUInt32 >>> ((iI 4).toUInt32 &&& Int32.toUInt32 31)).toInt32).toInt))) &&& (iI 252645135)).toInt)).toUInt32 >>> ((iI 8).toUInt32 &&& Int32.toUInt32 31)).toInt32).toInt))))] dJ6_bitCount_0f7a4_40 rfl rfl (by decide) rfl ?_
  refine g_iload_n (pc' := 42) B 0 rfl rfl dJ6_bitCount_0f7a4_41 rfl ?_
  refine g_iload_n (pc' := 43) B 0 rfl rfl dJ6_bitCount_0f7a4_42 rfl ?_
  refine g_bipush (pc' := 45) B (by decide +kernel) dJ6_bitCount_0f7a4_43 rfl ?_
  refine g_iushr (pc' := 46) B ((((iI ((((iI (((((iI (v - (((iI ((((iI v).toUInt32 >>> ((iI 1).toUInt32 &&& Int32.toUInt32 31)).toInt32).toInt)) &&& (iI 1431655765)).toInt))) &&& (iI 858993459)).toInt) + (((iI ((((iI (v - (((iI ((((iI v).toUInt32 >>> ((iI 1).toUInt32 &&& Int32.toUInt32 31)).toInt32).toInt)) &&& (iI 1431655765)).toInt))).toUInt32 >>> ((iI 2).toUInt32 &&& Int32.toUInt32 31)).toInt32).toInt)) &&& (iI 858993459)).toInt)) + ((((iI ((((iI (v - (((iI ((((iI v).toUInt32 >>> ((iI 1).toUInt32 &&& Int32.toUInt32 31)).toInt32).toInt)) &&& (iI 1431655765)).toInt))) &&& (iI 858993459)).toInt) + (((iI ((((iI (v - (((iI ((((iI v).toUInt32 >>> ((iI 1).toUInt32 &&& Int32.toUInt32 31)).toInt32).toInt)) &&& (iI 1431655765)).toInt))).toUInt32 >>> ((iI 2).toUInt32 &&& Int32.toUInt32 31)).toInt32).toInt)) &&& (iI 858993459)).toInt))).toUInt32 >>> ((iI 4).toUInt32 &&& Int32.toUInt32 31)).toInt32).toInt))) &&& (iI 252645135)).toInt) + ((((iI (((iI (((((iI (v - (((iI ((((iI v).toUInt32 >>> ((iI 1).toUInt32 &&& Int32.toUInt32 31)).toInt32).toInt)) &&& (iI 1431655765)).toInt))) &&& (iI 858993459)).toInt) + (((iI ((((iI (v - (((iI ((((iI v).toUInt32 >>> ((iI 1).toUInt32 &&& Int32.toUInt32 31)).toInt32).toInt)) &&& (iI 1431655765)).toInt))).toUInt32 >>> ((iI 2).toUInt32 &&& Int32.toUInt32 31)).toInt32).toInt)) &&& (iI 858993459)).toInt)) + ((((iI ((((iI (v - (((iI ((((iI v).toUInt32 >>> ((iI 1).toUInt32 &&& Int32.toUInt32 31)).toInt32).toInt)) &&& (iI 1431655765)).toInt))) &&& (iI 858993459)).toInt) + (((iI ((((iI (v - (((iI ((((iI v).toUInt32 >>> ((iI 1).toUInt32 &&& Int32.toUInt32 31)).toInt32).toInt)) &&& (iI 1431655765)).toInt))).toUInt32 >>> ((iI 2).toUInt32 &&& Int32.toUInt32 31)).toInt32).toInt)) &&& (iI 858993459)).toInt))).toUInt32 >>> ((iI 4).toUInt32 &&& Int32.toUInt32 31)).toInt32).toInt))) &&& (iI 252645135)).toInt)).toUInt32 >>> ((iI 8).toUInt32 &&& Int32.toUInt32 31)).toInt32).toInt))).toUInt32 >>> ((iI 16).toUInt32 &&& Int32.toUInt32 31)).toInt32).toInt) (iI_of _).symm dJ6_bitCount_0f7a4_45 rfl ?_
  refine g_iadd (pc' := 47) B dJ6_bitCount_0f7a4_46 rfl ?_
  refine g_istore_n (pc' := 48) B [(0, .int (iI (((((iI (((((iI (v - (((iI ((((iI v).toUInt32 >>> ((iI 1).toUInt32 &&& Int32.toUInt32 31)).toInt32).toInt)) &&& (iI 1431655765)).toInt))) &&& (iI 858993459)).toInt) + (((iI ((((iI (v - (((iI ((((iI v).toUInt32 >>> ((iI 1).toUInt32 &&& Int32.toUInt32 31)).toInt32).toInt)) &&& (iI 1431655765)).toInt))).toUInt32 >>> ((iI 2).toUInt32 &&& Int32.toUInt32 31)).toInt32).toInt)) &&& (iI 858993459)).toInt)) + ((((iI ((((iI (v - (((iI ((((iI v).toUInt32 >>> ((iI 1).toUInt32 &&& Int32.toUInt32 31)).toInt32).toInt)) &&& (iI 1431655765)).toInt))) &&& (iI 858993459)).toInt) + (((iI ((((iI (v - (((iI ((((iI v).toUInt32 >>> ((iI 1).toUInt32 &&& Int32.toUInt32 31)).toInt32).toInt)) &&& (iI 1431655765)).toInt))).toUInt32 >>> ((iI 2).toUInt32 &&& Int32.toUInt32 31)).toInt32).toInt)) &&& (iI 858993459)).toInt))).toUInt32 >>> ((iI 4).toUInt32 &&& Int32.toUInt32 31)).toInt32).toInt))) &&& (iI 252645135)).toInt) + ((((iI (((iI (((((iI (v - (((iI ((((iI v).toUInt32 >>> ((iI 1).toUInt32 &&& Int32.toUInt32 31)).toInt32).toInt)) &&& (iI 1431655765)).toInt))) &&& (iI 858993459)).toInt) + (((iI ((((iI (v - (((iI ((((iI v).toUInt32 >>> ((iI 1).toUInt32 &&& Int32.toUInt32 31)).toInt32).toInt)) &&& (iI 1431655765)).toInt))).toUInt32 >>> ((iI 2).toUInt32 &&& Int32.toUInt32 31)).toInt32).toInt)) &&& (iI 858993459)).toInt)) + ((((iI ((((iI (v - (((iI ((((iI v).toUInt32 >>> ((iI 1).toUInt32 &&& Int32.toUInt32 31)).toInt32).toInt)) &&& (iI 1431655765)).toInt))) &&& (iI 858993459)).toInt) + (((iI ((((iI (v - (((iI ((((iI v).toUInt32 >>> ((iI 1).toUInt32 &&& Int32.toUInt32 31)).toInt32).toInt)) &&& (iI 1431655765)).toInt))).toUInt32 >>> ((iI 2).toUInt32 &&& Int32.toUInt32 31)).toInt32).toInt)) &&& (iI 858993459)).toInt))).toUInt32 >>> ((iI 4).toUInt32 &&& Int32.toUInt32 31)).toInt32).toInt))) &&& (iI 252645135)).toInt)).toUInt32 >>> ((iI 8).toUInt32 &&& Int32.toUInt32 31)).toInt32).toInt)) + ((((iI ((((iI (((((iI (v - (((iI ((((iI v).toUInt32 >>> ((iI 1).toUInt32 &&& Int32.toUInt32 31)).toInt32).toInt)) &&& (iI 1431655765)).toInt))) &&& (iI 858993459)).toInt) + (((iI ((((iI (v - (((iI ((((iI v).toUInt32 >>> ((iI 1).toUInt32 &&& Int32.toUInt32 31)).toInt32).toInt)) &&& (iI 1431655765)).toInt))).toUInt32 >>> ((iI 2).toUInt32 &&& Int32.toUInt32 31)).toInt32).toInt)) &&& (iI 858993459)).toInt)) + ((((iI ((((iI (v - (((iI ((((iI v).toUInt32 >>> ((iI 1).toUInt32 &&& Int32.toUInt32 31)).toInt32).toInt)) &&& (iI 1431655765)).toInt))) &&& (iI 858993459)).toInt) + (((iI ((((iI (v - (((iI ((((iI v).toUInt32 >>> ((iI 1).toUInt32 &&& Int32.toUInt32 31)).toInt32).toInt)) &&& (iI 1431655765)).toInt))).toUInt32 >>> ((iI 2).toUInt32 &&& Int32.toUInt32 31)).toInt32).toInt)) &&& (iI 858993459)).toInt))).toUInt32 >>> ((iI 4).toUInt32 &&& Int32.toUInt32 31)).toInt32).toInt))) &&& (iI 252645135)).toInt) + ((((iI (((iI (((((iI (v - (((iI ((((iI v).toUInt32 >>> ((iI 1).toUInt32 &&& Int32.toUInt32 31)).toInt32).toInt)) &&& (iI 1431655765)).toInt))) &&& (iI 858993459)).toInt) + (((iI ((((iI (v - (((iI ((((iI v).toUInt32 >>> ((iI 1).toUInt32 &&& Int32.toUInt32 31)).toInt32).toInt)) &&& (iI 1431655765)).toInt))).toUInt32 >>> ((iI 2).toUInt32 &&& Int32.toUInt32 31)).toInt32).toInt)) &&& (iI 858993459)).toInt)) + ((((iI ((((iI (v - (((iI ((((iI v).toUInt32 >>> ((iI 1).toUInt32 &&& Int32.toUInt32 31)).toInt32).toInt)) &&& (iI 1431655765)).toInt))) &&& (iI 858993459)).toInt) + (((iI ((((iI (v - (((iI ((((iI v).toUInt32 >>> ((iI 1).toUInt32 &&& Int32.toUInt32 31)).toInt32).toInt)) &&& (iI 1431655765)).toInt))).toUInt32 >>> ((iI 2).toUInt32 &&& Int32.toUInt32 31)).toInt32).toInt)) &&& (iI 858993459)).toInt))).toUInt32 >>> ((iI 4).toUInt32 &&& Int32.toUInt32 31)).toInt32).toInt))) &&& (iI 252645135)).toInt)).toUInt32 >>> ((iI 8).toUInt32 &&& Int32.toUInt32 31)).toInt32).toInt))).toUInt32 >>> ((iI 16).toUInt32 &&& Int32.toUInt32 31)).toInt32).toInt))))] dJ6_bitCount_0f7a4_47 rfl rfl (by decide) rfl ?_
  refine g_iload_n (pc' := 49) B 0 rfl rfl dJ6_bitCount_0f7a4_48 rfl ?_
  refine g_bipush (pc' := 51) B (by decide +kernel) dJ6_bitCount_0f7a4_49 rfl ?_
  refine g_iand (pc' := 52) B (((iI (((((iI (((((iI (v - (((iI ((((iI v).toUInt32 >>> ((iI 1).toUInt32 &&& Int32.toUInt32 31)).toInt32).toInt)) &&& (iI 1431655765)).toInt))) &&& (iI 858993459)).toInt) + (((iI ((((iI (v - (((iI ((((iI v).toUInt32 >>> ((iI 1).toUInt32 &&& Int32.toUInt32 31)).toInt32).toInt)) &&& (iI 1431655765)).toInt))).toUInt32 >>> ((iI 2).toUInt32 &&& Int32.toUInt32 31)).toInt32).toInt)) &&& (iI 858993459)).toInt)) + ((((iI ((((iI (v - (((iI ((((iI v).toUInt32 >>> ((iI 1).toUInt32 &&& Int32.toUInt32 31)).toInt32).toInt)) &&& (iI 1431655765)).toInt))) &&& (iI 858993459)).toInt) + (((iI ((((iI (v - (((iI ((((iI v).toUInt32 >>> ((iI 1).toUInt32 &&& Int32.toUInt32 31)).toInt32).toInt)) &&& (iI 1431655765)).toInt))).toUInt32 >>> ((iI 2).toUInt32 &&& Int32.toUInt32 31)).toInt32).toInt)) &&& (iI 858993459)).toInt))).toUInt32 >>> ((iI 4).toUInt32 &&& Int32.toUInt32 31)).toInt32).toInt))) &&& (iI 252645135)).toInt) + ((((iI (((iI (((((iI (v - (((iI ((((iI v).toUInt32 >>> ((iI 1).toUInt32 &&& Int32.toUInt32 31)).toInt32).toInt)) &&& (iI 1431655765)).toInt))) &&& (iI 858993459)).toInt) + (((iI ((((iI (v - (((iI ((((iI v).toUInt32 >>> ((iI 1).toUInt32 &&& Int32.toUInt32 31)).toInt32).toInt)) &&& (iI 1431655765)).toInt))).toUInt32 >>> ((iI 2).toUInt32 &&& Int32.toUInt32 31)).toInt32).toInt)) &&& (iI 858993459)).toInt)) + ((((iI ((((iI (v - (((iI ((((iI v).toUInt32 >>> ((iI 1).toUInt32 &&& Int32.toUInt32 31)).toInt32).toInt)) &&& (iI 1431655765)).toInt))) &&& (iI 858993459)).toInt) + (((iI ((((iI (v - (((iI ((((iI v).toUInt32 >>> ((iI 1).toUInt32 &&& Int32.toUInt32 31)).toInt32).toInt)) &&& (iI 1431655765)).toInt))).toUInt32 >>> ((iI 2).toUInt32 &&& Int32.toUInt32 31)).toInt32).toInt)) &&& (iI 858993459)).toInt))).toUInt32 >>> ((iI 4).toUInt32 &&& Int32.toUInt32 31)).toInt32).toInt))) &&& (iI 252645135)).toInt)).toUInt32 >>> ((iI 8).toUInt32 &&& Int32.toUInt32 31)).toInt32).toInt)) + ((((iI ((((iI (((((iI (v - (((iI ((((iI v).toUInt32 >>> ((iI 1).toUInt32 &&& Int32.toUInt32 31)).toInt32).toInt)) &&& (iI 1431655765)).toInt))) &&& (iI 858993459)).toInt) + (((iI ((((iI (v - (((iI ((((iI v).toUInt32 >>> ((iI 1).toUInt32 &&& Int32.toUInt32 31)).toInt32).toInt)) &&& (iI 1431655765)).toInt))).toUInt32 >>> ((iI 2).toUInt32 &&& Int32.toUInt32 31)).toInt32).toInt)) &&& (iI 858993459)).toInt)) + ((((iI ((((iI (v - (((iI ((((iI v).toUInt32 >>> ((iI 1).toUInt32 &&& Int32.toUInt32 31)).toInt32).toInt)) &&& (iI 1431655765)).toInt))) &&& (iI 858993459)).toInt) + (((iI ((((iI (v - (((iI ((((iI v).toUInt32 >>> ((iI 1).toUInt32 &&& Int32.toUInt32 31)).toInt32).toInt)) &&& (iI 1431655765)).toInt))).toUInt32 >>> ((iI 2).toUInt32 &&& Int32.toUInt32 31)).toInt32).toInt)) &&& (iI 858993459)).toInt))).toUInt32 >>> ((iI 4).toUInt32 &&& Int32.toUInt32 31)).toInt32).toInt))) &&& (iI 252645135)).toInt) + ((((iI (((iI (((((iI (v - (((iI ((((iI v).toUInt32 >>> ((iI 1).toUInt32 &&& Int32.toUInt32 31)).toInt32).toInt)) &&& (iI 1431655765)).toInt))) &&& (iI 858993459)).toInt) + (((iI ((((iI (v - (((iI ((((iI v).toUInt32 >>> ((iI 1).toUInt32 &&& Int32.toUInt32 31)).toInt32).toInt)) &&& (iI 1431655765)).toInt))).toUInt32 >>> ((iI 2).toUInt32 &&& Int32.toUInt32 31)).toInt32).toInt)) &&& (iI 858993459)).toInt)) + ((((iI ((((iI (v - (((iI ((((iI v).toUInt32 >>> ((iI 1).toUInt32 &&& Int32.toUInt32 31)).toInt32).toInt)) &&& (iI 1431655765)).toInt))) &&& (iI 858993459)).toInt) + (((iI ((((iI (v - (((iI ((((iI v).toUInt32 >>> ((iI 1).toUInt32 &&& Int32.toUInt32 31)).toInt32).toInt)) &&& (iI 1431655765)).toInt))).toUInt32 >>> ((iI 2).toUInt32 &&& Int32.toUInt32 31)).toInt32).toInt)) &&& (iI 858993459)).toInt))).toUInt32 >>> ((iI 4).toUInt32 &&& Int32.toUInt32 31)).toInt32).toInt))) &&& (iI 252645135)).toInt)).toUInt32 >>> ((iI 8).toUInt32 &&& Int32.toUInt32 31)).toInt32).toInt))).toUInt32 >>> ((iI 16).toUInt32 &&& Int32.toUInt32 31)).toInt32).toInt))) &&& (iI 63)).toInt) (iI_of _).symm dJ6_bitCount_0f7a4_51 rfl ?_
  exact g_iret (z := ((iI (((((iI (((((iI (v - (((iI ((((iI v).toUInt32 >>> ((iI 1).toUInt32 &&& Int32.toUInt32 31)).toInt32).toInt)) &&& (iI 1431655765)).toInt))) &&& (iI 858993459)).toInt) + (((iI ((((iI (v - (((iI ((((iI v).toUInt32 >>> ((iI 1).toUInt32 &&& Int32.toUInt32 31)).toInt32).toInt)) &&& (iI 1431655765)).toInt))).toUInt32 >>> ((iI 2).toUInt32 &&& Int32.toUInt32 31)).toInt32).toInt)) &&& (iI 858993459)).toInt)) + ((((iI ((((iI (v - (((iI ((((iI v).toUInt32 >>> ((iI 1).toUInt32 &&& Int32.toUInt32 31)).toInt32).toInt)) &&& (iI 1431655765)).toInt))) &&& (iI 858993459)).toInt) + (((iI ((((iI (v - (((iI ((((iI v).toUInt32 >>> ((iI 1).toUInt32 &&& Int32.toUInt32 31)).toInt32).toInt)) &&& (iI 1431655765)).toInt))).toUInt32 >>> ((iI 2).toUInt32 &&& Int32.toUInt32 31)).toInt32).toInt)) &&& (iI 858993459)).toInt))).toUInt32 >>> ((iI 4).toUInt32 &&& Int32.toUInt32 31)).toInt32).toInt))) &&& (iI 252645135)).toInt) + ((((iI (((iI (((((iI (v - (((iI ((((iI v).toUInt32 >>> ((iI 1).toUInt32 &&& Int32.toUInt32 31)).toInt32).toInt)) &&& (iI 1431655765)).toInt))) &&& (iI 858993459)).toInt) + (((iI ((((iI (v - (((iI ((((iI v).toUInt32 >>> ((iI 1).toUInt32 &&& Int32.toUInt32 31)).toInt32).toInt)) &&& (iI 1431655765)).toInt))).toUInt32 >>> ((iI 2).toUInt32 &&& Int32.toUInt32 31)).toInt32).toInt)) &&& (iI 858993459)).toInt)) + ((((iI ((((iI (v - (((iI ((((iI v).toUInt32 >>> ((iI 1).toUInt32 &&& Int32.toUInt32 31)).toInt32).toInt)) &&& (iI 1431655765)).toInt))) &&& (iI 858993459)).toInt) + (((iI ((((iI (v - (((iI ((((iI v).toUInt32 >>> ((iI 1).toUInt32 &&& Int32.toUInt32 31)).toInt32).toInt)) &&& (iI 1431655765)).toInt))).toUInt32 >>> ((iI 2).toUInt32 &&& Int32.toUInt32 31)).toInt32).toInt)) &&& (iI 858993459)).toInt))).toUInt32 >>> ((iI 4).toUInt32 &&& Int32.toUInt32 31)).toInt32).toInt))) &&& (iI 252645135)).toInt)).toUInt32 >>> ((iI 8).toUInt32 &&& Int32.toUInt32 31)).toInt32).toInt)) + ((((iI ((((iI (((((iI (v - (((iI ((((iI v).toUInt32 >>> ((iI 1).toUInt32 &&& Int32.toUInt32 31)).toInt32).toInt)) &&& (iI 1431655765)).toInt))) &&& (iI 858993459)).toInt) + (((iI ((((iI (v - (((iI ((((iI v).toUInt32 >>> ((iI 1).toUInt32 &&& Int32.toUInt32 31)).toInt32).toInt)) &&& (iI 1431655765)).toInt))).toUInt32 >>> ((iI 2).toUInt32 &&& Int32.toUInt32 31)).toInt32).toInt)) &&& (iI 858993459)).toInt)) + ((((iI ((((iI (v - (((iI ((((iI v).toUInt32 >>> ((iI 1).toUInt32 &&& Int32.toUInt32 31)).toInt32).toInt)) &&& (iI 1431655765)).toInt))) &&& (iI 858993459)).toInt) + (((iI ((((iI (v - (((iI ((((iI v).toUInt32 >>> ((iI 1).toUInt32 &&& Int32.toUInt32 31)).toInt32).toInt)) &&& (iI 1431655765)).toInt))).toUInt32 >>> ((iI 2).toUInt32 &&& Int32.toUInt32 31)).toInt32).toInt)) &&& (iI 858993459)).toInt))).toUInt32 >>> ((iI 4).toUInt32 &&& Int32.toUInt32 31)).toInt32).toInt))) &&& (iI 252645135)).toInt) + ((((iI (((iI (((((iI (v - (((iI ((((iI v).toUInt32 >>> ((iI 1).toUInt32 &&& Int32.toUInt32 31)).toInt32).toInt)) &&& (iI 1431655765)).toInt))) &&& (iI 858993459)).toInt) + (((iI ((((iI (v - (((iI ((((iI v).toUInt32 >>> ((iI 1).toUInt32 &&& Int32.toUInt32 31)).toInt32).toInt)) &&& (iI 1431655765)).toInt))).toUInt32 >>> ((iI 2).toUInt32 &&& Int32.toUInt32 31)).toInt32).toInt)) &&& (iI 858993459)).toInt)) + ((((iI ((((iI (v - (((iI ((((iI v).toUInt32 >>> ((iI 1).toUInt32 &&& Int32.toUInt32 31)).toInt32).toInt)) &&& (iI 1431655765)).toInt))) &&& (iI 858993459)).toInt) + (((iI ((((iI (v - (((iI ((((iI v).toUInt32 >>> ((iI 1).toUInt32 &&& Int32.toUInt32 31)).toInt32).toInt)) &&& (iI 1431655765)).toInt))).toUInt32 >>> ((iI 2).toUInt32 &&& Int32.toUInt32 31)).toInt32).toInt)) &&& (iI 858993459)).toInt))).toUInt32 >>> ((iI 4).toUInt32 &&& Int32.toUInt32 31)).toInt32).toInt))) &&& (iI 252645135)).toInt)).toUInt32 >>> ((iI 8).toUInt32 &&& Int32.toUInt32 31)).toInt32).toInt))).toUInt32 >>> ((iI 16).toUInt32 &&& Int32.toUInt32 31)).toInt32).toInt))) &&& (iI 63)).toInt) B hrt rfl hlk dJ6_bitCount_0f7a4_52 ⟨rfl, bc_eq (fun v => ((iI (((((iI (((((iI (v - (((iI ((((iI v).toUInt32 >>> ((iI 1).toUInt32 &&& Int32.toUInt32 31)).toInt32).toInt)) &&& (iI 1431655765)).toInt))) &&& (iI 858993459)).toInt) + (((iI ((((iI (v - (((iI ((((iI v).toUInt32 >>> ((iI 1).toUInt32 &&& Int32.toUInt32 31)).toInt32).toInt)) &&& (iI 1431655765)).toInt))).toUInt32 >>> ((iI 2).toUInt32 &&& Int32.toUInt32 31)).toInt32).toInt)) &&& (iI 858993459)).toInt)) + ((((iI ((((iI (v - (((iI ((((iI v).toUInt32 >>> ((iI 1).toUInt32 &&& Int32.toUInt32 31)).toInt32).toInt)) &&& (iI 1431655765)).toInt))) &&& (iI 858993459)).toInt) + (((iI ((((iI (v - (((iI ((((iI v).toUInt32 >>> ((iI 1).toUInt32 &&& Int32.toUInt32 31)).toInt32).toInt)) &&& (iI 1431655765)).toInt))).toUInt32 >>> ((iI 2).toUInt32 &&& Int32.toUInt32 31)).toInt32).toInt)) &&& (iI 858993459)).toInt))).toUInt32 >>> ((iI 4).toUInt32 &&& Int32.toUInt32 31)).toInt32).toInt))) &&& (iI 252645135)).toInt) + ((((iI (((iI (((((iI (v - (((iI ((((iI v).toUInt32 >>> ((iI 1).toUInt32 &&& Int32.toUInt32 31)).toInt32).toInt)) &&& (iI 1431655765)).toInt))) &&& (iI 858993459)).toInt) + (((iI ((((iI (v - (((iI ((((iI v).toUInt32 >>> ((iI 1).toUInt32 &&& Int32.toUInt32 31)).toInt32).toInt)) &&& (iI 1431655765)).toInt))).toUInt32 >>> ((iI 2).toUInt32 &&& Int32.toUInt32 31)).toInt32).toInt)) &&& (iI 858993459)).toInt)) + ((((iI ((((iI (v - (((iI ((((iI v).toUInt32 >>> ((iI 1).toUInt32 &&& Int32.toUInt32 31)).toInt32).toInt)) &&& (iI 1431655765)).toInt))) &&& (iI 858993459)).toInt) + (((iI ((((iI (v - (((iI ((((iI v).toUInt32 >>> ((iI 1).toUInt32 &&& Int32.toUInt32 31)).toInt32).toInt)) &&& (iI 1431655765)).toInt))).toUInt32 >>> ((iI 2).toUInt32 &&& Int32.toUInt32 31)).toInt32).toInt)) &&& (iI 858993459)).toInt))).toUInt32 >>> ((iI 4).toUInt32 &&& Int32.toUInt32 31)).toInt32).toInt))) &&& (iI 252645135)).toInt)).toUInt32 >>> ((iI 8).toUInt32 &&& Int32.toUInt32 31)).toInt32).toInt)) + ((((iI ((((iI (((((iI (v - (((iI ((((iI v).toUInt32 >>> ((iI 1).toUInt32 &&& Int32.toUInt32 31)).toInt32).toInt)) &&& (iI 1431655765)).toInt))) &&& (iI 858993459)).toInt) + (((iI ((((iI (v - (((iI ((((iI v).toUInt32 >>> ((iI 1).toUInt32 &&& Int32.toUInt32 31)).toInt32).toInt)) &&& (iI 1431655765)).toInt))).toUInt32 >>> ((iI 2).toUInt32 &&& Int32.toUInt32 31)).toInt32).toInt)) &&& (iI 858993459)).toInt)) + ((((iI ((((iI (v - (((iI ((((iI v).toUInt32 >>> ((iI 1).toUInt32 &&& Int32.toUInt32 31)).toInt32).toInt)) &&& (iI 1431655765)).toInt))) &&& (iI 858993459)).toInt) + (((iI ((((iI (v - (((iI ((((iI v).toUInt32 >>> ((iI 1).toUInt32 &&& Int32.toUInt32 31)).toInt32).toInt)) &&& (iI 1431655765)).toInt))).toUInt32 >>> ((iI 2).toUInt32 &&& Int32.toUInt32 31)).toInt32).toInt)) &&& (iI 858993459)).toInt))).toUInt32 >>> ((iI 4).toUInt32 &&& Int32.toUInt32 31)).toInt32).toInt))) &&& (iI 252645135)).toInt) + ((((iI (((iI (((((iI (v - (((iI ((((iI v).toUInt32 >>> ((iI 1).toUInt32 &&& Int32.toUInt32 31)).toInt32).toInt)) &&& (iI 1431655765)).toInt))) &&& (iI 858993459)).toInt) + (((iI ((((iI (v - (((iI ((((iI v).toUInt32 >>> ((iI 1).toUInt32 &&& Int32.toUInt32 31)).toInt32).toInt)) &&& (iI 1431655765)).toInt))).toUInt32 >>> ((iI 2).toUInt32 &&& Int32.toUInt32 31)).toInt32).toInt)) &&& (iI 858993459)).toInt)) + ((((iI ((((iI (v - (((iI ((((iI v).toUInt32 >>> ((iI 1).toUInt32 &&& Int32.toUInt32 31)).toInt32).toInt)) &&& (iI 1431655765)).toInt))) &&& (iI 858993459)).toInt) + (((iI ((((iI (v - (((iI ((((iI v).toUInt32 >>> ((iI 1).toUInt32 &&& Int32.toUInt32 31)).toInt32).toInt)) &&& (iI 1431655765)).toInt))).toUInt32 >>> ((iI 2).toUInt32 &&& Int32.toUInt32 31)).toInt32).toInt)) &&& (iI 858993459)).toInt))).toUInt32 >>> ((iI 4).toUInt32 &&& Int32.toUInt32 31)).toInt32).toInt))) &&& (iI 252645135)).toInt)).toUInt32 >>> ((iI 8).toUInt32 &&& Int32.toUInt32 31)).toInt32).toInt))).toUInt32 >>> ((iI 16).toUInt32 &&& Int32.toUInt32 31)).toInt32).toInt))) &&& (iI 63)).toInt) (by decide +kernel) hv.1 hv.2⟩
