theorem iI_nI (n : Nat) : iI (n : Int) = nI n := Int32.ofInt_eq_ofNat
theorem sh1 {f : Int} (h : 0 ≤ f ∧ f < 31) : iI 1 <<< (iI f &&& 31) = iI (2 ^ f.toNat) := by
  have q : ∀ n : Fin 31, iI 1 <<< (iI (n.val : Int) &&& 31) = iI (2 ^ n.val) := by decide +kernel
  have e := q ⟨f.toNat, by omega⟩
  have e2 : ((f.toNat : Nat) : Int) = f := by omega
  simp only [e2] at e
  exact e
theorem nI_or (a b : Nat) : nI a ||| nI b = nI (a ||| b) := by
  apply Int32.toBitVec_inj.1
  show BitVec.ofNat 32 a ||| BitVec.ofNat 32 b = BitVec.ofNat 32 (a ||| b)
  apply BitVec.eq_of_getLsbD_eq
  intro i hi
  simp [hi]
theorem or_add {a : Int} {k : Nat} (h0 : 0 ≤ a) (h1 : a < 2 ^ k) : iI a ||| iI (2 ^ k) = iI (a + 2 ^ k) := by
  obtain ⟨n, rfl⟩ : ∃ n : Nat, a = n := ⟨a.toNat, by omega⟩
  have h2 : n < 2 ^ k := by exact_mod_cast h1
  have e1 : ((2 : Int) ^ k) = ((2 ^ k : Nat) : Int) := by simp
  rw [e1, iI_nI, iI_nI, Int32.or_comm, nI_or]
  have e2 : 2 ^ k ||| n = 2 ^ k * 1 + n := by rw [Nat.two_pow_add_eq_or_of_lt h2]; simp
  rw [e2, ← iI_nI]
  congr 1
  simp
  omega
/-- sums -/
def sm (F : Int → Int) : Nat → Int
  | 0 => 0
  | n + 1 => sm F n + F n
theorem sm_congr {F F' : Int → Int} : ∀ (n : Nat), (∀ k : Int, 0 ≤ k → k < n → F k = F' k) → sm F n = sm F' n
  | 0, _ => rfl
  | n + 1, h => by
    show sm F n + F n = sm F' n + F' n
    rw [sm_congr n (fun k a b => h k a (by omega)), h n (by omega) (by omega)]
theorem sm_add (F : Int → Int) (a : Nat) : ∀ b : Nat, sm F (a + b) = sm F a + sm (fun k => F (a + k)) b
  | 0 => by simp [sm]
  | b + 1 => by
    show sm F (a + b) + F ((a + b : Nat) : Int) = sm F a + (sm (fun k => F (a + k)) b + F (a + b))
    rw [sm_add F a b]
    have : ((a + b : Nat) : Int) = (a : Int) + b := by simp
    rw [this]
    omega
theorem sm_per {F : Int → Int} {p : Nat} (h : ∀ x : Int, F (x + p) = F x) : ∀ q : Nat, sm F (p * q) = sm F p * q
  | 0 => by simp [sm]
  | q + 1 => by
    have e : p * (q + 1) = p + p * q := by rw [Nat.mul_succ]; omega
    rw [e, sm_add, sm_congr (F' := F) (p * q) (fun k _ _ => by rw [Int.add_comm]; exact h k), sm_per h q]
    have : ((q + 1 : Nat) : Int) = (q : Int) + 1 := by simp
    rw [this, Int.mul_add]
    omega
theorem sm_sh1 {F : Int → Int} {p : Nat} (h : ∀ x : Int, F (x + p) = F x) : sm (fun k => F (1 + k)) p = sm F p := by
  have h1 := sm_add F 1 p
  have h2 := sm_add F p 1
  rw [Nat.add_comm] at h1
  have h3 : sm F 1 = F 0 := by simp [sm]
  have h4 : sm (fun k => F (p + k)) 1 = F 0 := by
    have := h 0
    simp [sm]
    simpa using this
  rw [h2, h3, h4] at h1
  have : sm (fun k => F (((1 : Nat) : Int) + k)) p = sm (fun k => F (1 + k)) p := rfl
  omega
theorem sm_shift {p : Nat} : ∀ (n : Nat) {F : Int → Int}, (∀ x : Int, F (x + p) = F x) → sm (fun k => F (n + k)) p = sm F p
  | 0, F, h => sm_congr p (fun k _ _ => by simp)
  | n + 1, F, h => by
    have h1 : ∀ x : Int, (fun k => F (1 + k)) (x + p) = (fun k => F (1 + k)) x := fun x => by
      show F (1 + (x + p)) = F (1 + x)
      rw [← Int.add_assoc]; exact h _
    have h2 := sm_shift n (F := fun k => F (1 + k)) h1
    rw [sm_sh1 h] at h2
    rw [← h2]
    refine sm_congr p (fun k _ _ => ?_)
    show F (((n + 1 : Nat) : Int) + k) = F (1 + (n + k))
    congr 1
    omega
theorem hgt_per {D : SG} {f p : Int} (h : D 1 f ∣ p) (x : Int) : hgt D f (x + p) = hgt D f x := by
  unfold hgt
  obtain ⟨c, rfl⟩ := h
  have e : (x + D 1 f * c + D 2 f) % D 1 f = (x + D 2 f) % D 1 f := by
    rw [show x + D 1 f * c + D 2 f = x + D 2 f + D 1 f * c by omega, Int.add_mul_emod_self_left]
  rw [e]
theorem lean_per {D : SG} {f p : Int} (h : D 1 f ∣ p) (h2 : D 1 (f + 1) ∣ p) (x : Int) : lean D f (x + p) = lean D f x := by
  unfold lean
  rw [hgt_per h, hgt_per h2]
set_option maxRecDepth 100000 in
set_option maxHeartbeats 4000000 in
theorem c_X2_has (l : Launch) (K : WK) (σ : SG) {g : Nat} (hg : g = 4 ∨ g = 18) {D : SG} (hD : gD σ g D) (hF : okF D) {f : Int} (hf : -2147483648 ≤ f ∧ f < 2147483648) : MI l yX2_has cX2_has 2 (some .boolean) 0 0 K σ [.ref (K.2.2 g), .int (iI f)] (fun z τ => σ = τ ∧ (((0 ≤ f ∧ f < D 9 0) ∧ z = 1) ∨ (¬ (0 ≤ f ∧ f < D 9 0) ∧ z = 0))) := by
  refine met_of [(0, .ref (K.2.2 g)), (1, .int (iI f))] (by decide +kernel) (Nat.le_of_ble_eq_true rfl) rfl ?_
  intro pP eE sS mM bW mT cC B hrt hlk
  replace B : CB pP sS mM [.ref (K.2.2 g), .int (iI f)].toArray cC cX2_has RX2 2 K := B
  obtain ⟨hF0, hF1⟩ := id hF
  refine g_iload_n (pc' := 1) B 1 rfl rfl dX2_has_0 rfl ?_
  refine g_if_lt (pc' := 4) B 16 (by omega) dX2_has_1 (by decide) rfl (fun c1 => ?_) (fun c1 => ?_)
  · refine g_iconst (pc' := 17) B dX2_has_16 rfl ?_
    exact g_iret (z := 0) B hrt rfl hlk dX2_has_17 ⟨rfl, by omega⟩
  · refine g_iload_n (pc' := 5) B 1 rfl rfl dX2_has_4 rfl ?_
    refine g_aload_n (pc' := 6) B 0 rfl rfl dX2_has_5 rfl ?_
    refine g_get (pc' := 9) B (D 9 0) hD.1 fl_X2_28 (ly_G hg) rfl dX2_has_6 rfl ?_
    refine g_icmp_ge (pc' := 12) B 16 (by omega) (by omega) dX2_has_9 (by decide) rfl (fun c9 => ?_) (fun c9 => ?_)
    · refine g_iconst (pc' := 17) B dX2_has_16 rfl ?_
      exact g_iret (z := 0) B hrt rfl hlk dX2_has_17 ⟨rfl, by omega⟩
    · refine g_iconst (pc' := 13) B dX2_has_12 rfl ?_
      refine g_goto (pc' := 17) B dX2_has_13 (by decide) ?_
      exact g_iret (z := 1) B hrt rfl hlk dX2_has_17 ⟨rfl, by omega⟩
set_option maxRecDepth 100000 in
set_option maxHeartbeats 4000000 in
theorem c_X2_hasGap (l : Launch) (K : WK) (σ : SG) {g : Nat} (hg : g = 4 ∨ g = 18) {D : SG} (hD : gD σ g D) (hF : okF D) {f : Int} (hf : -2147483648 ≤ f ∧ f < 2147483648) : MI l yX2_hasGap cX2_hasGap 2 (some .boolean) 0 0 K σ [.ref (K.2.2 g), .int (iI f)] (fun z τ => σ = τ ∧ (((0 ≤ f ∧ f + 1 < D 9 0) ∧ z = 1) ∨ (¬ (0 ≤ f ∧ f + 1 < D 9 0) ∧ z = 0))) := by
  refine met_of [(0, .ref (K.2.2 g)), (1, .int (iI f))] (by decide +kernel) (Nat.le_of_ble_eq_true rfl) rfl ?_
  intro pP eE sS mM bW mT cC B hrt hlk
  replace B : CB pP sS mM [.ref (K.2.2 g), .int (iI f)].toArray cC cX2_hasGap RX2 2 K := B
  obtain ⟨hF0, hF1⟩ := id hF
  refine g_iload_n (pc' := 1) B 1 rfl rfl dX2_hasGap_0 rfl ?_
  refine g_if_lt (pc' := 4) B 18 (by omega) dX2_hasGap_1 (by decide) rfl (fun c1 => ?_) (fun c1 => ?_)
  · refine g_iconst (pc' := 19) B dX2_hasGap_18 rfl ?_
    exact g_iret (z := 0) B hrt rfl hlk dX2_hasGap_19 ⟨rfl, by omega⟩
  · refine g_iload_n (pc' := 5) B 1 rfl rfl dX2_hasGap_4 rfl ?_
    refine g_aload_n (pc' := 6) B 0 rfl rfl dX2_hasGap_5 rfl ?_
    refine g_get (pc' := 9) B (D 9 0) hD.1 fl_X2_28 (ly_G hg) rfl dX2_hasGap_6 rfl ?_
    refine g_iconst (pc' := 10) B dX2_hasGap_9 rfl ?_
    refine g_isub (pc' := 11) B dX2_hasGap_10 rfl ?_
    refine g_icmp_ge (pc' := 14) B 18 (by omega) (by omega) dX2_hasGap_11 (by decide) rfl (fun c11 => ?_) (fun c11 => ?_)
    · refine g_iconst (pc' := 19) B dX2_hasGap_18 rfl ?_
      exact g_iret (z := 0) B hrt rfl hlk dX2_hasGap_19 ⟨rfl, by omega⟩
    · refine g_iconst (pc' := 15) B dX2_hasGap_14 rfl ?_
      refine g_goto (pc' := 19) B dX2_hasGap_15 (by decide) ?_
      exact g_iret (z := 1) B hrt rfl hlk dX2_hasGap_19 ⟨rfl, by omega⟩
set_option maxRecDepth 100000 in
set_option maxHeartbeats 4000000 in
theorem c_X2_heightAt (l : Launch) (K : WK) (σ : SG) {g : Nat} (hg : g = 4 ∨ g = 18) {D : SG} (hD : gD σ g D) (hF : okF D) {f x : Int} (h0 : 0 ≤ f) (h1 : f < D 9 0) (hx : 0 ≤ x ∧ x ≤ 2000000000) : MI l yX2_heightAt cX2_heightAt 3 (some .int) 2 44 K σ [.ref (K.2.2 g), .int (iI f), .int (iI x)] (fun z τ => σ = τ ∧ z = hgt D f x) := by
  refine met_of [(0, .ref (K.2.2 g)), (1, .int (iI f)), (2, .int (iI x))] (by decide +kernel) (Nat.le_of_ble_eq_true rfl) rfl ?_
  intro pP eE sS mM bW mT cC B hrt hlk
  replace B : CB pP sS mM [.ref (K.2.2 g), .int (iI f), .int (iI x)].toArray cC cX2_heightAt RX2 3 K := B
  obtain ⟨hF0, hF1⟩ := id hF
  have hf9 := hF1 f h0 h1
  refine g_aload_n (pc' := 1) B 0 rfl rfl dX2_heightAt_0 rfl ?_
  refine g_iload_n (pc' := 2) B 1 rfl rfl dX2_heightAt_1 rfl ?_
  refine g_callVI (pc' := 5) (As := [.int (iI f)]) B (c_X2_has l K _ (g := g) (D := D) (f := f) hg hD hF (by omega)) vt_X2_has tw_514 (ly_G hg) rfl ⟨by decide, by decide⟩ rfl (Nat.le_of_ble_eq_true rfl) ⟨Nat.zero_le _, Nat.zero_le _⟩ rfl dX2_heightAt_2 rfl (fun z2 τ2 h2 => ?_)
  obtain ⟨rfl, h2⟩ := h2
  rcases h2 with ⟨h2, rfl⟩ | ⟨h2, rfl⟩
  · refine g_if_eq (pc' := 8) B 42 (by omega) dX2_heightAt_5 (by decide) rfl (fun q => absurd q (by decide)) (fun _ => ?_)
    refine g_aload_n (pc' := 9) B 0 rfl rfl dX2_heightAt_8 rfl ?_
    refine g_getR (pc' := 12) B (g + 1) fl_X2_9 (ly_G hg) rfl dX2_heightAt_9 rfl ?_
    refine g_iload_n (pc' := 13) B 1 rfl rfl dX2_heightAt_12 rfl ?_
    refine g_iald (pc' := 14) B (D 0 f) (hD.2.2 _ (by omega) (by omega)).1 (ly_Ga0 hg) (by omega) (by decide) dX2_heightAt_13 rfl ?_
    refine g_aload_n (pc' := 15) B 0 rfl rfl dX2_heightAt_14 rfl ?_
    refine g_getR (pc' := 18) B (g + 4) fl_X2_21 (ly_G hg) rfl dX2_heightAt_15 rfl ?_
    refine g_iload_n (pc' := 19) B 1 rfl rfl dX2_heightAt_18 rfl ?_
    refine g_iald (pc' := 20) B (D 3 f) (hD.2.2 _ (by omega) (by omega)).2.2.2 (ly_Ga3 hg) (by omega) (by decide) dX2_heightAt_19 rfl ?_
    refine g_iload_n (pc' := 21) B 2 rfl rfl dX2_heightAt_20 rfl ?_
    refine g_aload_n (pc' := 22) B 0 rfl rfl dX2_heightAt_21 rfl ?_
    refine g_getR (pc' := 25) B (g + 3) fl_X2_18 (ly_G hg) rfl dX2_heightAt_22 rfl ?_
    refine g_iload_n (pc' := 26) B 1 rfl rfl dX2_heightAt_25 rfl ?_
    refine g_iald (pc' := 27) B (D 2 f) (hD.2.2 _ (by omega) (by omega)).2.2.1 (ly_Ga2 hg) (by omega) (by decide) dX2_heightAt_26 rfl ?_
    refine g_iadd (pc' := 28) B dX2_heightAt_27 rfl ?_
    refine g_aload_n (pc' := 29) B 0 rfl rfl dX2_heightAt_28 rfl ?_
    refine g_getR (pc' := 32) B (g + 2) fl_X2_15 (ly_G hg) rfl dX2_heightAt_29 rfl ?_
    refine g_iload_n (pc' := 33) B 1 rfl rfl dX2_heightAt_32 rfl ?_
    refine g_iald (pc' := 34) B (D 1 f) (hD.2.2 _ (by omega) (by omega)).2.1 (ly_Ga1 hg) (by omega) (by decide) dX2_heightAt_33 rfl ?_
    refine g_callNI (pc' := 37) (As := [.int (iI (x + (D 2 f))), .int (iI (D 1 f))]) B (c_X11_swell l K _ (x := x + (D 2 f)) (n := D 1 f) (by omega) (by omega)) st_X11_swell tw_518 ⟨by decide, by decide⟩ rfl (Nat.le_of_ble_eq_true rfl) ⟨Nat.zero_le _, Nat.zero_le _⟩ rfl dX2_heightAt_34 rfl (fun z34 τ34 h34 => ?_)
    obtain ⟨rfl, rfl⟩ := h34
    refine g_imul (pc' := 38) B dX2_heightAt_37 rfl ?_
    refine g_iadd (pc' := 39) B dX2_heightAt_38 rfl ?_
    refine g_goto (pc' := 43) B dX2_heightAt_39 (by decide) ?_
    exact g_iret (z := (D 0 f) + ((D 3 f) * (min ((x + (D 2 f)) % (D 1 f)) ((D 1 f) - (x + (D 2 f)) % (D 1 f))))) B hrt rfl hlk dX2_heightAt_43 ⟨rfl, rfl⟩
  · exfalso; omega
set_option maxRecDepth 100000 in
set_option maxHeartbeats 4000000 in
theorem c_X2_leanAt (l : Launch) (K : WK) (σ : SG) {g : Nat} (hg : g = 4 ∨ g = 18) {D : SG} (hD : gD σ g D) (hF : okF D) {f x : Int} (h0 : 0 ≤ f) (h1 : f < D 9 0) (hx : 0 ≤ x ∧ x ≤ 2000000000) : MI l yX2_leanAt cX2_leanAt 3 (some .int) 3 66 K σ [.ref (K.2.2 g), .int (iI f), .int (iI x)] (fun z τ => σ = τ ∧ z = lean D f x) := by
  refine met_of [(0, .ref (K.2.2 g)), (1, .int (iI f)), (2, .int (iI x))] (by decide +kernel) (Nat.le_of_ble_eq_true rfl) rfl ?_
  intro pP eE sS mM bW mT cC B hrt hlk
  replace B : CB pP sS mM [.ref (K.2.2 g), .int (iI f), .int (iI x)].toArray cC cX2_leanAt RX2 3 K := B
  obtain ⟨hF0, hF1⟩ := id hF
  refine g_aload_n (pc' := 1) B 0 rfl rfl dX2_leanAt_0 rfl ?_
  refine g_iload_n (pc' := 2) B 1 rfl rfl dX2_leanAt_1 rfl ?_
  refine g_callVI (pc' := 5) (As := [.int (iI f)]) B (c_X2_hasGap l K _ (g := g) (D := D) (f := f) hg hD hF (by omega)) vt_X2_hasGap tw_506 (ly_G hg) rfl ⟨by decide, by decide⟩ rfl (Nat.le_of_ble_eq_true rfl) ⟨Nat.zero_le _, Nat.zero_le _⟩ rfl dX2_leanAt_2 rfl (fun z2 τ2 h2 => ?_)
  obtain ⟨rfl, h2⟩ := h2
  rcases h2 with ⟨h2, rfl⟩ | ⟨h2, rfl⟩
  · refine g_if_eq (pc' := 8) B 26 (by omega) dX2_leanAt_5 (by decide) rfl (fun q => absurd q (by decide)) (fun _ => ?_)
    refine g_aload_n (pc' := 9) B 0 rfl rfl dX2_leanAt_8 rfl ?_
    refine g_iload_n (pc' := 10) B 1 rfl rfl dX2_leanAt_9 rfl ?_
    refine g_iconst (pc' := 11) B dX2_leanAt_10 rfl ?_
    refine g_iadd (pc' := 12) B dX2_leanAt_11 rfl ?_
    refine g_iload_n (pc' := 13) B 2 rfl rfl dX2_leanAt_12 rfl ?_
    refine g_callVI (pc' := 16) (As := [.int (iI (f + 1)), .int (iI x)]) B (c_X2_heightAt l K _ (g := g) (D := D) (f := f + 1) (x := x) hg hD hF (by omega) (by omega) (by omega)) vt_X2_heightAt tw_510 (ly_G hg) rfl ⟨by decide, by decide⟩ rfl (Nat.le_of_ble_eq_true rfl) ⟨Nat.zero_le _, Nat.zero_le _⟩ rfl dX2_leanAt_13 rfl (fun z13 τ13 h13 => ?_)
    obtain ⟨rfl, rfl⟩ := h13
    refine g_aload_n (pc' := 17) B 0 rfl rfl dX2_leanAt_16 rfl ?_
    refine g_iload_n (pc' := 18) B 1 rfl rfl dX2_leanAt_17 rfl ?_
    refine g_iload_n (pc' := 19) B 2 rfl rfl dX2_leanAt_18 rfl ?_
    refine g_callVI (pc' := 22) (As := [.int (iI f), .int (iI x)]) B (c_X2_heightAt l K _ (g := g) (D := D) (f := f) (x := x) hg hD hF (by omega) (by omega) (by omega)) vt_X2_heightAt tw_510 (ly_G hg) rfl ⟨by decide, by decide⟩ rfl (Nat.le_of_ble_eq_true rfl) ⟨Nat.zero_le _, Nat.zero_le _⟩ rfl dX2_leanAt_19 rfl (fun z19 τ19 h19 => ?_)
    obtain ⟨rfl, rfl⟩ := h19
    refine g_isub (pc' := 23) B dX2_leanAt_22 rfl ?_
    refine g_goto (pc' := 27) B dX2_leanAt_23 (by decide) ?_
    exact g_iret (z := (hgt D (f + 1) x) - (hgt D f x)) B hrt rfl hlk dX2_leanAt_27 ⟨rfl, by unfold lean; rw [if_pos (by omega)]⟩
  · refine g_if_eq (pc' := 8) B 26 (by omega) dX2_leanAt_5 (by decide) rfl (fun _ => ?_) (fun q => absurd q (by decide))
    refine g_iconst (pc' := 27) B dX2_leanAt_26 rfl ?_
    exact g_iret (z := 0) B hrt rfl hlk dX2_leanAt_27 ⟨rfl, by unfold lean; rw [if_neg (by omega)]⟩
set_option maxRecDepth 100000 in
set_option maxHeartbeats 4000000 in
theorem c_X2_climb (l : Launch) (K : WK) (σ : SG) {g : Nat} (hg : g = 4 ∨ g = 18) {D : SG} (hD : gD σ g D) (hF : okF D) {a b x : Int} (ha0 : 0 ≤ a) (ha1 : a < D 9 0) (hb0 : 0 ≤ b) (hb1 : b < D 9 0) (hx : 0 ≤ x ∧ x ≤ 2000000000) : MI l yX2_climb cX2_climb 4 (some .int) 3 66 K σ [.ref (K.2.2 g), .int (iI a), .int (iI b), .int (iI x)] (fun z τ => σ = τ ∧ z = max 0 (hgt D b x - hgt D a x)) := by
  refine met_of [(0, .ref (K.2.2 g)), (1, .int (iI a)), (2, .int (iI b)), (3, .int (iI x))] (by decide +kernel) (Nat.le_of_ble_eq_true rfl) rfl ?_
  intro pP eE sS mM bW mT cC B hrt hlk
  replace B : CB pP sS mM [.ref (K.2.2 g), .int (iI a), .int (iI b), .int (iI x)].toArray cC cX2_climb RX2 4 K := B
  obtain ⟨hF0, hF1⟩ := id hF
  refine g_iconst (pc' := 1) B dX2_climb_0 rfl ?_
  refine g_aload_n (pc' := 2) B 0 rfl rfl dX2_climb_1 rfl ?_
  refine g_iload_n (pc' := 3) B 2 rfl rfl dX2_climb_2 rfl ?_
  refine g_iload_n (pc' := 4) B 3 rfl rfl dX2_climb_3 rfl ?_
  refine g_callVI (pc' := 7) (As := [.int (iI b), .int (iI x)]) B (c_X2_heightAt l K _ (g := g) (D := D) (f := b) (x := x) hg hD hF (by omega) (by omega) (by omega)) vt_X2_heightAt tw_510 (ly_G hg) rfl ⟨by decide, by decide⟩ rfl (Nat.le_of_ble_eq_true rfl) ⟨Nat.zero_le _, Nat.zero_le _⟩ rfl dX2_climb_4 rfl (fun z4 τ4 h4 => ?_)
  obtain ⟨rfl, rfl⟩ := h4
  refine g_aload_n (pc' := 8) B 0 rfl rfl dX2_climb_7 rfl ?_
  refine g_iload_n (pc' := 9) B 1 rfl rfl dX2_climb_8 rfl ?_
  refine g_iload_n (pc' := 10) B 3 rfl rfl dX2_climb_9 rfl ?_
  refine g_callVI (pc' := 13) (As := [.int (iI a), .int (iI x)]) B (c_X2_heightAt l K _ (g := g) (D := D) (f := a) (x := x) hg hD hF (by omega) (by omega) (by omega)) vt_X2_heightAt tw_510 (ly_G hg) rfl ⟨by decide, by decide⟩ rfl (Nat.le_of_ble_eq_true rfl) ⟨Nat.zero_le _, Nat.zero_le _⟩ rfl dX2_climb_10 rfl (fun z10 τ10 h10 => ?_)
  obtain ⟨rfl, rfl⟩ := h10
  refine g_isub (pc' := 14) B dX2_climb_13 rfl ?_
  have hb9 := hgt_bd (x := x) hF hb0 hb1
  have ha9 := hgt_bd (x := x) hF ha0 ha1
  refine g_mmax (pc' := 17) B (by omega) (by omega) tw_615 (by decide) (Nat.le_of_ble_eq_true rfl) (Nat.zero_le _) (Nat.zero_le _) dX2_climb_14 rfl ?_
  exact g_iret (z := max 0 ((hgt D b x) - (hgt D a x))) B hrt rfl hlk dX2_climb_17 ⟨rfl, rfl⟩
set_option maxRecDepth 100000 in
set_option maxHeartbeats 4000000 in
theorem c_X2_leanRound (l : Launch) (K : WK) (σ : SG) {g : Nat} (hg : g = 4 ∨ g = 18) {D : SG} (hD : gD σ g D) (hF : okF D) {f : Int} (h0 : 0 ≤ f) (h1 : f + 1 < D 9 0) : MI l yX2_leanRound cX2_leanRound 2 (some .int) 1 22 K σ [.ref (K.2.2 g), .int (iI f)] (fun z τ => σ = τ ∧ z = lc (D 1 f) (D 1 (f + 1))) := by
  refine met_of [(0, .ref (K.2.2 g)), (1, .int (iI f))] (by decide +kernel) (Nat.le_of_ble_eq_true rfl) rfl ?_
  intro pP eE sS mM bW mT cC B hrt hlk
  replace B : CB pP sS mM [.ref (K.2.2 g), .int (iI f)].toArray cC cX2_leanRound RX2 2 K := B
  obtain ⟨hF0, hF1⟩ := id hF
  have hf9 := hF1 f h0 (by omega)
  have hf8 := hF1 (f + 1) (by omega) h1
  refine g_aload_n (pc' := 1) B 0 rfl rfl dX2_leanRound_0 rfl ?_
  refine g_iload_n (pc' := 2) B 1 rfl rfl dX2_leanRound_1 rfl ?_
  refine g_callVI (pc' := 5) (As := [.int (iI f)]) B (c_X2_hasGap l K _ (g := g) (D := D) (f := f) hg hD hF (by omega)) vt_X2_hasGap tw_506 (ly_G hg) rfl ⟨by decide, by decide⟩ rfl (Nat.le_of_ble_eq_true rfl) ⟨Nat.zero_le _, Nat.zero_le _⟩ rfl dX2_leanRound_2 rfl (fun z2 τ2 h2 => ?_)
  obtain ⟨rfl, h2⟩ := h2
  rcases h2 with ⟨h2, rfl⟩ | ⟨h2, rfl⟩
  · refine g_if_eq (pc' := 8) B 28 (by omega) dX2_leanRound_5 (by decide) rfl (fun q => absurd q (by decide)) (fun _ => ?_)
    refine g_aload_n (pc' := 9) B 0 rfl rfl dX2_leanRound_8 rfl ?_
    refine g_getR (pc' := 12) B (g + 2) fl_X2_15 (ly_G hg) rfl dX2_leanRound_9 rfl ?_
    refine g_iload_n (pc' := 13) B 1 rfl rfl dX2_leanRound_12 rfl ?_
    refine g_iald (pc' := 14) B (D 1 f) (hD.2.2 _ (by omega) (by omega)).2.1 (ly_Ga1 hg) (by omega) (by decide) dX2_leanRound_13 rfl ?_
    refine g_aload_n (pc' := 15) B 0 rfl rfl dX2_leanRound_14 rfl ?_
    refine g_getR (pc' := 18) B (g + 2) fl_X2_15 (ly_G hg) rfl dX2_leanRound_15 rfl ?_
    refine g_iload_n (pc' := 19) B 1 rfl rfl dX2_leanRound_18 rfl ?_
    refine g_iconst (pc' := 20) B dX2_leanRound_19 rfl ?_
    refine g_iadd (pc' := 21) B dX2_leanRound_20 rfl ?_
    refine g_iald (pc' := 22) B (D 1 (f + 1)) (hD.2.2 _ (by omega) (by omega)).2.1 (ly_Ga1 hg) (by omega) (by decide) dX2_leanRound_21 rfl ?_
    refine g_callNI (pc' := 25) (As := [.int (iI (D 1 f)), .int (iI (D 1 (f + 1)))]) B (c_X11_leastCommon l K _ (a := D 1 f) (b := D 1 (f + 1)) (by omega) (by omega)) st_X11_leastCommon tw_428 ⟨by decide, by decide⟩ rfl (Nat.le_of_ble_eq_true rfl) ⟨Nat.zero_le _, Nat.zero_le _⟩ rfl dX2_leanRound_22 rfl (fun z22 τ22 h22 => ?_)
    obtain ⟨rfl, rfl⟩ := h22
    refine g_goto (pc' := 29) B dX2_leanRound_25 (by decide) ?_
    exact g_iret (z := lc (D 1 f) (D 1 (f + 1))) B hrt rfl hlk dX2_leanRound_29 ⟨rfl, rfl⟩
  · exfalso; omega
def flW (D : SG) (f x : Int) : Int := if 1 ≤ f ∧ hgt D (f - 1) x < hgt D f x then f - 1 else f
def flw (D : SG) (f x : Int) : Int := if f + 1 < D 9 0 ∧ hgt D (f + 1) x < hgt D (flW D f x) x then f + 1 else flW D f x
theorem flW_in {D : SG} {f : Int} (x : Int) (h0 : 0 ≤ f) (h1 : f < D 9 0) : 0 ≤ flW D f x ∧ flW D f x < D 9 0 := by
  unfold flW; split <;> omega
theorem flw_in {D : SG} {f : Int} (x : Int) (h0 : 0 ≤ f) (h1 : f < D 9 0) : 0 ≤ flw D f x ∧ flw D f x < D 9 0 := by
  have := flW_in x h0 h1
  unfold flw; split <;> omega
def fl (D : SG) (f x : Int) : Nat → Int
  | 0 => f
  | n + 1 => flw D (fl D f x n) (x + ((n : Int) + 1))
theorem fl_in {D : SG} {f x : Int} (h0 : 0 ≤ f) (h1 : f < D 9 0) : ∀ n : Nat, 0 ≤ fl D f x n ∧ fl D f x n < D 9 0
  | 0 => ⟨h0, h1⟩
  | n + 1 => flw_in _ (fl_in h0 h1 n).1 (fl_in h0 h1 n).2
theorem fl_next {D : SG} {f x i : Int} (h : 1 ≤ i) : flw D (fl D f x (i - 1).toNat) (x + i) = fl D f x (i + 1 - 1).toNat := by
  rw [show (i + 1 - 1).toNat = (i - 1).toNat + 1 by omega]
  show _ = flw D (fl D f x (i - 1).toNat) (x + (((i - 1).toNat : Int) + 1))
  rw [show (((i - 1).toNat : Nat) : Int) + 1 = i by omega]
set_option maxRecDepth 100000 in
set_option maxHeartbeats 4000000 in
theorem c_X2_lowerBeside (l : Launch) (K : WK) (σ : SG) {g : Nat} (hg : g = 4 ∨ g = 18) {D : SG} (hD : gD σ g D) (hF : okF D) {f x : Int} (h0 : 0 ≤ f) (h1 : f < D 9 0) (hx : 0 ≤ x ∧ x ≤ 2000000000) : MI l yX2_lowerBeside cX2_lowerBeside 4 (some .int) 3 66 K σ [.ref (K.2.2 g), .int (iI f), .int (iI x)] (fun z τ => σ = τ ∧ z = flw D f x) := by
  refine met_of [(0, .ref (K.2.2 g)), (1, .int (iI f)), (2, .int (iI x))] (by decide +kernel) (Nat.le_of_ble_eq_true rfl) rfl ?_
  intro pP eE sS mM bW mT cC B hrt hlk
  replace B : CB pP sS mM [.ref (K.2.2 g), .int (iI f), .int (iI x)].toArray cC cX2_lowerBeside RX2 4 K := B
  obtain ⟨hF0, hF1⟩ := id hF
  refine g_iload_n (pc' := 1) B 1 rfl rfl dX2_lowerBeside_0 rfl ?_
  refine g_istore_n (pc' := 2) B [(3, .int (iI f)), (0, .ref (K.2.2 g)), (1, .int (iI f)), (2, .int (iI x))] dX2_lowerBeside_1 rfl rfl (by decide) rfl ?_
  refine g_aload_n (pc' := 3) B 1 rfl rfl dX2_lowerBeside_2 rfl ?_
  refine g_iload_n (pc' := 4) B 2 rfl rfl dX2_lowerBeside_3 rfl ?_
  refine g_iconst (pc' := 5) B dX2_lowerBeside_4 rfl ?_
  refine g_isub (pc' := 6) B dX2_lowerBeside_5 rfl ?_
  refine g_callVI (pc' := 9) (As := [.int (iI (f - 1))]) B (c_X2_has l K _ (g := g) (D := D) (f := f - 1) hg hD hF (by omega)) vt_X2_has tw_514 (ly_G hg) rfl ⟨by decide, by decide⟩ rfl (Nat.le_of_ble_eq_true rfl) ⟨Nat.zero_le _, Nat.zero_le _⟩ rfl dX2_lowerBeside_6 rfl (fun z6 τ6 h6 => ?_)
  obtain ⟨rfl, h6⟩ := h6
  rcases h6 with ⟨h6, rfl⟩ | ⟨h6, rfl⟩
  · refine g_if_eq (pc' := 12) B 33 (by omega) dX2_lowerBeside_9 (by decide) rfl (fun q => absurd q (by decide)) (fun _ => ?_)
    refine g_aload_n (pc' := 13) B 1 rfl rfl dX2_lowerBeside_12 rfl ?_
    refine g_iload_n (pc' := 14) B 2 rfl rfl dX2_lowerBeside_13 rfl ?_
    refine g_iconst (pc' := 15) B dX2_lowerBeside_14 rfl ?_
    refine g_isub (pc' := 16) B dX2_lowerBeside_15 rfl ?_
    refine g_iload_n (pc' := 17) B 3 rfl rfl dX2_lowerBeside_16 rfl ?_
    refine g_callVI (pc' := 20) (As := [.int (iI (f - 1)), .int (iI x)]) B (c_X2_heightAt l K _ (g := g) (D := D) (f := f - 1) (x := x) hg hD hF (by omega) (by omega) (by omega)) vt_X2_heightAt tw_510 (ly_G hg) rfl ⟨by decide, by decide⟩ rfl (Nat.le_of_ble_eq_true rfl) ⟨Nat.zero_le _, Nat.zero_le _⟩ rfl dX2_lowerBeside_17 rfl (fun z17 τ17 h17 => ?_)
    obtain ⟨rfl, rfl⟩ := h17
    refine g_aload_n (pc' := 21) B 1 rfl rfl dX2_lowerBeside_20 rfl ?_
    refine g_iload_n (pc' := 22) B 0 rfl rfl dX2_lowerBeside_21 rfl ?_
    refine g_iload_n (pc' := 23) B 3 rfl rfl dX2_lowerBeside_22 rfl ?_
    refine g_callVI (pc' := 26) (As := [.int (iI f), .int (iI x)]) B (c_X2_heightAt l K _ (g := g) (D := D) (f := f) (x := x) hg hD hF (by omega) (by omega) (by omega)) vt_X2_heightAt tw_510 (ly_G hg) rfl ⟨by decide, by decide⟩ rfl (Nat.le_of_ble_eq_true rfl) ⟨Nat.zero_le _, Nat.zero_le _⟩ rfl dX2_lowerBeside_23 rfl (fun z23 τ23 h23 => ?_)
    obtain ⟨rfl, rfl⟩ := h23
    have q1 := hgt_bd (x := x) hF (show 0 ≤ f - 1 by omega) (by omega)
    have q2 := hgt_bd (x := x) hF h0 h1
    refine g_icmp_ge (pc' := 29) B 33 (by omega) (by omega) dX2_lowerBeside_26 (by decide) rfl (fun c26 => ?_) (fun c26 => ?_)
    · have ew : flW D f x = f := by unfold flW; first | rw [if_pos (by omega)] | rw [if_neg (by omega)]
      refine g_aload_n (pc' := 34) B 1 rfl rfl dX2_lowerBeside_33 rfl ?_
      refine g_iload_n (pc' := 35) B 2 rfl rfl dX2_lowerBeside_34 rfl ?_
      refine g_iconst (pc' := 36) B dX2_lowerBeside_35 rfl ?_
      refine g_iadd (pc' := 37) B dX2_lowerBeside_36 rfl ?_
      refine g_callVI (pc' := 40) (As := [.int (iI (f + 1))]) B (c_X2_has l K _ (g := g) (D := D) (f := f + 1) hg hD hF (by omega)) vt_X2_has tw_514 (ly_G hg) rfl ⟨by decide, by decide⟩ rfl (Nat.le_of_ble_eq_true rfl) ⟨Nat.zero_le _, Nat.zero_le _⟩ rfl dX2_lowerBeside_37 rfl (fun z37 τ37 h37 => ?_)
      obtain ⟨rfl, h37⟩ := h37
      rcases h37 with ⟨h37, rfl⟩ | ⟨h37, rfl⟩
      · refine g_if_eq (pc' := 43) B 64 (by omega) dX2_lowerBeside_40 (by decide) rfl (fun q => absurd q (by decide)) (fun _ => ?_)
        refine g_aload_n (pc' := 44) B 1 rfl rfl dX2_lowerBeside_43 rfl ?_
        refine g_iload_n (pc' := 45) B 2 rfl rfl dX2_lowerBeside_44 rfl ?_
        refine g_iconst (pc' := 46) B dX2_lowerBeside_45 rfl ?_
        refine g_iadd (pc' := 47) B dX2_lowerBeside_46 rfl ?_
        refine g_iload_n (pc' := 48) B 3 rfl rfl dX2_lowerBeside_47 rfl ?_
        refine g_callVI (pc' := 51) (As := [.int (iI (f + 1)), .int (iI x)]) B (c_X2_heightAt l K _ (g := g) (D := D) (f := f + 1) (x := x) hg hD hF (by omega) (by omega) (by omega)) vt_X2_heightAt tw_510 (ly_G hg) rfl ⟨by decide, by decide⟩ rfl (Nat.le_of_ble_eq_true rfl) ⟨Nat.zero_le _, Nat.zero_le _⟩ rfl dX2_lowerBeside_48 rfl (fun z48 τ48 h48 => ?_)
        obtain ⟨rfl, rfl⟩ := h48
        refine g_aload_n (pc' := 52) B 1 rfl rfl dX2_lowerBeside_51 rfl ?_
        refine g_iload_n (pc' := 53) B 0 rfl rfl dX2_lowerBeside_52 rfl ?_
        refine g_iload_n (pc' := 54) B 3 rfl rfl dX2_lowerBeside_53 rfl ?_
        refine g_callVI (pc' := 57) (As := [.int (iI f), .int (iI x)]) B (c_X2_heightAt l K _ (g := g) (D := D) (f := f) (x := x) hg hD hF (by omega) (by omega) (by omega)) vt_X2_heightAt tw_510 (ly_G hg) rfl ⟨by decide, by decide⟩ rfl (Nat.le_of_ble_eq_true rfl) ⟨Nat.zero_le _, Nat.zero_le _⟩ rfl dX2_lowerBeside_54 rfl (fun z54 τ54 h54 => ?_)
        obtain ⟨rfl, rfl⟩ := h54
        have q3 := hgt_bd (x := x) hF (show 0 ≤ f + 1 by omega) (by omega)
        have q4 := hgt_bd (f := f) (x := x) hF (by omega) (by omega)
        refine g_icmp_ge (pc' := 60) B 64 (by omega) (by omega) dX2_lowerBeside_57 (by decide) rfl (fun c57 => ?_) (fun c57 => ?_)
        · refine g_iload_n (pc' := 65) B 0 rfl rfl dX2_lowerBeside_64 rfl ?_
          exact g_iret (z := f) B hrt rfl hlk dX2_lowerBeside_65 ⟨rfl, by unfold flw; rw [ew]; first | rw [if_pos (by omega)] | rw [if_neg (by omega)]⟩
        · refine g_iload_n (pc' := 61) B 2 rfl rfl dX2_lowerBeside_60 rfl ?_
          refine g_iconst (pc' := 62) B dX2_lowerBeside_61 rfl ?_
          refine g_iadd (pc' := 63) B dX2_lowerBeside_62 rfl ?_
          refine g_istore_n (pc' := 64) B [(3, .int (iI (f + 1))), (0, .ref (K.2.2 g)), (1, .int (iI f)), (2, .int (iI x))] dX2_lowerBeside_63 rfl rfl (by decide) rfl ?_
          refine g_iload_n (pc' := 65) B 0 rfl rfl dX2_lowerBeside_64 rfl ?_
          exact g_iret (z := f + 1) B hrt rfl hlk dX2_lowerBeside_65 ⟨rfl, by unfold flw; rw [ew]; first | rw [if_pos (by omega)] | rw [if_neg (by omega)]⟩
      · refine g_if_eq (pc' := 43) B 64 (by omega) dX2_lowerBeside_40 (by decide) rfl (fun _ => ?_) (fun q => absurd q (by decide))
        refine g_iload_n (pc' := 65) B 0 rfl rfl dX2_lowerBeside_64 rfl ?_
        exact g_iret (z := f) B hrt rfl hlk dX2_lowerBeside_65 ⟨rfl, by unfold flw; rw [ew]; first | rw [if_pos (by omega)] | rw [if_neg (by omega)]⟩
    · refine g_iload_n (pc' := 30) B 2 rfl rfl dX2_lowerBeside_29 rfl ?_
      refine g_iconst (pc' := 31) B dX2_lowerBeside_30 rfl ?_
      refine g_isub (pc' := 32) B dX2_lowerBeside_31 rfl ?_
      refine g_istore_n (pc' := 33) B [(3, .int (iI (f - 1))), (0, .ref (K.2.2 g)), (1, .int (iI f)), (2, .int (iI x))] dX2_lowerBeside_32 rfl rfl (by decide) rfl ?_
      have ew : flW D f x = (f - 1) := by unfold flW; first | rw [if_pos (by omega)] | rw [if_neg (by omega)]
      refine g_aload_n (pc' := 34) B 1 rfl rfl dX2_lowerBeside_33 rfl ?_
      refine g_iload_n (pc' := 35) B 2 rfl rfl dX2_lowerBeside_34 rfl ?_
      refine g_iconst (pc' := 36) B dX2_lowerBeside_35 rfl ?_
      refine g_iadd (pc' := 37) B dX2_lowerBeside_36 rfl ?_
      refine g_callVI (pc' := 40) (As := [.int (iI (f + 1))]) B (c_X2_has l K _ (g := g) (D := D) (f := f + 1) hg hD hF (by omega)) vt_X2_has tw_514 (ly_G hg) rfl ⟨by decide, by decide⟩ rfl (Nat.le_of_ble_eq_true rfl) ⟨Nat.zero_le _, Nat.zero_le _⟩ rfl dX2_lowerBeside_37 rfl (fun z37 τ37 h37 => ?_)
      obtain ⟨rfl, h37⟩ := h37
      rcases h37 with ⟨h37, rfl⟩ | ⟨h37, rfl⟩
      · refine g_if_eq (pc' := 43) B 64 (by omega) dX2_lowerBeside_40 (by decide) rfl (fun q => absurd q (by decide)) (fun _ => ?_)
        refine g_aload_n (pc' := 44) B 1 rfl rfl dX2_lowerBeside_43 rfl ?_
        refine g_iload_n (pc' := 45) B 2 rfl rfl dX2_lowerBeside_44 rfl ?_
        refine g_iconst (pc' := 46) B dX2_lowerBeside_45 rfl ?_
        refine g_iadd (pc' := 47) B dX2_lowerBeside_46 rfl ?_
        refine g_iload_n (pc' := 48) B 3 rfl rfl dX2_lowerBeside_47 rfl ?_
        refine g_callVI (pc' := 51) (As := [.int (iI (f + 1)), .int (iI x)]) B (c_X2_heightAt l K _ (g := g) (D := D) (f := f + 1) (x := x) hg hD hF (by omega) (by omega) (by omega)) vt_X2_heightAt tw_510 (ly_G hg) rfl ⟨by decide, by decide⟩ rfl (Nat.le_of_ble_eq_true rfl) ⟨Nat.zero_le _, Nat.zero_le _⟩ rfl dX2_lowerBeside_48 rfl (fun z48 τ48 h48 => ?_)
        obtain ⟨rfl, rfl⟩ := h48
        refine g_aload_n (pc' := 52) B 1 rfl rfl dX2_lowerBeside_51 rfl ?_
        refine g_iload_n (pc' := 53) B 0 rfl rfl dX2_lowerBeside_52 rfl ?_
        refine g_iload_n (pc' := 54) B 3 rfl rfl dX2_lowerBeside_53 rfl ?_
        refine g_callVI (pc' := 57) (As := [.int (iI (f - 1)), .int (iI x)]) B (c_X2_heightAt l K _ (g := g) (D := D) (f := f - 1) (x := x) hg hD hF (by omega) (by omega) (by omega)) vt_X2_heightAt tw_510 (ly_G hg) rfl ⟨by decide, by decide⟩ rfl (Nat.le_of_ble_eq_true rfl) ⟨Nat.zero_le _, Nat.zero_le _⟩ rfl dX2_lowerBeside_54 rfl (fun z54 τ54 h54 => ?_)
        obtain ⟨rfl, rfl⟩ := h54
        have q3 := hgt_bd (x := x) hF (show 0 ≤ f + 1 by omega) (by omega)
        have q4 := hgt_bd (f := (f - 1)) (x := x) hF (by omega) (by omega)
        refine g_icmp_ge (pc' := 60) B 64 (by omega) (by omega) dX2_lowerBeside_57 (by decide) rfl (fun c57 => ?_) (fun c57 => ?_)
        · refine g_iload_n (pc' := 65) B 0 rfl rfl dX2_lowerBeside_64 rfl ?_
          exact g_iret (z := f - 1) B hrt rfl hlk dX2_lowerBeside_65 ⟨rfl, by unfold flw; rw [ew]; first | rw [if_pos (by omega)] | rw [if_neg (by omega)]⟩
        · refine g_iload_n (pc' := 61) B 2 rfl rfl dX2_lowerBeside_60 rfl ?_
          refine g_iconst (pc' := 62) B dX2_lowerBeside_61 rfl ?_
          refine g_iadd (pc' := 63) B dX2_lowerBeside_62 rfl ?_
          refine g_istore_n (pc' := 64) B [(3, .int (iI (f + 1))), (0, .ref (K.2.2 g)), (1, .int (iI f)), (2, .int (iI x))] dX2_lowerBeside_63 rfl rfl (by decide) rfl ?_
          refine g_iload_n (pc' := 65) B 0 rfl rfl dX2_lowerBeside_64 rfl ?_
          exact g_iret (z := f + 1) B hrt rfl hlk dX2_lowerBeside_65 ⟨rfl, by unfold flw; rw [ew]; first | rw [if_pos (by omega)] | rw [if_neg (by omega)]⟩
      · refine g_if_eq (pc' := 43) B 64 (by omega) dX2_lowerBeside_40 (by decide) rfl (fun _ => ?_) (fun q => absurd q (by decide))
        refine g_iload_n (pc' := 65) B 0 rfl rfl dX2_lowerBeside_64 rfl ?_
        exact g_iret (z := f - 1) B hrt rfl hlk dX2_lowerBeside_65 ⟨rfl, by unfold flw; rw [ew]; first | rw [if_pos (by omega)] | rw [if_neg (by omega)]⟩
  · refine g_if_eq (pc' := 12) B 33 (by omega) dX2_lowerBeside_9 (by decide) rfl (fun _ => ?_) (fun q => absurd q (by decide))
    have ew : flW D f x = f := by unfold flW; first | rw [if_pos (by omega)] | rw [if_neg (by omega)]
    refine g_aload_n (pc' := 34) B 1 rfl rfl dX2_lowerBeside_33 rfl ?_
    refine g_iload_n (pc' := 35) B 2 rfl rfl dX2_lowerBeside_34 rfl ?_
    refine g_iconst (pc' := 36) B dX2_lowerBeside_35 rfl ?_
    refine g_iadd (pc' := 37) B dX2_lowerBeside_36 rfl ?_
    refine g_callVI (pc' := 40) (As := [.int (iI (f + 1))]) B (c_X2_has l K _ (g := g) (D := D) (f := f + 1) hg hD hF (by omega)) vt_X2_has tw_514 (ly_G hg) rfl ⟨by decide, by decide⟩ rfl (Nat.le_of_ble_eq_true rfl) ⟨Nat.zero_le _, Nat.zero_le _⟩ rfl dX2_lowerBeside_37 rfl (fun z37 τ37 h37 => ?_)
    obtain ⟨rfl, h37⟩ := h37
    rcases h37 with ⟨h37, rfl⟩ | ⟨h37, rfl⟩
    · refine g_if_eq (pc' := 43) B 64 (by omega) dX2_lowerBeside_40 (by decide) rfl (fun q => absurd q (by decide)) (fun _ => ?_)
      refine g_aload_n (pc' := 44) B 1 rfl rfl dX2_lowerBeside_43 rfl ?_
      refine g_iload_n (pc' := 45) B 2 rfl rfl dX2_lowerBeside_44 rfl ?_
      refine g_iconst (pc' := 46) B dX2_lowerBeside_45 rfl ?_
      refine g_iadd (pc' := 47) B dX2_lowerBeside_46 rfl ?_
      refine g_iload_n (pc' := 48) B 3 rfl rfl dX2_lowerBeside_47 rfl ?_
      refine g_callVI (pc' := 51) (As := [.int (iI (f + 1)), .int (iI x)]) B (c_X2_heightAt l K _ (g := g) (D := D) (f := f + 1) (x := x) hg hD hF (by omega) (by omega) (by omega)) vt_X2_heightAt tw_510 (ly_G hg) rfl ⟨by decide, by decide⟩ rfl (Nat.le_of_ble_eq_true rfl) ⟨Nat.zero_le _, Nat.zero_le _⟩ rfl dX2_lowerBeside_48 rfl (fun z48 τ48 h48 => ?_)
      obtain ⟨rfl, rfl⟩ := h48
      refine g_aload_n (pc' := 52) B 1 rfl rfl dX2_lowerBeside_51 rfl ?_
      refine g_iload_n (pc' := 53) B 0 rfl rfl dX2_lowerBeside_52 rfl ?_
      refine g_iload_n (pc' := 54) B 3 rfl rfl dX2_lowerBeside_53 rfl ?_
      refine g_callVI (pc' := 57) (As := [.int (iI f), .int (iI x)]) B (c_X2_heightAt l K _ (g := g) (D := D) (f := f) (x := x) hg hD hF (by omega) (by omega) (by omega)) vt_X2_heightAt tw_510 (ly_G hg) rfl ⟨by decide, by decide⟩ rfl (Nat.le_of_ble_eq_true rfl) ⟨Nat.zero_le _, Nat.zero_le _⟩ rfl dX2_lowerBeside_54 rfl (fun z54 τ54 h54 => ?_)
      obtain ⟨rfl, rfl⟩ := h54
      have q3 := hgt_bd (x := x) hF (show 0 ≤ f + 1 by omega) (by omega)
      have q4 := hgt_bd (f := f) (x := x) hF (by omega) (by omega)
      refine g_icmp_ge (pc' := 60) B 64 (by omega) (by omega) dX2_lowerBeside_57 (by decide) rfl (fun c57 => ?_) (fun c57 => ?_)
      · refine g_iload_n (pc' := 65) B 0 rfl rfl dX2_lowerBeside_64 rfl ?_
        exact g_iret (z := f) B hrt rfl hlk dX2_lowerBeside_65 ⟨rfl, by unfold flw; rw [ew]; first | rw [if_pos (by omega)] | rw [if_neg (by omega)]⟩
      · refine g_iload_n (pc' := 61) B 2 rfl rfl dX2_lowerBeside_60 rfl ?_
        refine g_iconst (pc' := 62) B dX2_lowerBeside_61 rfl ?_
        refine g_iadd (pc' := 63) B dX2_lowerBeside_62 rfl ?_
        refine g_istore_n (pc' := 64) B [(3, .int (iI (f + 1))), (0, .ref (K.2.2 g)), (1, .int (iI f)), (2, .int (iI x))] dX2_lowerBeside_63 rfl rfl (by decide) rfl ?_
        refine g_iload_n (pc' := 65) B 0 rfl rfl dX2_lowerBeside_64 rfl ?_
        exact g_iret (z := f + 1) B hrt rfl hlk dX2_lowerBeside_65 ⟨rfl, by unfold flw; rw [ew]; first | rw [if_pos (by omega)] | rw [if_neg (by omega)]⟩
    · refine g_if_eq (pc' := 43) B 64 (by omega) dX2_lowerBeside_40 (by decide) rfl (fun _ => ?_) (fun q => absurd q (by decide))
      refine g_iload_n (pc' := 65) B 0 rfl rfl dX2_lowerBeside_64 rfl ?_
      exact g_iret (z := f) B hrt rfl hlk dX2_lowerBeside_65 ⟨rfl, by unfold flw; rw [ew]; first | rw [if_pos (by omega)] | rw [if_neg (by omega)]⟩
set_option maxRecDepth 100000 in
set_option maxHeartbeats 4000000 in
theorem c_X2_flownTo (l : Launch) (K : WK) (σ : SG) {g : Nat} (hg : g = 4 ∨ g = 18) {D : SG} (hD : gD σ g D) (hF : okF D) {f x n : Int} (h0 : 0 ≤ f) (h1 : f < D 9 0) (hx : 0 ≤ x ∧ x ≤ 1000000000) (hn : 0 ≤ n ∧ n ≤ 1000) : MI l yX2_flownTo cX2_flownTo 6 (some .int) 4 89 K σ [.ref (K.2.2 g), .int (iI f), .int (iI x), .int (iI n)] (fun z τ => σ = τ ∧ z = fl D f x n.toNat) := by
  refine met_of [(0, .ref (K.2.2 g)), (1, .int (iI f)), (2, .int (iI x)), (3, .int (iI n))] (by decide +kernel) (Nat.le_of_ble_eq_true rfl) rfl ?_
  intro pP eE sS mM bW mT cC B hrt hlk
  replace B : CB pP sS mM [.ref (K.2.2 g), .int (iI f), .int (iI x), .int (iI n)].toArray cC cX2_flownTo RX2 6 K := B
  obtain ⟨hF0, hF1⟩ := id hF
  refine g_iload_n (pc' := 1) B 1 rfl rfl dX2_flownTo_0 rfl ?_
  refine g_istore (pc' := 3) B [(4, .int (iI f)), (0, .ref (K.2.2 g)), (1, .int (iI f)), (2, .int (iI x)), (3, .int (iI n))] dX2_flownTo_1 rfl (by decide) rfl ?_
  refine g_iconst (pc' := 4) B dX2_flownTo_3 rfl ?_
  refine g_istore (pc' := 6) B [(5, .int (iI 1)), (4, .int (iI f)), (0, .ref (K.2.2 g)), (1, .int (iI f)), (2, .int (iI x)), (3, .int (iI n))] dX2_flownTo_4 rfl (by decide) rfl ?_
  have L6 : ∀ (nn : Nat) (a i : Int) , (n + 1 - i).toNat = nn → (1 ≤ i ∧ i ≤ n + 1) → (a = fl D f x (i - 1).toNat) → G pP l eE (rmo 4 89) sS mM [.ref (K.2.2 g), .int (iI f), .int (iI x), .int (iI n)].toArray bW mT cC 0 0 (MQ bW (Qi K (fun z τ => σ = τ ∧ z = fl D f x n.toNat)) [.ref (K.2.2 g), .int (iI f), .int (iI x), .int (iI n)].toArray sS 0 0 (wA K)) K sS.heap 6 σ 6 [(5, .int (iI i)), (4, .int (iI a)), (0, .ref (K.2.2 g)), (1, .int (iI f)), (2, .int (iI x)), (3, .int (iI n))] [] := by
    intro nn
    induction nn using Nat.strongRecOn with
    | _ nn ih6 =>
      intro a i hn6 i1 i2
      have ia := fl_in (x := x) h0 h1 (i - 1).toNat
      rw [← i2] at ia
      refine g_iload (pc' := 8) B 0 rfl dX2_flownTo_6 rfl ?_
      refine g_iload_n (pc' := 9) B 5 rfl rfl dX2_flownTo_8 rfl ?_
      refine g_icmp_gt (pc' := 12) B 30 (by omega) (by omega) dX2_flownTo_9 (by decide) rfl (fun c9 => ?_) (fun c9 => ?_)
      · refine g_iload (pc' := 32) B 1 rfl dX2_flownTo_30 rfl ?_
        exact g_iret (z := a) B hrt rfl hlk dX2_flownTo_32 ⟨rfl, by rw [i2, show i - 1 = n by omega]⟩
      · refine g_aload_n (pc' := 13) B 2 rfl rfl dX2_flownTo_12 rfl ?_
        refine g_iload (pc' := 15) B 1 rfl dX2_flownTo_13 rfl ?_
        refine g_iload_n (pc' := 16) B 4 rfl rfl dX2_flownTo_15 rfl ?_
        refine g_iload (pc' := 18) B 0 rfl dX2_flownTo_16 rfl ?_
        refine g_iadd (pc' := 19) B dX2_flownTo_18 rfl ?_
        refine g_callVI (pc' := 22) (As := [.int (iI a), .int (iI (x + i))]) B (c_X2_lowerBeside l K _ (g := g) (D := D) (f := a) (x := x + i) hg hD hF (by omega) (by omega) (by omega)) vt_X2_lowerBeside tw_666 (ly_G hg) rfl ⟨by decide, by decide⟩ rfl (Nat.le_of_ble_eq_true rfl) ⟨Nat.zero_le _, Nat.zero_le _⟩ rfl dX2_flownTo_19 rfl (fun z19 τ19 h19 => ?_)
        obtain ⟨rfl, rfl⟩ := h19
        refine g_istore (pc' := 24) B [(4, .int (iI (flw D a (x + i)))), (5, .int (iI i)), (0, .ref (K.2.2 g)), (1, .int (iI f)), (2, .int (iI x)), (3, .int (iI n))] dX2_flownTo_22 rfl (by decide) rfl ?_
        refine g_iinc (pc' := 27) B 1 [(5, .int (iI (i + 1))), (4, .int (iI (flw D a (x + i)))), (0, .ref (K.2.2 g)), (1, .int (iI f)), (2, .int (iI x)), (3, .int (iI n))] dX2_flownTo_24 rfl rfl (by decide) rfl ?_
        refine g_goto (pc' := 6) B dX2_flownTo_27 (by decide) ?_
        exact ih6 _ (by omega) (flw D a (x + i)) (i + 1) rfl (by omega) (by rw [i2]; exact fl_next (by omega))
  exact L6 _ f 1 rfl (by omega) (by rfl)
/-- what a mill counts at a breath -/
def mt (D : SG) (f w x : Int) : Int := if w = 2 then ((lean D f x).natAbs : Int) else if w = 0 then (if lean D f x < 0 then 1 else 0) else (if 0 < lean D f x then 1 else 0)
def ml (D : SG) (f w : Int) : Int := sm (mt D f w) (D 9 3).toNat
theorem mt_per {D : SG} {f p : Int} (w : Int) (h : D 1 f ∣ p) (h2 : D 1 (f + 1) ∣ p) (x : Int) : mt D f w (x + p) = mt D f w x := by
  unfold mt; rw [lean_per h h2]
theorem mt_bd {D : SG} {f : Int} (w x : Int) (h : okF D) (h0 : 0 ≤ f) : 0 ≤ mt D f w x ∧ mt D f w x ≤ 153 := by
  have := lean_bd x h h0
  unfold mt; (repeat' split) <;> omega
theorem sm_bd {F : Int → Int} {c : Int} (h : ∀ x, 0 ≤ F x ∧ F x ≤ c) : ∀ n : Nat, 0 ≤ sm F n ∧ sm F n ≤ c * n
  | 0 => by simp [sm]
  | n + 1 => by
    have h1 := sm_bd h n
    have h2 := h n
    show 0 ≤ sm F n + F n ∧ sm F n + F n ≤ c * ((n + 1 : Nat) : Int)
    have : ((n + 1 : Nat) : Int) = (n : Int) + 1 := by simp
    rw [this, Int.mul_add]
    omega
theorem ml_bd {D : SG} {f : Int} (w : Int) (h : okF D) (hR : okR D) (h0 : 0 ≤ f) : 0 ≤ ml D f w ∧ ml D f w ≤ 153 * 27720 := by
  have h1 := sm_bd (F := mt D f w) (fun x => mt_bd (D := D) w x h h0) (D 9 3).toNat
  have h2 := hR.1
  unfold ml
  omega
theorem lc_dvd {a b r : Int} (ha : 1 ≤ a) (hb : 1 ≤ b) (h1 : a ∣ r) (h2 : b ∣ r) (hr : 0 ≤ r) : lc a b ∣ r := by
  obtain ⟨A, rfl⟩ : ∃ A : Nat, a = A := ⟨a.toNat, by omega⟩
  obtain ⟨B, rfl⟩ : ∃ B : Nat, b = B := ⟨b.toNat, by omega⟩
  obtain ⟨T, rfl⟩ : ∃ T : Nat, r = T := ⟨r.toNat, by omega⟩
  show ((Nat.lcm A B : Nat) : Int) ∣ (T : Int)
  exact Int.natCast_dvd_natCast.mpr (Nat.lcm_dvd (Int.natCast_dvd_natCast.mp h1) (Int.natCast_dvd_natCast.mp h2))
theorem lc_left {a b : Int} (ha : 1 ≤ a) : a ∣ lc a b := by
  obtain ⟨A, rfl⟩ : ∃ A : Nat, a = A := ⟨a.toNat, by omega⟩
  exact Int.natCast_dvd_natCast.mpr (Nat.dvd_lcm_left A _)
theorem lc_right {a b : Int} (hb : 1 ≤ b) : b ∣ lc a b := by
  obtain ⟨B, rfl⟩ : ∃ B : Nat, b = B := ⟨b.toNat, by omega⟩
  exact Int.natCast_dvd_natCast.mpr (Nat.dvd_lcm_right _ B)
theorem lc_pos {a b : Int} (ha : 1 ≤ a) (hb : 1 ≤ b) : 1 ≤ lc a b := by
  have := Nat.lcm_pos (m := a.toNat) (n := b.toNat) (by omega) (by omega)
  unfold lc; omega
theorem lc_le {a b : Int} (ha : 1 ≤ a) (hb : 1 ≤ b) : lc a b ≤ a * b := by
  obtain ⟨A, rfl⟩ : ∃ A : Nat, a = A := ⟨a.toNat, by omega⟩
  obtain ⟨B, rfl⟩ : ∃ B : Nat, b = B := ⟨b.toNat, by omega⟩
  have h := Nat.le_of_dvd (Nat.mul_pos (show 0 < A by omega) (show 0 < B by omega)) (Nat.lcm_dvd_mul A B)
  show ((Nat.lcm A B : Nat) : Int) ≤ (A : Int) * B
  exact_mod_cast h
theorem ml_by {D : SG} {f : Int} (w : Int) (hF : okF D) (hR : okR D) (h0 : 0 ≤ f) (h1 : f + 1 < D 9 0) : sm (mt D f w) (lc (D 1 f) (D 1 (f + 1))).toNat * (D 9 3 / lc (D 1 f) (D 1 (f + 1))) = ml D f w := by
  obtain ⟨-, a1, -⟩ := hF.2 f h0 (by omega)
  obtain ⟨-, b1, -⟩ := hF.2 (f + 1) (by omega) h1
  have hp := lc_pos (a := D 1 f) (b := D 1 (f + 1)) (by omega) (by omega)
  have hl := lc_left (a := D 1 f) (b := D 1 (f + 1)) (by omega)
  have hr := lc_right (a := D 1 f) (b := D 1 (f + 1)) (by omega)
  have hd := lc_dvd (a := D 1 f) (b := D 1 (f + 1)) (r := D 9 3) (by omega) (by omega) (hR.2 f h0 (by omega)) (hR.2 (f + 1) (by omega) h1) (by have := hR.1; omega)
  have hR1 := hR.1
  generalize lc (D 1 f) (D 1 (f + 1)) = q at hp hl hr hd ⊢
  obtain ⟨c, hc⟩ := hd
  have hc0 : 0 ≤ c := by
    rcases Int.lt_or_le c 0 with h | h
    · have := Int.mul_neg_of_pos_of_neg (show 0 < q by omega) h
      omega
    · exact h
  unfold ml
  rw [hc, Int.mul_ediv_cancel_left c (by omega)]
  obtain ⟨Q, rfl⟩ : ∃ Q : Nat, q = Q := ⟨q.toNat, by omega⟩
  obtain ⟨C, rfl⟩ : ∃ C : Nat, c = C := ⟨c.toNat, by omega⟩
  have e : ((Q : Int) * C).toNat = Q * C := by
    have : ((Q : Int) * C) = ((Q * C : Nat) : Int) := by simp
    rw [this]; exact Int.toNat_natCast _
  rw [e]
  show sm (mt D f w) (Q : Int).toNat * C = _
  rw [show ((Q : Int).toNat) = Q by simp]
  exact (sm_per (F := mt D f w) (p := Q) (fun x => mt_per w hl hr x) C).symm
set_option maxRecDepth 100000 in
set_option maxHeartbeats 4000000 in
theorem c_X2_milled (l : Launch) (K : WK) (σ : SG) {g : Nat} (hg : g = 4 ∨ g = 18) {D : SG} (hD : gD σ g D) (hF : okF D) {f w : Int} (h0 : 0 ≤ f) (h1 : f + 1 < D 9 0) (hw : 0 ≤ w ∧ w ≤ 2) (hR : okR D) : MI l yX2_milled cX2_milled 7 (some .int) 4 88 K σ [.ref (K.2.2 g), .int (iI f), .int (iI w)] (fun z τ => σ = τ ∧ z = ml D f w) := by
  refine met_of [(0, .ref (K.2.2 g)), (1, .int (iI f)), (2, .int (iI w))] (by decide +kernel) (Nat.le_of_ble_eq_true rfl) rfl ?_
  intro pP eE sS mM bW mT cC B hrt hlk
  replace B : CB pP sS mM [.ref (K.2.2 g), .int (iI f), .int (iI w)].toArray cC cX2_milled RX2 7 K := B
  obtain ⟨hF0, hF1⟩ := id hF
  have hf9 := hF1 f h0 (by omega)
  have hf8 := hF1 (f + 1) (by omega) h1
  have hR1 := hR.1
  have hp := lc_pos (a := D 1 f) (b := D 1 (f + 1)) (by omega) (by omega)
  have hq := lc_le (a := D 1 f) (b := D 1 (f + 1)) (by omega) (by omega)
  have hq2 : D 1 f * D 1 (f + 1) ≤ 12 * 12 := Int.mul_le_mul (by omega) (by omega) (by omega) (by omega)
  have hmb := ml_by w hF hR h0 h1
  refine g_aload_n (pc' := 1) B 0 rfl rfl dX2_milled_0 rfl ?_
  refine g_iload_n (pc' := 2) B 1 rfl rfl dX2_milled_1 rfl ?_
  refine g_callVI (pc' := 5) (As := [.int (iI f)]) B (c_X2_leanRound l K _ (g := g) (D := D) (f := f) hg hD hF (by omega) (by omega)) vt_X2_leanRound tw_679 (ly_G hg) rfl ⟨by decide, by decide⟩ rfl (Nat.le_of_ble_eq_true rfl) ⟨Nat.zero_le _, Nat.zero_le _⟩ rfl dX2_milled_2 rfl (fun z2 τ2 h2 => ?_)
  obtain ⟨rfl, rfl⟩ := h2
  refine g_istore_n (pc' := 6) B [(3, .int (iI (lc (D 1 f) (D 1 (f + 1))))), (0, .ref (K.2.2 g)), (1, .int (iI f)), (2, .int (iI w))] dX2_milled_5 rfl rfl (by decide) rfl ?_
  refine g_iconst (pc' := 7) B dX2_milled_6 rfl ?_
  refine g_istore (pc' := 9) B [(4, .int (iI 0)), (3, .int (iI (lc (D 1 f) (D 1 (f + 1))))), (0, .ref (K.2.2 g)), (1, .int (iI f)), (2, .int (iI w))] dX2_milled_7 rfl (by decide) rfl ?_
  refine g_iconst (pc' := 10) B dX2_milled_9 rfl ?_
  refine g_istore (pc' := 12) B [(5, .int (iI 0)), (4, .int (iI 0)), (3, .int (iI (lc (D 1 f) (D 1 (f + 1))))), (0, .ref (K.2.2 g)), (1, .int (iI f)), (2, .int (iI w))] dX2_milled_10 rfl (by decide) rfl ?_
  have L12 : ∀ (nn : Nat) (u x : Int) , (lc (D 1 f) (D 1 (f + 1)) - x).toNat = nn → (0 ≤ x ∧ x ≤ lc (D 1 f) (D 1 (f + 1))) → (u = sm (mt D f w) x.toNat) → G pP l eE (rmo 4 88) sS mM [.ref (K.2.2 g), .int (iI f), .int (iI w)].toArray bW mT cC 0 0 (MQ bW (Qi K (fun z τ => σ = τ ∧ z = ml D f w)) [.ref (K.2.2 g), .int (iI f), .int (iI w)].toArray sS 0 0 (wA K)) K sS.heap 7 σ 12 [(5, .int (iI x)), (4, .int (iI u)), (3, .int (iI (lc (D 1 f) (D 1 (f + 1))))), (0, .ref (K.2.2 g)), (1, .int (iI f)), (2, .int (iI w))] [] := by
    intro nn
    induction nn using Nat.strongRecOn with
    | _ nn ih12 =>
      intro u x hn12 i1 i2
      refine g_iload (pc' := 14) B 0 rfl dX2_milled_12 rfl ?_
      refine g_iload_n (pc' := 15) B 2 rfl rfl dX2_milled_14 rfl ?_
      refine g_icmp_ge (pc' := 18) B 71 (by omega) (by omega) dX2_milled_15 (by decide) rfl (fun c15 => ?_) (fun c15 => ?_)
      · refine g_iload_n (pc' := 72) B 2 rfl rfl dX2_milled_71 rfl ?_
        refine g_iconst (pc' := 73) B dX2_milled_72 rfl ?_
        refine g_icmp_ge (pc' := 76) B 80 (by omega) (by omega) dX2_milled_73 (by decide) rfl (fun c73 => ?_) (fun c73 => by exfalso; omega)
        refine g_iload (pc' := 82) B 1 rfl dX2_milled_80 rfl ?_
        refine g_aload_n (pc' := 83) B 3 rfl rfl dX2_milled_82 rfl ?_
        refine g_get (pc' := 86) B (D 9 3) hD.2.1 fl_X2_32 (ly_G hg) rfl dX2_milled_83 rfl ?_
        refine g_iload_n (pc' := 87) B 2 rfl rfl dX2_milled_86 rfl ?_
        refine g_idiv (pc' := 88) B (by omega) (by omega) dX2_milled_87 rfl ?_
        refine g_imul (pc' := 89) B dX2_milled_88 rfl ?_
        exact g_iret (z := u * ((D 9 3) / (lc (D 1 f) (D 1 (f + 1))))) B hrt rfl hlk dX2_milled_89 ⟨rfl, by rw [i2, show x = lc (D 1 f) (D 1 (f + 1)) by omega]; exact hmb⟩
      · refine g_aload_n (pc' := 19) B 3 rfl rfl dX2_milled_18 rfl ?_
        refine g_iload_n (pc' := 20) B 4 rfl rfl dX2_milled_19 rfl ?_
        refine g_iload (pc' := 22) B 0 rfl dX2_milled_20 rfl ?_
        refine g_callVI (pc' := 25) (As := [.int (iI f), .int (iI x)]) B (c_X2_leanAt l K _ (g := g) (D := D) (f := f) (x := x) hg hD hF (by omega) (by omega) (by omega)) vt_X2_leanAt tw_680 (ly_G hg) rfl ⟨by decide, by decide⟩ rfl (Nat.le_of_ble_eq_true rfl) ⟨Nat.zero_le _, Nat.zero_le _⟩ rfl dX2_milled_22 rfl (fun z22 τ22 h22 => ?_)
        obtain ⟨rfl, rfl⟩ := h22
        refine g_istore (pc' := 27) B [(6, .int (iI (lean D f x))), (5, .int (iI x)), (4, .int (iI u)), (3, .int (iI (lc (D 1 f) (D 1 (f + 1))))), (0, .ref (K.2.2 g)), (1, .int (iI f)), (2, .int (iI w))] dX2_milled_25 rfl (by decide) rfl ?_
        have hb := lean_bd x hF h0
        refine g_iload_n (pc' := 28) B 6 rfl rfl dX2_milled_27 rfl ?_
        refine g_iconst (pc' := 29) B dX2_milled_28 rfl ?_
        refine g_icmp_ne (pc' := 32) B 45 (by omega) (by omega) dX2_milled_29 (by decide) rfl (fun c29 => ?_) (fun c29 => ?_)
        · refine g_iload_n (pc' := 46) B 6 rfl rfl dX2_milled_45 rfl ?_
          refine g_if_ne (pc' := 49) B 57 (by omega) dX2_milled_46 (by decide) rfl (fun c46 => ?_) (fun c46 => ?_)
          · refine g_iload (pc' := 59) B 0 rfl dX2_milled_57 rfl ?_
            refine g_if_le (pc' := 62) B 65 (by omega) dX2_milled_59 (by decide) rfl (fun c59 => ?_) (fun c59 => ?_)
            · refine g_iinc (pc' := 68) B 1 [(5, .int (iI (x + 1))), (6, .int (iI (lean D f x))), (4, .int (iI u)), (3, .int (iI (lc (D 1 f) (D 1 (f + 1))))), (0, .ref (K.2.2 g)), (1, .int (iI f)), (2, .int (iI w))] dX2_milled_65 rfl rfl (by decide) rfl ?_
              refine g_goto (pc' := 12) B dX2_milled_68 (by decide) ?_
              refine g_loc B [(5, .int (iI (x + 1))), (4, .int (iI u)), (3, .int (iI (lc (D 1 f) (D 1 (f + 1))))), (0, .ref (K.2.2 g)), (1, .int (iI f)), (2, .int (iI w))] [0, 2, 3, 4, 5, 6] rfl ?_
              exact ih12 _ (by omega) u (x + 1) rfl (by omega) (by rw [i2, show (x + 1).toNat = x.toNat + 1 by omega]; show _ = sm (mt D f w) x.toNat + mt D f w (x.toNat : Int); rw [show ((x.toNat : Nat) : Int) = x by omega]; unfold mt; (repeat' split) <;> omega)
            · refine g_iinc (pc' := 65) B 2 [(4, .int (iI (u + 1))), (6, .int (iI (lean D f x))), (5, .int (iI x)), (3, .int (iI (lc (D 1 f) (D 1 (f + 1))))), (0, .ref (K.2.2 g)), (1, .int (iI f)), (2, .int (iI w))] dX2_milled_62 rfl rfl (by decide) rfl ?_
              refine g_iinc (pc' := 68) B 2 [(5, .int (iI (x + 1))), (4, .int (iI (u + 1))), (6, .int (iI (lean D f x))), (3, .int (iI (lc (D 1 f) (D 1 (f + 1))))), (0, .ref (K.2.2 g)), (1, .int (iI f)), (2, .int (iI w))] dX2_milled_65 rfl rfl (by decide) rfl ?_
              refine g_goto (pc' := 12) B dX2_milled_68 (by decide) ?_
              refine g_loc B [(5, .int (iI (x + 1))), (4, .int (iI (u + 1))), (3, .int (iI (lc (D 1 f) (D 1 (f + 1))))), (0, .ref (K.2.2 g)), (1, .int (iI f)), (2, .int (iI w))] [0, 1, 3, 4, 5, 6] rfl ?_
              exact ih12 _ (by omega) (u + 1) (x + 1) rfl (by omega) (by rw [i2, show (x + 1).toNat = x.toNat + 1 by omega]; show _ = sm (mt D f w) x.toNat + mt D f w (x.toNat : Int); rw [show ((x.toNat : Nat) : Int) = x by omega]; unfold mt; (repeat' split) <;> omega)
          · refine g_iload (pc' := 51) B 0 rfl dX2_milled_49 rfl ?_
            refine g_if_ge (pc' := 54) B 65 (by omega) dX2_milled_51 (by decide) rfl (fun c51 => ?_) (fun c51 => ?_)
            · refine g_iinc (pc' := 68) B 1 [(5, .int (iI (x + 1))), (6, .int (iI (lean D f x))), (4, .int (iI u)), (3, .int (iI (lc (D 1 f) (D 1 (f + 1))))), (0, .ref (K.2.2 g)), (1, .int (iI f)), (2, .int (iI w))] dX2_milled_65 rfl rfl (by decide) rfl ?_
              refine g_goto (pc' := 12) B dX2_milled_68 (by decide) ?_
              refine g_loc B [(5, .int (iI (x + 1))), (4, .int (iI u)), (3, .int (iI (lc (D 1 f) (D 1 (f + 1))))), (0, .ref (K.2.2 g)), (1, .int (iI f)), (2, .int (iI w))] [0, 2, 3, 4, 5, 6] rfl ?_
              exact ih12 _ (by omega) u (x + 1) rfl (by omega) (by rw [i2, show (x + 1).toNat = x.toNat + 1 by omega]; show _ = sm (mt D f w) x.toNat + mt D f w (x.toNat : Int); rw [show ((x.toNat : Nat) : Int) = x by omega]; unfold mt; (repeat' split) <;> omega)
            · refine g_goto (pc' := 62) B dX2_milled_54 (by decide) ?_
              refine g_iinc (pc' := 65) B 2 [(4, .int (iI (u + 1))), (6, .int (iI (lean D f x))), (5, .int (iI x)), (3, .int (iI (lc (D 1 f) (D 1 (f + 1))))), (0, .ref (K.2.2 g)), (1, .int (iI f)), (2, .int (iI w))] dX2_milled_62 rfl rfl (by decide) rfl ?_
              refine g_iinc (pc' := 68) B 2 [(5, .int (iI (x + 1))), (4, .int (iI (u + 1))), (6, .int (iI (lean D f x))), (3, .int (iI (lc (D 1 f) (D 1 (f + 1))))), (0, .ref (K.2.2 g)), (1, .int (iI f)), (2, .int (iI w))] dX2_milled_65 rfl rfl (by decide) rfl ?_
              refine g_goto (pc' := 12) B dX2_milled_68 (by decide) ?_
              refine g_loc B [(5, .int (iI (x + 1))), (4, .int (iI (u + 1))), (3, .int (iI (lc (D 1 f) (D 1 (f + 1))))), (0, .ref (K.2.2 g)), (1, .int (iI f)), (2, .int (iI w))] [0, 1, 3, 4, 5, 6] rfl ?_
              exact ih12 _ (by omega) (u + 1) (x + 1) rfl (by omega) (by rw [i2, show (x + 1).toNat = x.toNat + 1 by omega]; show _ = sm (mt D f w) x.toNat + mt D f w (x.toNat : Int); rw [show ((x.toNat : Nat) : Int) = x by omega]; unfold mt; (repeat' split) <;> omega)
        · refine g_iload (pc' := 34) B 2 rfl dX2_milled_32 rfl ?_
          refine g_iload (pc' := 36) B 0 rfl dX2_milled_34 rfl ?_
          refine g_mabs (pc' := 39) B (by omega) tw_681 (by decide) (Nat.le_of_ble_eq_true rfl) (Nat.zero_le _) (Nat.zero_le _) dX2_milled_36 rfl ?_
          refine g_iadd (pc' := 40) B dX2_milled_39 rfl ?_
          refine g_istore (pc' := 42) B [(4, .int (iI (u + ((lean D f x).natAbs : Int)))), (6, .int (iI (lean D f x))), (5, .int (iI x)), (3, .int (iI (lc (D 1 f) (D 1 (f + 1))))), (0, .ref (K.2.2 g)), (1, .int (iI f)), (2, .int (iI w))] dX2_milled_40 rfl (by decide) rfl ?_
          refine g_goto (pc' := 65) B dX2_milled_42 (by decide) ?_
          refine g_iinc (pc' := 68) B 2 [(5, .int (iI (x + 1))), (4, .int (iI (u + ((lean D f x).natAbs : Int)))), (6, .int (iI (lean D f x))), (3, .int (iI (lc (D 1 f) (D 1 (f + 1))))), (0, .ref (K.2.2 g)), (1, .int (iI f)), (2, .int (iI w))] dX2_milled_65 rfl rfl (by decide) rfl ?_
          refine g_goto (pc' := 12) B dX2_milled_68 (by decide) ?_
          refine g_loc B [(5, .int (iI (x + 1))), (4, .int (iI (u + ((lean D f x).natAbs : Int)))), (3, .int (iI (lc (D 1 f) (D 1 (f + 1))))), (0, .ref (K.2.2 g)), (1, .int (iI f)), (2, .int (iI w))] [0, 1, 3, 4, 5, 6] rfl ?_
          exact ih12 _ (by omega) (u + ((lean D f x).natAbs : Int)) (x + 1) rfl (by omega) (by rw [i2, show (x + 1).toNat = x.toNat + 1 by omega]; show _ = sm (mt D f w) x.toNat + mt D f w (x.toNat : Int); rw [show ((x.toNat : Nat) : Int) = x by omega]; unfold mt; (repeat' split) <;> omega)
  exact L12 _ 0 0 rfl (by omega) (by rfl)
def bgS (D : SG) : Nat → Int × Int
  | 0 => (-1, -1)
  | n + 1 => if (bgS D n).2 < ml D n 2 then ((n : Int), ml D n 2) else bgS D n
theorem bgS_bd {D : SG} (h : okF D) (hR : okR D) : ∀ n : Nat, -1 ≤ (bgS D n).2 ∧ (bgS D n).2 ≤ 153 * 27720 ∧ -1 ≤ (bgS D n).1 ∧ (bgS D n).1 < n
  | 0 => by simp [bgS]
  | n + 1 => by
    have h1 := bgS_bd h hR n
    have h2 := ml_bd (f := (n : Int)) 2 h hR (by omega)
    unfold bgS
    split
    · refine ⟨?_, ?_, ?_, ?_⟩ <;> simp only [] <;> omega
    · omega
theorem bgS_next {D : SG} {f : Int} (h : 0 ≤ f) : bgS D (f + 1).toNat = if (bgS D f.toNat).2 < ml D f 2 then (f, ml D f 2) else bgS D f.toNat := by
  rw [show (f + 1).toNat = f.toNat + 1 by omega]
  show (if (bgS D f.toNat).2 < ml D (f.toNat : Int) 2 then _ else _) = _
  rw [show ((f.toNat : Nat) : Int) = f by omega]
set_option maxRecDepth 100000 in
set_option maxHeartbeats 4000000 in
theorem c_X2_bestGap (l : Launch) (K : WK) (σ : SG) {g : Nat} (hg : g = 4 ∨ g = 18) {D : SG} (hD : gD σ g D) (hF : okF D) (hR : okR D) : MI l yX2_bestGap cX2_bestGap 5 (some .int) 5 114 K σ [.ref (K.2.2 g)] (fun z τ => σ = τ ∧ z = (bgS D (D 9 0 - 1).toNat).1) := by
  refine met_of [(0, .ref (K.2.2 g))] (by decide +kernel) (Nat.le_of_ble_eq_true rfl) rfl ?_
  intro pP eE sS mM bW mT cC B hrt hlk
  replace B : CB pP sS mM [.ref (K.2.2 g)].toArray cC cX2_bestGap RX2 5 K := B
  obtain ⟨hF0, hF1⟩ := id hF
  refine g_iconst (pc' := 1) B dX2_bestGap_0 rfl ?_
  refine g_istore_n (pc' := 2) B [(1, .int (iI (-1))), (0, .ref (K.2.2 g))] dX2_bestGap_1 rfl rfl (by decide) rfl ?_
  refine g_iconst (pc' := 3) B dX2_bestGap_2 rfl ?_
  refine g_istore_n (pc' := 4) B [(2, .int (iI (-1))), (1, .int (iI (-1))), (0, .ref (K.2.2 g))] dX2_bestGap_3 rfl rfl (by decide) rfl ?_
  refine g_iconst (pc' := 5) B dX2_bestGap_4 rfl ?_
  refine g_istore_n (pc' := 6) B [(3, .int (iI 0)), (2, .int (iI (-1))), (1, .int (iI (-1))), (0, .ref (K.2.2 g))] dX2_bestGap_5 rfl rfl (by decide) rfl ?_
  have L6 : ∀ (nn : Nat) (u v f : Int) , (D 9 0 - f).toNat = nn → (0 ≤ f ∧ (f ≤ D 9 0 - 1 ∨ f = 0)) → (bgS D f.toNat = (u, v)) → G pP l eE (rmo 5 114) sS mM [.ref (K.2.2 g)].toArray bW mT cC 0 0 (MQ bW (Qi K (fun z τ => σ = τ ∧ z = (bgS D (D 9 0 - 1).toNat).1)) [.ref (K.2.2 g)].toArray sS 0 0 (wA K)) K sS.heap 5 σ 6 [(3, .int (iI f)), (2, .int (iI v)), (1, .int (iI u)), (0, .ref (K.2.2 g))] [] := by
    intro nn
    induction nn using Nat.strongRecOn with
    | _ nn ih6 =>
      intro u v f hn6 i1 i2
      have ib := bgS_bd hF hR f.toNat
      rw [i2] at ib
      simp only [] at ib
      refine g_iload_n (pc' := 7) B 0 rfl rfl dX2_bestGap_6 rfl ?_
      refine g_aload_n (pc' := 8) B 3 rfl rfl dX2_bestGap_7 rfl ?_
      refine g_get (pc' := 11) B (D 9 0) hD.1 fl_X2_28 (ly_G hg) rfl dX2_bestGap_8 rfl ?_
      refine g_iconst (pc' := 12) B dX2_bestGap_11 rfl ?_
      refine g_isub (pc' := 13) B dX2_bestGap_12 rfl ?_
      refine g_icmp_ge (pc' := 16) B 41 (by omega) (by omega) dX2_bestGap_13 (by decide) rfl (fun c13 => ?_) (fun c13 => ?_)
      · refine g_iload_n (pc' := 42) B 2 rfl rfl dX2_bestGap_41 rfl ?_
        exact g_iret (z := u) B hrt rfl hlk dX2_bestGap_42 ⟨rfl, by rw [show (D 9 0 - 1).toNat = f.toNat by omega, i2]⟩
      · refine g_aload_n (pc' := 17) B 3 rfl rfl dX2_bestGap_16 rfl ?_
        refine g_iload_n (pc' := 18) B 0 rfl rfl dX2_bestGap_17 rfl ?_
        refine g_iconst (pc' := 19) B dX2_bestGap_18 rfl ?_
        refine g_callVI (pc' := 22) (As := [.int (iI f), .int (iI 2)]) B (c_X2_milled l K _ (g := g) (D := D) (f := f) (w := 2) hg hD hF (by omega) (by omega) (by omega) (by omega)) vt_X2_milled tw_690 (ly_G hg) rfl ⟨by decide, by decide⟩ rfl (Nat.le_of_ble_eq_true rfl) ⟨Nat.zero_le _, Nat.zero_le _⟩ rfl dX2_bestGap_19 rfl (fun z19 τ19 h19 => ?_)
        obtain ⟨rfl, rfl⟩ := h19
        refine g_istore (pc' := 24) B [(4, .int (iI (ml D f 2))), (3, .int (iI f)), (2, .int (iI v)), (1, .int (iI u)), (0, .ref (K.2.2 g))] dX2_bestGap_22 rfl (by decide) rfl ?_
        have iml := ml_bd (f := f) 2 hF hR (by omega)
        refine g_iload (pc' := 26) B 0 rfl dX2_bestGap_24 rfl ?_
        refine g_iload_n (pc' := 27) B 2 rfl rfl dX2_bestGap_26 rfl ?_
        refine g_icmp_le (pc' := 30) B 35 (by omega) (by omega) dX2_bestGap_27 (by decide) rfl (fun c27 => ?_) (fun c27 => ?_)
        · refine g_iinc (pc' := 38) B 1 [(3, .int (iI (f + 1))), (4, .int (iI (ml D f 2))), (2, .int (iI v)), (1, .int (iI u)), (0, .ref (K.2.2 g))] dX2_bestGap_35 rfl rfl (by decide) rfl ?_
          refine g_goto (pc' := 6) B dX2_bestGap_38 (by decide) ?_
          refine g_loc B [(3, .int (iI (f + 1))), (2, .int (iI v)), (1, .int (iI u)), (0, .ref (K.2.2 g))] [0, 2, 3, 4] rfl ?_
          exact ih6 _ (by omega) u v (f + 1) rfl (by omega) (by rw [bgS_next (by omega), i2]; first | rw [if_pos (by show v < _; omega)] | rw [if_neg (by show ¬ v < _; omega)])
        · refine g_iload (pc' := 32) B 0 rfl dX2_bestGap_30 rfl ?_
          refine g_istore_n (pc' := 33) B [(2, .int (iI (ml D f 2))), (4, .int (iI (ml D f 2))), (3, .int (iI f)), (1, .int (iI u)), (0, .ref (K.2.2 g))] dX2_bestGap_32 rfl rfl (by decide) rfl ?_
          refine g_iload_n (pc' := 34) B 2 rfl rfl dX2_bestGap_33 rfl ?_
          refine g_istore_n (pc' := 35) B [(1, .int (iI f)), (2, .int (iI (ml D f 2))), (4, .int (iI (ml D f 2))), (3, .int (iI f)), (0, .ref (K.2.2 g))] dX2_bestGap_34 rfl rfl (by decide) rfl ?_
          refine g_iinc (pc' := 38) B 3 [(3, .int (iI (f + 1))), (1, .int (iI f)), (2, .int (iI (ml D f 2))), (4, .int (iI (ml D f 2))), (0, .ref (K.2.2 g))] dX2_bestGap_35 rfl rfl (by decide) rfl ?_
          refine g_goto (pc' := 6) B dX2_bestGap_38 (by decide) ?_
          refine g_loc B [(3, .int (iI (f + 1))), (2, .int (iI (ml D f 2))), (1, .int (iI f)), (0, .ref (K.2.2 g))] [0, 2, 1, 4] rfl ?_
          exact ih6 _ (by omega) f (ml D f 2) (f + 1) rfl (by omega) (by rw [bgS_next (by omega), i2]; first | rw [if_pos (by show v < _; omega)] | rw [if_neg (by show ¬ v < _; omega)])
  exact L6 _ (-1) (-1) 0 rfl (by omega) (by rfl)
