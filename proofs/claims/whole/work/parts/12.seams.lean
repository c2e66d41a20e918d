theorem sr1 {a s : Int} (ha : 0 ≤ a ∧ a < 256) (hs : 0 ≤ s ∧ s < 8) : iI a >>> (iI s &&& 31) = iI (a / 2 ^ s.toNat) := by
  have q : ∀ (n : Fin 256) (k : Fin 8), iI (n.val : Int) >>> (iI (k.val : Int) &&& 31) = iI ((n.val : Int) / 2 ^ k.val) := by decide +kernel
  have e := q ⟨a.toNat, by omega⟩ ⟨s.toNat, by omega⟩
  have e2 : ((a.toNat : Nat) : Int) = a := by omega
  have e3 : ((s.toNat : Nat) : Int) = s := by omega
  simp only [e2, e3] at e
  exact e
/-- bit k of a set -/
def bt (u k : Int) : Int := u / 2 ^ k.toNat % 2
theorem bt_01 (u k : Int) : bt u k = 0 ∨ bt u k = 1 := by unfold bt; omega
theorem nI_and (a b : Nat) : nI a &&& nI b = nI (a &&& b) := by
  apply Int32.toBitVec_inj.1
  show BitVec.ofNat 32 a &&& BitVec.ofNat 32 b = BitVec.ofNat 32 (a &&& b)
  apply BitVec.eq_of_getLsbD_eq
  intro i hi
  simp [hi]
theorem and1 {a : Int} (ha : 0 ≤ a) : iI a &&& iI 1 = iI (a % 2) := by
  obtain ⟨n, rfl⟩ : ∃ n : Nat, a = n := ⟨a.toNat, by omega⟩
  rw [iI_nI, show iI 1 = nI 1 from rfl, nI_and, Nat.and_one_is_mod, ← iI_nI]
  congr 1
theorem rs_bd {D : SG} {s : Int} (t : Int) (h : okQ D) (h0 : 0 ≤ s) (h1 : s < D 9 2) : 0 ≤ rs D s t ∧ rs D s t < D 6 s := by
  obtain ⟨-, a, -⟩ := h.2 s h0 h1
  exact ⟨Int.emod_nonneg _ (by omega), Int.emod_lt_of_pos _ (by omega)⟩
/-- for how many steps a seam stays open -/
def so (D : SG) (s t : Int) : Int := if D 6 s ≤ D 8 s then 1000000 else max 0 (D 8 s - rs D s t)
def ss (D : SG) (s t : Int) : Int := if 0 < so D s t then 0 else D 6 s - rs D s t
theorem so_opn {D : SG} {s t : Int} (h : okQ D) (h0 : 0 ≤ s) (h1 : s < D 9 2) : 0 < so D s t ↔ opn D s t := by
  have := rs_bd t h h0 h1
  unfold so opn
  split <;> omega
theorem so_bd {D : SG} {s t : Int} (h : okQ D) (h0 : 0 ≤ s) (h1 : s < D 9 2) : 0 ≤ so D s t ∧ so D s t ≤ 1000000 := by
  have := rs_bd t h h0 h1
  obtain ⟨-, a, -, b⟩ := h.2 s h0 h1
  unfold so
  split <;> omega
theorem ss_bd {D : SG} {s t : Int} (h : okQ D) (h0 : 0 ≤ s) (h1 : s < D 9 2) : 0 ≤ ss D s t ∧ ss D s t ≤ 12 := by
  have := rs_bd t h h0 h1
  obtain ⟨-, a, -, b⟩ := h.2 s h0 h1
  unfold ss
  split <;> omega
set_option maxRecDepth 100000 in
set_option maxHeartbeats 4000000 in
theorem c_X6_has (l : Launch) (K : WK) (σ : SG) {q : Nat} (hq : q = 10 ∨ q = 24) {D : SG} (hQ : qD σ q D) (hO : okQ D) {s : Int} (hs : -2147483648 ≤ s ∧ s < 2147483648) : MI l yX6_has cX6_has 2 (some .boolean) 0 0 K σ [.ref (K.2.2 q), .int (iI s)] (fun z τ => σ = τ ∧ (((0 ≤ s ∧ s < D 9 2) ∧ z = 1) ∨ (¬ (0 ≤ s ∧ s < D 9 2) ∧ z = 0))) := by
  refine met_of [(0, .ref (K.2.2 q)), (1, .int (iI s))] (by decide +kernel) (Nat.le_of_ble_eq_true rfl) rfl ?_
  intro pP eE sS mM bW mT cC B hrt hlk
  replace B : CB pP sS mM [.ref (K.2.2 q), .int (iI s)].toArray cC cX6_has RX6 2 K := B
  obtain ⟨hO0, hO1⟩ := id hO
  refine g_iload_n (pc' := 1) B 1 rfl rfl dX6_has_0 rfl ?_
  refine g_if_lt (pc' := 4) B 16 (by omega) dX6_has_1 (by decide) rfl (fun c1 => ?_) (fun c1 => ?_)
  · refine g_iconst (pc' := 17) B dX6_has_16 rfl ?_
    exact g_iret (z := 0) B hrt rfl hlk dX6_has_17 ⟨rfl, by omega⟩
  · refine g_iload_n (pc' := 5) B 1 rfl rfl dX6_has_4 rfl ?_
    refine g_aload_n (pc' := 6) B 0 rfl rfl dX6_has_5 rfl ?_
    refine g_get (pc' := 9) B (D 9 2) hQ.1 fl_X6_24 (ly_Q hq) rfl dX6_has_6 rfl ?_
    refine g_icmp_ge (pc' := 12) B 16 (by omega) (by omega) dX6_has_9 (by decide) rfl (fun c9 => ?_) (fun c9 => ?_)
    · refine g_iconst (pc' := 17) B dX6_has_16 rfl ?_
      exact g_iret (z := 0) B hrt rfl hlk dX6_has_17 ⟨rfl, by omega⟩
    · refine g_iconst (pc' := 13) B dX6_has_12 rfl ?_
      refine g_goto (pc' := 17) B dX6_has_13 (by decide) ?_
      exact g_iret (z := 1) B hrt rfl hlk dX6_has_17 ⟨rfl, by omega⟩
set_option maxRecDepth 100000 in
set_option maxHeartbeats 4000000 in
theorem c_X6_hasAll (l : Launch) (K : WK) (σ : SG) {q : Nat} (hq : q = 10 ∨ q = 24) {D : SG} (hQ : qD σ q D) (hO : okQ D) {u : Int} (hu : -2147483648 ≤ u ∧ u < 2147483648) : MI l yX6_hasAll cX6_hasAll 2 (some .boolean) 0 0 K σ [.ref (K.2.2 q), .int (iI u)] (fun z τ => σ = τ ∧ (((0 ≤ u ∧ u < 2 ^ (D 9 2).toNat) ∧ z = 1) ∨ (¬ (0 ≤ u ∧ u < 2 ^ (D 9 2).toNat) ∧ z = 0))) := by
  refine met_of [(0, .ref (K.2.2 q)), (1, .int (iI u))] (by decide +kernel) (Nat.le_of_ble_eq_true rfl) rfl ?_
  intro pP eE sS mM bW mT cC B hrt hlk
  replace B : CB pP sS mM [.ref (K.2.2 q), .int (iI u)].toArray cC cX6_hasAll RX6 2 K := B
  obtain ⟨hO0, hO1⟩ := id hO
  have hp := pow_le7 (k := (D 9 2).toNat) (by omega)
  refine g_iload_n (pc' := 1) B 1 rfl rfl dX6_hasAll_0 rfl ?_
  refine g_if_lt (pc' := 4) B 18 (by omega) dX6_hasAll_1 (by decide) rfl (fun c1 => ?_) (fun c1 => ?_)
  · refine g_iconst (pc' := 19) B dX6_hasAll_18 rfl ?_
    exact g_iret (z := 0) B hrt rfl hlk dX6_hasAll_19 ⟨rfl, by omega⟩
  · refine g_iload_n (pc' := 5) B 1 rfl rfl dX6_hasAll_4 rfl ?_
    refine g_iconst (pc' := 6) B dX6_hasAll_5 rfl ?_
    refine g_aload_n (pc' := 7) B 0 rfl rfl dX6_hasAll_6 rfl ?_
    refine g_get (pc' := 10) B (D 9 2) hQ.1 fl_X6_24 (ly_Q hq) rfl dX6_hasAll_7 rfl ?_
    refine g_ishl (pc' := 11) B (2 ^ (D 9 2).toNat) (sh1 ⟨by omega, by omega⟩) dX6_hasAll_10 rfl ?_
    refine g_icmp_ge (pc' := 14) B 18 (by omega) (by omega) dX6_hasAll_11 (by decide) rfl (fun c11 => ?_) (fun c11 => ?_)
    · refine g_iconst (pc' := 19) B dX6_hasAll_18 rfl ?_
      exact g_iret (z := 0) B hrt rfl hlk dX6_hasAll_19 ⟨rfl, by omega⟩
    · refine g_iconst (pc' := 15) B dX6_hasAll_14 rfl ?_
      refine g_goto (pc' := 19) B dX6_hasAll_15 (by decide) ?_
      exact g_iret (z := 1) B hrt rfl hlk dX6_hasAll_19 ⟨rfl, by omega⟩
set_option maxRecDepth 100000 in
set_option maxHeartbeats 4000000 in
theorem c_X6_staysOpen (l : Launch) (K : WK) (σ : SG) {q : Nat} (hq : q = 10 ∨ q = 24) {D : SG} (hQ : qD σ q D) (hO : okQ D) {s t : Int} (h0 : 0 ≤ s) (h1 : s < D 9 2) (ht : 0 ≤ t ∧ t ≤ 1000000000) : MI l yX6_staysOpen cX6_staysOpen 3 (some .int) 1 22 K σ [.ref (K.2.2 q), .int (iI s), .int (iI t)] (fun z τ => σ = τ ∧ z = so D s t) := by
  refine met_of [(0, .ref (K.2.2 q)), (1, .int (iI s)), (2, .int (iI t))] (by decide +kernel) (Nat.le_of_ble_eq_true rfl) rfl ?_
  intro pP eE sS mM bW mT cC B hrt hlk
  replace B : CB pP sS mM [.ref (K.2.2 q), .int (iI s), .int (iI t)].toArray cC cX6_staysOpen RX6 3 K := B
  obtain ⟨hO0, hO1⟩ := id hO
  have hs9 := hO1 s h0 h1
  have hr := rs_bd t hO h0 h1
  unfold rs at hr
  refine g_aload_n (pc' := 1) B 0 rfl rfl dX6_staysOpen_0 rfl ?_
  refine g_iload_n (pc' := 2) B 1 rfl rfl dX6_staysOpen_1 rfl ?_
  refine g_callVI (pc' := 5) (As := [.int (iI s)]) B (c_X6_has l K _ (q := q) (D := D) (s := s) hq hQ hO (by omega)) vt_X6_has tw_479 (ly_Q hq) rfl ⟨by decide, by decide⟩ rfl (Nat.le_of_ble_eq_true rfl) ⟨Nat.zero_le _, Nat.zero_le _⟩ rfl dX6_staysOpen_2 rfl (fun z2 τ2 h2 => ?_)
  obtain ⟨rfl, h2⟩ := h2
  rcases h2 with ⟨h2, rfl⟩ | ⟨h2, rfl⟩
  · refine g_if_eq (pc' := 8) B 18 (by omega) dX6_staysOpen_5 (by decide) rfl (fun q => absurd q (by decide)) (fun _ => ?_)
    refine g_aload_n (pc' := 9) B 0 rfl rfl dX6_staysOpen_8 rfl ?_
    refine g_getR (pc' := 12) B (q + 2) fl_X6_15 (ly_Q hq) rfl dX6_staysOpen_9 rfl ?_
    refine g_iload_n (pc' := 13) B 1 rfl rfl dX6_staysOpen_12 rfl ?_
    refine g_iald (pc' := 14) B (D 6 s) (hQ.2 _ (by omega) (by omega)).2.1 (ly_Qa1 hq) (by omega) (by decide) dX6_staysOpen_13 rfl ?_
    refine g_iconst (pc' := 15) B dX6_staysOpen_14 rfl ?_
    refine g_icmp_ge (pc' := 18) B 20 (by omega) (by omega) dX6_staysOpen_15 (by decide) rfl (fun c15 => ?_) (fun c15 => by exfalso; omega)
    refine g_aload_n (pc' := 21) B 0 rfl rfl dX6_staysOpen_20 rfl ?_
    refine g_getR (pc' := 24) B (q + 4) fl_X6_21 (ly_Q hq) rfl dX6_staysOpen_21 rfl ?_
    refine g_iload_n (pc' := 25) B 1 rfl rfl dX6_staysOpen_24 rfl ?_
    refine g_iald (pc' := 26) B (D 8 s) (hQ.2 _ (by omega) (by omega)).2.2.2 (ly_Qa3 hq) (by omega) (by decide) dX6_staysOpen_25 rfl ?_
    refine g_aload_n (pc' := 27) B 0 rfl rfl dX6_staysOpen_26 rfl ?_
    refine g_getR (pc' := 30) B (q + 2) fl_X6_15 (ly_Q hq) rfl dX6_staysOpen_27 rfl ?_
    refine g_iload_n (pc' := 31) B 1 rfl rfl dX6_staysOpen_30 rfl ?_
    refine g_iald (pc' := 32) B (D 6 s) (hQ.2 _ (by omega) (by omega)).2.1 (ly_Qa1 hq) (by omega) (by decide) dX6_staysOpen_31 rfl ?_
    refine g_icmp_lt (pc' := 35) B 38 (by omega) (by omega) dX6_staysOpen_32 (by decide) rfl (fun c32 => ?_) (fun c32 => ?_)
    · refine g_iconst (pc' := 39) B dX6_staysOpen_38 rfl ?_
      refine g_aload_n (pc' := 40) B 0 rfl rfl dX6_staysOpen_39 rfl ?_
      refine g_getR (pc' := 43) B (q + 4) fl_X6_21 (ly_Q hq) rfl dX6_staysOpen_40 rfl ?_
      refine g_iload_n (pc' := 44) B 1 rfl rfl dX6_staysOpen_43 rfl ?_
      refine g_iald (pc' := 45) B (D 8 s) (hQ.2 _ (by omega) (by omega)).2.2.2 (ly_Qa3 hq) (by omega) (by decide) dX6_staysOpen_44 rfl ?_
      refine g_iload_n (pc' := 46) B 2 rfl rfl dX6_staysOpen_45 rfl ?_
      refine g_aload_n (pc' := 47) B 0 rfl rfl dX6_staysOpen_46 rfl ?_
      refine g_getR (pc' := 50) B (q + 3) fl_X6_18 (ly_Q hq) rfl dX6_staysOpen_47 rfl ?_
      refine g_iload_n (pc' := 51) B 1 rfl rfl dX6_staysOpen_50 rfl ?_
      refine g_iald (pc' := 52) B (D 7 s) (hQ.2 _ (by omega) (by omega)).2.2.1 (ly_Qa2 hq) (by omega) (by decide) dX6_staysOpen_51 rfl ?_
      refine g_isub (pc' := 53) B dX6_staysOpen_52 rfl ?_
      refine g_aload_n (pc' := 54) B 0 rfl rfl dX6_staysOpen_53 rfl ?_
      refine g_getR (pc' := 57) B (q + 2) fl_X6_15 (ly_Q hq) rfl dX6_staysOpen_54 rfl ?_
      refine g_iload_n (pc' := 58) B 1 rfl rfl dX6_staysOpen_57 rfl ?_
      refine g_iald (pc' := 59) B (D 6 s) (hQ.2 _ (by omega) (by omega)).2.1 (ly_Qa1 hq) (by omega) (by decide) dX6_staysOpen_58 rfl ?_
      refine g_callSI (pc' := 62) (As := [.int (iI (t - (D 7 s))), .int (iI (D 6 s))]) B (c_J9_floorMod_7cf53 l K _ (x := t - (D 7 s)) (y := D 6 s) (by omega) (by omega)) st_J9_floorMod_7cf53 tw_484 ⟨by decide, by decide⟩ rfl (Nat.le_of_ble_eq_true rfl) ⟨Nat.zero_le _, Nat.zero_le _⟩ rfl dX6_staysOpen_59 rfl (fun z59 τ59 h59 => ?_)
      obtain ⟨rfl, rfl⟩ := h59
      refine g_isub (pc' := 63) B dX6_staysOpen_62 rfl ?_
      refine g_mmax (pc' := 66) B (by omega) (by omega) tw_487 (by decide) (Nat.le_of_ble_eq_true rfl) (Nat.zero_le _) (Nat.zero_le _) dX6_staysOpen_63 rfl ?_
      exact g_iret (z := max 0 ((D 8 s) - ((t - (D 7 s)) % (D 6 s)))) B hrt rfl hlk dX6_staysOpen_66 ⟨rfl, by unfold so rs; rw [if_neg (by omega)]⟩
    · refine g_ldc (z := 1000000) (pc' := 37) B tw_483 (by decide +kernel) dX6_staysOpen_35 rfl ?_
      exact g_iret (z := 1000000) B hrt rfl hlk dX6_staysOpen_37 ⟨rfl, by unfold so; rw [if_pos (by omega)]⟩
  · exfalso; omega
set_option maxRecDepth 100000 in
set_option maxHeartbeats 4000000 in
theorem c_X6_staysShut (l : Launch) (K : WK) (σ : SG) {q : Nat} (hq : q = 10 ∨ q = 24) {D : SG} (hQ : qD σ q D) (hO : okQ D) {s t : Int} (h0 : 0 ≤ s) (h1 : s < D 9 2) (ht : 0 ≤ t ∧ t ≤ 1000000000) : MI l yX6_staysShut cX6_staysShut 3 (some .int) 2 44 K σ [.ref (K.2.2 q), .int (iI s), .int (iI t)] (fun z τ => σ = τ ∧ z = ss D s t) := by
  refine met_of [(0, .ref (K.2.2 q)), (1, .int (iI s)), (2, .int (iI t))] (by decide +kernel) (Nat.le_of_ble_eq_true rfl) rfl ?_
  intro pP eE sS mM bW mT cC B hrt hlk
  replace B : CB pP sS mM [.ref (K.2.2 q), .int (iI s), .int (iI t)].toArray cC cX6_staysShut RX6 3 K := B
  obtain ⟨hO0, hO1⟩ := id hO
  have hs9 := hO1 s h0 h1
  have hr := rs_bd t hO h0 h1
  have hso := so_bd (t := t) hO h0 h1
  refine g_aload_n (pc' := 1) B 0 rfl rfl dX6_staysShut_0 rfl ?_
  refine g_iload_n (pc' := 2) B 1 rfl rfl dX6_staysShut_1 rfl ?_
  refine g_iload_n (pc' := 3) B 2 rfl rfl dX6_staysShut_2 rfl ?_
  refine g_callVI (pc' := 6) (As := [.int (iI s), .int (iI t)]) B (c_X6_staysOpen l K _ (q := q) (D := D) (s := s) (t := t) hq hQ hO (by omega) (by omega) (by omega)) vt_X6_staysOpen tw_475 (ly_Q hq) rfl ⟨by decide, by decide⟩ rfl (Nat.le_of_ble_eq_true rfl) ⟨Nat.zero_le _, Nat.zero_le _⟩ rfl dX6_staysShut_3 rfl (fun z3 τ3 h3 => ?_)
  obtain ⟨rfl, rfl⟩ := h3
  refine g_if_le (pc' := 9) B 11 (by omega) dX6_staysShut_6 (by decide) rfl (fun c6 => ?_) (fun c6 => ?_)
  · refine g_aload_n (pc' := 12) B 0 rfl rfl dX6_staysShut_11 rfl ?_
    refine g_iload_n (pc' := 13) B 1 rfl rfl dX6_staysShut_12 rfl ?_
    refine g_callVI (pc' := 16) (As := [.int (iI s)]) B (c_X6_has l K _ (q := q) (D := D) (s := s) hq hQ hO (by omega)) vt_X6_has tw_479 (ly_Q hq) rfl ⟨by decide, by decide⟩ rfl (Nat.le_of_ble_eq_true rfl) ⟨Nat.zero_le _, Nat.zero_le _⟩ rfl dX6_staysShut_13 rfl (fun z13 τ13 h13 => ?_)
    obtain ⟨rfl, h13⟩ := h13
    rcases h13 with ⟨h13, rfl⟩ | ⟨h13, rfl⟩
    · refine g_if_eq (pc' := 19) B 55 (by omega) dX6_staysShut_16 (by decide) rfl (fun q => absurd q (by decide)) (fun _ => ?_)
      refine g_aload_n (pc' := 20) B 0 rfl rfl dX6_staysShut_19 rfl ?_
      refine g_getR (pc' := 23) B (q + 2) fl_X6_15 (ly_Q hq) rfl dX6_staysShut_20 rfl ?_
      refine g_iload_n (pc' := 24) B 1 rfl rfl dX6_staysShut_23 rfl ?_
      refine g_iald (pc' := 25) B (D 6 s) (hQ.2 _ (by omega) (by omega)).2.1 (ly_Qa1 hq) (by omega) (by decide) dX6_staysShut_24 rfl ?_
      refine g_if_le (pc' := 28) B 55 (by omega) dX6_staysShut_25 (by decide) rfl (fun c25 => by exfalso; omega) (fun c25 => ?_)
      refine g_aload_n (pc' := 29) B 0 rfl rfl dX6_staysShut_28 rfl ?_
      refine g_getR (pc' := 32) B (q + 2) fl_X6_15 (ly_Q hq) rfl dX6_staysShut_29 rfl ?_
      refine g_iload_n (pc' := 33) B 1 rfl rfl dX6_staysShut_32 rfl ?_
      refine g_iald (pc' := 34) B (D 6 s) (hQ.2 _ (by omega) (by omega)).2.1 (ly_Qa1 hq) (by omega) (by decide) dX6_staysShut_33 rfl ?_
      refine g_iload_n (pc' := 35) B 2 rfl rfl dX6_staysShut_34 rfl ?_
      refine g_aload_n (pc' := 36) B 0 rfl rfl dX6_staysShut_35 rfl ?_
      refine g_getR (pc' := 39) B (q + 3) fl_X6_18 (ly_Q hq) rfl dX6_staysShut_36 rfl ?_
      refine g_iload_n (pc' := 40) B 1 rfl rfl dX6_staysShut_39 rfl ?_
      refine g_iald (pc' := 41) B (D 7 s) (hQ.2 _ (by omega) (by omega)).2.2.1 (ly_Qa2 hq) (by omega) (by decide) dX6_staysShut_40 rfl ?_
      refine g_isub (pc' := 42) B dX6_staysShut_41 rfl ?_
      refine g_aload_n (pc' := 43) B 0 rfl rfl dX6_staysShut_42 rfl ?_
      refine g_getR (pc' := 46) B (q + 2) fl_X6_15 (ly_Q hq) rfl dX6_staysShut_43 rfl ?_
      refine g_iload_n (pc' := 47) B 1 rfl rfl dX6_staysShut_46 rfl ?_
      refine g_iald (pc' := 48) B (D 6 s) (hQ.2 _ (by omega) (by omega)).2.1 (ly_Qa1 hq) (by omega) (by decide) dX6_staysShut_47 rfl ?_
      refine g_callSI (pc' := 51) (As := [.int (iI (t - (D 7 s))), .int (iI (D 6 s))]) B (c_J9_floorMod_7cf53 l K _ (x := t - (D 7 s)) (y := D 6 s) (by omega) (by omega)) st_J9_floorMod_7cf53 tw_484 ⟨by decide, by decide⟩ rfl (Nat.le_of_ble_eq_true rfl) ⟨Nat.zero_le _, Nat.zero_le _⟩ rfl dX6_staysShut_48 rfl (fun z48 τ48 h48 => ?_)
      obtain ⟨rfl, rfl⟩ := h48
      refine g_isub (pc' := 52) B dX6_staysShut_51 rfl ?_
      refine g_goto (pc' := 56) B dX6_staysShut_52 (by decide) ?_
      exact g_iret (z := (D 6 s) - ((t - (D 7 s)) % (D 6 s))) B hrt rfl hlk dX6_staysShut_56 ⟨rfl, by unfold ss rs; rw [if_neg (by omega)]⟩
    · exfalso; omega
  · refine g_iconst (pc' := 10) B dX6_staysShut_9 rfl ?_
    exact g_iret (z := 0) B hrt rfl hlk dX6_staysShut_10 ⟨rfl, by unfold ss; rw [if_pos (by omega)]⟩
/-- the set of seams that are open in a step, the first k of them -/
def oset (D : SG) (t : Int) : Nat → Int
  | 0 => 0
  | k + 1 => oset D t k + (if rs D k t < D 8 k then 2 ^ k else 0)
theorem oset_bd (D : SG) (t : Int) : ∀ k : Nat, 0 ≤ oset D t k ∧ oset D t k < 2 ^ k
  | 0 => by simp [oset]
  | k + 1 => by
    have h := oset_bd D t k
    have e : (2 : Int) ^ (k + 1) = 2 ^ k * 2 := Int.pow_succ 2 k
    show 0 ≤ oset D t k + _ ∧ oset D t k + _ < 2 ^ (k + 1)
    rw [e]
    split <;> omega
theorem oset_next {D : SG} {t s : Int} (h : 0 ≤ s) : oset D t (s + 1).toNat = oset D t s.toNat + (if rs D s t < D 8 s then 2 ^ s.toNat else 0) := by
  rw [show (s + 1).toNat = s.toNat + 1 by omega]
  show oset D t s.toNat + (if rs D ((s.toNat : Nat) : Int) t < D 8 ((s.toNat : Nat) : Int) then _ else _) = _
  rw [show ((s.toNat : Nat) : Int) = s by omega]
set_option maxRecDepth 100000 in
set_option maxHeartbeats 4000000 in
theorem c_X6_openSet (l : Launch) (K : WK) (σ : SG) {q : Nat} (hq : q = 10 ∨ q = 24) {D : SG} (hQ : qD σ q D) (hO : okQ D) {t : Int} (ht : 0 ≤ t ∧ t ≤ 1000000000) : MI l yX6_openSet cX6_openSet 4 (some .int) 2 44 K σ [.ref (K.2.2 q), .int (iI t)] (fun z τ => σ = τ ∧ z = oset D t (D 9 2).toNat) := by
  refine met_of [(0, .ref (K.2.2 q)), (1, .int (iI t))] (by decide +kernel) (Nat.le_of_ble_eq_true rfl) rfl ?_
  intro pP eE sS mM bW mT cC B hrt hlk
  replace B : CB pP sS mM [.ref (K.2.2 q), .int (iI t)].toArray cC cX6_openSet RX6 4 K := B
  obtain ⟨hO0, hO1⟩ := id hO
  refine g_iconst (pc' := 1) B dX6_openSet_0 rfl ?_
  refine g_istore_n (pc' := 2) B [(2, .int (iI 0)), (0, .ref (K.2.2 q)), (1, .int (iI t))] dX6_openSet_1 rfl rfl (by decide) rfl ?_
  refine g_iconst (pc' := 3) B dX6_openSet_2 rfl ?_
  refine g_istore_n (pc' := 4) B [(3, .int (iI 0)), (2, .int (iI 0)), (0, .ref (K.2.2 q)), (1, .int (iI t))] dX6_openSet_3 rfl rfl (by decide) rfl ?_
  have L4 : ∀ (nn : Nat) (u s : Int) , (D 9 2 - s).toNat = nn → (0 ≤ s ∧ s ≤ D 9 2) → (u = oset D t s.toNat) → G pP l eE (rmo 2 44) sS mM [.ref (K.2.2 q), .int (iI t)].toArray bW mT cC 0 0 (MQ bW (Qi K (fun z τ => σ = τ ∧ z = oset D t (D 9 2).toNat)) [.ref (K.2.2 q), .int (iI t)].toArray sS 0 0 (wA K)) K sS.heap 4 σ 4 [(3, .int (iI s)), (2, .int (iI u)), (0, .ref (K.2.2 q)), (1, .int (iI t))] [] := by
    intro nn
    induction nn using Nat.strongRecOn with
    | _ nn ih4 =>
      intro u s hn4 i1 i2
      refine g_iload_n (pc' := 5) B 0 rfl rfl dX6_openSet_4 rfl ?_
      refine g_aload_n (pc' := 6) B 2 rfl rfl dX6_openSet_5 rfl ?_
      refine g_get (pc' := 9) B (D 9 2) hQ.1 fl_X6_24 (ly_Q hq) rfl dX6_openSet_6 rfl ?_
      refine g_icmp_ge (pc' := 12) B 33 (by omega) (by omega) dX6_openSet_9 (by decide) rfl (fun c9 => ?_) (fun c9 => ?_)
      · refine g_iload_n (pc' := 34) B 1 rfl rfl dX6_openSet_33 rfl ?_
        exact g_iret (z := u) B hrt rfl hlk dX6_openSet_34 ⟨rfl, by rw [i2, show s = D 9 2 by omega]⟩
      · refine g_aload_n (pc' := 13) B 2 rfl rfl dX6_openSet_12 rfl ?_
        refine g_iload_n (pc' := 14) B 0 rfl rfl dX6_openSet_13 rfl ?_
        refine g_iload_n (pc' := 15) B 3 rfl rfl dX6_openSet_14 rfl ?_
        refine g_callVI (pc' := 18) (As := [.int (iI s), .int (iI t)]) B (c_X6_staysOpen l K _ (q := q) (D := D) (s := s) (t := t) hq hQ hO (by omega) (by omega) (by omega)) vt_X6_staysOpen tw_475 (ly_Q hq) rfl ⟨by decide, by decide⟩ rfl (Nat.le_of_ble_eq_true rfl) ⟨Nat.zero_le _, Nat.zero_le _⟩ rfl dX6_openSet_15 rfl (fun z15 τ15 h15 => ?_)
        obtain ⟨rfl, rfl⟩ := h15
        have hso := so_bd (t := t) hO (show 0 ≤ s by omega) (by omega)
        refine g_if_le (pc' := 21) B 27 (by omega) dX6_openSet_18 (by decide) rfl (fun c18 => ?_) (fun c18 => ?_)
        · refine g_iinc (pc' := 30) B 0 [(3, .int (iI (s + 1))), (2, .int (iI u)), (0, .ref (K.2.2 q)), (1, .int (iI t))] dX6_openSet_27 rfl rfl (by decide) rfl ?_
          refine g_goto (pc' := 4) B dX6_openSet_30 (by decide) ?_
          exact ih4 _ (by omega) u (s + 1) rfl (by omega) (by rw [oset_next (by omega), i2]; have q9 := so_opn (t := t) hO (show 0 ≤ s by omega) (by omega); unfold opn at q9; first | rw [if_pos (by omega)] | (rw [if_neg (by omega)]; omega))
        · have hu := oset_bd D t s.toNat
          rw [← i2] at hu
          refine g_iload_n (pc' := 22) B 1 rfl rfl dX6_openSet_21 rfl ?_
          refine g_iconst (pc' := 23) B dX6_openSet_22 rfl ?_
          refine g_iload_n (pc' := 24) B 0 rfl rfl dX6_openSet_23 rfl ?_
          refine g_ishl (pc' := 25) B (2 ^ s.toNat) (sh1 ⟨by omega, by omega⟩) dX6_openSet_24 rfl ?_
          refine g_ior (pc' := 26) B (u + 2 ^ s.toNat) (or_add hu.1 hu.2) dX6_openSet_25 rfl ?_
          refine g_istore_n (pc' := 27) B [(2, .int (iI (u + 2 ^ s.toNat))), (3, .int (iI s)), (0, .ref (K.2.2 q)), (1, .int (iI t))] dX6_openSet_26 rfl rfl (by decide) rfl ?_
          refine g_iinc (pc' := 30) B 1 [(3, .int (iI (s + 1))), (2, .int (iI (u + 2 ^ s.toNat))), (0, .ref (K.2.2 q)), (1, .int (iI t))] dX6_openSet_27 rfl rfl (by decide) rfl ?_
          refine g_goto (pc' := 4) B dX6_openSet_30 (by decide) ?_
          exact ih4 _ (by omega) (u + 2 ^ s.toNat) (s + 1) rfl (by omega) (by rw [oset_next (by omega), i2]; have q9 := so_opn (t := t) hO (show 0 ≤ s by omega) (by omega); unfold opn at q9; first | rw [if_pos (by omega)] | (rw [if_neg (by omega)]; omega))
  exact L4 _ 0 0 rfl (by omega) (by rfl)
set_option maxRecDepth 100000 in
set_option maxHeartbeats 4000000 in
theorem c_X6_letsThrough (l : Launch) (K : WK) (σ : SG) {q : Nat} (hq : q = 10 ∨ q = 24) {D : SG} (hQ : qD σ q D) (hO : okQ D) {gp t : Int} (hp : -10 ≤ gp ∧ gp ≤ 10) (ht : 0 ≤ t ∧ t ≤ 1000000000) : MI l yX6_letsThrough cX6_letsThrough 4 (some .boolean) 2 44 K σ [.ref (K.2.2 q), .int (iI gp), .int (iI t)] (fun z τ => σ = τ ∧ ((lets D gp t ∧ z = 1) ∨ (¬ (lets D gp t) ∧ z = 0))) := by
  refine met_of [(0, .ref (K.2.2 q)), (1, .int (iI gp)), (2, .int (iI t))] (by decide +kernel) (Nat.le_of_ble_eq_true rfl) rfl ?_
  intro pP eE sS mM bW mT cC B hrt hlk
  replace B : CB pP sS mM [.ref (K.2.2 q), .int (iI gp), .int (iI t)].toArray cC cX6_letsThrough RX6 4 K := B
  obtain ⟨hO0, hO1⟩ := id hO
  refine g_iconst (pc' := 1) B dX6_letsThrough_0 rfl ?_
  refine g_istore_n (pc' := 2) B [(3, .int (iI 0)), (0, .ref (K.2.2 q)), (1, .int (iI gp)), (2, .int (iI t))] dX6_letsThrough_1 rfl rfl (by decide) rfl ?_
  have L2 : ∀ (nn : Nat) (s0 : Int) , (D 9 2 - s0).toNat = nn → (0 ≤ s0 ∧ s0 ≤ D 9 2) → (∀ y : Int, 0 ≤ y → y < s0 → D 5 y = gp → opn D y t) → G pP l eE (rmo 2 44) sS mM [.ref (K.2.2 q), .int (iI gp), .int (iI t)].toArray bW mT cC 0 0 (MQ bW (Qi K (fun z τ => σ = τ ∧ ((lets D gp t ∧ z = 1) ∨ (¬ (lets D gp t) ∧ z = 0)))) [.ref (K.2.2 q), .int (iI gp), .int (iI t)].toArray sS 0 0 (wA K)) K sS.heap 4 σ 2 [(3, .int (iI s0)), (0, .ref (K.2.2 q)), (1, .int (iI gp)), (2, .int (iI t))] [] := by
    intro nn
    induction nn using Nat.strongRecOn with
    | _ nn ih2 =>
      intro s0 hn2 i1 i2
      refine g_iload_n (pc' := 3) B 0 rfl rfl dX6_letsThrough_2 rfl ?_
      refine g_aload_n (pc' := 4) B 1 rfl rfl dX6_letsThrough_3 rfl ?_
      refine g_get (pc' := 7) B (D 9 2) hQ.1 fl_X6_24 (ly_Q hq) rfl dX6_letsThrough_4 rfl ?_
      refine g_icmp_ge (pc' := 10) B 37 (by omega) (by omega) dX6_letsThrough_7 (by decide) rfl (fun c7 => ?_) (fun c7 => ?_)
      · refine g_iconst (pc' := 38) B dX6_letsThrough_37 rfl ?_
        exact g_iret (z := 1) B hrt rfl hlk dX6_letsThrough_38 ⟨rfl, Or.inl ⟨fun y a b => i2 y a (by omega), rfl⟩⟩
      · refine g_aload_n (pc' := 11) B 1 rfl rfl dX6_letsThrough_10 rfl ?_
        refine g_getR (pc' := 14) B (q + 1) fl_X6_9 (ly_Q hq) rfl dX6_letsThrough_11 rfl ?_
        refine g_iload_n (pc' := 15) B 0 rfl rfl dX6_letsThrough_14 rfl ?_
        refine g_iald (pc' := 16) B (D 5 s0) (hQ.2 _ (by omega) (by omega)).1 (ly_Qa0 hq) (by omega) (by decide) dX6_letsThrough_15 rfl ?_
        have hs9 := hO1 s0 (by omega) (by omega)
        refine g_iload_n (pc' := 17) B 2 rfl rfl dX6_letsThrough_16 rfl ?_
        refine g_icmp_ne (pc' := 20) B 31 (by omega) (by omega) dX6_letsThrough_17 (by decide) rfl (fun c17 => ?_) (fun c17 => ?_)
        · refine g_iinc (pc' := 34) B 0 [(3, .int (iI (s0 + 1))), (0, .ref (K.2.2 q)), (1, .int (iI gp)), (2, .int (iI t))] dX6_letsThrough_31 rfl rfl (by decide) rfl ?_
          refine g_goto (pc' := 2) B dX6_letsThrough_34 (by decide) ?_
          exact ih2 _ (by omega) (s0 + 1) rfl (by omega) (by intro y a b; by_cases e9 : y = s0; (subst e9; intro q9; first | exact absurd q9 c17 | exact (so_opn hO (by omega) (by omega)).mp (by omega)); exact i2 y a (by omega))
        · refine g_aload_n (pc' := 21) B 1 rfl rfl dX6_letsThrough_20 rfl ?_
          refine g_iload_n (pc' := 22) B 0 rfl rfl dX6_letsThrough_21 rfl ?_
          refine g_iload_n (pc' := 23) B 3 rfl rfl dX6_letsThrough_22 rfl ?_
          refine g_callVI (pc' := 26) (As := [.int (iI s0), .int (iI t)]) B (c_X6_staysOpen l K _ (q := q) (D := D) (s := s0) (t := t) hq hQ hO (by omega) (by omega) (by omega)) vt_X6_staysOpen tw_475 (ly_Q hq) rfl ⟨by decide, by decide⟩ rfl (Nat.le_of_ble_eq_true rfl) ⟨Nat.zero_le _, Nat.zero_le _⟩ rfl dX6_letsThrough_23 rfl (fun z23 τ23 h23 => ?_)
          obtain ⟨rfl, rfl⟩ := h23
          have hso := so_bd (t := t) hO (show 0 ≤ s0 by omega) (by omega)
          refine g_if_ne (pc' := 29) B 31 (by omega) dX6_letsThrough_26 (by decide) rfl (fun c26 => ?_) (fun c26 => ?_)
          · refine g_iinc (pc' := 34) B 0 [(3, .int (iI (s0 + 1))), (0, .ref (K.2.2 q)), (1, .int (iI gp)), (2, .int (iI t))] dX6_letsThrough_31 rfl rfl (by decide) rfl ?_
            refine g_goto (pc' := 2) B dX6_letsThrough_34 (by decide) ?_
            exact ih2 _ (by omega) (s0 + 1) rfl (by omega) (by intro y a b; by_cases e9 : y = s0; (subst e9; intro q9; first | exact absurd q9 c17 | exact (so_opn hO (by omega) (by omega)).mp (by omega)); exact i2 y a (by omega))
          · refine g_iconst (pc' := 30) B dX6_letsThrough_29 rfl ?_
            exact g_iret (z := 0) B hrt rfl hlk dX6_letsThrough_30 ⟨rfl, Or.inr ⟨fun q9 => by have h9 := (so_opn hO (by omega) (by omega)).mpr (q9 s0 (by omega) (by omega) c17); omega, rfl⟩⟩
  exact L2 _ 0 rfl (by omega) (by intro y a b; omega)
/-- the round of a set of seams -/
def rq (D : SG) (u : Int) : Nat → Int
  | 0 => 1
  | k + 1 => if bt u k = 1 then lc (rq D u k) (D 6 k) else rq D u k
theorem rq_next {D : SG} {u s : Int} (h : 0 ≤ s) : rq D u (s + 1).toNat = if bt u s = 1 then lc (rq D u s.toNat) (D 6 s) else rq D u s.toNat := by
  rw [show (s + 1).toNat = s.toNat + 1 by omega]
  show (if bt u ((s.toNat : Nat) : Int) = 1 then lc _ (D 6 ((s.toNat : Nat) : Int)) else _) = _
  rw [show ((s.toNat : Nat) : Int) = s by omega]
theorem rq_bd {D : SG} {u : Int} (h : okQ D) : ∀ k : Nat, (k : Int) ≤ D 9 2 → 1 ≤ rq D u k ∧ rq D u k ≤ 12 ^ k
  | 0, _ => by simp [rq]
  | k + 1, hk => by
    have h1 := rq_bd (u := u) h k (by omega)
    obtain ⟨-, a, -⟩ := h.2 k (by omega) (by omega)
    have e : (12 : Int) ^ (k + 1) = 12 ^ k * 12 := Int.pow_succ 12 k
    unfold rq
    rw [e]
    split
    · have h2 := lc_pos (a := rq D u k) (b := D 6 k) (by omega) (by omega)
      have h3 := lc_le (a := rq D u k) (b := D 6 k) (by omega) (by omega)
      have h4 : rq D u k * D 6 k ≤ 12 ^ k * 12 := Int.mul_le_mul h1.2 (by omega) (by omega) (by omega)
      omega
    · omega
theorem rq_lim {D : SG} {u : Int} (h : okQ D) {k : Nat} (hk : (k : Int) ≤ D 9 2) : 1 ≤ rq D u k ∧ rq D u k ≤ 20736 := by
  have h1 := rq_bd (u := u) h k hk
  have h2 := h.1
  have q : ∀ n : Fin 5, (12 : Int) ^ n.val ≤ 20736 := by decide
  have h3 := q ⟨k, by omega⟩
  simp only [] at h3
  omega
theorem rq_dvd {D : SG} {u : Int} (h : okQ D) : ∀ (k : Nat) (s : Int), (k : Int) ≤ D 9 2 → 0 ≤ s → s < k → bt u s = 1 → D 6 s ∣ rq D u k
  | 0, s, _, _, _, _ => by omega
  | k + 1, s, hk, h0, h1, hb => by
    have h2 := rq_bd (u := u) h k (by omega)
    obtain ⟨-, a, -⟩ := h.2 k (by omega) (by omega)
    unfold rq
    by_cases e : s = k
    · subst e
      rw [if_pos hb]
      exact lc_right (by omega)
    · have h3 := rq_dvd h k s (by omega) h0 (by omega) hb
      split
      · exact Int.dvd_trans h3 (lc_left (by omega))
      · exact h3
def ao (D : SG) (u t : Int) : Nat → Int
  | 0 => 1000000
  | k + 1 => if bt u k = 1 then min (ao D u t k) (so D k t) else ao D u t k
theorem ao_next {D : SG} {u t s : Int} (h : 0 ≤ s) : ao D u t (s + 1).toNat = if bt u s = 1 then min (ao D u t s.toNat) (so D s t) else ao D u t s.toNat := by
  rw [show (s + 1).toNat = s.toNat + 1 by omega]
  show (if bt u ((s.toNat : Nat) : Int) = 1 then min _ (so D ((s.toNat : Nat) : Int) t) else _) = _
  rw [show ((s.toNat : Nat) : Int) = s by omega]
theorem ao_bd {D : SG} {u t : Int} (h : okQ D) : ∀ k : Nat, (k : Int) ≤ D 9 2 → 0 ≤ ao D u t k ∧ ao D u t k ≤ 1000000
  | 0, _ => by simp [ao]
  | k + 1, hk => by
    have h1 := ao_bd (u := u) (t := t) h k (by omega)
    have h2 := so_bd (t := t) h (show 0 ≤ (k : Int) by omega) (by omega)
    unfold ao
    split <;> omega
def sf (D : SG) (u t : Int) : Nat → Int
  | 0 => 0
  | k + 1 => if bt u k = 1 then max (sf D u t k) (ss D k t) else sf D u t k
theorem sf_next {D : SG} {u t s : Int} (h : 0 ≤ s) : sf D u t (s + 1).toNat = if bt u s = 1 then max (sf D u t s.toNat) (ss D s t) else sf D u t s.toNat := by
  rw [show (s + 1).toNat = s.toNat + 1 by omega]
  show (if bt u ((s.toNat : Nat) : Int) = 1 then max _ (ss D ((s.toNat : Nat) : Int) t) else _) = _
  rw [show ((s.toNat : Nat) : Int) = s by omega]
theorem sf_bd {D : SG} {u t : Int} (h : okQ D) : ∀ k : Nat, (k : Int) ≤ D 9 2 → 0 ≤ sf D u t k ∧ sf D u t k ≤ 12
  | 0, _ => by simp [sf]
  | k + 1, hk => by
    have h1 := sf_bd (u := u) (t := t) h k (by omega)
    have h2 := ss_bd (t := t) h (show 0 ≤ (k : Int) by omega) (by omega)
    unfold sf
    split <;> omega
set_option maxRecDepth 100000 in
set_option maxHeartbeats 4000000 in
theorem c_X6_roundOf (l : Launch) (K : WK) (σ : SG) {q : Nat} (hq : q = 10 ∨ q = 24) {D : SG} (hQ : qD σ q D) (hO : okQ D) {u : Int} (hset : 0 ≤ u ∧ u < 16) : MI l yX6_roundOf cX6_roundOf 4 (some .int) 1 22 K σ [.ref (K.2.2 q), .int (iI u)] (fun z τ => σ = τ ∧ z = rq D u (D 9 2).toNat) := by
  refine met_of [(0, .ref (K.2.2 q)), (1, .int (iI u))] (by decide +kernel) (Nat.le_of_ble_eq_true rfl) rfl ?_
  intro pP eE sS mM bW mT cC B hrt hlk
  replace B : CB pP sS mM [.ref (K.2.2 q), .int (iI u)].toArray cC cX6_roundOf RX6 4 K := B
  obtain ⟨hO0, hO1⟩ := id hO
  refine g_iconst (pc' := 1) B dX6_roundOf_0 rfl ?_
  refine g_istore_n (pc' := 2) B [(2, .int (iI 1)), (0, .ref (K.2.2 q)), (1, .int (iI u))] dX6_roundOf_1 rfl rfl (by decide) rfl ?_
  refine g_iconst (pc' := 3) B dX6_roundOf_2 rfl ?_
  refine g_istore_n (pc' := 4) B [(3, .int (iI 0)), (2, .int (iI 1)), (0, .ref (K.2.2 q)), (1, .int (iI u))] dX6_roundOf_3 rfl rfl (by decide) rfl ?_
  have L4 : ∀ (nn : Nat) (r s : Int) , (D 9 2 - s).toNat = nn → (0 ≤ s ∧ s ≤ D 9 2) → (r = rq D u s.toNat) → G pP l eE (rmo 1 22) sS mM [.ref (K.2.2 q), .int (iI u)].toArray bW mT cC 0 0 (MQ bW (Qi K (fun z τ => σ = τ ∧ z = rq D u (D 9 2).toNat)) [.ref (K.2.2 q), .int (iI u)].toArray sS 0 0 (wA K)) K sS.heap 4 σ 4 [(3, .int (iI s)), (2, .int (iI r)), (0, .ref (K.2.2 q)), (1, .int (iI u))] [] := by
    intro nn
    induction nn using Nat.strongRecOn with
    | _ nn ih4 =>
      intro r s hn4 i1 i2
      have hrq := rq_lim (u := u) hO (k := s.toNat) (by omega)
      rw [← i2] at hrq
      refine g_iload_n (pc' := 5) B 0 rfl rfl dX6_roundOf_4 rfl ?_
      refine g_aload_n (pc' := 6) B 2 rfl rfl dX6_roundOf_5 rfl ?_
      refine g_get (pc' := 9) B (D 9 2) hQ.1 fl_X6_24 (ly_Q hq) rfl dX6_roundOf_6 rfl ?_
      refine g_icmp_ge (pc' := 12) B 38 (by omega) (by omega) dX6_roundOf_9 (by decide) rfl (fun c9 => ?_) (fun c9 => ?_)
      · refine g_iload_n (pc' := 39) B 1 rfl rfl dX6_roundOf_38 rfl ?_
        exact g_iret (z := r) B hrt rfl hlk dX6_roundOf_39 ⟨rfl, by rw [i2, show s = D 9 2 by omega]⟩
      · refine g_iload_n (pc' := 13) B 3 rfl rfl dX6_roundOf_12 rfl ?_
        refine g_iload_n (pc' := 14) B 0 rfl rfl dX6_roundOf_13 rfl ?_
        have hdv : 0 ≤ u / 2 ^ s.toNat := Int.ediv_nonneg (by omega) (by have := pow_le7 (k := s.toNat) (by omega); omega)
        have hs9 := hO1 s (by omega) (by omega)
        refine g_ishr (pc' := 15) B (u / 2 ^ (s).toNat) (sr1 (by omega) (by omega)) dX6_roundOf_14 rfl ?_
        refine g_iconst (pc' := 16) B dX6_roundOf_15 rfl ?_
        refine g_iand (pc' := 17) B (bt u (s)) (and1 (by omega)) dX6_roundOf_16 rfl ?_
        refine g_iconst (pc' := 18) B dX6_roundOf_17 rfl ?_
        have hbt := bt_01 u s
        refine g_icmp_ne (pc' := 21) B 32 (by omega) (by omega) dX6_roundOf_18 (by decide) rfl (fun c18 => ?_) (fun c18 => ?_)
        · refine g_iinc (pc' := 35) B 0 [(3, .int (iI (s + 1))), (2, .int (iI r)), (0, .ref (K.2.2 q)), (1, .int (iI u))] dX6_roundOf_32 rfl rfl (by decide) rfl ?_
          refine g_goto (pc' := 4) B dX6_roundOf_35 (by decide) ?_
          exact ih4 _ (by omega) r (s + 1) rfl (by omega) (by rw [rq_next (by omega), i2]; first | rw [if_pos c18] | rw [if_neg c18])
        · refine g_iload_n (pc' := 22) B 1 rfl rfl dX6_roundOf_21 rfl ?_
          refine g_aload_n (pc' := 23) B 2 rfl rfl dX6_roundOf_22 rfl ?_
          refine g_getR (pc' := 26) B (q + 2) fl_X6_15 (ly_Q hq) rfl dX6_roundOf_23 rfl ?_
          refine g_iload_n (pc' := 27) B 0 rfl rfl dX6_roundOf_26 rfl ?_
          refine g_iald (pc' := 28) B (D 6 s) (hQ.2 _ (by omega) (by omega)).2.1 (ly_Qa1 hq) (by omega) (by decide) dX6_roundOf_27 rfl ?_
          refine g_callNI (pc' := 31) (As := [.int (iI r), .int (iI (D 6 s))]) B (c_X11_leastCommon l K _ (a := r) (b := D 6 s) (by omega) (by omega)) st_X11_leastCommon tw_752 ⟨by decide, by decide⟩ rfl (Nat.le_of_ble_eq_true rfl) ⟨Nat.zero_le _, Nat.zero_le _⟩ rfl dX6_roundOf_28 rfl (fun z28 τ28 h28 => ?_)
          obtain ⟨rfl, rfl⟩ := h28
          refine g_istore_n (pc' := 32) B [(2, .int (iI (lc r (D 6 s)))), (3, .int (iI s)), (0, .ref (K.2.2 q)), (1, .int (iI u))] dX6_roundOf_31 rfl rfl (by decide) rfl ?_
          refine g_iinc (pc' := 35) B 1 [(3, .int (iI (s + 1))), (2, .int (iI (lc r (D 6 s)))), (0, .ref (K.2.2 q)), (1, .int (iI u))] dX6_roundOf_32 rfl rfl (by decide) rfl ?_
          refine g_goto (pc' := 4) B dX6_roundOf_35 (by decide) ?_
          exact ih4 _ (by omega) (lc r (D 6 s)) (s + 1) rfl (by omega) (by rw [rq_next (by omega), i2]; first | rw [if_pos c18] | rw [if_neg c18])
  exact L4 _ 1 0 rfl (by omega) (by rfl)
set_option maxRecDepth 100000 in
set_option maxHeartbeats 4000000 in
theorem c_X6_allOpenFor (l : Launch) (K : WK) (σ : SG) {q : Nat} (hq : q = 10 ∨ q = 24) {D : SG} (hQ : qD σ q D) (hO : okQ D) {u t : Int} (hset : 0 ≤ u ∧ u < 16) (ht : 0 ≤ t ∧ t ≤ 1000000000) : MI l yX6_allOpenFor cX6_allOpenFor 5 (some .int) 2 44 K σ [.ref (K.2.2 q), .int (iI u), .int (iI t)] (fun z τ => σ = τ ∧ z = ao D u t (D 9 2).toNat) := by
  refine met_of [(0, .ref (K.2.2 q)), (1, .int (iI u)), (2, .int (iI t))] (by decide +kernel) (Nat.le_of_ble_eq_true rfl) rfl ?_
  intro pP eE sS mM bW mT cC B hrt hlk
  replace B : CB pP sS mM [.ref (K.2.2 q), .int (iI u), .int (iI t)].toArray cC cX6_allOpenFor RX6 5 K := B
  obtain ⟨hO0, hO1⟩ := id hO
  refine g_ldc (z := 1000000) (pc' := 2) B tw_483 (by decide +kernel) dX6_allOpenFor_0 rfl ?_
  refine g_istore_n (pc' := 3) B [(3, .int (iI 1000000)), (0, .ref (K.2.2 q)), (1, .int (iI u)), (2, .int (iI t))] dX6_allOpenFor_2 rfl rfl (by decide) rfl ?_
  refine g_iconst (pc' := 4) B dX6_allOpenFor_3 rfl ?_
  refine g_istore (pc' := 6) B [(4, .int (iI 0)), (3, .int (iI 1000000)), (0, .ref (K.2.2 q)), (1, .int (iI u)), (2, .int (iI t))] dX6_allOpenFor_4 rfl (by decide) rfl ?_
  have L6 : ∀ (nn : Nat) (r s : Int) , (D 9 2 - s).toNat = nn → (0 ≤ s ∧ s ≤ D 9 2) → (r = ao D u t s.toNat) → G pP l eE (rmo 2 44) sS mM [.ref (K.2.2 q), .int (iI u), .int (iI t)].toArray bW mT cC 0 0 (MQ bW (Qi K (fun z τ => σ = τ ∧ z = ao D u t (D 9 2).toNat)) [.ref (K.2.2 q), .int (iI u), .int (iI t)].toArray sS 0 0 (wA K)) K sS.heap 5 σ 6 [(4, .int (iI s)), (3, .int (iI r)), (0, .ref (K.2.2 q)), (1, .int (iI u)), (2, .int (iI t))] [] := by
    intro nn
    induction nn using Nat.strongRecOn with
    | _ nn ih6 =>
      intro r s hn6 i1 i2
      have hao := ao_bd (u := u) (t := t) hO s.toNat (by omega)
      rw [← i2] at hao
      refine g_iload (pc' := 8) B 0 rfl dX6_allOpenFor_6 rfl ?_
      refine g_aload_n (pc' := 9) B 2 rfl rfl dX6_allOpenFor_8 rfl ?_
      refine g_get (pc' := 12) B (D 9 2) hQ.1 fl_X6_24 (ly_Q hq) rfl dX6_allOpenFor_9 rfl ?_
      refine g_icmp_ge (pc' := 15) B 43 (by omega) (by omega) dX6_allOpenFor_12 (by decide) rfl (fun c12 => ?_) (fun c12 => ?_)
      · refine g_iload_n (pc' := 44) B 1 rfl rfl dX6_allOpenFor_43 rfl ?_
        exact g_iret (z := r) B hrt rfl hlk dX6_allOpenFor_44 ⟨rfl, by rw [i2, show s = D 9 2 by omega]⟩
      · refine g_iload_n (pc' := 16) B 3 rfl rfl dX6_allOpenFor_15 rfl ?_
        refine g_iload (pc' := 18) B 0 rfl dX6_allOpenFor_16 rfl ?_
        have hdv : 0 ≤ u / 2 ^ s.toNat := Int.ediv_nonneg (by omega) (by have := pow_le7 (k := s.toNat) (by omega); omega)
        refine g_ishr (pc' := 19) B (u / 2 ^ (s).toNat) (sr1 (by omega) (by omega)) dX6_allOpenFor_18 rfl ?_
        refine g_iconst (pc' := 20) B dX6_allOpenFor_19 rfl ?_
        refine g_iand (pc' := 21) B (bt u (s)) (and1 (by omega)) dX6_allOpenFor_20 rfl ?_
        refine g_iconst (pc' := 22) B dX6_allOpenFor_21 rfl ?_
        have hbt := bt_01 u s
        refine g_icmp_ne (pc' := 25) B 37 (by omega) (by omega) dX6_allOpenFor_22 (by decide) rfl (fun c22 => ?_) (fun c22 => ?_)
        · refine g_iinc (pc' := 40) B 0 [(4, .int (iI (s + 1))), (3, .int (iI r)), (0, .ref (K.2.2 q)), (1, .int (iI u)), (2, .int (iI t))] dX6_allOpenFor_37 rfl rfl (by decide) rfl ?_
          refine g_goto (pc' := 6) B dX6_allOpenFor_40 (by decide) ?_
          exact ih6 _ (by omega) r (s + 1) rfl (by omega) (by rw [ao_next (by omega), i2]; first | rw [if_pos c22] | rw [if_neg c22])
        · refine g_iload_n (pc' := 26) B 1 rfl rfl dX6_allOpenFor_25 rfl ?_
          refine g_aload_n (pc' := 27) B 2 rfl rfl dX6_allOpenFor_26 rfl ?_
          refine g_iload (pc' := 29) B 0 rfl dX6_allOpenFor_27 rfl ?_
          refine g_iload_n (pc' := 30) B 4 rfl rfl dX6_allOpenFor_29 rfl ?_
          refine g_callVI (pc' := 33) (As := [.int (iI s), .int (iI t)]) B (c_X6_staysOpen l K _ (q := q) (D := D) (s := s) (t := t) hq hQ hO (by omega) (by omega) (by omega)) vt_X6_staysOpen tw_475 (ly_Q hq) rfl ⟨by decide, by decide⟩ rfl (Nat.le_of_ble_eq_true rfl) ⟨Nat.zero_le _, Nat.zero_le _⟩ rfl dX6_allOpenFor_30 rfl (fun z30 τ30 h30 => ?_)
          obtain ⟨rfl, rfl⟩ := h30
          have hso := so_bd (t := t) hO (show 0 ≤ s by omega) (by omega)
          refine g_mmin (pc' := 36) B (by omega) (by omega) tw_773 (by decide) (Nat.le_of_ble_eq_true rfl) (Nat.zero_le _) (Nat.zero_le _) dX6_allOpenFor_33 rfl ?_
          refine g_istore_n (pc' := 37) B [(3, .int (iI (min r (so D s t)))), (4, .int (iI s)), (0, .ref (K.2.2 q)), (1, .int (iI u)), (2, .int (iI t))] dX6_allOpenFor_36 rfl rfl (by decide) rfl ?_
          refine g_iinc (pc' := 40) B 1 [(4, .int (iI (s + 1))), (3, .int (iI (min r (so D s t)))), (0, .ref (K.2.2 q)), (1, .int (iI u)), (2, .int (iI t))] dX6_allOpenFor_37 rfl rfl (by decide) rfl ?_
          refine g_goto (pc' := 6) B dX6_allOpenFor_40 (by decide) ?_
          exact ih6 _ (by omega) (min r (so D s t)) (s + 1) rfl (by omega) (by rw [ao_next (by omega), i2]; first | rw [if_pos c22] | rw [if_neg c22])
  exact L6 _ 1000000 0 rfl (by omega) (by rfl)
set_option maxRecDepth 100000 in
set_option maxHeartbeats 4000000 in
theorem c_X6_someShutFor (l : Launch) (K : WK) (σ : SG) {q : Nat} (hq : q = 10 ∨ q = 24) {D : SG} (hQ : qD σ q D) (hO : okQ D) {u t : Int} (hset : 0 ≤ u ∧ u < 16) (ht : 0 ≤ t ∧ t ≤ 1000000000) : MI l yX6_someShutFor cX6_someShutFor 5 (some .int) 3 66 K σ [.ref (K.2.2 q), .int (iI u), .int (iI t)] (fun z τ => σ = τ ∧ z = sf D u t (D 9 2).toNat) := by
  refine met_of [(0, .ref (K.2.2 q)), (1, .int (iI u)), (2, .int (iI t))] (by decide +kernel) (Nat.le_of_ble_eq_true rfl) rfl ?_
  intro pP eE sS mM bW mT cC B hrt hlk
  replace B : CB pP sS mM [.ref (K.2.2 q), .int (iI u), .int (iI t)].toArray cC cX6_someShutFor RX6 5 K := B
  obtain ⟨hO0, hO1⟩ := id hO
  refine g_iconst (pc' := 1) B dX6_someShutFor_0 rfl ?_
  refine g_istore_n (pc' := 2) B [(3, .int (iI 0)), (0, .ref (K.2.2 q)), (1, .int (iI u)), (2, .int (iI t))] dX6_someShutFor_1 rfl rfl (by decide) rfl ?_
  refine g_iconst (pc' := 3) B dX6_someShutFor_2 rfl ?_
  refine g_istore (pc' := 5) B [(4, .int (iI 0)), (3, .int (iI 0)), (0, .ref (K.2.2 q)), (1, .int (iI u)), (2, .int (iI t))] dX6_someShutFor_3 rfl (by decide) rfl ?_
  have L5 : ∀ (nn : Nat) (r s : Int) , (D 9 2 - s).toNat = nn → (0 ≤ s ∧ s ≤ D 9 2) → (r = sf D u t s.toNat) → G pP l eE (rmo 3 66) sS mM [.ref (K.2.2 q), .int (iI u), .int (iI t)].toArray bW mT cC 0 0 (MQ bW (Qi K (fun z τ => σ = τ ∧ z = sf D u t (D 9 2).toNat)) [.ref (K.2.2 q), .int (iI u), .int (iI t)].toArray sS 0 0 (wA K)) K sS.heap 5 σ 5 [(4, .int (iI s)), (3, .int (iI r)), (0, .ref (K.2.2 q)), (1, .int (iI u)), (2, .int (iI t))] [] := by
    intro nn
    induction nn using Nat.strongRecOn with
    | _ nn ih5 =>
      intro r s hn5 i1 i2
      have hsf := sf_bd (u := u) (t := t) hO s.toNat (by omega)
      rw [← i2] at hsf
      refine g_iload (pc' := 7) B 0 rfl dX6_someShutFor_5 rfl ?_
      refine g_aload_n (pc' := 8) B 2 rfl rfl dX6_someShutFor_7 rfl ?_
      refine g_get (pc' := 11) B (D 9 2) hQ.1 fl_X6_24 (ly_Q hq) rfl dX6_someShutFor_8 rfl ?_
      refine g_icmp_ge (pc' := 14) B 42 (by omega) (by omega) dX6_someShutFor_11 (by decide) rfl (fun c11 => ?_) (fun c11 => ?_)
      · refine g_iload_n (pc' := 43) B 1 rfl rfl dX6_someShutFor_42 rfl ?_
        exact g_iret (z := r) B hrt rfl hlk dX6_someShutFor_43 ⟨rfl, by rw [i2, show s = D 9 2 by omega]⟩
      · refine g_iload_n (pc' := 15) B 3 rfl rfl dX6_someShutFor_14 rfl ?_
        refine g_iload (pc' := 17) B 0 rfl dX6_someShutFor_15 rfl ?_
        have hdv : 0 ≤ u / 2 ^ s.toNat := Int.ediv_nonneg (by omega) (by have := pow_le7 (k := s.toNat) (by omega); omega)
        refine g_ishr (pc' := 18) B (u / 2 ^ (s).toNat) (sr1 (by omega) (by omega)) dX6_someShutFor_17 rfl ?_
        refine g_iconst (pc' := 19) B dX6_someShutFor_18 rfl ?_
        refine g_iand (pc' := 20) B (bt u (s)) (and1 (by omega)) dX6_someShutFor_19 rfl ?_
        refine g_iconst (pc' := 21) B dX6_someShutFor_20 rfl ?_
        have hbt := bt_01 u s
        refine g_icmp_ne (pc' := 24) B 36 (by omega) (by omega) dX6_someShutFor_21 (by decide) rfl (fun c21 => ?_) (fun c21 => ?_)
        · refine g_iinc (pc' := 39) B 0 [(4, .int (iI (s + 1))), (3, .int (iI r)), (0, .ref (K.2.2 q)), (1, .int (iI u)), (2, .int (iI t))] dX6_someShutFor_36 rfl rfl (by decide) rfl ?_
          refine g_goto (pc' := 5) B dX6_someShutFor_39 (by decide) ?_
          exact ih5 _ (by omega) r (s + 1) rfl (by omega) (by rw [sf_next (by omega), i2]; first | rw [if_pos c21] | rw [if_neg c21])
        · refine g_iload_n (pc' := 25) B 1 rfl rfl dX6_someShutFor_24 rfl ?_
          refine g_aload_n (pc' := 26) B 2 rfl rfl dX6_someShutFor_25 rfl ?_
          refine g_iload (pc' := 28) B 0 rfl dX6_someShutFor_26 rfl ?_
          refine g_iload_n (pc' := 29) B 4 rfl rfl dX6_someShutFor_28 rfl ?_
          refine g_callVI (pc' := 32) (As := [.int (iI s), .int (iI t)]) B (c_X6_staysShut l K _ (q := q) (D := D) (s := s) (t := t) hq hQ hO (by omega) (by omega) (by omega)) vt_X6_staysShut tw_757 (ly_Q hq) rfl ⟨by decide, by decide⟩ rfl (Nat.le_of_ble_eq_true rfl) ⟨Nat.zero_le _, Nat.zero_le _⟩ rfl dX6_someShutFor_29 rfl (fun z29 τ29 h29 => ?_)
          obtain ⟨rfl, rfl⟩ := h29
          have hso := ss_bd (t := t) hO (show 0 ≤ s by omega) (by omega)
          refine g_mmax (pc' := 35) B (by omega) (by omega) tw_487 (by decide) (Nat.le_of_ble_eq_true rfl) (Nat.zero_le _) (Nat.zero_le _) dX6_someShutFor_32 rfl ?_
          refine g_istore_n (pc' := 36) B [(3, .int (iI (max r (ss D s t)))), (4, .int (iI s)), (0, .ref (K.2.2 q)), (1, .int (iI u)), (2, .int (iI t))] dX6_someShutFor_35 rfl rfl (by decide) rfl ?_
          refine g_iinc (pc' := 39) B 1 [(4, .int (iI (s + 1))), (3, .int (iI (max r (ss D s t)))), (0, .ref (K.2.2 q)), (1, .int (iI u)), (2, .int (iI t))] dX6_someShutFor_36 rfl rfl (by decide) rfl ?_
          refine g_goto (pc' := 5) B dX6_someShutFor_39 (by decide) ?_
          exact ih5 _ (by omega) (max r (ss D s t)) (s + 1) rfl (by omega) (by rw [sf_next (by omega), i2]; first | rw [if_pos c21] | rw [if_neg c21])
  exact L5 _ 0 0 rfl (by omega) (by rfl)
