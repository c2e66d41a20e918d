/-- how much slack a house needs at a breath -/
def cst (D : SG) (h x : Int) : Int := ((lean D (D 4 h) x).natAbs : Int)
theorem cst_bd {D : SG} {h : Int} (x : Int) (hF : okF D) (hH : okH D) (h0 : 0 ≤ h) (h1 : h < D 9 1) : 0 ≤ cst D h x ∧ cst D h x ≤ 153 := by
  have h2 := hH.2 h h0 h1
  have h3 := lean_bd x hF h2.1
  unfold cst
  omega
def srd (D : SG) (h : Int) : Int := lc (D 1 (D 4 h)) (D 1 (D 4 h + 1))
theorem srd_bd {D : SG} {h : Int} (hF : okF D) (hH : okH D) (h0 : 0 ≤ h) (h1 : h < D 9 1) : 1 ≤ srd D h ∧ srd D h ≤ 144 := by
  have h2 := hH.2 h h0 h1
  obtain ⟨-, a1, -⟩ := hF.2 (D 4 h) (by omega) (by omega)
  obtain ⟨-, b1, -⟩ := hF.2 (D 4 h + 1) (by omega) (by omega)
  have hp := lc_pos (a := D 1 (D 4 h)) (b := D 1 (D 4 h + 1)) (by omega) (by omega)
  have hq := lc_le (a := D 1 (D 4 h)) (b := D 1 (D 4 h + 1)) (by omega) (by omega)
  have hq2 : D 1 (D 4 h) * D 1 (D 4 h + 1) ≤ 12 * 12 := Int.mul_le_mul (by omega) (by omega) (by omega) (by omega)
  unfold srd
  omega
theorem cst_per {D : SG} {h : Int} (hF : okF D) (hH : okH D) (h0 : 0 ≤ h) (h1 : h < D 9 1) (x : Int) : cst D h (x + srd D h) = cst D h x := by
  have h2 := hH.2 h h0 h1
  obtain ⟨-, a1, -⟩ := hF.2 (D 4 h) (by omega) (by omega)
  obtain ⟨-, b1, -⟩ := hF.2 (D 4 h + 1) (by omega) (by omega)
  unfold cst srd
  rw [lean_per (lc_left (by omega)) (lc_right (by omega))]
theorem srd_dvd {D : SG} {h : Int} (hF : okF D) (hR : okR D) (hH : okH D) (h0 : 0 ≤ h) (h1 : h < D 9 1) : srd D h ∣ D 9 3 := by
  have h2 := hH.2 h h0 h1
  have h3 := hR.1
  obtain ⟨-, a1, -⟩ := hF.2 (D 4 h) (by omega) (by omega)
  obtain ⟨-, b1, -⟩ := hF.2 (D 4 h + 1) (by omega) (by omega)
  exact lc_dvd (by omega) (by omega) (hR.2 _ (by omega) (by omega)) (hR.2 _ (by omega) (by omega)) (by omega)
/-- the set of houses that crack, the first k of them -/
def cset (D : SG) (sl : Int → Int) (x : Int) : Nat → Int
  | 0 => 0
  | k + 1 => cset D sl x k + (if sl k < cst D k x then 2 ^ k else 0)
theorem cset_bd (D : SG) (sl : Int → Int) (x : Int) : ∀ k : Nat, 0 ≤ cset D sl x k ∧ cset D sl x k < 2 ^ k
  | 0 => by simp [cset]
  | k + 1 => by
    have h := cset_bd D sl x k
    have e : (2 : Int) ^ (k + 1) = 2 ^ k * 2 := Int.pow_succ 2 k
    show 0 ≤ cset D sl x k + _ ∧ cset D sl x k + _ < 2 ^ (k + 1)
    rw [e]
    split <;> omega
theorem cset_next {D : SG} {sl : Int → Int} {x h : Int} (h0 : 0 ≤ h) : cset D sl x (h + 1).toNat = cset D sl x h.toNat + (if sl h < cst D h x then 2 ^ h.toNat else 0) := by
  rw [show (h + 1).toNat = h.toNat + 1 by omega]
  show cset D sl x h.toNat + (if sl ((h.toNat : Nat) : Int) < cst D ((h.toNat : Nat) : Int) x then _ else _) = _
  rw [show ((h.toNat : Nat) : Int) = h by omega]
/-- the first place from f on -/
def isF (C : Int → Prop) (f z : Int) : Prop := (f ≤ z ∧ C z ∧ ∀ x : Int, f ≤ x → x < z → ¬ C x) ∨ (z = -1 ∧ ∀ x : Int, f ≤ x → ¬ C x)
theorem isF_uniq {C : Int → Prop} {f z y : Int} (h : isF C f z) (h2 : isF C f y) : z = y := by
  rcases h with ⟨a, b, c⟩ | ⟨a, b⟩ <;> rcases h2 with ⟨a', b', c'⟩ | ⟨a', b'⟩
  · rcases Int.lt_trichotomy z y with q | q | q
    · exact absurd b (c' z a q)
    · exact q
    · exact absurd b' (c y a' q)
  · exact absurd b (b' z a)
  · exact absurd b' (b y a')
  · omega
theorem per_all {C : Int → Prop} {f p : Int} (hp : 1 ≤ p) (hC : ∀ x : Int, C (x + p) ↔ C x) (h : ∀ x : Int, f ≤ x → x < f + p → ¬ C x) : ∀ (n : Nat) (x : Int), f ≤ x → x < f + p * (n + 1) → ¬ C x
  | 0, x, a, b => h x a (by simpa using b)
  | n + 1, x, a, b => by
    by_cases q : x < f + p
    · exact h x a q
    · have ih := per_all hp hC h n (x - p) (by omega) (by
        have e : p * (((n + 1 : Nat) : Int) + 1) = p * ((n : Int) + 1) + p := by
          rw [show (((n + 1 : Nat) : Int) + 1) = ((n : Int) + 1) + 1 by omega, Int.mul_add]; omega
        omega)
      rw [← hC (x - p), show x - p + p = x by omega] at ih
      exact ih
theorem per_none {C : Int → Prop} {f p : Int} (hp : 1 ≤ p) (hC : ∀ x : Int, C (x + p) ↔ C x) (h : ∀ x : Int, f ≤ x → x < f + p → ¬ C x) (x : Int) (hx : f ≤ x) : ¬ C x := by
  refine per_all hp hC h (x - f).toNat x hx ?_
  have e : (((x - f).toNat : Nat) : Int) = x - f := by omega
  rw [e]
  have : 1 * (x - f + 1) ≤ p * (x - f + 1) := Int.mul_le_mul_of_nonneg_right hp (by omega)
  omega
def mx (F : Int → Int) : Nat → Int
  | 0 => 0
  | n + 1 => max (mx F n) (F n)
theorem mx_bd {F : Int → Int} {c : Int} (hc : 0 ≤ c) (h : ∀ x, F x ≤ c) : ∀ n : Nat, 0 ≤ mx F n ∧ mx F n ≤ c
  | 0 => by simp [mx]; exact hc
  | n + 1 => by
    have h1 := mx_bd hc h n
    have h2 := h n
    show 0 ≤ max (mx F n) (F n) ∧ max (mx F n) (F n) ≤ c
    omega
theorem mx_ge {F : Int → Int} : ∀ {n k : Nat}, k < n → F k ≤ mx F n := by
  intro n
  induction n with
  | zero => intro k h; omega
  | succ n ih =>
    intro k h
    show F k ≤ max (mx F n) (F n)
    by_cases e : k = n
    · subst e; omega
    · have := ih (show k < n by omega); omega
theorem mx_le {F : Int → Int} {c : Int} (hc : 0 ≤ c) : ∀ {n : Nat}, (∀ k : Nat, k < n → F k ≤ c) → mx F n ≤ c := by
  intro n
  induction n with
  | zero => intro _; exact hc
  | succ n ih =>
    intro h
    show max (mx F n) (F n) ≤ c
    have h1 := ih (fun k hk => h k (by omega))
    have h2 := h n (by omega)
    omega
theorem mod_per {F : Int → Int} {p : Int} (hp : 1 ≤ p) (hF : ∀ x : Int, F (x + p) = F x) (x : Int) : F x = F (x % p) := by
  have key : ∀ (n : Nat) (x : Int), F (x + p * n) = F x := by
    intro n
    induction n with
    | zero => intro x; simp
    | succ n ih =>
      intro x
      rw [show x + p * ((n + 1 : Nat) : Int) = (x + p * n) + p by rw [show ((n + 1 : Nat) : Int) = (n : Int) + 1 by omega, Int.mul_add]; omega, hF, ih]
  have e := Int.emod_add_mul_ediv x p
  rcases Int.le_total 0 (x / p) with q | q
  · have k := key (x / p).toNat (x % p)
    rw [show (((x / p).toNat : Nat) : Int) = x / p by omega, e] at k
    exact k
  · have k := key (-(x / p)).toNat x
    rw [show (((-(x / p)).toNat : Nat) : Int) = -(x / p) by omega, show x + p * -(x / p) = x % p by rw [Int.mul_neg]; omega] at k
    exact k.symm
theorem mx_per {F : Int → Int} {p r : Int} (hp : 1 ≤ p) (hr : p ≤ r) (hF : ∀ x : Int, F (x + p) = F x) : mx F r.toNat = mx F p.toNat := by
  apply Int.le_antisymm
  · refine mx_le ?_ (fun k hk => ?_)
    · have : ∀ n : Nat, 0 ≤ mx F n := by
        intro n
        induction n with
        | zero => simp [mx]
        | succ n ih => show 0 ≤ max (mx F n) (F n); omega
      exact this _
    · rw [mod_per hp hF k]
      have h1 := Int.emod_nonneg (k : Int) (show p ≠ 0 by omega)
      have h2 := Int.emod_lt_of_pos (k : Int) (show 0 < p by omega)
      have h3 := mx_ge (F := F) (n := p.toNat) (k := ((k : Int) % p).toNat) (by omega)
      rwa [show ((((k : Int) % p).toNat : Nat) : Int) = (k : Int) % p by omega] at h3
  · refine mx_le ?_ (fun k hk => mx_ge (by omega))
    have : ∀ n : Nat, 0 ≤ mx F n := by
      intro n
      induction n with
      | zero => simp [mx]
      | succ n ih => show 0 ≤ max (mx F n) (F n); omega
    exact this _
theorem mx_next {F : Int → Int} {x : Int} (h : 0 ≤ x) : mx F (x + 1).toNat = max (mx F x.toNat) (F x) := by
  rw [show (x + 1).toNat = x.toNat + 1 by omega]
  show max (mx F x.toNat) (F ((x.toNat : Nat) : Int)) = _
  rw [show ((x.toNat : Nat) : Int) = x by omega]
/-- NEEDS -/
def nd (D : SG) (h : Int) : Int := mx (cst D h) (D 9 3).toNat
theorem nd_bd {D : SG} {h : Int} (hF : okF D) (hH : okH D) (h0 : 0 ≤ h) (h1 : h < D 9 1) : 0 ≤ nd D h ∧ nd D h ≤ 153 := mx_bd (by omega) (fun x => (cst_bd x hF hH h0 h1).2) _
theorem nd_by {D : SG} {h : Int} (hF : okF D) (hR : okR D) (hH : okH D) (h0 : 0 ≤ h) (h1 : h < D 9 1) : mx (cst D h) (srd D h).toNat = nd D h := by
  have h2 := srd_bd hF hH h0 h1
  have h3 := hR.1
  have h4 := Int.le_of_dvd (by omega) (srd_dvd hF hR hH h0 h1)
  exact (mx_per h2.1 h4 (cst_per hF hH h0 h1)).symm
def nhS (D : SG) (sl : Int → Int) : Nat → Int × Int
  | 0 => (-1, 0)
  | n + 1 => if (nhS D sl n).2 < nd D n - sl n then ((n : Int), nd D n - sl n) else nhS D sl n
theorem nhS_next {D : SG} {sl : Int → Int} {h : Int} (h0 : 0 ≤ h) : nhS D sl (h + 1).toNat = if (nhS D sl h.toNat).2 < nd D h - sl h then (h, nd D h - sl h) else nhS D sl h.toNat := by
  rw [show (h + 1).toNat = h.toNat + 1 by omega]
  show (if (nhS D sl h.toNat).2 < nd D ((h.toNat : Nat) : Int) - sl ((h.toNat : Nat) : Int) then _ else _) = _
  rw [show ((h.toNat : Nat) : Int) = h by omega]
theorem nhS_bd {D : SG} {sl : Int → Int} (hF : okF D) (hH : okH D) (hs : ∀ h : Int, 0 ≤ h → h < D 9 1 → 0 ≤ sl h ∧ sl h ≤ 999) : ∀ n : Nat, (n : Int) ≤ D 9 1 → 0 ≤ (nhS D sl n).2 ∧ (nhS D sl n).2 ≤ 153
  | 0, _ => by simp [nhS]
  | n + 1, hn => by
    have h1 := nhS_bd hF hH hs n (by omega)
    have h2 := nd_bd (h := (n : Int)) hF hH (by omega) (by omega)
    have h3 := hs n (by omega) (by omega)
    unfold nhS
    split
    · constructor <;> simp only [] <;> omega
    · exact h1
set_option maxRecDepth 100000 in
set_option maxHeartbeats 4000000 in
theorem c_X8_hasHouse (l : Launch) (K : WK) (σ : SG) {b : Nat} (hb : b = 3 ∨ b = 17) {D : SG} (hS : sD σ b D) (hF : okF D) (hH : okH D) {h : Int} (hh : -2147483648 ≤ h ∧ h < 2147483648) : MI l yX8_hasHouse cX8_hasHouse 2 (some .boolean) 0 0 K σ [.ref (K.2.2 b), .int (iI h)] (fun z τ => σ = τ ∧ (((0 ≤ h ∧ h < D 9 1) ∧ z = 1) ∨ (¬ (0 ≤ h ∧ h < D 9 1) ∧ z = 0))) := by
  refine met_of [(0, .ref (K.2.2 b)), (1, .int (iI h))] (by decide +kernel) (Nat.le_of_ble_eq_true rfl) rfl ?_
  intro pP eE sS mM bW mT cC B hrt hlk
  replace B : CB pP sS mM [.ref (K.2.2 b), .int (iI h)].toArray cC cX8_hasHouse RX8 2 K := B
  obtain ⟨hF0, hF1⟩ := id hF
  obtain ⟨hH0, hH1⟩ := id hH
  refine g_iload_n (pc' := 1) B 1 rfl rfl dX8_hasHouse_0 rfl ?_
  refine g_if_lt (pc' := 4) B 16 (by omega) dX8_hasHouse_1 (by decide) rfl (fun c1 => ?_) (fun c1 => ?_)
  · refine g_iconst (pc' := 17) B dX8_hasHouse_16 rfl ?_
    exact g_iret (z := 0) B hrt rfl hlk dX8_hasHouse_17 ⟨rfl, by omega⟩
  · refine g_iload_n (pc' := 5) B 1 rfl rfl dX8_hasHouse_4 rfl ?_
    refine g_aload_n (pc' := 6) B 0 rfl rfl dX8_hasHouse_5 rfl ?_
    refine g_get (pc' := 9) B (D 9 1) hS.2.2.1 fl_X8_32 (ly_S hb) rfl dX8_hasHouse_6 rfl ?_
    refine g_icmp_ge (pc' := 12) B 16 (by omega) (by omega) dX8_hasHouse_9 (by decide) rfl (fun c9 => ?_) (fun c9 => ?_)
    · refine g_iconst (pc' := 17) B dX8_hasHouse_16 rfl ?_
      exact g_iret (z := 0) B hrt rfl hlk dX8_hasHouse_17 ⟨rfl, by omega⟩
    · refine g_iconst (pc' := 13) B dX8_hasHouse_12 rfl ?_
      refine g_goto (pc' := 17) B dX8_hasHouse_13 (by decide) ?_
      exact g_iret (z := 1) B hrt rfl hlk dX8_hasHouse_17 ⟨rfl, by omega⟩
set_option maxRecDepth 100000 in
set_option maxHeartbeats 4000000 in
theorem c_X8_strain (l : Launch) (K : WK) (σ : SG) {b : Nat} (hb : b = 3 ∨ b = 17) {D : SG} (hS : sD σ b D) (hF : okF D) (hH : okH D) {h x : Int} (h0 : 0 ≤ h) (h1 : h < D 9 1) (hx : 0 ≤ x ∧ x ≤ 2000000000) : MI l yX8_strain cX8_strain 3 (some .int) 4 88 K σ [.ref (K.2.2 b), .int (iI h), .int (iI x)] (fun z τ => σ = τ ∧ z = cst D h x) := by
  refine met_of [(0, .ref (K.2.2 b)), (1, .int (iI h)), (2, .int (iI x))] (by decide +kernel) (Nat.le_of_ble_eq_true rfl) rfl ?_
  intro pP eE sS mM bW mT cC B hrt hlk
  replace B : CB pP sS mM [.ref (K.2.2 b), .int (iI h), .int (iI x)].toArray cC cX8_strain RX8 3 K := B
  obtain ⟨hF0, hF1⟩ := id hF
  obtain ⟨hH0, hH1⟩ := id hH
  have hh9 := hH1 h h0 h1
  refine g_aload_n (pc' := 1) B 0 rfl rfl dX8_strain_0 rfl ?_
  refine g_iload_n (pc' := 2) B 1 rfl rfl dX8_strain_1 rfl ?_
  refine g_callVI (pc' := 5) (As := [.int (iI h)]) B (c_X8_hasHouse l K _ (b := b) (D := D) (h := h) hb hS hF hH (by omega)) vt_X8_hasHouse tw_498 (ly_S hb) rfl ⟨by decide, by decide⟩ rfl (Nat.le_of_ble_eq_true rfl) ⟨Nat.zero_le _, Nat.zero_le _⟩ rfl dX8_strain_2 rfl (fun z2 τ2 h2 => ?_)
  obtain ⟨rfl, h2⟩ := h2
  rcases h2 with ⟨h2, rfl⟩ | ⟨h2, rfl⟩
  · refine g_if_eq (pc' := 8) B 28 (by omega) dX8_strain_5 (by decide) rfl (fun q => absurd q (by decide)) (fun _ => ?_)
    refine g_aload_n (pc' := 9) B 0 rfl rfl dX8_strain_8 rfl ?_
    refine g_getR (pc' := 12) B (b + 1) fl_X8_12 (ly_S hb) rfl dX8_strain_9 rfl ?_
    refine g_aload_n (pc' := 13) B 0 rfl rfl dX8_strain_12 rfl ?_
    refine g_getR (pc' := 16) B (b + 12) fl_X8_25 (ly_S hb) rfl dX8_strain_13 rfl ?_
    refine g_iload_n (pc' := 17) B 1 rfl rfl dX8_strain_16 rfl ?_
    refine g_iald (pc' := 18) B (D 4 h) (hS.2.2.2 _ (by omega) (by omega)) (ly_Sa2 hb) (by omega) (by decide) dX8_strain_17 rfl ?_
    refine g_iload_n (pc' := 19) B 2 rfl rfl dX8_strain_18 rfl ?_
    refine g_callVI (pc' := 22) (As := [.int (iI (D 4 h)), .int (iI x)]) B (c_X2_leanAt l K _ (g := b + 1) (D := D) (f := D 4 h) (x := x) (by omega) hS.1 hF (by omega) (by omega) (by omega)) vt_X2_leanAt tw_502 (ly_G (by omega)) rfl ⟨by decide, by decide⟩ rfl (Nat.le_of_ble_eq_true rfl) ⟨Nat.zero_le _, Nat.zero_le _⟩ rfl dX8_strain_19 rfl (fun z19 τ19 h19 => ?_)
    obtain ⟨rfl, rfl⟩ := h19
    have hb9 := lean_bd (f := D 4 h) x hF (by omega)
    refine g_mabs (pc' := 25) B (by omega) tw_525 (by decide) (Nat.le_of_ble_eq_true rfl) (Nat.zero_le _) (Nat.zero_le _) dX8_strain_22 rfl ?_
    refine g_goto (pc' := 29) B dX8_strain_25 (by decide) ?_
    exact g_iret (z := ((lean D (D 4 h) x).natAbs : Int)) B hrt rfl hlk dX8_strain_29 ⟨rfl, rfl⟩
  · exfalso; omega
set_option maxRecDepth 100000 in
set_option maxHeartbeats 4000000 in
theorem c_X8_strainRound (l : Launch) (K : WK) (σ : SG) {b : Nat} (hb : b = 3 ∨ b = 17) {D : SG} (hS : sD σ b D) (hF : okF D) (hH : okH D) {h : Int} (h0 : 0 ≤ h) (h1 : h < D 9 1) : MI l yX8_strainRound cX8_strainRound 2 (some .int) 2 43 K σ [.ref (K.2.2 b), .int (iI h)] (fun z τ => σ = τ ∧ z = srd D h) := by
  refine met_of [(0, .ref (K.2.2 b)), (1, .int (iI h))] (by decide +kernel) (Nat.le_of_ble_eq_true rfl) rfl ?_
  intro pP eE sS mM bW mT cC B hrt hlk
  replace B : CB pP sS mM [.ref (K.2.2 b), .int (iI h)].toArray cC cX8_strainRound RX8 2 K := B
  obtain ⟨hF0, hF1⟩ := id hF
  obtain ⟨hH0, hH1⟩ := id hH
  have hh9 := hH1 h h0 h1
  refine g_aload_n (pc' := 1) B 0 rfl rfl dX8_strainRound_0 rfl ?_
  refine g_iload_n (pc' := 2) B 1 rfl rfl dX8_strainRound_1 rfl ?_
  refine g_callVI (pc' := 5) (As := [.int (iI h)]) B (c_X8_hasHouse l K _ (b := b) (D := D) (h := h) hb hS hF hH (by omega)) vt_X8_hasHouse tw_498 (ly_S hb) rfl ⟨by decide, by decide⟩ rfl (Nat.le_of_ble_eq_true rfl) ⟨Nat.zero_le _, Nat.zero_le _⟩ rfl dX8_strainRound_2 rfl (fun z2 τ2 h2 => ?_)
  obtain ⟨rfl, h2⟩ := h2
  rcases h2 with ⟨h2, rfl⟩ | ⟨h2, rfl⟩
  · refine g_if_eq (pc' := 8) B 24 (by omega) dX8_strainRound_5 (by decide) rfl (fun q => absurd q (by decide)) (fun _ => ?_)
    refine g_aload_n (pc' := 9) B 0 rfl rfl dX8_strainRound_8 rfl ?_
    refine g_getR (pc' := 12) B (b + 1) fl_X8_12 (ly_S hb) rfl dX8_strainRound_9 rfl ?_
    refine g_aload_n (pc' := 13) B 0 rfl rfl dX8_strainRound_12 rfl ?_
    refine g_getR (pc' := 16) B (b + 12) fl_X8_25 (ly_S hb) rfl dX8_strainRound_13 rfl ?_
    refine g_iload_n (pc' := 17) B 1 rfl rfl dX8_strainRound_16 rfl ?_
    refine g_iald (pc' := 18) B (D 4 h) (hS.2.2.2 _ (by omega) (by omega)) (ly_Sa2 hb) (by omega) (by decide) dX8_strainRound_17 rfl ?_
    refine g_callVI (pc' := 21) (As := [.int (iI (D 4 h))]) B (c_X2_leanRound l K _ (g := b + 1) (D := D) (f := D 4 h) (by omega) hS.1 hF (by omega) (by omega)) vt_X2_leanRound tw_554 (ly_G (by omega)) rfl ⟨by decide, by decide⟩ rfl (Nat.le_of_ble_eq_true rfl) ⟨Nat.zero_le _, Nat.zero_le _⟩ rfl dX8_strainRound_18 rfl (fun z18 τ18 h18 => ?_)
    obtain ⟨rfl, rfl⟩ := h18
    refine g_goto (pc' := 25) B dX8_strainRound_21 (by decide) ?_
    exact g_iret (z := lc (D 1 (D 4 h)) (D 1 ((D 4 h) + 1))) B hrt rfl hlk dX8_strainRound_25 ⟨rfl, rfl⟩
  · exfalso; omega
set_option maxRecDepth 100000 in
set_option maxHeartbeats 4000000 in
theorem c_X8_crackedSet (l : Launch) (K : WK) (σ : SG) {b : Nat} (hb : b = 3 ∨ b = 17) {D : SG} (hS : sD σ b D) (hF : okF D) (hH : okH D) {sl : Int → Int} (hsl : ∀ h : Int, 0 ≤ h → h < D 9 1 → σ (b + 13) h = sl h ∧ 0 ≤ sl h ∧ sl h ≤ 999) {x : Int} (hx : 0 ≤ x ∧ x ≤ 2000000000) : MI l yX8_crackedSet cX8_crackedSet 4 (some .int) 5 110 K σ [.ref (K.2.2 b), .int (iI x)] (fun z τ => σ = τ ∧ z = cset D sl x (D 9 1).toNat) := by
  refine met_of [(0, .ref (K.2.2 b)), (1, .int (iI x))] (by decide +kernel) (Nat.le_of_ble_eq_true rfl) rfl ?_
  intro pP eE sS mM bW mT cC B hrt hlk
  replace B : CB pP sS mM [.ref (K.2.2 b), .int (iI x)].toArray cC cX8_crackedSet RX8 4 K := B
  obtain ⟨hF0, hF1⟩ := id hF
  obtain ⟨hH0, hH1⟩ := id hH
  refine g_iconst (pc' := 1) B dX8_crackedSet_0 rfl ?_
  refine g_istore_n (pc' := 2) B [(2, .int (iI 0)), (0, .ref (K.2.2 b)), (1, .int (iI x))] dX8_crackedSet_1 rfl rfl (by decide) rfl ?_
  refine g_iconst (pc' := 3) B dX8_crackedSet_2 rfl ?_
  refine g_istore_n (pc' := 4) B [(3, .int (iI 0)), (2, .int (iI 0)), (0, .ref (K.2.2 b)), (1, .int (iI x))] dX8_crackedSet_3 rfl rfl (by decide) rfl ?_
  have L4 : ∀ (nn : Nat) (u h : Int) , (D 9 1 - h).toNat = nn → (0 ≤ h ∧ h ≤ D 9 1) → (u = cset D sl x h.toNat) → G pP l eE (rmo 5 110) sS mM [.ref (K.2.2 b), .int (iI x)].toArray bW mT cC 0 0 (MQ bW (Qi K (fun z τ => σ = τ ∧ z = cset D sl x (D 9 1).toNat)) [.ref (K.2.2 b), .int (iI x)].toArray sS 0 0 (wA K)) K sS.heap 4 σ 4 [(3, .int (iI h)), (2, .int (iI u)), (0, .ref (K.2.2 b)), (1, .int (iI x))] [] := by
    intro nn
    induction nn using Nat.strongRecOn with
    | _ nn ih4 =>
      intro u h hn4 i1 i2
      refine g_iload_n (pc' := 5) B 0 rfl rfl dX8_crackedSet_4 rfl ?_
      refine g_aload_n (pc' := 6) B 2 rfl rfl dX8_crackedSet_5 rfl ?_
      refine g_get (pc' := 9) B (D 9 1) hS.2.2.1 fl_X8_32 (ly_S hb) rfl dX8_crackedSet_6 rfl ?_
      refine g_icmp_ge (pc' := 12) B 39 (by omega) (by omega) dX8_crackedSet_9 (by decide) rfl (fun c9 => ?_) (fun c9 => ?_)
      · refine g_iload_n (pc' := 40) B 1 rfl rfl dX8_crackedSet_39 rfl ?_
        exact g_iret (z := u) B hrt rfl hlk dX8_crackedSet_40 ⟨rfl, by rw [i2, show h = D 9 1 by omega]⟩
      · refine g_aload_n (pc' := 13) B 2 rfl rfl dX8_crackedSet_12 rfl ?_
        refine g_iload_n (pc' := 14) B 0 rfl rfl dX8_crackedSet_13 rfl ?_
        refine g_iload_n (pc' := 15) B 3 rfl rfl dX8_crackedSet_14 rfl ?_
        refine g_callVI (pc' := 18) (As := [.int (iI h), .int (iI x)]) B (c_X8_strain l K _ (b := b) (D := D) (h := h) (x := x) hb hS hF hH (by omega) (by omega) (by omega)) vt_X8_strain tw_494 (ly_S hb) rfl ⟨by decide, by decide⟩ rfl (Nat.le_of_ble_eq_true rfl) ⟨Nat.zero_le _, Nat.zero_le _⟩ rfl dX8_crackedSet_15 rfl (fun z15 τ15 h15 => ?_)
        obtain ⟨rfl, rfl⟩ := h15
        refine g_aload_n (pc' := 19) B 2 rfl rfl dX8_crackedSet_18 rfl ?_
        refine g_getR (pc' := 22) B (b + 13) fl_X8_29 (ly_S hb) rfl dX8_crackedSet_19 rfl ?_
        refine g_iload_n (pc' := 23) B 0 rfl rfl dX8_crackedSet_22 rfl ?_
        refine g_iald (pc' := 24) B (sl h) (hsl _ (by omega) (by omega)).1 (ly_Sa3 hb) (by omega) (by decide) dX8_crackedSet_23 rfl ?_
        have hc9 := cst_bd (h := h) x hF hH (by omega) (by omega)
        have hs9 := hsl h (by omega) (by omega)
        refine g_icmp_le (pc' := 27) B 33 (by omega) (by omega) dX8_crackedSet_24 (by decide) rfl (fun c24 => ?_) (fun c24 => ?_)
        · refine g_iinc (pc' := 36) B 0 [(3, .int (iI (h + 1))), (2, .int (iI u)), (0, .ref (K.2.2 b)), (1, .int (iI x))] dX8_crackedSet_33 rfl rfl (by decide) rfl ?_
          refine g_goto (pc' := 4) B dX8_crackedSet_36 (by decide) ?_
          exact ih4 _ (by omega) u (h + 1) rfl (by omega) (by rw [cset_next (by omega), i2]; first | rw [if_pos (by omega)] | (rw [if_neg (by omega)]; omega))
        · have hu := cset_bd D sl x h.toNat
          rw [← i2] at hu
          refine g_iload_n (pc' := 28) B 1 rfl rfl dX8_crackedSet_27 rfl ?_
          refine g_iconst (pc' := 29) B dX8_crackedSet_28 rfl ?_
          refine g_iload_n (pc' := 30) B 0 rfl rfl dX8_crackedSet_29 rfl ?_
          refine g_ishl (pc' := 31) B (2 ^ h.toNat) (sh1 ⟨by omega, by omega⟩) dX8_crackedSet_30 rfl ?_
          refine g_ior (pc' := 32) B (u + 2 ^ h.toNat) (or_add hu.1 hu.2) dX8_crackedSet_31 rfl ?_
          refine g_istore_n (pc' := 33) B [(2, .int (iI (u + 2 ^ h.toNat))), (3, .int (iI h)), (0, .ref (K.2.2 b)), (1, .int (iI x))] dX8_crackedSet_32 rfl rfl (by decide) rfl ?_
          refine g_iinc (pc' := 36) B 1 [(3, .int (iI (h + 1))), (2, .int (iI (u + 2 ^ h.toNat))), (0, .ref (K.2.2 b)), (1, .int (iI x))] dX8_crackedSet_33 rfl rfl (by decide) rfl ?_
          refine g_goto (pc' := 4) B dX8_crackedSet_36 (by decide) ?_
          exact ih4 _ (by omega) (u + 2 ^ h.toNat) (h + 1) rfl (by omega) (by rw [cset_next (by omega), i2]; first | rw [if_pos (by omega)] | (rw [if_neg (by omega)]; omega))
  exact L4 _ 0 0 rfl (by omega) (by rfl)
set_option maxRecDepth 100000 in
set_option maxHeartbeats 4000000 in
theorem c_X8_firstCrack (l : Launch) (K : WK) (σ : SG) {b : Nat} (hb : b = 3 ∨ b = 17) {D : SG} (hS : sD σ b D) (hF : okF D) (hH : okH D) {sl : Int → Int} (hsl : ∀ h : Int, 0 ≤ h → h < D 9 1 → σ (b + 13) h = sl h ∧ 0 ≤ sl h ∧ sl h ≤ 999) {h f : Int} (h0 : 0 ≤ h) (h1 : h < D 9 1) (hf : 0 ≤ f ∧ f ≤ 1000000000) : MI l yX8_firstCrack cX8_firstCrack 5 (some .int) 5 110 K σ [.ref (K.2.2 b), .int (iI h), .int (iI f)] (fun z τ => σ = τ ∧ isF (fun x => sl h < cst D h x) f z) := by
  refine met_of [(0, .ref (K.2.2 b)), (1, .int (iI h)), (2, .int (iI f))] (by decide +kernel) (Nat.le_of_ble_eq_true rfl) rfl ?_
  intro pP eE sS mM bW mT cC B hrt hlk
  replace B : CB pP sS mM [.ref (K.2.2 b), .int (iI h), .int (iI f)].toArray cC cX8_firstCrack RX8 5 K := B
  obtain ⟨hF0, hF1⟩ := id hF
  obtain ⟨hH0, hH1⟩ := id hH
  have hr9 := srd_bd hF hH h0 h1
  have hs9 := hsl h h0 h1
  refine g_aload_n (pc' := 1) B 0 rfl rfl dX8_firstCrack_0 rfl ?_
  refine g_iload_n (pc' := 2) B 1 rfl rfl dX8_firstCrack_1 rfl ?_
  refine g_callVI (pc' := 5) (As := [.int (iI h)]) B (c_X8_hasHouse l K _ (b := b) (D := D) (h := h) hb hS hF hH (by omega)) vt_X8_hasHouse tw_498 (ly_S hb) rfl ⟨by decide, by decide⟩ rfl (Nat.le_of_ble_eq_true rfl) ⟨Nat.zero_le _, Nat.zero_le _⟩ rfl dX8_firstCrack_2 rfl (fun z2 τ2 h2 => ?_)
  obtain ⟨rfl, h2⟩ := h2
  rcases h2 with ⟨h2, rfl⟩ | ⟨h2, rfl⟩
  · refine g_if_ne (pc' := 8) B 10 (by omega) dX8_firstCrack_5 (by decide) rfl (fun _ => ?_) (fun q => absurd q (by decide))
    refine g_iload_n (pc' := 11) B 2 rfl rfl dX8_firstCrack_10 rfl ?_
    refine g_aload_n (pc' := 12) B 0 rfl rfl dX8_firstCrack_11 rfl ?_
    refine g_iload_n (pc' := 13) B 1 rfl rfl dX8_firstCrack_12 rfl ?_
    refine g_callVI (pc' := 16) (As := [.int (iI h)]) B (c_X8_strainRound l K _ (b := b) (D := D) (h := h) hb hS hF hH (by omega) (by omega)) vt_X8_strainRound tw_550 (ly_S hb) rfl ⟨by decide, by decide⟩ rfl (Nat.le_of_ble_eq_true rfl) ⟨Nat.zero_le _, Nat.zero_le _⟩ rfl dX8_firstCrack_13 rfl (fun z13 τ13 h13 => ?_)
    obtain ⟨rfl, rfl⟩ := h13
    refine g_iadd (pc' := 17) B dX8_firstCrack_16 rfl ?_
    refine g_istore_n (pc' := 18) B [(3, .int (iI (f + (srd D h)))), (0, .ref (K.2.2 b)), (1, .int (iI h)), (2, .int (iI f))] dX8_firstCrack_17 rfl rfl (by decide) rfl ?_
    refine g_iload_n (pc' := 19) B 3 rfl rfl dX8_firstCrack_18 rfl ?_
    refine g_istore (pc' := 21) B [(4, .int (iI f)), (3, .int (iI (f + (srd D h)))), (0, .ref (K.2.2 b)), (1, .int (iI h)), (2, .int (iI f))] dX8_firstCrack_19 rfl (by decide) rfl ?_
    have L21 : ∀ (nn : Nat) (x : Int) , (f + srd D h - x).toNat = nn → (f ≤ x ∧ x ≤ f + srd D h) → (∀ y : Int, f ≤ y → y < x → ¬ sl h < cst D h y) → G pP l eE (rmo 5 110) sS mM [.ref (K.2.2 b), .int (iI h), .int (iI f)].toArray bW mT cC 0 0 (MQ bW (Qi K (fun z τ => σ = τ ∧ isF (fun x => sl h < cst D h x) f z)) [.ref (K.2.2 b), .int (iI h), .int (iI f)].toArray sS 0 0 (wA K)) K sS.heap 5 σ 21 [(4, .int (iI x)), (3, .int (iI (f + (srd D h)))), (0, .ref (K.2.2 b)), (1, .int (iI h)), (2, .int (iI f))] [] := by
      intro nn
      induction nn using Nat.strongRecOn with
      | _ nn ih21 =>
        intro x hn21 i1 i2
        refine g_iload (pc' := 23) B 0 rfl dX8_firstCrack_21 rfl ?_
        refine g_iload_n (pc' := 24) B 1 rfl rfl dX8_firstCrack_23 rfl ?_
        refine g_icmp_ge (pc' := 27) B 52 (by omega) (by omega) dX8_firstCrack_24 (by decide) rfl (fun c24 => ?_) (fun c24 => ?_)
        · refine g_iconst (pc' := 53) B dX8_firstCrack_52 rfl ?_
          exact g_iret (z := (-1)) B hrt rfl hlk dX8_firstCrack_53 ⟨rfl, Or.inr ⟨rfl, per_none (p := srd D h) hr9.1 (fun x => by rw [cst_per hF hH h0 h1]) (fun y a b => i2 y a (by omega))⟩⟩
        · refine g_aload_n (pc' := 28) B 2 rfl rfl dX8_firstCrack_27 rfl ?_
          refine g_iload_n (pc' := 29) B 3 rfl rfl dX8_firstCrack_28 rfl ?_
          refine g_iload (pc' := 31) B 0 rfl dX8_firstCrack_29 rfl ?_
          refine g_callVI (pc' := 34) (As := [.int (iI h), .int (iI x)]) B (c_X8_strain l K _ (b := b) (D := D) (h := h) (x := x) hb hS hF hH (by omega) (by omega) (by omega)) vt_X8_strain tw_494 (ly_S hb) rfl ⟨by decide, by decide⟩ rfl (Nat.le_of_ble_eq_true rfl) ⟨Nat.zero_le _, Nat.zero_le _⟩ rfl dX8_firstCrack_31 rfl (fun z31 τ31 h31 => ?_)
          obtain ⟨rfl, rfl⟩ := h31
          refine g_aload_n (pc' := 35) B 2 rfl rfl dX8_firstCrack_34 rfl ?_
          refine g_getR (pc' := 38) B (b + 13) fl_X8_29 (ly_S hb) rfl dX8_firstCrack_35 rfl ?_
          refine g_iload_n (pc' := 39) B 3 rfl rfl dX8_firstCrack_38 rfl ?_
          refine g_iald (pc' := 40) B (sl h) (hsl _ (by omega) (by omega)).1 (ly_Sa3 hb) (by omega) (by decide) dX8_firstCrack_39 rfl ?_
          have hc9 := cst_bd (h := h) x hF hH h0 h1
          refine g_icmp_le (pc' := 43) B 46 (by omega) (by omega) dX8_firstCrack_40 (by decide) rfl (fun c40 => ?_) (fun c40 => ?_)
          · refine g_iinc (pc' := 49) B 0 [(4, .int (iI (x + 1))), (3, .int (iI (f + (srd D h)))), (0, .ref (K.2.2 b)), (1, .int (iI h)), (2, .int (iI f))] dX8_firstCrack_46 rfl rfl (by decide) rfl ?_
            refine g_goto (pc' := 21) B dX8_firstCrack_49 (by decide) ?_
            exact ih21 _ (by omega) (x + 1) rfl (by omega) (by intro y a b; by_cases e9 : y = x; (subst e9; omega); exact i2 y a (by omega))
          · refine g_iload (pc' := 45) B 0 rfl dX8_firstCrack_43 rfl ?_
            exact g_iret (z := x) B hrt rfl hlk dX8_firstCrack_45 ⟨rfl, Or.inl ⟨by omega, c40, i2⟩⟩
    exact L21 _ f rfl (by omega) (by intro y a b; omega)
  · exfalso; omega
set_option maxRecDepth 100000 in
set_option maxHeartbeats 4000000 in
theorem c_X8_slackNeeded (l : Launch) (K : WK) (σ : SG) {b : Nat} (hb : b = 3 ∨ b = 17) {D : SG} (hS : sD σ b D) (hF : okF D) (hH : okH D) {h : Int} (h0 : 0 ≤ h) (h1 : h < D 9 1) (hR : okR D) : MI l yX8_slackNeeded cX8_slackNeeded 5 (some .int) 5 110 K σ [.ref (K.2.2 b), .int (iI h)] (fun z τ => σ = τ ∧ z = nd D h) := by
  refine met_of [(0, .ref (K.2.2 b)), (1, .int (iI h))] (by decide +kernel) (Nat.le_of_ble_eq_true rfl) rfl ?_
  intro pP eE sS mM bW mT cC B hrt hlk
  replace B : CB pP sS mM [.ref (K.2.2 b), .int (iI h)].toArray cC cX8_slackNeeded RX8 5 K := B
  obtain ⟨hF0, hF1⟩ := id hF
  obtain ⟨hH0, hH1⟩ := id hH
  have hr9 := srd_bd hF hH h0 h1
  refine g_iconst (pc' := 1) B dX8_slackNeeded_0 rfl ?_
  refine g_istore_n (pc' := 2) B [(2, .int (iI 0)), (0, .ref (K.2.2 b)), (1, .int (iI h))] dX8_slackNeeded_1 rfl rfl (by decide) rfl ?_
  refine g_aload_n (pc' := 3) B 1 rfl rfl dX8_slackNeeded_2 rfl ?_
  refine g_iload_n (pc' := 4) B 2 rfl rfl dX8_slackNeeded_3 rfl ?_
  refine g_callVI (pc' := 7) (As := [.int (iI h)]) B (c_X8_strainRound l K _ (b := b) (D := D) (h := h) hb hS hF hH (by omega) (by omega)) vt_X8_strainRound tw_550 (ly_S hb) rfl ⟨by decide, by decide⟩ rfl (Nat.le_of_ble_eq_true rfl) ⟨Nat.zero_le _, Nat.zero_le _⟩ rfl dX8_slackNeeded_4 rfl (fun z4 τ4 h4 => ?_)
  obtain ⟨rfl, rfl⟩ := h4
  refine g_istore_n (pc' := 8) B [(3, .int (iI (srd D h))), (2, .int (iI 0)), (0, .ref (K.2.2 b)), (1, .int (iI h))] dX8_slackNeeded_7 rfl rfl (by decide) rfl ?_
  refine g_iconst (pc' := 9) B dX8_slackNeeded_8 rfl ?_
  refine g_istore (pc' := 11) B [(4, .int (iI 0)), (3, .int (iI (srd D h))), (2, .int (iI 0)), (0, .ref (K.2.2 b)), (1, .int (iI h))] dX8_slackNeeded_9 rfl (by decide) rfl ?_
  have L11 : ∀ (nn : Nat) (u x : Int) , (srd D h - x).toNat = nn → (0 ≤ x ∧ x ≤ srd D h) → (u = mx (cst D h) x.toNat) → G pP l eE (rmo 5 110) sS mM [.ref (K.2.2 b), .int (iI h)].toArray bW mT cC 0 0 (MQ bW (Qi K (fun z τ => σ = τ ∧ z = nd D h)) [.ref (K.2.2 b), .int (iI h)].toArray sS 0 0 (wA K)) K sS.heap 5 σ 11 [(4, .int (iI x)), (3, .int (iI (srd D h))), (2, .int (iI u)), (0, .ref (K.2.2 b)), (1, .int (iI h))] [] := by
    intro nn
    induction nn using Nat.strongRecOn with
    | _ nn ih11 =>
      intro u x hn11 i1 i2
      have hm9 := mx_bd (F := cst D h) (c := 153) (by omega) (fun x => (cst_bd x hF hH h0 h1).2) x.toNat
      rw [← i2] at hm9
      refine g_iload (pc' := 13) B 0 rfl dX8_slackNeeded_11 rfl ?_
      refine g_iload_n (pc' := 14) B 1 rfl rfl dX8_slackNeeded_13 rfl ?_
      refine g_icmp_ge (pc' := 17) B 35 (by omega) (by omega) dX8_slackNeeded_14 (by decide) rfl (fun c14 => ?_) (fun c14 => ?_)
      · refine g_iload_n (pc' := 36) B 2 rfl rfl dX8_slackNeeded_35 rfl ?_
        exact g_iret (z := u) B hrt rfl hlk dX8_slackNeeded_36 ⟨rfl, by rw [i2, show x = srd D h by omega]; exact nd_by hF hR hH h0 h1⟩
      · refine g_iload_n (pc' := 18) B 2 rfl rfl dX8_slackNeeded_17 rfl ?_
        refine g_aload_n (pc' := 19) B 3 rfl rfl dX8_slackNeeded_18 rfl ?_
        refine g_iload_n (pc' := 20) B 4 rfl rfl dX8_slackNeeded_19 rfl ?_
        refine g_iload (pc' := 22) B 0 rfl dX8_slackNeeded_20 rfl ?_
        refine g_callVI (pc' := 25) (As := [.int (iI h), .int (iI x)]) B (c_X8_strain l K _ (b := b) (D := D) (h := h) (x := x) hb hS hF hH (by omega) (by omega) (by omega)) vt_X8_strain tw_494 (ly_S hb) rfl ⟨by decide, by decide⟩ rfl (Nat.le_of_ble_eq_true rfl) ⟨Nat.zero_le _, Nat.zero_le _⟩ rfl dX8_slackNeeded_22 rfl (fun z22 τ22 h22 => ?_)
        obtain ⟨rfl, rfl⟩ := h22
        have hc9 := cst_bd (h := h) x hF hH h0 h1
        refine g_mmax (pc' := 28) B (by omega) (by omega) tw_558 (by decide) (Nat.le_of_ble_eq_true rfl) (Nat.zero_le _) (Nat.zero_le _) dX8_slackNeeded_25 rfl ?_
        refine g_istore_n (pc' := 29) B [(2, .int (iI (max u (cst D h x)))), (4, .int (iI x)), (3, .int (iI (srd D h))), (0, .ref (K.2.2 b)), (1, .int (iI h))] dX8_slackNeeded_28 rfl rfl (by decide) rfl ?_
        refine g_iinc (pc' := 32) B 1 [(4, .int (iI (x + 1))), (2, .int (iI (max u (cst D h x)))), (3, .int (iI (srd D h))), (0, .ref (K.2.2 b)), (1, .int (iI h))] dX8_slackNeeded_29 rfl rfl (by decide) rfl ?_
        refine g_goto (pc' := 11) B dX8_slackNeeded_32 (by decide) ?_
        refine g_loc B [(4, .int (iI (x + 1))), (3, .int (iI (srd D h))), (2, .int (iI (max u (cst D h x)))), (0, .ref (K.2.2 b)), (1, .int (iI h))] [0, 2, 1, 3, 4] rfl ?_
        exact ih11 _ (by omega) (max u (cst D h x)) (x + 1) rfl (by omega) (by rw [mx_next (by omega), i2])
  exact L11 _ 0 0 rfl (by omega) (by rfl)
set_option maxRecDepth 100000 in
set_option maxHeartbeats 4000000 in
theorem c_X8_neediestHouse (l : Launch) (K : WK) (σ : SG) {b : Nat} (hb : b = 3 ∨ b = 17) {D : SG} (hS : sD σ b D) (hF : okF D) (hH : okH D) {sl : Int → Int} (hsl : ∀ h : Int, 0 ≤ h → h < D 9 1 → σ (b + 13) h = sl h ∧ 0 ≤ sl h ∧ sl h ≤ 999) (hR : okR D) : MI l yX8_neediestHouse cX8_neediestHouse 5 (some .int) 6 134 K σ [.ref (K.2.2 b)] (fun z τ => σ = τ ∧ z = (nhS D sl (D 9 1).toNat).1) := by
  refine met_of [(0, .ref (K.2.2 b))] (by decide +kernel) (Nat.le_of_ble_eq_true rfl) rfl ?_
  intro pP eE sS mM bW mT cC B hrt hlk
  replace B : CB pP sS mM [.ref (K.2.2 b)].toArray cC cX8_neediestHouse RX8 5 K := B
  obtain ⟨hF0, hF1⟩ := id hF
  obtain ⟨hH0, hH1⟩ := id hH
  refine g_iconst (pc' := 1) B dX8_neediestHouse_0 rfl ?_
  refine g_istore_n (pc' := 2) B [(1, .int (iI (-1))), (0, .ref (K.2.2 b))] dX8_neediestHouse_1 rfl rfl (by decide) rfl ?_
  refine g_iconst (pc' := 3) B dX8_neediestHouse_2 rfl ?_
  refine g_istore_n (pc' := 4) B [(2, .int (iI 0)), (1, .int (iI (-1))), (0, .ref (K.2.2 b))] dX8_neediestHouse_3 rfl rfl (by decide) rfl ?_
  refine g_iconst (pc' := 5) B dX8_neediestHouse_4 rfl ?_
  refine g_istore_n (pc' := 6) B [(3, .int (iI 0)), (2, .int (iI 0)), (1, .int (iI (-1))), (0, .ref (K.2.2 b))] dX8_neediestHouse_5 rfl rfl (by decide) rfl ?_
  have L6 : ∀ (nn : Nat) (u v h : Int) , (D 9 1 - h).toNat = nn → (0 ≤ h ∧ h ≤ D 9 1) → (nhS D sl h.toNat = (u, v)) → G pP l eE (rmo 6 134) sS mM [.ref (K.2.2 b)].toArray bW mT cC 0 0 (MQ bW (Qi K (fun z τ => σ = τ ∧ z = (nhS D sl (D 9 1).toNat).1)) [.ref (K.2.2 b)].toArray sS 0 0 (wA K)) K sS.heap 5 σ 6 [(3, .int (iI h)), (2, .int (iI v)), (1, .int (iI u)), (0, .ref (K.2.2 b))] [] := by
    intro nn
    induction nn using Nat.strongRecOn with
    | _ nn ih6 =>
      intro u v h hn6 i1 i2
      have ib := nhS_bd (sl := sl) hF hH (fun y a b => (hsl y a b).2) h.toNat (by omega)
      rw [i2] at ib
      simp only [] at ib
      refine g_iload_n (pc' := 7) B 0 rfl rfl dX8_neediestHouse_6 rfl ?_
      refine g_aload_n (pc' := 8) B 3 rfl rfl dX8_neediestHouse_7 rfl ?_
      refine g_get (pc' := 11) B (D 9 1) hS.2.2.1 fl_X8_32 (ly_S hb) rfl dX8_neediestHouse_8 rfl ?_
      refine g_icmp_ge (pc' := 14) B 45 (by omega) (by omega) dX8_neediestHouse_11 (by decide) rfl (fun c11 => ?_) (fun c11 => ?_)
      · refine g_iload_n (pc' := 46) B 2 rfl rfl dX8_neediestHouse_45 rfl ?_
        exact g_iret (z := u) B hrt rfl hlk dX8_neediestHouse_46 ⟨rfl, by rw [show h = D 9 1 by omega] at i2; rw [i2]⟩
      · refine g_aload_n (pc' := 15) B 3 rfl rfl dX8_neediestHouse_14 rfl ?_
        refine g_iload_n (pc' := 16) B 0 rfl rfl dX8_neediestHouse_15 rfl ?_
        refine g_callVI (pc' := 19) (As := [.int (iI h)]) B (c_X8_slackNeeded l K _ (b := b) (D := D) (h := h) hb hS hF hH (by omega) (by omega) hR) vt_X8_slackNeeded tw_657 (ly_S hb) rfl ⟨by decide, by decide⟩ rfl (Nat.le_of_ble_eq_true rfl) ⟨Nat.zero_le _, Nat.zero_le _⟩ rfl dX8_neediestHouse_16 rfl (fun z16 τ16 h16 => ?_)
        obtain ⟨rfl, rfl⟩ := h16
        have hn9 := nd_bd (h := h) hF hH (by omega) (by omega)
        have hs9 := hsl h (by omega) (by omega)
        refine g_aload_n (pc' := 20) B 3 rfl rfl dX8_neediestHouse_19 rfl ?_
        refine g_getR (pc' := 23) B (b + 13) fl_X8_29 (ly_S hb) rfl dX8_neediestHouse_20 rfl ?_
        refine g_iload_n (pc' := 24) B 0 rfl rfl dX8_neediestHouse_23 rfl ?_
        refine g_iald (pc' := 25) B (sl h) (hsl _ (by omega) (by omega)).1 (ly_Sa3 hb) (by omega) (by decide) dX8_neediestHouse_24 rfl ?_
        refine g_isub (pc' := 26) B dX8_neediestHouse_25 rfl ?_
        refine g_istore (pc' := 28) B [(4, .int (iI ((nd D h) - (sl h)))), (3, .int (iI h)), (2, .int (iI v)), (1, .int (iI u)), (0, .ref (K.2.2 b))] dX8_neediestHouse_26 rfl (by decide) rfl ?_
        refine g_iload (pc' := 30) B 0 rfl dX8_neediestHouse_28 rfl ?_
        refine g_iload_n (pc' := 31) B 2 rfl rfl dX8_neediestHouse_30 rfl ?_
        refine g_icmp_le (pc' := 34) B 39 (by omega) (by omega) dX8_neediestHouse_31 (by decide) rfl (fun c31 => ?_) (fun c31 => ?_)
        · refine g_iinc (pc' := 42) B 1 [(3, .int (iI (h + 1))), (4, .int (iI ((nd D h) - (sl h)))), (2, .int (iI v)), (1, .int (iI u)), (0, .ref (K.2.2 b))] dX8_neediestHouse_39 rfl rfl (by decide) rfl ?_
          refine g_goto (pc' := 6) B dX8_neediestHouse_42 (by decide) ?_
          refine g_loc B [(3, .int (iI (h + 1))), (2, .int (iI v)), (1, .int (iI u)), (0, .ref (K.2.2 b))] [0, 2, 3, 4] rfl ?_
          exact ih6 _ (by omega) u v (h + 1) rfl (by omega) (by rw [nhS_next (by omega), i2]; first | rw [if_pos (by show v < _; omega)] | rw [if_neg (by show ¬ v < _; omega)])
        · refine g_iload (pc' := 36) B 0 rfl dX8_neediestHouse_34 rfl ?_
          refine g_istore_n (pc' := 37) B [(2, .int (iI ((nd D h) - (sl h)))), (4, .int (iI ((nd D h) - (sl h)))), (3, .int (iI h)), (1, .int (iI u)), (0, .ref (K.2.2 b))] dX8_neediestHouse_36 rfl rfl (by decide) rfl ?_
          refine g_iload_n (pc' := 38) B 2 rfl rfl dX8_neediestHouse_37 rfl ?_
          refine g_istore_n (pc' := 39) B [(1, .int (iI h)), (2, .int (iI ((nd D h) - (sl h)))), (4, .int (iI ((nd D h) - (sl h)))), (3, .int (iI h)), (0, .ref (K.2.2 b))] dX8_neediestHouse_38 rfl rfl (by decide) rfl ?_
          refine g_iinc (pc' := 42) B 3 [(3, .int (iI (h + 1))), (1, .int (iI h)), (2, .int (iI ((nd D h) - (sl h)))), (4, .int (iI ((nd D h) - (sl h)))), (0, .ref (K.2.2 b))] dX8_neediestHouse_39 rfl rfl (by decide) rfl ?_
          refine g_goto (pc' := 6) B dX8_neediestHouse_42 (by decide) ?_
          refine g_loc B [(3, .int (iI (h + 1))), (2, .int (iI ((nd D h) - (sl h)))), (1, .int (iI h)), (0, .ref (K.2.2 b))] [0, 2, 1, 4] rfl ?_
          exact ih6 _ (by omega) h ((nd D h) - (sl h)) (h + 1) rfl (by omega) (by rw [nhS_next (by omega), i2]; first | rw [if_pos (by show v < _; omega)] | rw [if_neg (by show ¬ v < _; omega)])
  exact L6 _ (-1) 0 0 rfl (by omega) (by rfl)
