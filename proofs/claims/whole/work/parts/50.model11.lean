def ob (u d : Int) : Int := ((u.toNat ||| 2 ^ d.toNat : Nat) : Int)
theorem or_ob {u d : Int} (h : 0 ≤ u) : iI u ||| iI (2 ^ d.toNat) = iI (ob u d) := by
  obtain ⟨n, rfl⟩ : ∃ n : Nat, u = n := ⟨u.toNat, by omega⟩
  have e1 : ((2 : Int) ^ d.toNat) = ((2 ^ d.toNat : Nat) : Int) := by simp
  rw [e1, iI_nI, iI_nI, nI_or]
  unfold ob
  rw [iI_nI, Int.toNat_natCast]
theorem bt_nat (n : Nat) (y : Int) : bt (n : Int) y = 1 ↔ n.testBit y.toNat = true := by
  unfold bt
  rw [Nat.testBit_eq_decide_div_mod_eq, decide_eq_true_iff]
  have e1 : ((2 : Int) ^ y.toNat) = ((2 ^ y.toNat : Nat) : Int) := by simp
  rw [e1]
  omega
theorem bt_ob {u d y : Int} (hu : 0 ≤ u) (hd : 0 ≤ d) (hy : 0 ≤ y) : bt (ob u d) y = 1 ↔ bt u y = 1 ∨ y = d := by
  obtain ⟨n, rfl⟩ : ∃ n : Nat, u = n := ⟨u.toNat, by omega⟩
  unfold ob
  rw [bt_nat, bt_nat, Nat.testBit_or, Nat.testBit_two_pow, Int.toNat_natCast]
  simp only [Bool.or_eq_true, decide_eq_true_eq]
  have : d.toNat = y.toNat ↔ y = d := by omega
  rw [this]
theorem bt_pow {f y : Int} (hf : 0 ≤ f) (hy : 0 ≤ y) : bt (2 ^ f.toNat) y = 1 ↔ y = f := by
  have e1 : ((2 : Int) ^ f.toNat) = ((2 ^ f.toNat : Nat) : Int) := by simp
  rw [e1, bt_nat, Nat.testBit_two_pow]
  simp only [decide_eq_true_eq]
  omega
theorem ob_bd {u d : Int} (hu : 0 ≤ u ∧ u < 256) (hd : 0 ≤ d ∧ d < 8) : 0 ≤ ob u d ∧ ob u d < 256 := by
  have h1 : u.toNat < 2 ^ 8 := by omega
  have h2 : 2 ^ d.toNat < 2 ^ 8 := Nat.pow_lt_pow_right (by omega) (by omega)
  have h3 := Nat.or_lt_two_pow h1 h2
  unfold ob
  omega
/-- how far west, how far east a barrel may come -/
noncomputable def rlo (D : SG) (S f : Int) : Nat → Int
  | 0 => f
  | n + 1 => cif (lets D (rlo D S f n - 1) (S + ((n : Int) + 1))) (rlo D S f n - 1) (rlo D S f n)
noncomputable def rhi (D : SG) (S f : Int) : Nat → Int
  | 0 => f
  | n + 1 => cif (lets D (rhi D S f n) (S + ((n : Int) + 1))) (rhi D S f n + 1) (rhi D S f n)
theorem cif_c (p : Prop) (x y : Int) : (p ∧ cif p x y = x) ∨ (¬ p ∧ cif p x y = y) := by
  by_cases h : p
  · exact Or.inl ⟨h, cif_pos h⟩
  · exact Or.inr ⟨h, cif_neg h⟩
theorem rlo_bd (D : SG) (S f : Int) : ∀ n : Nat, rlo D S f n ≤ f ∧ f ≤ rhi D S f n
  | 0 => ⟨Int.le_refl _, Int.le_refl _⟩
  | n + 1 => by
    have ih := rlo_bd D S f n
    show cif _ _ _ ≤ f ∧ f ≤ cif _ _ _
    rcases cif_c (lets D (rlo D S f n - 1) (S + ((n : Int) + 1))) (rlo D S f n - 1) (rlo D S f n) with ⟨-, q⟩ | ⟨-, q⟩ <;> rw [q] <;>
    rcases cif_c (lets D (rhi D S f n) (S + ((n : Int) + 1))) (rhi D S f n + 1) (rhi D S f n) with ⟨-, q2⟩ | ⟨-, q2⟩ <;> rw [q2] <;> omega
theorem ps_lh (D : SG) (S f g : Int) : ∀ n : Nat, ps D S f g n = if f ≤ g then min g (rhi D S f n) else max g (rlo D S f n)
  | 0 => by show f = (if f ≤ g then min g f else max g f); split <;> omega
  | n + 1 => by
    have ih := ps_lh D S f g n
    have hb := rlo_bd D S f n
    show (if ps D S f g n = g then ps D S f g n else cif (lets D (min (ps D S f g n) (if ps D S f g n < g then ps D S f g n + 1 else ps D S f g n - 1)) (S + ((n : Int) + 1))) (if ps D S f g n < g then ps D S f g n + 1 else ps D S f g n - 1) (ps D S f g n)) = (if f ≤ g then min g (cif (lets D (rhi D S f n) (S + ((n : Int) + 1))) (rhi D S f n + 1) (rhi D S f n)) else max g (cif (lets D (rlo D S f n - 1) (S + ((n : Int) + 1))) (rlo D S f n - 1) (rlo D S f n)))
    by_cases hfg : f ≤ g
    · rw [if_pos hfg] at ih ⊢
      by_cases e : ps D S f g n = g
      · rw [if_pos e]
        rcases cif_c (lets D (rhi D S f n) (S + ((n : Int) + 1))) (rhi D S f n + 1) (rhi D S f n) with ⟨-, q2⟩ | ⟨-, q2⟩ <;> rw [q2] <;> omega
      · rw [if_neg e]
        have e2 : ps D S f g n = rhi D S f n := by omega
        rw [e2, if_pos (by omega), Int.min_eq_left (by omega)]
        rcases cif_c (lets D (rhi D S f n) (S + ((n : Int) + 1))) (rhi D S f n + 1) (rhi D S f n) with ⟨-, q2⟩ | ⟨-, q2⟩ <;> rw [q2] <;> omega
    · rw [if_neg hfg] at ih ⊢
      by_cases e : ps D S f g n = g
      · rw [if_pos e]
        rcases cif_c (lets D (rlo D S f n - 1) (S + ((n : Int) + 1))) (rlo D S f n - 1) (rlo D S f n) with ⟨-, q2⟩ | ⟨-, q2⟩ <;> rw [q2] <;> omega
      · rw [if_neg e]
        have e2 : ps D S f g n = rlo D S f n := by omega
        rw [e2, if_neg (by omega), Int.min_eq_right (by omega)]
        rcases cif_c (lets D (rlo D S f n - 1) (S + ((n : Int) + 1))) (rlo D S f n - 1) (rlo D S f n) with ⟨-, q2⟩ | ⟨-, q2⟩ <;> rw [q2] <;> omega
theorem ps_iff (D : SG) (S f g : Int) (n : Nat) : ps D S f g n = g ↔ rlo D S f n ≤ g ∧ g ≤ rhi D S f n := by
  have hb := rlo_bd D S f n
  rw [ps_lh]
  split <;> omega
/-- what is reached from the set u by the ways before (x, w) -/
def sy (D : SG) (t u x w y : Int) : Prop := ∃ z v : Int, 0 ≤ z ∧ (z < x ∨ (z = x ∧ v < w)) ∧ bt u z = 1 ∧ (v = 1 ∨ v = 2) ∧ can D z t v ∧ bes z v = y
theorem sy_0 {D : SG} {t u y : Int} : ¬ sy D t u 0 1 y := by
  rintro ⟨z, v, h0, h1, h2, h3, h4⟩
  omega
theorem sy_next {D : SG} {t u x w y : Int} (hx : 0 ≤ x) (hw : w = 1 ∨ w = 2) (hb : bt u x = 1) : sy D t u x (w + 1) y ↔ sy D t u x w y ∨ (can D x t w ∧ bes x w = y) := by
  constructor
  · rintro ⟨z, v, h0, h1, h2, h3, h4, h5⟩
    by_cases e : z = x ∧ v = w
    · obtain ⟨e1, e2⟩ := e
      subst e1; subst e2
      exact Or.inr ⟨h4, h5⟩
    · exact Or.inl ⟨z, v, h0, by omega, h2, h3, h4, h5⟩
  · rintro (⟨z, v, h0, h1, h2, h3, h4, h5⟩ | ⟨h4, h5⟩)
    · exact ⟨z, v, h0, by omega, h2, h3, h4, h5⟩
    · exact ⟨x, w, hx, by omega, hb, hw, h4, h5⟩
theorem sy_end {D : SG} {t u x w y : Int} (h : 3 ≤ w ∨ ¬ bt u x = 1) (hw : 1 ≤ w) : sy D t u x w y ↔ sy D t u (x + 1) 1 y := by
  constructor
  · rintro ⟨z, v, h0, h1, h2, h3, h4⟩
    exact ⟨z, v, h0, by omega, h2, h3, h4⟩
  · rintro ⟨z, v, h0, h1, h2, h3, h4⟩
    refine ⟨z, v, h0, ?_, h2, h3, h4⟩
    rcases h with h | h
    · omega
    · have : z ≠ x := fun e => h (e ▸ h2)
      omega
theorem bes1 (z : Int) : bes z 1 = z - 1 := by simp [bes]
theorem bes2 (z : Int) : bes z 2 = z + 1 := by simp [bes]
theorem rn_next {D : SG} {S f u y : Int} {n : Nat} (hf : 0 ≤ f ∧ f < D 9 0) (hu : ∀ y : Int, 0 ≤ y → y < D 9 0 → (bt u y = 1 ↔ rlo D S f n ≤ y ∧ y ≤ rhi D S f n)) (hy : 0 ≤ y ∧ y < D 9 0) :
    (bt u y = 1 ∨ sy D (S + ((n : Int) + 1)) u (D 9 0) 1 y) ↔ rlo D S f (n + 1) ≤ y ∧ y ≤ rhi D S f (n + 1) := by
  have hb := rlo_bd D S f n
  have e1 : rlo D S f (n + 1) = cif (lets D (rlo D S f n - 1) (S + ((n : Int) + 1))) (rlo D S f n - 1) (rlo D S f n) := rfl
  have e2 : rhi D S f (n + 1) = cif (lets D (rhi D S f n) (S + ((n : Int) + 1))) (rhi D S f n + 1) (rhi D S f n) := rfl
  have c1 := cif_c (lets D (rlo D S f n - 1) (S + ((n : Int) + 1))) (rlo D S f n - 1) (rlo D S f n)
  have c2 := cif_c (lets D (rhi D S f n) (S + ((n : Int) + 1))) (rhi D S f n + 1) (rhi D S f n)
  rw [← e1] at c1
  rw [← e2] at c2
  constructor
  · rintro (q | ⟨z, v, h0, h1, h2, h3, h4, h5⟩)
    · have := (hu y hy.1 hy.2).mp q
      rcases c1 with ⟨-, q1⟩ | ⟨-, q1⟩ <;> rcases c2 with ⟨-, q2⟩ | ⟨-, q2⟩ <;> omega
    · have hz := (hu z h0 (by omega)).mp h2
      have h6 := h4.2.2
      rw [h5] at h6
      rcases h3 with h3 | h3
      · subst h3
        rw [bes1] at h5
        have h7 : lets D y (S + ((n : Int) + 1)) := by
          rcases h6 with h6 | h6
          · omega
          · rw [Int.min_eq_right (by omega)] at h6; exact h6
        rcases c1 with ⟨p1, q1⟩ | ⟨p1, q1⟩
        · rcases c2 with ⟨-, q2⟩ | ⟨-, q2⟩ <;> omega
        · have : y ≠ rlo D S f n - 1 := fun e => p1 (e ▸ h7)
          rcases c2 with ⟨-, q2⟩ | ⟨-, q2⟩ <;> omega
      · subst h3
        rw [bes2] at h5
        have h7 : lets D z (S + ((n : Int) + 1)) := by
          rcases h6 with h6 | h6
          · omega
          · rw [Int.min_eq_left (by omega)] at h6; exact h6
        rcases c2 with ⟨p2, q2⟩ | ⟨p2, q2⟩
        · rcases c1 with ⟨-, q1⟩ | ⟨-, q1⟩ <;> omega
        · have : z ≠ rhi D S f n := fun e => p2 (e ▸ h7)
          rcases c1 with ⟨-, q1⟩ | ⟨-, q1⟩ <;> omega
  · rintro ⟨q1, q2⟩
    by_cases k1 : y < rlo D S f n
    · right
      rcases c1 with ⟨p1, q3⟩ | ⟨p1, q3⟩
      · refine ⟨rlo D S f n, 1, by omega, by omega, (hu _ (by omega) (by omega)).mpr (by omega), Or.inl rfl, ⟨by omega, by rw [bes1]; omega, Or.inr ?_⟩, by rw [bes1]; omega⟩
        rw [bes1, Int.min_eq_right (by omega)]; exact p1
      · omega
    · by_cases k2 : rhi D S f n < y
      · right
        rcases c2 with ⟨p1, q3⟩ | ⟨p1, q3⟩
        · refine ⟨rhi D S f n, 2, by omega, by omega, (hu _ (by omega) (by omega)).mpr (by omega), Or.inr rfl, ⟨by omega, by rw [bes2]; omega, Or.inr ?_⟩, by rw [bes2]; omega⟩
          rw [bes2, Int.min_eq_left (by omega)]; exact p1
        · omega
      · left
        exact (hu y hy.1 hy.2).mpr (by omega)
theorem rn_next' {D : SG} {S f u y n : Int} (hn : 0 ≤ n) (hf : 0 ≤ f ∧ f < D 9 0) (hu : ∀ y : Int, 0 ≤ y → y < D 9 0 → (bt u y = 1 ↔ rlo D S f n.toNat ≤ y ∧ y ≤ rhi D S f n.toNat)) (hy : 0 ≤ y ∧ y < D 9 0) :
    (bt u y = 1 ∨ sy D (S + n + 1) u (D 9 0) 1 y) ↔ rlo D S f (n + 1).toNat ≤ y ∧ y ≤ rhi D S f (n + 1).toNat := by
  have q := rn_next hf hu hy
  rw [show S + (((n.toNat : Nat) : Int) + 1) = S + n + 1 by omega] at q
  rw [show (n + 1).toNat = n.toNat + 1 by omega]
  exact q
theorem pow7 {k : Nat} (h : k ≤ 7) : (2 : Int) ^ k ≤ 128 := by
  have q : ∀ n : Fin 8, (2 : Int) ^ n.val ≤ 128 := by decide
  exact q ⟨k, by omega⟩
set_option maxRecDepth 100000 in
set_option maxHeartbeats 4000000 in
theorem c_X12_soonest (l : Launch) (K : WK) (σ : SG) {D : SG} (hM : mD σ D) (hF : okF D) (hR : okR D) (hO : okQ D) (hH : okH D) {S X L P : Int} (hn0 : σ 58 0 = S ∧ σ 58 1 = X ∧ σ 58 2 = L ∧ σ 58 3 = P) (hSX : 0 ≤ X ∧ X ≤ S ∧ S ≤ 70000) {f g : Int} (hf : -2147483648 ≤ f ∧ f < 2147483648) (hg : -2147483648 ≤ g ∧ g < 2147483648) : MI l yX12_soonest cX12_soonest 9 (some .int) 3 73 K σ [.ref (K.2.2 57), .int (iI f), .int (iI g)] (fun z τ => σ = τ ∧ aSoonest D S f g z) := by
  refine met_of [(0, .ref (K.2.2 57)), (1, .int (iI f)), (2, .int (iI g))] (by decide +kernel) (Nat.le_of_ble_eq_true rfl) rfl ?_
  intro pP eE sS mM bW mT cC B hrt hlk
  replace B : CB pP sS mM [.ref (K.2.2 57), .int (iI f), .int (iI g)].toArray cC cX12_soonest RX12 9 K := B
  obtain ⟨hF0, hF1⟩ := id hF
  obtain ⟨hO0, hO1⟩ := id hO
  obtain ⟨hH0, hH1⟩ := id hH
  obtain ⟨hR0, hR1⟩ := id hR
  refine g_aload_n (pc' := 1) B 0 rfl rfl dX12_soonest_0 rfl ?_
  refine g_iload_n (pc' := 2) B 1 rfl rfl dX12_soonest_1 rfl ?_
  refine g_callVI (pc' := 5) (As := [.int (iI f)]) B (c_X12_isField l K _ (D := D) (f := f) hM hF hR hO hH (by omega)) vt_X12_isField tw_1129 rfl rfl ⟨by decide, by decide⟩ rfl (Nat.le_of_ble_eq_true rfl) ⟨Nat.zero_le _, Nat.zero_le _⟩ rfl dX12_soonest_2 rfl (fun z2 τ2 h2 => ?_)
  obtain ⟨rfl, h2⟩ := h2
  rcases h2 with ⟨h2, rfl⟩ | ⟨h2, rfl⟩
  · refine g_if_eq (pc' := 8) B 16 (by omega) dX12_soonest_5 (by decide) rfl (fun q => absurd q (by decide)) (fun _ => ?_)
    refine g_aload_n (pc' := 9) B 0 rfl rfl dX12_soonest_8 rfl ?_
    refine g_iload_n (pc' := 10) B 2 rfl rfl dX12_soonest_9 rfl ?_
    refine g_callVI (pc' := 13) (As := [.int (iI g)]) B (c_X12_isField l K _ (D := D) (f := g) hM hF hR hO hH (by omega)) vt_X12_isField tw_1129 rfl rfl ⟨by decide, by decide⟩ rfl (Nat.le_of_ble_eq_true rfl) ⟨Nat.zero_le _, Nat.zero_le _⟩ rfl dX12_soonest_10 rfl (fun z10 τ10 h10 => ?_)
    obtain ⟨rfl, h10⟩ := h10
    rcases h10 with ⟨h10, rfl⟩ | ⟨h10, rfl⟩
    · refine g_if_ne (pc' := 16) B 19 (by omega) dX12_soonest_13 (by decide) rfl (fun _ => ?_) (fun q => absurd q (by decide))
      refine g_iconst (pc' := 20) B dX12_soonest_19 rfl ?_
      refine g_iload_n (pc' := 21) B 1 rfl rfl dX12_soonest_20 rfl ?_
      refine g_ishl (pc' := 22) B (2 ^ f.toNat) (sh1 ⟨by omega, by omega⟩) dX12_soonest_21 rfl ?_
      refine g_istore_n (pc' := 23) B [(3, .int (iI (2 ^ f.toNat))), (0, .ref (K.2.2 57)), (1, .int (iI f)), (2, .int (iI g))] dX12_soonest_22 rfl rfl (by decide) rfl ?_
      refine g_iconst (pc' := 24) B dX12_soonest_23 rfl ?_
      refine g_istore (pc' := 26) B [(4, .int (iI 0)), (3, .int (iI (2 ^ f.toNat))), (0, .ref (K.2.2 57)), (1, .int (iI f)), (2, .int (iI g))] dX12_soonest_24 rfl (by decide) rfl ?_
      have L26 : ∀ (nn : Nat) (u n : Int) , (201 - n).toNat = nn → (0 ≤ n ∧ n ≤ 201) → (0 ≤ u ∧ u < 256) → (∀ y : Int, 0 ≤ y → y < D 9 0 → (bt u y = 1 ↔ rlo D S f n.toNat ≤ y ∧ y ≤ rhi D S f n.toNat)) → (∀ k : Int, 0 ≤ k → k < n → ¬ ps D S f g k.toNat = g) → G pP l eE (rmo 3 73) sS mM [.ref (K.2.2 57), .int (iI f), .int (iI g)].toArray bW mT cC 0 0 (MQ bW (Qi K (fun z τ => σ = τ ∧ aSoonest D S f g z)) [.ref (K.2.2 57), .int (iI f), .int (iI g)].toArray sS 0 0 (wA K)) K sS.heap 9 σ 26 [(4, .int (iI n)), (3, .int (iI u)), (0, .ref (K.2.2 57)), (1, .int (iI f)), (2, .int (iI g))] [] := by
        intro nn
        induction nn using Nat.strongRecOn with
        | _ nn ih26 =>
          intro u n hn26 i1 i2 i3 i4
          refine g_iload (pc' := 28) B 0 rfl dX12_soonest_26 rfl ?_
          refine g_sipush (pc' := 31) B (by decide +kernel) dX12_soonest_28 rfl ?_
          refine g_icmp_gt (pc' := 34) B 138 (by omega) (by omega) dX12_soonest_31 (by decide) rfl (fun c31 => ?_) (fun c31 => ?_)
          · refine g_iconst (pc' := 139) B dX12_soonest_138 rfl ?_
            exact g_iret (z := (-1)) B hrt rfl hlk dX12_soonest_139 ⟨rfl, Or.inr ⟨⟨h2, h10⟩, Or.inr ⟨rfl, fun k a b => i4 k a (by omega)⟩⟩⟩
          · refine g_iload_n (pc' := 35) B 1 rfl rfl dX12_soonest_34 rfl ?_
            refine g_iload_n (pc' := 36) B 4 rfl rfl dX12_soonest_35 rfl ?_
            refine g_callSI (pc' := 39) (As := [.int (iI u), .int (iI g)]) B (c_X12_has l K _ (u := u) (k := g) (by omega) (by omega)) st_X12_has tw_1242 ⟨by decide, by decide⟩ rfl (Nat.le_of_ble_eq_true rfl) ⟨Nat.zero_le _, Nat.zero_le _⟩ rfl dX12_soonest_36 rfl (fun z36 τ36 h36 => ?_)
            obtain ⟨rfl, h36⟩ := h36
            rcases h36 with ⟨h36, rfl⟩ | ⟨h36, rfl⟩
            · refine g_if_eq (pc' := 42) B 45 (by omega) dX12_soonest_39 (by decide) rfl (fun q => absurd q (by decide)) (fun _ => ?_)
              refine g_iload (pc' := 44) B 0 rfl dX12_soonest_42 rfl ?_
              exact g_iret (z := n) B hrt rfl hlk dX12_soonest_44 ⟨rfl, Or.inr ⟨⟨h2, h10⟩, Or.inl ⟨by omega, by omega, (ps_iff _ _ _ _ _).mpr ((i3 g h10.1 h10.2).mp h36), i4⟩⟩⟩
            · refine g_if_eq (pc' := 42) B 45 (by omega) dX12_soonest_39 (by decide) rfl (fun _ => ?_) (fun q => absurd q (by decide))
              refine g_iload_n (pc' := 46) B 1 rfl rfl dX12_soonest_45 rfl ?_
              refine g_istore (pc' := 48) B [(5, .int (iI u)), (4, .int (iI n)), (3, .int (iI u)), (0, .ref (K.2.2 57)), (1, .int (iI f)), (2, .int (iI g))] dX12_soonest_46 rfl (by decide) rfl ?_
              refine g_iconst (pc' := 49) B dX12_soonest_48 rfl ?_
              refine g_istore (pc' := 51) B [(6, .int (iI 0)), (5, .int (iI u)), (4, .int (iI n)), (3, .int (iI u)), (0, .ref (K.2.2 57)), (1, .int (iI f)), (2, .int (iI g))] dX12_soonest_49 rfl (by decide) rfl ?_
              have L51 : ∀ (nn : Nat) (v x : Int) , (D 9 0 - x).toNat = nn → (0 ≤ x ∧ x ≤ D 9 0) → (0 ≤ v ∧ v < 256) → (∀ y : Int, 0 ≤ y → y < D 9 0 → (bt v y = 1 ↔ bt u y = 1 ∨ sy D (S + n + 1) u x 1 y)) → G pP l eE (rmo 3 73) sS mM [.ref (K.2.2 57), .int (iI f), .int (iI g)].toArray bW mT cC 0 0 (MQ bW (Qi K (fun z τ => σ = τ ∧ aSoonest D S f g z)) [.ref (K.2.2 57), .int (iI f), .int (iI g)].toArray sS 0 0 (wA K)) K sS.heap 9 σ 51 [(6, .int (iI x)), (5, .int (iI v)), (4, .int (iI n)), (3, .int (iI u)), (0, .ref (K.2.2 57)), (1, .int (iI f)), (2, .int (iI g))] [] := by
                intro nn
                induction nn using Nat.strongRecOn with
                | _ nn ih51 =>
                  intro v x hn51 j1 j2 j3
                  refine g_iload (pc' := 53) B 0 rfl dX12_soonest_51 rfl ?_
                  refine g_aload_n (pc' := 54) B 4 rfl rfl dX12_soonest_53 rfl ?_
                  refine g_get (pc' := 57) B (D 9 0) hM.1 fl_X12_131 rfl rfl dX12_soonest_54 rfl ?_
                  refine g_icmp_ge (pc' := 60) B 129 (by omega) (by omega) dX12_soonest_57 (by decide) rfl (fun c57 => ?_) (fun c57 => ?_)
                  · refine g_iload (pc' := 131) B 1 rfl dX12_soonest_129 rfl ?_
                    refine g_istore_n (pc' := 132) B [(3, .int (iI v)), (6, .int (iI x)), (5, .int (iI v)), (4, .int (iI n)), (0, .ref (K.2.2 57)), (1, .int (iI f)), (2, .int (iI g))] dX12_soonest_131 rfl rfl (by decide) rfl ?_
                    refine g_iinc (pc' := 135) B 3 [(4, .int (iI (n + 1))), (3, .int (iI v)), (6, .int (iI x)), (5, .int (iI v)), (0, .ref (K.2.2 57)), (1, .int (iI f)), (2, .int (iI g))] dX12_soonest_132 rfl rfl (by decide) rfl ?_
                    refine g_goto (pc' := 26) B dX12_soonest_135 (by decide) ?_
                    refine g_loc B [(4, .int (iI (n + 1))), (3, .int (iI v)), (0, .ref (K.2.2 57)), (1, .int (iI f)), (2, .int (iI g))] [0, 1, 4, 5, 6] rfl ?_
                    exact ih26 _ (by omega) v (n + 1) rfl (by omega) (by exact j2) (by intro y a b; rw [j3 y a b, show x = D 9 0 by omega]; exact rn_next' (by omega) h2 i3 ⟨a, b⟩) (by intro k a b; by_cases e9 : k = n; (subst e9; exact fun q9 => h36 ((i3 g h10.1 h10.2).mpr ((ps_iff _ _ _ _ _).mp q9))); exact i4 k a (by omega))
                  · refine g_iconst (pc' := 61) B dX12_soonest_60 rfl ?_
                    refine g_istore (pc' := 63) B [(7, .int (iI 1)), (6, .int (iI x)), (5, .int (iI v)), (4, .int (iI n)), (3, .int (iI u)), (0, .ref (K.2.2 57)), (1, .int (iI f)), (2, .int (iI g))] dX12_soonest_61 rfl (by decide) rfl ?_
                    have L63 : ∀ (nn : Nat) (e w : Int) , (3 - w).toNat = nn → (1 ≤ w ∧ w ≤ 3) → (0 ≤ e ∧ e < 256) → (∀ y : Int, 0 ≤ y → y < D 9 0 → (bt e y = 1 ↔ bt u y = 1 ∨ sy D (S + n + 1) u x w y)) → G pP l eE (rmo 3 73) sS mM [.ref (K.2.2 57), .int (iI f), .int (iI g)].toArray bW mT cC 0 0 (MQ bW (Qi K (fun z τ => σ = τ ∧ aSoonest D S f g z)) [.ref (K.2.2 57), .int (iI f), .int (iI g)].toArray sS 0 0 (wA K)) K sS.heap 9 σ 63 [(7, .int (iI w)), (6, .int (iI x)), (5, .int (iI e)), (4, .int (iI n)), (3, .int (iI u)), (0, .ref (K.2.2 57)), (1, .int (iI f)), (2, .int (iI g))] [] := by
                      intro nn
                      induction nn using Nat.strongRecOn with
                      | _ nn ih63 =>
                        intro e w hn63 k1 k2 k3
                        refine g_iload (pc' := 65) B 0 rfl dX12_soonest_63 rfl ?_
                        refine g_iconst (pc' := 66) B dX12_soonest_65 rfl ?_
                        refine g_icmp_ge (pc' := 69) B 123 (by omega) (by omega) dX12_soonest_66 (by decide) rfl (fun c66 => ?_) (fun c66 => ?_)
                        · refine g_iinc (pc' := 126) B 1 [(6, .int (iI (x + 1))), (7, .int (iI w)), (5, .int (iI e)), (4, .int (iI n)), (3, .int (iI u)), (0, .ref (K.2.2 57)), (1, .int (iI f)), (2, .int (iI g))] dX12_soonest_123 rfl rfl (by decide) rfl ?_
                          refine g_goto (pc' := 51) B dX12_soonest_126 (by decide) ?_
                          refine g_loc B [(6, .int (iI (x + 1))), (5, .int (iI e)), (4, .int (iI n)), (3, .int (iI u)), (0, .ref (K.2.2 57)), (1, .int (iI f)), (2, .int (iI g))] [0, 2, 3, 4, 5, 6, 7] rfl ?_
                          exact ih51 _ (by omega) e (x + 1) rfl (by omega) (by exact k2) (by intro y a b; rw [k3 y a b, sy_end (by first | exact Or.inr h72 | (left; omega)) k1.1])
                        · refine g_iload_n (pc' := 70) B 4 rfl rfl dX12_soonest_69 rfl ?_
                          refine g_iload (pc' := 72) B 1 rfl dX12_soonest_70 rfl ?_
                          refine g_callSI (pc' := 75) (As := [.int (iI u), .int (iI x)]) B (c_X12_has l K _ (u := u) (k := x) (by omega) (by omega)) st_X12_has tw_1242 ⟨by decide, by decide⟩ rfl (Nat.le_of_ble_eq_true rfl) ⟨Nat.zero_le _, Nat.zero_le _⟩ rfl dX12_soonest_72 rfl (fun z72 τ72 h72 => ?_)
                          obtain ⟨rfl, h72⟩ := h72
                          rcases h72 with ⟨h72, rfl⟩ | ⟨h72, rfl⟩
                          · refine g_if_eq (pc' := 78) B 123 (by omega) dX12_soonest_75 (by decide) rfl (fun q => absurd q (by decide)) (fun _ => ?_)
                            refine g_aload_n (pc' := 79) B 5 rfl rfl dX12_soonest_78 rfl ?_
                            refine g_iload (pc' := 81) B 1 rfl dX12_soonest_79 rfl ?_
                            refine g_iload (pc' := 83) B 0 rfl dX12_soonest_81 rfl ?_
                            refine g_aload_n (pc' := 84) B 5 rfl rfl dX12_soonest_83 rfl ?_
                            refine g_getR (pc' := 87) B 58 fl_X12_7 rfl rfl dX12_soonest_84 rfl ?_
                            refine g_iconst (pc' := 88) B dX12_soonest_87 rfl ?_
                            refine g_iald (pc' := 89) B S hn0.1 rfl (by omega) (by decide) dX12_soonest_88 rfl ?_
                            refine g_iload (pc' := 91) B 3 rfl dX12_soonest_89 rfl ?_
                            refine g_iadd (pc' := 92) B dX12_soonest_91 rfl ?_
                            refine g_iconst (pc' := 93) B dX12_soonest_92 rfl ?_
                            refine g_iadd (pc' := 94) B dX12_soonest_93 rfl ?_
                            refine g_callVI (pc' := 97) (As := [.int (iI x), .int (iI w), .int (iI ((S + n) + 1))]) B (c_X12_to l K _ (D := D) (f := x) (w := w) (t := (S + n) + 1) hM hF hR hO hH (by omega) (by omega) (by omega)) vt_X12_to tw_1175 rfl rfl ⟨by decide, by decide⟩ rfl (Nat.le_of_ble_eq_true rfl) ⟨Nat.zero_le _, Nat.zero_le _⟩ rfl dX12_soonest_94 rfl (fun z94 τ94 h94 => ?_)
                            obtain ⟨rfl, rfl⟩ := h94
                            have htb := tow_bd (D := D) (f := x) (t := S + n + 1) (w := w)
                            refine g_istore (pc' := 99) B [(8, .int (iI (tow D x ((S + n) + 1) w))), (7, .int (iI w)), (6, .int (iI x)), (5, .int (iI e)), (4, .int (iI n)), (3, .int (iI u)), (0, .ref (K.2.2 57)), (1, .int (iI f)), (2, .int (iI g))] dX12_soonest_97 rfl (by decide) rfl ?_
                            refine g_iload (pc' := 101) B 3 rfl dX12_soonest_99 rfl ?_
                            refine g_iload (pc' := 103) B 0 rfl dX12_soonest_101 rfl ?_
                            refine g_if_ge (pc' := 106) B 110 (by omega) dX12_soonest_103 (by decide) rfl (fun c103 => ?_) (fun c103 => ?_)
                            · refine g_iconst (pc' := 111) B dX12_soonest_110 rfl ?_
                              refine g_iload (pc' := 113) B 0 rfl dX12_soonest_111 rfl ?_
                              refine g_ishl (pc' := 114) B (2 ^ (tow D x ((S + n) + 1) w).toNat) (sh1 ⟨by omega, by omega⟩) dX12_soonest_113 rfl ?_
                              refine g_ior (pc' := 115) B (ob e (tow D x (S + n + 1) w)) (or_ob (by omega)) dX12_soonest_114 rfl ?_
                              refine g_istore (pc' := 117) B [(5, .int (iI (ob e (tow D x (S + n + 1) w)))), (8, .int (iI (tow D x ((S + n) + 1) w))), (7, .int (iI w)), (6, .int (iI x)), (4, .int (iI n)), (3, .int (iI u)), (0, .ref (K.2.2 57)), (1, .int (iI f)), (2, .int (iI g))] dX12_soonest_115 rfl (by decide) rfl ?_
                              refine g_iinc (pc' := 120) B 2 [(7, .int (iI (w + 1))), (5, .int (iI (ob e (tow D x (S + n + 1) w)))), (8, .int (iI (tow D x ((S + n) + 1) w))), (6, .int (iI x)), (4, .int (iI n)), (3, .int (iI u)), (0, .ref (K.2.2 57)), (1, .int (iI f)), (2, .int (iI g))] dX12_soonest_117 rfl rfl (by decide) rfl ?_
                              refine g_goto (pc' := 63) B dX12_soonest_120 (by decide) ?_
                              refine g_loc B [(7, .int (iI (w + 1))), (6, .int (iI x)), (5, .int (iI (ob e (tow D x (S + n + 1) w)))), (4, .int (iI n)), (3, .int (iI u)), (0, .ref (K.2.2 57)), (1, .int (iI f)), (2, .int (iI g))] [0, 3, 1, 4, 5, 6, 7, 8] rfl ?_
                              exact ih63 _ (by omega) (ob e (tow D x (S + n + 1) w)) (w + 1) rfl (by omega) (by first | exact k2 | exact ob_bd k2 (by have q9 := (tow_ge (by omega) : can D x (S + n + 1) w).2.1; rw [tow_pos (tow_ge (by omega))]; omega)) (by intro y a b; rw [sy_next (by omega) (by omega) h72]; first | (rw [k3 y a b]; have q9 := tow_lt c103; exact ⟨fun p => p.elim Or.inl (fun r => Or.inr (Or.inl r)), fun p => p.elim Or.inl (fun r => r.elim Or.inr (fun s => absurd s.1 q9))⟩) | (have q9 : can D x (S + n + 1) w := tow_ge (by omega); rw [bt_ob k2.1 (by omega) a, k3 y a b, tow_pos q9]; exact ⟨fun p => p.elim (fun r => r.elim Or.inl (fun s => Or.inr (Or.inl s))) (fun r => Or.inr (Or.inr ⟨q9, r.symm⟩)), fun p => p.elim (fun r => Or.inl (Or.inl r)) (fun r => r.elim (fun s => Or.inl (Or.inr s)) (fun s => Or.inr s.2.symm))⟩))
                            · refine g_iconst (pc' := 107) B dX12_soonest_106 rfl ?_
                              refine g_goto (pc' := 114) B dX12_soonest_107 (by decide) ?_
                              refine g_ior (pc' := 115) B e (or0 _) dX12_soonest_114 rfl ?_
                              refine g_istore (pc' := 117) B [(5, .int (iI e)), (8, .int (iI (tow D x ((S + n) + 1) w))), (7, .int (iI w)), (6, .int (iI x)), (4, .int (iI n)), (3, .int (iI u)), (0, .ref (K.2.2 57)), (1, .int (iI f)), (2, .int (iI g))] dX12_soonest_115 rfl (by decide) rfl ?_
                              refine g_iinc (pc' := 120) B 2 [(7, .int (iI (w + 1))), (5, .int (iI e)), (8, .int (iI (tow D x ((S + n) + 1) w))), (6, .int (iI x)), (4, .int (iI n)), (3, .int (iI u)), (0, .ref (K.2.2 57)), (1, .int (iI f)), (2, .int (iI g))] dX12_soonest_117 rfl rfl (by decide) rfl ?_
                              refine g_goto (pc' := 63) B dX12_soonest_120 (by decide) ?_
                              refine g_loc B [(7, .int (iI (w + 1))), (6, .int (iI x)), (5, .int (iI e)), (4, .int (iI n)), (3, .int (iI u)), (0, .ref (K.2.2 57)), (1, .int (iI f)), (2, .int (iI g))] [0, 3, 1, 4, 5, 6, 7, 8] rfl ?_
                              exact ih63 _ (by omega) e (w + 1) rfl (by omega) (by first | exact k2 | exact ob_bd k2 (by have q9 := (tow_ge (by omega) : can D x (S + n + 1) w).2.1; rw [tow_pos (tow_ge (by omega))]; omega)) (by intro y a b; rw [sy_next (by omega) (by omega) h72]; first | (rw [k3 y a b]; have q9 := tow_lt c103; exact ⟨fun p => p.elim Or.inl (fun r => Or.inr (Or.inl r)), fun p => p.elim Or.inl (fun r => r.elim Or.inr (fun s => absurd s.1 q9))⟩) | (have q9 : can D x (S + n + 1) w := tow_ge (by omega); rw [bt_ob k2.1 (by omega) a, k3 y a b, tow_pos q9]; exact ⟨fun p => p.elim (fun r => r.elim Or.inl (fun s => Or.inr (Or.inl s))) (fun r => Or.inr (Or.inr ⟨q9, r.symm⟩)), fun p => p.elim (fun r => Or.inl (Or.inl r)) (fun r => r.elim (fun s => Or.inl (Or.inr s)) (fun s => Or.inr s.2.symm))⟩))
                          · refine g_if_eq (pc' := 78) B 123 (by omega) dX12_soonest_75 (by decide) rfl (fun _ => ?_) (fun q => absurd q (by decide))
                            refine g_iinc (pc' := 126) B 1 [(6, .int (iI (x + 1))), (7, .int (iI w)), (5, .int (iI e)), (4, .int (iI n)), (3, .int (iI u)), (0, .ref (K.2.2 57)), (1, .int (iI f)), (2, .int (iI g))] dX12_soonest_123 rfl rfl (by decide) rfl ?_
                            refine g_goto (pc' := 51) B dX12_soonest_126 (by decide) ?_
                            refine g_loc B [(6, .int (iI (x + 1))), (5, .int (iI e)), (4, .int (iI n)), (3, .int (iI u)), (0, .ref (K.2.2 57)), (1, .int (iI f)), (2, .int (iI g))] [0, 2, 3, 4, 5, 6, 7] rfl ?_
                            exact ih51 _ (by omega) e (x + 1) rfl (by omega) (by exact k2) (by intro y a b; rw [k3 y a b, sy_end (by first | exact Or.inr h72 | (left; omega)) k1.1])
                    exact L63 _ v 1 rfl (by omega) (by exact j2) (by exact j3)
              exact L51 _ u 0 rfl (by omega) (by exact i2) (by intro y a b; exact ⟨Or.inl, fun q9 => q9.elim id (fun q8 => absurd q8 sy_0)⟩)
      exact L26 _ (2 ^ f.toNat) 0 rfl (by omega) (by have q9 := pow_le7 (k := f.toNat) (by omega); have q8 : (2 : Int) ^ f.toNat ≤ 128 := (pow7 (by omega)); omega) (by intro y a b; rw [bt_pow (by omega) a]; show _ ↔ f ≤ y ∧ y ≤ f; omega) (by intro k a b; omega)
    · refine g_if_ne (pc' := 16) B 19 (by omega) dX12_soonest_13 (by decide) rfl (fun q => absurd q (by decide)) (fun _ => ?_)
      refine g_ldc (z := (-1000000001)) (pc' := 18) B tw_1133 (by decide +kernel) dX12_soonest_16 rfl ?_
      exact g_iret (z := (-1000000001)) B hrt rfl hlk dX12_soonest_18 ⟨rfl, Or.inl ⟨by omega, rfl⟩⟩
  · refine g_if_eq (pc' := 8) B 16 (by omega) dX12_soonest_5 (by decide) rfl (fun _ => ?_) (fun q => absurd q (by decide))
    refine g_ldc (z := (-1000000001)) (pc' := 18) B tw_1133 (by decide +kernel) dX12_soonest_16 rfl ?_
    exact g_iret (z := (-1000000001)) B hrt rfl hlk dX12_soonest_18 ⟨rfl, Or.inl ⟨by omega, rfl⟩⟩
