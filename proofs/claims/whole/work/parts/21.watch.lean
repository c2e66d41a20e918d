/-- when a wave comes to a field, and 8 -/
def tm (w m : Int) : Int := m % 31 - ((w - m / 31).natAbs : Int) + 8
noncomputable def pcw (E : SG) (w t : Int) : Nat → Int
  | 0 => 0
  | m + 1 => pcw E w t m + (if tm w m = t then qb E m else 0)
noncomputable def gm (E : SG) (w : Int) : Nat → Int
  | 0 => 0
  | m + 1 => max (gm E w m) (pcw E w (tm w m) (m + 1))
theorem pcw_bd (E : SG) (w t : Int) : ∀ m : Nat, 0 ≤ pcw E w t m ∧ pcw E w t m ≤ m
  | 0 => by simp [pcw]
  | m + 1 => by
    have h := pcw_bd E w t m
    have h2 := qb_01 E m
    show 0 ≤ pcw E w t m + _ ∧ pcw E w t m + _ ≤ ((m + 1 : Nat) : Int)
    split <;> omega
theorem gm_bd (E : SG) (w : Int) : ∀ m : Nat, 0 ≤ gm E w m ∧ gm E w m ≤ m
  | 0 => by simp [gm]
  | m + 1 => by
    have h := gm_bd E w m
    have h2 := pcw_bd E w (tm w m) (m + 1)
    show 0 ≤ max _ _ ∧ max _ _ ≤ ((m + 1 : Nat) : Int)
    omega
theorem pcw_gm (E : SG) (w : Int) : ∀ (m : Nat) (t : Int), pcw E w t m ≤ gm E w m
  | 0, t => by simp [pcw, gm]
  | m + 1, t => by
    have h := pcw_gm E w m t
    show pcw E w t (m + 1) ≤ max (gm E w m) (pcw E w (tm w m) (m + 1))
    by_cases q : tm w m = t
    · subst q; omega
    · have : pcw E w t (m + 1) = pcw E w t m := by
        show pcw E w t m + (if tm w m = t then qb E m else 0) = _
        rw [if_neg q]; omega
      omega
/-- between two origins nothing changes -/
theorem cn_flat (E : SG) {m : Nat} : ∀ {n : Nat}, m ≤ n → cn E n = cn E m → (∀ t w : Int, pcw E w t n = pcw E w t m) ∧ (∀ w : Int, gm E w n = gm E w m) := by
  intro n h
  induction h with
  | refl => intro _; exact ⟨fun _ _ => rfl, fun _ => rfl⟩
  | step hk ih =>
    rename_i k
    intro e
    have e2 : cn E k + qb E k = cn E m := e
    have e3 := cn_mono E hk
    have e4 := qb_01 E k
    obtain ⟨i1, i2⟩ := ih (by omega)
    have q0 : qb E k = 0 := by omega
    have p1 : ∀ t w : Int, pcw E w t (k + 1) = pcw E w t k := by
      intro t w
      show pcw E w t k + (if tm w k = t then qb E k else 0) = _
      rw [q0]; split <;> omega
    refine ⟨fun t w => (p1 t w).trans (i1 t w), fun w => ?_⟩
    show max (gm E w k) (pcw E w (tm w k) (k + 1)) = _
    rw [p1, i2 w]
    have := pcw_gm E w k (tm w k)
    rw [i2 w] at this
    omega
/-- WATCH: the first k fields -/
noncomputable def wS (E : SG) (M : Nat) : Nat → Int × Int
  | 0 => (-1, cn E M)
  | k + 1 => if gm E k M < (wS E M k).2 then ((k : Int), gm E k M) else wS E M k
theorem wS_next {E : SG} {M : Nat} {f : Int} (h : 0 ≤ f) : wS E M (f + 1).toNat = if gm E f M < (wS E M f.toNat).2 then (f, gm E f M) else wS E M f.toNat := by
  rw [show (f + 1).toNat = f.toNat + 1 by omega]
  show (if gm E ((f.toNat : Nat) : Int) M < (wS E M f.toNat).2 then _ else _) = _
  rw [show ((f.toNat : Nat) : Int) = f by omega]
theorem wS_bd (E : SG) (M : Nat) : ∀ k : Nat, 0 ≤ (wS E M k).2 ∧ (wS E M k).2 ≤ M
  | 0 => cn_bd E M
  | k + 1 => by
    have h := wS_bd E M k
    have h2 := gm_bd E k M
    unfold wS
    split
    · exact h2
    · exact h
/-- the next origin -/
theorem cn_find {E : SG} {M m : Nat} {k : Int} (hm : cn E m = k) (hk : k < cn E M) : ∃ j : Nat, m ≤ j ∧ j < M ∧ qb E j = 1 ∧ cn E j = k := by
  have h0 := cn_bd E m
  obtain ⟨j, a, b, c⟩ := cn_surj E (i := k) (by omega) hk
  refine ⟨j, ?_, a, b, c⟩
  rcases Nat.lt_or_ge j m with q | q
  · have e := cn_mono E (show j + 1 ≤ m by omega)
    have e2 : cn E (j + 1) = cn E j + qb E j := rfl
    omega
  · exact q
set_option maxRecDepth 100000 in
set_option maxHeartbeats 4000000 in
theorem c_X1_greatestPart (l : Launch) (K : WK) (σ : SG) {E : SG} {n w c : Int} (hn : 0 ≤ n ∧ n ≤ 8) (hw : 0 ≤ w ∧ w ≤ 7) (hc : c = cn E (31 * n).toNat) (hgo : ∀ m : Nat, (m : Int) < 31 * n → qb E m = 1 → σ 48 (cn E m) = 100 * ((m : Int) / 31) + (m : Int) % 31) : MI l yX1_greatestPart cX1_greatestPart 6 (some .int) 1 14 K σ [.ref (K.2.2 45), .int (iI w), .int (iI c)] (fun z τ => (∀ k, k ≠ 49 → τ k = σ k) ∧ z = gm E w (31 * n).toNat) := by
  refine met_of [(0, .ref (K.2.2 45)), (1, .int (iI w)), (2, .int (iI c))] (by decide +kernel) (Nat.le_of_ble_eq_true rfl) rfl ?_
  intro pP eE sS mM bW mT cC B hrt hlk
  replace B : CB pP sS mM [.ref (K.2.2 45), .int (iI w), .int (iI c)].toArray cC cX1_greatestPart RX1 6 K := B
  have hcb := cn_bd E (31 * n).toNat
  rw [← hc] at hcb
  refine g_iconst (pc' := 1) B dX1_greatestPart_0 rfl ?_
  refine g_istore_n (pc' := 2) B [(3, .int (iI 0)), (0, .ref (K.2.2 45)), (1, .int (iI w)), (2, .int (iI c))] dX1_greatestPart_1 rfl rfl (by decide) rfl ?_
  have L2 : ∀ (nn : Nat) (ρ : SG) (y : Int) , (39 - y).toNat = nn → (0 ≤ y ∧ y ≤ 39) → (∀ k, k ≠ 49 → ρ k = σ k) → (∀ t : Int, 0 ≤ t → t < y → ρ 49 t = 0) → G pP l eE (rmo 1 14) sS mM [.ref (K.2.2 45), .int (iI w), .int (iI c)].toArray bW mT cC 0 0 (MQ bW (Qi K (fun z τ => (∀ k, k ≠ 49 → τ k = σ k) ∧ z = gm E w (31 * n).toNat)) [.ref (K.2.2 45), .int (iI w), .int (iI c)].toArray sS 0 0 (wA K)) K sS.heap 6 ρ 2 [(3, .int (iI y)), (0, .ref (K.2.2 45)), (1, .int (iI w)), (2, .int (iI c))] [] := by
    intro nn
    induction nn using Nat.strongRecOn with
    | _ nn ih2 =>
      intro ρ y hn2 i1 i2 i3
      refine g_iload_n (pc' := 3) B 0 rfl rfl dX1_greatestPart_2 rfl ?_
      refine g_aload_n (pc' := 4) B 1 rfl rfl dX1_greatestPart_3 rfl ?_
      refine g_getR (pc' := 7) B 49 fl_X1_25 rfl rfl dX1_greatestPart_4 rfl ?_
      refine g_alen (pc' := 8) B rfl dX1_greatestPart_7 rfl ?_
      refine g_icmp_ge (pc' := 11) B 24 (by omega) (by omega) dX1_greatestPart_8 (by decide) rfl (fun c8 => ?_) (fun c8 => ?_)
      · refine g_iconst (pc' := 25) B dX1_greatestPart_24 rfl ?_
        refine g_istore_n (pc' := 26) B [(3, .int (iI 0)), (0, .ref (K.2.2 45)), (1, .int (iI w)), (2, .int (iI c))] dX1_greatestPart_25 rfl rfl (by decide) rfl ?_
        refine g_iconst (pc' := 27) B dX1_greatestPart_26 rfl ?_
        refine g_istore (pc' := 29) B [(4, .int (iI 0)), (3, .int (iI 0)), (0, .ref (K.2.2 45)), (1, .int (iI w)), (2, .int (iI c))] dX1_greatestPart_27 rfl (by decide) rfl ?_
        have L29 : ∀ (nn : Nat) (ω : SG) (u x : Int) (jm : Nat) , (c - x).toNat = nn → (0 ≤ x ∧ x ≤ c) → (∀ k, k ≠ 49 → ω k = σ k) → (cn E jm = x ∧ (jm : Int) ≤ 31 * n) → (∀ t : Int, 0 ≤ t → t < 39 → ω 49 t = pcw E w t jm) → (u = gm E w jm) → G pP l eE (rmo 1 14) sS mM [.ref (K.2.2 45), .int (iI w), .int (iI c)].toArray bW mT cC 0 0 (MQ bW (Qi K (fun z τ => (∀ k, k ≠ 49 → τ k = σ k) ∧ z = gm E w (31 * n).toNat)) [.ref (K.2.2 45), .int (iI w), .int (iI c)].toArray sS 0 0 (wA K)) K sS.heap 6 ω 29 [(4, .int (iI x)), (3, .int (iI u)), (0, .ref (K.2.2 45)), (1, .int (iI w)), (2, .int (iI c))] [] := by
          intro nn
          induction nn using Nat.strongRecOn with
          | _ nn ih29 =>
            intro ω u x jm hn29 j1 j2 j3 j4 j5
            have hjb := gm_bd E w jm
            rw [← j5] at hjb
            refine g_iload (pc' := 31) B 0 rfl dX1_greatestPart_29 rfl ?_
            refine g_iload_n (pc' := 32) B 4 rfl rfl dX1_greatestPart_31 rfl ?_
            refine g_icmp_ge (pc' := 35) B 120 (by omega) (by omega) dX1_greatestPart_32 (by decide) rfl (fun c32 => ?_) (fun c32 => ?_)
            · refine g_iload_n (pc' := 121) B 1 rfl rfl dX1_greatestPart_120 rfl ?_
              exact g_iret (z := u) B hrt rfl hlk dX1_greatestPart_121 ⟨j2, by rw [j5, (cn_flat E (show jm ≤ (31 * n).toNat by omega) (by rw [← hc, j3.1]; omega)).2 w]⟩
            · refine g_iload (pc' := 37) B 0 rfl dX1_greatestPart_35 rfl ?_
              refine g_aload_n (pc' := 38) B 2 rfl rfl dX1_greatestPart_37 rfl ?_
              refine g_getR (pc' := 41) B 48 fl_X1_22 rfl rfl dX1_greatestPart_38 rfl ?_
              refine g_alen (pc' := 42) B rfl dX1_greatestPart_41 rfl ?_
              refine g_icmp_ge (pc' := 45) B 120 (by omega) (by omega) dX1_greatestPart_42 (by decide) rfl (fun c42 => by exfalso; omega) (fun c42 => ?_)
              obtain ⟨j9, ja, jb, jc, jd⟩ := cn_find (E := E) (M := (31 * n).toNat) j3.1 (by omega)
              have hq9 : qb E j9 = 1 := jc
              obtain ⟨q1, q2⟩ := cn_flat E ja (by omega)
              have ho9 : ω 48 x = 100 * ((j9 : Int) / 31) + (j9 : Int) % 31 := by rw [j2 48 (by decide), ← jd]; exact hgo j9 (by omega) jc
              refine g_aload_n (pc' := 46) B 2 rfl rfl dX1_greatestPart_45 rfl ?_
              refine g_getR (pc' := 49) B 48 fl_X1_22 rfl rfl dX1_greatestPart_46 rfl ?_
              refine g_iload (pc' := 51) B 0 rfl dX1_greatestPart_49 rfl ?_
              refine g_iald (pc' := 52) B (ω 48 x) rfl rfl (by omega) (by decide) dX1_greatestPart_51 rfl ?_
              refine g_bipush (pc' := 54) B (by decide +kernel) dX1_greatestPart_52 rfl ?_
              refine g_irem (pc' := 55) B (by omega) (by omega) dX1_greatestPart_54 rfl ?_
              refine g_iload_n (pc' := 56) B 3 rfl rfl dX1_greatestPart_55 rfl ?_
              refine g_aload_n (pc' := 57) B 2 rfl rfl dX1_greatestPart_56 rfl ?_
              refine g_getR (pc' := 60) B 48 fl_X1_22 rfl rfl dX1_greatestPart_57 rfl ?_
              refine g_iload (pc' := 62) B 0 rfl dX1_greatestPart_60 rfl ?_
              refine g_iald (pc' := 63) B (ω 48 x) rfl rfl (by omega) (by decide) dX1_greatestPart_62 rfl ?_
              refine g_bipush (pc' := 65) B (by decide +kernel) dX1_greatestPart_63 rfl ?_
              refine g_idiv (pc' := 66) B (by omega) (by omega) dX1_greatestPart_65 rfl ?_
              refine g_isub (pc' := 67) B dX1_greatestPart_66 rfl ?_
              refine g_mabs (pc' := 70) B (by omega) tw_794 (by decide) (Nat.le_of_ble_eq_true rfl) (Nat.zero_le _) (Nat.zero_le _) dX1_greatestPart_67 rfl ?_
              refine g_isub (pc' := 71) B dX1_greatestPart_70 rfl ?_
              refine g_bipush (pc' := 73) B (by decide +kernel) dX1_greatestPart_71 rfl ?_
              refine g_iadd (pc' := 74) B dX1_greatestPart_73 rfl ?_
              refine g_istore (pc' := 76) B [(5, .int (iI ((((ω 48 x) % 100) - ((w - ((ω 48 x) / 100)).natAbs : Int)) + 8))), (4, .int (iI x)), (3, .int (iI u)), (0, .ref (K.2.2 45)), (1, .int (iI w)), (2, .int (iI c))] dX1_greatestPart_74 rfl (by decide) rfl ?_
              have htm : ((((ω 48 x) % 100) - ((w - ((ω 48 x) / 100)).natAbs : Int)) + 8) = tm w j9 := by rw [ho9]; unfold tm; omega
              have htr : 8 - 7 ≤ tm w j9 ∧ tm w j9 ≤ 38 := by unfold tm; omega
              have hpb := pcw_bd E w (tm w j9) jm
              rw [← j4 (tm w j9) (by omega) (by omega), ← htm] at hpb
              refine g_iload (pc' := 78) B 0 rfl dX1_greatestPart_76 rfl ?_
              refine g_if_lt (pc' := 81) B 114 (by omega) dX1_greatestPart_78 (by decide) rfl (fun c78 => by exfalso; omega) (fun c78 => ?_)
              refine g_iload (pc' := 83) B 0 rfl dX1_greatestPart_81 rfl ?_
              refine g_aload_n (pc' := 84) B 3 rfl rfl dX1_greatestPart_83 rfl ?_
              refine g_getR (pc' := 87) B 49 fl_X1_25 rfl rfl dX1_greatestPart_84 rfl ?_
              refine g_alen (pc' := 88) B rfl dX1_greatestPart_87 rfl ?_
              refine g_icmp_ge (pc' := 91) B 114 (by omega) (by omega) dX1_greatestPart_88 (by decide) rfl (fun c88 => by exfalso; omega) (fun c88 => ?_)
              refine g_aload_n (pc' := 92) B 3 rfl rfl dX1_greatestPart_91 rfl ?_
              refine g_getR (pc' := 95) B 49 fl_X1_25 rfl rfl dX1_greatestPart_92 rfl ?_
              refine g_iload (pc' := 97) B 0 rfl dX1_greatestPart_95 rfl ?_
              refine g_dup2 (pc' := 98) B rfl rfl dX1_greatestPart_97 rfl ?_
              refine g_iald (pc' := 99) B (ω 49 ((((ω 48 x) % 100) - ((w - ((ω 48 x) / 100)).natAbs : Int)) + 8)) rfl rfl (by omega) (by decide) dX1_greatestPart_98 rfl ?_
              refine g_iconst (pc' := 100) B dX1_greatestPart_99 rfl ?_
              refine g_iadd (pc' := 101) B dX1_greatestPart_100 rfl ?_
              refine g_iast (pc' := 102) B rfl (by omega) (by decide) dX1_greatestPart_101 rfl ?_
              refine g_iload_n (pc' := 103) B 2 rfl rfl dX1_greatestPart_102 rfl ?_
              refine g_aload_n (pc' := 104) B 3 rfl rfl dX1_greatestPart_103 rfl ?_
              refine g_getR (pc' := 107) B 49 fl_X1_25 rfl rfl dX1_greatestPart_104 rfl ?_
              refine g_iload (pc' := 109) B 0 rfl dX1_greatestPart_107 rfl ?_
              refine g_iald (pc' := 110) B ((ω 49 ((((ω 48 x) % 100) - ((w - ((ω 48 x) / 100)).natAbs : Int)) + 8)) + 1) (by simp [up]) rfl (by omega) (by decide) dX1_greatestPart_109 rfl ?_
              refine g_mmax (pc' := 113) B (by omega) (by omega) tw_807 (by decide) (Nat.le_of_ble_eq_true rfl) (Nat.zero_le _) (Nat.zero_le _) dX1_greatestPart_110 rfl ?_
              refine g_istore_n (pc' := 114) B [(3, .int (iI (max u ((ω 49 ((((ω 48 x) % 100) - ((w - ((ω 48 x) / 100)).natAbs : Int)) + 8)) + 1)))), (5, .int (iI ((((ω 48 x) % 100) - ((w - ((ω 48 x) / 100)).natAbs : Int)) + 8))), (4, .int (iI x)), (0, .ref (K.2.2 45)), (1, .int (iI w)), (2, .int (iI c))] dX1_greatestPart_113 rfl rfl (by decide) rfl ?_
              refine g_iinc (pc' := 117) B 2 [(4, .int (iI (x + 1))), (3, .int (iI (max u ((ω 49 ((((ω 48 x) % 100) - ((w - ((ω 48 x) / 100)).natAbs : Int)) + 8)) + 1)))), (5, .int (iI ((((ω 48 x) % 100) - ((w - ((ω 48 x) / 100)).natAbs : Int)) + 8))), (0, .ref (K.2.2 45)), (1, .int (iI w)), (2, .int (iI c))] dX1_greatestPart_114 rfl rfl (by decide) rfl ?_
              refine g_goto (pc' := 29) B dX1_greatestPart_117 (by decide) ?_
              refine g_loc B [(4, .int (iI (x + 1))), (3, .int (iI (max u ((ω 49 ((((ω 48 x) % 100) - ((w - ((ω 48 x) / 100)).natAbs : Int)) + 8)) + 1)))), (0, .ref (K.2.2 45)), (1, .int (iI w)), (2, .int (iI c))] [0, 1, 3, 4, 5] rfl ?_
              exact ih29 _ (by omega) (up ω 49 ((((ω 48 x) % 100) - ((w - ((ω 48 x) / 100)).natAbs : Int)) + 8) ((ω 49 ((((ω 48 x) % 100) - ((w - ((ω 48 x) / 100)).natAbs : Int)) + 8)) + 1)) (max u ((ω 49 ((((ω 48 x) % 100) - ((w - ((ω 48 x) / 100)).natAbs : Int)) + 8)) + 1)) (x + 1) (j9 + 1) rfl (by omega) (by intro k a; rw [up_row a]; exact j2 k a) (by exact ⟨by show cn E j9 + qb E j9 = x + 1; omega, by omega⟩) (by intro t a b; rw [up_in]; show _ = pcw E w t j9 + (if tm w j9 = t then qb E j9 else 0); rw [q1 t w, ← j4 t a b, hq9]; by_cases e9 : t = tm w j9; (rw [if_pos (by omega), if_pos e9.symm, e9, ← htm]); (rw [if_neg (by omega), if_neg (fun q => e9 q.symm)]; omega)) (by show _ = max (gm E w j9) (pcw E w (tm w j9) j9 + (if tm w j9 = tm w j9 then qb E j9 else 0)); rw [if_pos rfl, q2 w, q1 (tm w j9) w, hq9, ← j5, ← j4 (tm w j9) (by omega) (by omega), htm])
        exact L29 _ ρ 0 0 0 rfl (by omega) (by exact i2) (by exact ⟨rfl, by omega⟩) (by intro t a b; exact i3 t a (by omega)) (by rfl)
      · refine g_aload_n (pc' := 12) B 1 rfl rfl dX1_greatestPart_11 rfl ?_
        refine g_getR (pc' := 15) B 49 fl_X1_25 rfl rfl dX1_greatestPart_12 rfl ?_
        refine g_iload_n (pc' := 16) B 0 rfl rfl dX1_greatestPart_15 rfl ?_
        refine g_iconst (pc' := 17) B dX1_greatestPart_16 rfl ?_
        refine g_iast (pc' := 18) B rfl (by omega) (by decide) dX1_greatestPart_17 rfl ?_
        refine g_iinc (pc' := 21) B 0 [(3, .int (iI (y + 1))), (0, .ref (K.2.2 45)), (1, .int (iI w)), (2, .int (iI c))] dX1_greatestPart_18 rfl rfl (by decide) rfl ?_
        refine g_goto (pc' := 2) B dX1_greatestPart_21 (by decide) ?_
        exact ih2 _ (by omega) (up ρ 49 y 0) (y + 1) rfl (by omega) (by intro k a; rw [up_row a]; exact i2 k a) (by intro t a b; rw [up_in]; split; rfl; exact i3 t a (by omega))
  exact L2 _ σ 0 rfl (by omega) (by intro k a; rfl) (by intro t a b; omega)
set_option maxRecDepth 100000 in
set_option maxHeartbeats 4000000 in
theorem c_X1_bestWatch (l : Launch) (K : WK) (σ : SG) {E : SG} {n c : Int} (hn : 0 ≤ n ∧ n ≤ 8) (hc : c = cn E (31 * n).toNat) (hgo : ∀ m : Nat, (m : Int) < 31 * n → qb E m = 1 → σ 48 (cn E m) = 100 * ((m : Int) / 31) + (m : Int) % 31) : MI l yX1_bestWatch cX1_bestWatch 7 (some .int) 2 39 K σ [.ref (K.2.2 45), .int (iI c), .int (iI n)] (fun z τ => (∀ k, k ≠ 49 → τ k = σ k) ∧ z = (wS E (31 * n).toNat n.toNat).1) := by
  refine met_of [(0, .ref (K.2.2 45)), (1, .int (iI c)), (2, .int (iI n))] (by decide +kernel) (Nat.le_of_ble_eq_true rfl) rfl ?_
  intro pP eE sS mM bW mT cC B hrt hlk
  replace B : CB pP sS mM [.ref (K.2.2 45), .int (iI c), .int (iI n)].toArray cC cX1_bestWatch RX1 7 K := B
  have hcb := cn_bd E (31 * n).toNat
  rw [← hc] at hcb
  refine g_iconst (pc' := 1) B dX1_bestWatch_0 rfl ?_
  refine g_istore_n (pc' := 2) B [(3, .int (iI (-1))), (0, .ref (K.2.2 45)), (1, .int (iI c)), (2, .int (iI n))] dX1_bestWatch_1 rfl rfl (by decide) rfl ?_
  refine g_iload_n (pc' := 3) B 2 rfl rfl dX1_bestWatch_2 rfl ?_
  refine g_istore (pc' := 5) B [(4, .int (iI c)), (3, .int (iI (-1))), (0, .ref (K.2.2 45)), (1, .int (iI c)), (2, .int (iI n))] dX1_bestWatch_3 rfl (by decide) rfl ?_
  refine g_iconst (pc' := 6) B dX1_bestWatch_5 rfl ?_
  refine g_istore (pc' := 8) B [(5, .int (iI 0)), (4, .int (iI c)), (3, .int (iI (-1))), (0, .ref (K.2.2 45)), (1, .int (iI c)), (2, .int (iI n))] dX1_bestWatch_6 rfl (by decide) rfl ?_
  have L8 : ∀ (nn : Nat) (ρ : SG) (u v f : Int) , (n - f).toNat = nn → (0 ≤ f ∧ f ≤ n) → (∀ k, k ≠ 49 → ρ k = σ k) → (wS E (31 * n).toNat f.toNat = (u, v)) → G pP l eE (rmo 2 39) sS mM [.ref (K.2.2 45), .int (iI c), .int (iI n)].toArray bW mT cC 0 0 (MQ bW (Qi K (fun z τ => (∀ k, k ≠ 49 → τ k = σ k) ∧ z = (wS E (31 * n).toNat n.toNat).1)) [.ref (K.2.2 45), .int (iI c), .int (iI n)].toArray sS 0 0 (wA K)) K sS.heap 7 ρ 8 [(5, .int (iI f)), (4, .int (iI v)), (3, .int (iI u)), (0, .ref (K.2.2 45)), (1, .int (iI c)), (2, .int (iI n))] [] := by
    intro nn
    induction nn using Nat.strongRecOn with
    | _ nn ih8 =>
      intro ρ u v f hn8 i1 i2 i3
      have hwb := wS_bd E (31 * n).toNat f.toNat
      rw [i3] at hwb
      simp only [] at hwb
      refine g_iload (pc' := 10) B 0 rfl dX1_bestWatch_8 rfl ?_
      refine g_iload_n (pc' := 11) B 5 rfl rfl dX1_bestWatch_10 rfl ?_
      refine g_icmp_ge (pc' := 14) B 43 (by omega) (by omega) dX1_bestWatch_11 (by decide) rfl (fun c11 => ?_) (fun c11 => ?_)
      · refine g_iload_n (pc' := 44) B 2 rfl rfl dX1_bestWatch_43 rfl ?_
        exact g_iret (z := u) B hrt rfl hlk dX1_bestWatch_44 ⟨i2, by rw [show n.toNat = f.toNat by omega, i3]⟩
      · refine g_aload_n (pc' := 15) B 3 rfl rfl dX1_bestWatch_14 rfl ?_
        refine g_iload (pc' := 17) B 0 rfl dX1_bestWatch_15 rfl ?_
        refine g_iload_n (pc' := 18) B 4 rfl rfl dX1_bestWatch_17 rfl ?_
        refine g_callVI (pc' := 21) (As := [.int (iI f), .int (iI c)]) B (c_X1_greatestPart l K _ (E := E) (n := n) (w := f) (c := c) (by omega) (by omega) hc (fun m a b => by rw [i2 48 (by decide)]; exact hgo m a b)) vt_X1_greatestPart tw_803 rfl rfl ⟨by decide, by decide⟩ rfl (Nat.le_of_ble_eq_true rfl) ⟨Nat.zero_le _, Nat.zero_le _⟩ rfl dX1_bestWatch_18 rfl (fun z18 τ18 h18 => ?_)
        obtain ⟨h18a, h18b⟩ := h18
        have hgb := gm_bd E f (31 * n).toNat
        rw [← h18b] at hgb
        refine g_istore (pc' := 23) B [(6, .int (iI z18)), (5, .int (iI f)), (4, .int (iI v)), (3, .int (iI u)), (0, .ref (K.2.2 45)), (1, .int (iI c)), (2, .int (iI n))] dX1_bestWatch_21 rfl (by decide) rfl ?_
        refine g_iload (pc' := 25) B 0 rfl dX1_bestWatch_23 rfl ?_
        refine g_iload (pc' := 27) B 2 rfl dX1_bestWatch_25 rfl ?_
        refine g_icmp_ge (pc' := 30) B 37 (by omega) (by omega) dX1_bestWatch_27 (by decide) rfl (fun c27 => ?_) (fun c27 => ?_)
        · refine g_iinc (pc' := 40) B 1 [(5, .int (iI (f + 1))), (6, .int (iI z18)), (4, .int (iI v)), (3, .int (iI u)), (0, .ref (K.2.2 45)), (1, .int (iI c)), (2, .int (iI n))] dX1_bestWatch_37 rfl rfl (by decide) rfl ?_
          refine g_goto (pc' := 8) B dX1_bestWatch_40 (by decide) ?_
          refine g_loc B [(5, .int (iI (f + 1))), (4, .int (iI v)), (3, .int (iI u)), (0, .ref (K.2.2 45)), (1, .int (iI c)), (2, .int (iI n))] [0, 2, 3, 4, 5, 6] rfl ?_
          exact ih8 _ (by omega) τ18 u v (f + 1) rfl (by omega) (by intro k a; rw [h18a k a]; exact i2 k a) (by rw [wS_next (by omega), i3]; first | (rw [if_pos (by show _ < v; omega), h18b]) | (rw [if_neg (by show ¬ _ < v; omega)]))
        · refine g_iload (pc' := 32) B 0 rfl dX1_bestWatch_30 rfl ?_
          refine g_istore (pc' := 34) B [(4, .int (iI z18)), (6, .int (iI z18)), (5, .int (iI f)), (3, .int (iI u)), (0, .ref (K.2.2 45)), (1, .int (iI c)), (2, .int (iI n))] dX1_bestWatch_32 rfl (by decide) rfl ?_
          refine g_iload (pc' := 36) B 2 rfl dX1_bestWatch_34 rfl ?_
          refine g_istore_n (pc' := 37) B [(3, .int (iI f)), (4, .int (iI z18)), (6, .int (iI z18)), (5, .int (iI f)), (0, .ref (K.2.2 45)), (1, .int (iI c)), (2, .int (iI n))] dX1_bestWatch_36 rfl rfl (by decide) rfl ?_
          refine g_iinc (pc' := 40) B 3 [(5, .int (iI (f + 1))), (3, .int (iI f)), (4, .int (iI z18)), (6, .int (iI z18)), (0, .ref (K.2.2 45)), (1, .int (iI c)), (2, .int (iI n))] dX1_bestWatch_37 rfl rfl (by decide) rfl ?_
          refine g_goto (pc' := 8) B dX1_bestWatch_40 (by decide) ?_
          refine g_loc B [(5, .int (iI (f + 1))), (4, .int (iI z18)), (3, .int (iI f)), (0, .ref (K.2.2 45)), (1, .int (iI c)), (2, .int (iI n))] [0, 2, 1, 4, 5, 6] rfl ?_
          exact ih8 _ (by omega) τ18 f z18 (f + 1) rfl (by omega) (by intro k a; rw [h18a k a]; exact i2 k a) (by rw [wS_next (by omega), i3]; first | (rw [if_pos (by show _ < v; omega), h18b]) | (rw [if_neg (by show ¬ _ < v; omega)]))
  exact L8 _ σ (-1) c 0 rfl (by omega) (by intro k a; rfl) (by rw [hc]; rfl)
