theorem bes0 (L : Int) : bes L 0 = L := by simp [bes]
def dfh (Q : SG) : Int := if sdn (Q 5 4) / 65536 % 8 = 0 then 1 else 0
noncomputable def dfw (D Q : SG) : Int := cif (can D (Q 5 2) (Q 5 0 + 1) (sdn (sdn (Q 5 4)) / 65536 % 3)) (sdn (sdn (Q 5 4)) / 65536 % 3) 0
def dfx (Q : SG) : Int := Q 5 1 + (if dfh Q = 0 then 1 else 0)
/-- one drifting step -/
noncomputable def dfN (D Q : SG) : SG := fun k j => if k = 5 then (if j = 0 then Q 5 0 + 1 else if j = 1 then dfx Q else if j = 2 then bes (Q 5 2) (dfw D Q) else if j = 3 then Q 5 3 + max 0 (hgt D (bes (Q 5 2) (dfw D Q)) (dfx Q) - hgt D (Q 5 2) (dfx Q)) else sdn (sdn (Q 5 4))) else tP Q (Q 5 0) (Q 5 1) (Q 5 2) (Q 5 3) k j
noncomputable def dfI (D Q : SG) : Nat → SG
  | 0 => Q
  | m + 1 => dfN D (dfI D Q m)
def dV (ρ Q : SG) : Prop := tD ρ Q ∧ (ρ 31 0 = Q 5 0 ∧ ρ 31 1 = Q 5 1 ∧ ρ 31 2 = Q 5 2 ∧ ρ 31 3 = Q 5 3) ∧ ρ 0 12 = Q 5 4
def dB (D Q : SG) : Prop := (0 ≤ Q 5 1 ∧ Q 5 1 ≤ Q 5 0) ∧ (0 ≤ Q 5 2 ∧ Q 5 2 < D 9 0) ∧ (0 ≤ Q 5 4 ∧ Q 5 4 < 2147483648)
theorem dfw_can {D Q : SG} (h : 0 ≤ Q 5 2 ∧ Q 5 2 < D 9 0) : 0 ≤ bes (Q 5 2) (dfw D Q) ∧ bes (Q 5 2) (dfw D Q) < D 9 0 := by
  unfold dfw
  by_cases q : can D (Q 5 2) (Q 5 0 + 1) (sdn (sdn (Q 5 4)) / 65536 % 3)
  · rw [cif_pos q]; exact q.2.1
  · rw [cif_neg q, bes0]; exact h
theorem dB_next {D Q : SG} (h : dB D Q) : dB D (dfN D Q) := by
  have q := dfw_can h.2.1
  have q2 := sdn_bd (sdn (Q 5 4))
  refine ⟨?_, q, q2⟩
  show 0 ≤ dfx Q ∧ dfx Q ≤ Q 5 0 + 1
  have q3 := h.1
  unfold dfx
  split <;> omega
theorem dfI_next (D Q : SG) {i : Int} (h : 0 ≤ i) : dfN D (dfI D Q i.toNat) = dfI D Q (i + 1).toNat := by
  rw [show (i + 1).toNat = i.toNat + 1 by omega]; rfl
theorem dV_next {θ D Q : SG} {w e : Int} (ht : tD θ (tP Q (Q 5 0) (Q 5 1) (Q 5 2) (Q 5 3))) (hs : θ 0 12 = sdn (sdn (Q 5 4))) (he : dfh Q = e) (hw : dfw D Q = w) : dV (up (up (up (up θ 31 0 (Q 5 0 + 1)) 31 1 (Q 5 1 + (if e = 0 then 1 else 0))) 31 2 (bes (Q 5 2) w)) 31 3 (Q 5 3 + max 0 (hgt D (bes (Q 5 2) w) (Q 5 1 + (if e = 0 then 1 else 0)) - hgt D (Q 5 2) (Q 5 1 + (if e = 0 then 1 else 0))))) (dfN D Q) := by
  refine ⟨?_, ?_, ?_⟩
  · refine (ht.keep (τ := up (up (up (up θ 31 0 _) 31 1 _) 31 2 _) 31 3 _) (fun k a c => by rw [up_row (by omega), up_row (by omega), up_row (by omega), up_row (by omega)])).cong ?_ (fun k j hk _ _ => ?_)
    · rfl
    · have : k ≠ 5 := by omega
      simp [dfN, this]
  · subst he; subst hw; simp [up, dfN, dfx]
  · simp [up, dfN, hs]
set_option maxRecDepth 100000 in
set_option maxHeartbeats 4000000 in
theorem c_X11_drift (l : Launch) (K : WK) (σ : SG) {b : Nat} (hb : b = 3 ∨ b = 17) (hcb : σ 0 1 = ((b : Nat) : Int)) {D : SG} (hS : sD σ b D) (hF : okF D) (hR : okR D) (hO : okQ D) (hH : okH D) {Q : SG} (hV : dV σ Q) (hQb : 0 ≤ Q 5 1 ∧ Q 5 1 ≤ Q 5 0 ∧ Q 5 0 ≤ 70000) (hLr : D 9 0 ≠ 0 → 0 ≤ Q 5 2 ∧ Q 5 2 < D 9 0) (hvr : 0 ≤ Q 5 4 ∧ Q 5 4 < 2147483648) {n : Int} (hn : -2147483648 ≤ n ∧ n < 2147483648) : MI l yX11_drift cX11_drift 5 (some .int) 5 114 K σ [.ref (K.2.2 0), .int (iI n)] (fun z τ => (((n < 1 ∨ 99 < n) ∧ τ = σ ∧ z = -1000000002) ∨ (¬ (n < 1 ∨ 99 < n) ∧ D 9 0 = 0 ∧ τ = σ ∧ z = -1000000003) ∨ (¬ (n < 1 ∨ 99 < n) ∧ D 9 0 ≠ 0 ∧ dV τ (dfI D Q n.toNat) ∧ dB D (dfI D Q n.toNat) ∧ dfI D Q n.toNat 5 0 = Q 5 0 + n ∧ (∀ k, k ≠ 0 → (k < 31 ∨ 36 < k) → τ k = σ k) ∧ (∀ j, j ≠ 12 → τ 0 j = σ 0 j) ∧ z = dfI D Q n.toNat 5 2))) := by
  refine met_of [(0, .ref (K.2.2 0)), (1, .int (iI n))] (by decide +kernel) (Nat.le_of_ble_eq_true rfl) rfl ?_
  intro pP eE sS mM bW mT cC B hrt hlk
  replace B : CB pP sS mM [.ref (K.2.2 0), .int (iI n)].toArray cC cX11_drift RX11 5 K := B
  obtain ⟨hF0, hF1⟩ := id hF
  obtain ⟨hO0, hO1⟩ := id hO
  obtain ⟨hH0, hH1⟩ := id hH
  obtain ⟨hR0, hR1⟩ := id hR
  refine g_iload_n (pc' := 1) B 1 rfl rfl dX11_drift_0 rfl ?_
  refine g_iconst (pc' := 2) B dX11_drift_1 rfl ?_
  refine g_bipush (pc' := 4) B (by decide +kernel) dX11_drift_2 rfl ?_
  refine g_callSI (pc' := 7) (As := [.int (iI n), .int (iI 1), .int (iI 99)]) B (c_X11_isOutside l K _ (v := n) (low := 1) (high := 99) (by omega) (by omega) (by omega)) st_X11_isOutside tw_363 ⟨by decide, by decide⟩ rfl (Nat.le_of_ble_eq_true rfl) ⟨Nat.zero_le _, Nat.zero_le _⟩ rfl dX11_drift_4 rfl (fun z4 τ4 h4 => ?_)
  obtain ⟨rfl, h4⟩ := h4
  rcases h4 with ⟨h4, rfl⟩ | ⟨h4, rfl⟩
  · refine g_if_eq (pc' := 10) B 13 (by omega) dX11_drift_7 (by decide) rfl (fun q => absurd q (by decide)) (fun _ => ?_)
    refine g_ldc (z := (-1000000002)) (pc' := 12) B tw_366 (by decide +kernel) dX11_drift_10 rfl ?_
    exact g_iret (z := (-1000000002)) B hrt rfl hlk dX11_drift_12 (Or.inl ⟨h4, rfl, rfl⟩)
  · refine g_if_eq (pc' := 10) B 13 (by omega) dX11_drift_7 (by decide) rfl (fun _ => ?_) (fun q => absurd q (by decide))
    refine g_aload_n (pc' := 14) B 0 rfl rfl dX11_drift_13 rfl ?_
    refine g_getV (pc' := 17) B b (vr hcb) fl_X11_19 rfl rfl dX11_drift_14 rfl ?_
    refine g_getR (pc' := 20) B (b + 1) fl_X11_121 (ly_S hb) rfl dX11_drift_17 rfl ?_
    refine g_get (pc' := 23) B (D 9 0) hS.1.1 fl_X11_125 (ly_G (by omega)) rfl dX11_drift_20 rfl ?_
    refine g_if_ne (pc' := 26) B 29 (by omega) dX11_drift_23 (by decide) rfl (fun c23 => ?_) (fun c23 => ?_)
    · refine g_aload_n (pc' := 30) B 0 rfl rfl dX11_drift_29 rfl ?_
      refine g_getR (pc' := 33) B 31 fl_X11_33 rfl rfl dX11_drift_30 rfl ?_
      refine g_get (pc' := 36) B (Q 5 0) hV.2.1.1 fl_X11_138 rfl rfl dX11_drift_33 rfl ?_
      refine g_iload_n (pc' := 37) B 1 rfl rfl dX11_drift_36 rfl ?_
      refine g_iadd (pc' := 38) B dX11_drift_37 rfl ?_
      refine g_ldc (z := 900000) (pc' := 40) B tw_572 (by decide +kernel) dX11_drift_38 rfl ?_
      refine g_icmp_le (pc' := 43) B 46 (by omega) (by omega) dX11_drift_40 (by decide) rfl (fun c40 => ?_) (fun c40 => by exfalso; omega)
      refine g_iconst (pc' := 47) B dX11_drift_46 rfl ?_
      refine g_istore_n (pc' := 48) B [(2, .int (iI 0)), (0, .ref (K.2.2 0)), (1, .int (iI n))] dX11_drift_47 rfl rfl (by decide) rfl ?_
      have L48 : ∀ (nn : Nat) (ρ : SG) (i : Int) (Q9 : SG) , (n - i).toNat = nn → (0 ≤ i ∧ i ≤ n) → (Q9 = dfI D Q i.toNat) → (dV ρ Q9) → (dB D Q9) → (Q9 5 0 = Q 5 0 + i) → (∀ k, k ≠ 0 → (k < 31 ∨ 36 < k) → ρ k = σ k) → (∀ j, j ≠ 12 → ρ 0 j = σ 0 j) → G pP l eE (rmo 5 114) sS mM [.ref (K.2.2 0), .int (iI n)].toArray bW mT cC 0 0 (MQ bW (Qi K (fun z τ => (((n < 1 ∨ 99 < n) ∧ τ = σ ∧ z = -1000000002) ∨ (¬ (n < 1 ∨ 99 < n) ∧ D 9 0 = 0 ∧ τ = σ ∧ z = -1000000003) ∨ (¬ (n < 1 ∨ 99 < n) ∧ D 9 0 ≠ 0 ∧ dV τ (dfI D Q n.toNat) ∧ dB D (dfI D Q n.toNat) ∧ dfI D Q n.toNat 5 0 = Q 5 0 + n ∧ (∀ k, k ≠ 0 → (k < 31 ∨ 36 < k) → τ k = σ k) ∧ (∀ j, j ≠ 12 → τ 0 j = σ 0 j) ∧ z = dfI D Q n.toNat 5 2)))) [.ref (K.2.2 0), .int (iI n)].toArray sS 0 0 (wA K)) K sS.heap 5 ρ 48 [(2, .int (iI i)), (0, .ref (K.2.2 0)), (1, .int (iI n))] [] := by
        intro nn
        induction nn using Nat.strongRecOn with
        | _ nn ih48 =>
          intro ρ i Q9 hn48 i1 i2 i3 i4 i5 i6 i7
          refine g_iload_n (pc' := 49) B 0 rfl rfl dX11_drift_48 rfl ?_
          refine g_iload_n (pc' := 50) B 2 rfl rfl dX11_drift_49 rfl ?_
          refine g_icmp_ge (pc' := 53) B 127 (by omega) (by omega) dX11_drift_50 (by decide) rfl (fun c50 => ?_) (fun c50 => ?_)
          · refine g_aload_n (pc' := 128) B 1 rfl rfl dX11_drift_127 rfl ?_
            refine g_getR (pc' := 131) B 31 fl_X11_33 rfl rfl dX11_drift_128 rfl ?_
            refine g_get (pc' := 134) B (Q9 5 2) i3.2.1.2.2.1 fl_X11_144 rfl rfl dX11_drift_131 rfl ?_
            exact g_iret (z := Q9 5 2) B hrt rfl hlk dX11_drift_134 (Or.inr (Or.inr (by have hin : i = n := (by omega); subst hin; subst i2; exact ⟨h4, c23, i3, i4, i5, i6, i7, rfl⟩)))
          · obtain ⟨i41, i42, i43⟩ := id i4
            have hsd1 := sdn_bd (Q9 5 4)
            have hsd2 := sdn_bd (sdn (Q9 5 4))
            refine g_aload_n (pc' := 54) B 1 rfl rfl dX11_drift_53 rfl ?_
            refine g_bipush (pc' := 56) B (by decide +kernel) dX11_drift_54 rfl ?_
            refine g_callVI (pc' := 59) (As := [.int (iI 8)]) B (c_X11_draw l K _ (n := 8) (v := Q9 5 4) i3.2.2 (by omega) (by omega)) vt_X11_draw tw_624 rfl rfl ⟨by decide, by decide⟩ rfl (Nat.le_of_ble_eq_true rfl) ⟨Nat.zero_le _, Nat.zero_le _⟩ rfl dX11_drift_56 rfl (fun z56 τ56 h56 => ?_)
            obtain ⟨h56a, h56b⟩ := h56
            subst h56a
            subst h56b
            refine g_if_ne (pc' := 62) B 66 (by omega) dX11_drift_59 (by decide) rfl (fun c59 => ?_) (fun c59 => ?_)
            · refine g_iconst (pc' := 67) B dX11_drift_66 rfl ?_
              refine g_istore_n (pc' := 68) B [(3, .int (iI 0)), (2, .int (iI i)), (0, .ref (K.2.2 0)), (1, .int (iI n))] dX11_drift_67 rfl rfl (by decide) rfl ?_
              refine g_aload_n (pc' := 69) B 2 rfl rfl dX11_drift_68 rfl ?_
              refine g_iconst (pc' := 70) B dX11_drift_69 rfl ?_
              refine g_callVI (pc' := 73) (As := [.int (iI 3)]) B (c_X11_draw l K _ (n := 3) (v := sdn (Q9 5 4)) (by simp [up]) (by omega) (by omega)) vt_X11_draw tw_624 rfl rfl ⟨by decide, by decide⟩ rfl (Nat.le_of_ble_eq_true rfl) ⟨Nat.zero_le _, Nat.zero_le _⟩ rfl dX11_drift_70 rfl (fun z70 τ70 h70 => ?_)
              obtain ⟨h70a, h70b⟩ := h70
              subst h70a
              subst h70b
              refine g_istore (pc' := 75) B [(4, .int (iI (sdn (sdn (Q9 5 4)) / 65536 % 3))), (3, .int (iI 0)), (2, .int (iI i)), (0, .ref (K.2.2 0)), (1, .int (iI n))] dX11_drift_73 rfl (by decide) rfl ?_
              refine g_aload_n (pc' := 76) B 3 rfl rfl dX11_drift_75 rfl ?_
              refine g_getR (pc' := 79) B 32 fl_X11_40 rfl rfl dX11_drift_76 rfl ?_
              refine g_aload_n (pc' := 80) B 3 rfl rfl dX11_drift_79 rfl ?_
              refine g_getR (pc' := 83) B 31 fl_X11_33 rfl rfl dX11_drift_80 rfl ?_
              refine g_callVV (pc' := 86) (As := [.ref (K.2.2 31)]) B (c_X10_note l K _ (T := Q9) (S := Q9 5 0) (X := Q9 5 1) (L := Q9 5 2) (P := Q9 5 3) (i3.1.keep (fun k a c => by rw [up_row (by omega), up_row (by omega)])) (by rw [up_row (by decide), up_row (by decide)]; exact i3.2.1)) vt_X10_note tw_578 rfl rfl ⟨by decide, by decide⟩ rfl (Nat.le_of_ble_eq_true rfl) ⟨Nat.zero_le _, Nat.zero_le _⟩ rfl dX11_drift_83 rfl (fun τ83 h83 => ?_)
              obtain ⟨h83a, h83b⟩ := h83
              have hm83 : τ83 31 0 = Q9 5 0 ∧ τ83 31 1 = Q9 5 1 ∧ τ83 31 2 = Q9 5 2 ∧ τ83 31 3 = Q9 5 3 := by rw [h83b 31 (by omega), up_row (by decide), up_row (by decide)]; exact i3.2.1
              have hS83 : sD τ83 b D := hS.keep (fun k a c => by rw [h83b k (by omega), up_row (by omega), up_row (by omega)]; exact i6 k (by omega) (by omega))
              have hcb83 : τ83 0 1 = ((b : Nat) : Int) := by rw [h83b 0 (by omega), up_col (by decide), up_col (by decide), i7 1 (by decide)]; exact hcb
              have hs83 : τ83 0 12 = sdn (sdn (Q9 5 4)) := by rw [h83b 0 (by omega), up_same]
              refine g_aload_n (pc' := 87) B 3 rfl rfl dX11_drift_86 rfl ?_
              refine g_getR (pc' := 90) B 31 fl_X11_33 rfl rfl dX11_drift_87 rfl ?_
              refine g_aload_n (pc' := 91) B 3 rfl rfl dX11_drift_90 rfl ?_
              refine g_getV (pc' := 94) B b (vr hcb83) fl_X11_19 rfl rfl dX11_drift_91 rfl ?_
              refine g_aload_n (pc' := 95) B 3 rfl rfl dX11_drift_94 rfl ?_
              refine g_getR (pc' := 98) B 31 fl_X11_33 rfl rfl dX11_drift_95 rfl ?_
              refine g_aload_n (pc' := 99) B 3 rfl rfl dX11_drift_98 rfl ?_
              refine g_getV (pc' := 102) B b (vr hcb83) fl_X11_19 rfl rfl dX11_drift_99 rfl ?_
              refine g_iload (pc' := 104) B 0 rfl dX11_drift_102 rfl ?_
              refine g_callVI (pc' := 107) (As := [.ref (K.2.2 b), .int (iI (sdn (sdn (Q9 5 4)) / 65536 % 3))]) B (c_X5_canGo l K _ (u := 31) (S := Q9 5 0) (X := Q9 5 1) (L := Q9 5 2) (P := Q9 5 3) (b := b) (D := D) (w := sdn (sdn (Q9 5 4)) / 65536 % 3) (by omega) hm83 hb hS83 hF hH hO (by omega) (by omega) (by omega)) vt_X5_canGo tw_592 rfl rfl ⟨by decide, by decide⟩ rfl (Nat.le_of_ble_eq_true rfl) ⟨Nat.zero_le _, Nat.zero_le _⟩ rfl dX11_drift_104 rfl (fun z104 τ104 h104 => ?_)
              obtain ⟨rfl, h104⟩ := h104
              rcases h104 with ⟨h104, rfl⟩ | ⟨h104, rfl⟩
              · refine g_if_eq (pc' := 110) B 115 (by omega) dX11_drift_107 (by decide) rfl (fun q => absurd q (by decide)) (fun _ => ?_)
                refine g_iload (pc' := 112) B 0 rfl dX11_drift_110 rfl ?_
                refine g_goto (pc' := 116) B dX11_drift_112 (by decide) ?_
                refine g_iload_n (pc' := 117) B 1 rfl rfl dX11_drift_116 rfl ?_
                refine g_callVI (pc' := 120) (As := [.ref (K.2.2 b), .int (iI (sdn (sdn (Q9 5 4)) / 65536 % 3)), .int (iI 0)]) B (c_X5_go l K _ (u := 31) (S := Q9 5 0) (X := Q9 5 1) (L := Q9 5 2) (P := Q9 5 3) (b := b) (D := D) (w := sdn (sdn (Q9 5 4)) / 65536 % 3) (h := 0) (by omega) hm83 hb hS83 hF hH (by omega) (by omega) (by omega) (by first | exact h104.2.1 | (rw [bes0]; exact i42)) (by omega)) vt_X5_go tw_606 rfl rfl ⟨by decide, by decide⟩ rfl (Nat.le_of_ble_eq_true rfl) ⟨Nat.zero_le _, Nat.zero_le _⟩ rfl dX11_drift_117 rfl (fun z117 τ117 h117 => ?_)
                obtain ⟨h117a, h117b⟩ := h117
                subst h117a
                subst h117b
                refine g_pop (pc' := 121) B rfl dX11_drift_120 rfl ?_
                refine g_iinc (pc' := 124) B 2 [(2, .int (iI (i + 1))), (4, .int (iI (sdn (sdn (Q9 5 4)) / 65536 % 3))), (3, .int (iI 0)), (0, .ref (K.2.2 0)), (1, .int (iI n))] dX11_drift_121 rfl rfl (by decide) rfl ?_
                refine g_goto (pc' := 48) B dX11_drift_124 (by decide) ?_
                refine g_loc B [(2, .int (iI (i + 1))), (0, .ref (K.2.2 0)), (1, .int (iI n))] [0, 3, 4] rfl ?_
                exact ih48 _ (by omega) (up (up (up (up τ83 31 0 ((Q9 5 0) + 1)) 31 1 ((Q9 5 1) + (if 0 = 0 then 1 else 0))) 31 2 (bes (Q9 5 2) (sdn (sdn (Q9 5 4)) / 65536 % 3))) 31 3 ((Q9 5 3) + max 0 (hgt D (bes (Q9 5 2) (sdn (sdn (Q9 5 4)) / 65536 % 3)) ((Q9 5 1) + (if 0 = 0 then 1 else 0)) - hgt D (Q9 5 2) ((Q9 5 1) + (if 0 = 0 then 1 else 0))))) (i + 1) (dfN D Q9) rfl (by omega) (by rw [i2]; exact dfI_next D Q (by omega)) (by exact dV_next h83a hs83 (by first | exact if_pos c59 | exact if_neg c59) (by first | exact cif_pos h104 | exact cif_neg h104)) (by exact dB_next i4) (by show Q9 5 0 + 1 = _; omega) (by intro k a c; rw [up_row (by omega), up_row (by omega), up_row (by omega), up_row (by omega), h83b k (by omega), up_row (by omega), up_row (by omega)]; exact i6 k a c) (by intro j a; rw [up_row (by omega), up_row (by omega), up_row (by omega), up_row (by omega), h83b 0 (by omega), up_col a, up_col a]; exact i7 j a)
              · refine g_if_eq (pc' := 110) B 115 (by omega) dX11_drift_107 (by decide) rfl (fun _ => ?_) (fun q => absurd q (by decide))
                refine g_iconst (pc' := 116) B dX11_drift_115 rfl ?_
                refine g_iload_n (pc' := 117) B 1 rfl rfl dX11_drift_116 rfl ?_
                refine g_callVI (pc' := 120) (As := [.ref (K.2.2 b), .int (iI 0), .int (iI 0)]) B (c_X5_go l K _ (u := 31) (S := Q9 5 0) (X := Q9 5 1) (L := Q9 5 2) (P := Q9 5 3) (b := b) (D := D) (w := 0) (h := 0) (by omega) hm83 hb hS83 hF hH (by omega) (by omega) (by omega) (by first | exact h104.2.1 | (rw [bes0]; exact i42)) (by omega)) vt_X5_go tw_606 rfl rfl ⟨by decide, by decide⟩ rfl (Nat.le_of_ble_eq_true rfl) ⟨Nat.zero_le _, Nat.zero_le _⟩ rfl dX11_drift_117 rfl (fun z117 τ117 h117 => ?_)
                obtain ⟨h117a, h117b⟩ := h117
                subst h117a
                subst h117b
                refine g_pop (pc' := 121) B rfl dX11_drift_120 rfl ?_
                refine g_iinc (pc' := 124) B 2 [(2, .int (iI (i + 1))), (4, .int (iI (sdn (sdn (Q9 5 4)) / 65536 % 3))), (3, .int (iI 0)), (0, .ref (K.2.2 0)), (1, .int (iI n))] dX11_drift_121 rfl rfl (by decide) rfl ?_
                refine g_goto (pc' := 48) B dX11_drift_124 (by decide) ?_
                refine g_loc B [(2, .int (iI (i + 1))), (0, .ref (K.2.2 0)), (1, .int (iI n))] [0, 3, 4] rfl ?_
                exact ih48 _ (by omega) (up (up (up (up τ83 31 0 ((Q9 5 0) + 1)) 31 1 ((Q9 5 1) + (if 0 = 0 then 1 else 0))) 31 2 (bes (Q9 5 2) 0)) 31 3 ((Q9 5 3) + max 0 (hgt D (bes (Q9 5 2) 0) ((Q9 5 1) + (if 0 = 0 then 1 else 0)) - hgt D (Q9 5 2) ((Q9 5 1) + (if 0 = 0 then 1 else 0))))) (i + 1) (dfN D Q9) rfl (by omega) (by rw [i2]; exact dfI_next D Q (by omega)) (by exact dV_next h83a hs83 (by first | exact if_pos c59 | exact if_neg c59) (by first | exact cif_pos h104 | exact cif_neg h104)) (by exact dB_next i4) (by show Q9 5 0 + 1 = _; omega) (by intro k a c; rw [up_row (by omega), up_row (by omega), up_row (by omega), up_row (by omega), h83b k (by omega), up_row (by omega), up_row (by omega)]; exact i6 k a c) (by intro j a; rw [up_row (by omega), up_row (by omega), up_row (by omega), up_row (by omega), h83b 0 (by omega), up_col a, up_col a]; exact i7 j a)
            · refine g_iconst (pc' := 63) B dX11_drift_62 rfl ?_
              refine g_goto (pc' := 67) B dX11_drift_63 (by decide) ?_
              refine g_istore_n (pc' := 68) B [(3, .int (iI 1)), (2, .int (iI i)), (0, .ref (K.2.2 0)), (1, .int (iI n))] dX11_drift_67 rfl rfl (by decide) rfl ?_
              refine g_aload_n (pc' := 69) B 2 rfl rfl dX11_drift_68 rfl ?_
              refine g_iconst (pc' := 70) B dX11_drift_69 rfl ?_
              refine g_callVI (pc' := 73) (As := [.int (iI 3)]) B (c_X11_draw l K _ (n := 3) (v := sdn (Q9 5 4)) (by simp [up]) (by omega) (by omega)) vt_X11_draw tw_624 rfl rfl ⟨by decide, by decide⟩ rfl (Nat.le_of_ble_eq_true rfl) ⟨Nat.zero_le _, Nat.zero_le _⟩ rfl dX11_drift_70 rfl (fun z70 τ70 h70 => ?_)
              obtain ⟨h70a, h70b⟩ := h70
              subst h70a
              subst h70b
              refine g_istore (pc' := 75) B [(4, .int (iI (sdn (sdn (Q9 5 4)) / 65536 % 3))), (3, .int (iI 1)), (2, .int (iI i)), (0, .ref (K.2.2 0)), (1, .int (iI n))] dX11_drift_73 rfl (by decide) rfl ?_
              refine g_aload_n (pc' := 76) B 3 rfl rfl dX11_drift_75 rfl ?_
              refine g_getR (pc' := 79) B 32 fl_X11_40 rfl rfl dX11_drift_76 rfl ?_
              refine g_aload_n (pc' := 80) B 3 rfl rfl dX11_drift_79 rfl ?_
              refine g_getR (pc' := 83) B 31 fl_X11_33 rfl rfl dX11_drift_80 rfl ?_
              refine g_callVV (pc' := 86) (As := [.ref (K.2.2 31)]) B (c_X10_note l K _ (T := Q9) (S := Q9 5 0) (X := Q9 5 1) (L := Q9 5 2) (P := Q9 5 3) (i3.1.keep (fun k a c => by rw [up_row (by omega), up_row (by omega)])) (by rw [up_row (by decide), up_row (by decide)]; exact i3.2.1)) vt_X10_note tw_578 rfl rfl ⟨by decide, by decide⟩ rfl (Nat.le_of_ble_eq_true rfl) ⟨Nat.zero_le _, Nat.zero_le _⟩ rfl dX11_drift_83 rfl (fun τ83 h83 => ?_)
              obtain ⟨h83a, h83b⟩ := h83
              have hm83 : τ83 31 0 = Q9 5 0 ∧ τ83 31 1 = Q9 5 1 ∧ τ83 31 2 = Q9 5 2 ∧ τ83 31 3 = Q9 5 3 := by rw [h83b 31 (by omega), up_row (by decide), up_row (by decide)]; exact i3.2.1
              have hS83 : sD τ83 b D := hS.keep (fun k a c => by rw [h83b k (by omega), up_row (by omega), up_row (by omega)]; exact i6 k (by omega) (by omega))
              have hcb83 : τ83 0 1 = ((b : Nat) : Int) := by rw [h83b 0 (by omega), up_col (by decide), up_col (by decide), i7 1 (by decide)]; exact hcb
              have hs83 : τ83 0 12 = sdn (sdn (Q9 5 4)) := by rw [h83b 0 (by omega), up_same]
              refine g_aload_n (pc' := 87) B 3 rfl rfl dX11_drift_86 rfl ?_
              refine g_getR (pc' := 90) B 31 fl_X11_33 rfl rfl dX11_drift_87 rfl ?_
              refine g_aload_n (pc' := 91) B 3 rfl rfl dX11_drift_90 rfl ?_
              refine g_getV (pc' := 94) B b (vr hcb83) fl_X11_19 rfl rfl dX11_drift_91 rfl ?_
              refine g_aload_n (pc' := 95) B 3 rfl rfl dX11_drift_94 rfl ?_
              refine g_getR (pc' := 98) B 31 fl_X11_33 rfl rfl dX11_drift_95 rfl ?_
              refine g_aload_n (pc' := 99) B 3 rfl rfl dX11_drift_98 rfl ?_
              refine g_getV (pc' := 102) B b (vr hcb83) fl_X11_19 rfl rfl dX11_drift_99 rfl ?_
              refine g_iload (pc' := 104) B 0 rfl dX11_drift_102 rfl ?_
              refine g_callVI (pc' := 107) (As := [.ref (K.2.2 b), .int (iI (sdn (sdn (Q9 5 4)) / 65536 % 3))]) B (c_X5_canGo l K _ (u := 31) (S := Q9 5 0) (X := Q9 5 1) (L := Q9 5 2) (P := Q9 5 3) (b := b) (D := D) (w := sdn (sdn (Q9 5 4)) / 65536 % 3) (by omega) hm83 hb hS83 hF hH hO (by omega) (by omega) (by omega)) vt_X5_canGo tw_592 rfl rfl ⟨by decide, by decide⟩ rfl (Nat.le_of_ble_eq_true rfl) ⟨Nat.zero_le _, Nat.zero_le _⟩ rfl dX11_drift_104 rfl (fun z104 τ104 h104 => ?_)
              obtain ⟨rfl, h104⟩ := h104
              rcases h104 with ⟨h104, rfl⟩ | ⟨h104, rfl⟩
              · refine g_if_eq (pc' := 110) B 115 (by omega) dX11_drift_107 (by decide) rfl (fun q => absurd q (by decide)) (fun _ => ?_)
                refine g_iload (pc' := 112) B 0 rfl dX11_drift_110 rfl ?_
                refine g_goto (pc' := 116) B dX11_drift_112 (by decide) ?_
                refine g_iload_n (pc' := 117) B 1 rfl rfl dX11_drift_116 rfl ?_
                refine g_callVI (pc' := 120) (As := [.ref (K.2.2 b), .int (iI (sdn (sdn (Q9 5 4)) / 65536 % 3)), .int (iI 1)]) B (c_X5_go l K _ (u := 31) (S := Q9 5 0) (X := Q9 5 1) (L := Q9 5 2) (P := Q9 5 3) (b := b) (D := D) (w := sdn (sdn (Q9 5 4)) / 65536 % 3) (h := 1) (by omega) hm83 hb hS83 hF hH (by omega) (by omega) (by omega) (by first | exact h104.2.1 | (rw [bes0]; exact i42)) (by omega)) vt_X5_go tw_606 rfl rfl ⟨by decide, by decide⟩ rfl (Nat.le_of_ble_eq_true rfl) ⟨Nat.zero_le _, Nat.zero_le _⟩ rfl dX11_drift_117 rfl (fun z117 τ117 h117 => ?_)
                obtain ⟨h117a, h117b⟩ := h117
                subst h117a
                subst h117b
                refine g_pop (pc' := 121) B rfl dX11_drift_120 rfl ?_
                refine g_iinc (pc' := 124) B 2 [(2, .int (iI (i + 1))), (4, .int (iI (sdn (sdn (Q9 5 4)) / 65536 % 3))), (3, .int (iI 1)), (0, .ref (K.2.2 0)), (1, .int (iI n))] dX11_drift_121 rfl rfl (by decide) rfl ?_
                refine g_goto (pc' := 48) B dX11_drift_124 (by decide) ?_
                refine g_loc B [(2, .int (iI (i + 1))), (0, .ref (K.2.2 0)), (1, .int (iI n))] [0, 3, 4] rfl ?_
                exact ih48 _ (by omega) (up (up (up (up τ83 31 0 ((Q9 5 0) + 1)) 31 1 ((Q9 5 1) + (if 1 = 0 then 1 else 0))) 31 2 (bes (Q9 5 2) (sdn (sdn (Q9 5 4)) / 65536 % 3))) 31 3 ((Q9 5 3) + max 0 (hgt D (bes (Q9 5 2) (sdn (sdn (Q9 5 4)) / 65536 % 3)) ((Q9 5 1) + (if 1 = 0 then 1 else 0)) - hgt D (Q9 5 2) ((Q9 5 1) + (if 1 = 0 then 1 else 0))))) (i + 1) (dfN D Q9) rfl (by omega) (by rw [i2]; exact dfI_next D Q (by omega)) (by exact dV_next h83a hs83 (by first | exact if_pos c59 | exact if_neg c59) (by first | exact cif_pos h104 | exact cif_neg h104)) (by exact dB_next i4) (by show Q9 5 0 + 1 = _; omega) (by intro k a c; rw [up_row (by omega), up_row (by omega), up_row (by omega), up_row (by omega), h83b k (by omega), up_row (by omega), up_row (by omega)]; exact i6 k a c) (by intro j a; rw [up_row (by omega), up_row (by omega), up_row (by omega), up_row (by omega), h83b 0 (by omega), up_col a, up_col a]; exact i7 j a)
              · refine g_if_eq (pc' := 110) B 115 (by omega) dX11_drift_107 (by decide) rfl (fun _ => ?_) (fun q => absurd q (by decide))
                refine g_iconst (pc' := 116) B dX11_drift_115 rfl ?_
                refine g_iload_n (pc' := 117) B 1 rfl rfl dX11_drift_116 rfl ?_
                refine g_callVI (pc' := 120) (As := [.ref (K.2.2 b), .int (iI 0), .int (iI 1)]) B (c_X5_go l K _ (u := 31) (S := Q9 5 0) (X := Q9 5 1) (L := Q9 5 2) (P := Q9 5 3) (b := b) (D := D) (w := 0) (h := 1) (by omega) hm83 hb hS83 hF hH (by omega) (by omega) (by omega) (by first | exact h104.2.1 | (rw [bes0]; exact i42)) (by omega)) vt_X5_go tw_606 rfl rfl ⟨by decide, by decide⟩ rfl (Nat.le_of_ble_eq_true rfl) ⟨Nat.zero_le _, Nat.zero_le _⟩ rfl dX11_drift_117 rfl (fun z117 τ117 h117 => ?_)
                obtain ⟨h117a, h117b⟩ := h117
                subst h117a
                subst h117b
                refine g_pop (pc' := 121) B rfl dX11_drift_120 rfl ?_
                refine g_iinc (pc' := 124) B 2 [(2, .int (iI (i + 1))), (4, .int (iI (sdn (sdn (Q9 5 4)) / 65536 % 3))), (3, .int (iI 1)), (0, .ref (K.2.2 0)), (1, .int (iI n))] dX11_drift_121 rfl rfl (by decide) rfl ?_
                refine g_goto (pc' := 48) B dX11_drift_124 (by decide) ?_
                refine g_loc B [(2, .int (iI (i + 1))), (0, .ref (K.2.2 0)), (1, .int (iI n))] [0, 3, 4] rfl ?_
                exact ih48 _ (by omega) (up (up (up (up τ83 31 0 ((Q9 5 0) + 1)) 31 1 ((Q9 5 1) + (if 1 = 0 then 1 else 0))) 31 2 (bes (Q9 5 2) 0)) 31 3 ((Q9 5 3) + max 0 (hgt D (bes (Q9 5 2) 0) ((Q9 5 1) + (if 1 = 0 then 1 else 0)) - hgt D (Q9 5 2) ((Q9 5 1) + (if 1 = 0 then 1 else 0))))) (i + 1) (dfN D Q9) rfl (by omega) (by rw [i2]; exact dfI_next D Q (by omega)) (by exact dV_next h83a hs83 (by first | exact if_pos c59 | exact if_neg c59) (by first | exact cif_pos h104 | exact cif_neg h104)) (by exact dB_next i4) (by show Q9 5 0 + 1 = _; omega) (by intro k a c; rw [up_row (by omega), up_row (by omega), up_row (by omega), up_row (by omega), h83b k (by omega), up_row (by omega), up_row (by omega)]; exact i6 k a c) (by intro j a; rw [up_row (by omega), up_row (by omega), up_row (by omega), up_row (by omega), h83b 0 (by omega), up_col a, up_col a]; exact i7 j a)
      exact L48 _ σ 0 Q rfl (by omega) (by rfl) (by exact hV) (by exact ⟨by omega, hLr (by omega), hvr⟩) (by simp) (by intro k a c; rfl) (by intro j a; rfl)
    · refine g_ldc (z := (-1000000003)) (pc' := 28) B tw_605 (by decide +kernel) dX11_drift_26 rfl ?_
      exact g_iret (z := (-1000000003)) B hrt rfl hlk dX11_drift_28 (Or.inr (Or.inl ⟨h4, c23, rfl, rfl⟩))
