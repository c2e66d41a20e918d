theorem meD.keep {σ τ E : SG} (h : meD σ E) (e1 : τ 57 25 = σ 57 25) (e2 : τ 66 = σ 66) (e3 : τ 67 = σ 67) : meD τ E := by
  unfold meD at *
  rw [e1, e2, e3]; exact h
theorem pcM_next {E : SG} {w t m : Int} (h : 0 ≤ m) : pcw E w t (m + 1).toNat = pcw E w t m.toNat + (if tm w m = t then qb E m else 0) := by
  rw [show (m + 1).toNat = m.toNat + 1 by omega]
  show pcw E w t m.toNat + (if tm w ((m.toNat : Nat) : Int) = t then qb E ((m.toNat : Nat) : Int) else 0) = _
  rw [show ((m.toNat : Nat) : Int) = m by omega]
theorem gmM_next {E : SG} {w m : Int} (h : 0 ≤ m) : gm E w (m + 1).toNat = max (gm E w m.toNat) (pcw E w (tm w m) m.toNat + qb E m) := by
  have e := pcM_next (E := E) (w := w) (t := tm w m) h
  rw [if_pos rfl] at e
  rw [← e, show (m + 1).toNat = m.toNat + 1 by omega]
  show max (gm E w m.toNat) (pcw E w (tm w ((m.toNat : Nat) : Int)) (m.toNat + 1)) = _
  rw [show ((m.toNat : Nat) : Int) = m by omega]
theorem tm_at {w g a : Int} (h : 0 ≤ a ∧ a < 31) : tm w (31 * g + a) = (8 + a) - ((w - g).natAbs : Int) := by
  unfold tm
  rw [show (31 * g + a) / 31 = g by omega, show (31 * g + a) % 31 = a by omega]
  omega
set_option maxRecDepth 100000 in
set_option maxHeartbeats 4000000 in
theorem c_X12_couldBegin (l : Launch) (K : WK) (σ : SG) {E : SG} (hE : meD σ E) {f a : Int} (hf : 0 ≤ f ∧ f ≤ 7) (ha : 0 ≤ a ∧ a ≤ 30) : MI l yX12_couldBegin cX12_couldBegin 5 (some .boolean) 1 20 K σ [.ref (K.2.2 57), .int (iI f), .int (iI a)] (fun z τ => σ = τ ∧ ((xpl E f a ∧ z = 1) ∨ (¬ (xpl E f a) ∧ z = 0))) := by
  refine met_of [(0, .ref (K.2.2 57)), (1, .int (iI f)), (2, .int (iI a))] (by decide +kernel) (Nat.le_of_ble_eq_true rfl) rfl ?_
  intro pP eE sS mM bW mT cC B hrt hlk
  replace B : CB pP sS mM [.ref (K.2.2 57), .int (iI f), .int (iI a)].toArray cC cX12_couldBegin RX12 5 K := B
  obtain ⟨hE1, hE2, hE3⟩ := id hE
  refine g_iconst (pc' := 1) B dX12_couldBegin_0 rfl ?_
  refine g_istore_n (pc' := 2) B [(3, .int (iI 1)), (0, .ref (K.2.2 57)), (1, .int (iI f)), (2, .int (iI a))] dX12_couldBegin_1 rfl rfl (by decide) rfl ?_
  refine g_iconst (pc' := 3) B dX12_couldBegin_2 rfl ?_
  refine g_istore (pc' := 5) B [(4, .int (iI 0)), (3, .int (iI 1)), (0, .ref (K.2.2 57)), (1, .int (iI f)), (2, .int (iI a))] dX12_couldBegin_3 rfl (by decide) rfl ?_
  have L5 : ∀ (nn : Nat) (c k : Int) , (E 2 0 - k).toNat = nn → (0 ≤ k ∧ k ≤ E 2 0) → (c = 0 ∨ c = 1) → (c = 0 → ¬ xpl E f a) → (c = 1 → ∀ y : Int, 0 ≤ y → y < k → a - ((f - E 0 y).natAbs : Int) = E 1 y) → G pP l eE (rmo 1 20) sS mM [.ref (K.2.2 57), .int (iI f), .int (iI a)].toArray bW mT cC 0 0 (MQ bW (Qi K (fun z τ => σ = τ ∧ ((xpl E f a ∧ z = 1) ∨ (¬ (xpl E f a) ∧ z = 0)))) [.ref (K.2.2 57), .int (iI f), .int (iI a)].toArray sS 0 0 (wA K)) K sS.heap 5 σ 5 [(4, .int (iI k)), (3, .int (iI c)), (0, .ref (K.2.2 57)), (1, .int (iI f)), (2, .int (iI a))] [] := by
    intro nn
    induction nn using Nat.strongRecOn with
    | _ nn ih5 =>
      intro c k hn5 i1 i2 i3 i4
      refine g_iload (pc' := 7) B 0 rfl dX12_couldBegin_5 rfl ?_
      refine g_aload_n (pc' := 8) B 2 rfl rfl dX12_couldBegin_7 rfl ?_
      refine g_get (pc' := 11) B (E 2 0) hE.1 fl_X12_140 rfl rfl dX12_couldBegin_8 rfl ?_
      refine g_icmp_ge (pc' := 14) B 54 (by omega) (by omega) dX12_couldBegin_11 (by decide) rfl (fun c11 => ?_) (fun c11 => ?_)
      · refine g_iload_n (pc' := 55) B 1 rfl rfl dX12_couldBegin_54 rfl ?_
        exact g_iret (z := c) B hrt (nb_z (by omega)) hlk dX12_couldBegin_55 ⟨rfl, by rcases i2 with e9 | e9; exact Or.inr ⟨i3 e9, e9⟩; exact Or.inl ⟨fun y a9 b9 => i4 e9 y a9 (by omega), e9⟩⟩
      · refine g_iload_n (pc' := 15) B 1 rfl rfl dX12_couldBegin_14 rfl ?_
        refine g_if_eq (pc' := 18) B 54 (by omega) dX12_couldBegin_15 (by decide) rfl (fun c15 => ?_) (fun c15 => ?_)
        · refine g_iload_n (pc' := 55) B 1 rfl rfl dX12_couldBegin_54 rfl ?_
          exact g_iret (z := c) B hrt (nb_z (by omega)) hlk dX12_couldBegin_55 ⟨rfl, by rcases i2 with e9 | e9; exact Or.inr ⟨i3 e9, e9⟩; exact Or.inl ⟨fun y a9 b9 => i4 e9 y a9 (by omega), e9⟩⟩
        · have hk9 := hE3 k (by omega) (by omega)
          refine g_iload_n (pc' := 19) B 4 rfl rfl dX12_couldBegin_18 rfl ?_
          refine g_aload_n (pc' := 20) B 2 rfl rfl dX12_couldBegin_19 rfl ?_
          refine g_getR (pc' := 23) B 66 fl_X12_42 rfl rfl dX12_couldBegin_20 rfl ?_
          refine g_iload (pc' := 25) B 0 rfl dX12_couldBegin_23 rfl ?_
          refine g_iald (pc' := 26) B (E 0 k) (hE.2.2 k (by omega) (by omega)).1 rfl (by omega) (by decide) dX12_couldBegin_25 rfl ?_
          refine g_iload_n (pc' := 27) B 3 rfl rfl dX12_couldBegin_26 rfl ?_
          refine g_isub (pc' := 28) B dX12_couldBegin_27 rfl ?_
          refine g_callSI (pc' := 31) (As := [.int (iI ((E 0 k) - f))]) B (c_X12_size l K _ (v := (E 0 k) - f) (by omega)) st_X12_size tw_1122 ⟨by decide, by decide⟩ rfl (Nat.le_of_ble_eq_true rfl) ⟨Nat.zero_le _, Nat.zero_le _⟩ rfl dX12_couldBegin_28 rfl (fun z28 τ28 h28 => ?_)
          obtain ⟨rfl, rfl⟩ := h28
          refine g_isub (pc' := 32) B dX12_couldBegin_31 rfl ?_
          refine g_aload_n (pc' := 33) B 2 rfl rfl dX12_couldBegin_32 rfl ?_
          refine g_getR (pc' := 36) B 67 fl_X12_45 rfl rfl dX12_couldBegin_33 rfl ?_
          refine g_iload (pc' := 38) B 0 rfl dX12_couldBegin_36 rfl ?_
          refine g_iald (pc' := 39) B (E 1 k) (hE.2.2 k (by omega) (by omega)).2.1 rfl (by omega) (by decide) dX12_couldBegin_38 rfl ?_
          refine g_icmp_ne (pc' := 42) B 46 (by omega) (by omega) dX12_couldBegin_39 (by decide) rfl (fun c39 => ?_) (fun c39 => ?_)
          · refine g_iconst (pc' := 47) B dX12_couldBegin_46 rfl ?_
            refine g_istore_n (pc' := 48) B [(3, .int (iI 0)), (4, .int (iI k)), (0, .ref (K.2.2 57)), (1, .int (iI f)), (2, .int (iI a))] dX12_couldBegin_47 rfl rfl (by decide) rfl ?_
            refine g_iinc (pc' := 51) B 1 [(4, .int (iI (k + 1))), (3, .int (iI 0)), (0, .ref (K.2.2 57)), (1, .int (iI f)), (2, .int (iI a))] dX12_couldBegin_48 rfl rfl (by decide) rfl ?_
            refine g_goto (pc' := 5) B dX12_couldBegin_51 (by decide) ?_
            exact ih5 _ (by omega) 0 (k + 1) rfl (by omega) (by omega) (by intro q9; first | (exfalso; omega) | exact fun q8 => by have q7 := q8 k (by omega) (by omega); omega) (by intro q9 y a9 b9; first | (exfalso; omega) | (by_cases e9 : y = k; (subst e9; omega); exact i4 (by omega) y a9 (by omega)))
          · refine g_iconst (pc' := 43) B dX12_couldBegin_42 rfl ?_
            refine g_goto (pc' := 47) B dX12_couldBegin_43 (by decide) ?_
            refine g_istore_n (pc' := 48) B [(3, .int (iI 1)), (4, .int (iI k)), (0, .ref (K.2.2 57)), (1, .int (iI f)), (2, .int (iI a))] dX12_couldBegin_47 rfl rfl (by decide) rfl ?_
            refine g_iinc (pc' := 51) B 1 [(4, .int (iI (k + 1))), (3, .int (iI 1)), (0, .ref (K.2.2 57)), (1, .int (iI f)), (2, .int (iI a))] dX12_couldBegin_48 rfl rfl (by decide) rfl ?_
            refine g_goto (pc' := 5) B dX12_couldBegin_51 (by decide) ?_
            exact ih5 _ (by omega) 1 (k + 1) rfl (by omega) (by omega) (by intro q9; first | (exfalso; omega) | exact fun q8 => by have q7 := q8 k (by omega) (by omega); omega) (by intro q9 y a9 b9; first | (exfalso; omega) | (by_cases e9 : y = k; (subst e9; omega); exact i4 (by omega) y a9 (by omega)))
  exact L5 _ 1 0 rfl (by omega) (by omega) (by intro q9; exfalso; omega) (by intro q9 y a b; omega)
set_option maxRecDepth 100000 in
set_option maxHeartbeats 4000000 in
theorem c_X12_began (l : Launch) (K : WK) (σ : SG) {D : SG} (hM : mD σ D) (hF : okF D) (hR : okR D) (hO : okQ D) (hH : okH D) {E : SG} (hE : meD σ E) {i : Int} (hi : -2147483648 ≤ i ∧ i < 2147483648) : MI l yX12_began cX12_began 5 (some .int) 2 44 K σ [.ref (K.2.2 57), .int (iI i)] (fun z τ => σ = τ ∧ isB E (31 * D 9 0).toNat i z) := by
  refine met_of [(0, .ref (K.2.2 57)), (1, .int (iI i))] (by decide +kernel) (Nat.le_of_ble_eq_true rfl) rfl ?_
  intro pP eE sS mM bW mT cC B hrt hlk
  replace B : CB pP sS mM [.ref (K.2.2 57), .int (iI i)].toArray cC cX12_began RX12 5 K := B
  obtain ⟨hF0, hF1⟩ := id hF
  obtain ⟨hO0, hO1⟩ := id hO
  obtain ⟨hH0, hH1⟩ := id hH
  obtain ⟨hR0, hR1⟩ := id hR
  refine g_iconst (pc' := 1) B dX12_began_0 rfl ?_
  refine g_istore_n (pc' := 2) B [(2, .int (iI 0)), (0, .ref (K.2.2 57)), (1, .int (iI i))] dX12_began_1 rfl rfl (by decide) rfl ?_
  refine g_iconst (pc' := 3) B dX12_began_2 rfl ?_
  refine g_istore_n (pc' := 4) B [(3, .int (iI 0)), (2, .int (iI 0)), (0, .ref (K.2.2 57)), (1, .int (iI i))] dX12_began_3 rfl rfl (by decide) rfl ?_
  have L4 : ∀ (nn : Nat) (n g : Int) , (D 9 0 - g).toNat = nn → (0 ≤ g ∧ g ≤ D 9 0) → (n = cn E (31 * g).toNat) → (∀ m : Nat, (m : Int) < 31 * g → qb E m = 1 → cn E m ≠ i) → G pP l eE (rmo 2 44) sS mM [.ref (K.2.2 57), .int (iI i)].toArray bW mT cC 0 0 (MQ bW (Qi K (fun z τ => σ = τ ∧ isB E (31 * D 9 0).toNat i z)) [.ref (K.2.2 57), .int (iI i)].toArray sS 0 0 (wA K)) K sS.heap 5 σ 4 [(3, .int (iI g)), (2, .int (iI n)), (0, .ref (K.2.2 57)), (1, .int (iI i))] [] := by
    intro nn
    induction nn using Nat.strongRecOn with
    | _ nn ih4 =>
      intro n g hn4 i1 i2 i3
      have hcn := cn_bd E (31 * g).toNat
      rw [← i2] at hcn
      refine g_iload_n (pc' := 5) B 0 rfl rfl dX12_began_4 rfl ?_
      refine g_aload_n (pc' := 6) B 2 rfl rfl dX12_began_5 rfl ?_
      refine g_get (pc' := 9) B (D 9 0) hM.1 fl_X12_131 rfl rfl dX12_began_6 rfl ?_
      refine g_icmp_ge (pc' := 12) B 60 (by omega) (by omega) dX12_began_9 (by decide) rfl (fun c9 => ?_) (fun c9 => ?_)
      · refine g_iload_n (pc' := 61) B 3 rfl rfl dX12_began_60 rfl ?_
        refine g_iconst (pc' := 62) B dX12_began_61 rfl ?_
        refine g_icmp_ne (pc' := 65) B 69 (by omega) (by omega) dX12_began_62 (by decide) rfl (fun c62 => ?_) (fun c62 => ?_)
        · refine g_iconst (pc' := 70) B dX12_began_69 rfl ?_
          exact g_iret (z := (-1)) B hrt rfl hlk dX12_began_70 ⟨rfl, Or.inr ⟨c62, Or.inr ⟨rfl, fun m a9 b9 => i3 m (by omega) b9⟩⟩⟩
        · refine g_iload_n (pc' := 66) B 1 rfl rfl dX12_began_65 rfl ?_
          refine g_goto (pc' := 70) B dX12_began_66 (by decide) ?_
          exact g_iret (z := n) B hrt rfl hlk dX12_began_70 ⟨rfl, Or.inl ⟨c62, by rw [i2, show g = D 9 0 by omega]⟩⟩
      · refine g_iconst (pc' := 13) B dX12_began_12 rfl ?_
        refine g_istore (pc' := 15) B [(4, .int (iI 0)), (3, .int (iI g)), (2, .int (iI n)), (0, .ref (K.2.2 57)), (1, .int (iI i))] dX12_began_13 rfl (by decide) rfl ?_
        have L15 : ∀ (nn : Nat) (m a : Int) , (31 - a).toNat = nn → (0 ≤ a ∧ a ≤ 31) → (m = cn E (31 * g + a).toNat) → (∀ y : Nat, (y : Int) < 31 * g + a → qb E y = 1 → cn E y ≠ i) → G pP l eE (rmo 2 44) sS mM [.ref (K.2.2 57), .int (iI i)].toArray bW mT cC 0 0 (MQ bW (Qi K (fun z τ => σ = τ ∧ isB E (31 * D 9 0).toNat i z)) [.ref (K.2.2 57), .int (iI i)].toArray sS 0 0 (wA K)) K sS.heap 5 σ 15 [(4, .int (iI a)), (3, .int (iI g)), (2, .int (iI m)), (0, .ref (K.2.2 57)), (1, .int (iI i))] [] := by
          intro nn
          induction nn using Nat.strongRecOn with
          | _ nn ih15 =>
            intro m a hn15 j1 j2 j3
            have hcm := cn_bd E (31 * g + a).toNat
            rw [← j2] at hcm
            refine g_iload (pc' := 17) B 0 rfl dX12_began_15 rfl ?_
            refine g_bipush (pc' := 19) B (by decide +kernel) dX12_began_17 rfl ?_
            refine g_icmp_gt (pc' := 22) B 54 (by omega) (by omega) dX12_began_19 (by decide) rfl (fun c19 => ?_) (fun c19 => ?_)
            · refine g_iinc (pc' := 57) B 1 [(3, .int (iI (g + 1))), (4, .int (iI a)), (2, .int (iI m)), (0, .ref (K.2.2 57)), (1, .int (iI i))] dX12_began_54 rfl rfl (by decide) rfl ?_
              refine g_goto (pc' := 4) B dX12_began_57 (by decide) ?_
              refine g_loc B [(3, .int (iI (g + 1))), (2, .int (iI m)), (0, .ref (K.2.2 57)), (1, .int (iI i))] [0, 2, 3, 4] rfl ?_
              exact ih4 _ (by omega) m (g + 1) rfl (by omega) (by rw [j2, show 31 * g + a = 31 * (g + 1) by omega]) (by intro m a9 b9; exact j3 m (by omega) b9)
            · refine g_aload_n (pc' := 23) B 3 rfl rfl dX12_began_22 rfl ?_
              refine g_iload_n (pc' := 24) B 1 rfl rfl dX12_began_23 rfl ?_
              refine g_iload (pc' := 26) B 0 rfl dX12_began_24 rfl ?_
              refine g_callVI (pc' := 29) (As := [.int (iI g), .int (iI a)]) B (c_X12_couldBegin l K _ (E := E) (f := g) (a := a) hE (by omega) (by omega)) vt_X12_couldBegin tw_1291 rfl rfl ⟨by decide, by decide⟩ rfl (Nat.le_of_ble_eq_true rfl) ⟨Nat.zero_le _, Nat.zero_le _⟩ rfl dX12_began_26 rfl (fun z26 τ26 h26 => ?_)
              obtain ⟨rfl, h26⟩ := h26
              rcases h26 with ⟨h26, rfl⟩ | ⟨h26, rfl⟩
              · have hqb : qb E (31 * g + a) = 1 := by unfold qb; rw [show (31 * g + a) / 31 = g by omega, show (31 * g + a) % 31 = a by omega]; exact cif_pos h26
                refine g_if_eq (pc' := 32) B 48 (by omega) dX12_began_29 (by decide) rfl (fun q => absurd q (by decide)) (fun _ => ?_)
                refine g_iload_n (pc' := 33) B 2 rfl rfl dX12_began_32 rfl ?_
                refine g_iload_n (pc' := 34) B 4 rfl rfl dX12_began_33 rfl ?_
                refine g_icmp_ne (pc' := 37) B 45 (by omega) (by omega) dX12_began_34 (by decide) rfl (fun c34 => ?_) (fun c34 => ?_)
                · refine g_iinc (pc' := 48) B 2 [(2, .int (iI (m + 1))), (4, .int (iI a)), (3, .int (iI g)), (0, .ref (K.2.2 57)), (1, .int (iI i))] dX12_began_45 rfl rfl (by decide) rfl ?_
                  refine g_iinc (pc' := 51) B 1 [(4, .int (iI (a + 1))), (2, .int (iI (m + 1))), (3, .int (iI g)), (0, .ref (K.2.2 57)), (1, .int (iI i))] dX12_began_48 rfl rfl (by decide) rfl ?_
                  refine g_goto (pc' := 15) B dX12_began_51 (by decide) ?_
                  refine g_loc B [(4, .int (iI (a + 1))), (3, .int (iI g)), (2, .int (iI (m + 1))), (0, .ref (K.2.2 57)), (1, .int (iI i))] [0, 2, 1, 3, 4] rfl ?_
                  exact ih15 _ (by omega) (m + 1) (a + 1) rfl (by omega) (by rw [show 31 * g + (a + 1) = 31 * g + a + 1 by omega, cn_next (by omega), hqb, j2]; try omega) (by intro y a9 b9; by_cases e9 : (y : Int) < 31 * g + a; exact j3 y e9 b9; (have e8 : (y : Int) = 31 * g + a := (by omega); first | (exfalso; rw [e8, hqb] at b9; omega) | (rw [show y = (31 * g + a).toNat by omega, ← j2]; exact c34)))
                · refine g_bipush (pc' := 39) B (by decide +kernel) dX12_began_37 rfl ?_
                  refine g_iload_n (pc' := 40) B 1 rfl rfl dX12_began_39 rfl ?_
                  refine g_imul (pc' := 41) B dX12_began_40 rfl ?_
                  refine g_iload (pc' := 43) B 0 rfl dX12_began_41 rfl ?_
                  refine g_iadd (pc' := 44) B dX12_began_43 rfl ?_
                  exact g_iret (z := (100 * g) + a) B hrt rfl hlk dX12_began_44 ⟨rfl, Or.inr ⟨by omega, Or.inl ⟨(31 * g + a).toNat, by omega, by rw [show (((31 * g + a).toNat : Nat) : Int) = 31 * g + a by omega]; exact hqb, by rw [← j2]; exact c34, by rw [show (((31 * g + a).toNat : Nat) : Int) = 31 * g + a by omega]; omega⟩⟩⟩
              · have hqb : qb E (31 * g + a) = 0 := by unfold qb; rw [show (31 * g + a) / 31 = g by omega, show (31 * g + a) % 31 = a by omega]; exact cif_neg h26
                refine g_if_eq (pc' := 32) B 48 (by omega) dX12_began_29 (by decide) rfl (fun _ => ?_) (fun q => absurd q (by decide))
                refine g_iinc (pc' := 51) B 0 [(4, .int (iI (a + 1))), (3, .int (iI g)), (2, .int (iI m)), (0, .ref (K.2.2 57)), (1, .int (iI i))] dX12_began_48 rfl rfl (by decide) rfl ?_
                refine g_goto (pc' := 15) B dX12_began_51 (by decide) ?_
                exact ih15 _ (by omega) m (a + 1) rfl (by omega) (by rw [show 31 * g + (a + 1) = 31 * g + a + 1 by omega, cn_next (by omega), hqb, j2]; try omega) (by intro y a9 b9; by_cases e9 : (y : Int) < 31 * g + a; exact j3 y e9 b9; (have e8 : (y : Int) = 31 * g + a := (by omega); first | (exfalso; rw [e8, hqb] at b9; omega) | (rw [show y = (31 * g + a).toNat by omega, ← j2]; exact c34)))
        exact L15 _ n 0 rfl (by omega) (by rw [show 31 * g + 0 = 31 * g by omega]; exact i2) (by intro m a9 b9; exact i3 m (by omega) b9)
  exact L4 _ 0 0 rfl (by omega) (by rfl) (by intro m a9; omega)
set_option maxRecDepth 100000 in
set_option maxHeartbeats 4000000 in
theorem c_X12_greatestPart (l : Launch) (K : WK) (σ : SG) {D : SG} (hM : mD σ D) (hF : okF D) (hR : okR D) (hO : okQ D) (hH : okH D) {E : SG} (hE : meD σ E) {f : Int} (hf : 0 ≤ f ∧ f < D 9 0) : MI l yX12_greatestPart cX12_greatestPart 6 (some .int) 2 44 K σ [.ref (K.2.2 57), .int (iI f)] (fun z τ => (∀ k, k ≠ 68 → τ k = σ k) ∧ z = gm E f (31 * D 9 0).toNat) := by
  refine met_of [(0, .ref (K.2.2 57)), (1, .int (iI f))] (by decide +kernel) (Nat.le_of_ble_eq_true rfl) rfl ?_
  intro pP eE sS mM bW mT cC B hrt hlk
  replace B : CB pP sS mM [.ref (K.2.2 57), .int (iI f)].toArray cC cX12_greatestPart RX12 6 K := B
  obtain ⟨hF0, hF1⟩ := id hF
  obtain ⟨hO0, hO1⟩ := id hO
  obtain ⟨hH0, hH1⟩ := id hH
  obtain ⟨hR0, hR1⟩ := id hR
  refine g_iconst (pc' := 1) B dX12_greatestPart_0 rfl ?_
  refine g_istore_n (pc' := 2) B [(2, .int (iI 0)), (0, .ref (K.2.2 57)), (1, .int (iI f))] dX12_greatestPart_1 rfl rfl (by decide) rfl ?_
  have L2 : ∀ (nn : Nat) (ρ : SG) (y : Int) , (40 - y).toNat = nn → (0 ≤ y ∧ y ≤ 40) → (∀ k, k ≠ 68 → ρ k = σ k) → (∀ t : Int, 0 ≤ t → t < y → ρ 68 t = 0) → G pP l eE (rmo 2 44) sS mM [.ref (K.2.2 57), .int (iI f)].toArray bW mT cC 0 0 (MQ bW (Qi K (fun z τ => (∀ k, k ≠ 68 → τ k = σ k) ∧ z = gm E f (31 * D 9 0).toNat)) [.ref (K.2.2 57), .int (iI f)].toArray sS 0 0 (wA K)) K sS.heap 6 ρ 2 [(2, .int (iI y)), (0, .ref (K.2.2 57)), (1, .int (iI f))] [] := by
    intro nn
    induction nn using Nat.strongRecOn with
    | _ nn ih2 =>
      intro ρ y hn2 i1 i2 i3
      refine g_iload_n (pc' := 3) B 0 rfl rfl dX12_greatestPart_2 rfl ?_
      refine g_bipush (pc' := 5) B (by decide +kernel) dX12_greatestPart_3 rfl ?_
      refine g_icmp_ge (pc' := 8) B 21 (by omega) (by omega) dX12_greatestPart_5 (by decide) rfl (fun c5 => ?_) (fun c5 => ?_)
      · refine g_iconst (pc' := 22) B dX12_greatestPart_21 rfl ?_
        refine g_istore_n (pc' := 23) B [(2, .int (iI 0)), (0, .ref (K.2.2 57)), (1, .int (iI f))] dX12_greatestPart_22 rfl rfl (by decide) rfl ?_
        refine g_iconst (pc' := 24) B dX12_greatestPart_23 rfl ?_
        refine g_istore_n (pc' := 25) B [(3, .int (iI 0)), (2, .int (iI 0)), (0, .ref (K.2.2 57)), (1, .int (iI f))] dX12_greatestPart_24 rfl rfl (by decide) rfl ?_
        have L25 : ∀ (nn : Nat) (ω : SG) (u g : Int) , (D 9 0 - g).toNat = nn → (0 ≤ g ∧ g ≤ D 9 0) → (∀ k, k ≠ 68 → ω k = σ k) → (∀ t : Int, 0 ≤ t → t < 40 → ω 68 t = pcw E f t (31 * g).toNat) → (u = gm E f (31 * g).toNat) → G pP l eE (rmo 2 44) sS mM [.ref (K.2.2 57), .int (iI f)].toArray bW mT cC 0 0 (MQ bW (Qi K (fun z τ => (∀ k, k ≠ 68 → τ k = σ k) ∧ z = gm E f (31 * D 9 0).toNat)) [.ref (K.2.2 57), .int (iI f)].toArray sS 0 0 (wA K)) K sS.heap 6 ω 25 [(3, .int (iI g)), (2, .int (iI u)), (0, .ref (K.2.2 57)), (1, .int (iI f))] [] := by
          intro nn
          induction nn using Nat.strongRecOn with
          | _ nn ih25 =>
            intro ω u g hn25 j1 j2 j3 j4
            have hMω : mD ω D := hM.keep (by rw [j2 57 (by decide)]) (by rw [j2 57 (by decide)]) (by rw [j2 57 (by decide)]) (by rw [j2 57 (by decide)]) (fun k a c => j2 k (by omega))
            refine g_iload_n (pc' := 26) B 0 rfl rfl dX12_greatestPart_25 rfl ?_
            refine g_aload_n (pc' := 27) B 2 rfl rfl dX12_greatestPart_26 rfl ?_
            refine g_get (pc' := 30) B (D 9 0) hMω.1 fl_X12_131 rfl rfl dX12_greatestPart_27 rfl ?_
            refine g_icmp_ge (pc' := 33) B 112 (by omega) (by omega) dX12_greatestPart_30 (by decide) rfl (fun c30 => ?_) (fun c30 => ?_)
            · refine g_iload_n (pc' := 113) B 1 rfl rfl dX12_greatestPart_112 rfl ?_
              exact g_iret (z := u) B hrt rfl hlk dX12_greatestPart_113 ⟨j2, by rw [j4, show g = D 9 0 by omega]⟩
            · refine g_iconst (pc' := 34) B dX12_greatestPart_33 rfl ?_
              refine g_istore (pc' := 36) B [(4, .int (iI 0)), (3, .int (iI g)), (2, .int (iI u)), (0, .ref (K.2.2 57)), (1, .int (iI f))] dX12_greatestPart_34 rfl (by decide) rfl ?_
              have L36 : ∀ (nn : Nat) (ψ : SG) (m a : Int) , (31 - a).toNat = nn → (0 ≤ a ∧ a ≤ 31) → (∀ k, k ≠ 68 → ψ k = σ k) → (∀ t : Int, 0 ≤ t → t < 40 → ψ 68 t = pcw E f t (31 * g + a).toNat) → (m = gm E f (31 * g + a).toNat) → G pP l eE (rmo 2 44) sS mM [.ref (K.2.2 57), .int (iI f)].toArray bW mT cC 0 0 (MQ bW (Qi K (fun z τ => (∀ k, k ≠ 68 → τ k = σ k) ∧ z = gm E f (31 * D 9 0).toNat)) [.ref (K.2.2 57), .int (iI f)].toArray sS 0 0 (wA K)) K sS.heap 6 ψ 36 [(4, .int (iI a)), (3, .int (iI g)), (2, .int (iI m)), (0, .ref (K.2.2 57)), (1, .int (iI f))] [] := by
                intro nn
                induction nn using Nat.strongRecOn with
                | _ nn ih36 =>
                  intro ψ m a hn36 k1 k2 k3 k4
                  have hEψ : meD ψ E := hE.keep (by rw [k2 57 (by decide)]) (k2 66 (by decide)) (k2 67 (by decide))
                  have hgm := gm_bd E f (31 * g + a).toNat
                  rw [← k4] at hgm
                  refine g_iload (pc' := 38) B 0 rfl dX12_greatestPart_36 rfl ?_
                  refine g_bipush (pc' := 40) B (by decide +kernel) dX12_greatestPart_38 rfl ?_
                  refine g_icmp_gt (pc' := 43) B 106 (by omega) (by omega) dX12_greatestPart_40 (by decide) rfl (fun c40 => ?_) (fun c40 => ?_)
                  · refine g_iinc (pc' := 109) B 1 [(3, .int (iI (g + 1))), (4, .int (iI a)), (2, .int (iI m)), (0, .ref (K.2.2 57)), (1, .int (iI f))] dX12_greatestPart_106 rfl rfl (by decide) rfl ?_
                    refine g_goto (pc' := 25) B dX12_greatestPart_109 (by decide) ?_
                    refine g_loc B [(3, .int (iI (g + 1))), (2, .int (iI m)), (0, .ref (K.2.2 57)), (1, .int (iI f))] [0, 2, 3, 4] rfl ?_
                    exact ih25 _ (by omega) ψ m (g + 1) rfl (by omega) (by exact k2) (by intro t a9 b9; rw [k3 t a9 b9, show 31 * g + a = 31 * (g + 1) by omega]) (by rw [k4, show 31 * g + a = 31 * (g + 1) by omega])
                  · have htm : tm f (31 * g + a) = ((8 + a) - ((f - g).natAbs : Int)) := tm_at (by omega)
                    refine g_bipush (pc' := 45) B (by decide +kernel) dX12_greatestPart_43 rfl ?_
                    refine g_iload (pc' := 47) B 0 rfl dX12_greatestPart_45 rfl ?_
                    refine g_iadd (pc' := 48) B dX12_greatestPart_47 rfl ?_
                    refine g_iload_n (pc' := 49) B 4 rfl rfl dX12_greatestPart_48 rfl ?_
                    refine g_iload_n (pc' := 50) B 1 rfl rfl dX12_greatestPart_49 rfl ?_
                    refine g_isub (pc' := 51) B dX12_greatestPart_50 rfl ?_
                    refine g_callSI (pc' := 54) (As := [.int (iI (f - g))]) B (c_X12_size l K _ (v := f - g) (by omega)) st_X12_size tw_1122 ⟨by decide, by decide⟩ rfl (Nat.le_of_ble_eq_true rfl) ⟨Nat.zero_le _, Nat.zero_le _⟩ rfl dX12_greatestPart_51 rfl (fun z51 τ51 h51 => ?_)
                    obtain ⟨rfl, rfl⟩ := h51
                    refine g_isub (pc' := 55) B dX12_greatestPart_54 rfl ?_
                    refine g_istore (pc' := 57) B [(5, .int (iI ((8 + a) - ((f - g).natAbs : Int)))), (4, .int (iI a)), (3, .int (iI g)), (2, .int (iI m)), (0, .ref (K.2.2 57)), (1, .int (iI f))] dX12_greatestPart_55 rfl (by decide) rfl ?_
                    refine g_aload_n (pc' := 58) B 4 rfl rfl dX12_greatestPart_57 rfl ?_
                    refine g_getR (pc' := 61) B 68 fl_X12_48 rfl rfl dX12_greatestPart_58 rfl ?_
                    refine g_iload (pc' := 63) B 0 rfl dX12_greatestPart_61 rfl ?_
                    have hpw := pcw_bd E f ((8 + a) - ((f - g).natAbs : Int)) (31 * g + a).toNat
                    refine g_dup2 (pc' := 64) B rfl rfl dX12_greatestPart_63 rfl ?_
                    refine g_iald (pc' := 65) B (pcw E f ((8 + a) - ((f - g).natAbs : Int)) (31 * g + a).toNat) (k3 _ (by omega) (by omega)) rfl (by omega) (by decide) dX12_greatestPart_64 rfl ?_
                    refine g_aload_n (pc' := 66) B 4 rfl rfl dX12_greatestPart_65 rfl ?_
                    refine g_iload_n (pc' := 67) B 2 rfl rfl dX12_greatestPart_66 rfl ?_
                    refine g_iload (pc' := 69) B 1 rfl dX12_greatestPart_67 rfl ?_
                    refine g_callVI (pc' := 72) (As := [.int (iI g), .int (iI a)]) B (c_X12_couldBegin l K _ (E := E) (f := g) (a := a) hEψ (by omega) (by omega)) vt_X12_couldBegin tw_1291 rfl rfl ⟨by decide, by decide⟩ rfl (Nat.le_of_ble_eq_true rfl) ⟨Nat.zero_le _, Nat.zero_le _⟩ rfl dX12_greatestPart_69 rfl (fun z69 τ69 h69 => ?_)
                    obtain ⟨rfl, h69⟩ := h69
                    rcases h69 with ⟨h69, rfl⟩ | ⟨h69, rfl⟩
                    · have hqb : qb E (31 * g + a) = 1 := by unfold qb; rw [show (31 * g + a) / 31 = g by omega, show (31 * g + a) % 31 = a by omega]; exact cif_pos h69
                      refine g_callSI (pc' := 75) (As := [.int (iI 1)]) B (c_X12_one l K _ (v := 1) (by omega)) st_X12_one tw_1100 ⟨by decide, by decide⟩ rfl (Nat.le_of_ble_eq_true rfl) ⟨Nat.zero_le _, Nat.zero_le _⟩ rfl dX12_greatestPart_72 rfl (fun z72 τ72 h72 => ?_)
                      obtain ⟨rfl, rfl⟩ := h72
                      refine g_iadd (pc' := 76) B dX12_greatestPart_75 rfl ?_
                      refine g_iast (pc' := 77) B rfl (by omega) (by decide) dX12_greatestPart_76 rfl ?_
                      refine g_aload_n (pc' := 78) B 4 rfl rfl dX12_greatestPart_77 rfl ?_
                      refine g_getR (pc' := 81) B 68 fl_X12_48 rfl rfl dX12_greatestPart_78 rfl ?_
                      refine g_iload (pc' := 83) B 0 rfl dX12_greatestPart_81 rfl ?_
                      refine g_iald (pc' := 84) B ((pcw E f ((8 + a) - ((f - g).natAbs : Int)) (31 * g + a).toNat) + 1) (by simp [up]) rfl (by omega) (by decide) dX12_greatestPart_83 rfl ?_
                      refine g_iload_n (pc' := 85) B 3 rfl rfl dX12_greatestPart_84 rfl ?_
                      refine g_icmp_le (pc' := 88) B 98 (by omega) (by omega) dX12_greatestPart_85 (by decide) rfl (fun c85 => ?_) (fun c85 => ?_)
                      · refine g_iload_n (pc' := 99) B 3 rfl rfl dX12_greatestPart_98 rfl ?_
                        refine g_istore_n (pc' := 100) B [(2, .int (iI m)), (5, .int (iI ((8 + a) - ((f - g).natAbs : Int)))), (4, .int (iI a)), (3, .int (iI g)), (0, .ref (K.2.2 57)), (1, .int (iI f))] dX12_greatestPart_99 rfl rfl (by decide) rfl ?_
                        refine g_iinc (pc' := 103) B 2 [(4, .int (iI (a + 1))), (2, .int (iI m)), (5, .int (iI ((8 + a) - ((f - g).natAbs : Int)))), (3, .int (iI g)), (0, .ref (K.2.2 57)), (1, .int (iI f))] dX12_greatestPart_100 rfl rfl (by decide) rfl ?_
                        refine g_goto (pc' := 36) B dX12_greatestPart_103 (by decide) ?_
                        refine g_loc B [(4, .int (iI (a + 1))), (3, .int (iI g)), (2, .int (iI m)), (0, .ref (K.2.2 57)), (1, .int (iI f))] [0, 3, 1, 4, 5] rfl ?_
                        exact ih36 _ (by omega) (up ψ 68 ((8 + a) - ((f - g).natAbs : Int)) ((pcw E f ((8 + a) - ((f - g).natAbs : Int)) (31 * g + a).toNat) + 1)) m (a + 1) rfl (by omega) (by intro k a9; rw [up_row a9]; exact k2 k a9) (by intro t a9 b9; rw [show 31 * g + (a + 1) = 31 * g + a + 1 by omega, pcM_next (by omega), htm, hqb]; by_cases e9 : t = ((8 + a) - ((f - g).natAbs : Int)); (subst e9; rw [up_same, if_pos rfl]); (rw [up_col e9, if_neg (fun q9 => e9 q9.symm), k3 t a9 b9]; try omega)) (by rw [show 31 * g + (a + 1) = 31 * g + a + 1 by omega, gmM_next (by omega), htm, hqb, ← k4]; first | (rw [Int.max_eq_right (by omega)]) | (rw [Int.max_eq_left (by omega)]))
                      · refine g_aload_n (pc' := 89) B 4 rfl rfl dX12_greatestPart_88 rfl ?_
                        refine g_getR (pc' := 92) B 68 fl_X12_48 rfl rfl dX12_greatestPart_89 rfl ?_
                        refine g_iload (pc' := 94) B 0 rfl dX12_greatestPart_92 rfl ?_
                        refine g_iald (pc' := 95) B ((pcw E f ((8 + a) - ((f - g).natAbs : Int)) (31 * g + a).toNat) + 1) (by simp [up]) rfl (by omega) (by decide) dX12_greatestPart_94 rfl ?_
                        refine g_goto (pc' := 99) B dX12_greatestPart_95 (by decide) ?_
                        refine g_istore_n (pc' := 100) B [(2, .int (iI ((pcw E f ((8 + a) - ((f - g).natAbs : Int)) (31 * g + a).toNat) + 1))), (5, .int (iI ((8 + a) - ((f - g).natAbs : Int)))), (4, .int (iI a)), (3, .int (iI g)), (0, .ref (K.2.2 57)), (1, .int (iI f))] dX12_greatestPart_99 rfl rfl (by decide) rfl ?_
                        refine g_iinc (pc' := 103) B 2 [(4, .int (iI (a + 1))), (2, .int (iI ((pcw E f ((8 + a) - ((f - g).natAbs : Int)) (31 * g + a).toNat) + 1))), (5, .int (iI ((8 + a) - ((f - g).natAbs : Int)))), (3, .int (iI g)), (0, .ref (K.2.2 57)), (1, .int (iI f))] dX12_greatestPart_100 rfl rfl (by decide) rfl ?_
                        refine g_goto (pc' := 36) B dX12_greatestPart_103 (by decide) ?_
                        refine g_loc B [(4, .int (iI (a + 1))), (3, .int (iI g)), (2, .int (iI ((pcw E f ((8 + a) - ((f - g).natAbs : Int)) (31 * g + a).toNat) + 1))), (0, .ref (K.2.2 57)), (1, .int (iI f))] [0, 3, 1, 4, 5] rfl ?_
                        exact ih36 _ (by omega) (up ψ 68 ((8 + a) - ((f - g).natAbs : Int)) ((pcw E f ((8 + a) - ((f - g).natAbs : Int)) (31 * g + a).toNat) + 1)) ((pcw E f ((8 + a) - ((f - g).natAbs : Int)) (31 * g + a).toNat) + 1) (a + 1) rfl (by omega) (by intro k a9; rw [up_row a9]; exact k2 k a9) (by intro t a9 b9; rw [show 31 * g + (a + 1) = 31 * g + a + 1 by omega, pcM_next (by omega), htm, hqb]; by_cases e9 : t = ((8 + a) - ((f - g).natAbs : Int)); (subst e9; rw [up_same, if_pos rfl]); (rw [up_col e9, if_neg (fun q9 => e9 q9.symm), k3 t a9 b9]; try omega)) (by rw [show 31 * g + (a + 1) = 31 * g + a + 1 by omega, gmM_next (by omega), htm, hqb, ← k4]; first | (rw [Int.max_eq_right (by omega)]) | (rw [Int.max_eq_left (by omega)]))
                    · have hqb : qb E (31 * g + a) = 0 := by unfold qb; rw [show (31 * g + a) / 31 = g by omega, show (31 * g + a) % 31 = a by omega]; exact cif_neg h69
                      refine g_callSI (pc' := 75) (As := [.int (iI 0)]) B (c_X12_one l K _ (v := 0) (by omega)) st_X12_one tw_1100 ⟨by decide, by decide⟩ rfl (Nat.le_of_ble_eq_true rfl) ⟨Nat.zero_le _, Nat.zero_le _⟩ rfl dX12_greatestPart_72 rfl (fun z72 τ72 h72 => ?_)
                      obtain ⟨rfl, rfl⟩ := h72
                      refine g_iadd (pc' := 76) B dX12_greatestPart_75 rfl ?_
                      refine g_iast (pc' := 77) B rfl (by omega) (by decide) dX12_greatestPart_76 rfl ?_
                      refine g_aload_n (pc' := 78) B 4 rfl rfl dX12_greatestPart_77 rfl ?_
                      refine g_getR (pc' := 81) B 68 fl_X12_48 rfl rfl dX12_greatestPart_78 rfl ?_
                      refine g_iload (pc' := 83) B 0 rfl dX12_greatestPart_81 rfl ?_
                      refine g_iald (pc' := 84) B ((pcw E f ((8 + a) - ((f - g).natAbs : Int)) (31 * g + a).toNat) + 0) (by simp [up]) rfl (by omega) (by decide) dX12_greatestPart_83 rfl ?_
                      refine g_iload_n (pc' := 85) B 3 rfl rfl dX12_greatestPart_84 rfl ?_
                      refine g_icmp_le (pc' := 88) B 98 (by omega) (by omega) dX12_greatestPart_85 (by decide) rfl (fun c85 => ?_) (fun c85 => ?_)
                      · refine g_iload_n (pc' := 99) B 3 rfl rfl dX12_greatestPart_98 rfl ?_
                        refine g_istore_n (pc' := 100) B [(2, .int (iI m)), (5, .int (iI ((8 + a) - ((f - g).natAbs : Int)))), (4, .int (iI a)), (3, .int (iI g)), (0, .ref (K.2.2 57)), (1, .int (iI f))] dX12_greatestPart_99 rfl rfl (by decide) rfl ?_
                        refine g_iinc (pc' := 103) B 2 [(4, .int (iI (a + 1))), (2, .int (iI m)), (5, .int (iI ((8 + a) - ((f - g).natAbs : Int)))), (3, .int (iI g)), (0, .ref (K.2.2 57)), (1, .int (iI f))] dX12_greatestPart_100 rfl rfl (by decide) rfl ?_
                        refine g_goto (pc' := 36) B dX12_greatestPart_103 (by decide) ?_
                        refine g_loc B [(4, .int (iI (a + 1))), (3, .int (iI g)), (2, .int (iI m)), (0, .ref (K.2.2 57)), (1, .int (iI f))] [0, 3, 1, 4, 5] rfl ?_
                        exact ih36 _ (by omega) (up ψ 68 ((8 + a) - ((f - g).natAbs : Int)) ((pcw E f ((8 + a) - ((f - g).natAbs : Int)) (31 * g + a).toNat) + 0)) m (a + 1) rfl (by omega) (by intro k a9; rw [up_row a9]; exact k2 k a9) (by intro t a9 b9; rw [show 31 * g + (a + 1) = 31 * g + a + 1 by omega, pcM_next (by omega), htm, hqb]; by_cases e9 : t = ((8 + a) - ((f - g).natAbs : Int)); (subst e9; rw [up_same, if_pos rfl]); (rw [up_col e9, if_neg (fun q9 => e9 q9.symm), k3 t a9 b9]; try omega)) (by rw [show 31 * g + (a + 1) = 31 * g + a + 1 by omega, gmM_next (by omega), htm, hqb, ← k4]; first | (rw [Int.max_eq_right (by omega)]) | (rw [Int.max_eq_left (by omega)]))
                      · refine g_aload_n (pc' := 89) B 4 rfl rfl dX12_greatestPart_88 rfl ?_
                        refine g_getR (pc' := 92) B 68 fl_X12_48 rfl rfl dX12_greatestPart_89 rfl ?_
                        refine g_iload (pc' := 94) B 0 rfl dX12_greatestPart_92 rfl ?_
                        refine g_iald (pc' := 95) B ((pcw E f ((8 + a) - ((f - g).natAbs : Int)) (31 * g + a).toNat) + 0) (by simp [up]) rfl (by omega) (by decide) dX12_greatestPart_94 rfl ?_
                        refine g_goto (pc' := 99) B dX12_greatestPart_95 (by decide) ?_
                        refine g_istore_n (pc' := 100) B [(2, .int (iI ((pcw E f ((8 + a) - ((f - g).natAbs : Int)) (31 * g + a).toNat) + 0))), (5, .int (iI ((8 + a) - ((f - g).natAbs : Int)))), (4, .int (iI a)), (3, .int (iI g)), (0, .ref (K.2.2 57)), (1, .int (iI f))] dX12_greatestPart_99 rfl rfl (by decide) rfl ?_
                        refine g_iinc (pc' := 103) B 2 [(4, .int (iI (a + 1))), (2, .int (iI ((pcw E f ((8 + a) - ((f - g).natAbs : Int)) (31 * g + a).toNat) + 0))), (5, .int (iI ((8 + a) - ((f - g).natAbs : Int)))), (3, .int (iI g)), (0, .ref (K.2.2 57)), (1, .int (iI f))] dX12_greatestPart_100 rfl rfl (by decide) rfl ?_
                        refine g_goto (pc' := 36) B dX12_greatestPart_103 (by decide) ?_
                        refine g_loc B [(4, .int (iI (a + 1))), (3, .int (iI g)), (2, .int (iI ((pcw E f ((8 + a) - ((f - g).natAbs : Int)) (31 * g + a).toNat) + 0))), (0, .ref (K.2.2 57)), (1, .int (iI f))] [0, 3, 1, 4, 5] rfl ?_
                        exact ih36 _ (by omega) (up ψ 68 ((8 + a) - ((f - g).natAbs : Int)) ((pcw E f ((8 + a) - ((f - g).natAbs : Int)) (31 * g + a).toNat) + 0)) ((pcw E f ((8 + a) - ((f - g).natAbs : Int)) (31 * g + a).toNat) + 0) (a + 1) rfl (by omega) (by intro k a9; rw [up_row a9]; exact k2 k a9) (by intro t a9 b9; rw [show 31 * g + (a + 1) = 31 * g + a + 1 by omega, pcM_next (by omega), htm, hqb]; by_cases e9 : t = ((8 + a) - ((f - g).natAbs : Int)); (subst e9; rw [up_same, if_pos rfl]); (rw [up_col e9, if_neg (fun q9 => e9 q9.symm), k3 t a9 b9]; try omega)) (by rw [show 31 * g + (a + 1) = 31 * g + a + 1 by omega, gmM_next (by omega), htm, hqb, ← k4]; first | (rw [Int.max_eq_right (by omega)]) | (rw [Int.max_eq_left (by omega)]))
              exact L36 _ ω u 0 rfl (by omega) (by exact j2) (by rw [show 31 * g + 0 = 31 * g by omega]; exact j3) (by rw [show 31 * g + 0 = 31 * g by omega]; exact j4)
        exact L25 _ ρ 0 0 rfl (by omega) (by exact i2) (by intro t a b; rw [i3 t a (by omega)]; rfl) (by rfl)
      · refine g_aload_n (pc' := 9) B 1 rfl rfl dX12_greatestPart_8 rfl ?_
        refine g_getR (pc' := 12) B 68 fl_X12_48 rfl rfl dX12_greatestPart_9 rfl ?_
        refine g_iload_n (pc' := 13) B 0 rfl rfl dX12_greatestPart_12 rfl ?_
        refine g_iconst (pc' := 14) B dX12_greatestPart_13 rfl ?_
        refine g_iast (pc' := 15) B rfl (by omega) (by decide) dX12_greatestPart_14 rfl ?_
        refine g_iinc (pc' := 18) B 0 [(2, .int (iI (y + 1))), (0, .ref (K.2.2 57)), (1, .int (iI f))] dX12_greatestPart_15 rfl rfl (by decide) rfl ?_
        refine g_goto (pc' := 2) B dX12_greatestPart_18 (by decide) ?_
        exact ih2 _ (by omega) (up ρ 68 y 0) (y + 1) rfl (by omega) (by intro k a; rw [up_row a]; exact i2 k a) (by intro t a b; by_cases e9 : t = y; (subst e9; exact up_same _ _ _ _); (rw [up_col e9]; exact i3 t a (by omega)))
  exact L2 _ σ 0 rfl (by omega) (by intro k a; rfl) (by intro t a b; omega)
set_option maxRecDepth 100000 in
set_option maxHeartbeats 4000000 in
theorem c_X12_watch (l : Launch) (K : WK) (σ : SG) {D : SG} (hM : mD σ D) (hF : okF D) (hR : okR D) (hO : okQ D) (hH : okH D) {E : SG} (hE : meD σ E)  : MI l yX12_watch cX12_watch 5 (some .int) 3 69 K σ [.ref (K.2.2 57)] (fun z τ => (∀ k, k ≠ 68 → τ k = σ k) ∧ z = (wS E (31 * D 9 0).toNat (D 9 0).toNat).1) := by
  refine met_of [(0, .ref (K.2.2 57))] (by decide +kernel) (Nat.le_of_ble_eq_true rfl) rfl ?_
  intro pP eE sS mM bW mT cC B hrt hlk
  replace B : CB pP sS mM [.ref (K.2.2 57)].toArray cC cX12_watch RX12 5 K := B
  obtain ⟨hF0, hF1⟩ := id hF
  obtain ⟨hO0, hO1⟩ := id hO
  obtain ⟨hH0, hH1⟩ := id hH
  obtain ⟨hR0, hR1⟩ := id hR
  refine g_iconst (pc' := 1) B dX12_watch_0 rfl ?_
  refine g_istore_n (pc' := 2) B [(1, .int (iI (-1))), (0, .ref (K.2.2 57))] dX12_watch_1 rfl rfl (by decide) rfl ?_
  refine g_aload_n (pc' := 3) B 1 rfl rfl dX12_watch_2 rfl ?_
  refine g_iconst (pc' := 4) B dX12_watch_3 rfl ?_
  refine g_callVI (pc' := 7) (As := [.int (iI (-1))]) B (c_X12_began l K _ (D := D) (E := E) (i := (-1)) hM hF hR hO hH hE (by omega)) vt_X12_began tw_1299 rfl rfl ⟨by decide, by decide⟩ rfl (Nat.le_of_ble_eq_true rfl) ⟨Nat.zero_le _, Nat.zero_le _⟩ rfl dX12_watch_4 rfl (fun z4 τ4 h4 => ?_)
  obtain ⟨rfl, h4⟩ := h4
  have hz4 : z4 = cn E (31 * D 9 0).toNat := by rcases h4 with ⟨_, q9⟩ | ⟨q9, _⟩; exact q9; exact absurd rfl q9
  refine g_istore_n (pc' := 8) B [(2, .int (iI z4)), (1, .int (iI (-1))), (0, .ref (K.2.2 57))] dX12_watch_7 rfl rfl (by decide) rfl ?_
  refine g_iconst (pc' := 9) B dX12_watch_8 rfl ?_
  refine g_istore_n (pc' := 10) B [(3, .int (iI 0)), (2, .int (iI z4)), (1, .int (iI (-1))), (0, .ref (K.2.2 57))] dX12_watch_9 rfl rfl (by decide) rfl ?_
  have L10 : ∀ (nn : Nat) (ω : SG) (y m f : Int) , (D 9 0 - f).toNat = nn → (0 ≤ f ∧ f ≤ D 9 0) → (∀ k, k ≠ 68 → ω k = σ k) → (y = (wS E (31 * D 9 0).toNat f.toNat).1 ∧ m = (wS E (31 * D 9 0).toNat f.toNat).2) → G pP l eE (rmo 3 69) sS mM [.ref (K.2.2 57)].toArray bW mT cC 0 0 (MQ bW (Qi K (fun z τ => (∀ k, k ≠ 68 → τ k = σ k) ∧ z = (wS E (31 * D 9 0).toNat (D 9 0).toNat).1)) [.ref (K.2.2 57)].toArray sS 0 0 (wA K)) K sS.heap 5 ω 10 [(3, .int (iI f)), (2, .int (iI m)), (1, .int (iI y)), (0, .ref (K.2.2 57))] [] := by
    intro nn
    induction nn using Nat.strongRecOn with
    | _ nn ih10 =>
      intro ω y m f hn10 i1 i2 i3
      have hMω : mD ω D := hM.keep (by rw [i2 57 (by decide)]) (by rw [i2 57 (by decide)]) (by rw [i2 57 (by decide)]) (by rw [i2 57 (by decide)]) (fun k a c => i2 k (by omega))
      have hEω : meD ω E := hE.keep (by rw [i2 57 (by decide)]) (i2 66 (by decide)) (i2 67 (by decide))
      have hws := wS_bd E (31 * D 9 0).toNat f.toNat
      rw [← i3.2] at hws
      refine g_iload_n (pc' := 11) B 0 rfl rfl dX12_watch_10 rfl ?_
      refine g_aload_n (pc' := 12) B 3 rfl rfl dX12_watch_11 rfl ?_
      refine g_get (pc' := 15) B (D 9 0) hMω.1 fl_X12_131 rfl rfl dX12_watch_12 rfl ?_
      refine g_icmp_ge (pc' := 18) B 42 (by omega) (by omega) dX12_watch_15 (by decide) rfl (fun c15 => ?_) (fun c15 => ?_)
      · refine g_iload_n (pc' := 43) B 2 rfl rfl dX12_watch_42 rfl ?_
        exact g_iret (z := y) B hrt rfl hlk dX12_watch_43 ⟨i2, by rw [i3.1, show f = D 9 0 by omega]⟩
      · refine g_aload_n (pc' := 19) B 3 rfl rfl dX12_watch_18 rfl ?_
        refine g_iload_n (pc' := 20) B 0 rfl rfl dX12_watch_19 rfl ?_
        refine g_callVI (pc' := 23) (As := [.int (iI f)]) B (c_X12_greatestPart l K _ (D := D) (E := E) (f := f) hMω hF hR hO hH hEω (by omega)) vt_X12_greatestPart tw_1300 rfl rfl ⟨by decide, by decide⟩ rfl (Nat.le_of_ble_eq_true rfl) ⟨Nat.zero_le _, Nat.zero_le _⟩ rfl dX12_watch_20 rfl (fun z20 τ20 h20 => ?_)
        obtain ⟨h20a, h20b⟩ := h20
        subst h20b
        have hgm := gm_bd E f (31 * D 9 0).toNat
        refine g_istore (pc' := 25) B [(4, .int (iI (gm E f (31 * D 9 0).toNat))), (3, .int (iI f)), (2, .int (iI m)), (1, .int (iI y)), (0, .ref (K.2.2 57))] dX12_watch_23 rfl (by decide) rfl ?_
        refine g_iload (pc' := 27) B 0 rfl dX12_watch_25 rfl ?_
        refine g_iload_n (pc' := 28) B 2 rfl rfl dX12_watch_27 rfl ?_
        refine g_icmp_ge (pc' := 31) B 36 (by omega) (by omega) dX12_watch_28 (by decide) rfl (fun c28 => ?_) (fun c28 => ?_)
        · refine g_iinc (pc' := 39) B 1 [(3, .int (iI (f + 1))), (4, .int (iI (gm E f (31 * D 9 0).toNat))), (2, .int (iI m)), (1, .int (iI y)), (0, .ref (K.2.2 57))] dX12_watch_36 rfl rfl (by decide) rfl ?_
          refine g_goto (pc' := 10) B dX12_watch_39 (by decide) ?_
          refine g_loc B [(3, .int (iI (f + 1))), (2, .int (iI m)), (1, .int (iI y)), (0, .ref (K.2.2 57))] [0, 2, 3, 4] rfl ?_
          exact ih10 _ (by omega) τ20 y m (f + 1) rfl (by omega) (by intro k a; rw [h20a k a]; exact i2 k a) (by rw [wS_next (by omega), ← i3.2]; first | (rw [if_pos (by omega)]; exact ⟨rfl, rfl⟩) | (rw [if_neg (by omega)]; exact i3))
        · refine g_iload_n (pc' := 32) B 1 rfl rfl dX12_watch_31 rfl ?_
          refine g_istore_n (pc' := 33) B [(1, .int (iI f)), (4, .int (iI (gm E f (31 * D 9 0).toNat))), (3, .int (iI f)), (2, .int (iI m)), (0, .ref (K.2.2 57))] dX12_watch_32 rfl rfl (by decide) rfl ?_
          refine g_iload (pc' := 35) B 1 rfl dX12_watch_33 rfl ?_
          refine g_istore_n (pc' := 36) B [(2, .int (iI (gm E f (31 * D 9 0).toNat))), (1, .int (iI f)), (4, .int (iI (gm E f (31 * D 9 0).toNat))), (3, .int (iI f)), (0, .ref (K.2.2 57))] dX12_watch_35 rfl rfl (by decide) rfl ?_
          refine g_iinc (pc' := 39) B 3 [(3, .int (iI (f + 1))), (2, .int (iI (gm E f (31 * D 9 0).toNat))), (1, .int (iI f)), (4, .int (iI (gm E f (31 * D 9 0).toNat))), (0, .ref (K.2.2 57))] dX12_watch_36 rfl rfl (by decide) rfl ?_
          refine g_goto (pc' := 10) B dX12_watch_39 (by decide) ?_
          refine g_loc B [(3, .int (iI (f + 1))), (2, .int (iI (gm E f (31 * D 9 0).toNat))), (1, .int (iI f)), (0, .ref (K.2.2 57))] [0, 1, 2, 4] rfl ?_
          exact ih10 _ (by omega) τ20 f (gm E f (31 * D 9 0).toNat) (f + 1) rfl (by omega) (by intro k a; rw [h20a k a]; exact i2 k a) (by rw [wS_next (by omega), ← i3.2]; first | (rw [if_pos (by omega)]; exact ⟨rfl, rfl⟩) | (rw [if_neg (by omega)]; exact i3))
  exact L10 _ σ (-1) z4 0 rfl (by omega) (by intro k a; rfl) (by exact ⟨rfl, hz4⟩)
set_option maxRecDepth 100000 in
set_option maxHeartbeats 4000000 in
theorem c_X12_goesRound (l : Launch) (K : WK) (σ : SG) {D : SG} (hM : mD σ D) (hF : okF D) (hR : okR D) (hO : okQ D) (hH : okH D) {Y : SG} (hY : myD σ Y) {f n q : Int} (hf : 0 ≤ f ∧ f < D 9 0) (hn : 2 ≤ n ∧ n ≤ 12) (hq : 0 ≤ q ∧ q ≤ 11) : MI l yX12_goesRound cX12_goesRound 6 (some .boolean) 1 25 K σ [.ref (K.2.2 57), .int (iI f), .int (iI n), .int (iI q)] (fun z τ => σ = τ ∧ ((gor D Y f n q ∧ z = 1) ∨ (¬ (gor D Y f n q) ∧ z = 0))) := by
  refine met_of [(0, .ref (K.2.2 57)), (1, .int (iI f)), (2, .int (iI n)), (3, .int (iI q))] (by decide +kernel) (Nat.le_of_ble_eq_true rfl) rfl ?_
  intro pP eE sS mM bW mT cC B hrt hlk
  replace B : CB pP sS mM [.ref (K.2.2 57), .int (iI f), .int (iI n), .int (iI q)].toArray cC cX12_goesRound RX12 6 K := B
  obtain ⟨hF0, hF1⟩ := id hF
  obtain ⟨hO0, hO1⟩ := id hO
  obtain ⟨hH0, hH1⟩ := id hH
  obtain ⟨hR0, hR1⟩ := id hR
  obtain ⟨hY1, hY2, hY3⟩ := id hY
  have hf9 := hF1 f hf.1 hf.2
  refine g_iconst (pc' := 1) B dX12_goesRound_0 rfl ?_
  refine g_istore (pc' := 3) B [(4, .int (iI 1)), (0, .ref (K.2.2 57)), (1, .int (iI f)), (2, .int (iI n)), (3, .int (iI q))] dX12_goesRound_1 rfl (by decide) rfl ?_
  refine g_iconst (pc' := 4) B dX12_goesRound_3 rfl ?_
  refine g_istore (pc' := 6) B [(5, .int (iI 0)), (4, .int (iI 1)), (0, .ref (K.2.2 57)), (1, .int (iI f)), (2, .int (iI n)), (3, .int (iI q))] dX12_goesRound_4 rfl (by decide) rfl ?_
  have L6 : ∀ (nn : Nat) (c k : Int) , (Y 3 0 - k).toNat = nn → (0 ≤ k ∧ k ≤ Y 3 0) → (c = 0 ∨ c = 1) → (c = 0 → ¬ gor D Y f n q) → (c = 1 → ∀ y : Int, 0 ≤ y → y < k → Y 0 y = f → D 0 f + D 3 f * min ((Y 1 y + q) % n) (n - (Y 1 y + q) % n) = Y 2 y) → G pP l eE (rmo 1 25) sS mM [.ref (K.2.2 57), .int (iI f), .int (iI n), .int (iI q)].toArray bW mT cC 0 0 (MQ bW (Qi K (fun z τ => σ = τ ∧ ((gor D Y f n q ∧ z = 1) ∨ (¬ (gor D Y f n q) ∧ z = 0)))) [.ref (K.2.2 57), .int (iI f), .int (iI n), .int (iI q)].toArray sS 0 0 (wA K)) K sS.heap 6 σ 6 [(5, .int (iI k)), (4, .int (iI c)), (0, .ref (K.2.2 57)), (1, .int (iI f)), (2, .int (iI n)), (3, .int (iI q))] [] := by
    intro nn
    induction nn using Nat.strongRecOn with
    | _ nn ih6 =>
      intro c k hn6 i1 i2 i3 i4
      refine g_iload (pc' := 8) B 0 rfl dX12_goesRound_6 rfl ?_
      refine g_aload_n (pc' := 9) B 2 rfl rfl dX12_goesRound_8 rfl ?_
      refine g_get (pc' := 12) B (Y 3 0) hY.1 fl_X12_143 rfl rfl dX12_goesRound_9 rfl ?_
      refine g_icmp_ge (pc' := 15) B 84 (by omega) (by omega) dX12_goesRound_12 (by decide) rfl (fun c12 => ?_) (fun c12 => ?_)
      · refine g_iload (pc' := 86) B 1 rfl dX12_goesRound_84 rfl ?_
        exact g_iret (z := c) B hrt (nb_z (by omega)) hlk dX12_goesRound_86 ⟨rfl, by rcases i2 with e9 | e9; exact Or.inr ⟨i3 e9, e9⟩; exact Or.inl ⟨fun y a9 b9 q8 => i4 e9 y a9 (by omega) q8, e9⟩⟩
      · refine g_iload (pc' := 17) B 1 rfl dX12_goesRound_15 rfl ?_
        refine g_if_eq (pc' := 20) B 84 (by omega) dX12_goesRound_17 (by decide) rfl (fun c17 => ?_) (fun c17 => ?_)
        · refine g_iload (pc' := 86) B 1 rfl dX12_goesRound_84 rfl ?_
          exact g_iret (z := c) B hrt (nb_z (by omega)) hlk dX12_goesRound_86 ⟨rfl, by rcases i2 with e9 | e9; exact Or.inr ⟨i3 e9, e9⟩; exact Or.inl ⟨fun y a9 b9 q8 => i4 e9 y a9 (by omega) q8, e9⟩⟩
        · have hk9 := hY3 k (by omega) (by omega)
          refine g_aload_n (pc' := 21) B 2 rfl rfl dX12_goesRound_20 rfl ?_
          refine g_getR (pc' := 24) B 69 fl_X12_51 rfl rfl dX12_goesRound_21 rfl ?_
          refine g_iload (pc' := 26) B 0 rfl dX12_goesRound_24 rfl ?_
          refine g_iald (pc' := 27) B (Y 0 k) (hY.2.2 k (by omega) (by omega)).1 rfl (by omega) (by decide) dX12_goesRound_26 rfl ?_
          refine g_iload_n (pc' := 28) B 3 rfl rfl dX12_goesRound_27 rfl ?_
          refine g_icmp_ne (pc' := 31) B 71 (by omega) (by omega) dX12_goesRound_28 (by decide) rfl (fun c28 => ?_) (fun c28 => ?_)
          · refine g_iconst (pc' := 72) B dX12_goesRound_71 rfl ?_
            refine g_goto (pc' := 76) B dX12_goesRound_72 (by decide) ?_
            refine g_istore (pc' := 78) B [(4, .int (iI 1)), (5, .int (iI k)), (0, .ref (K.2.2 57)), (1, .int (iI f)), (2, .int (iI n)), (3, .int (iI q))] dX12_goesRound_76 rfl (by decide) rfl ?_
            refine g_iinc (pc' := 81) B 1 [(5, .int (iI (k + 1))), (4, .int (iI 1)), (0, .ref (K.2.2 57)), (1, .int (iI f)), (2, .int (iI n)), (3, .int (iI q))] dX12_goesRound_78 rfl rfl (by decide) rfl ?_
            refine g_goto (pc' := 6) B dX12_goesRound_81 (by decide) ?_
            exact ih6 _ (by omega) 1 (k + 1) rfl (by omega) (by omega) (by intro q9; first | (exfalso; omega) | exact fun q8 => c68 (q8 k (by omega) (by omega) c28)) (by intro q9 y a9 b9 q8; first | (exfalso; omega) | (by_cases e9 : y = k; (subst e9; first | exact c68 | exact absurd q8 c28); exact i4 (by omega) y a9 (by omega) q8))
          · refine g_aload_n (pc' := 32) B 2 rfl rfl dX12_goesRound_31 rfl ?_
            refine g_getR (pc' := 35) B 60 fl_X12_17 rfl rfl dX12_goesRound_32 rfl ?_
            refine g_iconst (pc' := 36) B dX12_goesRound_35 rfl ?_
            refine g_iload_n (pc' := 37) B 3 rfl rfl dX12_goesRound_36 rfl ?_
            refine g_imul (pc' := 38) B dX12_goesRound_37 rfl ?_
            refine g_iald (pc' := 39) B (D 0 f) (hM.2.2.2.2.1 f (by omega) (by omega)).1 rfl (by omega) (by decide) dX12_goesRound_38 rfl ?_
            refine g_iload_n (pc' := 40) B 4 rfl rfl dX12_goesRound_39 rfl ?_
            refine g_iload_n (pc' := 41) B 5 rfl rfl dX12_goesRound_40 rfl ?_
            refine g_aload_n (pc' := 42) B 2 rfl rfl dX12_goesRound_41 rfl ?_
            refine g_getR (pc' := 45) B 60 fl_X12_17 rfl rfl dX12_goesRound_42 rfl ?_
            refine g_iconst (pc' := 46) B dX12_goesRound_45 rfl ?_
            refine g_iload_n (pc' := 47) B 3 rfl rfl dX12_goesRound_46 rfl ?_
            refine g_imul (pc' := 48) B dX12_goesRound_47 rfl ?_
            refine g_iconst (pc' := 49) B dX12_goesRound_48 rfl ?_
            refine g_iadd (pc' := 50) B dX12_goesRound_49 rfl ?_
            refine g_iald (pc' := 51) B (D 3 f) (hM.2.2.2.2.1 f (by omega) (by omega)).2.2.2 rfl (by omega) (by decide) dX12_goesRound_50 rfl ?_
            refine g_aload_n (pc' := 52) B 2 rfl rfl dX12_goesRound_51 rfl ?_
            refine g_getR (pc' := 55) B 70 fl_X12_54 rfl rfl dX12_goesRound_52 rfl ?_
            refine g_iload (pc' := 57) B 0 rfl dX12_goesRound_55 rfl ?_
            refine g_iald (pc' := 58) B (Y 1 k) (hY.2.2 k (by omega) (by omega)).2.1 rfl (by omega) (by decide) dX12_goesRound_57 rfl ?_
            refine g_callSI (pc' := 61) (As := [.int (iI (D 0 f)), .int (iI n), .int (iI q), .int (iI (D 3 f)), .int (iI (Y 1 k))]) B (c_X12_heightBy l K _ (b := D 0 f) (n := n) (q := q) (s := D 3 f) (x := Y 1 k) (by omega) (by omega) (by omega) (by omega) (by omega)) st_X12_heightBy tw_1119 ⟨by decide, by decide⟩ rfl (Nat.le_of_ble_eq_true rfl) ⟨Nat.zero_le _, Nat.zero_le _⟩ rfl dX12_goesRound_58 rfl (fun z58 τ58 h58 => ?_)
            obtain ⟨rfl, rfl⟩ := h58
            have hdb := due_bd (f := f) (Y 1 k + q) hF hf.1 hf.2 hn
            refine g_aload_n (pc' := 62) B 2 rfl rfl dX12_goesRound_61 rfl ?_
            refine g_getR (pc' := 65) B 71 fl_X12_57 rfl rfl dX12_goesRound_62 rfl ?_
            refine g_iload (pc' := 67) B 0 rfl dX12_goesRound_65 rfl ?_
            refine g_iald (pc' := 68) B (Y 2 k) (hY.2.2 k (by omega) (by omega)).2.2.1 rfl (by omega) (by decide) dX12_goesRound_67 rfl ?_
            refine g_icmp_ne (pc' := 71) B 75 (by omega) (by omega) dX12_goesRound_68 (by decide) rfl (fun c68 => ?_) (fun c68 => ?_)
            · refine g_iconst (pc' := 76) B dX12_goesRound_75 rfl ?_
              refine g_istore (pc' := 78) B [(4, .int (iI 0)), (5, .int (iI k)), (0, .ref (K.2.2 57)), (1, .int (iI f)), (2, .int (iI n)), (3, .int (iI q))] dX12_goesRound_76 rfl (by decide) rfl ?_
              refine g_iinc (pc' := 81) B 1 [(5, .int (iI (k + 1))), (4, .int (iI 0)), (0, .ref (K.2.2 57)), (1, .int (iI f)), (2, .int (iI n)), (3, .int (iI q))] dX12_goesRound_78 rfl rfl (by decide) rfl ?_
              refine g_goto (pc' := 6) B dX12_goesRound_81 (by decide) ?_
              exact ih6 _ (by omega) 0 (k + 1) rfl (by omega) (by omega) (by intro q9; first | (exfalso; omega) | exact fun q8 => c68 (q8 k (by omega) (by omega) c28)) (by intro q9 y a9 b9 q8; first | (exfalso; omega) | (by_cases e9 : y = k; (subst e9; first | exact c68 | exact absurd q8 c28); exact i4 (by omega) y a9 (by omega) q8))
            · refine g_iconst (pc' := 72) B dX12_goesRound_71 rfl ?_
              refine g_goto (pc' := 76) B dX12_goesRound_72 (by decide) ?_
              refine g_istore (pc' := 78) B [(4, .int (iI 1)), (5, .int (iI k)), (0, .ref (K.2.2 57)), (1, .int (iI f)), (2, .int (iI n)), (3, .int (iI q))] dX12_goesRound_76 rfl (by decide) rfl ?_
              refine g_iinc (pc' := 81) B 1 [(5, .int (iI (k + 1))), (4, .int (iI 1)), (0, .ref (K.2.2 57)), (1, .int (iI f)), (2, .int (iI n)), (3, .int (iI q))] dX12_goesRound_78 rfl rfl (by decide) rfl ?_
              refine g_goto (pc' := 6) B dX12_goesRound_81 (by decide) ?_
              exact ih6 _ (by omega) 1 (k + 1) rfl (by omega) (by omega) (by intro q9; first | (exfalso; omega) | exact fun q8 => c68 (q8 k (by omega) (by omega) c28)) (by intro q9 y a9 b9 q8; first | (exfalso; omega) | (by_cases e9 : y = k; (subst e9; first | exact c68 | exact absurd q8 c28); exact i4 (by omega) y a9 (by omega) q8))
  exact L6 _ 1 0 rfl (by omega) (by omega) (by intro q9; exfalso; omega) (by intro q9 y a b; omega)
set_option maxRecDepth 100000 in
set_option maxHeartbeats 4000000 in
theorem c_X12_rounds (l : Launch) (K : WK) (σ : SG) {D : SG} (hM : mD σ D) (hF : okF D) (hR : okR D) (hO : okQ D) (hH : okH D) {Y : SG} (hY : myD σ Y) {f i : Int} (hf : -2147483648 ≤ f ∧ f < 2147483648) (hi : -2147483648 ≤ i ∧ i < 2147483648) : MI l yX12_rounds cX12_rounds 6 (some .int) 2 50 K σ [.ref (K.2.2 57), .int (iI f), .int (iI i)] (fun z τ => σ = τ ∧ aRounds D Y f i z) := by
  refine met_of [(0, .ref (K.2.2 57)), (1, .int (iI f)), (2, .int (iI i))] (by decide +kernel) (Nat.le_of_ble_eq_true rfl) rfl ?_
  intro pP eE sS mM bW mT cC B hrt hlk
  replace B : CB pP sS mM [.ref (K.2.2 57), .int (iI f), .int (iI i)].toArray cC cX12_rounds RX12 6 K := B
  obtain ⟨hF0, hF1⟩ := id hF
  obtain ⟨hO0, hO1⟩ := id hO
  obtain ⟨hH0, hH1⟩ := id hH
  obtain ⟨hR0, hR1⟩ := id hR
  refine g_aload_n (pc' := 1) B 0 rfl rfl dX12_rounds_0 rfl ?_
  refine g_iload_n (pc' := 2) B 1 rfl rfl dX12_rounds_1 rfl ?_
  refine g_callVI (pc' := 5) (As := [.int (iI f)]) B (c_X12_isField l K _ (D := D) (f := f) hM hF hR hO hH (by omega)) vt_X12_isField tw_1129 rfl rfl ⟨by decide, by decide⟩ rfl (Nat.le_of_ble_eq_true rfl) ⟨Nat.zero_le _, Nat.zero_le _⟩ rfl dX12_rounds_2 rfl (fun z2 τ2 h2 => ?_)
  obtain ⟨rfl, h2⟩ := h2
  rcases h2 with ⟨h2, rfl⟩ | ⟨h2, rfl⟩
  · refine g_if_ne (pc' := 8) B 11 (by omega) dX12_rounds_5 (by decide) rfl (fun _ => ?_) (fun q => absurd q (by decide))
    refine g_iconst (pc' := 12) B dX12_rounds_11 rfl ?_
    refine g_istore_n (pc' := 13) B [(3, .int (iI 0)), (0, .ref (K.2.2 57)), (1, .int (iI f)), (2, .int (iI i))] dX12_rounds_12 rfl rfl (by decide) rfl ?_
    refine g_iconst (pc' := 14) B dX12_rounds_13 rfl ?_
    refine g_istore (pc' := 16) B [(4, .int (iI 2)), (3, .int (iI 0)), (0, .ref (K.2.2 57)), (1, .int (iI f)), (2, .int (iI i))] dX12_rounds_14 rfl (by decide) rfl ?_
    have L16 : ∀ (nn : Nat) (m n : Int) , (13 - n).toNat = nn → (2 ≤ n ∧ n ≤ 13) → (m = cNt D Y f n.toNat) → (∀ a b : Int, 2 ≤ a → a < n → 0 ≤ b → b < a → gor D Y f a b → cNt D Y f a.toNat + clt D Y f a b.toNat ≠ i) → G pP l eE (rmo 2 50) sS mM [.ref (K.2.2 57), .int (iI f), .int (iI i)].toArray bW mT cC 0 0 (MQ bW (Qi K (fun z τ => σ = τ ∧ aRounds D Y f i z)) [.ref (K.2.2 57), .int (iI f), .int (iI i)].toArray sS 0 0 (wA K)) K sS.heap 6 σ 16 [(4, .int (iI n)), (3, .int (iI m)), (0, .ref (K.2.2 57)), (1, .int (iI f)), (2, .int (iI i))] [] := by
      intro nn
      induction nn using Nat.strongRecOn with
      | _ nn ih16 =>
        intro m n hn16 i1 i2 i3
        have hcn := cNt_bd D Y f n.toNat (by omega)
        rw [← i2] at hcn
        refine g_iload (pc' := 18) B 0 rfl dX12_rounds_16 rfl ?_
        refine g_bipush (pc' := 20) B (by decide +kernel) dX12_rounds_18 rfl ?_
        refine g_icmp_ge (pc' := 23) B 74 (by omega) (by omega) dX12_rounds_20 (by decide) rfl (fun c20 => ?_) (fun c20 => ?_)
        · refine g_iload_n (pc' := 75) B 4 rfl rfl dX12_rounds_74 rfl ?_
          refine g_iconst (pc' := 76) B dX12_rounds_75 rfl ?_
          refine g_icmp_ne (pc' := 79) B 83 (by omega) (by omega) dX12_rounds_76 (by decide) rfl (fun c76 => ?_) (fun c76 => ?_)
          · refine g_iconst (pc' := 84) B dX12_rounds_83 rfl ?_
            exact g_iret (z := (-1)) B hrt rfl hlk dX12_rounds_84 ⟨rfl, Or.inr ⟨h2, Or.inr ⟨c76, Or.inr ⟨rfl, fun a b q9 q8 q7 q6 q5 => i3 a b q9 (by omega) q7 q6 q5⟩⟩⟩⟩
          · refine g_iload_n (pc' := 80) B 1 rfl rfl dX12_rounds_79 rfl ?_
            refine g_goto (pc' := 84) B dX12_rounds_80 (by decide) ?_
            exact g_iret (z := m) B hrt rfl hlk dX12_rounds_84 ⟨rfl, Or.inr ⟨h2, Or.inl ⟨c76, by rw [i2, show n = 13 by omega]; rfl⟩⟩⟩
        · refine g_iconst (pc' := 24) B dX12_rounds_23 rfl ?_
          refine g_istore (pc' := 26) B [(5, .int (iI 0)), (4, .int (iI n)), (3, .int (iI m)), (0, .ref (K.2.2 57)), (1, .int (iI f)), (2, .int (iI i))] dX12_rounds_24 rfl (by decide) rfl ?_
          have L26 : ∀ (nn : Nat) (c y : Int) , (n - y).toNat = nn → (0 ≤ y ∧ y ≤ n) → (c = cNt D Y f n.toNat + clt D Y f n y.toNat) → (∀ b : Int, 0 ≤ b → b < y → gor D Y f n b → cNt D Y f n.toNat + clt D Y f n b.toNat ≠ i) → G pP l eE (rmo 2 50) sS mM [.ref (K.2.2 57), .int (iI f), .int (iI i)].toArray bW mT cC 0 0 (MQ bW (Qi K (fun z τ => σ = τ ∧ aRounds D Y f i z)) [.ref (K.2.2 57), .int (iI f), .int (iI i)].toArray sS 0 0 (wA K)) K sS.heap 6 σ 26 [(5, .int (iI y)), (4, .int (iI n)), (3, .int (iI c)), (0, .ref (K.2.2 57)), (1, .int (iI f)), (2, .int (iI i))] [] := by
            intro nn
            induction nn using Nat.strongRecOn with
            | _ nn ih26 =>
              intro c y hn26 j1 j2 j3
              have hcl := clt_bd D Y f n y.toNat
              refine g_iload (pc' := 28) B 0 rfl dX12_rounds_26 rfl ?_
              refine g_iload (pc' := 30) B 1 rfl dX12_rounds_28 rfl ?_
              refine g_icmp_ge (pc' := 33) B 68 (by omega) (by omega) dX12_rounds_30 (by decide) rfl (fun c30 => ?_) (fun c30 => ?_)
              · refine g_iinc (pc' := 71) B 1 [(4, .int (iI (n + 1))), (5, .int (iI y)), (3, .int (iI c)), (0, .ref (K.2.2 57)), (1, .int (iI f)), (2, .int (iI i))] dX12_rounds_68 rfl rfl (by decide) rfl ?_
                refine g_goto (pc' := 16) B dX12_rounds_71 (by decide) ?_
                refine g_loc B [(4, .int (iI (n + 1))), (3, .int (iI c)), (0, .ref (K.2.2 57)), (1, .int (iI f)), (2, .int (iI i))] [0, 2, 3, 4, 5] rfl ?_
                exact ih16 _ (by omega) c (n + 1) rfl (by omega) (by rw [j2, cNt_next (by omega), show y = n by omega]) (by intro a b q9 q8 q7 q6 q5; by_cases e9 : a = n; (subst e9; exact j3 b q7 (by omega) q5); exact i3 a b q9 (by omega) q7 q6 q5)
              · refine g_aload_n (pc' := 34) B 3 rfl rfl dX12_rounds_33 rfl ?_
                refine g_iload_n (pc' := 35) B 4 rfl rfl dX12_rounds_34 rfl ?_
                refine g_iload (pc' := 37) B 1 rfl dX12_rounds_35 rfl ?_
                refine g_iload (pc' := 39) B 0 rfl dX12_rounds_37 rfl ?_
                refine g_callVI (pc' := 42) (As := [.int (iI f), .int (iI n), .int (iI y)]) B (c_X12_goesRound l K _ (D := D) (Y := Y) (f := f) (n := n) (q := y) hM hF hR hO hH hY (by omega) (by omega) (by omega)) vt_X12_goesRound tw_1313 rfl rfl ⟨by decide, by decide⟩ rfl (Nat.le_of_ble_eq_true rfl) ⟨Nat.zero_le _, Nat.zero_le _⟩ rfl dX12_rounds_39 rfl (fun z39 τ39 h39 => ?_)
                obtain ⟨rfl, h39⟩ := h39
                rcases h39 with ⟨h39, rfl⟩ | ⟨h39, rfl⟩
                · refine g_if_eq (pc' := 45) B 62 (by omega) dX12_rounds_42 (by decide) rfl (fun q => absurd q (by decide)) (fun _ => ?_)
                  refine g_iload_n (pc' := 46) B 2 rfl rfl dX12_rounds_45 rfl ?_
                  refine g_iload_n (pc' := 47) B 5 rfl rfl dX12_rounds_46 rfl ?_
                  refine g_icmp_ne (pc' := 50) B 59 (by omega) (by omega) dX12_rounds_47 (by decide) rfl (fun c47 => ?_) (fun c47 => ?_)
                  · refine g_iinc (pc' := 62) B 2 [(3, .int (iI (c + 1))), (5, .int (iI y)), (4, .int (iI n)), (0, .ref (K.2.2 57)), (1, .int (iI f)), (2, .int (iI i))] dX12_rounds_59 rfl rfl (by decide) rfl ?_
                    refine g_iinc (pc' := 65) B 1 [(5, .int (iI (y + 1))), (3, .int (iI (c + 1))), (4, .int (iI n)), (0, .ref (K.2.2 57)), (1, .int (iI f)), (2, .int (iI i))] dX12_rounds_62 rfl rfl (by decide) rfl ?_
                    refine g_goto (pc' := 26) B dX12_rounds_65 (by decide) ?_
                    refine g_loc B [(5, .int (iI (y + 1))), (4, .int (iI n)), (3, .int (iI (c + 1))), (0, .ref (K.2.2 57)), (1, .int (iI f)), (2, .int (iI i))] [0, 2, 1, 3, 4, 5] rfl ?_
                    exact ih26 _ (by omega) (c + 1) (y + 1) rfl (by omega) (by rw [clt_next (by omega)]; first | (rw [cif_pos h39]; omega) | (rw [cif_neg h39]; omega)) (by intro b q9 q8 q7; by_cases e9 : b = y; (subst e9; first | (rw [← j2]; exact c47) | exact absurd q7 h39); exact j3 b q9 (by omega) q7)
                  · refine g_bipush (pc' := 52) B (by decide +kernel) dX12_rounds_50 rfl ?_
                    refine g_iload (pc' := 54) B 1 rfl dX12_rounds_52 rfl ?_
                    refine g_imul (pc' := 55) B dX12_rounds_54 rfl ?_
                    refine g_iload (pc' := 57) B 0 rfl dX12_rounds_55 rfl ?_
                    refine g_iadd (pc' := 58) B dX12_rounds_57 rfl ?_
                    exact g_iret (z := (100 * n) + y) B hrt rfl hlk dX12_rounds_58 ⟨rfl, Or.inr ⟨h2, Or.inr ⟨by omega, Or.inl ⟨n, y, by omega, by omega, h39, by rw [← j2]; exact c47, rfl⟩⟩⟩⟩
                · refine g_if_eq (pc' := 45) B 62 (by omega) dX12_rounds_42 (by decide) rfl (fun _ => ?_) (fun q => absurd q (by decide))
                  refine g_iinc (pc' := 65) B 0 [(5, .int (iI (y + 1))), (4, .int (iI n)), (3, .int (iI c)), (0, .ref (K.2.2 57)), (1, .int (iI f)), (2, .int (iI i))] dX12_rounds_62 rfl rfl (by decide) rfl ?_
                  refine g_goto (pc' := 26) B dX12_rounds_65 (by decide) ?_
                  exact ih26 _ (by omega) c (y + 1) rfl (by omega) (by rw [clt_next (by omega)]; first | (rw [cif_pos h39]; omega) | (rw [cif_neg h39]; omega)) (by intro b q9 q8 q7; by_cases e9 : b = y; (subst e9; first | (rw [← j2]; exact c47) | exact absurd q7 h39); exact j3 b q9 (by omega) q7)
          exact L26 _ m 0 rfl (by omega) (by rw [i2]; show _ = _ + (0 : Int); omega) (by intro b q9; omega)
    exact L16 _ 0 2 rfl (by omega) (by show (0 : Int) = cNt D Y f 2; simp [cNt]) (by intro a b q9; omega)
  · refine g_if_ne (pc' := 8) B 11 (by omega) dX12_rounds_5 (by decide) rfl (fun q => absurd q (by decide)) (fun _ => ?_)
    refine g_ldc (z := (-1000000001)) (pc' := 10) B tw_1133 (by decide +kernel) dX12_rounds_8 rfl ?_
    exact g_iret (z := (-1000000001)) B hrt rfl hlk dX12_rounds_10 ⟨rfl, Or.inl ⟨h2, rfl⟩⟩
