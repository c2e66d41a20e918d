def enM (v : Int) : Int := if v < 0 then 99999999 else v
theorem enM_bd {v : Int} (h : -1 ≤ v ∧ v ≤ 200000) : 0 ≤ enM v ∧ enM v ≤ 99999999 := by unfold enM; split <;> omega
theorem enM_far {v : Int} (h : v ≤ 200000) : enM v = 99999999 ↔ v < 0 := by unfold enM; split <;> omega
theorem enM_ge {v : Int} (h : ¬ v < 0) : enM v = v := if_neg h
theorem enM_lt {v : Int} (h : v < 0) : enM v = 99999999 := if_pos h
/-- the best way of the first ones -/
def bwS (V : Int → Int) : Nat → Int
  | 0 => 0
  | k + 1 => if enM (V ((k : Int) + 1)) < enM (V (bwS V k)) then (k : Int) + 1 else bwS V k
theorem bwS_next {V : Int → Int} {w b : Int} (h : 1 ≤ w) (hb : b = bwS V (w - 1).toNat) : bwS V (w + 1 - 1).toNat = if enM (V w) < enM (V b) then w else b := by
  subst hb
  rw [show (w + 1 - 1).toNat = (w - 1).toNat + 1 by omega]
  show (if enM (V ((((w - 1).toNat : Nat) : Int) + 1)) < enM (V (bwS V (w - 1).toNat)) then (((w - 1).toNat : Nat) : Int) + 1 else _) = _
  rw [show (((w - 1).toNat : Nat) : Int) + 1 = w by omega]
theorem bwS_2 {V : Int → Int} (h : ∀ w : Int, -1 ≤ V w ∧ V w ≤ 200000) : bwS V 2 = if V 0 = mn (mn (mn (-1) (V 0)) (V 1)) (V 2) then 0 else if V 1 = mn (mn (mn (-1) (V 0)) (V 1)) (V 2) then 1 else 2 := by
  have h0 := h 0
  have h1 := h 1
  have h2 := h 2
  have e1 : bwS V 1 = if enM (V 1) < enM (V 0) then 1 else 0 := rfl
  have e2 : bwS V 2 = if enM (V 2) < enM (V (bwS V 1)) then 2 else bwS V 1 := rfl
  rw [e2, e1]
  generalize ha : V 0 = a at *
  generalize hb : V 1 = b at *
  generalize hc : V 2 = c at *
  have e3 : mn (-1) a = a := by unfold mn; rw [if_pos (by omega)]
  rw [e3]
  by_cases q : enM b < enM a
  · rw [if_pos q, hb]
    unfold enM at q
    by_cases q2 : enM c < enM b
    · rw [if_pos q2]
      unfold enM at q2
      unfold mn
      (repeat' split at q) <;> (repeat' split at q2) <;> (repeat' split) <;> omega
    · rw [if_neg q2]
      unfold enM at q2
      unfold mn
      (repeat' split at q) <;> (repeat' split at q2) <;> (repeat' split) <;> omega
  · rw [if_neg q]
    unfold enM at q
    have e4 : V 0 = a := ha
    rw [e4]
    by_cases q2 : enM c < enM a
    · rw [if_pos q2]
      unfold enM at q2
      unfold mn
      (repeat' split at q) <;> (repeat' split at q2) <;> (repeat' split) <;> omega
    · rw [if_neg q2]
      unfold enM at q2
      unfold mn
      (repeat' split at q) <;> (repeat' split at q2) <;> (repeat' split) <;> omega
theorem bwS_fbw {D : SG} {r : Int → Int} {t x f : Int} (h : ∀ w : Int, -1 ≤ wyv D r t x f w ∧ wyv D r t x f w ≤ 200000) : bwS (wyv D r t x f) 2 = fbw D r t x f := bwS_2 h
theorem wgM_step {D : SG} {S X g n v f : Int} (h : 1 ≤ v) : wg D S X g n v.toNat f = if f = g then 0 else pmin D (wg D S X g n (v - 1).toNat) (S + n - v + 1) (X + n - v + 1) f 3 := by
  rw [show v.toNat = (v - 1).toNat + 1 by omega]
  show (if f = g then (0 : Int) else pmin D (wg D S X g n (v - 1).toNat) (S + (n - ((v - 1).toNat : Nat))) (X + (n - ((v - 1).toNat : Nat))) f 3) = _
  rw [show S + (n - (((v - 1).toNat : Nat) : Int)) = S + n - v + 1 by omega, show X + (n - (((v - 1).toNat : Nat) : Int)) = X + n - v + 1 by omega]
theorem wgM_0 {D : SG} {S X g n f : Int} (h : f ≠ g) : enM (wg D S X g n (0 : Int).toNat f) = 99999999 := by
  show enM (if f = g then (0 : Int) else -1) = _
  rw [if_neg h]; rfl
theorem lwF_neg {D : SG} {S X g n i : Int} (hi : i < 0) : ∀ (l : Nat) (a : Int), (l : Int) ≤ n → lwF D S X g n i l a = -1
  | 0, _, _ => rfl
  | l + 1, a, h => by
    show (if a = g then (-1 : Int) else if n - ((l : Int) + 1) = i then _ else _) = -1
    split
    · rfl
    · rw [if_neg (by omega)]
      exact lwF_neg hi l _ (by omega)
set_option maxRecDepth 100000 in
set_option maxHeartbeats 4000000 in
theorem c_X12_leastBy (l : Launch) (K : WK) (σ : SG) {D : SG} (hM : mD σ D) (hF : okF D) (hR : okR D) (hO : okQ D) (hH : okH D) {S X L P : Int} (hn0 : σ 58 0 = S ∧ σ 58 1 = X ∧ σ 58 2 = L ∧ σ 58 3 = P) (hSX : 0 ≤ X ∧ X ≤ S ∧ S ≤ 70000) {r : Int → Int} {f w v n : Int} (hf : 0 ≤ f ∧ f < D 9 0) (hw : 0 ≤ w ∧ w ≤ 2) (hv : 1 ≤ v ∧ v ≤ n ∧ n ≤ 30) (hr : ∀ y : Int, 0 ≤ y → y < D 9 0 → σ 65 (8 * (v - 1) + y) = enM (r y) ∧ -1 ≤ r y ∧ r y ≤ 100000) : MI l yX12_leastBy cX12_leastBy 7 (some .int) 3 73 K σ [.ref (K.2.2 57), .int (iI f), .int (iI w), .int (iI v), .int (iI n)] (fun z τ => σ = τ ∧ z = enM (wyv D r (S + n - v + 1) (X + n - v + 1) f w)) := by
  refine met_of [(0, .ref (K.2.2 57)), (1, .int (iI f)), (2, .int (iI w)), (3, .int (iI v)), (4, .int (iI n))] (by decide +kernel) (Nat.le_of_ble_eq_true rfl) rfl ?_
  intro pP eE sS mM bW mT cC B hrt hlk
  replace B : CB pP sS mM [.ref (K.2.2 57), .int (iI f), .int (iI w), .int (iI v), .int (iI n)].toArray cC cX12_leastBy RX12 7 K := B
  obtain ⟨hF0, hF1⟩ := id hF
  obtain ⟨hO0, hO1⟩ := id hO
  obtain ⟨hH0, hH1⟩ := id hH
  obtain ⟨hR0, hR1⟩ := id hR
  refine g_aload_n (pc' := 1) B 0 rfl rfl dX12_leastBy_0 rfl ?_
  refine g_iload_n (pc' := 2) B 1 rfl rfl dX12_leastBy_1 rfl ?_
  refine g_iload_n (pc' := 3) B 2 rfl rfl dX12_leastBy_2 rfl ?_
  refine g_aload_n (pc' := 4) B 0 rfl rfl dX12_leastBy_3 rfl ?_
  refine g_getR (pc' := 7) B 58 fl_X12_7 rfl rfl dX12_leastBy_4 rfl ?_
  refine g_iconst (pc' := 8) B dX12_leastBy_7 rfl ?_
  refine g_iald (pc' := 9) B S hn0.1 rfl (by omega) (by decide) dX12_leastBy_8 rfl ?_
  refine g_iload (pc' := 11) B 4 rfl dX12_leastBy_9 rfl ?_
  refine g_iadd (pc' := 12) B dX12_leastBy_11 rfl ?_
  refine g_iload_n (pc' := 13) B 3 rfl rfl dX12_leastBy_12 rfl ?_
  refine g_isub (pc' := 14) B dX12_leastBy_13 rfl ?_
  refine g_iconst (pc' := 15) B dX12_leastBy_14 rfl ?_
  refine g_iadd (pc' := 16) B dX12_leastBy_15 rfl ?_
  refine g_callVI (pc' := 19) (As := [.int (iI f), .int (iI w), .int (iI (((S + n) - v) + 1))]) B (c_X12_to l K _ (D := D) (f := f) (w := w) (t := ((S + n) - v) + 1) hM hF hR hO hH (by omega) (by omega) (by omega)) vt_X12_to tw_1175 rfl rfl ⟨by decide, by decide⟩ rfl (Nat.le_of_ble_eq_true rfl) ⟨Nat.zero_le _, Nat.zero_le _⟩ rfl dX12_leastBy_16 rfl (fun z16 τ16 h16 => ?_)
  obtain ⟨rfl, rfl⟩ := h16
  refine g_istore (pc' := 21) B [(5, .int (iI (tow D f (((S + n) - v) + 1) w))), (0, .ref (K.2.2 57)), (1, .int (iI f)), (2, .int (iI w)), (3, .int (iI v)), (4, .int (iI n))] dX12_leastBy_19 rfl (by decide) rfl ?_
  have htb := tow_bd (D := D) (f := f) (t := S + n - v + 1) (w := w)
  refine g_iload (pc' := 23) B 0 rfl dX12_leastBy_21 rfl ?_
  refine g_if_ge (pc' := 26) B 31 (by omega) dX12_leastBy_23 (by decide) rfl (fun c23 => ?_) (fun c23 => ?_)
  · have hc9 := tow_ge (D := D) (f := f) (t := S + n - v + 1) (w := w) (by omega)
    have ht9 := tow_pos hc9
    have hr9 := hr (bes f w) hc9.2.1.1 hc9.2.1.2
    rw [← ht9] at hr9
    have he9 := enM_bd (v := r (tow D f (S + n - v + 1) w)) (by omega)
    rw [← hr9.1] at he9
    have hb9 := hc9.2.1
    rw [← ht9] at hb9
    refine g_aload_n (pc' := 32) B 1 rfl rfl dX12_leastBy_31 rfl ?_
    refine g_getR (pc' := 35) B 65 fl_X12_39 rfl rfl dX12_leastBy_32 rfl ?_
    refine g_bipush (pc' := 37) B (by decide +kernel) dX12_leastBy_35 rfl ?_
    refine g_iload_n (pc' := 38) B 4 rfl rfl dX12_leastBy_37 rfl ?_
    refine g_iconst (pc' := 39) B dX12_leastBy_38 rfl ?_
    refine g_isub (pc' := 40) B dX12_leastBy_39 rfl ?_
    refine g_imul (pc' := 41) B dX12_leastBy_40 rfl ?_
    refine g_iload (pc' := 43) B 0 rfl dX12_leastBy_41 rfl ?_
    refine g_iadd (pc' := 44) B dX12_leastBy_43 rfl ?_
    refine g_iald (pc' := 45) B (σ 65 ((8 * (v - 1)) + (tow D f (((S + n) - v) + 1) w))) rfl rfl (by omega) (by decide) dX12_leastBy_44 rfl ?_
    refine g_istore (pc' := 47) B [(6, .int (iI (σ 65 ((8 * (v - 1)) + (tow D f (((S + n) - v) + 1) w))))), (5, .int (iI (tow D f (((S + n) - v) + 1) w))), (0, .ref (K.2.2 57)), (1, .int (iI f)), (2, .int (iI w)), (3, .int (iI v)), (4, .int (iI n))] dX12_leastBy_45 rfl (by decide) rfl ?_
    refine g_iload (pc' := 49) B 0 rfl dX12_leastBy_47 rfl ?_
    refine g_ldc (z := 99999999) (pc' := 51) B tw_1254 (by decide +kernel) dX12_leastBy_49 rfl ?_
    refine g_icmp_ne (pc' := 54) B 59 (by omega) (by omega) dX12_leastBy_51 (by decide) rfl (fun c51 => ?_) (fun c51 => ?_)
    · refine g_iload (pc' := 61) B 0 rfl dX12_leastBy_59 rfl ?_
      have hg1 := hgt_bd (x := X + n - v + 1) hF hf.1 hf.2
      have hg2 := hgt_bd (x := X + n - v + 1) hF hb9.1 hb9.2
      refine g_aload_n (pc' := 62) B 2 rfl rfl dX12_leastBy_61 rfl ?_
      refine g_iload_n (pc' := 63) B 3 rfl rfl dX12_leastBy_62 rfl ?_
      refine g_iload (pc' := 65) B 1 rfl dX12_leastBy_63 rfl ?_
      refine g_aload_n (pc' := 66) B 2 rfl rfl dX12_leastBy_65 rfl ?_
      refine g_getR (pc' := 69) B 58 fl_X12_7 rfl rfl dX12_leastBy_66 rfl ?_
      refine g_iconst (pc' := 70) B dX12_leastBy_69 rfl ?_
      refine g_iald (pc' := 71) B X hn0.2.1 rfl (by omega) (by decide) dX12_leastBy_70 rfl ?_
      refine g_iload (pc' := 73) B 6 rfl dX12_leastBy_71 rfl ?_
      refine g_iadd (pc' := 74) B dX12_leastBy_73 rfl ?_
      refine g_iload_n (pc' := 75) B 5 rfl rfl dX12_leastBy_74 rfl ?_
      refine g_isub (pc' := 76) B dX12_leastBy_75 rfl ?_
      refine g_iconst (pc' := 77) B dX12_leastBy_76 rfl ?_
      refine g_iadd (pc' := 78) B dX12_leastBy_77 rfl ?_
      refine g_callVI (pc' := 81) (As := [.int (iI f), .int (iI (tow D f (((S + n) - v) + 1) w)), .int (iI (((X + n) - v) + 1))]) B (c_X12_pulledBy l K _ (D := D) (f := f) (d := tow D f (((S + n) - v) + 1) w) (x := ((X + n) - v) + 1) hM hF hR hO hH (by omega) (by omega) (by omega)) vt_X12_pulledBy tw_1184 rfl rfl ⟨by decide, by decide⟩ rfl (Nat.le_of_ble_eq_true rfl) ⟨Nat.zero_le _, Nat.zero_le _⟩ rfl dX12_leastBy_78 rfl (fun z78 τ78 h78 => ?_)
      obtain ⟨rfl, rfl⟩ := h78
      refine g_iadd (pc' := 82) B dX12_leastBy_81 rfl ?_
      exact g_iret (z := (σ 65 ((8 * (v - 1)) + (tow D f (((S + n) - v) + 1) w))) + (max 0 (hgt D (tow D f (((S + n) - v) + 1) w) (((X + n) - v) + 1) - hgt D f (((X + n) - v) + 1)))) B hrt rfl hlk dX12_leastBy_82 ⟨rfl, by have q9 : ¬ r (tow D f (S + n - v + 1) w) < 0 := fun q8 => c51 (hr9.1.trans (enM_lt q8)); unfold wyv; rw [cif_pos hc9, ← ht9, if_neg q9, hr9.1, enM_ge q9, enM_ge (by omega)]⟩
    · refine g_ldc (z := 99999999) (pc' := 56) B tw_1254 (by decide +kernel) dX12_leastBy_54 rfl ?_
      refine g_goto (pc' := 82) B dX12_leastBy_56 (by decide) ?_
      exact g_iret (z := 99999999) B hrt rfl hlk dX12_leastBy_82 ⟨rfl, by first | (exfalso; omega) | (have q9 := tow_lt c23; unfold wyv; rw [cif_neg q9]; rfl) | (have q9 := (enM_far (by omega)).mp (hr9.1.symm.trans c51); unfold wyv; rw [cif_pos hc9, ← ht9, if_pos q9]; rfl)⟩
  · refine g_ldc (z := 99999999) (pc' := 28) B tw_1254 (by decide +kernel) dX12_leastBy_26 rfl ?_
    refine g_goto (pc' := 45) B dX12_leastBy_28 (by decide) ?_
    refine g_istore (pc' := 47) B [(6, .int (iI 99999999)), (5, .int (iI (tow D f (((S + n) - v) + 1) w))), (0, .ref (K.2.2 57)), (1, .int (iI f)), (2, .int (iI w)), (3, .int (iI v)), (4, .int (iI n))] dX12_leastBy_45 rfl (by decide) rfl ?_
    refine g_iload (pc' := 49) B 0 rfl dX12_leastBy_47 rfl ?_
    refine g_ldc (z := 99999999) (pc' := 51) B tw_1254 (by decide +kernel) dX12_leastBy_49 rfl ?_
    refine g_icmp_ne (pc' := 54) B 59 (by omega) (by omega) dX12_leastBy_51 (by decide) rfl (fun q => absurd q (by decide)) (fun _ => ?_)
    refine g_ldc (z := 99999999) (pc' := 56) B tw_1254 (by decide +kernel) dX12_leastBy_54 rfl ?_
    refine g_goto (pc' := 82) B dX12_leastBy_56 (by decide) ?_
    exact g_iret (z := 99999999) B hrt rfl hlk dX12_leastBy_82 ⟨rfl, by first | (exfalso; omega) | (have q9 := tow_lt c23; unfold wyv; rw [cif_neg q9]; rfl) | (have q9 := (enM_far (by omega)).mp (hr9.1.symm.trans c51); unfold wyv; rw [cif_pos hc9, ← ht9, if_pos q9]; rfl)⟩
set_option maxRecDepth 100000 in
set_option maxHeartbeats 4000000 in
theorem c_X12_bestWay (l : Launch) (K : WK) (σ : SG) {D : SG} (hM : mD σ D) (hF : okF D) (hR : okR D) (hO : okQ D) (hH : okH D) {S X L P : Int} (hn0 : σ 58 0 = S ∧ σ 58 1 = X ∧ σ 58 2 = L ∧ σ 58 3 = P) (hSX : 0 ≤ X ∧ X ≤ S ∧ S ≤ 70000) {r : Int → Int} {f v n : Int} (hf : 0 ≤ f ∧ f < D 9 0) (hv : 1 ≤ v ∧ v ≤ n ∧ n ≤ 30) (hr : ∀ y : Int, 0 ≤ y → y < D 9 0 → σ 65 (8 * (v - 1) + y) = enM (r y) ∧ -1 ≤ r y ∧ r y ≤ 100000) : MI l yX12_bestWay cX12_bestWay 6 (some .int) 4 99 K σ [.ref (K.2.2 57), .int (iI f), .int (iI v), .int (iI n)] (fun z τ => σ = τ ∧ z = fbw D r (S + n - v + 1) (X + n - v + 1) f) := by
  refine met_of [(0, .ref (K.2.2 57)), (1, .int (iI f)), (2, .int (iI v)), (3, .int (iI n))] (by decide +kernel) (Nat.le_of_ble_eq_true rfl) rfl ?_
  intro pP eE sS mM bW mT cC B hrt hlk
  replace B : CB pP sS mM [.ref (K.2.2 57), .int (iI f), .int (iI v), .int (iI n)].toArray cC cX12_bestWay RX12 6 K := B
  obtain ⟨hF0, hF1⟩ := id hF
  obtain ⟨hO0, hO1⟩ := id hO
  obtain ⟨hH0, hH1⟩ := id hH
  obtain ⟨hR0, hR1⟩ := id hR
  have hV : ∀ w9 : Int, -1 ≤ wyv D r (S + n - v + 1) (X + n - v + 1) f w9 ∧ wyv D r (S + n - v + 1) (X + n - v + 1) f w9 ≤ 200000 := fun w9 => by have q9 := wyv_bd hF (S + n - v + 1) (X + n - v + 1) f w9 (fun y a b => (hr y a b).2) (by omega); omega
  refine g_iconst (pc' := 1) B dX12_bestWay_0 rfl ?_
  refine g_istore (pc' := 3) B [(4, .int (iI 0)), (0, .ref (K.2.2 57)), (1, .int (iI f)), (2, .int (iI v)), (3, .int (iI n))] dX12_bestWay_1 rfl (by decide) rfl ?_
  refine g_iconst (pc' := 4) B dX12_bestWay_3 rfl ?_
  refine g_istore (pc' := 6) B [(5, .int (iI 1)), (4, .int (iI 0)), (0, .ref (K.2.2 57)), (1, .int (iI f)), (2, .int (iI v)), (3, .int (iI n))] dX12_bestWay_4 rfl (by decide) rfl ?_
  have L6 : ∀ (nn : Nat) (b w : Int) , (3 - w).toNat = nn → (1 ≤ w ∧ w ≤ 3) → (0 ≤ b ∧ b < w) → (b = bwS (wyv D r (S + n - v + 1) (X + n - v + 1) f) (w - 1).toNat) → G pP l eE (rmo 4 99) sS mM [.ref (K.2.2 57), .int (iI f), .int (iI v), .int (iI n)].toArray bW mT cC 0 0 (MQ bW (Qi K (fun z τ => σ = τ ∧ z = fbw D r (S + n - v + 1) (X + n - v + 1) f)) [.ref (K.2.2 57), .int (iI f), .int (iI v), .int (iI n)].toArray sS 0 0 (wA K)) K sS.heap 6 σ 6 [(5, .int (iI w)), (4, .int (iI b)), (0, .ref (K.2.2 57)), (1, .int (iI f)), (2, .int (iI v)), (3, .int (iI n))] [] := by
    intro nn
    induction nn using Nat.strongRecOn with
    | _ nn ih6 =>
      intro b w hn6 i1 i2 i3
      refine g_iload (pc' := 8) B 0 rfl dX12_bestWay_6 rfl ?_
      refine g_iconst (pc' := 9) B dX12_bestWay_8 rfl ?_
      refine g_icmp_ge (pc' := 12) B 48 (by omega) (by omega) dX12_bestWay_9 (by decide) rfl (fun c9 => ?_) (fun c9 => ?_)
      · refine g_iload (pc' := 50) B 1 rfl dX12_bestWay_48 rfl ?_
        exact g_iret (z := b) B hrt rfl hlk dX12_bestWay_50 ⟨rfl, by rw [i3, show (w - 1).toNat = 2 by omega]; exact bwS_fbw hV⟩
      · refine g_aload_n (pc' := 13) B 2 rfl rfl dX12_bestWay_12 rfl ?_
        refine g_iload_n (pc' := 14) B 3 rfl rfl dX12_bestWay_13 rfl ?_
        refine g_iload (pc' := 16) B 0 rfl dX12_bestWay_14 rfl ?_
        refine g_iload_n (pc' := 17) B 4 rfl rfl dX12_bestWay_16 rfl ?_
        refine g_iload_n (pc' := 18) B 5 rfl rfl dX12_bestWay_17 rfl ?_
        refine g_callVI (pc' := 21) (As := [.int (iI f), .int (iI w), .int (iI v), .int (iI n)]) B (c_X12_leastBy l K _ (D := D) (S := S) (X := X) (L := L) (P := P) (r := r) (f := f) (w := w) (v := v) (n := n) hM hF hR hO hH hn0 (by omega) (by omega) (by omega) (by omega) hr) vt_X12_leastBy tw_1259 rfl rfl ⟨by decide, by decide⟩ rfl (Nat.le_of_ble_eq_true rfl) ⟨Nat.zero_le _, Nat.zero_le _⟩ rfl dX12_bestWay_18 rfl (fun z18 τ18 h18 => ?_)
        obtain ⟨rfl, rfl⟩ := h18
        refine g_aload_n (pc' := 22) B 2 rfl rfl dX12_bestWay_21 rfl ?_
        refine g_iload_n (pc' := 23) B 3 rfl rfl dX12_bestWay_22 rfl ?_
        refine g_iload (pc' := 25) B 1 rfl dX12_bestWay_23 rfl ?_
        refine g_iload_n (pc' := 26) B 4 rfl rfl dX12_bestWay_25 rfl ?_
        refine g_iload_n (pc' := 27) B 5 rfl rfl dX12_bestWay_26 rfl ?_
        refine g_callVI (pc' := 30) (As := [.int (iI f), .int (iI b), .int (iI v), .int (iI n)]) B (c_X12_leastBy l K _ (D := D) (S := S) (X := X) (L := L) (P := P) (r := r) (f := f) (w := b) (v := v) (n := n) hM hF hR hO hH hn0 (by omega) (by omega) (by omega) (by omega) hr) vt_X12_leastBy tw_1259 rfl rfl ⟨by decide, by decide⟩ rfl (Nat.le_of_ble_eq_true rfl) ⟨Nat.zero_le _, Nat.zero_le _⟩ rfl dX12_bestWay_27 rfl (fun z27 τ27 h27 => ?_)
        obtain ⟨rfl, rfl⟩ := h27
        have hw1 := enM_bd (hV w)
        have hw2 := enM_bd (hV b)
        refine g_icmp_ge (pc' := 33) B 38 (by omega) (by omega) dX12_bestWay_30 (by decide) rfl (fun c30 => ?_) (fun c30 => ?_)
        · refine g_iload (pc' := 40) B 1 rfl dX12_bestWay_38 rfl ?_
          refine g_istore (pc' := 42) B [(4, .int (iI b)), (5, .int (iI w)), (0, .ref (K.2.2 57)), (1, .int (iI f)), (2, .int (iI v)), (3, .int (iI n))] dX12_bestWay_40 rfl (by decide) rfl ?_
          refine g_iinc (pc' := 45) B 1 [(5, .int (iI (w + 1))), (4, .int (iI b)), (0, .ref (K.2.2 57)), (1, .int (iI f)), (2, .int (iI v)), (3, .int (iI n))] dX12_bestWay_42 rfl rfl (by decide) rfl ?_
          refine g_goto (pc' := 6) B dX12_bestWay_45 (by decide) ?_
          exact ih6 _ (by omega) b (w + 1) rfl (by omega) (by omega) (by rw [bwS_next (by omega) i3]; first | (rw [if_pos (by omega)]) | (rw [if_neg (by omega)]))
        · refine g_iload (pc' := 35) B 0 rfl dX12_bestWay_33 rfl ?_
          refine g_goto (pc' := 40) B dX12_bestWay_35 (by decide) ?_
          refine g_istore (pc' := 42) B [(4, .int (iI w)), (5, .int (iI w)), (0, .ref (K.2.2 57)), (1, .int (iI f)), (2, .int (iI v)), (3, .int (iI n))] dX12_bestWay_40 rfl (by decide) rfl ?_
          refine g_iinc (pc' := 45) B 1 [(5, .int (iI (w + 1))), (4, .int (iI w)), (0, .ref (K.2.2 57)), (1, .int (iI f)), (2, .int (iI v)), (3, .int (iI n))] dX12_bestWay_42 rfl rfl (by decide) rfl ?_
          refine g_goto (pc' := 6) B dX12_bestWay_45 (by decide) ?_
          exact ih6 _ (by omega) w (w + 1) rfl (by omega) (by omega) (by rw [bwS_next (by omega) i3]; first | (rw [if_pos (by omega)]) | (rw [if_neg (by omega)]))
  exact L6 _ 0 1 rfl (by omega) (by omega) (by rfl)
set_option maxRecDepth 100000 in
set_option maxHeartbeats 4000000 in
theorem c_X12_findLeast (l : Launch) (K : WK) (σ : SG) {D : SG} (hM : mD σ D) (hF : okF D) (hR : okR D) (hO : okQ D) (hH : okH D) {S X L P : Int} (hn0 : σ 58 0 = S ∧ σ 58 1 = X ∧ σ 58 2 = L ∧ σ 58 3 = P) (hSX : 0 ≤ X ∧ X ≤ S ∧ S ≤ 70000) {g n : Int} (hg : 0 ≤ g ∧ g < D 9 0) (hn : 1 ≤ n ∧ n ≤ 30) : MV l yX12_findLeast cX12_findLeast 5 none 5 124 K σ [.ref (K.2.2 57), .int (iI g), .int (iI n)] (fun τ => (∀ k, k ≠ 65 → τ k = σ k) ∧ ∀ l y : Int, 0 ≤ l → l ≤ n → 0 ≤ y → y < D 9 0 → τ 65 (8 * l + y) = enM (wg D S X g n l.toNat y)) := by
  refine met_of [(0, .ref (K.2.2 57)), (1, .int (iI g)), (2, .int (iI n))] (by decide +kernel) (Nat.le_of_ble_eq_true rfl) rfl ?_
  intro pP eE sS mM bW mT cC B hrt hlk
  replace B : CB pP sS mM [.ref (K.2.2 57), .int (iI g), .int (iI n)].toArray cC cX12_findLeast RX12 5 K := B
  obtain ⟨hF0, hF1⟩ := id hF
  obtain ⟨hO0, hO1⟩ := id hO
  obtain ⟨hH0, hH1⟩ := id hH
  obtain ⟨hR0, hR1⟩ := id hR
  refine g_iconst (pc' := 1) B dX12_findLeast_0 rfl ?_
  refine g_istore_n (pc' := 2) B [(3, .int (iI 0)), (0, .ref (K.2.2 57)), (1, .int (iI g)), (2, .int (iI n))] dX12_findLeast_1 rfl rfl (by decide) rfl ?_
  have L2 : ∀ (nn : Nat) (ρ : SG) (v : Int) , (n + 1 - v).toNat = nn → (0 ≤ v ∧ v ≤ n + 1) → (∀ k, k ≠ 65 → ρ k = σ k) → (∀ l y : Int, 0 ≤ l → l < v → 0 ≤ y → y < D 9 0 → ρ 65 (8 * l + y) = enM (wg D S X g n l.toNat y)) → G pP l eE (rmo 5 124) sS mM [.ref (K.2.2 57), .int (iI g), .int (iI n)].toArray bW mT cC 0 0 (MQ bW (Qv K (fun τ => (∀ k, k ≠ 65 → τ k = σ k) ∧ ∀ l y : Int, 0 ≤ l → l ≤ n → 0 ≤ y → y < D 9 0 → τ 65 (8 * l + y) = enM (wg D S X g n l.toNat y))) [.ref (K.2.2 57), .int (iI g), .int (iI n)].toArray sS 0 0 (wA K)) K sS.heap 5 ρ 2 [(3, .int (iI v)), (0, .ref (K.2.2 57)), (1, .int (iI g)), (2, .int (iI n))] [] := by
    intro nn
    induction nn using Nat.strongRecOn with
    | _ nn ih2 =>
      intro ρ v hn2 i1 i2 i3
      refine g_iload_n (pc' := 3) B 0 rfl rfl dX12_findLeast_2 rfl ?_
      refine g_iload_n (pc' := 4) B 3 rfl rfl dX12_findLeast_3 rfl ?_
      refine g_icmp_gt (pc' := 7) B 78 (by omega) (by omega) dX12_findLeast_4 (by decide) rfl (fun c4 => ?_) (fun c4 => ?_)
      · exact g_vret B hrt hlk dX12_findLeast_78 ⟨i2, fun l y a b c d => i3 l y a (by omega) c d⟩
      · refine g_iconst (pc' := 8) B dX12_findLeast_7 rfl ?_
        refine g_istore (pc' := 10) B [(4, .int (iI 0)), (3, .int (iI v)), (0, .ref (K.2.2 57)), (1, .int (iI g)), (2, .int (iI n))] dX12_findLeast_8 rfl (by decide) rfl ?_
        have L10 : ∀ (nn : Nat) (ω : SG) (x : Int) , (D 9 0 - x).toNat = nn → (0 ≤ x ∧ x ≤ D 9 0) → (∀ k, k ≠ 65 → ω k = σ k) → (∀ l y : Int, 0 ≤ l → l < v → 0 ≤ y → y < D 9 0 → ω 65 (8 * l + y) = enM (wg D S X g n l.toNat y)) → (∀ y : Int, 0 ≤ y → y < x → ω 65 (8 * v + y) = enM (wg D S X g n v.toNat y)) → G pP l eE (rmo 5 124) sS mM [.ref (K.2.2 57), .int (iI g), .int (iI n)].toArray bW mT cC 0 0 (MQ bW (Qv K (fun τ => (∀ k, k ≠ 65 → τ k = σ k) ∧ ∀ l y : Int, 0 ≤ l → l ≤ n → 0 ≤ y → y < D 9 0 → τ 65 (8 * l + y) = enM (wg D S X g n l.toNat y))) [.ref (K.2.2 57), .int (iI g), .int (iI n)].toArray sS 0 0 (wA K)) K sS.heap 5 ω 10 [(4, .int (iI x)), (3, .int (iI v)), (0, .ref (K.2.2 57)), (1, .int (iI g)), (2, .int (iI n))] [] := by
          intro nn
          induction nn using Nat.strongRecOn with
          | _ nn ih10 =>
            intro ω x hn10 j1 j2 j3 j4
            have hMω : mD ω D := hM.keep (by rw [j2 57 (by decide)]) (by rw [j2 57 (by decide)]) (by rw [j2 57 (by decide)]) (by rw [j2 57 (by decide)]) (fun k a c => j2 k (by omega))
            have hnω : ω 58 0 = S ∧ ω 58 1 = X ∧ ω 58 2 = L ∧ ω 58 3 = P := by rw [j2 58 (by decide)]; exact hn0
            refine g_iload (pc' := 12) B 0 rfl dX12_findLeast_10 rfl ?_
            refine g_aload_n (pc' := 13) B 2 rfl rfl dX12_findLeast_12 rfl ?_
            refine g_get (pc' := 16) B (D 9 0) hMω.1 fl_X12_131 rfl rfl dX12_findLeast_13 rfl ?_
            refine g_icmp_ge (pc' := 19) B 72 (by omega) (by omega) dX12_findLeast_16 (by decide) rfl (fun c16 => ?_) (fun c16 => ?_)
            · refine g_iinc (pc' := 75) B 1 [(3, .int (iI (v + 1))), (4, .int (iI x)), (0, .ref (K.2.2 57)), (1, .int (iI g)), (2, .int (iI n))] dX12_findLeast_72 rfl rfl (by decide) rfl ?_
              refine g_goto (pc' := 2) B dX12_findLeast_75 (by decide) ?_
              refine g_loc B [(3, .int (iI (v + 1))), (0, .ref (K.2.2 57)), (1, .int (iI g)), (2, .int (iI n))] [0, 2, 3, 4] rfl ?_
              exact ih2 _ (by omega) ω (v + 1) rfl (by omega) (by exact j2) (by intro l y a b c d; by_cases e9 : l = v; (subst e9; exact j4 y c (by omega)); exact j3 l y a (by omega) c d)
            · refine g_aload_n (pc' := 20) B 2 rfl rfl dX12_findLeast_19 rfl ?_
              refine g_getR (pc' := 23) B 65 fl_X12_39 rfl rfl dX12_findLeast_20 rfl ?_
              refine g_bipush (pc' := 25) B (by decide +kernel) dX12_findLeast_23 rfl ?_
              refine g_iload_n (pc' := 26) B 1 rfl rfl dX12_findLeast_25 rfl ?_
              refine g_imul (pc' := 27) B dX12_findLeast_26 rfl ?_
              refine g_iload (pc' := 29) B 0 rfl dX12_findLeast_27 rfl ?_
              refine g_iadd (pc' := 30) B dX12_findLeast_29 rfl ?_
              refine g_iload (pc' := 32) B 0 rfl dX12_findLeast_30 rfl ?_
              refine g_iload_n (pc' := 33) B 3 rfl rfl dX12_findLeast_32 rfl ?_
              refine g_icmp_ne (pc' := 36) B 40 (by omega) (by omega) dX12_findLeast_33 (by decide) rfl (fun c33 => ?_) (fun c33 => ?_)
              · refine g_iload_n (pc' := 41) B 1 rfl rfl dX12_findLeast_40 rfl ?_
                refine g_if_ne (pc' := 44) B 49 (by omega) dX12_findLeast_41 (by decide) rfl (fun c41 => ?_) (fun c41 => ?_)
                · have hrω : ∀ y : Int, 0 ≤ y → y < D 9 0 → ω 65 (8 * (v - 1) + y) = enM (wg D S X g n (v - 1).toNat y) ∧ -1 ≤ wg D S X g n (v - 1).toNat y ∧ wg D S X g n (v - 1).toNat y ≤ 100000 := fun y a b => ⟨j3 (v - 1) y (by omega) (by omega) a b, (wg_bd hF S X g n (v - 1).toNat y).1, by have q9 := (wg_bd hF S X g n (v - 1).toNat y).2; omega⟩
                  have hfi := fbw_in D (wg D S X g n (v - 1).toNat) (S + n - v + 1) (X + n - v + 1) x
                  refine g_aload_n (pc' := 50) B 2 rfl rfl dX12_findLeast_49 rfl ?_
                  refine g_iload (pc' := 52) B 0 rfl dX12_findLeast_50 rfl ?_
                  refine g_aload_n (pc' := 53) B 2 rfl rfl dX12_findLeast_52 rfl ?_
                  refine g_iload (pc' := 55) B 0 rfl dX12_findLeast_53 rfl ?_
                  refine g_iload_n (pc' := 56) B 1 rfl rfl dX12_findLeast_55 rfl ?_
                  refine g_iload_n (pc' := 57) B 4 rfl rfl dX12_findLeast_56 rfl ?_
                  refine g_callVI (pc' := 60) (As := [.int (iI x), .int (iI v), .int (iI n)]) B (c_X12_bestWay l K _ (D := D) (S := S) (X := X) (L := L) (P := P) (r := wg D S X g n (v - 1).toNat) (f := x) (v := v) (n := n) hMω hF hR hO hH hnω (by omega) (by omega) (by omega) hrω) vt_X12_bestWay tw_1255 rfl rfl ⟨by decide, by decide⟩ rfl (Nat.le_of_ble_eq_true rfl) ⟨Nat.zero_le _, Nat.zero_le _⟩ rfl dX12_findLeast_57 rfl (fun z57 τ57 h57 => ?_)
                  obtain ⟨rfl, rfl⟩ := h57
                  refine g_iload_n (pc' := 61) B 1 rfl rfl dX12_findLeast_60 rfl ?_
                  refine g_iload_n (pc' := 62) B 4 rfl rfl dX12_findLeast_61 rfl ?_
                  refine g_callVI (pc' := 65) (As := [.int (iI x), .int (iI (fbw D (wg D S X g n (v - 1).toNat) (S + n - v + 1) (X + n - v + 1) x)), .int (iI v), .int (iI n)]) B (c_X12_leastBy l K _ (D := D) (S := S) (X := X) (L := L) (P := P) (r := wg D S X g n (v - 1).toNat) (f := x) (w := fbw D (wg D S X g n (v - 1).toNat) (S + n - v + 1) (X + n - v + 1) x) (v := v) (n := n) hMω hF hR hO hH hnω (by omega) (by omega) (by omega) (by omega) hrω) vt_X12_leastBy tw_1259 rfl rfl ⟨by decide, by decide⟩ rfl (Nat.le_of_ble_eq_true rfl) ⟨Nat.zero_le _, Nat.zero_le _⟩ rfl dX12_findLeast_62 rfl (fun z62 τ62 h62 => ?_)
                  obtain ⟨rfl, rfl⟩ := h62
                  refine g_iast (pc' := 66) B rfl (by omega) (by decide) dX12_findLeast_65 rfl ?_
                  refine g_iinc (pc' := 69) B 0 [(4, .int (iI (x + 1))), (3, .int (iI v)), (0, .ref (K.2.2 57)), (1, .int (iI g)), (2, .int (iI n))] dX12_findLeast_66 rfl rfl (by decide) rfl ?_
                  refine g_goto (pc' := 10) B dX12_findLeast_69 (by decide) ?_
                  exact ih10 _ (by omega) (up ω 65 ((8 * v) + x) (enM (wyv D (wg D S X g n (v - 1).toNat) (S + n - v + 1) (X + n - v + 1) x (fbw D (wg D S X g n (v - 1).toNat) (S + n - v + 1) (X + n - v + 1) x)))) (x + 1) rfl (by omega) (by intro k a; rw [up_row a]; exact j2 k a) (by intro l y a b c d; rw [up_col (by omega)]; exact j3 l y a b c d) (by intro y a b; by_cases e9 : y = x; (subst e9; rw [up_same]; first | (rw [c33, wg_goal]; rfl) | (rw [c41]; exact (wgM_0 c33).symm) | (rw [wgM_step (by omega), if_neg c33, fbw_is])); (rw [up_col (by omega)]; exact j4 y a (by omega)))
                · refine g_ldc (z := 99999999) (pc' := 46) B tw_1254 (by decide +kernel) dX12_findLeast_44 rfl ?_
                  refine g_goto (pc' := 65) B dX12_findLeast_46 (by decide) ?_
                  refine g_iast (pc' := 66) B rfl (by omega) (by decide) dX12_findLeast_65 rfl ?_
                  refine g_iinc (pc' := 69) B 0 [(4, .int (iI (x + 1))), (3, .int (iI v)), (0, .ref (K.2.2 57)), (1, .int (iI g)), (2, .int (iI n))] dX12_findLeast_66 rfl rfl (by decide) rfl ?_
                  refine g_goto (pc' := 10) B dX12_findLeast_69 (by decide) ?_
                  exact ih10 _ (by omega) (up ω 65 ((8 * v) + x) 99999999) (x + 1) rfl (by omega) (by intro k a; rw [up_row a]; exact j2 k a) (by intro l y a b c d; rw [up_col (by omega)]; exact j3 l y a b c d) (by intro y a b; by_cases e9 : y = x; (subst e9; rw [up_same]; first | (rw [c33, wg_goal]; rfl) | (rw [c41]; exact (wgM_0 c33).symm) | (rw [wgM_step (by omega), if_neg c33, fbw_is])); (rw [up_col (by omega)]; exact j4 y a (by omega)))
              · refine g_iconst (pc' := 37) B dX12_findLeast_36 rfl ?_
                refine g_goto (pc' := 65) B dX12_findLeast_37 (by decide) ?_
                refine g_iast (pc' := 66) B rfl (by omega) (by decide) dX12_findLeast_65 rfl ?_
                refine g_iinc (pc' := 69) B 0 [(4, .int (iI (x + 1))), (3, .int (iI v)), (0, .ref (K.2.2 57)), (1, .int (iI g)), (2, .int (iI n))] dX12_findLeast_66 rfl rfl (by decide) rfl ?_
                refine g_goto (pc' := 10) B dX12_findLeast_69 (by decide) ?_
                exact ih10 _ (by omega) (up ω 65 ((8 * v) + x) 0) (x + 1) rfl (by omega) (by intro k a; rw [up_row a]; exact j2 k a) (by intro l y a b c d; rw [up_col (by omega)]; exact j3 l y a b c d) (by intro y a b; by_cases e9 : y = x; (subst e9; rw [up_same]; first | (rw [c33, wg_goal]; rfl) | (rw [c41]; exact (wgM_0 c33).symm) | (rw [wgM_step (by omega), if_neg c33, fbw_is])); (rw [up_col (by omega)]; exact j4 y a (by omega)))
        exact L10 _ ρ 0 rfl (by omega) (by exact i2) (by exact i3) (by intro y a b; omega)
  exact L2 _ σ 0 rfl (by omega) (by intro k a; rfl) (by intro l y a b; omega)
set_option maxRecDepth 100000 in
set_option maxHeartbeats 4000000 in
theorem c_X12_least (l : Launch) (K : WK) (σ : SG) {D : SG} (hM : mD σ D) (hF : okF D) (hR : okR D) (hO : okQ D) (hH : okH D) {S X L P : Int} (hn0 : σ 58 0 = S ∧ σ 58 1 = X ∧ σ 58 2 = L ∧ σ 58 3 = P) (hSX : 0 ≤ X ∧ X ≤ S ∧ S ≤ 70000) {f g n i : Int} (hf : -2147483648 ≤ f ∧ f < 2147483648) (hg : -2147483648 ≤ g ∧ g < 2147483648) (hn : -2147483648 ≤ n ∧ n < 2147483648) (hi : -2147483648 ≤ i ∧ i < 2147483648) : MI l yX12_least cX12_least 9 (some .int) 6 148 K σ [.ref (K.2.2 57), .int (iI f), .int (iI g), .int (iI n), .int (iI i)] (fun z τ => (∀ k, k ≠ 65 → τ k = σ k) ∧ z = qLeast D S X f g n i) := by
  refine met_of [(0, .ref (K.2.2 57)), (1, .int (iI f)), (2, .int (iI g)), (3, .int (iI n)), (4, .int (iI i))] (by decide +kernel) (Nat.le_of_ble_eq_true rfl) rfl ?_
  intro pP eE sS mM bW mT cC B hrt hlk
  replace B : CB pP sS mM [.ref (K.2.2 57), .int (iI f), .int (iI g), .int (iI n), .int (iI i)].toArray cC cX12_least RX12 9 K := B
  obtain ⟨hF0, hF1⟩ := id hF
  obtain ⟨hO0, hO1⟩ := id hO
  obtain ⟨hH0, hH1⟩ := id hH
  obtain ⟨hR0, hR1⟩ := id hR
  refine g_aload_n (pc' := 1) B 0 rfl rfl dX12_least_0 rfl ?_
  refine g_iload_n (pc' := 2) B 1 rfl rfl dX12_least_1 rfl ?_
  refine g_callVI (pc' := 5) (As := [.int (iI f)]) B (c_X12_isField l K _ (D := D) (f := f) hM hF hR hO hH (by omega)) vt_X12_isField tw_1129 rfl rfl ⟨by decide, by decide⟩ rfl (Nat.le_of_ble_eq_true rfl) ⟨Nat.zero_le _, Nat.zero_le _⟩ rfl dX12_least_2 rfl (fun z2 τ2 h2 => ?_)
  obtain ⟨rfl, h2⟩ := h2
  rcases h2 with ⟨h2, rfl⟩ | ⟨h2, rfl⟩
  · refine g_if_eq (pc' := 8) B 16 (by omega) dX12_least_5 (by decide) rfl (fun q => absurd q (by decide)) (fun _ => ?_)
    refine g_aload_n (pc' := 9) B 0 rfl rfl dX12_least_8 rfl ?_
    refine g_iload_n (pc' := 10) B 2 rfl rfl dX12_least_9 rfl ?_
    refine g_callVI (pc' := 13) (As := [.int (iI g)]) B (c_X12_isField l K _ (D := D) (f := g) hM hF hR hO hH (by omega)) vt_X12_isField tw_1129 rfl rfl ⟨by decide, by decide⟩ rfl (Nat.le_of_ble_eq_true rfl) ⟨Nat.zero_le _, Nat.zero_le _⟩ rfl dX12_least_10 rfl (fun z10 τ10 h10 => ?_)
    obtain ⟨rfl, h10⟩ := h10
    rcases h10 with ⟨h10, rfl⟩ | ⟨h10, rfl⟩
    · refine g_if_ne (pc' := 16) B 19 (by omega) dX12_least_13 (by decide) rfl (fun _ => ?_) (fun q => absurd q (by decide))
      refine g_iload_n (pc' := 20) B 3 rfl rfl dX12_least_19 rfl ?_
      refine g_i2l (pc' := 21) B (by omega) dX12_least_20 rfl ?_
      refine g_lconst (z := 1) (pc' := 22) B (by decide +kernel) dX12_least_21 rfl ?_
      refine g_ldc2 (z := 30) (pc' := 25) B tw_1249 (by decide +kernel) dX12_least_22 rfl ?_
      refine g_callSI (pc' := 28) (As := [.long (lI n), .long (lI 1), .long (lI 30)]) B (c_X12_in l K _ (v := n) (a := 1) (b := 30) (by omega) (by omega) (by omega)) st_X12_in tw_1041 ⟨by decide, by decide⟩ rfl (Nat.le_of_ble_eq_true rfl) ⟨Nat.zero_le _, Nat.zero_le _⟩ rfl dX12_least_25 rfl (fun z25 τ25 h25 => ?_)
      obtain ⟨rfl, h25⟩ := h25
      rcases h25 with ⟨h25, rfl⟩ | ⟨h25, rfl⟩
      · refine g_if_ne (pc' := 31) B 34 (by omega) dX12_least_28 (by decide) rfl (fun _ => ?_) (fun q => absurd q (by decide))
        refine g_aload_n (pc' := 35) B 0 rfl rfl dX12_least_34 rfl ?_
        refine g_iload_n (pc' := 36) B 2 rfl rfl dX12_least_35 rfl ?_
        refine g_iload_n (pc' := 37) B 3 rfl rfl dX12_least_36 rfl ?_
        refine g_callVV (pc' := 40) (As := [.int (iI g), .int (iI n)]) B (c_X12_findLeast l K _ (D := D) (S := S) (X := X) (L := L) (P := P) (g := g) (n := n) hM hF hR hO hH hn0 (by omega) (by omega) (by omega)) vt_X12_findLeast tw_1250 rfl rfl ⟨by decide, by decide⟩ rfl (Nat.le_of_ble_eq_true rfl) ⟨Nat.zero_le _, Nat.zero_le _⟩ rfl dX12_least_37 rfl (fun τ37 h37 => ?_)
        obtain ⟨h37a, h37b⟩ := h37
        have hM37 : mD τ37 D := hM.keep (by rw [h37a 57 (by decide)]) (by rw [h37a 57 (by decide)]) (by rw [h37a 57 (by decide)]) (by rw [h37a 57 (by decide)]) (fun k a c => h37a k (by omega))
        have hn37 : τ37 58 0 = S ∧ τ37 58 1 = X ∧ τ37 58 2 = L ∧ τ37 58 3 = P := by rw [h37a 58 (by decide)]; exact hn0
        have hw9 := wg_bd hF S X g n n.toNat f
        have hw8 := enM_bd (v := wg D S X g n n.toNat f) (by omega)
        have hfar := enM_far (v := wg D S X g n n.toNat f) (by omega)
        have hq : qLeast D S X f g n i = (if i = -1 then wg D S X g n n.toNat f else if wg D S X g n n.toNat f < 0 then -1 else lwF D S X g n i n.toNat f) := (if_pos ⟨h2, h10⟩).trans (if_neg (by omega))
        refine g_aload_n (pc' := 41) B 0 rfl rfl dX12_least_40 rfl ?_
        refine g_getR (pc' := 44) B 65 fl_X12_39 rfl rfl dX12_least_41 rfl ?_
        refine g_bipush (pc' := 46) B (by decide +kernel) dX12_least_44 rfl ?_
        refine g_iload_n (pc' := 47) B 3 rfl rfl dX12_least_46 rfl ?_
        refine g_imul (pc' := 48) B dX12_least_47 rfl ?_
        refine g_iload_n (pc' := 49) B 1 rfl rfl dX12_least_48 rfl ?_
        refine g_iadd (pc' := 50) B dX12_least_49 rfl ?_
        refine g_iald (pc' := 51) B (enM (wg D S X g n n.toNat f)) (h37b n f (by omega) (by omega) (by omega) (by omega)) rfl (by omega) (by decide) dX12_least_50 rfl ?_
        refine g_istore (pc' := 53) B [(5, .int (iI (enM (wg D S X g n n.toNat f)))), (0, .ref (K.2.2 57)), (1, .int (iI f)), (2, .int (iI g)), (3, .int (iI n)), (4, .int (iI i))] dX12_least_51 rfl (by decide) rfl ?_
        refine g_iload (pc' := 55) B 0 rfl dX12_least_53 rfl ?_
        refine g_ldc (z := 99999999) (pc' := 57) B tw_1254 (by decide +kernel) dX12_least_55 rfl ?_
        refine g_icmp_eq (pc' := 60) B 65 (by omega) (by omega) dX12_least_57 (by decide) rfl (fun c57 => ?_) (fun c57 => ?_)
        · refine g_iload (pc' := 67) B 0 rfl dX12_least_65 rfl ?_
          refine g_ldc (z := 99999999) (pc' := 69) B tw_1254 (by decide +kernel) dX12_least_67 rfl ?_
          refine g_icmp_eq (pc' := 72) B 83 (by omega) (by omega) dX12_least_69 (by decide) rfl (fun c69 => ?_) (fun c69 => ?_)
          · refine g_iconst (pc' := 84) B dX12_least_83 rfl ?_
            exact g_iret (z := (-1)) B hrt rfl hlk dX12_least_84 ⟨h37a, by first | (exfalso; omega) | (rw [hq, if_pos c75]; exact enM_ge (by omega)) | (rw [hq, if_pos (by omega), enM_ge (by omega)]) | (rw [hq]; split; omega; rw [if_pos (by omega)]) | (rw [hq, if_neg c75]; split; rfl; exact (lwF_neg (by omega) _ _ (by omega)).symm)⟩
          · refine g_iload (pc' := 74) B 5 rfl dX12_least_72 rfl ?_
            refine g_iconst (pc' := 75) B dX12_least_74 rfl ?_
            refine g_icmp_ne (pc' := 78) B 83 (by omega) (by omega) dX12_least_75 (by decide) rfl (fun c75 => ?_) (fun c75 => ?_)
            · refine g_iconst (pc' := 84) B dX12_least_83 rfl ?_
              exact g_iret (z := (-1)) B hrt rfl hlk dX12_least_84 ⟨h37a, by first | (exfalso; omega) | (rw [hq, if_pos c75]; exact enM_ge (by omega)) | (rw [hq, if_pos (by omega), enM_ge (by omega)]) | (rw [hq]; split; omega; rw [if_pos (by omega)]) | (rw [hq, if_neg c75]; split; rfl; exact (lwF_neg (by omega) _ _ (by omega)).symm)⟩
            · refine g_iload (pc' := 80) B 0 rfl dX12_least_78 rfl ?_
              refine g_goto (pc' := 84) B dX12_least_80 (by decide) ?_
              exact g_iret (z := enM (wg D S X g n n.toNat f)) B hrt rfl hlk dX12_least_84 ⟨h37a, by first | (exfalso; omega) | (rw [hq, if_pos c75]; exact enM_ge (by omega)) | (rw [hq, if_pos (by omega), enM_ge (by omega)]) | (rw [hq]; split; omega; rw [if_pos (by omega)]) | (rw [hq, if_neg c75]; split; rfl; exact (lwF_neg (by omega) _ _ (by omega)).symm)⟩
        · refine g_iload (pc' := 62) B 5 rfl dX12_least_60 rfl ?_
          refine g_if_ge (pc' := 65) B 85 (by omega) dX12_least_62 (by decide) rfl (fun c62 => ?_) (fun c62 => ?_)
          · refine g_iload_n (pc' := 86) B 2 rfl rfl dX12_least_85 rfl ?_
            refine g_istore (pc' := 88) B [(6, .int (iI f)), (5, .int (iI (enM (wg D S X g n n.toNat f)))), (0, .ref (K.2.2 57)), (1, .int (iI f)), (2, .int (iI g)), (3, .int (iI n)), (4, .int (iI i))] dX12_least_86 rfl (by decide) rfl ?_
            refine g_iconst (pc' := 89) B dX12_least_88 rfl ?_
            refine g_istore (pc' := 91) B [(7, .int (iI 0)), (6, .int (iI f)), (5, .int (iI (enM (wg D S X g n n.toNat f)))), (0, .ref (K.2.2 57)), (1, .int (iI f)), (2, .int (iI g)), (3, .int (iI n)), (4, .int (iI i))] dX12_least_89 rfl (by decide) rfl ?_
            have L91 : ∀ (nn : Nat) (a k : Int) , (n - k).toNat = nn → (0 ≤ k ∧ k ≤ n) → (0 ≤ a ∧ a < D 9 0) → (0 ≤ wg D S X g n (n - k).toNat a) → (lwF D S X g n i (n - k).toNat a = lwF D S X g n i n.toNat f) → G pP l eE (rmo 6 148) sS mM [.ref (K.2.2 57), .int (iI f), .int (iI g), .int (iI n), .int (iI i)].toArray bW mT cC 0 0 (MQ bW (Qi K (fun z τ => (∀ k, k ≠ 65 → τ k = σ k) ∧ z = qLeast D S X f g n i)) [.ref (K.2.2 57), .int (iI f), .int (iI g), .int (iI n), .int (iI i)].toArray sS 0 0 (wA K)) K sS.heap 9 τ37 91 [(7, .int (iI k)), (6, .int (iI a)), (5, .int (iI (enM (wg D S X g n n.toNat f)))), (0, .ref (K.2.2 57)), (1, .int (iI f)), (2, .int (iI g)), (3, .int (iI n)), (4, .int (iI i))] [] := by
              intro nn
              induction nn using Nat.strongRecOn with
              | _ nn ih91 =>
                intro a k hn91 i1 i2 i3 i4
                refine g_iload (pc' := 93) B 0 rfl dX12_least_91 rfl ?_
                refine g_iload_n (pc' := 94) B 6 rfl rfl dX12_least_93 rfl ?_
                refine g_icmp_ge (pc' := 97) B 153 (by omega) (by omega) dX12_least_94 (by decide) rfl (fun c94 => ?_) (fun c94 => ?_)
                · refine g_iconst (pc' := 154) B dX12_least_153 rfl ?_
                  exact g_iret (z := (-1)) B hrt rfl hlk dX12_least_154 ⟨h37a, by rw [hq, if_neg (by omega), if_neg (by omega), ← i4, lwF_end _ (by omega)]⟩
                · refine g_iload (pc' := 99) B 1 rfl dX12_least_97 rfl ?_
                  refine g_iload_n (pc' := 100) B 5 rfl rfl dX12_least_99 rfl ?_
                  refine g_icmp_eq (pc' := 103) B 153 (by omega) (by omega) dX12_least_100 (by decide) rfl (fun c100 => ?_) (fun c100 => ?_)
                  · refine g_iconst (pc' := 154) B dX12_least_153 rfl ?_
                    exact g_iret (z := (-1)) B hrt rfl hlk dX12_least_154 ⟨h37a, by rw [hq, if_neg (by omega), if_neg (by omega), ← i4, lwF_end _ (by omega)]⟩
                  · have hr37 : ∀ y : Int, 0 ≤ y → y < D 9 0 → τ37 65 (8 * ((n - k) - 1) + y) = enM (wg D S X g n (n - (k + 1)).toNat y) ∧ -1 ≤ wg D S X g n (n - (k + 1)).toNat y ∧ wg D S X g n (n - (k + 1)).toNat y ≤ 100000 := fun y a b => ⟨by rw [h37b _ y (by omega) (by omega) a b, show n - k - 1 = n - (k + 1) by omega], (wg_bd hF S X g n (n - (k + 1)).toNat y).1, by have q9 := (wg_bd hF S X g n (n - (k + 1)).toNat y).2; omega⟩
                    refine g_aload_n (pc' := 104) B 3 rfl rfl dX12_least_103 rfl ?_
                    refine g_iload (pc' := 106) B 1 rfl dX12_least_104 rfl ?_
                    refine g_iload_n (pc' := 107) B 6 rfl rfl dX12_least_106 rfl ?_
                    refine g_iload (pc' := 109) B 0 rfl dX12_least_107 rfl ?_
                    refine g_isub (pc' := 110) B dX12_least_109 rfl ?_
                    refine g_iload_n (pc' := 111) B 6 rfl rfl dX12_least_110 rfl ?_
                    refine g_callVI (pc' := 114) (As := [.int (iI a), .int (iI (n - k)), .int (iI n)]) B (c_X12_bestWay l K _ (D := D) (S := S) (X := X) (L := L) (P := P) (r := wg D S X g n (n - (k + 1)).toNat) (f := a) (v := n - k) (n := n) hM37 hF hR hO hH hn37 (by omega) (by omega) (by omega) hr37) vt_X12_bestWay tw_1255 rfl rfl ⟨by decide, by decide⟩ rfl (Nat.le_of_ble_eq_true rfl) ⟨Nat.zero_le _, Nat.zero_le _⟩ rfl dX12_least_111 rfl (fun z111 τ111 h111 => ?_)
                    obtain ⟨rfl, rfl⟩ := h111
                    have hfe : fbw D (wg D S X g n (n - (k + 1)).toNat) (S + n - (n - k) + 1) (X + n - (n - k) + 1) a = fbw D (wg D S X g n (n - (k + 1)).toNat) (S + k + 1) (X + k + 1) a := by rw [show S + n - (n - k) + 1 = S + k + 1 by omega, show X + n - (n - k) + 1 = X + k + 1 by omega]
                    have hwk := wg_walk (S := S) (X := X) (n := n) (i := k) (a := a) (g := g) (by omega) (by omega) c100 i3
                    have hfi := fbw_in D (wg D S X g n (n - (k + 1)).toNat) (S + n - (n - k) + 1) (X + n - (n - k) + 1) a
                    refine g_istore (pc' := 116) B [(8, .int (iI (fbw D (wg D S X g n (n - (k + 1)).toNat) (S + n - (n - k) + 1) (X + n - (n - k) + 1) a))), (7, .int (iI k)), (6, .int (iI a)), (5, .int (iI (enM (wg D S X g n n.toNat f)))), (0, .ref (K.2.2 57)), (1, .int (iI f)), (2, .int (iI g)), (3, .int (iI n)), (4, .int (iI i))] dX12_least_114 rfl (by decide) rfl ?_
                    refine g_iload (pc' := 118) B 1 rfl dX12_least_116 rfl ?_
                    refine g_iload (pc' := 120) B 8 rfl dX12_least_118 rfl ?_
                    refine g_icmp_ne (pc' := 123) B 126 (by omega) (by omega) dX12_least_120 (by decide) rfl (fun c120 => ?_) (fun c120 => ?_)
                    · refine g_aload_n (pc' := 127) B 4 rfl rfl dX12_least_126 rfl ?_
                      refine g_iload (pc' := 129) B 2 rfl dX12_least_127 rfl ?_
                      refine g_iload (pc' := 131) B 0 rfl dX12_least_129 rfl ?_
                      refine g_aload_n (pc' := 132) B 4 rfl rfl dX12_least_131 rfl ?_
                      refine g_getR (pc' := 135) B 58 fl_X12_7 rfl rfl dX12_least_132 rfl ?_
                      refine g_iconst (pc' := 136) B dX12_least_135 rfl ?_
                      refine g_iald (pc' := 137) B S hn37.1 rfl (by omega) (by decide) dX12_least_136 rfl ?_
                      refine g_iload (pc' := 139) B 1 rfl dX12_least_137 rfl ?_
                      refine g_iadd (pc' := 140) B dX12_least_139 rfl ?_
                      refine g_iconst (pc' := 141) B dX12_least_140 rfl ?_
                      refine g_iadd (pc' := 142) B dX12_least_141 rfl ?_
                      refine g_callVI (pc' := 145) (As := [.int (iI a), .int (iI (fbw D (wg D S X g n (n - (k + 1)).toNat) (S + n - (n - k) + 1) (X + n - (n - k) + 1) a)), .int (iI ((S + k) + 1))]) B (c_X12_to l K _ (D := D) (f := a) (w := fbw D (wg D S X g n (n - (k + 1)).toNat) (S + n - (n - k) + 1) (X + n - (n - k) + 1) a) (t := (S + k) + 1) hM37 hF hR hO hH (by omega) (by omega) (by omega)) vt_X12_to tw_1175 rfl rfl ⟨by decide, by decide⟩ rfl (Nat.le_of_ble_eq_true rfl) ⟨Nat.zero_le _, Nat.zero_le _⟩ rfl dX12_least_142 rfl (fun z142 τ142 h142 => ?_)
                      obtain ⟨rfl, rfl⟩ := h142
                      refine g_istore (pc' := 147) B [(6, .int (iI (tow D a ((S + k) + 1) (fbw D (wg D S X g n (n - (k + 1)).toNat) (S + n - (n - k) + 1) (X + n - (n - k) + 1) a)))), (8, .int (iI (fbw D (wg D S X g n (n - (k + 1)).toNat) (S + n - (n - k) + 1) (X + n - (n - k) + 1) a))), (7, .int (iI k)), (5, .int (iI (enM (wg D S X g n n.toNat f)))), (0, .ref (K.2.2 57)), (1, .int (iI f)), (2, .int (iI g)), (3, .int (iI n)), (4, .int (iI i))] dX12_least_145 rfl (by decide) rfl ?_
                      refine g_iinc (pc' := 150) B 2 [(7, .int (iI (k + 1))), (6, .int (iI (tow D a ((S + k) + 1) (fbw D (wg D S X g n (n - (k + 1)).toNat) (S + n - (n - k) + 1) (X + n - (n - k) + 1) a)))), (8, .int (iI (fbw D (wg D S X g n (n - (k + 1)).toNat) (S + n - (n - k) + 1) (X + n - (n - k) + 1) a))), (5, .int (iI (enM (wg D S X g n n.toNat f)))), (0, .ref (K.2.2 57)), (1, .int (iI f)), (2, .int (iI g)), (3, .int (iI n)), (4, .int (iI i))] dX12_least_147 rfl rfl (by decide) rfl ?_
                      refine g_goto (pc' := 91) B dX12_least_150 (by decide) ?_
                      refine g_loc B [(7, .int (iI (k + 1))), (6, .int (iI (tow D a ((S + k) + 1) (fbw D (wg D S X g n (n - (k + 1)).toNat) (S + n - (n - k) + 1) (X + n - (n - k) + 1) a)))), (5, .int (iI (enM (wg D S X g n n.toNat f)))), (0, .ref (K.2.2 57)), (1, .int (iI f)), (2, .int (iI g)), (3, .int (iI n)), (4, .int (iI i))] [0, 1, 3, 4, 5, 6, 7, 8] rfl ?_
                      exact ih91 _ (by omega) (tow D a ((S + k) + 1) (fbw D (wg D S X g n (n - (k + 1)).toNat) (S + n - (n - k) + 1) (X + n - (n - k) + 1) a)) (k + 1) rfl (by omega) (by rw [hfe, tow_pos hwk.2.1]; exact hwk.1) (by rw [hfe, tow_pos hwk.2.1]; exact hwk.2.2) (by rw [← i4, lwF_step (i := k) (by omega) (by omega), if_neg c100, if_neg c120, hfe, tow_pos hwk.2.1])
                    · refine g_iload (pc' := 125) B 0 rfl dX12_least_123 rfl ?_
                      exact g_iret (z := fbw D (wg D S X g n (n - (k + 1)).toNat) (S + n - (n - k) + 1) (X + n - (n - k) + 1) a) B hrt rfl hlk dX12_least_125 ⟨h37a, by rw [hq, if_neg (by omega), if_neg (by omega), ← i4, lwF_step (i := k) (by omega) (by omega), if_neg c100, if_pos c120, hfe]⟩
            exact L91 _ f 0 rfl (by omega) (by omega) (by rw [show n - 0 = n by omega]; omega) (by rw [show n - 0 = n by omega])
          · refine g_iload (pc' := 67) B 0 rfl dX12_least_65 rfl ?_
            refine g_ldc (z := 99999999) (pc' := 69) B tw_1254 (by decide +kernel) dX12_least_67 rfl ?_
            refine g_icmp_eq (pc' := 72) B 83 (by omega) (by omega) dX12_least_69 (by decide) rfl (fun c69 => ?_) (fun c69 => ?_)
            · refine g_iconst (pc' := 84) B dX12_least_83 rfl ?_
              exact g_iret (z := (-1)) B hrt rfl hlk dX12_least_84 ⟨h37a, by first | (exfalso; omega) | (rw [hq, if_pos c75]; exact enM_ge (by omega)) | (rw [hq, if_pos (by omega), enM_ge (by omega)]) | (rw [hq]; split; omega; rw [if_pos (by omega)]) | (rw [hq, if_neg c75]; split; rfl; exact (lwF_neg (by omega) _ _ (by omega)).symm)⟩
            · refine g_iload (pc' := 74) B 5 rfl dX12_least_72 rfl ?_
              refine g_iconst (pc' := 75) B dX12_least_74 rfl ?_
              refine g_icmp_ne (pc' := 78) B 83 (by omega) (by omega) dX12_least_75 (by decide) rfl (fun c75 => ?_) (fun c75 => ?_)
              · refine g_iconst (pc' := 84) B dX12_least_83 rfl ?_
                exact g_iret (z := (-1)) B hrt rfl hlk dX12_least_84 ⟨h37a, by first | (exfalso; omega) | (rw [hq, if_pos c75]; exact enM_ge (by omega)) | (rw [hq, if_pos (by omega), enM_ge (by omega)]) | (rw [hq]; split; omega; rw [if_pos (by omega)]) | (rw [hq, if_neg c75]; split; rfl; exact (lwF_neg (by omega) _ _ (by omega)).symm)⟩
              · refine g_iload (pc' := 80) B 0 rfl dX12_least_78 rfl ?_
                refine g_goto (pc' := 84) B dX12_least_80 (by decide) ?_
                exact g_iret (z := enM (wg D S X g n n.toNat f)) B hrt rfl hlk dX12_least_84 ⟨h37a, by first | (exfalso; omega) | (rw [hq, if_pos c75]; exact enM_ge (by omega)) | (rw [hq, if_pos (by omega), enM_ge (by omega)]) | (rw [hq]; split; omega; rw [if_pos (by omega)]) | (rw [hq, if_neg c75]; split; rfl; exact (lwF_neg (by omega) _ _ (by omega)).symm)⟩
      · refine g_if_ne (pc' := 31) B 34 (by omega) dX12_least_28 (by decide) rfl (fun q => absurd q (by decide)) (fun _ => ?_)
        refine g_ldc (z := (-1000000002)) (pc' := 33) B tw_1044 (by decide +kernel) dX12_least_31 rfl ?_
        exact g_iret (z := (-1000000002)) B hrt rfl hlk dX12_least_33 ⟨fun k _ => rfl, by unfold qLeast; rw [if_pos ⟨h2, h10⟩, if_pos (by omega)]⟩
    · refine g_if_ne (pc' := 16) B 19 (by omega) dX12_least_13 (by decide) rfl (fun q => absurd q (by decide)) (fun _ => ?_)
      refine g_ldc (z := (-1000000001)) (pc' := 18) B tw_1133 (by decide +kernel) dX12_least_16 rfl ?_
      exact g_iret (z := (-1000000001)) B hrt rfl hlk dX12_least_18 ⟨fun k _ => rfl, by unfold qLeast; rw [if_neg (by omega)]⟩
  · refine g_if_eq (pc' := 8) B 16 (by omega) dX12_least_5 (by decide) rfl (fun _ => ?_) (fun q => absurd q (by decide))
    refine g_ldc (z := (-1000000001)) (pc' := 18) B tw_1133 (by decide +kernel) dX12_least_16 rfl ?_
    exact g_iret (z := (-1000000001)) B hrt rfl hlk dX12_least_18 ⟨fun k _ => rfl, by unfold qLeast; rw [if_neg (by omega)]⟩
