theorem cst_perR {D : SG} {h : Int} (hR : okR D) (hH : okH D) (h0 : 0 ≤ h) (h1 : h < D 9 1) (x : Int) : cst D h (x + D 9 3) = cst D h x := by
  have q := hH.2 h h0 h1
  unfold cst
  rw [lean_per (hR.2 _ q.1 (by omega)) (hR.2 _ (by omega) q.2.1)]
theorem flW_t {D : SG} {f x : Int} (h : 1 ≤ f) (c : hgt D (f - 1) x < hgt D f x) : flW D f x = f - 1 := if_pos ⟨h, c⟩
theorem flW_f {D : SG} {f x : Int} (h : ¬ (1 ≤ f ∧ hgt D (f - 1) x < hgt D f x)) : flW D f x = f := if_neg h
theorem flw_t {D : SG} {f x : Int} (h : f + 1 < D 9 0) (c : hgt D (f + 1) x < hgt D (flW D f x) x) : flw D f x = f + 1 := if_pos ⟨h, c⟩
theorem flw_f {D : SG} {f x : Int} (h : ¬ (f + 1 < D 9 0 ∧ hgt D (f + 1) x < hgt D (flW D f x) x)) : flw D f x = flW D f x := if_neg h
theorem sm_next {F : Int → Int} {k : Int} (h : 0 ≤ k) : sm F (k + 1).toNat = sm F k.toNat + F k := by
  rw [show (k + 1).toNat = k.toNat + 1 by omega]
  show sm F k.toNat + F ((k.toNat : Nat) : Int) = _
  rw [show ((k.toNat : Nat) : Int) = k by omega]
theorem ml_from {D : SG} {f w X : Int} (hR : okR D) (hX : 0 ≤ X) (h0 : 0 ≤ f) (h1 : f + 1 < D 9 0) : sm (fun j => mt D f w (X + j)) (D 9 3).toNat = ml D f w := by
  have hp : (((D 9 3).toNat : Nat) : Int) = D 9 3 := by have := hR.1; omega
  have q := sm_shift (p := (D 9 3).toNat) X.toNat (F := mt D f w) (fun x => by rw [hp]; exact mt_per w (hR.2 f h0 (by omega)) (hR.2 (f + 1) (by omega) h1) x)
  rw [show ((X.toNat : Nat) : Int) = X by omega] at q
  exact q
set_option maxRecDepth 100000 in
set_option maxHeartbeats 4000000 in
theorem c_X12_cracks (l : Launch) (K : WK) (σ : SG) {D : SG} (hM : mD σ D) (hF : okF D) (hR : okR D) (hO : okQ D) (hH : okH D) {S X L P : Int} (hn0 : σ 58 0 = S ∧ σ 58 1 = X ∧ σ 58 2 = L ∧ σ 58 3 = P) (hSX : 0 ≤ X ∧ X ≤ S ∧ S ≤ 70000) {sl : Int → Int} (hms : ∀ h : Int, 0 ≤ h → h < D 9 1 → σ 58 (4 + h) = sl h ∧ 0 ≤ sl h ∧ sl h ≤ 999) {h : Int} (hh : -2147483648 ≤ h ∧ h < 2147483648) : MI l yX12_cracks cX12_cracks 3 (some .int) 4 91 K σ [.ref (K.2.2 57), .int (iI h)] (fun z τ => σ = τ ∧ aCracks D sl X h z) := by
  refine met_of [(0, .ref (K.2.2 57)), (1, .int (iI h))] (by decide +kernel) (Nat.le_of_ble_eq_true rfl) rfl ?_
  intro pP eE sS mM bW mT cC B hrt hlk
  replace B : CB pP sS mM [.ref (K.2.2 57), .int (iI h)].toArray cC cX12_cracks RX12 3 K := B
  obtain ⟨hF0, hF1⟩ := id hF
  obtain ⟨hO0, hO1⟩ := id hO
  obtain ⟨hH0, hH1⟩ := id hH
  obtain ⟨hR0, hR1⟩ := id hR
  refine g_iload_n (pc' := 1) B 1 rfl rfl dX12_cracks_0 rfl ?_
  refine g_i2l (pc' := 2) B (by omega) dX12_cracks_1 rfl ?_
  refine g_lconst (z := 0) (pc' := 3) B (by decide +kernel) dX12_cracks_2 rfl ?_
  refine g_aload_n (pc' := 4) B 0 rfl rfl dX12_cracks_3 rfl ?_
  refine g_get (pc' := 7) B (D 9 1) hM.2.1 fl_X12_134 rfl rfl dX12_cracks_4 rfl ?_
  refine g_iconst (pc' := 8) B dX12_cracks_7 rfl ?_
  refine g_isub (pc' := 9) B dX12_cracks_8 rfl ?_
  refine g_i2l (pc' := 10) B (by omega) dX12_cracks_9 rfl ?_
  refine g_callSI (pc' := 13) (As := [.long (lI h), .long (lI 0), .long (lI ((D 9 1) - 1))]) B (c_X12_in l K _ (v := h) (a := 0) (b := (D 9 1) - 1) (by omega) (by omega) (by omega)) st_X12_in tw_1041 ⟨by decide, by decide⟩ rfl (Nat.le_of_ble_eq_true rfl) ⟨Nat.zero_le _, Nat.zero_le _⟩ rfl dX12_cracks_10 rfl (fun z10 τ10 h10 => ?_)
  obtain ⟨rfl, h10⟩ := h10
  rcases h10 with ⟨h10, rfl⟩ | ⟨h10, rfl⟩
  · refine g_if_ne (pc' := 16) B 19 (by omega) dX12_cracks_13 (by decide) rfl (fun _ => ?_) (fun q => absurd q (by decide))
    refine g_iconst (pc' := 20) B dX12_cracks_19 rfl ?_
    refine g_istore_n (pc' := 21) B [(2, .int (iI 0)), (0, .ref (K.2.2 57)), (1, .int (iI h))] dX12_cracks_20 rfl rfl (by decide) rfl ?_
    have L21 : ∀ (nn : Nat) (k : Int) , (D 9 3 - k).toNat = nn → (0 ≤ k ∧ k ≤ D 9 3) → (∀ y : Int, X ≤ y → y < X + k → ¬ sl h < cst D h y) → G pP l eE (rmo 4 91) sS mM [.ref (K.2.2 57), .int (iI h)].toArray bW mT cC 0 0 (MQ bW (Qi K (fun z τ => σ = τ ∧ aCracks D sl X h z)) [.ref (K.2.2 57), .int (iI h)].toArray sS 0 0 (wA K)) K sS.heap 3 σ 21 [(2, .int (iI k)), (0, .ref (K.2.2 57)), (1, .int (iI h))] [] := by
      intro nn
      induction nn using Nat.strongRecOn with
      | _ nn ih21 =>
        intro k hn21 i1 i2
        refine g_iload_n (pc' := 22) B 0 rfl rfl dX12_cracks_21 rfl ?_
        refine g_aload_n (pc' := 23) B 1 rfl rfl dX12_cracks_22 rfl ?_
        refine g_get (pc' := 26) B (D 9 3) hM.2.2.2.1 fl_X12_33 rfl rfl dX12_cracks_23 rfl ?_
        refine g_icmp_ge (pc' := 29) B 60 (by omega) (by omega) dX12_cracks_26 (by decide) rfl (fun c26 => ?_) (fun c26 => ?_)
        · refine g_iconst (pc' := 61) B dX12_cracks_60 rfl ?_
          exact g_iret (z := (-1)) B hrt rfl hlk dX12_cracks_61 ⟨rfl, Or.inr ⟨by omega, Or.inr ⟨rfl, per_none (p := D 9 3) hR0.1 (fun x => by rw [cst_perR hR hH (by omega) (by omega)]) (fun y a b => i2 y a (by omega))⟩⟩⟩
        · refine g_aload_n (pc' := 30) B 1 rfl rfl dX12_cracks_29 rfl ?_
          refine g_iload_n (pc' := 31) B 2 rfl rfl dX12_cracks_30 rfl ?_
          refine g_aload_n (pc' := 32) B 1 rfl rfl dX12_cracks_31 rfl ?_
          refine g_getR (pc' := 35) B 58 fl_X12_7 rfl rfl dX12_cracks_32 rfl ?_
          refine g_iconst (pc' := 36) B dX12_cracks_35 rfl ?_
          refine g_iald (pc' := 37) B X hn0.2.1 rfl (by omega) (by decide) dX12_cracks_36 rfl ?_
          refine g_iload_n (pc' := 38) B 0 rfl rfl dX12_cracks_37 rfl ?_
          refine g_iadd (pc' := 39) B dX12_cracks_38 rfl ?_
          refine g_callVI (pc' := 42) (As := [.int (iI h), .int (iI (X + k))]) B (c_X12_cracksAt l K _ (D := D) (sl := sl) (h := h) (x := X + k) hM hF hR hO hH hms (by omega) (by omega)) vt_X12_cracksAt tw_1107 rfl rfl ⟨by decide, by decide⟩ rfl (Nat.le_of_ble_eq_true rfl) ⟨Nat.zero_le _, Nat.zero_le _⟩ rfl dX12_cracks_39 rfl (fun z39 τ39 h39 => ?_)
          obtain ⟨rfl, h39⟩ := h39
          rcases h39 with ⟨h39, rfl⟩ | ⟨h39, rfl⟩
          · refine g_if_eq (pc' := 45) B 54 (by omega) dX12_cracks_42 (by decide) rfl (fun q => absurd q (by decide)) (fun _ => ?_)
            refine g_aload_n (pc' := 46) B 1 rfl rfl dX12_cracks_45 rfl ?_
            refine g_getR (pc' := 49) B 58 fl_X12_7 rfl rfl dX12_cracks_46 rfl ?_
            refine g_iconst (pc' := 50) B dX12_cracks_49 rfl ?_
            refine g_iald (pc' := 51) B X hn0.2.1 rfl (by omega) (by decide) dX12_cracks_50 rfl ?_
            refine g_iload_n (pc' := 52) B 0 rfl rfl dX12_cracks_51 rfl ?_
            refine g_iadd (pc' := 53) B dX12_cracks_52 rfl ?_
            exact g_iret (z := X + k) B hrt rfl hlk dX12_cracks_53 ⟨rfl, Or.inr ⟨by omega, Or.inl ⟨by omega, h39, fun y a b => i2 y a (by omega)⟩⟩⟩
          · refine g_if_eq (pc' := 45) B 54 (by omega) dX12_cracks_42 (by decide) rfl (fun _ => ?_) (fun q => absurd q (by decide))
            refine g_iinc (pc' := 57) B 0 [(2, .int (iI (k + 1))), (0, .ref (K.2.2 57)), (1, .int (iI h))] dX12_cracks_54 rfl rfl (by decide) rfl ?_
            refine g_goto (pc' := 21) B dX12_cracks_57 (by decide) ?_
            exact ih21 _ (by omega) (k + 1) rfl (by omega) (by intro y a b; by_cases e9 : y = X + k; (subst e9; exact h39); exact i2 y a (by omega))
    exact L21 _ 0 rfl (by omega) (by intro y a b; omega)
  · refine g_if_ne (pc' := 16) B 19 (by omega) dX12_cracks_13 (by decide) rfl (fun q => absurd q (by decide)) (fun _ => ?_)
    refine g_ldc (z := (-1000000001)) (pc' := 18) B tw_1133 (by decide +kernel) dX12_cracks_16 rfl ?_
    exact g_iret (z := (-1000000001)) B hrt rfl hlk dX12_cracks_18 ⟨rfl, Or.inl ⟨by omega, rfl⟩⟩
set_option maxRecDepth 100000 in
set_option maxHeartbeats 4000000 in
theorem c_X12_worst (l : Launch) (K : WK) (σ : SG) {D : SG} (hM : mD σ D) (hF : okF D) (hR : okR D) (hO : okQ D) (hH : okH D) {sl : Int → Int} (hms : ∀ h : Int, 0 ≤ h → h < D 9 1 → σ 58 (4 + h) = sl h ∧ 0 ≤ sl h ∧ sl h ≤ 999)  : MI l yX12_worst cX12_worst 5 (some .int) 4 93 K σ [.ref (K.2.2 57)] (fun z τ => σ = τ ∧ z = (nhS D sl (D 9 1).toNat).1) := by
  refine met_of [(0, .ref (K.2.2 57))] (by decide +kernel) (Nat.le_of_ble_eq_true rfl) rfl ?_
  intro pP eE sS mM bW mT cC B hrt hlk
  replace B : CB pP sS mM [.ref (K.2.2 57)].toArray cC cX12_worst RX12 5 K := B
  obtain ⟨hF0, hF1⟩ := id hF
  obtain ⟨hO0, hO1⟩ := id hO
  obtain ⟨hH0, hH1⟩ := id hH
  obtain ⟨hR0, hR1⟩ := id hR
  refine g_iconst (pc' := 1) B dX12_worst_0 rfl ?_
  refine g_istore_n (pc' := 2) B [(1, .int (iI (-1))), (0, .ref (K.2.2 57))] dX12_worst_1 rfl rfl (by decide) rfl ?_
  refine g_iconst (pc' := 3) B dX12_worst_2 rfl ?_
  refine g_istore_n (pc' := 4) B [(2, .int (iI 0)), (1, .int (iI (-1))), (0, .ref (K.2.2 57))] dX12_worst_3 rfl rfl (by decide) rfl ?_
  refine g_iconst (pc' := 5) B dX12_worst_4 rfl ?_
  refine g_istore_n (pc' := 6) B [(3, .int (iI 0)), (2, .int (iI 0)), (1, .int (iI (-1))), (0, .ref (K.2.2 57))] dX12_worst_5 rfl rfl (by decide) rfl ?_
  have L6 : ∀ (nn : Nat) (y m h : Int) , (D 9 1 - h).toNat = nn → (0 ≤ h ∧ h ≤ D 9 1) → (y = (nhS D sl h.toNat).1 ∧ m = (nhS D sl h.toNat).2) → (0 ≤ m ∧ m ≤ 2000) → G pP l eE (rmo 4 93) sS mM [.ref (K.2.2 57)].toArray bW mT cC 0 0 (MQ bW (Qi K (fun z τ => σ = τ ∧ z = (nhS D sl (D 9 1).toNat).1)) [.ref (K.2.2 57)].toArray sS 0 0 (wA K)) K sS.heap 5 σ 6 [(3, .int (iI h)), (2, .int (iI m)), (1, .int (iI y)), (0, .ref (K.2.2 57))] [] := by
    intro nn
    induction nn using Nat.strongRecOn with
    | _ nn ih6 =>
      intro y m h hn6 i1 i2 i3
      refine g_iload_n (pc' := 7) B 0 rfl rfl dX12_worst_6 rfl ?_
      refine g_aload_n (pc' := 8) B 3 rfl rfl dX12_worst_7 rfl ?_
      refine g_get (pc' := 11) B (D 9 1) hM.2.1 fl_X12_134 rfl rfl dX12_worst_8 rfl ?_
      refine g_icmp_ge (pc' := 14) B 47 (by omega) (by omega) dX12_worst_11 (by decide) rfl (fun c11 => ?_) (fun c11 => ?_)
      · refine g_iload_n (pc' := 48) B 2 rfl rfl dX12_worst_47 rfl ?_
        exact g_iret (z := y) B hrt rfl hlk dX12_worst_48 ⟨rfl, by rw [i2.1, show h = D 9 1 by omega]⟩
      · have hn9 := nd_bd (h := h) hF hH (by omega) (by omega)
        have hs9 := hms h (by omega) (by omega)
        refine g_aload_n (pc' := 15) B 3 rfl rfl dX12_worst_14 rfl ?_
        refine g_iload_n (pc' := 16) B 0 rfl rfl dX12_worst_15 rfl ?_
        refine g_callVI (pc' := 19) (As := [.int (iI h)]) B (c_X12_needs l K _ (D := D) (h := h) hM hF hR hO hH (by omega)) vt_X12_needs tw_1144 rfl rfl ⟨by decide, by decide⟩ rfl (Nat.le_of_ble_eq_true rfl) ⟨Nat.zero_le _, Nat.zero_le _⟩ rfl dX12_worst_16 rfl (fun z16 τ16 h16 => ?_)
        obtain ⟨rfl, rfl⟩ := h16
        refine g_aload_n (pc' := 20) B 3 rfl rfl dX12_worst_19 rfl ?_
        refine g_getR (pc' := 23) B 58 fl_X12_7 rfl rfl dX12_worst_20 rfl ?_
        refine g_iconst (pc' := 24) B dX12_worst_23 rfl ?_
        refine g_iload_n (pc' := 25) B 0 rfl rfl dX12_worst_24 rfl ?_
        refine g_iadd (pc' := 26) B dX12_worst_25 rfl ?_
        refine g_iald (pc' := 27) B (sl h) (hms _ (by omega) (by omega)).1 rfl (by omega) (by decide) dX12_worst_26 rfl ?_
        refine g_isub (pc' := 28) B dX12_worst_27 rfl ?_
        refine g_istore (pc' := 30) B [(4, .int (iI ((nd D h) - (sl h)))), (3, .int (iI h)), (2, .int (iI m)), (1, .int (iI y)), (0, .ref (K.2.2 57))] dX12_worst_28 rfl (by decide) rfl ?_
        refine g_iload (pc' := 32) B 0 rfl dX12_worst_30 rfl ?_
        refine g_iload_n (pc' := 33) B 2 rfl rfl dX12_worst_32 rfl ?_
        refine g_icmp_le (pc' := 36) B 41 (by omega) (by omega) dX12_worst_33 (by decide) rfl (fun c33 => ?_) (fun c33 => ?_)
        · refine g_iinc (pc' := 44) B 1 [(3, .int (iI (h + 1))), (4, .int (iI ((nd D h) - (sl h)))), (2, .int (iI m)), (1, .int (iI y)), (0, .ref (K.2.2 57))] dX12_worst_41 rfl rfl (by decide) rfl ?_
          refine g_goto (pc' := 6) B dX12_worst_44 (by decide) ?_
          refine g_loc B [(3, .int (iI (h + 1))), (2, .int (iI m)), (1, .int (iI y)), (0, .ref (K.2.2 57))] [0, 2, 3, 4] rfl ?_
          exact ih6 _ (by omega) y m (h + 1) rfl (by omega) (by rw [nhS_next (by omega)]; first | (rw [if_pos (by omega)]; exact ⟨rfl, rfl⟩) | (rw [if_neg (by omega)]; exact i2)) (by omega)
        · refine g_iload_n (pc' := 37) B 1 rfl rfl dX12_worst_36 rfl ?_
          refine g_istore_n (pc' := 38) B [(1, .int (iI h)), (4, .int (iI ((nd D h) - (sl h)))), (3, .int (iI h)), (2, .int (iI m)), (0, .ref (K.2.2 57))] dX12_worst_37 rfl rfl (by decide) rfl ?_
          refine g_iload (pc' := 40) B 1 rfl dX12_worst_38 rfl ?_
          refine g_istore_n (pc' := 41) B [(2, .int (iI ((nd D h) - (sl h)))), (1, .int (iI h)), (4, .int (iI ((nd D h) - (sl h)))), (3, .int (iI h)), (0, .ref (K.2.2 57))] dX12_worst_40 rfl rfl (by decide) rfl ?_
          refine g_iinc (pc' := 44) B 3 [(3, .int (iI (h + 1))), (2, .int (iI ((nd D h) - (sl h)))), (1, .int (iI h)), (4, .int (iI ((nd D h) - (sl h)))), (0, .ref (K.2.2 57))] dX12_worst_41 rfl rfl (by decide) rfl ?_
          refine g_goto (pc' := 6) B dX12_worst_44 (by decide) ?_
          refine g_loc B [(3, .int (iI (h + 1))), (2, .int (iI ((nd D h) - (sl h)))), (1, .int (iI h)), (0, .ref (K.2.2 57))] [0, 1, 2, 4] rfl ?_
          exact ih6 _ (by omega) h ((nd D h) - (sl h)) (h + 1) rfl (by omega) (by rw [nhS_next (by omega)]; first | (rw [if_pos (by omega)]; exact ⟨rfl, rfl⟩) | (rw [if_neg (by omega)]; exact i2)) (by omega)
  exact L6 _ (-1) 0 0 rfl (by omega) (by exact ⟨rfl, rfl⟩) (by omega)
set_option maxRecDepth 100000 in
set_option maxHeartbeats 4000000 in
theorem c_X12_flows (l : Launch) (K : WK) (σ : SG) {D : SG} (hM : mD σ D) (hF : okF D) (hR : okR D) (hO : okQ D) (hH : okH D) {f x : Int} (hf : 0 ≤ f ∧ f < D 9 0) (hx : 0 ≤ x ∧ x ≤ 100000000) : MI l yX12_flows cX12_flows 6 (some .int) 2 47 K σ [.ref (K.2.2 57), .int (iI f), .int (iI x)] (fun z τ => σ = τ ∧ z = flw D f x) := by
  refine met_of [(0, .ref (K.2.2 57)), (1, .int (iI f)), (2, .int (iI x))] (by decide +kernel) (Nat.le_of_ble_eq_true rfl) rfl ?_
  intro pP eE sS mM bW mT cC B hrt hlk
  replace B : CB pP sS mM [.ref (K.2.2 57), .int (iI f), .int (iI x)].toArray cC cX12_flows RX12 6 K := B
  obtain ⟨hF0, hF1⟩ := id hF
  obtain ⟨hO0, hO1⟩ := id hO
  obtain ⟨hH0, hH1⟩ := id hH
  obtain ⟨hR0, hR1⟩ := id hR
  have hg0 := hgt_bd (x := x) hF hf.1 hf.2
  refine g_iload_n (pc' := 1) B 1 rfl rfl dX12_flows_0 rfl ?_
  refine g_istore_n (pc' := 2) B [(3, .int (iI f)), (0, .ref (K.2.2 57)), (1, .int (iI f)), (2, .int (iI x))] dX12_flows_1 rfl rfl (by decide) rfl ?_
  refine g_aload_n (pc' := 3) B 1 rfl rfl dX12_flows_2 rfl ?_
  refine g_iload_n (pc' := 4) B 2 rfl rfl dX12_flows_3 rfl ?_
  refine g_iload_n (pc' := 5) B 3 rfl rfl dX12_flows_4 rfl ?_
  refine g_callVI (pc' := 8) (As := [.int (iI f), .int (iI x)]) B (c_X12_heightOf l K _ (D := D) (f := f) (x := x) hM hF hR hO hH (by omega) (by omega)) vt_X12_heightOf tw_1115 rfl rfl ⟨by decide, by decide⟩ rfl (Nat.le_of_ble_eq_true rfl) ⟨Nat.zero_le _, Nat.zero_le _⟩ rfl dX12_flows_5 rfl (fun z5 τ5 h5 => ?_)
  obtain ⟨rfl, rfl⟩ := h5
  refine g_istore (pc' := 10) B [(4, .int (iI (hgt D f x))), (3, .int (iI f)), (0, .ref (K.2.2 57)), (1, .int (iI f)), (2, .int (iI x))] dX12_flows_8 rfl (by decide) rfl ?_
  refine g_iload_n (pc' := 11) B 3 rfl rfl dX12_flows_10 rfl ?_
  refine g_iconst (pc' := 12) B dX12_flows_11 rfl ?_
  refine g_isub (pc' := 13) B dX12_flows_12 rfl ?_
  refine g_istore (pc' := 15) B [(5, .int (iI (f - 1))), (4, .int (iI (hgt D f x))), (3, .int (iI f)), (0, .ref (K.2.2 57)), (1, .int (iI f)), (2, .int (iI x))] dX12_flows_13 rfl (by decide) rfl ?_
  have L15 : ∀ (nn : Nat) (y m d : Int) , (f + 3 - d).toNat = nn → (f - 1 ≤ d ∧ d ≤ f + 3) → (0 ≤ m ∧ m ≤ 153) → ((d = f - 1 ∧ y = f ∧ m = hgt D f x) ∨ (d = f + 1 ∧ y = flW D f x ∧ m = hgt D (flW D f x) x) ∨ (d = f + 3 ∧ y = flw D f x)) → G pP l eE (rmo 2 47) sS mM [.ref (K.2.2 57), .int (iI f), .int (iI x)].toArray bW mT cC 0 0 (MQ bW (Qi K (fun z τ => σ = τ ∧ z = flw D f x)) [.ref (K.2.2 57), .int (iI f), .int (iI x)].toArray sS 0 0 (wA K)) K sS.heap 6 σ 15 [(5, .int (iI d)), (4, .int (iI m)), (3, .int (iI y)), (0, .ref (K.2.2 57)), (1, .int (iI f)), (2, .int (iI x))] [] := by
    intro nn
    induction nn using Nat.strongRecOn with
    | _ nn ih15 =>
      intro y m d hn15 i1 i3 i2
      refine g_iload (pc' := 17) B 0 rfl dX12_flows_15 rfl ?_
      refine g_iload_n (pc' := 18) B 4 rfl rfl dX12_flows_17 rfl ?_
      refine g_iconst (pc' := 19) B dX12_flows_18 rfl ?_
      refine g_iadd (pc' := 20) B dX12_flows_19 rfl ?_
      refine g_icmp_gt (pc' := 23) B 62 (by omega) (by omega) dX12_flows_20 (by decide) rfl (fun c20 => ?_) (fun c20 => ?_)
      · refine g_iload_n (pc' := 63) B 2 rfl rfl dX12_flows_62 rfl ?_
        exact g_iret (z := y) B hrt rfl hlk dX12_flows_63 ⟨rfl, by rcases i2 with ⟨a, b, c⟩ | ⟨a, b, c⟩ | ⟨a, b⟩; (exfalso; omega); (exfalso; omega); exact b⟩
      · refine g_aload_n (pc' := 24) B 3 rfl rfl dX12_flows_23 rfl ?_
        refine g_iload (pc' := 26) B 0 rfl dX12_flows_24 rfl ?_
        refine g_callVI (pc' := 29) (As := [.int (iI d)]) B (c_X12_isField l K _ (D := D) (f := d) hM hF hR hO hH (by omega)) vt_X12_isField tw_1129 rfl rfl ⟨by decide, by decide⟩ rfl (Nat.le_of_ble_eq_true rfl) ⟨Nat.zero_le _, Nat.zero_le _⟩ rfl dX12_flows_26 rfl (fun z26 τ26 h26 => ?_)
        obtain ⟨rfl, h26⟩ := h26
        rcases h26 with ⟨h26, rfl⟩ | ⟨h26, rfl⟩
        · refine g_if_eq (pc' := 32) B 56 (by omega) dX12_flows_29 (by decide) rfl (fun q => absurd q (by decide)) (fun _ => ?_)
          refine g_aload_n (pc' := 33) B 3 rfl rfl dX12_flows_32 rfl ?_
          refine g_iload (pc' := 35) B 0 rfl dX12_flows_33 rfl ?_
          refine g_iload_n (pc' := 36) B 5 rfl rfl dX12_flows_35 rfl ?_
          refine g_callVI (pc' := 39) (As := [.int (iI d), .int (iI x)]) B (c_X12_heightOf l K _ (D := D) (f := d) (x := x) hM hF hR hO hH (by omega) (by omega)) vt_X12_heightOf tw_1115 rfl rfl ⟨by decide, by decide⟩ rfl (Nat.le_of_ble_eq_true rfl) ⟨Nat.zero_le _, Nat.zero_le _⟩ rfl dX12_flows_36 rfl (fun z36 τ36 h36 => ?_)
          obtain ⟨rfl, rfl⟩ := h36
          have hg1 := hgt_bd (x := x) hF h26.1 h26.2
          refine g_iload (pc' := 41) B 1 rfl dX12_flows_39 rfl ?_
          refine g_icmp_ge (pc' := 44) B 56 (by omega) (by omega) dX12_flows_41 (by decide) rfl (fun c41 => ?_) (fun c41 => ?_)
          · refine g_iinc (pc' := 59) B 0 [(5, .int (iI (d + 2))), (4, .int (iI m)), (3, .int (iI y)), (0, .ref (K.2.2 57)), (1, .int (iI f)), (2, .int (iI x))] dX12_flows_56 rfl rfl (by decide) rfl ?_
            refine g_goto (pc' := 15) B dX12_flows_59 (by decide) ?_
            exact ih15 _ (by omega) y m (d + 2) rfl (by omega) (by omega) (by rcases i2 with ⟨a, b, c⟩ | ⟨a, b, c⟩ | ⟨a, b⟩; (subst a; first | (have e9 : flW D f x = f - 1 := flW_t (by omega) (by omega); exact Or.inr (Or.inl ⟨by omega, by omega, by rw [e9]⟩)) | (have e9 : flW D f x = f := flW_f (by omega); exact Or.inr (Or.inl ⟨by omega, by omega, by rw [e9]; exact c⟩))); (subst a; first | (have e9 : flw D f x = f + 1 := flw_t (by omega) (by omega); exact Or.inr (Or.inr ⟨by omega, by omega⟩)) | (have e9 : flw D f x = flW D f x := flw_f (by omega); exact Or.inr (Or.inr ⟨by omega, by omega⟩))); (exfalso; omega))
          · refine g_iload (pc' := 46) B 0 rfl dX12_flows_44 rfl ?_
            refine g_istore_n (pc' := 47) B [(3, .int (iI d)), (5, .int (iI d)), (4, .int (iI m)), (0, .ref (K.2.2 57)), (1, .int (iI f)), (2, .int (iI x))] dX12_flows_46 rfl rfl (by decide) rfl ?_
            refine g_aload_n (pc' := 48) B 3 rfl rfl dX12_flows_47 rfl ?_
            refine g_iload (pc' := 50) B 1 rfl dX12_flows_48 rfl ?_
            refine g_iload_n (pc' := 51) B 5 rfl rfl dX12_flows_50 rfl ?_
            refine g_callVI (pc' := 54) (As := [.int (iI d), .int (iI x)]) B (c_X12_heightOf l K _ (D := D) (f := d) (x := x) hM hF hR hO hH (by omega) (by omega)) vt_X12_heightOf tw_1115 rfl rfl ⟨by decide, by decide⟩ rfl (Nat.le_of_ble_eq_true rfl) ⟨Nat.zero_le _, Nat.zero_le _⟩ rfl dX12_flows_51 rfl (fun z51 τ51 h51 => ?_)
            obtain ⟨rfl, rfl⟩ := h51
            refine g_istore (pc' := 56) B [(4, .int (iI (hgt D d x))), (3, .int (iI d)), (5, .int (iI d)), (0, .ref (K.2.2 57)), (1, .int (iI f)), (2, .int (iI x))] dX12_flows_54 rfl (by decide) rfl ?_
            refine g_iinc (pc' := 59) B 2 [(5, .int (iI (d + 2))), (4, .int (iI (hgt D d x))), (3, .int (iI d)), (0, .ref (K.2.2 57)), (1, .int (iI f)), (2, .int (iI x))] dX12_flows_56 rfl rfl (by decide) rfl ?_
            refine g_goto (pc' := 15) B dX12_flows_59 (by decide) ?_
            exact ih15 _ (by omega) d (hgt D d x) (d + 2) rfl (by omega) (by omega) (by rcases i2 with ⟨a, b, c⟩ | ⟨a, b, c⟩ | ⟨a, b⟩; (subst a; first | (have e9 : flW D f x = f - 1 := flW_t (by omega) (by omega); exact Or.inr (Or.inl ⟨by omega, by omega, by rw [e9]⟩)) | (have e9 : flW D f x = f := flW_f (by omega); exact Or.inr (Or.inl ⟨by omega, by omega, by rw [e9]; exact c⟩))); (subst a; first | (have e9 : flw D f x = f + 1 := flw_t (by omega) (by omega); exact Or.inr (Or.inr ⟨by omega, by omega⟩)) | (have e9 : flw D f x = flW D f x := flw_f (by omega); exact Or.inr (Or.inr ⟨by omega, by omega⟩))); (exfalso; omega))
        · refine g_if_eq (pc' := 32) B 56 (by omega) dX12_flows_29 (by decide) rfl (fun _ => ?_) (fun q => absurd q (by decide))
          refine g_iinc (pc' := 59) B 0 [(5, .int (iI (d + 2))), (4, .int (iI m)), (3, .int (iI y)), (0, .ref (K.2.2 57)), (1, .int (iI f)), (2, .int (iI x))] dX12_flows_56 rfl rfl (by decide) rfl ?_
          refine g_goto (pc' := 15) B dX12_flows_59 (by decide) ?_
          exact ih15 _ (by omega) y m (d + 2) rfl (by omega) (by omega) (by rcases i2 with ⟨a, b, c⟩ | ⟨a, b, c⟩ | ⟨a, b⟩; (subst a; first | (have e9 : flW D f x = f - 1 := flW_t (by omega) (by omega); exact Or.inr (Or.inl ⟨by omega, by omega, by rw [e9]⟩)) | (have e9 : flW D f x = f := flW_f (by omega); exact Or.inr (Or.inl ⟨by omega, by omega, by rw [e9]; exact c⟩))); (subst a; first | (have e9 : flw D f x = f + 1 := flw_t (by omega) (by omega); exact Or.inr (Or.inr ⟨by omega, by omega⟩)) | (have e9 : flw D f x = flW D f x := flw_f (by omega); exact Or.inr (Or.inr ⟨by omega, by omega⟩))); (exfalso; omega))
  exact L15 _ f (hgt D f x) (f - 1) rfl (by omega) (by omega) (by exact Or.inl ⟨rfl, rfl, rfl⟩)
set_option maxRecDepth 100000 in
set_option maxHeartbeats 4000000 in
theorem c_X12_water (l : Launch) (K : WK) (σ : SG) {D : SG} (hM : mD σ D) (hF : okF D) (hR : okR D) (hO : okQ D) (hH : okH D) {S X L P : Int} (hn0 : σ 58 0 = S ∧ σ 58 1 = X ∧ σ 58 2 = L ∧ σ 58 3 = P) (hSX : 0 ≤ X ∧ X ≤ S ∧ S ≤ 70000) {f n : Int} (hf : -2147483648 ≤ f ∧ f < 2147483648) (hn : -2147483648 ≤ n ∧ n < 2147483648) : MI l yX12_water cX12_water 5 (some .int) 3 72 K σ [.ref (K.2.2 57), .int (iI f), .int (iI n)] (fun z τ => σ = τ ∧ z = qWater D X f n) := by
  refine met_of [(0, .ref (K.2.2 57)), (1, .int (iI f)), (2, .int (iI n))] (by decide +kernel) (Nat.le_of_ble_eq_true rfl) rfl ?_
  intro pP eE sS mM bW mT cC B hrt hlk
  replace B : CB pP sS mM [.ref (K.2.2 57), .int (iI f), .int (iI n)].toArray cC cX12_water RX12 5 K := B
  obtain ⟨hF0, hF1⟩ := id hF
  obtain ⟨hO0, hO1⟩ := id hO
  obtain ⟨hH0, hH1⟩ := id hH
  obtain ⟨hR0, hR1⟩ := id hR
  refine g_aload_n (pc' := 1) B 0 rfl rfl dX12_water_0 rfl ?_
  refine g_iload_n (pc' := 2) B 1 rfl rfl dX12_water_1 rfl ?_
  refine g_callVI (pc' := 5) (As := [.int (iI f)]) B (c_X12_isField l K _ (D := D) (f := f) hM hF hR hO hH (by omega)) vt_X12_isField tw_1129 rfl rfl ⟨by decide, by decide⟩ rfl (Nat.le_of_ble_eq_true rfl) ⟨Nat.zero_le _, Nat.zero_le _⟩ rfl dX12_water_2 rfl (fun z2 τ2 h2 => ?_)
  obtain ⟨rfl, h2⟩ := h2
  rcases h2 with ⟨h2, rfl⟩ | ⟨h2, rfl⟩
  · refine g_if_ne (pc' := 8) B 11 (by omega) dX12_water_5 (by decide) rfl (fun _ => ?_) (fun q => absurd q (by decide))
    refine g_iload_n (pc' := 12) B 2 rfl rfl dX12_water_11 rfl ?_
    refine g_i2l (pc' := 13) B (by omega) dX12_water_12 rfl ?_
    refine g_lconst (z := 0) (pc' := 14) B (by decide +kernel) dX12_water_13 rfl ?_
    refine g_ldc2 (z := 99) (pc' := 17) B tw_1196 (by decide +kernel) dX12_water_14 rfl ?_
    refine g_callSI (pc' := 20) (As := [.long (lI n), .long (lI 0), .long (lI 99)]) B (c_X12_in l K _ (v := n) (a := 0) (b := 99) (by omega) (by omega) (by omega)) st_X12_in tw_1041 ⟨by decide, by decide⟩ rfl (Nat.le_of_ble_eq_true rfl) ⟨Nat.zero_le _, Nat.zero_le _⟩ rfl dX12_water_17 rfl (fun z17 τ17 h17 => ?_)
    obtain ⟨rfl, h17⟩ := h17
    rcases h17 with ⟨h17, rfl⟩ | ⟨h17, rfl⟩
    · refine g_if_ne (pc' := 23) B 26 (by omega) dX12_water_20 (by decide) rfl (fun _ => ?_) (fun q => absurd q (by decide))
      refine g_iload_n (pc' := 27) B 1 rfl rfl dX12_water_26 rfl ?_
      refine g_istore_n (pc' := 28) B [(3, .int (iI f)), (0, .ref (K.2.2 57)), (1, .int (iI f)), (2, .int (iI n))] dX12_water_27 rfl rfl (by decide) rfl ?_
      refine g_iconst (pc' := 29) B dX12_water_28 rfl ?_
      refine g_istore (pc' := 31) B [(4, .int (iI 1)), (3, .int (iI f)), (0, .ref (K.2.2 57)), (1, .int (iI f)), (2, .int (iI n))] dX12_water_29 rfl (by decide) rfl ?_
      have L31 : ∀ (nn : Nat) (a k : Int) , (n + 1 - k).toNat = nn → (1 ≤ k ∧ k ≤ n + 1) → (a = fl D f X (k - 1).toNat) → G pP l eE (rmo 3 72) sS mM [.ref (K.2.2 57), .int (iI f), .int (iI n)].toArray bW mT cC 0 0 (MQ bW (Qi K (fun z τ => σ = τ ∧ z = qWater D X f n)) [.ref (K.2.2 57), .int (iI f), .int (iI n)].toArray sS 0 0 (wA K)) K sS.heap 5 σ 31 [(4, .int (iI k)), (3, .int (iI a)), (0, .ref (K.2.2 57)), (1, .int (iI f)), (2, .int (iI n))] [] := by
        intro nn
        induction nn using Nat.strongRecOn with
        | _ nn ih31 =>
          intro a k hn31 i1 i2
          have hfl := fl_in (x := X) h2.1 h2.2 (k - 1).toNat
          rw [← i2] at hfl
          refine g_iload (pc' := 33) B 0 rfl dX12_water_31 rfl ?_
          refine g_iload_n (pc' := 34) B 4 rfl rfl dX12_water_33 rfl ?_
          refine g_icmp_gt (pc' := 37) B 58 (by omega) (by omega) dX12_water_34 (by decide) rfl (fun c34 => ?_) (fun c34 => ?_)
          · refine g_iload_n (pc' := 59) B 1 rfl rfl dX12_water_58 rfl ?_
            exact g_iret (z := a) B hrt rfl hlk dX12_water_59 ⟨rfl, by unfold qWater; rw [if_pos h2, if_neg (by omega), i2, show k = n + 1 by omega, show n + 1 - 1 = n by omega]⟩
          · refine g_aload_n (pc' := 38) B 2 rfl rfl dX12_water_37 rfl ?_
            refine g_iload_n (pc' := 39) B 1 rfl rfl dX12_water_38 rfl ?_
            refine g_aload_n (pc' := 40) B 2 rfl rfl dX12_water_39 rfl ?_
            refine g_getR (pc' := 43) B 58 fl_X12_7 rfl rfl dX12_water_40 rfl ?_
            refine g_iconst (pc' := 44) B dX12_water_43 rfl ?_
            refine g_iald (pc' := 45) B X hn0.2.1 rfl (by omega) (by decide) dX12_water_44 rfl ?_
            refine g_iload (pc' := 47) B 0 rfl dX12_water_45 rfl ?_
            refine g_iadd (pc' := 48) B dX12_water_47 rfl ?_
            refine g_callVI (pc' := 51) (As := [.int (iI a), .int (iI (X + k))]) B (c_X12_flows l K _ (D := D) (f := a) (x := X + k) hM hF hR hO hH (by omega) (by omega)) vt_X12_flows tw_1222 rfl rfl ⟨by decide, by decide⟩ rfl (Nat.le_of_ble_eq_true rfl) ⟨Nat.zero_le _, Nat.zero_le _⟩ rfl dX12_water_48 rfl (fun z48 τ48 h48 => ?_)
            obtain ⟨rfl, rfl⟩ := h48
            refine g_istore_n (pc' := 52) B [(3, .int (iI (flw D a (X + k)))), (4, .int (iI k)), (0, .ref (K.2.2 57)), (1, .int (iI f)), (2, .int (iI n))] dX12_water_51 rfl rfl (by decide) rfl ?_
            refine g_iinc (pc' := 55) B 1 [(4, .int (iI (k + 1))), (3, .int (iI (flw D a (X + k)))), (0, .ref (K.2.2 57)), (1, .int (iI f)), (2, .int (iI n))] dX12_water_52 rfl rfl (by decide) rfl ?_
            refine g_goto (pc' := 31) B dX12_water_55 (by decide) ?_
            exact ih31 _ (by omega) (flw D a (X + k)) (k + 1) rfl (by omega) (by rw [i2]; exact fl_next (by omega))
      exact L31 _ f 1 rfl (by omega) (by rfl)
    · refine g_if_ne (pc' := 23) B 26 (by omega) dX12_water_20 (by decide) rfl (fun q => absurd q (by decide)) (fun _ => ?_)
      refine g_ldc (z := (-1000000002)) (pc' := 25) B tw_1044 (by decide +kernel) dX12_water_23 rfl ?_
      exact g_iret (z := (-1000000002)) B hrt rfl hlk dX12_water_25 ⟨rfl, by unfold qWater; rw [if_pos h2, if_pos (by omega)]⟩
  · refine g_if_ne (pc' := 8) B 11 (by omega) dX12_water_5 (by decide) rfl (fun q => absurd q (by decide)) (fun _ => ?_)
    refine g_ldc (z := (-1000000001)) (pc' := 10) B tw_1133 (by decide +kernel) dX12_water_8 rfl ?_
    exact g_iret (z := (-1000000001)) B hrt rfl hlk dX12_water_10 ⟨rfl, by unfold qWater; rw [if_neg h2]⟩
set_option maxRecDepth 100000 in
set_option maxHeartbeats 4000000 in
theorem c_X12_ground (l : Launch) (K : WK) (σ : SG) {D : SG} (hM : mD σ D) (hF : okF D) (hR : okR D) (hO : okQ D) (hH : okH D) {S X L P : Int} (hn0 : σ 58 0 = S ∧ σ 58 1 = X ∧ σ 58 2 = L ∧ σ 58 3 = P) (hSX : 0 ≤ X ∧ X ≤ S ∧ S ≤ 70000) {f w : Int} (hf : 0 ≤ f ∧ f + 1 < D 9 0) (hw : 0 ≤ w ∧ w ≤ 2) : MI l yX12_ground cX12_ground 6 (some .int) 3 69 K σ [.ref (K.2.2 57), .int (iI f), .int (iI w)] (fun z τ => σ = τ ∧ z = ml D f w) := by
  refine met_of [(0, .ref (K.2.2 57)), (1, .int (iI f)), (2, .int (iI w))] (by decide +kernel) (Nat.le_of_ble_eq_true rfl) rfl ?_
  intro pP eE sS mM bW mT cC B hrt hlk
  replace B : CB pP sS mM [.ref (K.2.2 57), .int (iI f), .int (iI w)].toArray cC cX12_ground RX12 6 K := B
  obtain ⟨hF0, hF1⟩ := id hF
  obtain ⟨hO0, hO1⟩ := id hO
  obtain ⟨hH0, hH1⟩ := id hH
  obtain ⟨hR0, hR1⟩ := id hR
  refine g_iconst (pc' := 1) B dX12_ground_0 rfl ?_
  refine g_istore_n (pc' := 2) B [(3, .int (iI 0)), (0, .ref (K.2.2 57)), (1, .int (iI f)), (2, .int (iI w))] dX12_ground_1 rfl rfl (by decide) rfl ?_
  refine g_iconst (pc' := 3) B dX12_ground_2 rfl ?_
  refine g_istore (pc' := 5) B [(4, .int (iI 0)), (3, .int (iI 0)), (0, .ref (K.2.2 57)), (1, .int (iI f)), (2, .int (iI w))] dX12_ground_3 rfl (by decide) rfl ?_
  have L5 : ∀ (nn : Nat) (u k : Int) , (D 9 3 - k).toNat = nn → (0 ≤ k ∧ k ≤ D 9 3) → (u = sm (fun j => mt D f w (X + j)) k.toNat) → G pP l eE (rmo 3 69) sS mM [.ref (K.2.2 57), .int (iI f), .int (iI w)].toArray bW mT cC 0 0 (MQ bW (Qi K (fun z τ => σ = τ ∧ z = ml D f w)) [.ref (K.2.2 57), .int (iI f), .int (iI w)].toArray sS 0 0 (wA K)) K sS.heap 6 σ 5 [(4, .int (iI k)), (3, .int (iI u)), (0, .ref (K.2.2 57)), (1, .int (iI f)), (2, .int (iI w))] [] := by
    intro nn
    induction nn using Nat.strongRecOn with
    | _ nn ih5 =>
      intro u k hn5 i1 i2
      have hsb := sm_bd (F := fun j => mt D f w (X + j)) (c := 153) (fun x => mt_bd w (X + x) hF hf.1) k.toNat
      rw [← i2] at hsb
      refine g_iload (pc' := 7) B 0 rfl dX12_ground_5 rfl ?_
      refine g_aload_n (pc' := 8) B 2 rfl rfl dX12_ground_7 rfl ?_
      refine g_get (pc' := 11) B (D 9 3) hM.2.2.2.1 fl_X12_33 rfl rfl dX12_ground_8 rfl ?_
      refine g_icmp_ge (pc' := 14) B 82 (by omega) (by omega) dX12_ground_11 (by decide) rfl (fun c11 => ?_) (fun c11 => ?_)
      · refine g_iload_n (pc' := 83) B 1 rfl rfl dX12_ground_82 rfl ?_
        exact g_iret (z := u) B hrt rfl hlk dX12_ground_83 ⟨rfl, by rw [i2, show k = D 9 3 by omega, ml_from hR hSX.1 hf.1 hf.2]⟩
      · refine g_aload_n (pc' := 15) B 2 rfl rfl dX12_ground_14 rfl ?_
        refine g_iload_n (pc' := 16) B 3 rfl rfl dX12_ground_15 rfl ?_
        refine g_aload_n (pc' := 17) B 2 rfl rfl dX12_ground_16 rfl ?_
        refine g_getR (pc' := 20) B 58 fl_X12_7 rfl rfl dX12_ground_17 rfl ?_
        refine g_iconst (pc' := 21) B dX12_ground_20 rfl ?_
        refine g_iald (pc' := 22) B X hn0.2.1 rfl (by omega) (by decide) dX12_ground_21 rfl ?_
        refine g_iload (pc' := 24) B 0 rfl dX12_ground_22 rfl ?_
        refine g_iadd (pc' := 25) B dX12_ground_24 rfl ?_
        refine g_callVI (pc' := 28) (As := [.int (iI f), .int (iI (X + k))]) B (c_X12_leanOf l K _ (D := D) (f := f) (x := X + k) hM hF hR hO hH (by omega) (by omega)) vt_X12_leanOf tw_1111 rfl rfl ⟨by decide, by decide⟩ rfl (Nat.le_of_ble_eq_true rfl) ⟨Nat.zero_le _, Nat.zero_le _⟩ rfl dX12_ground_25 rfl (fun z25 τ25 h25 => ?_)
        obtain ⟨rfl, rfl⟩ := h25
        have hl9 := lean_bd (f := f) (X + k) hF hf.1
        refine g_istore (pc' := 30) B [(5, .int (iI (lean D f (X + k)))), (4, .int (iI k)), (3, .int (iI u)), (0, .ref (K.2.2 57)), (1, .int (iI f)), (2, .int (iI w))] dX12_ground_28 rfl (by decide) rfl ?_
        refine g_iload_n (pc' := 31) B 2 rfl rfl dX12_ground_30 rfl ?_
        refine g_iload_n (pc' := 32) B 5 rfl rfl dX12_ground_31 rfl ?_
        refine g_iconst (pc' := 33) B dX12_ground_32 rfl ?_
        refine g_icmp_ne (pc' := 36) B 44 (by omega) (by omega) dX12_ground_33 (by decide) rfl (fun c33 => ?_) (fun c33 => ?_)
        · refine g_iload_n (pc' := 45) B 5 rfl rfl dX12_ground_44 rfl ?_
          refine g_if_ne (pc' := 48) B 61 (by omega) dX12_ground_45 (by decide) rfl (fun c45 => ?_) (fun c45 => ?_)
          · refine g_iload (pc' := 63) B 0 rfl dX12_ground_61 rfl ?_
            refine g_if_le (pc' := 66) B 70 (by omega) dX12_ground_63 (by decide) rfl (fun c63 => ?_) (fun c63 => ?_)
            · refine g_iconst (pc' := 71) B dX12_ground_70 rfl ?_
              refine g_callSI (pc' := 74) (As := [.int (iI 0)]) B (c_X12_one l K _ (v := 0) (by omega)) st_X12_one tw_1100 ⟨by decide, by decide⟩ rfl (Nat.le_of_ble_eq_true rfl) ⟨Nat.zero_le _, Nat.zero_le _⟩ rfl dX12_ground_71 rfl (fun z71 τ71 h71 => ?_)
              obtain ⟨rfl, rfl⟩ := h71
              refine g_iadd (pc' := 75) B dX12_ground_74 rfl ?_
              refine g_istore_n (pc' := 76) B [(3, .int (iI (u + 0))), (5, .int (iI (lean D f (X + k)))), (4, .int (iI k)), (0, .ref (K.2.2 57)), (1, .int (iI f)), (2, .int (iI w))] dX12_ground_75 rfl rfl (by decide) rfl ?_
              refine g_iinc (pc' := 79) B 2 [(4, .int (iI (k + 1))), (3, .int (iI (u + 0))), (5, .int (iI (lean D f (X + k)))), (0, .ref (K.2.2 57)), (1, .int (iI f)), (2, .int (iI w))] dX12_ground_76 rfl rfl (by decide) rfl ?_
              refine g_goto (pc' := 5) B dX12_ground_79 (by decide) ?_
              refine g_loc B [(4, .int (iI (k + 1))), (3, .int (iI (u + 0))), (0, .ref (K.2.2 57)), (1, .int (iI f)), (2, .int (iI w))] [0, 1, 3, 4, 5] rfl ?_
              exact ih5 _ (by omega) (u + 0) (k + 1) rfl (by omega) (by rw [sm_next (by omega), i2]; show _ = _ + mt D f w (X + k); unfold mt; (repeat' split) <;> omega)
            · refine g_iconst (pc' := 67) B dX12_ground_66 rfl ?_
              refine g_goto (pc' := 71) B dX12_ground_67 (by decide) ?_
              refine g_callSI (pc' := 74) (As := [.int (iI 1)]) B (c_X12_one l K _ (v := 1) (by omega)) st_X12_one tw_1100 ⟨by decide, by decide⟩ rfl (Nat.le_of_ble_eq_true rfl) ⟨Nat.zero_le _, Nat.zero_le _⟩ rfl dX12_ground_71 rfl (fun z71 τ71 h71 => ?_)
              obtain ⟨rfl, rfl⟩ := h71
              refine g_iadd (pc' := 75) B dX12_ground_74 rfl ?_
              refine g_istore_n (pc' := 76) B [(3, .int (iI (u + 1))), (5, .int (iI (lean D f (X + k)))), (4, .int (iI k)), (0, .ref (K.2.2 57)), (1, .int (iI f)), (2, .int (iI w))] dX12_ground_75 rfl rfl (by decide) rfl ?_
              refine g_iinc (pc' := 79) B 2 [(4, .int (iI (k + 1))), (3, .int (iI (u + 1))), (5, .int (iI (lean D f (X + k)))), (0, .ref (K.2.2 57)), (1, .int (iI f)), (2, .int (iI w))] dX12_ground_76 rfl rfl (by decide) rfl ?_
              refine g_goto (pc' := 5) B dX12_ground_79 (by decide) ?_
              refine g_loc B [(4, .int (iI (k + 1))), (3, .int (iI (u + 1))), (0, .ref (K.2.2 57)), (1, .int (iI f)), (2, .int (iI w))] [0, 1, 3, 4, 5] rfl ?_
              exact ih5 _ (by omega) (u + 1) (k + 1) rfl (by omega) (by rw [sm_next (by omega), i2]; show _ = _ + mt D f w (X + k); unfold mt; (repeat' split) <;> omega)
          · refine g_iload (pc' := 50) B 0 rfl dX12_ground_48 rfl ?_
            refine g_if_ge (pc' := 53) B 57 (by omega) dX12_ground_50 (by decide) rfl (fun c50 => ?_) (fun c50 => ?_)
            · refine g_iconst (pc' := 58) B dX12_ground_57 rfl ?_
              refine g_goto (pc' := 71) B dX12_ground_58 (by decide) ?_
              refine g_callSI (pc' := 74) (As := [.int (iI 0)]) B (c_X12_one l K _ (v := 0) (by omega)) st_X12_one tw_1100 ⟨by decide, by decide⟩ rfl (Nat.le_of_ble_eq_true rfl) ⟨Nat.zero_le _, Nat.zero_le _⟩ rfl dX12_ground_71 rfl (fun z71 τ71 h71 => ?_)
              obtain ⟨rfl, rfl⟩ := h71
              refine g_iadd (pc' := 75) B dX12_ground_74 rfl ?_
              refine g_istore_n (pc' := 76) B [(3, .int (iI (u + 0))), (5, .int (iI (lean D f (X + k)))), (4, .int (iI k)), (0, .ref (K.2.2 57)), (1, .int (iI f)), (2, .int (iI w))] dX12_ground_75 rfl rfl (by decide) rfl ?_
              refine g_iinc (pc' := 79) B 2 [(4, .int (iI (k + 1))), (3, .int (iI (u + 0))), (5, .int (iI (lean D f (X + k)))), (0, .ref (K.2.2 57)), (1, .int (iI f)), (2, .int (iI w))] dX12_ground_76 rfl rfl (by decide) rfl ?_
              refine g_goto (pc' := 5) B dX12_ground_79 (by decide) ?_
              refine g_loc B [(4, .int (iI (k + 1))), (3, .int (iI (u + 0))), (0, .ref (K.2.2 57)), (1, .int (iI f)), (2, .int (iI w))] [0, 1, 3, 4, 5] rfl ?_
              exact ih5 _ (by omega) (u + 0) (k + 1) rfl (by omega) (by rw [sm_next (by omega), i2]; show _ = _ + mt D f w (X + k); unfold mt; (repeat' split) <;> omega)
            · refine g_iconst (pc' := 54) B dX12_ground_53 rfl ?_
              refine g_goto (pc' := 71) B dX12_ground_54 (by decide) ?_
              refine g_callSI (pc' := 74) (As := [.int (iI 1)]) B (c_X12_one l K _ (v := 1) (by omega)) st_X12_one tw_1100 ⟨by decide, by decide⟩ rfl (Nat.le_of_ble_eq_true rfl) ⟨Nat.zero_le _, Nat.zero_le _⟩ rfl dX12_ground_71 rfl (fun z71 τ71 h71 => ?_)
              obtain ⟨rfl, rfl⟩ := h71
              refine g_iadd (pc' := 75) B dX12_ground_74 rfl ?_
              refine g_istore_n (pc' := 76) B [(3, .int (iI (u + 1))), (5, .int (iI (lean D f (X + k)))), (4, .int (iI k)), (0, .ref (K.2.2 57)), (1, .int (iI f)), (2, .int (iI w))] dX12_ground_75 rfl rfl (by decide) rfl ?_
              refine g_iinc (pc' := 79) B 2 [(4, .int (iI (k + 1))), (3, .int (iI (u + 1))), (5, .int (iI (lean D f (X + k)))), (0, .ref (K.2.2 57)), (1, .int (iI f)), (2, .int (iI w))] dX12_ground_76 rfl rfl (by decide) rfl ?_
              refine g_goto (pc' := 5) B dX12_ground_79 (by decide) ?_
              refine g_loc B [(4, .int (iI (k + 1))), (3, .int (iI (u + 1))), (0, .ref (K.2.2 57)), (1, .int (iI f)), (2, .int (iI w))] [0, 1, 3, 4, 5] rfl ?_
              exact ih5 _ (by omega) (u + 1) (k + 1) rfl (by omega) (by rw [sm_next (by omega), i2]; show _ = _ + mt D f w (X + k); unfold mt; (repeat' split) <;> omega)
        · refine g_iload (pc' := 38) B 0 rfl dX12_ground_36 rfl ?_
          refine g_callSI (pc' := 41) (As := [.int (iI (lean D f (X + k)))]) B (c_X12_size l K _ (v := lean D f (X + k)) (by omega)) st_X12_size tw_1122 ⟨by decide, by decide⟩ rfl (Nat.le_of_ble_eq_true rfl) ⟨Nat.zero_le _, Nat.zero_le _⟩ rfl dX12_ground_38 rfl (fun z38 τ38 h38 => ?_)
          obtain ⟨rfl, rfl⟩ := h38
          refine g_goto (pc' := 74) B dX12_ground_41 (by decide) ?_
          refine g_iadd (pc' := 75) B dX12_ground_74 rfl ?_
          refine g_istore_n (pc' := 76) B [(3, .int (iI (u + ((lean D f (X + k)).natAbs : Int)))), (5, .int (iI (lean D f (X + k)))), (4, .int (iI k)), (0, .ref (K.2.2 57)), (1, .int (iI f)), (2, .int (iI w))] dX12_ground_75 rfl rfl (by decide) rfl ?_
          refine g_iinc (pc' := 79) B 2 [(4, .int (iI (k + 1))), (3, .int (iI (u + ((lean D f (X + k)).natAbs : Int)))), (5, .int (iI (lean D f (X + k)))), (0, .ref (K.2.2 57)), (1, .int (iI f)), (2, .int (iI w))] dX12_ground_76 rfl rfl (by decide) rfl ?_
          refine g_goto (pc' := 5) B dX12_ground_79 (by decide) ?_
          refine g_loc B [(4, .int (iI (k + 1))), (3, .int (iI (u + ((lean D f (X + k)).natAbs : Int)))), (0, .ref (K.2.2 57)), (1, .int (iI f)), (2, .int (iI w))] [0, 1, 3, 4, 5] rfl ?_
          exact ih5 _ (by omega) (u + ((lean D f (X + k)).natAbs : Int)) (k + 1) rfl (by omega) (by rw [sm_next (by omega), i2]; show _ = _ + mt D f w (X + k); unfold mt; (repeat' split) <;> omega)
  exact L5 _ 0 0 rfl (by omega) (by rfl)
set_option maxRecDepth 100000 in
set_option maxHeartbeats 4000000 in
theorem c_X12_mill (l : Launch) (K : WK) (σ : SG) {D : SG} (hM : mD σ D) (hF : okF D) (hR : okR D) (hO : okQ D) (hH : okH D) {S X L P : Int} (hn0 : σ 58 0 = S ∧ σ 58 1 = X ∧ σ 58 2 = L ∧ σ 58 3 = P) (hSX : 0 ≤ X ∧ X ≤ S ∧ S ≤ 70000) {f w : Int} (hf : -2147483648 ≤ f ∧ f < 2147483648) (hw : -2147483648 ≤ w ∧ w < 2147483648) : MI l yX12_mill cX12_mill 3 (some .int) 4 94 K σ [.ref (K.2.2 57), .int (iI f), .int (iI w)] (fun z τ => σ = τ ∧ z = qMill D f w) := by
  refine met_of [(0, .ref (K.2.2 57)), (1, .int (iI f)), (2, .int (iI w))] (by decide +kernel) (Nat.le_of_ble_eq_true rfl) rfl ?_
  intro pP eE sS mM bW mT cC B hrt hlk
  replace B : CB pP sS mM [.ref (K.2.2 57), .int (iI f), .int (iI w)].toArray cC cX12_mill RX12 3 K := B
  obtain ⟨hF0, hF1⟩ := id hF
  obtain ⟨hO0, hO1⟩ := id hO
  obtain ⟨hH0, hH1⟩ := id hH
  obtain ⟨hR0, hR1⟩ := id hR
  refine g_iload_n (pc' := 1) B 1 rfl rfl dX12_mill_0 rfl ?_
  refine g_i2l (pc' := 2) B (by omega) dX12_mill_1 rfl ?_
  refine g_lconst (z := 0) (pc' := 3) B (by decide +kernel) dX12_mill_2 rfl ?_
  refine g_aload_n (pc' := 4) B 0 rfl rfl dX12_mill_3 rfl ?_
  refine g_get (pc' := 7) B (D 9 0) hM.1 fl_X12_131 rfl rfl dX12_mill_4 rfl ?_
  refine g_iconst (pc' := 8) B dX12_mill_7 rfl ?_
  refine g_isub (pc' := 9) B dX12_mill_8 rfl ?_
  refine g_i2l (pc' := 10) B (by omega) dX12_mill_9 rfl ?_
  refine g_callSI (pc' := 13) (As := [.long (lI f), .long (lI 0), .long (lI ((D 9 0) - 2))]) B (c_X12_in l K _ (v := f) (a := 0) (b := (D 9 0) - 2) (by omega) (by omega) (by omega)) st_X12_in tw_1041 ⟨by decide, by decide⟩ rfl (Nat.le_of_ble_eq_true rfl) ⟨Nat.zero_le _, Nat.zero_le _⟩ rfl dX12_mill_10 rfl (fun z10 τ10 h10 => ?_)
  obtain ⟨rfl, h10⟩ := h10
  rcases h10 with ⟨h10, rfl⟩ | ⟨h10, rfl⟩
  · refine g_if_ne (pc' := 16) B 19 (by omega) dX12_mill_13 (by decide) rfl (fun _ => ?_) (fun q => absurd q (by decide))
    refine g_iload_n (pc' := 20) B 2 rfl rfl dX12_mill_19 rfl ?_
    refine g_i2l (pc' := 21) B (by omega) dX12_mill_20 rfl ?_
    refine g_lconst (z := 0) (pc' := 22) B (by decide +kernel) dX12_mill_21 rfl ?_
    refine g_ldc2 (z := 2) (pc' := 25) B tw_1174 (by decide +kernel) dX12_mill_22 rfl ?_
    refine g_callSI (pc' := 28) (As := [.long (lI w), .long (lI 0), .long (lI 2)]) B (c_X12_in l K _ (v := w) (a := 0) (b := 2) (by omega) (by omega) (by omega)) st_X12_in tw_1041 ⟨by decide, by decide⟩ rfl (Nat.le_of_ble_eq_true rfl) ⟨Nat.zero_le _, Nat.zero_le _⟩ rfl dX12_mill_25 rfl (fun z25 τ25 h25 => ?_)
    obtain ⟨rfl, h25⟩ := h25
    rcases h25 with ⟨h25, rfl⟩ | ⟨h25, rfl⟩
    · refine g_if_eq (pc' := 31) B 40 (by omega) dX12_mill_28 (by decide) rfl (fun q => absurd q (by decide)) (fun _ => ?_)
      refine g_aload_n (pc' := 32) B 0 rfl rfl dX12_mill_31 rfl ?_
      refine g_iload_n (pc' := 33) B 1 rfl rfl dX12_mill_32 rfl ?_
      refine g_iload_n (pc' := 34) B 2 rfl rfl dX12_mill_33 rfl ?_
      refine g_callVI (pc' := 37) (As := [.int (iI f), .int (iI w)]) B (c_X12_ground l K _ (D := D) (S := S) (X := X) (L := L) (P := P) (f := f) (w := w) hM hF hR hO hH hn0 (by omega) (by omega) (by omega)) vt_X12_ground tw_1230 rfl rfl ⟨by decide, by decide⟩ rfl (Nat.le_of_ble_eq_true rfl) ⟨Nat.zero_le _, Nat.zero_le _⟩ rfl dX12_mill_34 rfl (fun z34 τ34 h34 => ?_)
      obtain ⟨rfl, rfl⟩ := h34
      refine g_goto (pc' := 42) B dX12_mill_37 (by decide) ?_
      exact g_iret (z := ml D f w) B hrt rfl hlk dX12_mill_42 ⟨rfl, by unfold qMill; (repeat' split) <;> first | rfl | (exfalso; omega)⟩
    · refine g_if_eq (pc' := 31) B 40 (by omega) dX12_mill_28 (by decide) rfl (fun _ => ?_) (fun q => absurd q (by decide))
      refine g_ldc (z := (-1000000002)) (pc' := 42) B tw_1044 (by decide +kernel) dX12_mill_40 rfl ?_
      exact g_iret (z := (-1000000002)) B hrt rfl hlk dX12_mill_42 ⟨rfl, by unfold qMill; (repeat' split) <;> first | rfl | (exfalso; omega)⟩
  · refine g_if_ne (pc' := 16) B 19 (by omega) dX12_mill_13 (by decide) rfl (fun q => absurd q (by decide)) (fun _ => ?_)
    refine g_ldc (z := (-1000000001)) (pc' := 18) B tw_1133 (by decide +kernel) dX12_mill_16 rfl ?_
    exact g_iret (z := (-1000000001)) B hrt rfl hlk dX12_mill_18 ⟨rfl, by unfold qMill; (repeat' split) <;> first | rfl | (exfalso; omega)⟩
set_option maxRecDepth 100000 in
set_option maxHeartbeats 4000000 in
theorem c_X12_bestMill (l : Launch) (K : WK) (σ : SG) {D : SG} (hM : mD σ D) (hF : okF D) (hR : okR D) (hO : okQ D) (hH : okH D) {S X L P : Int} (hn0 : σ 58 0 = S ∧ σ 58 1 = X ∧ σ 58 2 = L ∧ σ 58 3 = P) (hSX : 0 ≤ X ∧ X ≤ S ∧ S ≤ 70000)  : MI l yX12_bestMill cX12_bestMill 5 (some .int) 4 94 K σ [.ref (K.2.2 57)] (fun z τ => σ = τ ∧ z = (bgS D (D 9 0 - 1).toNat).1) := by
  refine met_of [(0, .ref (K.2.2 57))] (by decide +kernel) (Nat.le_of_ble_eq_true rfl) rfl ?_
  intro pP eE sS mM bW mT cC B hrt hlk
  replace B : CB pP sS mM [.ref (K.2.2 57)].toArray cC cX12_bestMill RX12 5 K := B
  obtain ⟨hF0, hF1⟩ := id hF
  obtain ⟨hO0, hO1⟩ := id hO
  obtain ⟨hH0, hH1⟩ := id hH
  obtain ⟨hR0, hR1⟩ := id hR
  refine g_iconst (pc' := 1) B dX12_bestMill_0 rfl ?_
  refine g_istore_n (pc' := 2) B [(1, .int (iI (-1))), (0, .ref (K.2.2 57))] dX12_bestMill_1 rfl rfl (by decide) rfl ?_
  refine g_iconst (pc' := 3) B dX12_bestMill_2 rfl ?_
  refine g_istore_n (pc' := 4) B [(2, .int (iI (-1))), (1, .int (iI (-1))), (0, .ref (K.2.2 57))] dX12_bestMill_3 rfl rfl (by decide) rfl ?_
  refine g_iconst (pc' := 5) B dX12_bestMill_4 rfl ?_
  refine g_istore_n (pc' := 6) B [(3, .int (iI 0)), (2, .int (iI (-1))), (1, .int (iI (-1))), (0, .ref (K.2.2 57))] dX12_bestMill_5 rfl rfl (by decide) rfl ?_
  have L6 : ∀ (nn : Nat) (y m f : Int) , (D 9 0 - f).toNat = nn → (0 ≤ f ∧ (f ≤ D 9 0 - 1 ∨ f = 0)) → (y = (bgS D f.toNat).1 ∧ m = (bgS D f.toNat).2) → (-1 ≤ m ∧ m ≤ 153 * 27720) → G pP l eE (rmo 4 94) sS mM [.ref (K.2.2 57)].toArray bW mT cC 0 0 (MQ bW (Qi K (fun z τ => σ = τ ∧ z = (bgS D (D 9 0 - 1).toNat).1)) [.ref (K.2.2 57)].toArray sS 0 0 (wA K)) K sS.heap 5 σ 6 [(3, .int (iI f)), (2, .int (iI m)), (1, .int (iI y)), (0, .ref (K.2.2 57))] [] := by
    intro nn
    induction nn using Nat.strongRecOn with
    | _ nn ih6 =>
      intro y m f hn6 i1 i2 i3
      refine g_iload_n (pc' := 7) B 0 rfl rfl dX12_bestMill_6 rfl ?_
      refine g_iconst (pc' := 8) B dX12_bestMill_7 rfl ?_
      refine g_iadd (pc' := 9) B dX12_bestMill_8 rfl ?_
      refine g_aload_n (pc' := 10) B 3 rfl rfl dX12_bestMill_9 rfl ?_
      refine g_get (pc' := 13) B (D 9 0) hM.1 fl_X12_131 rfl rfl dX12_bestMill_10 rfl ?_
      refine g_icmp_ge (pc' := 16) B 41 (by omega) (by omega) dX12_bestMill_13 (by decide) rfl (fun c13 => ?_) (fun c13 => ?_)
      · refine g_iload_n (pc' := 42) B 2 rfl rfl dX12_bestMill_41 rfl ?_
        exact g_iret (z := y) B hrt rfl hlk dX12_bestMill_42 ⟨rfl, by rw [i2.1, show f.toNat = (D 9 0 - 1).toNat by omega]⟩
      · refine g_aload_n (pc' := 17) B 3 rfl rfl dX12_bestMill_16 rfl ?_
        refine g_iload_n (pc' := 18) B 0 rfl rfl dX12_bestMill_17 rfl ?_
        refine g_iconst (pc' := 19) B dX12_bestMill_18 rfl ?_
        refine g_callVI (pc' := 22) (As := [.int (iI f), .int (iI 2)]) B (c_X12_ground l K _ (D := D) (S := S) (X := X) (L := L) (P := P) (f := f) (w := 2) hM hF hR hO hH hn0 (by omega) (by omega) (by omega)) vt_X12_ground tw_1230 rfl rfl ⟨by decide, by decide⟩ rfl (Nat.le_of_ble_eq_true rfl) ⟨Nat.zero_le _, Nat.zero_le _⟩ rfl dX12_bestMill_19 rfl (fun z19 τ19 h19 => ?_)
        obtain ⟨rfl, rfl⟩ := h19
        have hn9 := ml_bd 2 hF hR (show 0 ≤ f by omega)
        refine g_istore (pc' := 24) B [(4, .int (iI (ml D f 2))), (3, .int (iI f)), (2, .int (iI m)), (1, .int (iI y)), (0, .ref (K.2.2 57))] dX12_bestMill_22 rfl (by decide) rfl ?_
        refine g_iload (pc' := 26) B 0 rfl dX12_bestMill_24 rfl ?_
        refine g_iload_n (pc' := 27) B 2 rfl rfl dX12_bestMill_26 rfl ?_
        refine g_icmp_le (pc' := 30) B 35 (by omega) (by omega) dX12_bestMill_27 (by decide) rfl (fun c27 => ?_) (fun c27 => ?_)
        · refine g_iinc (pc' := 38) B 1 [(3, .int (iI (f + 1))), (4, .int (iI (ml D f 2))), (2, .int (iI m)), (1, .int (iI y)), (0, .ref (K.2.2 57))] dX12_bestMill_35 rfl rfl (by decide) rfl ?_
          refine g_goto (pc' := 6) B dX12_bestMill_38 (by decide) ?_
          refine g_loc B [(3, .int (iI (f + 1))), (2, .int (iI m)), (1, .int (iI y)), (0, .ref (K.2.2 57))] [0, 2, 3, 4] rfl ?_
          exact ih6 _ (by omega) y m (f + 1) rfl (by omega) (by rw [bgS_next (by omega)]; first | (rw [if_pos (by omega)]; exact ⟨rfl, rfl⟩) | (rw [if_neg (by omega)]; exact i2)) (by omega)
        · refine g_iload_n (pc' := 31) B 1 rfl rfl dX12_bestMill_30 rfl ?_
          refine g_istore_n (pc' := 32) B [(1, .int (iI f)), (4, .int (iI (ml D f 2))), (3, .int (iI f)), (2, .int (iI m)), (0, .ref (K.2.2 57))] dX12_bestMill_31 rfl rfl (by decide) rfl ?_
          refine g_iload (pc' := 34) B 1 rfl dX12_bestMill_32 rfl ?_
          refine g_istore_n (pc' := 35) B [(2, .int (iI (ml D f 2))), (1, .int (iI f)), (4, .int (iI (ml D f 2))), (3, .int (iI f)), (0, .ref (K.2.2 57))] dX12_bestMill_34 rfl rfl (by decide) rfl ?_
          refine g_iinc (pc' := 38) B 3 [(3, .int (iI (f + 1))), (2, .int (iI (ml D f 2))), (1, .int (iI f)), (4, .int (iI (ml D f 2))), (0, .ref (K.2.2 57))] dX12_bestMill_35 rfl rfl (by decide) rfl ?_
          refine g_goto (pc' := 6) B dX12_bestMill_38 (by decide) ?_
          refine g_loc B [(3, .int (iI (f + 1))), (2, .int (iI (ml D f 2))), (1, .int (iI f)), (0, .ref (K.2.2 57))] [0, 1, 2, 4] rfl ?_
          exact ih6 _ (by omega) f (ml D f 2) (f + 1) rfl (by omega) (by rw [bgS_next (by omega)]; first | (rw [if_pos (by omega)]; exact ⟨rfl, rfl⟩) | (rw [if_neg (by omega)]; exact i2)) (by omega)
  exact L6 _ (-1) (-1) 0 rfl (by omega) (by exact ⟨rfl, rfl⟩) (by omega)
