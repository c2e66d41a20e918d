def mdV (ρ Q : SG) : Prop := mtD ρ Q ∧ (ρ 58 0 = Q 5 0 ∧ ρ 58 1 = Q 5 1 ∧ ρ 58 2 = Q 5 2 ∧ ρ 58 3 = Q 5 3) ∧ ρ 58 8 = Q 5 4
theorem mtD.cong {σ T T' : SG} (h : mtD σ T) (e0 : T' 4 0 = T 4 0) (e : ∀ (k : Nat) (j : Int), k < 4 → 0 ≤ j → j < T 4 0 → T' k j = T k j) : mtD σ T' := by
  obtain ⟨h1, h2, h3⟩ := h
  refine ⟨by rw [e0]; exact h1, by rw [e0]; exact h2, fun j a b => ?_⟩
  rw [e0] at b
  rw [e 0 j (by decide) a b, e 1 j (by decide) a b, e 2 j (by decide) a b, e 3 j (by decide) a b]
  exact h3 j a b
theorem mdV_next {θ D Q : SG} {w e : Int} (ht : mtD θ (tP Q (Q 5 0) (Q 5 1) (Q 5 2) (Q 5 3))) (hs : θ 58 8 = sdn (sdn (Q 5 4))) (he : (if dfh Q = 0 then 1 else 0) = e) (hw : dfw D Q = w) : mdV (up (up (up (up θ 58 0 (Q 5 0 + 1)) 58 1 (Q 5 1 + e)) 58 2 (bes (Q 5 2) w)) 58 3 (Q 5 3 + max 0 (hgt D (bes (Q 5 2) w) (Q 5 1 + e) - hgt D (Q 5 2) (Q 5 1 + e)))) (dfN D Q) := by
  refine ⟨?_, ?_, ?_⟩
  · refine (ht.keep (τ := up (up (up (up θ 58 0 _) 58 1 _) 58 2 _) 58 3 _) (by rw [up_row (by omega), up_row (by omega), up_row (by omega), up_row (by omega)]) (by rw [up_row (by omega), up_row (by omega), up_row (by omega), up_row (by omega)])).cong ?_ (fun k j hk _ _ => ?_)
    · rfl
    · have : k ≠ 5 := by omega
      simp [dfN, this]
  · subst he; subst hw; simp [up, dfN, dfx]
  · simp [up, dfN, hs]
theorem can0 {D : SG} {f t : Int} (h : 0 ≤ f ∧ f < D 9 0) : can D f t 0 := ⟨h, by rw [bes0]; exact h, Or.inl (bes0 f)⟩
set_option maxRecDepth 100000 in
set_option maxHeartbeats 4000000 in
theorem c_X12_roll (l : Launch) (K : WK) (σ : SG) {D : SG} (hM : mD σ D) (hF : okF D) (hR : okR D) (hO : okQ D) (hH : okH D) {S X L P : Int} (hn0 : σ 58 0 = S ∧ σ 58 1 = X ∧ σ 58 2 = L ∧ σ 58 3 = P) (hSX : 0 ≤ X ∧ X ≤ S ∧ S ≤ 70000) {T : SG} (hT : mtD σ T) (hLr : D 9 0 ≠ 0 → 0 ≤ L ∧ L < D 9 0) {w : Int} (hw : -2147483648 ≤ w ∧ w < 2147483648) : MI l yX12_roll cX12_roll 2 (some .int) 4 97 K σ [.ref (K.2.2 57), .int (iI w)] (fun z τ => (((w < 0 ∨ 2 < w) ∧ τ = σ ∧ z = -1000000002) ∨ (¬ (w < 0 ∨ 2 < w) ∧ (D 9 0 = 0 ∨ ¬ can D L (S + 1) w) ∧ τ = σ ∧ z = -1000000003) ∨ (¬ (w < 0 ∨ 2 < w) ∧ D 9 0 ≠ 0 ∧ can D L (S + 1) w ∧ mtD τ (tP T S X L P) ∧ (τ 58 0 = S + 1 ∧ τ 58 1 = X + 1 ∧ τ 58 2 = bes L w ∧ τ 58 3 = P + max 0 (hgt D (bes L w) (X + 1) - hgt D L (X + 1))) ∧ (∀ j : Int, 4 ≤ j → τ 58 j = σ 58 j) ∧ (∀ j : Int, j ≠ 21 → τ 57 j = σ 57 j) ∧ (∀ k, k ≠ 57 → k ≠ 58 → k ≠ 64 → τ k = σ k) ∧ z = max 0 (hgt D (bes L w) (X + 1) - hgt D L (X + 1))))) := by
  refine met_of [(0, .ref (K.2.2 57)), (1, .int (iI w))] (by decide +kernel) (Nat.le_of_ble_eq_true rfl) rfl ?_
  intro pP eE sS mM bW mT cC B hrt hlk
  replace B : CB pP sS mM [.ref (K.2.2 57), .int (iI w)].toArray cC cX12_roll RX12 2 K := B
  obtain ⟨hF0, hF1⟩ := id hF
  obtain ⟨hO0, hO1⟩ := id hO
  obtain ⟨hH0, hH1⟩ := id hH
  obtain ⟨hR0, hR1⟩ := id hR
  refine g_iload_n (pc' := 1) B 1 rfl rfl dX12_roll_0 rfl ?_
  refine g_i2l (pc' := 2) B (by omega) dX12_roll_1 rfl ?_
  refine g_lconst (z := 0) (pc' := 3) B (by decide +kernel) dX12_roll_2 rfl ?_
  refine g_ldc2 (z := 2) (pc' := 6) B tw_1174 (by decide +kernel) dX12_roll_3 rfl ?_
  refine g_callSI (pc' := 9) (As := [.long (lI w), .long (lI 0), .long (lI 2)]) B (c_X12_in l K _ (v := w) (a := 0) (b := 2) (by omega) (by omega) (by omega)) st_X12_in tw_1041 ⟨by decide, by decide⟩ rfl (Nat.le_of_ble_eq_true rfl) ⟨Nat.zero_le _, Nat.zero_le _⟩ rfl dX12_roll_6 rfl (fun z6 τ6 h6 => ?_)
  obtain ⟨rfl, h6⟩ := h6
  rcases h6 with ⟨h6, rfl⟩ | ⟨h6, rfl⟩
  · refine g_if_ne (pc' := 12) B 15 (by omega) dX12_roll_9 (by decide) rfl (fun _ => ?_) (fun q => absurd q (by decide))
    refine g_aload_n (pc' := 16) B 0 rfl rfl dX12_roll_15 rfl ?_
    refine g_get (pc' := 19) B (D 9 0) hM.1 fl_X12_131 rfl rfl dX12_roll_16 rfl ?_
    refine g_if_eq (pc' := 22) B 44 (by omega) dX12_roll_19 (by decide) rfl (fun c19 => ?_) (fun c19 => ?_)
    · refine g_ldc (z := (-1000000003)) (pc' := 46) B tw_1179 (by decide +kernel) dX12_roll_44 rfl ?_
      exact g_iret (z := (-1000000003)) B hrt rfl hlk dX12_roll_46 (Or.inr (Or.inl ⟨by omega, by first | exact Or.inl c19 | exact Or.inr (tow_lt (by omega)), rfl, rfl⟩))
    · refine g_aload_n (pc' := 23) B 0 rfl rfl dX12_roll_22 rfl ?_
      refine g_aload_n (pc' := 24) B 0 rfl rfl dX12_roll_23 rfl ?_
      refine g_getR (pc' := 27) B 58 fl_X12_7 rfl rfl dX12_roll_24 rfl ?_
      refine g_iconst (pc' := 28) B dX12_roll_27 rfl ?_
      refine g_iald (pc' := 29) B L hn0.2.2.1 rfl (by omega) (by decide) dX12_roll_28 rfl ?_
      refine g_iload_n (pc' := 30) B 1 rfl rfl dX12_roll_29 rfl ?_
      refine g_aload_n (pc' := 31) B 0 rfl rfl dX12_roll_30 rfl ?_
      refine g_getR (pc' := 34) B 58 fl_X12_7 rfl rfl dX12_roll_31 rfl ?_
      refine g_iconst (pc' := 35) B dX12_roll_34 rfl ?_
      refine g_iald (pc' := 36) B S hn0.1 rfl (by omega) (by decide) dX12_roll_35 rfl ?_
      refine g_iconst (pc' := 37) B dX12_roll_36 rfl ?_
      refine g_iadd (pc' := 38) B dX12_roll_37 rfl ?_
      have hL9 := hLr c19
      have htb := tow_bd (D := D) (f := L) (t := S + 1) (w := w)
      refine g_callVI (pc' := 41) (As := [.int (iI L), .int (iI w), .int (iI (S + 1))]) B (c_X12_to l K _ (D := D) (f := L) (w := w) (t := S + 1) hM hF hR hO hH (by omega) (by omega) (by omega)) vt_X12_to tw_1175 rfl rfl ⟨by decide, by decide⟩ rfl (Nat.le_of_ble_eq_true rfl) ⟨Nat.zero_le _, Nat.zero_le _⟩ rfl dX12_roll_38 rfl (fun z38 τ38 h38 => ?_)
      obtain ⟨rfl, rfl⟩ := h38
      refine g_if_ge (pc' := 44) B 47 (by omega) dX12_roll_41 (by decide) rfl (fun c41 => ?_) (fun c41 => ?_)
      · refine g_aload_n (pc' := 48) B 0 rfl rfl dX12_roll_47 rfl ?_
        refine g_getR (pc' := 51) B 58 fl_X12_7 rfl rfl dX12_roll_48 rfl ?_
        refine g_iconst (pc' := 52) B dX12_roll_51 rfl ?_
        refine g_iald (pc' := 53) B S hn0.1 rfl (by omega) (by decide) dX12_roll_52 rfl ?_
        refine g_ldc (z := 900000) (pc' := 55) B tw_1161 (by decide +kernel) dX12_roll_53 rfl ?_
        refine g_icmp_le (pc' := 58) B 61 (by omega) (by omega) dX12_roll_55 (by decide) rfl (fun c55 => ?_) (fun c55 => by exfalso; omega)
        refine g_aload_n (pc' := 62) B 0 rfl rfl dX12_roll_61 rfl ?_
        refine g_callVV (pc' := 65) (As := []) B (c_X12_remember l K _ (T := T) (S := S) (X := X) (L := L) (P := P) (by assumption) hn0) vt_X12_remember tw_1162 rfl rfl ⟨by decide, by decide⟩ rfl (Nat.le_of_ble_eq_true rfl) ⟨Nat.zero_le _, Nat.zero_le _⟩ rfl dX12_roll_62 rfl (fun τ62 h62 => ?_)
        obtain ⟨h62a, h62b, h62c⟩ := h62
        have hM62 : mD τ62 D := hM.keep (h62b 5 (by decide)) (h62b 6 (by decide)) (h62b 7 (by decide)) (h62b 19 (by decide)) (fun k a c => h62c k (by omega) (by omega))
        have hn62 : τ62 58 0 = S ∧ τ62 58 1 = X ∧ τ62 58 2 = L ∧ τ62 58 3 = P := by rw [h62c 58 (by decide) (by decide)]; exact hn0
        refine g_aload_n (pc' := 66) B 0 rfl rfl dX12_roll_65 rfl ?_
        refine g_iload_n (pc' := 67) B 1 rfl rfl dX12_roll_66 rfl ?_
        refine g_iconst (pc' := 68) B dX12_roll_67 rfl ?_
        have hc9 := tow_ge (D := D) (f := L) (t := S + 1) (w := w) (by omega)
        refine g_callVI (pc' := 71) (As := [.int (iI w), .int (iI 1)]) B (c_X12_rollOn l K _ (D := D) (S := S) (X := X) (L := L) (P := P) (w := w) (e := 1) hM62 hF hR hO hH hn62 (by omega) (by omega) (by omega) (by omega) hc9) vt_X12_rollOn tw_1180 rfl rfl ⟨by decide, by decide⟩ rfl (Nat.le_of_ble_eq_true rfl) ⟨Nat.zero_le _, Nat.zero_le _⟩ rfl dX12_roll_68 rfl (fun z68 τ68 h68 => ?_)
        obtain ⟨h68a, h68b⟩ := h68
        exact g_iret (z := z68) B hrt rfl hlk dX12_roll_71 (Or.inr (Or.inr (by subst h68a; exact ⟨by omega, c19, hc9, h62a.keep (by simp [up]) (by funext j; simp [up]), by simp [up], fun j a => by rw [up_col (by omega), up_col (by omega), up_col (by omega), up_col (by omega), h62c 58 (by decide) (by decide)], fun j a => by rw [up_row (by decide), up_row (by decide), up_row (by decide), up_row (by decide)]; exact h62b j a, fun k a b c => by rw [up_row b, up_row b, up_row b, up_row b]; exact h62c k a c, h68b⟩)))
      · refine g_ldc (z := (-1000000003)) (pc' := 46) B tw_1179 (by decide +kernel) dX12_roll_44 rfl ?_
        exact g_iret (z := (-1000000003)) B hrt rfl hlk dX12_roll_46 (Or.inr (Or.inl ⟨by omega, by first | exact Or.inl c19 | exact Or.inr (tow_lt (by omega)), rfl, rfl⟩))
  · refine g_if_ne (pc' := 12) B 15 (by omega) dX12_roll_9 (by decide) rfl (fun q => absurd q (by decide)) (fun _ => ?_)
    refine g_ldc (z := (-1000000002)) (pc' := 14) B tw_1044 (by decide +kernel) dX12_roll_12 rfl ?_
    exact g_iret (z := (-1000000002)) B hrt rfl hlk dX12_roll_14 (Or.inl ⟨by omega, rfl, rfl⟩)
