theorem wbM_next {D : SG} {v x f k : Int} (h : 0 ≤ k) : wb D v x f (k + 1).toNat = (wb D v x f k.toNat || decide (hgt D f (x + k) < v)) := by
  rw [show (k + 1).toNat = k.toNat + 1 by omega]
  show (_ || decide (hgt D f (x + ((k.toNat : Nat) : Int)) < v)) = _
  rw [show ((k.toNat : Nat) : Int) = k by omega]
theorem ob_fl {a f : Int} (h0 : 0 ≤ a) (h1 : a < 2 ^ f.toNat) (b : Bool) : ob (a + (if b then 2 ^ f.toNat else 0)) f = a + 2 ^ f.toNat := by
  obtain ⟨n, rfl⟩ : ∃ n : Nat, a = n := ⟨a.toNat, by omega⟩
  have e1 : ((2 : Int) ^ f.toNat) = ((2 ^ f.toNat : Nat) : Int) := by simp
  rw [e1] at h1 ⊢
  have h2 : n < 2 ^ f.toNat := by omega
  have e2 : 2 ^ f.toNat ||| n = 2 ^ f.toNat + n := by
    have q := Nat.two_pow_add_eq_or_of_lt h2 1
    rw [Nat.mul_one] at q
    exact q.symm
  unfold ob
  generalize 2 ^ f.toNat = m at *
  cases b
  · rw [if_neg (by decide), Int.add_zero, Int.toNat_natCast, Nat.or_comm, e2]
    omega
  · rw [if_pos rfl, show ((n : Int) + (m : Int)).toNat = m + n by omega, ← e2, Nat.or_comm, ← Nat.or_assoc, Nat.or_self, e2]
    omega
theorem sh1g {b : Int} {g : Nat} (h : 0 ≤ b ∧ b < 31) (e : b.toNat = g) : iI 1 <<< (iI b &&& 31) = iI (2 ^ g) := e ▸ sh1 h
theorem sh_sum {q : Int} (n : Nat) : ∀ k : Nat, sm (sh q (n + 1)) (k + 1) = sm (sh q n) (k + 1) - sh q n k * q / 100
  | 0 => by
    show 0 + (sh q n ((0 : Nat) : Int) - sh q n ((0 : Nat) : Int) * q / 100 + sh q n (((0 : Nat) : Int) - 1) * q / 100) = 0 + sh q n ((0 : Nat) : Int) - _
    rw [sh_out q n (((0 : Nat) : Int) - 1) (by omega)]
    simp
  | k + 1 => by
    have ih := sh_sum (q := q) n k
    have e1 : sm (sh q (n + 1)) (k + 1 + 1) = sm (sh q (n + 1)) (k + 1) + sh q (n + 1) ((k + 1 : Nat) : Int) := rfl
    have e2 : sm (sh q n) (k + 1 + 1) = sm (sh q n) (k + 1) + sh q n ((k + 1 : Nat) : Int) := rfl
    have e3 : sh q (n + 1) ((k + 1 : Nat) : Int) = sh q n ((k + 1 : Nat) : Int) - sh q n ((k + 1 : Nat) : Int) * q / 100 + sh q n (((k + 1 : Nat) : Int) - 1) * q / 100 := rfl
    rw [show (((k + 1 : Nat) : Int) - 1) = (k : Int) by omega] at e3
    omega
theorem sm_nn {F : Int → Int} (h : ∀ x : Int, 0 ≤ F x) : ∀ k : Nat, 0 ≤ sm F k
  | 0 => by show (0 : Int) ≤ 0; omega
  | k + 1 => by have a := sm_nn h k; have b := h k; show 0 ≤ sm F k + F k; omega
theorem sh_sum_le {q : Int} (hq : 0 ≤ q ∧ q ≤ 100) : ∀ n k : Nat, sm (sh q n) k ≤ 1000000000
  | n, 0 => by show (0 : Int) ≤ 1000000000; omega
  | 0, k + 1 => by
    have e : ∀ j : Nat, sm (sh q 0) (j + 1) = 1000000000 := by
      intro j
      induction j with
      | zero => rfl
      | succ j ih =>
        have e1 : sm (sh q 0) (j + 1 + 1) = sm (sh q 0) (j + 1) + sh q 0 ((j + 1 : Nat) : Int) := rfl
        rw [e1, ih, sh_out q 0 _ (by omega)]
        omega
    rw [e k]; omega
  | n + 1, k + 1 => by
    have h1 := sh_sum_le hq n (k + 1)
    have h2 := sh_bd hq n k
    have h3 : 0 ≤ sh q n k * q := Int.mul_nonneg h2.1 hq.1
    rw [sh_sum]
    omega
theorem sh_le {q : Int} (hq : 0 ≤ q ∧ q ≤ 100) (n : Nat) (h : Int) : 0 ≤ sh q n h ∧ sh q n h ≤ 1000000000 := by
  refine ⟨(sh_bd hq n h).1, ?_⟩
  by_cases h0 : h < 0
  · rw [sh_out q n h (by omega)]; omega
  · have e1 : sm (sh q n) (h.toNat + 1) = sm (sh q n) h.toNat + sh q n ((h.toNat : Nat) : Int) := rfl
    rw [show ((h.toNat : Nat) : Int) = h by omega] at e1
    have e2 := sh_sum_le hq n (h.toNat + 1)
    have e3 := sm_nn (F := sh q n) (fun x => (sh_bd hq n x).1) h.toNat
    omega
set_option maxRecDepth 100000 in
set_option maxHeartbeats 4000000 in
theorem c_X12_flooded (l : Launch) (K : WK) (σ : SG) {D : SG} (hM : mD σ D) (hF : okF D) (hR : okR D) (hO : okQ D) (hH : okH D) {S X L P : Int} (hn0 : σ 58 0 = S ∧ σ 58 1 = X ∧ σ 58 2 = L ∧ σ 58 3 = P) (hSX : 0 ≤ X ∧ X ≤ S ∧ S ≤ 70000) {v n : Int} (hv : 0 ≤ v ∧ v ≤ 999) (hn : 1 ≤ n ∧ n ≤ 40) : MI l yX12_flooded cX12_flooded 6 (some .int) 2 47 K σ [.ref (K.2.2 57), .int (iI v), .int (iI n)] (fun z τ => σ = τ ∧ z = fs D v X n.toNat (D 9 0).toNat) := by
  refine met_of [(0, .ref (K.2.2 57)), (1, .int (iI v)), (2, .int (iI n))] (by decide +kernel) (Nat.le_of_ble_eq_true rfl) rfl ?_
  intro pP eE sS mM bW mT cC B hrt hlk
  replace B : CB pP sS mM [.ref (K.2.2 57), .int (iI v), .int (iI n)].toArray cC cX12_flooded RX12 6 K := B
  obtain ⟨hF0, hF1⟩ := id hF
  obtain ⟨hO0, hO1⟩ := id hO
  obtain ⟨hH0, hH1⟩ := id hH
  obtain ⟨hR0, hR1⟩ := id hR
  refine g_iconst (pc' := 1) B dX12_flooded_0 rfl ?_
  refine g_istore_n (pc' := 2) B [(3, .int (iI 0)), (0, .ref (K.2.2 57)), (1, .int (iI v)), (2, .int (iI n))] dX12_flooded_1 rfl rfl (by decide) rfl ?_
  refine g_iconst (pc' := 3) B dX12_flooded_2 rfl ?_
  refine g_istore (pc' := 5) B [(4, .int (iI 0)), (3, .int (iI 0)), (0, .ref (K.2.2 57)), (1, .int (iI v)), (2, .int (iI n))] dX12_flooded_3 rfl (by decide) rfl ?_
  have L5 : ∀ (nn : Nat) (u f : Int) , (D 9 0 - f).toNat = nn → (0 ≤ f ∧ f ≤ D 9 0) → (u = fs D v X n.toNat f.toNat) → G pP l eE (rmo 2 47) sS mM [.ref (K.2.2 57), .int (iI v), .int (iI n)].toArray bW mT cC 0 0 (MQ bW (Qi K (fun z τ => σ = τ ∧ z = fs D v X n.toNat (D 9 0).toNat)) [.ref (K.2.2 57), .int (iI v), .int (iI n)].toArray sS 0 0 (wA K)) K sS.heap 6 σ 5 [(4, .int (iI f)), (3, .int (iI u)), (0, .ref (K.2.2 57)), (1, .int (iI v)), (2, .int (iI n))] [] := by
    intro nn
    induction nn using Nat.strongRecOn with
    | _ nn ih5 =>
      intro u f hn5 i1 i2
      refine g_iload (pc' := 7) B 0 rfl dX12_flooded_5 rfl ?_
      refine g_aload_n (pc' := 8) B 2 rfl rfl dX12_flooded_7 rfl ?_
      refine g_get (pc' := 11) B (D 9 0) hM.1 fl_X12_131 rfl rfl dX12_flooded_8 rfl ?_
      refine g_icmp_ge (pc' := 14) B 68 (by omega) (by omega) dX12_flooded_11 (by decide) rfl (fun c11 => ?_) (fun c11 => ?_)
      · refine g_iload_n (pc' := 69) B 1 rfl rfl dX12_flooded_68 rfl ?_
        exact g_iret (z := u) B hrt rfl hlk dX12_flooded_69 ⟨rfl, by rw [i2, show f = D 9 0 by omega]⟩
      · refine g_iconst (pc' := 15) B dX12_flooded_14 rfl ?_
        refine g_istore (pc' := 17) B [(5, .int (iI 0)), (4, .int (iI f)), (3, .int (iI u)), (0, .ref (K.2.2 57)), (1, .int (iI v)), (2, .int (iI n))] dX12_flooded_15 rfl (by decide) rfl ?_
        have L17 : ∀ (nn : Nat) (e k : Int) , (n - k).toNat = nn → (0 ≤ k ∧ k ≤ n) → (e = fs D v X n.toNat f.toNat + (if wb D v X f k.toNat then 2 ^ f.toNat else 0)) → G pP l eE (rmo 2 47) sS mM [.ref (K.2.2 57), .int (iI v), .int (iI n)].toArray bW mT cC 0 0 (MQ bW (Qi K (fun z τ => σ = τ ∧ z = fs D v X n.toNat (D 9 0).toNat)) [.ref (K.2.2 57), .int (iI v), .int (iI n)].toArray sS 0 0 (wA K)) K sS.heap 6 σ 17 [(5, .int (iI k)), (4, .int (iI f)), (3, .int (iI e)), (0, .ref (K.2.2 57)), (1, .int (iI v)), (2, .int (iI n))] [] := by
          intro nn
          induction nn using Nat.strongRecOn with
          | _ nn ih17 =>
            intro e k hn17 j1 j2
            have hfb := fs_bd D v X n.toNat f.toNat
            have hp9 := pow_le7 (k := f.toNat) (by omega)
            have he9 : 0 ≤ e := by rw [j2]; split <;> omega
            refine g_iload (pc' := 19) B 0 rfl dX12_flooded_17 rfl ?_
            refine g_iload_n (pc' := 20) B 5 rfl rfl dX12_flooded_19 rfl ?_
            refine g_icmp_ge (pc' := 23) B 62 (by omega) (by omega) dX12_flooded_20 (by decide) rfl (fun c20 => ?_) (fun c20 => ?_)
            · refine g_iinc (pc' := 65) B 1 [(4, .int (iI (f + 1))), (5, .int (iI k)), (3, .int (iI e)), (0, .ref (K.2.2 57)), (1, .int (iI v)), (2, .int (iI n))] dX12_flooded_62 rfl rfl (by decide) rfl ?_
              refine g_goto (pc' := 5) B dX12_flooded_65 (by decide) ?_
              refine g_loc B [(4, .int (iI (f + 1))), (3, .int (iI e)), (0, .ref (K.2.2 57)), (1, .int (iI v)), (2, .int (iI n))] [0, 2, 3, 4, 5] rfl ?_
              exact ih5 _ (by omega) e (f + 1) rfl (by omega) (by rw [j2, fs_next (by omega), show k = n by omega])
            · refine g_iload_n (pc' := 24) B 2 rfl rfl dX12_flooded_23 rfl ?_
              refine g_aload_n (pc' := 25) B 3 rfl rfl dX12_flooded_24 rfl ?_
              refine g_iload (pc' := 27) B 1 rfl dX12_flooded_25 rfl ?_
              refine g_aload_n (pc' := 28) B 3 rfl rfl dX12_flooded_27 rfl ?_
              refine g_getR (pc' := 31) B 58 fl_X12_7 rfl rfl dX12_flooded_28 rfl ?_
              refine g_iconst (pc' := 32) B dX12_flooded_31 rfl ?_
              refine g_iald (pc' := 33) B X hn0.2.1 rfl (by omega) (by decide) dX12_flooded_32 rfl ?_
              refine g_iload (pc' := 35) B 0 rfl dX12_flooded_33 rfl ?_
              refine g_iadd (pc' := 36) B dX12_flooded_35 rfl ?_
              refine g_callVI (pc' := 39) (As := [.int (iI f), .int (iI (X + k))]) B (c_X12_heightOf l K _ (D := D) (f := f) (x := X + k) hM hF hR hO hH (by omega) (by omega)) vt_X12_heightOf tw_1115 rfl rfl ⟨by decide, by decide⟩ rfl (Nat.le_of_ble_eq_true rfl) ⟨Nat.zero_le _, Nat.zero_le _⟩ rfl dX12_flooded_36 rfl (fun z36 τ36 h36 => ?_)
              obtain ⟨rfl, rfl⟩ := h36
              have hg9 := hgt_bd (f := f) (x := X + k) hF (by omega) (by omega)
              refine g_iload_n (pc' := 40) B 4 rfl rfl dX12_flooded_39 rfl ?_
              refine g_icmp_ge (pc' := 43) B 47 (by omega) (by omega) dX12_flooded_40 (by decide) rfl (fun c40 => ?_) (fun c40 => ?_)
              · refine g_iconst (pc' := 48) B dX12_flooded_47 rfl ?_
                refine g_callSI (pc' := 51) (As := [.int (iI 0)]) B (c_X12_one l K _ (v := 0) (by omega)) st_X12_one tw_1100 ⟨by decide, by decide⟩ rfl (Nat.le_of_ble_eq_true rfl) ⟨Nat.zero_le _, Nat.zero_le _⟩ rfl dX12_flooded_48 rfl (fun z48 τ48 h48 => ?_)
                obtain ⟨rfl, rfl⟩ := h48
                refine g_iload (pc' := 53) B 1 rfl dX12_flooded_51 rfl ?_
                refine g_ishl (pc' := 54) B 0 (sh0 _) dX12_flooded_53 rfl ?_
                refine g_ior (pc' := 55) B e (or0 _) dX12_flooded_54 rfl ?_
                refine g_istore_n (pc' := 56) B [(3, .int (iI e)), (5, .int (iI k)), (4, .int (iI f)), (0, .ref (K.2.2 57)), (1, .int (iI v)), (2, .int (iI n))] dX12_flooded_55 rfl rfl (by decide) rfl ?_
                refine g_iinc (pc' := 59) B 1 [(5, .int (iI (k + 1))), (3, .int (iI e)), (4, .int (iI f)), (0, .ref (K.2.2 57)), (1, .int (iI v)), (2, .int (iI n))] dX12_flooded_56 rfl rfl (by decide) rfl ?_
                refine g_goto (pc' := 17) B dX12_flooded_59 (by decide) ?_
                refine g_loc B [(5, .int (iI (k + 1))), (4, .int (iI f)), (3, .int (iI e)), (0, .ref (K.2.2 57)), (1, .int (iI v)), (2, .int (iI n))] [0, 2, 1, 3, 4, 5] rfl ?_
                exact ih17 _ (by omega) e (k + 1) rfl (by omega) (by rw [wbM_next (by omega)]; first | (rw [j2, ob_fl hfb.1 hfb.2, decide_eq_true c40]; simp) | (rw [decide_eq_false (show ¬ hgt D f (X + k) < v by omega), Bool.or_false]; exact j2))
              · refine g_iconst (pc' := 44) B dX12_flooded_43 rfl ?_
                refine g_goto (pc' := 48) B dX12_flooded_44 (by decide) ?_
                refine g_callSI (pc' := 51) (As := [.int (iI 1)]) B (c_X12_one l K _ (v := 1) (by omega)) st_X12_one tw_1100 ⟨by decide, by decide⟩ rfl (Nat.le_of_ble_eq_true rfl) ⟨Nat.zero_le _, Nat.zero_le _⟩ rfl dX12_flooded_48 rfl (fun z48 τ48 h48 => ?_)
                obtain ⟨rfl, rfl⟩ := h48
                refine g_iload (pc' := 53) B 1 rfl dX12_flooded_51 rfl ?_
                refine g_ishl (pc' := 54) B (2 ^ f.toNat) (sh1 ⟨by omega, by omega⟩) dX12_flooded_53 rfl ?_
                refine g_ior (pc' := 55) B (ob e f) (or_ob (by omega)) dX12_flooded_54 rfl ?_
                refine g_istore_n (pc' := 56) B [(3, .int (iI (ob e f))), (5, .int (iI k)), (4, .int (iI f)), (0, .ref (K.2.2 57)), (1, .int (iI v)), (2, .int (iI n))] dX12_flooded_55 rfl rfl (by decide) rfl ?_
                refine g_iinc (pc' := 59) B 1 [(5, .int (iI (k + 1))), (3, .int (iI (ob e f))), (4, .int (iI f)), (0, .ref (K.2.2 57)), (1, .int (iI v)), (2, .int (iI n))] dX12_flooded_56 rfl rfl (by decide) rfl ?_
                refine g_goto (pc' := 17) B dX12_flooded_59 (by decide) ?_
                refine g_loc B [(5, .int (iI (k + 1))), (4, .int (iI f)), (3, .int (iI (ob e f))), (0, .ref (K.2.2 57)), (1, .int (iI v)), (2, .int (iI n))] [0, 2, 1, 3, 4, 5] rfl ?_
                exact ih17 _ (by omega) (ob e f) (k + 1) rfl (by omega) (by rw [wbM_next (by omega)]; first | (rw [j2, ob_fl hfb.1 hfb.2, decide_eq_true c40]; simp) | (rw [decide_eq_false (show ¬ hgt D f (X + k) < v by omega), Bool.or_false]; exact j2))
        exact L17 _ u 0 rfl (by omega) (by rw [i2]; show _ = _ + (if false = true then _ else (0 : Int)); simp)
  exact L5 _ 0 0 rfl (by omega) (by rfl)
set_option maxRecDepth 100000 in
set_option maxHeartbeats 4000000 in
theorem c_X12_cellars (l : Launch) (K : WK) (σ : SG) {D : SG} (hM : mD σ D) (hF : okF D) (hR : okR D) (hO : okQ D) (hH : okH D) {S X L P : Int} (hn0 : σ 58 0 = S ∧ σ 58 1 = X ∧ σ 58 2 = L ∧ σ 58 3 = P) (hSX : 0 ≤ X ∧ X ≤ S ∧ S ≤ 70000) {v n : Int} (hv : -2147483648 ≤ v ∧ v < 2147483648) (hn : -2147483648 ≤ n ∧ n < 2147483648) : MI l yX12_cellars cX12_cellars 3 (some .int) 3 72 K σ [.ref (K.2.2 57), .int (iI v), .int (iI n)] (fun z τ => σ = τ ∧ z = qCellars D X v n) := by
  refine met_of [(0, .ref (K.2.2 57)), (1, .int (iI v)), (2, .int (iI n))] (by decide +kernel) (Nat.le_of_ble_eq_true rfl) rfl ?_
  intro pP eE sS mM bW mT cC B hrt hlk
  replace B : CB pP sS mM [.ref (K.2.2 57), .int (iI v), .int (iI n)].toArray cC cX12_cellars RX12 3 K := B
  obtain ⟨hF0, hF1⟩ := id hF
  obtain ⟨hO0, hO1⟩ := id hO
  obtain ⟨hH0, hH1⟩ := id hH
  obtain ⟨hR0, hR1⟩ := id hR
  refine g_iload_n (pc' := 1) B 1 rfl rfl dX12_cellars_0 rfl ?_
  refine g_i2l (pc' := 2) B (by omega) dX12_cellars_1 rfl ?_
  refine g_lconst (z := 0) (pc' := 3) B (by decide +kernel) dX12_cellars_2 rfl ?_
  refine g_ldc2 (z := 999) (pc' := 6) B tw_1160 (by decide +kernel) dX12_cellars_3 rfl ?_
  refine g_callSI (pc' := 9) (As := [.long (lI v), .long (lI 0), .long (lI 999)]) B (c_X12_in l K _ (v := v) (a := 0) (b := 999) (by omega) (by omega) (by omega)) st_X12_in tw_1041 ⟨by decide, by decide⟩ rfl (Nat.le_of_ble_eq_true rfl) ⟨Nat.zero_le _, Nat.zero_le _⟩ rfl dX12_cellars_6 rfl (fun z6 τ6 h6 => ?_)
  obtain ⟨rfl, h6⟩ := h6
  rcases h6 with ⟨h6, rfl⟩ | ⟨h6, rfl⟩
  · refine g_if_eq (pc' := 12) B 33 (by omega) dX12_cellars_9 (by decide) rfl (fun q => absurd q (by decide)) (fun _ => ?_)
    refine g_iload_n (pc' := 13) B 2 rfl rfl dX12_cellars_12 rfl ?_
    refine g_i2l (pc' := 14) B (by omega) dX12_cellars_13 rfl ?_
    refine g_lconst (z := 1) (pc' := 15) B (by decide +kernel) dX12_cellars_14 rfl ?_
    refine g_ldc2 (z := 40) (pc' := 18) B tw_1209 (by decide +kernel) dX12_cellars_15 rfl ?_
    refine g_callSI (pc' := 21) (As := [.long (lI n), .long (lI 1), .long (lI 40)]) B (c_X12_in l K _ (v := n) (a := 1) (b := 40) (by omega) (by omega) (by omega)) st_X12_in tw_1041 ⟨by decide, by decide⟩ rfl (Nat.le_of_ble_eq_true rfl) ⟨Nat.zero_le _, Nat.zero_le _⟩ rfl dX12_cellars_18 rfl (fun z18 τ18 h18 => ?_)
    obtain ⟨rfl, h18⟩ := h18
    rcases h18 with ⟨h18, rfl⟩ | ⟨h18, rfl⟩
    · refine g_if_eq (pc' := 24) B 33 (by omega) dX12_cellars_21 (by decide) rfl (fun q => absurd q (by decide)) (fun _ => ?_)
      refine g_aload_n (pc' := 25) B 0 rfl rfl dX12_cellars_24 rfl ?_
      refine g_iload_n (pc' := 26) B 1 rfl rfl dX12_cellars_25 rfl ?_
      refine g_iload_n (pc' := 27) B 2 rfl rfl dX12_cellars_26 rfl ?_
      refine g_callVI (pc' := 30) (As := [.int (iI v), .int (iI n)]) B (c_X12_flooded l K _ (D := D) (S := S) (X := X) (L := L) (P := P) (v := v) (n := n) hM hF hR hO hH hn0 (by omega) (by omega) (by omega)) vt_X12_flooded tw_1321 rfl rfl ⟨by decide, by decide⟩ rfl (Nat.le_of_ble_eq_true rfl) ⟨Nat.zero_le _, Nat.zero_le _⟩ rfl dX12_cellars_27 rfl (fun z27 τ27 h27 => ?_)
      obtain ⟨rfl, rfl⟩ := h27
      refine g_goto (pc' := 35) B dX12_cellars_30 (by decide) ?_
      exact g_iret (z := fs D v X n.toNat (D 9 0).toNat) B hrt rfl hlk dX12_cellars_35 ⟨rfl, by unfold qCellars; (repeat' split) <;> first | rfl | (exfalso; omega)⟩
    · refine g_if_eq (pc' := 24) B 33 (by omega) dX12_cellars_21 (by decide) rfl (fun _ => ?_) (fun q => absurd q (by decide))
      refine g_ldc (z := (-1000000002)) (pc' := 35) B tw_1044 (by decide +kernel) dX12_cellars_33 rfl ?_
      exact g_iret (z := (-1000000002)) B hrt rfl hlk dX12_cellars_35 ⟨rfl, by unfold qCellars; (repeat' split) <;> first | rfl | (exfalso; omega)⟩
  · refine g_if_eq (pc' := 12) B 33 (by omega) dX12_cellars_9 (by decide) rfl (fun _ => ?_) (fun q => absurd q (by decide))
    refine g_ldc (z := (-1000000002)) (pc' := 35) B tw_1044 (by decide +kernel) dX12_cellars_33 rfl ?_
    exact g_iret (z := (-1000000002)) B hrt rfl hlk dX12_cellars_35 ⟨rfl, by unfold qCellars; (repeat' split) <;> first | rfl | (exfalso; omega)⟩
set_option maxRecDepth 100000 in
set_option maxHeartbeats 4000000 in
theorem c_X12_sluices (l : Launch) (K : WK) (σ : SG) {D : SG} (hM : mD σ D) (hF : okF D) (hR : okR D) (hO : okQ D) (hH : okH D) {S X L P : Int} (hn0 : σ 58 0 = S ∧ σ 58 1 = X ∧ σ 58 2 = L ∧ σ 58 3 = P) (hSX : 0 ≤ X ∧ X ≤ S ∧ S ≤ 70000) {v n q : Int} (hv : -2147483648 ≤ v ∧ v < 2147483648) (hn : -2147483648 ≤ n ∧ n < 2147483648) (hq : -2147483648 ≤ q ∧ q < 2147483648) : MI l yX12_sluices cX12_sluices 8 (some .int) 3 72 K σ [.ref (K.2.2 57), .int (iI v), .int (iI n), .int (iI q)] (fun z τ => σ = τ ∧ z = qSluices D X v n q) := by
  refine met_of [(0, .ref (K.2.2 57)), (1, .int (iI v)), (2, .int (iI n)), (3, .int (iI q))] (by decide +kernel) (Nat.le_of_ble_eq_true rfl) rfl ?_
  intro pP eE sS mM bW mT cC B hrt hlk
  replace B : CB pP sS mM [.ref (K.2.2 57), .int (iI v), .int (iI n), .int (iI q)].toArray cC cX12_sluices RX12 8 K := B
  obtain ⟨hF0, hF1⟩ := id hF
  obtain ⟨hO0, hO1⟩ := id hO
  obtain ⟨hH0, hH1⟩ := id hH
  obtain ⟨hR0, hR1⟩ := id hR
  have hp := pow_le7 (k := gps D) (by unfold gps; omega)
  have h256 := fs_256 D v X n.toNat (k := (D 9 0).toNat) (by omega)
  refine g_iload_n (pc' := 1) B 1 rfl rfl dX12_sluices_0 rfl ?_
  refine g_i2l (pc' := 2) B (by omega) dX12_sluices_1 rfl ?_
  refine g_lconst (z := 0) (pc' := 3) B (by decide +kernel) dX12_sluices_2 rfl ?_
  refine g_ldc2 (z := 999) (pc' := 6) B tw_1160 (by decide +kernel) dX12_sluices_3 rfl ?_
  refine g_callSI (pc' := 9) (As := [.long (lI v), .long (lI 0), .long (lI 999)]) B (c_X12_in l K _ (v := v) (a := 0) (b := 999) (by omega) (by omega) (by omega)) st_X12_in tw_1041 ⟨by decide, by decide⟩ rfl (Nat.le_of_ble_eq_true rfl) ⟨Nat.zero_le _, Nat.zero_le _⟩ rfl dX12_sluices_6 rfl (fun z6 τ6 h6 => ?_)
  obtain ⟨rfl, h6⟩ := h6
  rcases h6 with ⟨h6, rfl⟩ | ⟨h6, rfl⟩
  · refine g_if_eq (pc' := 12) B 34 (by omega) dX12_sluices_9 (by decide) rfl (fun q => absurd q (by decide)) (fun _ => ?_)
    refine g_iload_n (pc' := 13) B 2 rfl rfl dX12_sluices_12 rfl ?_
    refine g_i2l (pc' := 14) B (by omega) dX12_sluices_13 rfl ?_
    refine g_lconst (z := 1) (pc' := 15) B (by decide +kernel) dX12_sluices_14 rfl ?_
    refine g_ldc2 (z := 40) (pc' := 18) B tw_1209 (by decide +kernel) dX12_sluices_15 rfl ?_
    refine g_callSI (pc' := 21) (As := [.long (lI n), .long (lI 1), .long (lI 40)]) B (c_X12_in l K _ (v := n) (a := 1) (b := 40) (by omega) (by omega) (by omega)) st_X12_in tw_1041 ⟨by decide, by decide⟩ rfl (Nat.le_of_ble_eq_true rfl) ⟨Nat.zero_le _, Nat.zero_le _⟩ rfl dX12_sluices_18 rfl (fun z18 τ18 h18 => ?_)
    obtain ⟨rfl, h18⟩ := h18
    rcases h18 with ⟨h18, rfl⟩ | ⟨h18, rfl⟩
    · refine g_if_eq (pc' := 24) B 34 (by omega) dX12_sluices_21 (by decide) rfl (fun q => absurd q (by decide)) (fun _ => ?_)
      refine g_iload_n (pc' := 25) B 3 rfl rfl dX12_sluices_24 rfl ?_
      refine g_i2l (pc' := 26) B (by omega) dX12_sluices_25 rfl ?_
      refine g_lconst (z := 0) (pc' := 27) B (by decide +kernel) dX12_sluices_26 rfl ?_
      refine g_lconst (z := 1) (pc' := 28) B (by decide +kernel) dX12_sluices_27 rfl ?_
      refine g_callSI (pc' := 31) (As := [.long (lI q), .long (lI 0), .long (lI 1)]) B (c_X12_in l K _ (v := q) (a := 0) (b := 1) (by omega) (by omega) (by omega)) st_X12_in tw_1041 ⟨by decide, by decide⟩ rfl (Nat.le_of_ble_eq_true rfl) ⟨Nat.zero_le _, Nat.zero_le _⟩ rfl dX12_sluices_28 rfl (fun z28 τ28 h28 => ?_)
      obtain ⟨rfl, h28⟩ := h28
      rcases h28 with ⟨h28, rfl⟩ | ⟨h28, rfl⟩
      · refine g_if_ne (pc' := 34) B 37 (by omega) dX12_sluices_31 (by decide) rfl (fun _ => ?_) (fun q => absurd q (by decide))
        refine g_aload_n (pc' := 38) B 0 rfl rfl dX12_sluices_37 rfl ?_
        refine g_iload_n (pc' := 39) B 1 rfl rfl dX12_sluices_38 rfl ?_
        refine g_iload_n (pc' := 40) B 2 rfl rfl dX12_sluices_39 rfl ?_
        refine g_callVI (pc' := 43) (As := [.int (iI v), .int (iI n)]) B (c_X12_flooded l K _ (D := D) (S := S) (X := X) (L := L) (P := P) (v := v) (n := n) hM hF hR hO hH hn0 (by omega) (by omega) (by omega)) vt_X12_flooded tw_1321 rfl rfl ⟨by decide, by decide⟩ rfl (Nat.le_of_ble_eq_true rfl) ⟨Nat.zero_le _, Nat.zero_le _⟩ rfl dX12_sluices_40 rfl (fun z40 τ40 h40 => ?_)
        obtain ⟨rfl, rfl⟩ := h40
        refine g_istore (pc' := 45) B [(4, .int (iI (fs D v X n.toNat (D 9 0).toNat))), (0, .ref (K.2.2 57)), (1, .int (iI v)), (2, .int (iI n)), (3, .int (iI q))] dX12_sluices_43 rfl (by decide) rfl ?_
        refine g_iconst (pc' := 46) B dX12_sluices_45 rfl ?_
        refine g_istore (pc' := 48) B [(5, .int (iI (-1))), (4, .int (iI (fs D v X n.toNat (D 9 0).toNat))), (0, .ref (K.2.2 57)), (1, .int (iI v)), (2, .int (iI n)), (3, .int (iI q))] dX12_sluices_46 rfl (by decide) rfl ?_
        refine g_iconst (pc' := 49) B dX12_sluices_48 rfl ?_
        refine g_istore (pc' := 51) B [(6, .int (iI 0)), (5, .int (iI (-1))), (4, .int (iI (fs D v X n.toNat (D 9 0).toNat))), (0, .ref (K.2.2 57)), (1, .int (iI v)), (2, .int (iI n)), (3, .int (iI q))] dX12_sluices_49 rfl (by decide) rfl ?_
        have L51 : ∀ (nn : Nat) (u t : Int) , ((2 : Int) ^ gps D - t).toNat = nn → (0 ≤ t ∧ t ≤ 2 ^ gps D) → (u = bs (fs D v X n.toNat (D 9 0).toNat) t.toNat) → G pP l eE (rmo 3 72) sS mM [.ref (K.2.2 57), .int (iI v), .int (iI n), .int (iI q)].toArray bW mT cC 0 0 (MQ bW (Qi K (fun z τ => σ = τ ∧ z = qSluices D X v n q)) [.ref (K.2.2 57), .int (iI v), .int (iI n), .int (iI q)].toArray sS 0 0 (wA K)) K sS.heap 8 σ 51 [(6, .int (iI t)), (5, .int (iI u)), (4, .int (iI (fs D v X n.toNat (D 9 0).toNat))), (0, .ref (K.2.2 57)), (1, .int (iI v)), (2, .int (iI n)), (3, .int (iI q))] [] := by
          intro nn
          induction nn using Nat.strongRecOn with
          | _ nn ih51 =>
            intro u t hn51 i1 i2
            have ib := bs_bd (fs D v X n.toNat (D 9 0).toNat) t.toNat
            rw [← i2] at ib
            have it : t.toNat = t := by omega
            refine g_iload (pc' := 53) B 0 rfl dX12_sluices_51 rfl ?_
            refine g_iconst (pc' := 54) B dX12_sluices_53 rfl ?_
            refine g_aload_n (pc' := 55) B 3 rfl rfl dX12_sluices_54 rfl ?_
            refine g_get (pc' := 58) B (D 9 0) hM.1 fl_X12_131 rfl rfl dX12_sluices_55 rfl ?_
            refine g_iconst (pc' := 59) B dX12_sluices_58 rfl ?_
            refine g_icmp_le (pc' := 62) B 71 (by omega) (by omega) dX12_sluices_59 (by decide) rfl (fun c59 => ?_) (fun c59 => ?_)
            · refine g_iconst (pc' := 72) B dX12_sluices_71 rfl ?_
              refine g_ishl (pc' := 73) B (2 ^ gps D) (sh1g ⟨by omega, by omega⟩ (by unfold gps; omega)) dX12_sluices_72 rfl ?_
              refine g_icmp_ge (pc' := 76) B 136 (by omega) (by omega) dX12_sluices_73 (by decide) rfl (fun c73 => ?_) (fun c73 => ?_)
              · refine g_iload (pc' := 138) B 1 rfl dX12_sluices_136 rfl ?_
                refine g_if_lt (pc' := 141) B 146 (by omega) dX12_sluices_138 (by decide) rfl (fun c138 => ?_) (fun c138 => ?_)
                · refine g_iload (pc' := 148) B 1 rfl dX12_sluices_146 rfl ?_
                  refine g_goto (pc' := 156) B dX12_sluices_148 (by decide) ?_
                  exact g_iret (z := u) B hrt rfl hlk dX12_sluices_156 ⟨rfl, by unfold qSluices; rw [if_neg (by omega), if_neg (by omega), if_neg (by omega), show ((2 : Int) ^ gps D).toNat = t.toNat by omega, ← i2]; (repeat' split) <;> first | rfl | omega | (exfalso; omega)⟩
                · refine g_iload_n (pc' := 142) B 6 rfl rfl dX12_sluices_141 rfl ?_
                  refine g_iconst (pc' := 143) B dX12_sluices_142 rfl ?_
                  refine g_icmp_ne (pc' := 146) B 151 (by omega) (by omega) dX12_sluices_143 (by decide) rfl (fun c143 => ?_) (fun c143 => ?_)
                  · refine g_iload (pc' := 153) B 1 rfl dX12_sluices_151 rfl ?_
                    refine g_callSI (pc' := 156) (As := [.int (iI u)]) B (c_X12_ones l K _ (u := u) (by omega)) st_X12_ones tw_1329 ⟨by decide, by decide⟩ rfl (Nat.le_of_ble_eq_true rfl) ⟨Nat.zero_le _, Nat.zero_le _⟩ rfl dX12_sluices_153 rfl (fun z153 τ153 h153 => ?_)
                    obtain ⟨rfl, rfl⟩ := h153
                    exact g_iret (z := pcn u) B hrt rfl hlk dX12_sluices_156 ⟨rfl, by unfold qSluices; rw [if_neg (by omega), if_neg (by omega), if_neg (by omega), show ((2 : Int) ^ gps D).toNat = t.toNat by omega, ← i2]; (repeat' split) <;> first | rfl | omega | (exfalso; omega)⟩
                  · refine g_iload (pc' := 148) B 1 rfl dX12_sluices_146 rfl ?_
                    refine g_goto (pc' := 156) B dX12_sluices_148 (by decide) ?_
                    exact g_iret (z := u) B hrt rfl hlk dX12_sluices_156 ⟨rfl, by unfold qSluices; rw [if_neg (by omega), if_neg (by omega), if_neg (by omega), show ((2 : Int) ^ gps D).toNat = t.toNat by omega, ← i2]; (repeat' split) <;> first | rfl | omega | (exfalso; omega)⟩
              · refine g_iload (pc' := 78) B 2 rfl dX12_sluices_76 rfl ?_
                refine g_iload (pc' := 80) B 0 rfl dX12_sluices_78 rfl ?_
                refine g_iload (pc' := 82) B 0 rfl dX12_sluices_80 rfl ?_
                refine g_iconst (pc' := 83) B dX12_sluices_82 rfl ?_
                refine g_ishl (pc' := 84) B (((iI t) <<< ((iI 1) &&& 31)).toInt) (iI_of _).symm dX12_sluices_83 rfl ?_
                refine g_ior (pc' := 85) B (((iI t) ||| (iI (((iI t) <<< ((iI 1) &&& 31)).toInt))).toInt) (iI_of _).symm dX12_sluices_84 rfl ?_
                refine g_iconst (pc' := 86) B dX12_sluices_85 rfl ?_
                refine g_ixor (pc' := 87) B (((iI (((iI t) ||| (iI (((iI t) <<< ((iI 1) &&& 31)).toInt))).toInt)) ^^^ (iI (-1))).toInt) (iI_of _).symm dX12_sluices_86 rfl ?_
                refine g_iand (pc' := 88) B (((iI (fs D v X n.toNat (D 9 0).toNat)) &&& (iI (((iI (((iI t) ||| (iI (((iI t) <<< ((iI 1) &&& 31)).toInt))).toInt)) ^^^ (iI (-1))).toInt))).toInt) (iI_of _).symm dX12_sluices_87 rfl ?_
                refine g_if_ne (pc' := 91) B 95 (by exact iI_rng _) dX12_sluices_88 (by decide) rfl (fun c88 => ?_) (fun c88 => ?_)
                · refine g_iconst (pc' := 96) B dX12_sluices_95 rfl ?_
                  refine g_istore (pc' := 98) B [(7, .int (iI 0)), (6, .int (iI t)), (5, .int (iI u)), (4, .int (iI (fs D v X n.toNat (D 9 0).toNat))), (0, .ref (K.2.2 57)), (1, .int (iI v)), (2, .int (iI n)), (3, .int (iI q))] dX12_sluices_96 rfl (by decide) rfl ?_
                  refine g_iload (pc' := 100) B 0 rfl dX12_sluices_98 rfl ?_
                  refine g_if_eq (pc' := 103) B 126 (by omega) dX12_sluices_100 (by decide) rfl (fun _ => ?_) (fun q => absurd q (by decide))
                  refine g_iload (pc' := 128) B 2 rfl dX12_sluices_126 rfl ?_
                  refine g_istore (pc' := 130) B [(5, .int (iI u)), (7, .int (iI 0)), (6, .int (iI t)), (4, .int (iI (fs D v X n.toNat (D 9 0).toNat))), (0, .ref (K.2.2 57)), (1, .int (iI v)), (2, .int (iI n)), (3, .int (iI q))] dX12_sluices_128 rfl (by decide) rfl ?_
                  refine g_iinc (pc' := 133) B 2 [(6, .int (iI (t + 1))), (5, .int (iI u)), (7, .int (iI 0)), (4, .int (iI (fs D v X n.toNat (D 9 0).toNat))), (0, .ref (K.2.2 57)), (1, .int (iI v)), (2, .int (iI n)), (3, .int (iI q))] dX12_sluices_130 rfl rfl (by decide) rfl ?_
                  refine g_goto (pc' := 51) B dX12_sluices_133 (by decide) ?_
                  refine g_loc B [(6, .int (iI (t + 1))), (5, .int (iI u)), (4, .int (iI (fs D v X n.toNat (D 9 0).toNat))), (0, .ref (K.2.2 57)), (1, .int (iI v)), (2, .int (iI n)), (3, .int (iI q))] [0, 1, 3, 4, 5, 6, 7] rfl ?_
                  exact ih51 _ (by omega) u (t + 1) rfl (by omega) (by rw [bs_next (by omega), ← i2]; first | (rw [if_pos ⟨c88, by omega⟩]; done) | (rw [if_neg (fun q => c88 q.1)]; done) | (rw [if_neg (fun q => by rcases q.2 with q | q <;> omega)]; done))
                · refine g_iconst (pc' := 92) B dX12_sluices_91 rfl ?_
                  refine g_goto (pc' := 96) B dX12_sluices_92 (by decide) ?_
                  refine g_istore (pc' := 98) B [(7, .int (iI 1)), (6, .int (iI t)), (5, .int (iI u)), (4, .int (iI (fs D v X n.toNat (D 9 0).toNat))), (0, .ref (K.2.2 57)), (1, .int (iI v)), (2, .int (iI n)), (3, .int (iI q))] dX12_sluices_96 rfl (by decide) rfl ?_
                  refine g_iload (pc' := 100) B 0 rfl dX12_sluices_98 rfl ?_
                  refine g_if_eq (pc' := 103) B 126 (by omega) dX12_sluices_100 (by decide) rfl (fun q => absurd q (by decide)) (fun _ => ?_)
                  refine g_iload (pc' := 105) B 2 rfl dX12_sluices_103 rfl ?_
                  refine g_if_lt (pc' := 108) B 121 (by omega) dX12_sluices_105 (by decide) rfl (fun c105 => ?_) (fun c105 => ?_)
                  · refine g_iload (pc' := 123) B 1 rfl dX12_sluices_121 rfl ?_
                    refine g_goto (pc' := 128) B dX12_sluices_123 (by decide) ?_
                    refine g_istore (pc' := 130) B [(5, .int (iI t)), (7, .int (iI 1)), (6, .int (iI t)), (4, .int (iI (fs D v X n.toNat (D 9 0).toNat))), (0, .ref (K.2.2 57)), (1, .int (iI v)), (2, .int (iI n)), (3, .int (iI q))] dX12_sluices_128 rfl (by decide) rfl ?_
                    refine g_iinc (pc' := 133) B 2 [(6, .int (iI (t + 1))), (5, .int (iI t)), (7, .int (iI 1)), (4, .int (iI (fs D v X n.toNat (D 9 0).toNat))), (0, .ref (K.2.2 57)), (1, .int (iI v)), (2, .int (iI n)), (3, .int (iI q))] dX12_sluices_130 rfl rfl (by decide) rfl ?_
                    refine g_goto (pc' := 51) B dX12_sluices_133 (by decide) ?_
                    refine g_loc B [(6, .int (iI (t + 1))), (5, .int (iI t)), (4, .int (iI (fs D v X n.toNat (D 9 0).toNat))), (0, .ref (K.2.2 57)), (1, .int (iI v)), (2, .int (iI n)), (3, .int (iI q))] [0, 1, 3, 4, 5, 6, 7] rfl ?_
                    exact ih51 _ (by omega) t (t + 1) rfl (by omega) (by rw [bs_next (by omega), ← i2]; first | (rw [if_pos ⟨c88, by omega⟩]; done) | (rw [if_neg (fun q => c88 q.1)]; done) | (rw [if_neg (fun q => by rcases q.2 with q | q <;> omega)]; done))
                  · refine g_iload (pc' := 110) B 1 rfl dX12_sluices_108 rfl ?_
                    refine g_callSI (pc' := 113) (As := [.int (iI t)]) B (c_X12_ones l K _ (u := t) (by omega)) st_X12_ones tw_1329 ⟨by decide, by decide⟩ rfl (Nat.le_of_ble_eq_true rfl) ⟨Nat.zero_le _, Nat.zero_le _⟩ rfl dX12_sluices_110 rfl (fun z110 τ110 h110 => ?_)
                    obtain ⟨rfl, rfl⟩ := h110
                    refine g_iload (pc' := 115) B 2 rfl dX12_sluices_113 rfl ?_
                    refine g_callSI (pc' := 118) (As := [.int (iI u)]) B (c_X12_ones l K _ (u := u) (by omega)) st_X12_ones tw_1329 ⟨by decide, by decide⟩ rfl (Nat.le_of_ble_eq_true rfl) ⟨Nat.zero_le _, Nat.zero_le _⟩ rfl dX12_sluices_115 rfl (fun z115 τ115 h115 => ?_)
                    obtain ⟨rfl, rfl⟩ := h115
                    refine g_icmp_ge (pc' := 121) B 126 (by have h1 := pcn_bd (v := t); have h2 := pcn_bd (v := u); omega) (by have h1 := pcn_bd (v := t); have h2 := pcn_bd (v := u); omega) dX12_sluices_118 (by decide) rfl (fun c118 => ?_) (fun c118 => ?_)
                    · refine g_iload (pc' := 128) B 2 rfl dX12_sluices_126 rfl ?_
                      refine g_istore (pc' := 130) B [(5, .int (iI u)), (7, .int (iI 1)), (6, .int (iI t)), (4, .int (iI (fs D v X n.toNat (D 9 0).toNat))), (0, .ref (K.2.2 57)), (1, .int (iI v)), (2, .int (iI n)), (3, .int (iI q))] dX12_sluices_128 rfl (by decide) rfl ?_
                      refine g_iinc (pc' := 133) B 2 [(6, .int (iI (t + 1))), (5, .int (iI u)), (7, .int (iI 1)), (4, .int (iI (fs D v X n.toNat (D 9 0).toNat))), (0, .ref (K.2.2 57)), (1, .int (iI v)), (2, .int (iI n)), (3, .int (iI q))] dX12_sluices_130 rfl rfl (by decide) rfl ?_
                      refine g_goto (pc' := 51) B dX12_sluices_133 (by decide) ?_
                      refine g_loc B [(6, .int (iI (t + 1))), (5, .int (iI u)), (4, .int (iI (fs D v X n.toNat (D 9 0).toNat))), (0, .ref (K.2.2 57)), (1, .int (iI v)), (2, .int (iI n)), (3, .int (iI q))] [0, 1, 3, 4, 5, 6, 7] rfl ?_
                      exact ih51 _ (by omega) u (t + 1) rfl (by omega) (by rw [bs_next (by omega), ← i2]; first | (rw [if_pos ⟨c88, by omega⟩]; done) | (rw [if_neg (fun q => c88 q.1)]; done) | (rw [if_neg (fun q => by rcases q.2 with q | q <;> omega)]; done))
                    · refine g_iload (pc' := 123) B 1 rfl dX12_sluices_121 rfl ?_
                      refine g_goto (pc' := 128) B dX12_sluices_123 (by decide) ?_
                      refine g_istore (pc' := 130) B [(5, .int (iI t)), (7, .int (iI 1)), (6, .int (iI t)), (4, .int (iI (fs D v X n.toNat (D 9 0).toNat))), (0, .ref (K.2.2 57)), (1, .int (iI v)), (2, .int (iI n)), (3, .int (iI q))] dX12_sluices_128 rfl (by decide) rfl ?_
                      refine g_iinc (pc' := 133) B 2 [(6, .int (iI (t + 1))), (5, .int (iI t)), (7, .int (iI 1)), (4, .int (iI (fs D v X n.toNat (D 9 0).toNat))), (0, .ref (K.2.2 57)), (1, .int (iI v)), (2, .int (iI n)), (3, .int (iI q))] dX12_sluices_130 rfl rfl (by decide) rfl ?_
                      refine g_goto (pc' := 51) B dX12_sluices_133 (by decide) ?_
                      refine g_loc B [(6, .int (iI (t + 1))), (5, .int (iI t)), (4, .int (iI (fs D v X n.toNat (D 9 0).toNat))), (0, .ref (K.2.2 57)), (1, .int (iI v)), (2, .int (iI n)), (3, .int (iI q))] [0, 1, 3, 4, 5, 6, 7] rfl ?_
                      exact ih51 _ (by omega) t (t + 1) rfl (by omega) (by rw [bs_next (by omega), ← i2]; first | (rw [if_pos ⟨c88, by omega⟩]; done) | (rw [if_neg (fun q => c88 q.1)]; done) | (rw [if_neg (fun q => by rcases q.2 with q | q <;> omega)]; done))
            · refine g_aload_n (pc' := 63) B 3 rfl rfl dX12_sluices_62 rfl ?_
              refine g_get (pc' := 66) B (D 9 0) hM.1 fl_X12_131 rfl rfl dX12_sluices_63 rfl ?_
              refine g_iconst (pc' := 67) B dX12_sluices_66 rfl ?_
              refine g_isub (pc' := 68) B dX12_sluices_67 rfl ?_
              refine g_goto (pc' := 72) B dX12_sluices_68 (by decide) ?_
              refine g_ishl (pc' := 73) B (2 ^ gps D) (sh1g ⟨by omega, by omega⟩ (by unfold gps; omega)) dX12_sluices_72 rfl ?_
              refine g_icmp_ge (pc' := 76) B 136 (by omega) (by omega) dX12_sluices_73 (by decide) rfl (fun c73 => ?_) (fun c73 => ?_)
              · refine g_iload (pc' := 138) B 1 rfl dX12_sluices_136 rfl ?_
                refine g_if_lt (pc' := 141) B 146 (by omega) dX12_sluices_138 (by decide) rfl (fun c138 => ?_) (fun c138 => ?_)
                · refine g_iload (pc' := 148) B 1 rfl dX12_sluices_146 rfl ?_
                  refine g_goto (pc' := 156) B dX12_sluices_148 (by decide) ?_
                  exact g_iret (z := u) B hrt rfl hlk dX12_sluices_156 ⟨rfl, by unfold qSluices; rw [if_neg (by omega), if_neg (by omega), if_neg (by omega), show ((2 : Int) ^ gps D).toNat = t.toNat by omega, ← i2]; (repeat' split) <;> first | rfl | omega | (exfalso; omega)⟩
                · refine g_iload_n (pc' := 142) B 6 rfl rfl dX12_sluices_141 rfl ?_
                  refine g_iconst (pc' := 143) B dX12_sluices_142 rfl ?_
                  refine g_icmp_ne (pc' := 146) B 151 (by omega) (by omega) dX12_sluices_143 (by decide) rfl (fun c143 => ?_) (fun c143 => ?_)
                  · refine g_iload (pc' := 153) B 1 rfl dX12_sluices_151 rfl ?_
                    refine g_callSI (pc' := 156) (As := [.int (iI u)]) B (c_X12_ones l K _ (u := u) (by omega)) st_X12_ones tw_1329 ⟨by decide, by decide⟩ rfl (Nat.le_of_ble_eq_true rfl) ⟨Nat.zero_le _, Nat.zero_le _⟩ rfl dX12_sluices_153 rfl (fun z153 τ153 h153 => ?_)
                    obtain ⟨rfl, rfl⟩ := h153
                    exact g_iret (z := pcn u) B hrt rfl hlk dX12_sluices_156 ⟨rfl, by unfold qSluices; rw [if_neg (by omega), if_neg (by omega), if_neg (by omega), show ((2 : Int) ^ gps D).toNat = t.toNat by omega, ← i2]; (repeat' split) <;> first | rfl | omega | (exfalso; omega)⟩
                  · refine g_iload (pc' := 148) B 1 rfl dX12_sluices_146 rfl ?_
                    refine g_goto (pc' := 156) B dX12_sluices_148 (by decide) ?_
                    exact g_iret (z := u) B hrt rfl hlk dX12_sluices_156 ⟨rfl, by unfold qSluices; rw [if_neg (by omega), if_neg (by omega), if_neg (by omega), show ((2 : Int) ^ gps D).toNat = t.toNat by omega, ← i2]; (repeat' split) <;> first | rfl | omega | (exfalso; omega)⟩
              · refine g_iload (pc' := 78) B 2 rfl dX12_sluices_76 rfl ?_
                refine g_iload (pc' := 80) B 0 rfl dX12_sluices_78 rfl ?_
                refine g_iload (pc' := 82) B 0 rfl dX12_sluices_80 rfl ?_
                refine g_iconst (pc' := 83) B dX12_sluices_82 rfl ?_
                refine g_ishl (pc' := 84) B (((iI t) <<< ((iI 1) &&& 31)).toInt) (iI_of _).symm dX12_sluices_83 rfl ?_
                refine g_ior (pc' := 85) B (((iI t) ||| (iI (((iI t) <<< ((iI 1) &&& 31)).toInt))).toInt) (iI_of _).symm dX12_sluices_84 rfl ?_
                refine g_iconst (pc' := 86) B dX12_sluices_85 rfl ?_
                refine g_ixor (pc' := 87) B (((iI (((iI t) ||| (iI (((iI t) <<< ((iI 1) &&& 31)).toInt))).toInt)) ^^^ (iI (-1))).toInt) (iI_of _).symm dX12_sluices_86 rfl ?_
                refine g_iand (pc' := 88) B (((iI (fs D v X n.toNat (D 9 0).toNat)) &&& (iI (((iI (((iI t) ||| (iI (((iI t) <<< ((iI 1) &&& 31)).toInt))).toInt)) ^^^ (iI (-1))).toInt))).toInt) (iI_of _).symm dX12_sluices_87 rfl ?_
                refine g_if_ne (pc' := 91) B 95 (by exact iI_rng _) dX12_sluices_88 (by decide) rfl (fun c88 => ?_) (fun c88 => ?_)
                · refine g_iconst (pc' := 96) B dX12_sluices_95 rfl ?_
                  refine g_istore (pc' := 98) B [(7, .int (iI 0)), (6, .int (iI t)), (5, .int (iI u)), (4, .int (iI (fs D v X n.toNat (D 9 0).toNat))), (0, .ref (K.2.2 57)), (1, .int (iI v)), (2, .int (iI n)), (3, .int (iI q))] dX12_sluices_96 rfl (by decide) rfl ?_
                  refine g_iload (pc' := 100) B 0 rfl dX12_sluices_98 rfl ?_
                  refine g_if_eq (pc' := 103) B 126 (by omega) dX12_sluices_100 (by decide) rfl (fun _ => ?_) (fun q => absurd q (by decide))
                  refine g_iload (pc' := 128) B 2 rfl dX12_sluices_126 rfl ?_
                  refine g_istore (pc' := 130) B [(5, .int (iI u)), (7, .int (iI 0)), (6, .int (iI t)), (4, .int (iI (fs D v X n.toNat (D 9 0).toNat))), (0, .ref (K.2.2 57)), (1, .int (iI v)), (2, .int (iI n)), (3, .int (iI q))] dX12_sluices_128 rfl (by decide) rfl ?_
                  refine g_iinc (pc' := 133) B 2 [(6, .int (iI (t + 1))), (5, .int (iI u)), (7, .int (iI 0)), (4, .int (iI (fs D v X n.toNat (D 9 0).toNat))), (0, .ref (K.2.2 57)), (1, .int (iI v)), (2, .int (iI n)), (3, .int (iI q))] dX12_sluices_130 rfl rfl (by decide) rfl ?_
                  refine g_goto (pc' := 51) B dX12_sluices_133 (by decide) ?_
                  refine g_loc B [(6, .int (iI (t + 1))), (5, .int (iI u)), (4, .int (iI (fs D v X n.toNat (D 9 0).toNat))), (0, .ref (K.2.2 57)), (1, .int (iI v)), (2, .int (iI n)), (3, .int (iI q))] [0, 1, 3, 4, 5, 6, 7] rfl ?_
                  exact ih51 _ (by omega) u (t + 1) rfl (by omega) (by rw [bs_next (by omega), ← i2]; first | (rw [if_pos ⟨c88, by omega⟩]; done) | (rw [if_neg (fun q => c88 q.1)]; done) | (rw [if_neg (fun q => by rcases q.2 with q | q <;> omega)]; done))
                · refine g_iconst (pc' := 92) B dX12_sluices_91 rfl ?_
                  refine g_goto (pc' := 96) B dX12_sluices_92 (by decide) ?_
                  refine g_istore (pc' := 98) B [(7, .int (iI 1)), (6, .int (iI t)), (5, .int (iI u)), (4, .int (iI (fs D v X n.toNat (D 9 0).toNat))), (0, .ref (K.2.2 57)), (1, .int (iI v)), (2, .int (iI n)), (3, .int (iI q))] dX12_sluices_96 rfl (by decide) rfl ?_
                  refine g_iload (pc' := 100) B 0 rfl dX12_sluices_98 rfl ?_
                  refine g_if_eq (pc' := 103) B 126 (by omega) dX12_sluices_100 (by decide) rfl (fun q => absurd q (by decide)) (fun _ => ?_)
                  refine g_iload (pc' := 105) B 2 rfl dX12_sluices_103 rfl ?_
                  refine g_if_lt (pc' := 108) B 121 (by omega) dX12_sluices_105 (by decide) rfl (fun c105 => ?_) (fun c105 => ?_)
                  · refine g_iload (pc' := 123) B 1 rfl dX12_sluices_121 rfl ?_
                    refine g_goto (pc' := 128) B dX12_sluices_123 (by decide) ?_
                    refine g_istore (pc' := 130) B [(5, .int (iI t)), (7, .int (iI 1)), (6, .int (iI t)), (4, .int (iI (fs D v X n.toNat (D 9 0).toNat))), (0, .ref (K.2.2 57)), (1, .int (iI v)), (2, .int (iI n)), (3, .int (iI q))] dX12_sluices_128 rfl (by decide) rfl ?_
                    refine g_iinc (pc' := 133) B 2 [(6, .int (iI (t + 1))), (5, .int (iI t)), (7, .int (iI 1)), (4, .int (iI (fs D v X n.toNat (D 9 0).toNat))), (0, .ref (K.2.2 57)), (1, .int (iI v)), (2, .int (iI n)), (3, .int (iI q))] dX12_sluices_130 rfl rfl (by decide) rfl ?_
                    refine g_goto (pc' := 51) B dX12_sluices_133 (by decide) ?_
                    refine g_loc B [(6, .int (iI (t + 1))), (5, .int (iI t)), (4, .int (iI (fs D v X n.toNat (D 9 0).toNat))), (0, .ref (K.2.2 57)), (1, .int (iI v)), (2, .int (iI n)), (3, .int (iI q))] [0, 1, 3, 4, 5, 6, 7] rfl ?_
                    exact ih51 _ (by omega) t (t + 1) rfl (by omega) (by rw [bs_next (by omega), ← i2]; first | (rw [if_pos ⟨c88, by omega⟩]; done) | (rw [if_neg (fun q => c88 q.1)]; done) | (rw [if_neg (fun q => by rcases q.2 with q | q <;> omega)]; done))
                  · refine g_iload (pc' := 110) B 1 rfl dX12_sluices_108 rfl ?_
                    refine g_callSI (pc' := 113) (As := [.int (iI t)]) B (c_X12_ones l K _ (u := t) (by omega)) st_X12_ones tw_1329 ⟨by decide, by decide⟩ rfl (Nat.le_of_ble_eq_true rfl) ⟨Nat.zero_le _, Nat.zero_le _⟩ rfl dX12_sluices_110 rfl (fun z110 τ110 h110 => ?_)
                    obtain ⟨rfl, rfl⟩ := h110
                    refine g_iload (pc' := 115) B 2 rfl dX12_sluices_113 rfl ?_
                    refine g_callSI (pc' := 118) (As := [.int (iI u)]) B (c_X12_ones l K _ (u := u) (by omega)) st_X12_ones tw_1329 ⟨by decide, by decide⟩ rfl (Nat.le_of_ble_eq_true rfl) ⟨Nat.zero_le _, Nat.zero_le _⟩ rfl dX12_sluices_115 rfl (fun z115 τ115 h115 => ?_)
                    obtain ⟨rfl, rfl⟩ := h115
                    refine g_icmp_ge (pc' := 121) B 126 (by have h1 := pcn_bd (v := t); have h2 := pcn_bd (v := u); omega) (by have h1 := pcn_bd (v := t); have h2 := pcn_bd (v := u); omega) dX12_sluices_118 (by decide) rfl (fun c118 => ?_) (fun c118 => ?_)
                    · refine g_iload (pc' := 128) B 2 rfl dX12_sluices_126 rfl ?_
                      refine g_istore (pc' := 130) B [(5, .int (iI u)), (7, .int (iI 1)), (6, .int (iI t)), (4, .int (iI (fs D v X n.toNat (D 9 0).toNat))), (0, .ref (K.2.2 57)), (1, .int (iI v)), (2, .int (iI n)), (3, .int (iI q))] dX12_sluices_128 rfl (by decide) rfl ?_
                      refine g_iinc (pc' := 133) B 2 [(6, .int (iI (t + 1))), (5, .int (iI u)), (7, .int (iI 1)), (4, .int (iI (fs D v X n.toNat (D 9 0).toNat))), (0, .ref (K.2.2 57)), (1, .int (iI v)), (2, .int (iI n)), (3, .int (iI q))] dX12_sluices_130 rfl rfl (by decide) rfl ?_
                      refine g_goto (pc' := 51) B dX12_sluices_133 (by decide) ?_
                      refine g_loc B [(6, .int (iI (t + 1))), (5, .int (iI u)), (4, .int (iI (fs D v X n.toNat (D 9 0).toNat))), (0, .ref (K.2.2 57)), (1, .int (iI v)), (2, .int (iI n)), (3, .int (iI q))] [0, 1, 3, 4, 5, 6, 7] rfl ?_
                      exact ih51 _ (by omega) u (t + 1) rfl (by omega) (by rw [bs_next (by omega), ← i2]; first | (rw [if_pos ⟨c88, by omega⟩]; done) | (rw [if_neg (fun q => c88 q.1)]; done) | (rw [if_neg (fun q => by rcases q.2 with q | q <;> omega)]; done))
                    · refine g_iload (pc' := 123) B 1 rfl dX12_sluices_121 rfl ?_
                      refine g_goto (pc' := 128) B dX12_sluices_123 (by decide) ?_
                      refine g_istore (pc' := 130) B [(5, .int (iI t)), (7, .int (iI 1)), (6, .int (iI t)), (4, .int (iI (fs D v X n.toNat (D 9 0).toNat))), (0, .ref (K.2.2 57)), (1, .int (iI v)), (2, .int (iI n)), (3, .int (iI q))] dX12_sluices_128 rfl (by decide) rfl ?_
                      refine g_iinc (pc' := 133) B 2 [(6, .int (iI (t + 1))), (5, .int (iI t)), (7, .int (iI 1)), (4, .int (iI (fs D v X n.toNat (D 9 0).toNat))), (0, .ref (K.2.2 57)), (1, .int (iI v)), (2, .int (iI n)), (3, .int (iI q))] dX12_sluices_130 rfl rfl (by decide) rfl ?_
                      refine g_goto (pc' := 51) B dX12_sluices_133 (by decide) ?_
                      refine g_loc B [(6, .int (iI (t + 1))), (5, .int (iI t)), (4, .int (iI (fs D v X n.toNat (D 9 0).toNat))), (0, .ref (K.2.2 57)), (1, .int (iI v)), (2, .int (iI n)), (3, .int (iI q))] [0, 1, 3, 4, 5, 6, 7] rfl ?_
                      exact ih51 _ (by omega) t (t + 1) rfl (by omega) (by rw [bs_next (by omega), ← i2]; first | (rw [if_pos ⟨c88, by omega⟩]; done) | (rw [if_neg (fun q => c88 q.1)]; done) | (rw [if_neg (fun q => by rcases q.2 with q | q <;> omega)]; done))
        exact L51 _ (-1) 0 rfl (by omega) (by rfl)
      · refine g_if_ne (pc' := 34) B 37 (by omega) dX12_sluices_31 (by decide) rfl (fun q => absurd q (by decide)) (fun _ => ?_)
        refine g_ldc (z := (-1000000002)) (pc' := 36) B tw_1044 (by decide +kernel) dX12_sluices_34 rfl ?_
        exact g_iret (z := (-1000000002)) B hrt rfl hlk dX12_sluices_36 ⟨rfl, by unfold qSluices; (repeat' split) <;> first | rfl | (exfalso; omega)⟩
    · refine g_if_eq (pc' := 24) B 34 (by omega) dX12_sluices_21 (by decide) rfl (fun _ => ?_) (fun q => absurd q (by decide))
      refine g_ldc (z := (-1000000002)) (pc' := 36) B tw_1044 (by decide +kernel) dX12_sluices_34 rfl ?_
      exact g_iret (z := (-1000000002)) B hrt rfl hlk dX12_sluices_36 ⟨rfl, by unfold qSluices; (repeat' split) <;> first | rfl | (exfalso; omega)⟩
  · refine g_if_eq (pc' := 12) B 34 (by omega) dX12_sluices_9 (by decide) rfl (fun _ => ?_) (fun q => absurd q (by decide))
    refine g_ldc (z := (-1000000002)) (pc' := 36) B tw_1044 (by decide +kernel) dX12_sluices_34 rfl ?_
    exact g_iret (z := (-1000000002)) B hrt rfl hlk dX12_sluices_36 ⟨rfl, by unfold qSluices; (repeat' split) <;> first | rfl | (exfalso; omega)⟩
set_option maxRecDepth 100000 in
set_option maxHeartbeats 4000000 in
theorem c_X12_odds (l : Launch) (K : WK) (σ : SG) {D : SG} (hM : mD σ D) (hF : okF D) (hR : okR D) (hO : okQ D) (hH : okH D) {S X L P : Int} (hn0 : σ 58 0 = S ∧ σ 58 1 = X ∧ σ 58 2 = L ∧ σ 58 3 = P) (hSX : 0 ≤ X ∧ X ≤ S ∧ S ≤ 70000) {f v n q : Int} (hf : -2147483648 ≤ f ∧ f < 2147483648) (hv : -2147483648 ≤ v ∧ v < 2147483648) (hn : -2147483648 ≤ n ∧ n < 2147483648) (hq : -2147483648 ≤ q ∧ q < 2147483648) : MI l yX12_odds cX12_odds 8 (some .int) 2 47 K σ [.ref (K.2.2 57), .int (iI f), .int (iI v), .int (iI n), .int (iI q)] (fun z τ => (∀ k, k ≠ 72 → τ k = σ k) ∧ z = qOdds D X f v n q) := by
  refine met_of [(0, .ref (K.2.2 57)), (1, .int (iI f)), (2, .int (iI v)), (3, .int (iI n)), (4, .int (iI q))] (by decide +kernel) (Nat.le_of_ble_eq_true rfl) rfl ?_
  intro pP eE sS mM bW mT cC B hrt hlk
  replace B : CB pP sS mM [.ref (K.2.2 57), .int (iI f), .int (iI v), .int (iI n), .int (iI q)].toArray cC cX12_odds RX12 8 K := B
  obtain ⟨hF0, hF1⟩ := id hF
  obtain ⟨hO0, hO1⟩ := id hO
  obtain ⟨hH0, hH1⟩ := id hH
  obtain ⟨hR0, hR1⟩ := id hR
  refine g_aload_n (pc' := 1) B 0 rfl rfl dX12_odds_0 rfl ?_
  refine g_iload_n (pc' := 2) B 1 rfl rfl dX12_odds_1 rfl ?_
  refine g_callVI (pc' := 5) (As := [.int (iI f)]) B (c_X12_isField l K _ (D := D) (f := f) hM hF hR hO hH (by omega)) vt_X12_isField tw_1129 rfl rfl ⟨by decide, by decide⟩ rfl (Nat.le_of_ble_eq_true rfl) ⟨Nat.zero_le _, Nat.zero_le _⟩ rfl dX12_odds_2 rfl (fun z2 τ2 h2 => ?_)
  obtain ⟨rfl, h2⟩ := h2
  rcases h2 with ⟨h2, rfl⟩ | ⟨h2, rfl⟩
  · refine g_if_ne (pc' := 8) B 11 (by omega) dX12_odds_5 (by decide) rfl (fun _ => ?_) (fun q => absurd q (by decide))
    refine g_iload_n (pc' := 12) B 2 rfl rfl dX12_odds_11 rfl ?_
    refine g_i2l (pc' := 13) B (by omega) dX12_odds_12 rfl ?_
    refine g_lconst (z := 0) (pc' := 14) B (by decide +kernel) dX12_odds_13 rfl ?_
    refine g_ldc2 (z := 999) (pc' := 17) B tw_1160 (by decide +kernel) dX12_odds_14 rfl ?_
    refine g_callSI (pc' := 20) (As := [.long (lI v), .long (lI 0), .long (lI 999)]) B (c_X12_in l K _ (v := v) (a := 0) (b := 999) (by omega) (by omega) (by omega)) st_X12_in tw_1041 ⟨by decide, by decide⟩ rfl (Nat.le_of_ble_eq_true rfl) ⟨Nat.zero_le _, Nat.zero_le _⟩ rfl dX12_odds_17 rfl (fun z17 τ17 h17 => ?_)
    obtain ⟨rfl, h17⟩ := h17
    rcases h17 with ⟨h17, rfl⟩ | ⟨h17, rfl⟩
    · refine g_if_eq (pc' := 23) B 48 (by omega) dX12_odds_20 (by decide) rfl (fun q => absurd q (by decide)) (fun _ => ?_)
      refine g_iload_n (pc' := 24) B 3 rfl rfl dX12_odds_23 rfl ?_
      refine g_i2l (pc' := 25) B (by omega) dX12_odds_24 rfl ?_
      refine g_lconst (z := 1) (pc' := 26) B (by decide +kernel) dX12_odds_25 rfl ?_
      refine g_ldc2 (z := 20) (pc' := 29) B tw_1336 (by decide +kernel) dX12_odds_26 rfl ?_
      refine g_callSI (pc' := 32) (As := [.long (lI n), .long (lI 1), .long (lI 20)]) B (c_X12_in l K _ (v := n) (a := 1) (b := 20) (by omega) (by omega) (by omega)) st_X12_in tw_1041 ⟨by decide, by decide⟩ rfl (Nat.le_of_ble_eq_true rfl) ⟨Nat.zero_le _, Nat.zero_le _⟩ rfl dX12_odds_29 rfl (fun z29 τ29 h29 => ?_)
      obtain ⟨rfl, h29⟩ := h29
      rcases h29 with ⟨h29, rfl⟩ | ⟨h29, rfl⟩
      · refine g_if_eq (pc' := 35) B 48 (by omega) dX12_odds_32 (by decide) rfl (fun q => absurd q (by decide)) (fun _ => ?_)
        refine g_iload (pc' := 37) B 4 rfl dX12_odds_35 rfl ?_
        refine g_i2l (pc' := 38) B (by omega) dX12_odds_37 rfl ?_
        refine g_lconst (z := 0) (pc' := 39) B (by decide +kernel) dX12_odds_38 rfl ?_
        refine g_ldc2 (z := 100) (pc' := 42) B tw_1337 (by decide +kernel) dX12_odds_39 rfl ?_
        refine g_callSI (pc' := 45) (As := [.long (lI q), .long (lI 0), .long (lI 100)]) B (c_X12_in l K _ (v := q) (a := 0) (b := 100) (by omega) (by omega) (by omega)) st_X12_in tw_1041 ⟨by decide, by decide⟩ rfl (Nat.le_of_ble_eq_true rfl) ⟨Nat.zero_le _, Nat.zero_le _⟩ rfl dX12_odds_42 rfl (fun z42 τ42 h42 => ?_)
        obtain ⟨rfl, h42⟩ := h42
        rcases h42 with ⟨h42, rfl⟩ | ⟨h42, rfl⟩
        · refine g_if_ne (pc' := 48) B 51 (by omega) dX12_odds_45 (by decide) rfl (fun _ => ?_) (fun q => absurd q (by decide))
          refine g_iconst (pc' := 52) B dX12_odds_51 rfl ?_
          refine g_istore (pc' := 54) B [(5, .int (iI 0)), (0, .ref (K.2.2 57)), (1, .int (iI f)), (2, .int (iI v)), (3, .int (iI n)), (4, .int (iI q))] dX12_odds_52 rfl (by decide) rfl ?_
          have L54 : ∀ (nn : Nat) (ρ : SG) (y : Int) , (22 - y).toNat = nn → (0 ≤ y ∧ y ≤ 22) → (∀ k, k ≠ 72 → ρ k = σ k) → (∀ h : Int, 0 ≤ h → h < y → ρ 72 h = if h = 0 then 1000000000 else 0) → G pP l eE (rmo 2 47) sS mM [.ref (K.2.2 57), .int (iI f), .int (iI v), .int (iI n), .int (iI q)].toArray bW mT cC 0 0 (MQ bW (Qi K (fun z τ => (∀ k, k ≠ 72 → τ k = σ k) ∧ z = qOdds D X f v n q)) [.ref (K.2.2 57), .int (iI f), .int (iI v), .int (iI n), .int (iI q)].toArray sS 0 0 (wA K)) K sS.heap 8 ρ 54 [(5, .int (iI y)), (0, .ref (K.2.2 57)), (1, .int (iI f)), (2, .int (iI v)), (3, .int (iI n)), (4, .int (iI q))] [] := by
            intro nn
            induction nn using Nat.strongRecOn with
            | _ nn ih54 =>
              intro ρ y hn54 i1 i2 i3
              refine g_iload (pc' := 56) B 0 rfl dX12_odds_54 rfl ?_
              refine g_bipush (pc' := 58) B (by decide +kernel) dX12_odds_56 rfl ?_
              refine g_icmp_ge (pc' := 61) B 86 (by omega) (by omega) dX12_odds_58 (by decide) rfl (fun c58 => ?_) (fun c58 => ?_)
              · refine g_iconst (pc' := 87) B dX12_odds_86 rfl ?_
                refine g_istore (pc' := 89) B [(5, .int (iI 0)), (0, .ref (K.2.2 57)), (1, .int (iI f)), (2, .int (iI v)), (3, .int (iI n)), (4, .int (iI q))] dX12_odds_87 rfl (by decide) rfl ?_
                have L89 : ∀ (nn : Nat) (ω : SG) (k : Int) , (n - k).toNat = nn → (0 ≤ k ∧ k ≤ n) → (∀ k, k ≠ 72 → ω k = σ k) → (∀ h : Int, 0 ≤ h → h < 22 → ω 72 h = sh q k.toNat h) → G pP l eE (rmo 2 47) sS mM [.ref (K.2.2 57), .int (iI f), .int (iI v), .int (iI n), .int (iI q)].toArray bW mT cC 0 0 (MQ bW (Qi K (fun z τ => (∀ k, k ≠ 72 → τ k = σ k) ∧ z = qOdds D X f v n q)) [.ref (K.2.2 57), .int (iI f), .int (iI v), .int (iI n), .int (iI q)].toArray sS 0 0 (wA K)) K sS.heap 8 ω 89 [(5, .int (iI k)), (0, .ref (K.2.2 57)), (1, .int (iI f)), (2, .int (iI v)), (3, .int (iI n)), (4, .int (iI q))] [] := by
                  intro nn
                  induction nn using Nat.strongRecOn with
                  | _ nn ih89 =>
                    intro ω k hn89 j1 j2 j3
                    refine g_iload (pc' := 91) B 0 rfl dX12_odds_89 rfl ?_
                    refine g_iload_n (pc' := 92) B 4 rfl rfl dX12_odds_91 rfl ?_
                    refine g_icmp_ge (pc' := 95) B 161 (by omega) (by omega) dX12_odds_92 (by decide) rfl (fun c92 => ?_) (fun c92 => ?_)
                    · have hMω : mD ω D := hM.keep (by rw [j2 57 (by decide)]) (by rw [j2 57 (by decide)]) (by rw [j2 57 (by decide)]) (by rw [j2 57 (by decide)]) (fun k a c => j2 k (by omega))
                      have hnω : ω 58 0 = S ∧ ω 58 1 = X ∧ ω 58 2 = L ∧ ω 58 3 = P := by rw [j2 58 (by decide)]; exact hn0
                      refine g_iconst (pc' := 162) B dX12_odds_161 rfl ?_
                      refine g_istore (pc' := 164) B [(5, .int (iI 0)), (0, .ref (K.2.2 57)), (1, .int (iI f)), (2, .int (iI v)), (3, .int (iI n)), (4, .int (iI q))] dX12_odds_162 rfl (by decide) rfl ?_
                      refine g_iconst (pc' := 165) B dX12_odds_164 rfl ?_
                      refine g_istore (pc' := 167) B [(6, .int (iI 0)), (5, .int (iI 0)), (0, .ref (K.2.2 57)), (1, .int (iI f)), (2, .int (iI v)), (3, .int (iI n)), (4, .int (iI q))] dX12_odds_165 rfl (by decide) rfl ?_
                      have L167 : ∀ (nn : Nat) (s h : Int) , (n + 1 - h).toNat = nn → (0 ≤ h ∧ h ≤ n + 1) → (s = osm D f v X n q h.toNat) → G pP l eE (rmo 2 47) sS mM [.ref (K.2.2 57), .int (iI f), .int (iI v), .int (iI n), .int (iI q)].toArray bW mT cC 0 0 (MQ bW (Qi K (fun z τ => (∀ k, k ≠ 72 → τ k = σ k) ∧ z = qOdds D X f v n q)) [.ref (K.2.2 57), .int (iI f), .int (iI v), .int (iI n), .int (iI q)].toArray sS 0 0 (wA K)) K sS.heap 8 ω 167 [(6, .int (iI h)), (5, .int (iI s)), (0, .ref (K.2.2 57)), (1, .int (iI f)), (2, .int (iI v)), (3, .int (iI n)), (4, .int (iI q))] [] := by
                        intro nn
                        induction nn using Nat.strongRecOn with
                        | _ nn ih167 =>
                          intro s h hn167 g1 g2
                          refine g_iload (pc' := 169) B 0 rfl dX12_odds_167 rfl ?_
                          refine g_iload_n (pc' := 170) B 5 rfl rfl dX12_odds_169 rfl ?_
                          refine g_icmp_gt (pc' := 173) B 215 (by omega) (by omega) dX12_odds_170 (by decide) rfl (fun c170 => ?_) (fun c170 => ?_)
                          · refine g_iload (pc' := 217) B 1 rfl dX12_odds_215 rfl ?_
                            exact g_iret (z := s) B hrt rfl hlk dX12_odds_217 ⟨j2, by unfold qOdds; rw [if_pos h2, if_neg (by omega), if_neg (by omega), if_neg (by omega), g2, show h = n + 1 by omega]⟩
                          · refine g_iload (pc' := 175) B 1 rfl dX12_odds_173 rfl ?_
                            refine g_aload_n (pc' := 176) B 2 rfl rfl dX12_odds_175 rfl ?_
                            refine g_iload_n (pc' := 177) B 3 rfl rfl dX12_odds_176 rfl ?_
                            refine g_aload_n (pc' := 178) B 2 rfl rfl dX12_odds_177 rfl ?_
                            refine g_getR (pc' := 181) B 58 fl_X12_7 rfl rfl dX12_odds_178 rfl ?_
                            refine g_iconst (pc' := 182) B dX12_odds_181 rfl ?_
                            refine g_iald (pc' := 183) B X hnω.2.1 rfl (by omega) (by decide) dX12_odds_182 rfl ?_
                            refine g_iload_n (pc' := 184) B 5 rfl rfl dX12_odds_183 rfl ?_
                            refine g_iadd (pc' := 185) B dX12_odds_184 rfl ?_
                            refine g_iload (pc' := 187) B 0 rfl dX12_odds_185 rfl ?_
                            refine g_isub (pc' := 188) B dX12_odds_187 rfl ?_
                            refine g_callVI (pc' := 191) (As := [.int (iI f), .int (iI ((X + n) - h))]) B (c_X12_heightOf l K _ (D := D) (f := f) (x := (X + n) - h) hMω hF hR hO hH (by omega) (by omega)) vt_X12_heightOf tw_1115 rfl rfl ⟨by decide, by decide⟩ rfl (Nat.le_of_ble_eq_true rfl) ⟨Nat.zero_le _, Nat.zero_le _⟩ rfl dX12_odds_188 rfl (fun z188 τ188 h188 => ?_)
                            obtain ⟨rfl, rfl⟩ := h188
                            have hg9 := hgt_bd (f := f) (x := X + n - h) hF h2.1 h2.2
                            refine g_iload_n (pc' := 192) B 4 rfl rfl dX12_odds_191 rfl ?_
                            refine g_icmp_lt (pc' := 195) B 205 (by omega) (by omega) dX12_odds_192 (by decide) rfl (fun c192 => ?_) (fun c192 => ?_)
                            · refine g_iconst (pc' := 206) B dX12_odds_205 rfl ?_
                              refine g_iadd (pc' := 207) B dX12_odds_206 rfl ?_
                              refine g_istore (pc' := 209) B [(5, .int (iI (s + 0))), (6, .int (iI h)), (0, .ref (K.2.2 57)), (1, .int (iI f)), (2, .int (iI v)), (3, .int (iI n)), (4, .int (iI q))] dX12_odds_207 rfl (by decide) rfl ?_
                              refine g_iinc (pc' := 212) B 1 [(6, .int (iI (h + 1))), (5, .int (iI (s + 0))), (0, .ref (K.2.2 57)), (1, .int (iI f)), (2, .int (iI v)), (3, .int (iI n)), (4, .int (iI q))] dX12_odds_209 rfl rfl (by decide) rfl ?_
                              refine g_goto (pc' := 167) B dX12_odds_212 (by decide) ?_
                              exact ih167 _ (by omega) (s + 0) (h + 1) rfl (by omega) (by rw [osm_next (by omega), g2]; first | (rw [if_neg (by omega)]; done) | (rw [if_pos (by omega), j3 h (by omega) (by omega), show k = n by omega]))
                            · refine g_aload_n (pc' := 196) B 2 rfl rfl dX12_odds_195 rfl ?_
                              refine g_getR (pc' := 199) B 72 fl_X12_60 rfl rfl dX12_odds_196 rfl ?_
                              refine g_iload (pc' := 201) B 0 rfl dX12_odds_199 rfl ?_
                              refine g_iald (pc' := 202) B (ω 72 h) rfl rfl (by omega) (by decide) dX12_odds_201 rfl ?_
                              refine g_goto (pc' := 206) B dX12_odds_202 (by decide) ?_
                              refine g_iadd (pc' := 207) B dX12_odds_206 rfl ?_
                              refine g_istore (pc' := 209) B [(5, .int (iI (s + (ω 72 h)))), (6, .int (iI h)), (0, .ref (K.2.2 57)), (1, .int (iI f)), (2, .int (iI v)), (3, .int (iI n)), (4, .int (iI q))] dX12_odds_207 rfl (by decide) rfl ?_
                              refine g_iinc (pc' := 212) B 1 [(6, .int (iI (h + 1))), (5, .int (iI (s + (ω 72 h)))), (0, .ref (K.2.2 57)), (1, .int (iI f)), (2, .int (iI v)), (3, .int (iI n)), (4, .int (iI q))] dX12_odds_209 rfl rfl (by decide) rfl ?_
                              refine g_goto (pc' := 167) B dX12_odds_212 (by decide) ?_
                              exact ih167 _ (by omega) (s + (ω 72 h)) (h + 1) rfl (by omega) (by rw [osm_next (by omega), g2]; first | (rw [if_neg (by omega)]; done) | (rw [if_pos (by omega), j3 h (by omega) (by omega), show k = n by omega]))
                      exact L167 _ 0 0 rfl (by omega) (by rfl)
                    · refine g_iload (pc' := 97) B 0 rfl dX12_odds_95 rfl ?_
                      refine g_istore (pc' := 99) B [(6, .int (iI k)), (5, .int (iI k)), (0, .ref (K.2.2 57)), (1, .int (iI f)), (2, .int (iI v)), (3, .int (iI n)), (4, .int (iI q))] dX12_odds_97 rfl (by decide) rfl ?_
                      have L99 : ∀ (nn : Nat) (ψ : SG) (h : Int) , (h + 1).toNat = nn → (-1 ≤ h ∧ h ≤ k) → (∀ k, k ≠ 72 → ψ k = σ k) → (∀ y : Int, 0 ≤ y → y ≤ h → ψ 72 y = sh q k.toNat y) → (ψ 72 (h + 1) = sh q k.toNat (h + 1) - sh q k.toNat (h + 1) * q / 100) → (∀ y : Int, h + 1 < y → y < 22 → ψ 72 y = sh q (k + 1).toNat y) → G pP l eE (rmo 2 47) sS mM [.ref (K.2.2 57), .int (iI f), .int (iI v), .int (iI n), .int (iI q)].toArray bW mT cC 0 0 (MQ bW (Qi K (fun z τ => (∀ k, k ≠ 72 → τ k = σ k) ∧ z = qOdds D X f v n q)) [.ref (K.2.2 57), .int (iI f), .int (iI v), .int (iI n), .int (iI q)].toArray sS 0 0 (wA K)) K sS.heap 8 ψ 99 [(6, .int (iI h)), (5, .int (iI k)), (0, .ref (K.2.2 57)), (1, .int (iI f)), (2, .int (iI v)), (3, .int (iI n)), (4, .int (iI q))] [] := by
                        intro nn
                        induction nn using Nat.strongRecOn with
                        | _ nn ih99 =>
                          intro ψ h hn99 h1 h2a h3 h4 h5
                          refine g_iload (pc' := 101) B 0 rfl dX12_odds_99 rfl ?_
                          refine g_if_lt (pc' := 104) B 155 (by omega) dX12_odds_101 (by decide) rfl (fun c101 => ?_) (fun c101 => ?_)
                          · refine g_iinc (pc' := 158) B 1 [(5, .int (iI (k + 1))), (6, .int (iI h)), (0, .ref (K.2.2 57)), (1, .int (iI f)), (2, .int (iI v)), (3, .int (iI n)), (4, .int (iI q))] dX12_odds_155 rfl rfl (by decide) rfl ?_
                            refine g_goto (pc' := 89) B dX12_odds_158 (by decide) ?_
                            refine g_loc B [(5, .int (iI (k + 1))), (0, .ref (K.2.2 57)), (1, .int (iI f)), (2, .int (iI v)), (3, .int (iI n)), (4, .int (iI q))] [0, 2, 3, 4, 5, 6] rfl ?_
                            exact ih89 _ (by omega) ψ (k + 1) rfl (by omega) (by exact h2a) (by intro y a b; by_cases e9 : y = 0; (subst e9; have q9 := h4; rw [show h + 1 = 0 by omega] at q9; rw [q9, sh_next (i := k + 1) (by omega), show k + 1 - 1 = k by omega, sh_out q k.toNat (0 - 1) (by omega)]; simp); exact h5 y (by omega) b)
                          · have hv9 := sh_le h42 k.toNat h
                            have hm1 : 0 ≤ sh q k.toNat h * q := Int.mul_nonneg hv9.1 h42.1
                            have hm2 : sh q k.toNat h * q ≤ sh q k.toNat h * 100 := Int.mul_le_mul_of_nonneg_left h42.2 hv9.1
                            refine g_aload_n (pc' := 105) B 2 rfl rfl dX12_odds_104 rfl ?_
                            refine g_getR (pc' := 108) B 72 fl_X12_60 rfl rfl dX12_odds_105 rfl ?_
                            refine g_iload (pc' := 110) B 0 rfl dX12_odds_108 rfl ?_
                            refine g_iald (pc' := 111) B (sh q k.toNat h) (h3 _ (by omega) (by omega)) rfl (by omega) (by decide) dX12_odds_110 rfl ?_
                            refine g_i2l (pc' := 112) B (by omega) dX12_odds_111 rfl ?_
                            refine g_iload (pc' := 114) B 6 rfl dX12_odds_112 rfl ?_
                            refine g_i2l (pc' := 115) B (by omega) dX12_odds_114 rfl ?_
                            refine g_lmul (pc' := 116) B dX12_odds_115 rfl ?_
                            refine g_ldc2 (z := 100) (pc' := 119) B tw_1337 (by decide +kernel) dX12_odds_116 rfl ?_
                            refine g_ldiv (pc' := 120) B (by omega) (by omega) dX12_odds_119 rfl ?_
                            refine g_l2i (pc' := 121) B dX12_odds_120 rfl ?_
                            refine g_istore (pc' := 123) B [(7, .int (iI (((sh q k.toNat h) * q) / 100))), (6, .int (iI h)), (5, .int (iI k)), (0, .ref (K.2.2 57)), (1, .int (iI f)), (2, .int (iI v)), (3, .int (iI n)), (4, .int (iI q))] dX12_odds_121 rfl (by decide) rfl ?_
                            refine g_aload_n (pc' := 124) B 3 rfl rfl dX12_odds_123 rfl ?_
                            refine g_getR (pc' := 127) B 72 fl_X12_60 rfl rfl dX12_odds_124 rfl ?_
                            refine g_iload (pc' := 129) B 1 rfl dX12_odds_127 rfl ?_
                            refine g_iconst (pc' := 130) B dX12_odds_129 rfl ?_
                            refine g_iadd (pc' := 131) B dX12_odds_130 rfl ?_
                            refine g_dup2 (pc' := 132) B rfl rfl dX12_odds_131 rfl ?_
                            refine g_iald (pc' := 133) B (sh q k.toNat (h + 1) - sh q k.toNat (h + 1) * q / 100) h4 rfl (by omega) (by decide) dX12_odds_132 rfl ?_
                            refine g_iload (pc' := 135) B 0 rfl dX12_odds_133 rfl ?_
                            refine g_iadd (pc' := 136) B dX12_odds_135 rfl ?_
                            refine g_iast (pc' := 137) B rfl (by omega) (by decide) dX12_odds_136 rfl ?_
                            refine g_aload_n (pc' := 138) B 3 rfl rfl dX12_odds_137 rfl ?_
                            refine g_getR (pc' := 141) B 72 fl_X12_60 rfl rfl dX12_odds_138 rfl ?_
                            refine g_iload (pc' := 143) B 1 rfl dX12_odds_141 rfl ?_
                            refine g_dup2 (pc' := 144) B rfl rfl dX12_odds_143 rfl ?_
                            refine g_iald (pc' := 145) B (sh q k.toNat h) (by rw [up_col (by omega)]; exact h3 _ (by omega) (by omega)) rfl (by omega) (by decide) dX12_odds_144 rfl ?_
                            refine g_iload (pc' := 147) B 0 rfl dX12_odds_145 rfl ?_
                            refine g_isub (pc' := 148) B dX12_odds_147 rfl ?_
                            refine g_iast (pc' := 149) B rfl (by omega) (by decide) dX12_odds_148 rfl ?_
                            refine g_iinc (pc' := 152) B 1 [(6, .int (iI (h + (-1)))), (7, .int (iI (((sh q k.toNat h) * q) / 100))), (5, .int (iI k)), (0, .ref (K.2.2 57)), (1, .int (iI f)), (2, .int (iI v)), (3, .int (iI n)), (4, .int (iI q))] dX12_odds_149 rfl rfl (by decide) rfl ?_
                            refine g_goto (pc' := 99) B dX12_odds_152 (by decide) ?_
                            refine g_loc B [(6, .int (iI (h + (-1)))), (5, .int (iI k)), (0, .ref (K.2.2 57)), (1, .int (iI f)), (2, .int (iI v)), (3, .int (iI n)), (4, .int (iI q))] [0, 2, 3, 4, 5, 6, 7] rfl ?_
                            exact ih99 _ (by omega) (up (up ψ 72 (h + 1) ((sh q k.toNat (h + 1) - sh q k.toNat (h + 1) * q / 100) + (((sh q k.toNat h) * q) / 100))) 72 h ((sh q k.toNat h) - (((sh q k.toNat h) * q) / 100))) (h + (-1)) rfl (by omega) (by intro k a; rw [up_row a, up_row a]; exact h2a k a) (by intro y a b; rw [up_col (by omega), up_col (by omega)]; exact h3 y a (by omega)) (by rw [show h + (-1) + 1 = h by omega, up_same]) (by intro y a b; rw [up_col (by omega)]; by_cases e9 : y = h + 1; (subst e9; rw [up_same, sh_next (i := k + 1) (by omega), show k + 1 - 1 = k by omega, show h + 1 - 1 = h by omega]); (rw [up_col e9]; exact h5 y (by omega) b))
                      exact L99 _ ω k rfl (by omega) (by exact j2) (by intro y a b; exact j3 y a (by omega)) (by rw [j3 _ (by omega) (by omega), sh_out q k.toNat (k + 1) (by omega)]; simp) (by intro y a b; rw [j3 _ (by omega) b, sh_out q k.toNat y (by omega), sh_out q (k + 1).toNat y (by omega)])
                exact L89 _ ρ 0 rfl (by omega) (by exact i2) (by intro h a b; exact i3 h a (by omega))
              · refine g_aload_n (pc' := 62) B 1 rfl rfl dX12_odds_61 rfl ?_
                refine g_getR (pc' := 65) B 72 fl_X12_60 rfl rfl dX12_odds_62 rfl ?_
                refine g_iload (pc' := 67) B 0 rfl dX12_odds_65 rfl ?_
                refine g_iload (pc' := 69) B 0 rfl dX12_odds_67 rfl ?_
                refine g_if_ne (pc' := 72) B 78 (by omega) dX12_odds_69 (by decide) rfl (fun c69 => ?_) (fun c69 => ?_)
                · refine g_iconst (pc' := 79) B dX12_odds_78 rfl ?_
                  refine g_iast (pc' := 80) B rfl (by omega) (by decide) dX12_odds_79 rfl ?_
                  refine g_iinc (pc' := 83) B 0 [(5, .int (iI (y + 1))), (0, .ref (K.2.2 57)), (1, .int (iI f)), (2, .int (iI v)), (3, .int (iI n)), (4, .int (iI q))] dX12_odds_80 rfl rfl (by decide) rfl ?_
                  refine g_goto (pc' := 54) B dX12_odds_83 (by decide) ?_
                  exact ih54 _ (by omega) (up ρ 72 y 0) (y + 1) rfl (by omega) (by intro k a; rw [up_row a]; exact i2 k a) (by intro h a b; by_cases e9 : h = y; (subst e9; rw [up_same]; first | (rw [if_pos c69]) | (rw [if_neg c69])); (rw [up_col e9]; exact i3 h a (by omega)))
                · refine g_ldcw (z := 1000000000) (pc' := 75) B tw_1338 (by decide +kernel) dX12_odds_72 rfl ?_
                  refine g_goto (pc' := 79) B dX12_odds_75 (by decide) ?_
                  refine g_iast (pc' := 80) B rfl (by omega) (by decide) dX12_odds_79 rfl ?_
                  refine g_iinc (pc' := 83) B 0 [(5, .int (iI (y + 1))), (0, .ref (K.2.2 57)), (1, .int (iI f)), (2, .int (iI v)), (3, .int (iI n)), (4, .int (iI q))] dX12_odds_80 rfl rfl (by decide) rfl ?_
                  refine g_goto (pc' := 54) B dX12_odds_83 (by decide) ?_
                  exact ih54 _ (by omega) (up ρ 72 y 1000000000) (y + 1) rfl (by omega) (by intro k a; rw [up_row a]; exact i2 k a) (by intro h a b; by_cases e9 : h = y; (subst e9; rw [up_same]; first | (rw [if_pos c69]) | (rw [if_neg c69])); (rw [up_col e9]; exact i3 h a (by omega)))
          exact L54 _ σ 0 rfl (by omega) (by intro k a; rfl) (by intro h a b; omega)
        · refine g_if_ne (pc' := 48) B 51 (by omega) dX12_odds_45 (by decide) rfl (fun q => absurd q (by decide)) (fun _ => ?_)
          refine g_ldc (z := (-1000000002)) (pc' := 50) B tw_1044 (by decide +kernel) dX12_odds_48 rfl ?_
          exact g_iret (z := (-1000000002)) B hrt rfl hlk dX12_odds_50 ⟨fun k _ => rfl, by unfold qOdds; (repeat' split) <;> first | rfl | (exfalso; omega)⟩
      · refine g_if_eq (pc' := 35) B 48 (by omega) dX12_odds_32 (by decide) rfl (fun _ => ?_) (fun q => absurd q (by decide))
        refine g_ldc (z := (-1000000002)) (pc' := 50) B tw_1044 (by decide +kernel) dX12_odds_48 rfl ?_
        exact g_iret (z := (-1000000002)) B hrt rfl hlk dX12_odds_50 ⟨fun k _ => rfl, by unfold qOdds; (repeat' split) <;> first | rfl | (exfalso; omega)⟩
    · refine g_if_eq (pc' := 23) B 48 (by omega) dX12_odds_20 (by decide) rfl (fun _ => ?_) (fun q => absurd q (by decide))
      refine g_ldc (z := (-1000000002)) (pc' := 50) B tw_1044 (by decide +kernel) dX12_odds_48 rfl ?_
      exact g_iret (z := (-1000000002)) B hrt rfl hlk dX12_odds_50 ⟨fun k _ => rfl, by unfold qOdds; (repeat' split) <;> first | rfl | (exfalso; omega)⟩
  · refine g_if_ne (pc' := 8) B 11 (by omega) dX12_odds_5 (by decide) rfl (fun q => absurd q (by decide)) (fun _ => ?_)
    refine g_ldc (z := (-1000000001)) (pc' := 10) B tw_1133 (by decide +kernel) dX12_odds_8 rfl ?_
    exact g_iret (z := (-1000000001)) B hrt rfl hlk dX12_odds_10 ⟨fun k _ => rfl, by unfold qOdds; rw [if_neg h2]⟩
set_option maxRecDepth 100000 in
set_option maxHeartbeats 4000000 in
theorem c_X12_judge (l : Launch) (K : WK) (σ : SG) {D : SG} (hM : mD σ D) (hF : okF D) (hR : okR D) (hO : okQ D) (hH : okH D) {S X L P : Int} (hn0 : σ 58 0 = S ∧ σ 58 1 = X ∧ σ 58 2 = L ∧ σ 58 3 = P) (hSX : 0 ≤ X ∧ X ≤ S ∧ S ≤ 70000) {bn : Int} {wy : Int → Int} (hB : mbD σ bn wy) (hLr : D 9 0 ≠ 0 → 0 ≤ L ∧ L < D 9 0) {w : Int} (hw : -2147483648 ≤ w ∧ w < 2147483648) : MI l yX12_judge cX12_judge 6 (some .int) 3 73 K σ [.ref (K.2.2 57), .int (iI w)] (fun z τ => σ = τ ∧ (((w < 0 ∨ 1 < w) ∧ z = -1000000002) ∨ (¬ (w < 0 ∨ 1 < w) ∧ D 9 0 = 0 ∧ z = -1000000003) ∨ (¬ (w < 0 ∨ 1 < w) ∧ D 9 0 ≠ 0 ∧ ∃ y : Int, isW (fun k => ¬ can D (bpos L wy k.toNat) (S + k + 1) (wy k)) bn y ∧ z = if w = 0 then y else bpl D X L wy (if y = -1 then bn else y).toNat))) := by
  refine met_of [(0, .ref (K.2.2 57)), (1, .int (iI w))] (by decide +kernel) (Nat.le_of_ble_eq_true rfl) rfl ?_
  intro pP eE sS mM bW mT cC B hrt hlk
  replace B : CB pP sS mM [.ref (K.2.2 57), .int (iI w)].toArray cC cX12_judge RX12 6 K := B
  obtain ⟨hF0, hF1⟩ := id hF
  obtain ⟨hO0, hO1⟩ := id hO
  obtain ⟨hH0, hH1⟩ := id hH
  obtain ⟨hR0, hR1⟩ := id hR
  have hB2 := hB.2.1
  refine g_iload_n (pc' := 1) B 1 rfl rfl dX12_judge_0 rfl ?_
  refine g_i2l (pc' := 2) B (by omega) dX12_judge_1 rfl ?_
  refine g_lconst (z := 0) (pc' := 3) B (by decide +kernel) dX12_judge_2 rfl ?_
  refine g_lconst (z := 1) (pc' := 4) B (by decide +kernel) dX12_judge_3 rfl ?_
  refine g_callSI (pc' := 7) (As := [.long (lI w), .long (lI 0), .long (lI 1)]) B (c_X12_in l K _ (v := w) (a := 0) (b := 1) (by omega) (by omega) (by omega)) st_X12_in tw_1041 ⟨by decide, by decide⟩ rfl (Nat.le_of_ble_eq_true rfl) ⟨Nat.zero_le _, Nat.zero_le _⟩ rfl dX12_judge_4 rfl (fun z4 τ4 h4 => ?_)
  obtain ⟨rfl, h4⟩ := h4
  rcases h4 with ⟨h4, rfl⟩ | ⟨h4, rfl⟩
  · refine g_if_ne (pc' := 10) B 13 (by omega) dX12_judge_7 (by decide) rfl (fun _ => ?_) (fun q => absurd q (by decide))
    refine g_aload_n (pc' := 14) B 0 rfl rfl dX12_judge_13 rfl ?_
    refine g_get (pc' := 17) B (D 9 0) hM.1 fl_X12_131 rfl rfl dX12_judge_14 rfl ?_
    refine g_if_ne (pc' := 20) B 23 (by omega) dX12_judge_17 (by decide) rfl (fun c17 => ?_) (fun c17 => ?_)
    · refine g_aload_n (pc' := 24) B 0 rfl rfl dX12_judge_23 rfl ?_
      refine g_getR (pc' := 27) B 58 fl_X12_7 rfl rfl dX12_judge_24 rfl ?_
      refine g_iconst (pc' := 28) B dX12_judge_27 rfl ?_
      refine g_iald (pc' := 29) B L hn0.2.2.1 rfl (by omega) (by decide) dX12_judge_28 rfl ?_
      refine g_istore_n (pc' := 30) B [(2, .int (iI L)), (0, .ref (K.2.2 57)), (1, .int (iI w))] dX12_judge_29 rfl rfl (by decide) rfl ?_
      refine g_iconst (pc' := 31) B dX12_judge_30 rfl ?_
      refine g_istore_n (pc' := 32) B [(3, .int (iI 0)), (2, .int (iI L)), (0, .ref (K.2.2 57)), (1, .int (iI w))] dX12_judge_31 rfl rfl (by decide) rfl ?_
      refine g_iconst (pc' := 33) B dX12_judge_32 rfl ?_
      refine g_istore (pc' := 35) B [(4, .int (iI 0)), (3, .int (iI 0)), (2, .int (iI L)), (0, .ref (K.2.2 57)), (1, .int (iI w))] dX12_judge_33 rfl (by decide) rfl ?_
      have L35 : ∀ (nn : Nat) (f s k : Int) , (bn - k).toNat = nn → (0 ≤ k ∧ k ≤ bn) → (f = bpos L wy k.toNat ∧ s = bpl D X L wy k.toNat) → (0 ≤ f ∧ f < D 9 0) → (∀ y : Int, 0 ≤ y → y < k → can D (bpos L wy y.toNat) (S + y + 1) (wy y)) → G pP l eE (rmo 3 73) sS mM [.ref (K.2.2 57), .int (iI w)].toArray bW mT cC 0 0 (MQ bW (Qi K (fun z τ => σ = τ ∧ (((w < 0 ∨ 1 < w) ∧ z = -1000000002) ∨ (¬ (w < 0 ∨ 1 < w) ∧ D 9 0 = 0 ∧ z = -1000000003) ∨ (¬ (w < 0 ∨ 1 < w) ∧ D 9 0 ≠ 0 ∧ ∃ y : Int, isW (fun k => ¬ can D (bpos L wy k.toNat) (S + k + 1) (wy k)) bn y ∧ z = if w = 0 then y else bpl D X L wy (if y = -1 then bn else y).toNat)))) [.ref (K.2.2 57), .int (iI w)].toArray sS 0 0 (wA K)) K sS.heap 6 σ 35 [(4, .int (iI k)), (3, .int (iI s)), (2, .int (iI f)), (0, .ref (K.2.2 57)), (1, .int (iI w))] [] := by
        intro nn
        induction nn using Nat.strongRecOn with
        | _ nn ih35 =>
          intro f s k hn35 i1 i2 i3 i4
          refine g_iload (pc' := 37) B 0 rfl dX12_judge_35 rfl ?_
          refine g_aload_n (pc' := 38) B 3 rfl rfl dX12_judge_37 rfl ?_
          refine g_get (pc' := 41) B bn hB.1 fl_X12_146 rfl rfl dX12_judge_38 rfl ?_
          refine g_icmp_ge (pc' := 44) B 115 (by omega) (by omega) dX12_judge_41 (by decide) rfl (fun c41 => ?_) (fun c41 => ?_)
          · refine g_iload_n (pc' := 116) B 4 rfl rfl dX12_judge_115 rfl ?_
            refine g_if_ne (pc' := 119) B 123 (by omega) dX12_judge_116 (by decide) rfl (fun c116 => ?_) (fun c116 => ?_)
            · refine g_iload_n (pc' := 124) B 1 rfl rfl dX12_judge_123 rfl ?_
              exact g_iret (z := s) B hrt rfl hlk dX12_judge_124 ⟨rfl, Or.inr (Or.inr ⟨by omega, c17, -1, Or.inr ⟨rfl, fun y a b q9 => q9 (i4 y a (by omega))⟩, by first | (rw [if_pos (by omega)]; done) | (rw [if_neg (by omega), if_pos rfl, i2.2, show k = bn by omega])⟩)⟩
            · refine g_iconst (pc' := 120) B dX12_judge_119 rfl ?_
              refine g_goto (pc' := 124) B dX12_judge_120 (by decide) ?_
              exact g_iret (z := (-1)) B hrt rfl hlk dX12_judge_124 ⟨rfl, Or.inr (Or.inr ⟨by omega, c17, -1, Or.inr ⟨rfl, fun y a b q9 => q9 (i4 y a (by omega))⟩, by first | (rw [if_pos (by omega)]; done) | (rw [if_neg (by omega), if_pos rfl, i2.2, show k = bn by omega])⟩)⟩
          · have hk9 := hB.2.2 k (by omega) (by omega)
            refine g_aload_n (pc' := 45) B 3 rfl rfl dX12_judge_44 rfl ?_
            refine g_iload_n (pc' := 46) B 2 rfl rfl dX12_judge_45 rfl ?_
            refine g_aload_n (pc' := 47) B 3 rfl rfl dX12_judge_46 rfl ?_
            refine g_getR (pc' := 50) B 73 fl_X12_63 rfl rfl dX12_judge_47 rfl ?_
            refine g_iload (pc' := 52) B 0 rfl dX12_judge_50 rfl ?_
            refine g_iald (pc' := 53) B (wy k) (hB.2.2 k (by omega) (by omega)).1 rfl (by omega) (by decide) dX12_judge_52 rfl ?_
            refine g_aload_n (pc' := 54) B 3 rfl rfl dX12_judge_53 rfl ?_
            refine g_getR (pc' := 57) B 58 fl_X12_7 rfl rfl dX12_judge_54 rfl ?_
            refine g_iconst (pc' := 58) B dX12_judge_57 rfl ?_
            refine g_iald (pc' := 59) B S hn0.1 rfl (by omega) (by decide) dX12_judge_58 rfl ?_
            refine g_iload (pc' := 61) B 0 rfl dX12_judge_59 rfl ?_
            refine g_iadd (pc' := 62) B dX12_judge_61 rfl ?_
            refine g_iconst (pc' := 63) B dX12_judge_62 rfl ?_
            refine g_iadd (pc' := 64) B dX12_judge_63 rfl ?_
            refine g_callVI (pc' := 67) (As := [.int (iI f), .int (iI (wy k)), .int (iI ((S + k) + 1))]) B (c_X12_to l K _ (D := D) (f := f) (w := wy k) (t := (S + k) + 1) hM hF hR hO hH (by omega) (by omega) (by omega)) vt_X12_to tw_1175 rfl rfl ⟨by decide, by decide⟩ rfl (Nat.le_of_ble_eq_true rfl) ⟨Nat.zero_le _, Nat.zero_le _⟩ rfl dX12_judge_64 rfl (fun z64 τ64 h64 => ?_)
            obtain ⟨rfl, rfl⟩ := h64
            refine g_istore (pc' := 69) B [(5, .int (iI (tow D f ((S + k) + 1) (wy k)))), (4, .int (iI k)), (3, .int (iI s)), (2, .int (iI f)), (0, .ref (K.2.2 57)), (1, .int (iI w))] dX12_judge_67 rfl (by decide) rfl ?_
            have htb := tow_bd (D := D) (f := f) (t := S + k + 1) (w := wy k)
            refine g_iload (pc' := 71) B 0 rfl dX12_judge_69 rfl ?_
            refine g_if_ge (pc' := 74) B 85 (by omega) dX12_judge_71 (by decide) rfl (fun c71 => ?_) (fun c71 => ?_)
            · have hc9 := tow_ge (D := D) (f := f) (t := S + k + 1) (w := wy k) (by omega)
              have ht9 := tow_pos hc9
              have hd9 := hc9.2.1
              refine g_iload_n (pc' := 86) B 2 rfl rfl dX12_judge_85 rfl ?_
              refine g_aload_n (pc' := 87) B 4 rfl rfl dX12_judge_86 rfl ?_
              refine g_iload_n (pc' := 88) B 3 rfl rfl dX12_judge_87 rfl ?_
              refine g_iload (pc' := 90) B 0 rfl dX12_judge_88 rfl ?_
              refine g_aload_n (pc' := 91) B 4 rfl rfl dX12_judge_90 rfl ?_
              refine g_getR (pc' := 94) B 58 fl_X12_7 rfl rfl dX12_judge_91 rfl ?_
              refine g_iconst (pc' := 95) B dX12_judge_94 rfl ?_
              refine g_iald (pc' := 96) B X hn0.2.1 rfl (by omega) (by decide) dX12_judge_95 rfl ?_
              refine g_iload (pc' := 98) B 1 rfl dX12_judge_96 rfl ?_
              refine g_iadd (pc' := 99) B dX12_judge_98 rfl ?_
              refine g_iconst (pc' := 100) B dX12_judge_99 rfl ?_
              refine g_iadd (pc' := 101) B dX12_judge_100 rfl ?_
              refine g_callVI (pc' := 104) (As := [.int (iI f), .int (iI (tow D f ((S + k) + 1) (wy k))), .int (iI ((X + k) + 1))]) B (c_X12_pulledBy l K _ (D := D) (f := f) (d := tow D f ((S + k) + 1) (wy k)) (x := (X + k) + 1) hM hF hR hO hH (by omega) (by rw [ht9]; exact hd9) (by omega)) vt_X12_pulledBy tw_1184 rfl rfl ⟨by decide, by decide⟩ rfl (Nat.le_of_ble_eq_true rfl) ⟨Nat.zero_le _, Nat.zero_le _⟩ rfl dX12_judge_101 rfl (fun z101 τ101 h101 => ?_)
              obtain ⟨rfl, rfl⟩ := h101
              refine g_iadd (pc' := 105) B dX12_judge_104 rfl ?_
              refine g_istore_n (pc' := 106) B [(3, .int (iI (s + (max 0 (hgt D (tow D f ((S + k) + 1) (wy k)) ((X + k) + 1) - hgt D f ((X + k) + 1)))))), (5, .int (iI (tow D f ((S + k) + 1) (wy k)))), (4, .int (iI k)), (2, .int (iI f)), (0, .ref (K.2.2 57)), (1, .int (iI w))] dX12_judge_105 rfl rfl (by decide) rfl ?_
              refine g_iload (pc' := 108) B 1 rfl dX12_judge_106 rfl ?_
              refine g_istore_n (pc' := 109) B [(2, .int (iI (tow D f ((S + k) + 1) (wy k)))), (3, .int (iI (s + (max 0 (hgt D (tow D f ((S + k) + 1) (wy k)) ((X + k) + 1) - hgt D f ((X + k) + 1)))))), (5, .int (iI (tow D f ((S + k) + 1) (wy k)))), (4, .int (iI k)), (0, .ref (K.2.2 57)), (1, .int (iI w))] dX12_judge_108 rfl rfl (by decide) rfl ?_
              refine g_iinc (pc' := 112) B 3 [(4, .int (iI (k + 1))), (2, .int (iI (tow D f ((S + k) + 1) (wy k)))), (3, .int (iI (s + (max 0 (hgt D (tow D f ((S + k) + 1) (wy k)) ((X + k) + 1) - hgt D f ((X + k) + 1)))))), (5, .int (iI (tow D f ((S + k) + 1) (wy k)))), (0, .ref (K.2.2 57)), (1, .int (iI w))] dX12_judge_109 rfl rfl (by decide) rfl ?_
              refine g_goto (pc' := 35) B dX12_judge_112 (by decide) ?_
              refine g_loc B [(4, .int (iI (k + 1))), (3, .int (iI (s + (max 0 (hgt D (tow D f ((S + k) + 1) (wy k)) ((X + k) + 1) - hgt D f ((X + k) + 1)))))), (2, .int (iI (tow D f ((S + k) + 1) (wy k)))), (0, .ref (K.2.2 57)), (1, .int (iI w))] [0, 2, 1, 4, 5] rfl ?_
              exact ih35 _ (by omega) (tow D f ((S + k) + 1) (wy k)) (s + (max 0 (hgt D (tow D f ((S + k) + 1) (wy k)) ((X + k) + 1) - hgt D f ((X + k) + 1)))) (k + 1) rfl (by omega) (by rw [bpos_next (by omega), bpl_next (by omega), ← i2.1, ← i2.2, ht9]; exact ⟨rfl, rfl⟩) (by rw [ht9]; exact hc9.2.1) (by intro y a b; by_cases e9 : y = k; (subst e9; rw [← i2.1]; exact hc9); exact i4 y a (by omega))
            · refine g_iload_n (pc' := 75) B 5 rfl rfl dX12_judge_74 rfl ?_
              refine g_if_ne (pc' := 78) B 83 (by omega) dX12_judge_75 (by decide) rfl (fun c75 => ?_) (fun c75 => ?_)
              · refine g_iload_n (pc' := 84) B 2 rfl rfl dX12_judge_83 rfl ?_
                exact g_iret (z := s) B hrt rfl hlk dX12_judge_84 ⟨rfl, Or.inr (Or.inr ⟨by omega, c17, k, Or.inl ⟨by omega, by omega, by show ¬ can D (bpos L wy k.toNat) (S + k + 1) (wy k); rw [← i2.1]; exact tow_lt c71, fun y a b q9 => q9 (i4 y a b)⟩, by first | (rw [if_pos (by omega)]; done) | (rw [if_neg (by omega), if_neg (by omega), i2.2])⟩)⟩
              · refine g_iload (pc' := 80) B 1 rfl dX12_judge_78 rfl ?_
                refine g_goto (pc' := 84) B dX12_judge_80 (by decide) ?_
                exact g_iret (z := k) B hrt rfl hlk dX12_judge_84 ⟨rfl, Or.inr (Or.inr ⟨by omega, c17, k, Or.inl ⟨by omega, by omega, by show ¬ can D (bpos L wy k.toNat) (S + k + 1) (wy k); rw [← i2.1]; exact tow_lt c71, fun y a b q9 => q9 (i4 y a b)⟩, by first | (rw [if_pos (by omega)]; done) | (rw [if_neg (by omega), if_neg (by omega), i2.2])⟩)⟩
      exact L35 _ L 0 0 rfl (by omega) (by exact ⟨rfl, rfl⟩) (by exact hLr c17) (by intro y a b; omega)
    · refine g_ldc (z := (-1000000003)) (pc' := 22) B tw_1179 (by decide +kernel) dX12_judge_20 rfl ?_
      exact g_iret (z := (-1000000003)) B hrt rfl hlk dX12_judge_22 ⟨rfl, Or.inr (Or.inl ⟨by omega, by omega, rfl⟩)⟩
  · refine g_if_ne (pc' := 10) B 13 (by omega) dX12_judge_7 (by decide) rfl (fun q => absurd q (by decide)) (fun _ => ?_)
    refine g_ldc (z := (-1000000002)) (pc' := 12) B tw_1044 (by decide +kernel) dX12_judge_10 rfl ?_
    exact g_iret (z := (-1000000002)) B hrt rfl hlk dX12_judge_12 ⟨rfl, Or.inl ⟨by omega, rfl⟩⟩
