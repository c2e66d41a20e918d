def cpR (σ : SG) (k0 k1 : Nat) (n : Int) : SG := fun k j => if k = k1 ∧ 0 ≤ j ∧ j < n then σ k0 j else σ k j
theorem cpR_row {σ : SG} {k0 k1 k : Nat} {n : Int} (h : k ≠ k1) : cpR σ k0 k1 n k = σ k := by funext j; simp [cpR, h]
theorem cpR_in {σ : SG} {k0 k1 : Nat} {n j : Int} (h0 : 0 ≤ j) (h1 : j < n) : cpR σ k0 k1 n k1 j = σ k0 j := by simp [cpR, h0, h1]
theorem g_acopy {p : Program} {l : Launch} {e : Env} {R : Room} {s : State} {m : MethodId} {args : Array Value} {below : List Frame} {meth : Method} {c : Code} {cells slots : Nat} {Q : State → Prop} {K : WK} {H0 : Heap} {nL : Nat} {σ : SG} {pc pc' : Nat} {lv : List (Nat × Value)} {st : List Value} {cc : ByteArray} {own : String} (B : CB p s m args c cc own nL K)
    {k0 k1 n0 n1 idx : Nat} {n : Int} (hw : Cond.methodLink own idx arraycopyName ∈ lw_tbl) (hy0 : layL[k0]? = some (.inl (0, n0))) (hy1 : layL[k1]? = some (.inl (0, n1))) (h : 0 ≤ n ∧ n ≤ n0 ∧ n ≤ n1 ∧ n < 2147483648) (hfr : 1 ≤ R.frames) (hlo : (st.map fun v => v.category).sum + 18 ≤ R.locals) (hd : decode cc pc = .ok (.invokestatic idx, 3)) (hp : pc + 3 = pc')
    (kk : G p l e R s m args below meth c cells slots Q K H0 nL (cpR σ k0 k1 n) pc' lv st) : G p l e R s m args below meth c cells slots Q K H0 nL σ pc lv (.int (iI n) :: .int (iI 0) :: .ref (K.2.2 k1) :: .int (iI 0) :: .ref (K.2.2 k0) :: st) := by
  subst hp
  intro H locs ls hW hS hl
  have hn : ((iI n).toNatClampNeg : Int) = n := iI_nat (by omega)
  have h0 : (iI 0).toNatClampNeg = 0 := rfl
  have hng : ¬ iI n < 0 := fun q => by
    have := (iI_lt (a := n) (b := 0) (by omega) (by omega)).mp q
    omega
  refine va_copyi (ty := .int) B.1.1 B.1.2.1 (by rw [hl.1]; exact B.1.2.2.1) B.1.2.2.2.1 (B.1.2.2.2.2 _ (inb hw rfl)) (B.1.2.2.2.2 _ (inb tw_917 rfl)) (B.1.2.2.2.2 _ (inb tw_916 rfl)) (B.1.2.2.2.2 _ (inb tw_16 rfl)) B.2.1 hW (wl_D σ B.2) hS k0 k1 0 0 (wl_get hy0) (wl_get hy1) rfl rfl rfl (by decide) (by decide) hng (by rw [h0]; omega) (by rw [h0]; omega) (fun i _ => rfl) hfr hlo hd (fun H1 locs1 hP1 _ hS1 => ?_)
  have e1 : va_cpy (fun j : Nat => iI (σ k0 j)) (fun j : Nat => iI (σ k1 j)) (iI 0).toNatClampNeg (iI 0).toNatClampNeg (iI n).toNatClampNeg = fun (j : Nat) => iI (cpR σ k0 k1 n k1 j) := by
    funext j
    unfold va_cpy cpR
    rw [h0]
    by_cases q : (j : Int) < n
    · rw [if_pos (by omega), if_pos (by omega)]
      congr 2
      omega
    · rw [if_neg (by omega), if_neg (by omega)]
  rw [e1] at hP1
  have hP2 : va_P K.1 vwCl ((wl K σ).set k1 (K.2.2 k1, cellOf K (cpR σ k0 k1 n) k1 (.inl (0, n1)))) H1 := hP1
  rw [wl_set (K := K) (σ := σ) (τ := cpR σ k0 k1 n) hy1 (fun j' h' => cpR_row h') rfl] at hP2
  exact kk H1 locs1 ls hP2 hS1 hl
/-- the barrel can go so in a step -/
def can (D : SG) (f t w : Int) : Prop := (0 ≤ f ∧ f < D 9 0) ∧ (0 ≤ bes f w ∧ bes f w < D 9 0) ∧ (bes f w = f ∨ lets D (min f (bes f w)) t)
theorem bes_bd (f w : Int) : f - 1 ≤ bes f w ∧ bes f w ≤ f + 1 := by unfold bes; (repeat' split) <;> omega
set_option maxRecDepth 100000 in
set_option maxHeartbeats 4000000 in
theorem c_X5_startAt (l : Launch) (K : WK) (σ : SG) {f : Int} : MV l yX5_startAt cX5_startAt 2 none 0 0 K σ [.ref (K.2.2 31), .int (iI f)] (fun τ => τ = up (up (up (up σ 31 0 0) 31 1 0) 31 2 f) 31 3 0) := by
  refine met_of [(0, .ref (K.2.2 31)), (1, .int (iI f))] (by decide +kernel) (Nat.le_of_ble_eq_true rfl) rfl ?_
  intro pP eE sS mM bW mT cC B hrt hlk
  replace B : CB pP sS mM [.ref (K.2.2 31), .int (iI f)].toArray cC cX5_startAt RX5 2 K := B
  refine g_aload_n (pc' := 1) B 0 rfl rfl dX5_startAt_0 rfl ?_
  refine g_iconst (pc' := 2) B dX5_startAt_1 rfl ?_
  refine g_put (pc' := 5) B 0 rfl fp_X5_9 rfl rfl dX5_startAt_2 rfl ?_
  refine g_aload_n (pc' := 6) B 0 rfl rfl dX5_startAt_5 rfl ?_
  refine g_iconst (pc' := 7) B dX5_startAt_6 rfl ?_
  refine g_put (pc' := 10) B 1 rfl fp_X5_15 rfl rfl dX5_startAt_7 rfl ?_
  refine g_aload_n (pc' := 11) B 0 rfl rfl dX5_startAt_10 rfl ?_
  refine g_iload_n (pc' := 12) B 1 rfl rfl dX5_startAt_11 rfl ?_
  refine g_put (pc' := 15) B 2 rfl fp_X5_18 rfl rfl dX5_startAt_12 rfl ?_
  refine g_aload_n (pc' := 16) B 0 rfl rfl dX5_startAt_15 rfl ?_
  refine g_iconst (pc' := 17) B dX5_startAt_16 rfl ?_
  refine g_put (pc' := 20) B 3 rfl fp_X5_21 rfl rfl dX5_startAt_17 rfl ?_
  exact g_vret B hrt hlk dX5_startAt_20 rfl
set_option maxRecDepth 100000 in
set_option maxHeartbeats 4000000 in
theorem c_X5_become (l : Launch) (K : WK) (σ : SG) {u o : Nat} (hu : u = 31 ∨ u = 38 ∨ u = 41 ∨ u = 56) (ho : o = 31 ∨ o = 38 ∨ o = 41 ∨ o = 56) (hne : u ≠ o) : MV l yX5_become cX5_become 2 none 0 0 K σ [.ref (K.2.2 u), .ref (K.2.2 o)] (fun τ => τ = up (up (up (up σ u 0 (σ o 0)) u 1 (σ o 1)) u 2 (σ o 2)) u 3 (σ o 3)) := by
  refine met_of [(0, .ref (K.2.2 u)), (1, .ref (K.2.2 o))] (by decide +kernel) (Nat.le_of_ble_eq_true rfl) rfl ?_
  intro pP eE sS mM bW mT cC B hrt hlk
  replace B : CB pP sS mM [.ref (K.2.2 u), .ref (K.2.2 o)].toArray cC cX5_become RX5 2 K := B
  refine g_aload_n (pc' := 1) B 0 rfl rfl dX5_become_0 rfl ?_
  refine g_aload_n (pc' := 2) B 1 rfl rfl dX5_become_1 rfl ?_
  refine g_get (pc' := 5) B (σ o 0) rfl fl_X5_9 (ly_M ho) rfl dX5_become_2 rfl ?_
  refine g_put (pc' := 8) B 0 rfl fp_X5_9 (ly_M hu) rfl dX5_become_5 rfl ?_
  refine g_aload_n (pc' := 9) B 0 rfl rfl dX5_become_8 rfl ?_
  refine g_aload_n (pc' := 10) B 1 rfl rfl dX5_become_9 rfl ?_
  refine g_get (pc' := 13) B (σ o 1) (by simp [up, hne, hne.symm]) fl_X5_15 (ly_M ho) rfl dX5_become_10 rfl ?_
  refine g_put (pc' := 16) B 1 rfl fp_X5_15 (ly_M hu) rfl dX5_become_13 rfl ?_
  refine g_aload_n (pc' := 17) B 0 rfl rfl dX5_become_16 rfl ?_
  refine g_aload_n (pc' := 18) B 1 rfl rfl dX5_become_17 rfl ?_
  refine g_get (pc' := 21) B (σ o 2) (by simp [up, hne, hne.symm]) fl_X5_18 (ly_M ho) rfl dX5_become_18 rfl ?_
  refine g_put (pc' := 24) B 2 rfl fp_X5_18 (ly_M hu) rfl dX5_become_21 rfl ?_
  refine g_aload_n (pc' := 25) B 0 rfl rfl dX5_become_24 rfl ?_
  refine g_aload_n (pc' := 26) B 1 rfl rfl dX5_become_25 rfl ?_
  refine g_get (pc' := 29) B (σ o 3) (by simp [up, hne, hne.symm]) fl_X5_21 (ly_M ho) rfl dX5_become_26 rfl ?_
  refine g_put (pc' := 32) B 3 rfl fp_X5_21 (ly_M hu) rfl dX5_become_29 rfl ?_
  exact g_vret B hrt hlk dX5_become_32 rfl
set_option maxRecDepth 100000 in
set_option maxHeartbeats 4000000 in
theorem c_X5_pass (l : Launch) (K : WK) (σ : SG) {u : Nat} (hu : u = 31 ∨ u = 56) {S X : Int} (hm : σ u 0 = S ∧ σ u 1 = X) {n h : Int} (hh : 0 ≤ h ∧ h ≤ 1) : MV l yX5_pass cX5_pass 3 none 0 0 K σ [.ref (K.2.2 u), .int (iI n), .int (iI h)] (fun τ => τ = up (up σ u 0 (S + n)) u 1 (X + (if h = 0 then n else 0))) := by
  refine met_of [(0, .ref (K.2.2 u)), (1, .int (iI n)), (2, .int (iI h))] (by decide +kernel) (Nat.le_of_ble_eq_true rfl) rfl ?_
  intro pP eE sS mM bW mT cC B hrt hlk
  replace B : CB pP sS mM [.ref (K.2.2 u), .int (iI n), .int (iI h)].toArray cC cX5_pass RX5 3 K := B
  refine g_aload_n (pc' := 1) B 0 rfl rfl dX5_pass_0 rfl ?_
  refine g_dup (pc' := 2) B rfl dX5_pass_1 rfl ?_
  refine g_get (pc' := 5) B S hm.1 fl_X5_9 (ly_M (by omega)) rfl dX5_pass_2 rfl ?_
  refine g_iload_n (pc' := 6) B 1 rfl rfl dX5_pass_5 rfl ?_
  refine g_iadd (pc' := 7) B dX5_pass_6 rfl ?_
  refine g_put (pc' := 10) B 0 rfl fp_X5_9 (ly_M (by omega)) rfl dX5_pass_7 rfl ?_
  refine g_iload_n (pc' := 11) B 2 rfl rfl dX5_pass_10 rfl ?_
  refine g_if_ne (pc' := 14) B 24 (by omega) dX5_pass_11 (by decide) rfl (fun c11 => ?_) (fun c11 => ?_)
  · exact g_vret B hrt hlk dX5_pass_24 (by rw [if_neg c11, Int.add_zero]; exact (up_id (by simp [up, hm.2])).symm)
  · refine g_aload_n (pc' := 15) B 0 rfl rfl dX5_pass_14 rfl ?_
    refine g_dup (pc' := 16) B rfl dX5_pass_15 rfl ?_
    refine g_get (pc' := 19) B X (by have q9 := hm.2; simpa [up] using q9) fl_X5_15 (ly_M (by omega)) rfl dX5_pass_16 rfl ?_
    refine g_iload_n (pc' := 20) B 1 rfl rfl dX5_pass_19 rfl ?_
    refine g_iadd (pc' := 21) B dX5_pass_20 rfl ?_
    refine g_put (pc' := 24) B 1 rfl fp_X5_15 (ly_M (by omega)) rfl dX5_pass_21 rfl ?_
    exact g_vret B hrt hlk dX5_pass_24 (by rw [if_pos c11])
set_option maxRecDepth 100000 in
set_option maxHeartbeats 4000000 in
theorem c_X5_canGo (l : Launch) (K : WK) (σ : SG) {u : Nat} (hu : u = 31 ∨ u = 56) {S X L P : Int} (hm : σ u 0 = S ∧ σ u 1 = X ∧ σ u 2 = L ∧ σ u 3 = P) {b : Nat} (hb : b = 3 ∨ b = 17) {D : SG} (hS : sD σ b D) (hF : okF D) (hH : okH D) (hO : okQ D) {w : Int} (hw : 0 ≤ w ∧ w ≤ 2) (hL : -1 ≤ L ∧ L ≤ 8) (hSS : 0 ≤ S ∧ S ≤ 100000000) : MI l yX5_canGo cX5_canGo 4 (some .boolean) 3 67 K σ [.ref (K.2.2 u), .ref (K.2.2 b), .int (iI w)] (fun z τ => σ = τ ∧ ((can D L (S + 1) w ∧ z = 1) ∨ (¬ (can D L (S + 1) w) ∧ z = 0))) := by
  refine met_of [(0, .ref (K.2.2 u)), (1, .ref (K.2.2 b)), (2, .int (iI w))] (by decide +kernel) (Nat.le_of_ble_eq_true rfl) rfl ?_
  intro pP eE sS mM bW mT cC B hrt hlk
  replace B : CB pP sS mM [.ref (K.2.2 u), .ref (K.2.2 b), .int (iI w)].toArray cC cX5_canGo RX5 4 K := B
  obtain ⟨hF0, hF1⟩ := id hF
  have hbb := bes_bd L w
  refine g_aload_n (pc' := 1) B 0 rfl rfl dX5_canGo_0 rfl ?_
  refine g_get (pc' := 4) B L hm.2.2.1 fl_X5_18 (ly_M (by omega)) rfl dX5_canGo_1 rfl ?_
  refine g_iload_n (pc' := 5) B 2 rfl rfl dX5_canGo_4 rfl ?_
  refine g_callNI (pc' := 8) (As := [.int (iI L), .int (iI w)]) B (c_X11_besideOf l K _ (f := L) (way := w) (by omega) (by omega)) st_X11_besideOf tw_596 ⟨by decide, by decide⟩ rfl (Nat.le_of_ble_eq_true rfl) ⟨Nat.zero_le _, Nat.zero_le _⟩ rfl dX5_canGo_5 rfl (fun z5 τ5 h5 => ?_)
  obtain ⟨rfl, rfl⟩ := h5
  refine g_istore_n (pc' := 9) B [(3, .int (iI (bes L w))), (0, .ref (K.2.2 u)), (1, .ref (K.2.2 b)), (2, .int (iI w))] dX5_canGo_8 rfl rfl (by decide) rfl ?_
  refine g_aload_n (pc' := 10) B 2 rfl rfl dX5_canGo_9 rfl ?_
  refine g_getR (pc' := 13) B (b + 1) fl_X5_28 (ly_S hb) rfl dX5_canGo_10 rfl ?_
  refine g_aload_n (pc' := 14) B 1 rfl rfl dX5_canGo_13 rfl ?_
  refine g_get (pc' := 17) B L hm.2.2.1 fl_X5_18 (ly_M (by omega)) rfl dX5_canGo_14 rfl ?_
  refine g_callVI (pc' := 20) (As := [.int (iI L)]) B (c_X2_has l K _ (g := b + 1) (D := D) (f := L) (by omega) hS.1 hF (by omega)) vt_X2_has tw_599 (ly_G (by omega)) rfl ⟨by decide, by decide⟩ rfl (Nat.le_of_ble_eq_true rfl) ⟨Nat.zero_le _, Nat.zero_le _⟩ rfl dX5_canGo_17 rfl (fun z17 τ17 h17 => ?_)
  obtain ⟨rfl, h17⟩ := h17
  rcases h17 with ⟨h17, rfl⟩ | ⟨h17, rfl⟩
  · refine g_if_eq (pc' := 23) B 34 (by omega) dX5_canGo_20 (by decide) rfl (fun q => absurd q (by decide)) (fun _ => ?_)
    refine g_aload_n (pc' := 24) B 2 rfl rfl dX5_canGo_23 rfl ?_
    refine g_getR (pc' := 27) B (b + 1) fl_X5_28 (ly_S hb) rfl dX5_canGo_24 rfl ?_
    refine g_iload_n (pc' := 28) B 0 rfl rfl dX5_canGo_27 rfl ?_
    refine g_callVI (pc' := 31) (As := [.int (iI (bes L w))]) B (c_X2_has l K _ (g := b + 1) (D := D) (f := bes L w) (by omega) hS.1 hF (by omega)) vt_X2_has tw_599 (ly_G (by omega)) rfl ⟨by decide, by decide⟩ rfl (Nat.le_of_ble_eq_true rfl) ⟨Nat.zero_le _, Nat.zero_le _⟩ rfl dX5_canGo_28 rfl (fun z28 τ28 h28 => ?_)
    obtain ⟨rfl, h28⟩ := h28
    rcases h28 with ⟨h28, rfl⟩ | ⟨h28, rfl⟩
    · refine g_if_ne (pc' := 34) B 36 (by omega) dX5_canGo_31 (by decide) rfl (fun _ => ?_) (fun q => absurd q (by decide))
      refine g_iload_n (pc' := 37) B 0 rfl rfl dX5_canGo_36 rfl ?_
      refine g_aload_n (pc' := 38) B 1 rfl rfl dX5_canGo_37 rfl ?_
      refine g_get (pc' := 41) B L hm.2.2.1 fl_X5_18 (ly_M (by omega)) rfl dX5_canGo_38 rfl ?_
      refine g_icmp_eq (pc' := 44) B 68 (by omega) (by omega) dX5_canGo_41 (by decide) rfl (fun c41 => ?_) (fun c41 => ?_)
      · refine g_iconst (pc' := 69) B dX5_canGo_68 rfl ?_
        refine g_goto (pc' := 73) B dX5_canGo_69 (by decide) ?_
        exact g_iret (z := 1) B hrt rfl hlk dX5_canGo_73 ⟨rfl, Or.inl ⟨⟨h17, h28, by first | exact Or.inl c41 | exact Or.inr h62⟩, rfl⟩⟩
      · refine g_aload_n (pc' := 45) B 2 rfl rfl dX5_canGo_44 rfl ?_
        refine g_getR (pc' := 48) B (b + 7) fl_X5_40 (ly_S hb) rfl dX5_canGo_45 rfl ?_
        refine g_aload_n (pc' := 49) B 1 rfl rfl dX5_canGo_48 rfl ?_
        refine g_get (pc' := 52) B L hm.2.2.1 fl_X5_18 (ly_M (by omega)) rfl dX5_canGo_49 rfl ?_
        refine g_iload_n (pc' := 53) B 0 rfl rfl dX5_canGo_52 rfl ?_
        refine g_mmin (pc' := 56) B (by omega) (by omega) tw_600 (by decide) (Nat.le_of_ble_eq_true rfl) (Nat.zero_le _) (Nat.zero_le _) dX5_canGo_53 rfl ?_
        refine g_aload_n (pc' := 57) B 1 rfl rfl dX5_canGo_56 rfl ?_
        refine g_get (pc' := 60) B S hm.1 fl_X5_9 (ly_M (by omega)) rfl dX5_canGo_57 rfl ?_
        refine g_iconst (pc' := 61) B dX5_canGo_60 rfl ?_
        refine g_iadd (pc' := 62) B dX5_canGo_61 rfl ?_
        refine g_callVI (pc' := 65) (As := [.int (iI (min L (bes L w))), .int (iI (S + 1))]) B (c_X6_letsThrough l K _ (q := b + 7) (D := D) (gp := min L (bes L w)) (t := S + 1) (by omega) hS.2.1 hO (by omega) (by omega)) vt_X6_letsThrough tw_601 (ly_Q (by omega)) rfl ⟨by decide, by decide⟩ rfl (Nat.le_of_ble_eq_true rfl) ⟨Nat.zero_le _, Nat.zero_le _⟩ rfl dX5_canGo_62 rfl (fun z62 τ62 h62 => ?_)
        obtain ⟨rfl, h62⟩ := h62
        rcases h62 with ⟨h62, rfl⟩ | ⟨h62, rfl⟩
        · refine g_if_eq (pc' := 68) B 72 (by omega) dX5_canGo_65 (by decide) rfl (fun q => absurd q (by decide)) (fun _ => ?_)
          refine g_iconst (pc' := 69) B dX5_canGo_68 rfl ?_
          refine g_goto (pc' := 73) B dX5_canGo_69 (by decide) ?_
          exact g_iret (z := 1) B hrt rfl hlk dX5_canGo_73 ⟨rfl, Or.inl ⟨⟨h17, h28, by first | exact Or.inl c41 | exact Or.inr h62⟩, rfl⟩⟩
        · refine g_if_eq (pc' := 68) B 72 (by omega) dX5_canGo_65 (by decide) rfl (fun _ => ?_) (fun q => absurd q (by decide))
          refine g_iconst (pc' := 73) B dX5_canGo_72 rfl ?_
          exact g_iret (z := 0) B hrt rfl hlk dX5_canGo_73 ⟨rfl, Or.inr ⟨fun q9 => by rcases q9.2.2 with q8 | q8; exact c41 q8; exact h62 q8, rfl⟩⟩
    · refine g_if_ne (pc' := 34) B 36 (by omega) dX5_canGo_31 (by decide) rfl (fun q => absurd q (by decide)) (fun _ => ?_)
      refine g_iconst (pc' := 35) B dX5_canGo_34 rfl ?_
      exact g_iret (z := 0) B hrt rfl hlk dX5_canGo_35 ⟨rfl, Or.inr ⟨fun q9 => by have q8 := q9.1; have q7 := q9.2.1; omega, rfl⟩⟩
  · refine g_if_eq (pc' := 23) B 34 (by omega) dX5_canGo_20 (by decide) rfl (fun _ => ?_) (fun q => absurd q (by decide))
    refine g_iconst (pc' := 35) B dX5_canGo_34 rfl ?_
    exact g_iret (z := 0) B hrt rfl hlk dX5_canGo_35 ⟨rfl, Or.inr ⟨fun q9 => by have q8 := q9.1; have q7 := q9.2.1; omega, rfl⟩⟩
set_option maxRecDepth 100000 in
set_option maxHeartbeats 4000000 in
theorem c_X5_go (l : Launch) (K : WK) (σ : SG) {u : Nat} (hu : u = 31 ∨ u = 56) {S X L P : Int} (hm : σ u 0 = S ∧ σ u 1 = X ∧ σ u 2 = L ∧ σ u 3 = P) {b : Nat} (hb : b = 3 ∨ b = 17) {D : SG} (hS : sD σ b D) (hF : okF D) (hH : okH D) {w h : Int} (hw : 0 ≤ w ∧ w ≤ 2) (hh : 0 ≤ h ∧ h ≤ 1) (hL : 0 ≤ L ∧ L < D 9 0) (hN : 0 ≤ bes L w ∧ bes L w < D 9 0) (hX : 0 ≤ X ∧ X ≤ 100000000) : MI l yX5_go cX5_go 6 (some .int) 4 89 K σ [.ref (K.2.2 u), .ref (K.2.2 b), .int (iI w), .int (iI h)] (fun z τ => τ = up (up (up (up σ u 0 (S + 1)) u 1 (X + (if h = 0 then 1 else 0))) u 2 (bes L w)) u 3 (P + max 0 (hgt D (bes L w) (X + (if h = 0 then 1 else 0)) - hgt D L (X + (if h = 0 then 1 else 0)))) ∧ z = max 0 (hgt D (bes L w) (X + (if h = 0 then 1 else 0)) - hgt D L (X + (if h = 0 then 1 else 0)))) := by
  refine met_of [(0, .ref (K.2.2 u)), (1, .ref (K.2.2 b)), (2, .int (iI w)), (3, .int (iI h))] (by decide +kernel) (Nat.le_of_ble_eq_true rfl) rfl ?_
  intro pP eE sS mM bW mT cC B hrt hlk
  replace B : CB pP sS mM [.ref (K.2.2 u), .ref (K.2.2 b), .int (iI w), .int (iI h)].toArray cC cX5_go RX5 6 K := B
  obtain ⟨hF0, hF1⟩ := id hF
  obtain ⟨hm0, hm1, hm2, hm3⟩ := id hm
  have hbb := bes_bd L w
  have hie : 0 ≤ (if h = 0 then (1 : Int) else 0) ∧ (if h = 0 then (1 : Int) else 0) ≤ 1 := by split <;> omega
  refine g_aload_n (pc' := 1) B 0 rfl rfl dX5_go_0 rfl ?_
  refine g_get (pc' := 4) B L hm.2.2.1 fl_X5_18 (ly_M (by omega)) rfl dX5_go_1 rfl ?_
  refine g_iload_n (pc' := 5) B 2 rfl rfl dX5_go_4 rfl ?_
  refine g_callNI (pc' := 8) (As := [.int (iI L), .int (iI w)]) B (c_X11_besideOf l K _ (f := L) (way := w) (by omega) (by omega)) st_X11_besideOf tw_596 ⟨by decide, by decide⟩ rfl (Nat.le_of_ble_eq_true rfl) ⟨Nat.zero_le _, Nat.zero_le _⟩ rfl dX5_go_5 rfl (fun z5 τ5 h5 => ?_)
  obtain ⟨rfl, rfl⟩ := h5
  refine g_istore (pc' := 10) B [(4, .int (iI (bes L w))), (0, .ref (K.2.2 u)), (1, .ref (K.2.2 b)), (2, .int (iI w)), (3, .int (iI h))] dX5_go_8 rfl (by decide) rfl ?_
  refine g_aload_n (pc' := 11) B 1 rfl rfl dX5_go_10 rfl ?_
  refine g_iconst (pc' := 12) B dX5_go_11 rfl ?_
  refine g_iload_n (pc' := 13) B 4 rfl rfl dX5_go_12 rfl ?_
  refine g_callVV (pc' := 16) (As := [.int (iI 1), .int (iI h)]) B (c_X5_pass l K _ (u := u) (S := S) (X := X) (n := 1) (h := h) (by omega) (⟨hm.1, hm.2.1⟩) (by omega)) vt_X5_pass tw_610 (ly_M (by omega)) rfl ⟨by decide, by decide⟩ rfl (Nat.le_of_ble_eq_true rfl) ⟨Nat.zero_le _, Nat.zero_le _⟩ rfl dX5_go_13 rfl (fun τ13 h13 => ?_)
  subst h13
  refine g_aload_n (pc' := 17) B 2 rfl rfl dX5_go_16 rfl ?_
  refine g_getR (pc' := 20) B (b + 1) fl_X5_28 (ly_S hb) rfl dX5_go_17 rfl ?_
  refine g_aload_n (pc' := 21) B 1 rfl rfl dX5_go_20 rfl ?_
  refine g_get (pc' := 24) B L (by have q9 := hm.2.2.1; simpa [up] using q9) fl_X5_18 (ly_M (by omega)) rfl dX5_go_21 rfl ?_
  refine g_iload (pc' := 26) B 0 rfl dX5_go_24 rfl ?_
  refine g_aload_n (pc' := 27) B 1 rfl rfl dX5_go_26 rfl ?_
  refine g_get (pc' := 30) B (X + (if h = 0 then 1 else 0)) (by simp [up]) fl_X5_15 (ly_M (by omega)) rfl dX5_go_27 rfl ?_
  refine g_callVI (pc' := 33) (As := [.int (iI L), .int (iI (bes L w)), .int (iI (X + (if h = 0 then 1 else 0)))]) B (c_X2_climb l K _ (g := b + 1) (D := D) (a := L) (b := bes L w) (x := X + (if h = 0 then 1 else 0)) (by omega) (hS.1.keep (fun k a b => by rw [up_row (by omega), up_row (by omega)])) hF (by omega) (by omega) (by omega) (by omega) (by omega)) vt_X2_climb tw_611 (ly_G (by omega)) rfl ⟨by decide, by decide⟩ rfl (Nat.le_of_ble_eq_true rfl) ⟨Nat.zero_le _, Nat.zero_le _⟩ rfl dX5_go_30 rfl (fun z30 τ30 h30 => ?_)
  obtain ⟨rfl, rfl⟩ := h30
  refine g_istore (pc' := 35) B [(5, .int (iI (max 0 (hgt D (bes L w) (X + (if h = 0 then 1 else 0)) - hgt D L (X + (if h = 0 then 1 else 0)))))), (4, .int (iI (bes L w))), (0, .ref (K.2.2 u)), (1, .ref (K.2.2 b)), (2, .int (iI w)), (3, .int (iI h))] dX5_go_33 rfl (by decide) rfl ?_
  refine g_aload_n (pc' := 36) B 2 rfl rfl dX5_go_35 rfl ?_
  refine g_iload (pc' := 38) B 1 rfl dX5_go_36 rfl ?_
  refine g_put (pc' := 41) B 2 rfl fp_X5_18 (ly_M (by omega)) rfl dX5_go_38 rfl ?_
  refine g_aload_n (pc' := 42) B 2 rfl rfl dX5_go_41 rfl ?_
  refine g_dup (pc' := 43) B rfl dX5_go_42 rfl ?_
  refine g_get (pc' := 46) B P (by have q9 := hm.2.2.2; simpa [up] using q9) fl_X5_21 (ly_M (by omega)) rfl dX5_go_43 rfl ?_
  refine g_iload (pc' := 48) B 0 rfl dX5_go_46 rfl ?_
  refine g_iadd (pc' := 49) B dX5_go_48 rfl ?_
  refine g_put (pc' := 52) B 3 rfl fp_X5_21 (ly_M (by omega)) rfl dX5_go_49 rfl ?_
  refine g_iload (pc' := 54) B 0 rfl dX5_go_52 rfl ?_
  exact g_iret (z := max 0 (hgt D (bes L w) (X + (if h = 0 then 1 else 0)) - hgt D L (X + (if h = 0 then 1 else 0)))) B hrt rfl hlk dX5_go_54 ⟨rfl, rfl⟩
