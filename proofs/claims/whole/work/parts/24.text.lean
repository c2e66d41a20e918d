/-- THE TEXT: n letters tx -/
def txD (σ : SG) (tx : Int → Int) (n : Int) : Prop := σ 1 1 = n ∧ (0 ≤ n ∧ n ≤ 250) ∧ ∀ j : Int, 0 ≤ j → j < n → σ 2 j = tx j ∧ 0 ≤ tx j ∧ tx j ≤ 255
theorem txD.keep {σ τ : SG} {tx : Int → Int} {n : Int} (h : txD σ tx n) (e1 : τ 1 1 = σ 1 1) (e2 : τ 2 = σ 2) : txD τ tx n := by
  unfold txD at *
  rw [e1, e2]
  exact h
def lh (tx : Int → Int) (n a : Int) : Int := if 0 ≤ a ∧ a < n then tx a else -1
def sbF (tx : Int → Int) (n : Int) : Nat → Int → Int
  | 0, a => a
  | k + 1, a => if a < n ∧ tx a = 32 then sbF tx n k (a + 1) else a
/-- behind the blanks -/
def sb (tx : Int → Int) (n a : Int) : Int := sbF tx n (n - a).toNat a
theorem sb_go {tx : Int → Int} {n a : Int} (h : a < n) (h2 : tx a = 32) : sb tx n a = sb tx n (a + 1) := by
  unfold sb
  rw [show (n - a).toNat = (n - (a + 1)).toNat + 1 by omega]
  show (if a < n ∧ tx a = 32 then _ else _) = _
  rw [if_pos ⟨h, h2⟩]
theorem sb_stop {tx : Int → Int} {n a : Int} (h : n ≤ a ∨ tx a ≠ 32) : sb tx n a = a := by
  unfold sb
  cases (n - a).toNat with
  | zero => rfl
  | succ k =>
    show (if a < n ∧ tx a = 32 then _ else _) = _
    rw [if_neg (by intro q; rcases h with h | h; omega; exact h q.2)]
theorem sbF_in (tx : Int → Int) (n : Int) : ∀ (k : Nat) (a : Int), a ≤ sbF tx n k a ∧ (a ≤ n → sbF tx n k a ≤ n)
  | 0, a => ⟨Int.le_refl _, fun h => h⟩
  | k + 1, a => by
    show a ≤ (if a < n ∧ tx a = 32 then sbF tx n k (a + 1) else a) ∧ (a ≤ n → (if a < n ∧ tx a = 32 then sbF tx n k (a + 1) else a) ≤ n)
    split
    · have h := sbF_in tx n k (a + 1)
      exact ⟨by omega, fun _ => h.2 (by omega)⟩
    · exact ⟨Int.le_refl _, fun h => h⟩
theorem sb_in (tx : Int → Int) (n a : Int) : a ≤ sb tx n a ∧ (a ≤ n → sb tx n a ≤ n) := sbF_in tx n _ a
theorem sbF_end (tx : Int → Int) (n : Int) : ∀ (k : Nat) (a : Int), n ≤ a + k → n ≤ sbF tx n k a ∨ tx (sbF tx n k a) ≠ 32
  | 0, a, h => Or.inl (by show n ≤ a; omega)
  | k + 1, a, h => by
    show n ≤ (if a < n ∧ tx a = 32 then sbF tx n k (a + 1) else a) ∨ tx (if a < n ∧ tx a = 32 then sbF tx n k (a + 1) else a) ≠ 32
    split
    · exact sbF_end tx n k (a + 1) (by omega)
    · rename_i q
      by_cases q2 : a < n
      · exact Or.inr (fun q3 => q ⟨q2, q3⟩)
      · exact Or.inl (by omega)
theorem sb_end (tx : Int → Int) (n a : Int) : n ≤ sb tx n a ∨ tx (sb tx n a) ≠ 32 := sbF_end tx n _ a (by omega)
theorem sb_idem (tx : Int → Int) (n a : Int) : sb tx n (sb tx n a) = sb tx n a := sb_stop (sb_end tx n a)
def isd (tx : Int → Int) (n a : Int) : Prop := a < n ∧ 48 ≤ tx a ∧ tx a ≤ 57
def dgF (tx : Int → Int) (n : Int) : Nat → Int → Int
  | 0, a => a
  | k + 1, a => if a < n ∧ 48 ≤ tx a ∧ tx a ≤ 57 then dgF tx n k (a + 1) else a
/-- behind the figures -/
def dg (tx : Int → Int) (n a : Int) : Int := dgF tx n (n - a).toNat a
theorem dg_go {tx : Int → Int} {n a : Int} (h : a < n) (h2 : 48 ≤ tx a ∧ tx a ≤ 57) : dg tx n a = dg tx n (a + 1) := by
  unfold dg
  rw [show (n - a).toNat = (n - (a + 1)).toNat + 1 by omega]
  show (if a < n ∧ 48 ≤ tx a ∧ tx a ≤ 57 then _ else _) = _
  rw [if_pos ⟨h, h2⟩]
theorem dg_stop {tx : Int → Int} {n a : Int} (h : n ≤ a ∨ ¬ (48 ≤ tx a ∧ tx a ≤ 57)) : dg tx n a = a := by
  unfold dg
  cases (n - a).toNat with
  | zero => rfl
  | succ k =>
    show (if a < n ∧ 48 ≤ tx a ∧ tx a ≤ 57 then _ else _) = _
    rw [if_neg (by intro q; rcases h with h | h; omega; exact h q.2)]
theorem dgF_in (tx : Int → Int) (n : Int) : ∀ (k : Nat) (a : Int), a ≤ dgF tx n k a ∧ (a ≤ n → dgF tx n k a ≤ n)
  | 0, a => ⟨Int.le_refl _, fun h => h⟩
  | k + 1, a => by
    show a ≤ (if a < n ∧ 48 ≤ tx a ∧ tx a ≤ 57 then dgF tx n k (a + 1) else a) ∧ (a ≤ n → (if a < n ∧ 48 ≤ tx a ∧ tx a ≤ 57 then dgF tx n k (a + 1) else a) ≤ n)
    split
    · have h := dgF_in tx n k (a + 1)
      exact ⟨by omega, fun _ => h.2 (by omega)⟩
    · exact ⟨Int.le_refl _, fun h => h⟩
theorem dg_in (tx : Int → Int) (n a : Int) : a ≤ dg tx n a ∧ (a ≤ n → dg tx n a ≤ n) := dgF_in tx n _ a
/-- the number of the first k figures -/
def vlF (tx : Int → Int) (s : Int) : Nat → Int
  | 0 => 0
  | k + 1 => vlF tx s k * 10 + tx (s + k) - 48
theorem vlF_next {tx : Int → Int} {s k : Int} (h : 0 ≤ k) : vlF tx s (k + 1).toNat = vlF tx s k.toNat * 10 + tx (s + k) - 48 := by
  rw [show (k + 1).toNat = k.toNat + 1 by omega]
  show vlF tx s k.toNat * 10 + tx (s + ((k.toNat : Nat) : Int)) - 48 = _
  rw [show ((k.toNat : Nat) : Int) = k by omega]
def nrA (tx : Int → Int) (n a : Int) : Int := dg tx n (sb tx n a)
def nrV (tx : Int → Int) (n a : Int) : Int := vlF tx (sb tx n a) (min 3 (nrA tx n a - sb tx n a)).toNat
def nrK (tx : Int → Int) (n lo hi a : Int) : Int := if nrA tx n a = sb tx n a then 1 else if 3 < nrA tx n a - sb tx n a ∨ (nrV tx n a < lo ∨ hi < nrV tx n a) then 2 else 0
def nrP (tx : Int → Int) (n lo hi a p : Int) : Int := if nrA tx n a = sb tx n a then nrA tx n a else if 3 < nrA tx n a - sb tx n a ∨ (nrV tx n a < lo ∨ hi < nrV tx n a) then sb tx n a else p
-- THE READER'S STATE: rows 0 .. 9 the street's data, 10 slacks, 11: 0 where, 1 the fault's number, 2 its letter, 3 the barrel told
def ctx (σ : SG) (P : SG) : Prop := σ 1 2 = P 11 0 ∧ σ 1 3 = P 11 1 ∧ σ 1 4 = P 11 2
def nm (tx : Int → Int) (n lo hi : Int) (P : SG) : SG := if P 11 1 = 0 then up (up (up P 11 0 (nrA tx n (P 11 0))) 11 1 (nrK tx n lo hi (P 11 0))) 11 2 (nrP tx n lo hi (P 11 0) (P 11 2)) else P
def nv (tx : Int → Int) (n : Int) (P : SG) : Int := if P 11 1 = 0 then nrV tx n (P 11 0) else 0
def ne (tx : Int → Int) (n : Int) (P : SG) : SG := if P 11 1 = 0 then (if lh tx n (sb tx n (P 11 0)) = 59 then up P 11 0 (sb tx n (P 11 0) + 1) else up (up (up P 11 0 (sb tx n (P 11 0))) 11 1 1) 11 2 (sb tx n (P 11 0))) else P
def wd (w : Int) (P : SG) : SG := if w = 0 then up P 11 0 (P 11 0 + 1) else up (up P 11 1 3) 11 2 (P 11 0)
set_option maxRecDepth 100000 in
set_option maxHeartbeats 4000000 in
theorem c_X9_isFigure (l : Launch) (K : WK) (σ : SG) {c : Int} (hc : -2147483648 ≤ c ∧ c < 2147483648) : MI l yX9_isFigure cX9_isFigure 1 (some .boolean) 0 0 K σ [.int (iI c)] (fun z τ => σ = τ ∧ (((48 ≤ c ∧ c ≤ 57) ∧ z = 1) ∨ (¬ (48 ≤ c ∧ c ≤ 57) ∧ z = 0))) := by
  refine met_of [(0, .int (iI c))] (by decide +kernel) (Nat.le_of_ble_eq_true rfl) rfl ?_
  intro pP eE sS mM bW mT cC B hrt hlk
  replace B : CB pP sS mM [.int (iI c)].toArray cC cX9_isFigure RX9 1 K := B
  refine g_iload_n (pc' := 1) B 0 rfl rfl dX9_isFigure_0 rfl ?_
  refine g_bipush (pc' := 3) B (by decide +kernel) dX9_isFigure_1 rfl ?_
  refine g_icmp_lt (pc' := 6) B 16 (by omega) (by omega) dX9_isFigure_3 (by decide) rfl (fun c3 => ?_) (fun c3 => ?_)
  · refine g_iconst (pc' := 17) B dX9_isFigure_16 rfl ?_
    exact g_iret (z := 0) B hrt rfl hlk dX9_isFigure_17 ⟨rfl, by omega⟩
  · refine g_iload_n (pc' := 7) B 0 rfl rfl dX9_isFigure_6 rfl ?_
    refine g_bipush (pc' := 9) B (by decide +kernel) dX9_isFigure_7 rfl ?_
    refine g_icmp_gt (pc' := 12) B 16 (by omega) (by omega) dX9_isFigure_9 (by decide) rfl (fun c9 => ?_) (fun c9 => ?_)
    · refine g_iconst (pc' := 17) B dX9_isFigure_16 rfl ?_
      exact g_iret (z := 0) B hrt rfl hlk dX9_isFigure_17 ⟨rfl, by omega⟩
    · refine g_iconst (pc' := 13) B dX9_isFigure_12 rfl ?_
      refine g_goto (pc' := 17) B dX9_isFigure_13 (by decide) ?_
      exact g_iret (z := 1) B hrt rfl hlk dX9_isFigure_17 ⟨rfl, by omega⟩
set_option maxRecDepth 100000 in
set_option maxHeartbeats 4000000 in
theorem c_X9_blame (l : Launch) (K : WK) (σ : SG) {k p : Int} : MV l yX9_blame cX9_blame 3 none 0 0 K σ [.ref (K.2.2 1), .int (iI k), .int (iI p)] (fun τ => τ = up (up σ 1 3 k) 1 4 p) := by
  refine met_of [(0, .ref (K.2.2 1)), (1, .int (iI k)), (2, .int (iI p))] (by decide +kernel) (Nat.le_of_ble_eq_true rfl) rfl ?_
  intro pP eE sS mM bW mT cC B hrt hlk
  replace B : CB pP sS mM [.ref (K.2.2 1), .int (iI k), .int (iI p)].toArray cC cX9_blame RX9 3 K := B
  refine g_aload_n (pc' := 1) B 0 rfl rfl dX9_blame_0 rfl ?_
  refine g_iload_n (pc' := 2) B 1 rfl rfl dX9_blame_1 rfl ?_
  refine g_put (pc' := 5) B 3 rfl fp_X9_22 rfl rfl dX9_blame_2 rfl ?_
  refine g_aload_n (pc' := 6) B 0 rfl rfl dX9_blame_5 rfl ?_
  refine g_iload_n (pc' := 7) B 2 rfl rfl dX9_blame_6 rfl ?_
  refine g_put (pc' := 10) B 4 rfl fp_X9_25 rfl rfl dX9_blame_7 rfl ?_
  exact g_vret B hrt hlk dX9_blame_10 rfl
set_option maxRecDepth 100000 in
set_option maxHeartbeats 4000000 in
theorem c_X9_letterHere (l : Launch) (K : WK) (σ : SG) {tx : Int → Int} {n : Int} (hT : txD σ tx n) {a : Int} (ha : σ 1 2 = a) (har : 0 ≤ a ∧ a ≤ n + 1)  : MI l yX9_letterHere cX9_letterHere 1 (some .int) 0 0 K σ [.ref (K.2.2 1)] (fun z τ => σ = τ ∧ z = lh tx n a) := by
  refine met_of [(0, .ref (K.2.2 1))] (by decide +kernel) (Nat.le_of_ble_eq_true rfl) rfl ?_
  intro pP eE sS mM bW mT cC B hrt hlk
  replace B : CB pP sS mM [.ref (K.2.2 1)].toArray cC cX9_letterHere RX9 1 K := B
  obtain ⟨hT1, hT2, hT3⟩ := id hT
  refine g_aload_n (pc' := 1) B 0 rfl rfl dX9_letterHere_0 rfl ?_
  refine g_get (pc' := 4) B a ha fl_X9_19 rfl rfl dX9_letterHere_1 rfl ?_
  refine g_if_lt (pc' := 7) B 40 (by omega) dX9_letterHere_4 (by decide) rfl (fun c4 => ?_) (fun c4 => ?_)
  · refine g_iconst (pc' := 41) B dX9_letterHere_40 rfl ?_
    exact g_iret (z := (-1)) B hrt rfl hlk dX9_letterHere_41 ⟨rfl, by unfold lh; rw [if_neg (by omega)]⟩
  · refine g_aload_n (pc' := 8) B 0 rfl rfl dX9_letterHere_7 rfl ?_
    refine g_get (pc' := 11) B a ha fl_X9_19 rfl rfl dX9_letterHere_8 rfl ?_
    refine g_aload_n (pc' := 12) B 0 rfl rfl dX9_letterHere_11 rfl ?_
    refine g_get (pc' := 15) B n hT.1 fl_X9_15 rfl rfl dX9_letterHere_12 rfl ?_
    refine g_icmp_ge (pc' := 18) B 40 (by omega) (by omega) dX9_letterHere_15 (by decide) rfl (fun c15 => ?_) (fun c15 => ?_)
    · refine g_iconst (pc' := 41) B dX9_letterHere_40 rfl ?_
      exact g_iret (z := (-1)) B hrt rfl hlk dX9_letterHere_41 ⟨rfl, by unfold lh; rw [if_neg (by omega)]⟩
    · refine g_aload_n (pc' := 19) B 0 rfl rfl dX9_letterHere_18 rfl ?_
      refine g_get (pc' := 22) B a ha fl_X9_19 rfl rfl dX9_letterHere_19 rfl ?_
      refine g_sipush (pc' := 25) B (by decide +kernel) dX9_letterHere_22 rfl ?_
      refine g_icmp_ge (pc' := 28) B 40 (by omega) (by omega) dX9_letterHere_25 (by decide) rfl (fun c25 => by exfalso; omega) (fun c25 => ?_)
      refine g_aload_n (pc' := 29) B 0 rfl rfl dX9_letterHere_28 rfl ?_
      refine g_getR (pc' := 32) B 2 fl_X9_9 rfl rfl dX9_letterHere_29 rfl ?_
      refine g_aload_n (pc' := 33) B 0 rfl rfl dX9_letterHere_32 rfl ?_
      refine g_get (pc' := 36) B a ha fl_X9_19 rfl rfl dX9_letterHere_33 rfl ?_
      refine g_iald (pc' := 37) B (tx a) (hT.2.2 _ (by omega) (by omega)).1 rfl (by omega) (by decide) dX9_letterHere_36 rfl ?_
      refine g_goto (pc' := 41) B dX9_letterHere_37 (by decide) ?_
      exact g_iret (z := tx a) B hrt rfl hlk dX9_letterHere_41 ⟨rfl, by unfold lh; rw [if_pos (by omega)]⟩
set_option maxRecDepth 100000 in
set_option maxHeartbeats 4000000 in
theorem c_X9_skipBlanks (l : Launch) (K : WK) (σ : SG) {tx : Int → Int} {n : Int} (hT : txD σ tx n) {a : Int} (ha : σ 1 2 = a) (har : 0 ≤ a ∧ a ≤ n + 1)  : MV l yX9_skipBlanks cX9_skipBlanks 1 none 1 20 K σ [.ref (K.2.2 1)] (fun τ => τ = up σ 1 2 (sb tx n a)) := by
  refine met_of [(0, .ref (K.2.2 1))] (by decide +kernel) (Nat.le_of_ble_eq_true rfl) rfl ?_
  intro pP eE sS mM bW mT cC B hrt hlk
  replace B : CB pP sS mM [.ref (K.2.2 1)].toArray cC cX9_skipBlanks RX9 1 K := B
  obtain ⟨hT1, hT2, hT3⟩ := id hT
  have L0 : ∀ (nn : Nat) (ρ : SG) (y : Int) , (n + 1 - y).toNat = nn → (a ≤ y ∧ y ≤ n + 1) → (sb tx n y = sb tx n a) → (ρ = up σ 1 2 y) → G pP l eE (rmo 1 20) sS mM [.ref (K.2.2 1)].toArray bW mT cC 0 0 (MQ bW (Qv K (fun τ => τ = up σ 1 2 (sb tx n a))) [.ref (K.2.2 1)].toArray sS 0 0 (wA K)) K sS.heap 1 ρ 0 [(0, .ref (K.2.2 1))] [] := by
    intro nn
    induction nn using Nat.strongRecOn with
    | _ nn ih0 =>
      intro ρ y hn0 i1 i2 i3
      have hTρ : txD ρ tx n := hT.keep (by rw [i3]; simp [up]) (by rw [i3]; exact up_row (by decide))
      refine g_aload_n (pc' := 1) B 0 rfl rfl dX9_skipBlanks_0 rfl ?_
      refine g_get (pc' := 4) B y (by rw [i3]; simp [up]) fl_X9_19 rfl rfl dX9_skipBlanks_1 rfl ?_
      refine g_aload_n (pc' := 5) B 0 rfl rfl dX9_skipBlanks_4 rfl ?_
      refine g_get (pc' := 8) B n (by rw [i3]; simp [up, hT1]) fl_X9_15 rfl rfl dX9_skipBlanks_5 rfl ?_
      refine g_icmp_ge (pc' := 11) B 33 (by omega) (by omega) dX9_skipBlanks_8 (by decide) rfl (fun c8 => ?_) (fun c8 => ?_)
      · exact g_vret B hrt hlk dX9_skipBlanks_33 (by rw [i3, ← i2, sb_stop]; first | exact Or.inl c8 | exact Or.inr (by rw [← hle]; exact c17))
      · refine g_aload_n (pc' := 12) B 0 rfl rfl dX9_skipBlanks_11 rfl ?_
        refine g_callVI (pc' := 15) (As := []) B (c_X9_letterHere l K _ (tx := tx) (n := n) (a := y) hTρ (by rw [i3]; simp [up]) (by omega)) vt_X9_letterHere tw_392 rfl rfl ⟨by decide, by decide⟩ rfl (Nat.le_of_ble_eq_true rfl) ⟨Nat.zero_le _, Nat.zero_le _⟩ rfl dX9_skipBlanks_12 rfl (fun z12 τ12 h12 => ?_)
        obtain ⟨rfl, rfl⟩ := h12
        have hly := hT3 y (by omega) c8
        have hle : lh tx n y = tx y := by unfold lh; rw [if_pos (by omega)]
        refine g_bipush (pc' := 17) B (by decide +kernel) dX9_skipBlanks_15 rfl ?_
        refine g_icmp_ne (pc' := 20) B 33 (by omega) (by omega) dX9_skipBlanks_17 (by decide) rfl (fun c17 => ?_) (fun c17 => ?_)
        · exact g_vret B hrt hlk dX9_skipBlanks_33 (by rw [i3, ← i2, sb_stop]; first | exact Or.inl c8 | exact Or.inr (by rw [← hle]; exact c17))
        · have hlt : tx y = 32 := by rw [← hle]; exact c17
          refine g_aload_n (pc' := 21) B 0 rfl rfl dX9_skipBlanks_20 rfl ?_
          refine g_dup (pc' := 22) B rfl dX9_skipBlanks_21 rfl ?_
          refine g_get (pc' := 25) B y (by rw [i3]; simp [up]) fl_X9_19 rfl rfl dX9_skipBlanks_22 rfl ?_
          refine g_iconst (pc' := 26) B dX9_skipBlanks_25 rfl ?_
          refine g_iadd (pc' := 27) B dX9_skipBlanks_26 rfl ?_
          refine g_put (pc' := 30) B 2 rfl fp_X9_19 rfl rfl dX9_skipBlanks_27 rfl ?_
          refine g_goto (pc' := 0) B dX9_skipBlanks_30 (by decide) ?_
          exact ih0 _ (by omega) (up ρ 1 2 (y + 1)) (y + 1) rfl (by omega) (by rw [← i2, sb_go (a := y) c8 hlt]) (by rw [i3]; funext k j; simp [up]; split <;> simp_all)
  exact L0 _ σ a rfl (by omega) (by rfl) (by exact (up_id ha).symm)
