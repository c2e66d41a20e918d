def pbd (n : Int) (P : SG) : Prop := (0 ≤ P 11 0 ∧ P 11 0 ≤ n) ∧ (0 ≤ P 11 1 ∧ P 11 1 ≤ 3)
theorem nm_row (tx : Int → Int) (n lo hi : Int) (P : SG) : ∀ k, k ≠ 11 → nm tx n lo hi P k = P k := by
  intro k hk
  unfold nm
  split
  · rw [up_row hk, up_row hk, up_row hk]
  · rfl
theorem ne_row (tx : Int → Int) (n : Int) (P : SG) : ∀ k, k ≠ 11 → ne tx n P k = P k := by
  intro k hk
  unfold ne
  split
  · split
    · rw [up_row hk]
    · rw [up_row hk, up_row hk, up_row hk]
  · rfl
theorem wd_row (w : Int) (P : SG) : ∀ k, k ≠ 11 → wd w P k = P k := by
  intro k hk
  unfold wd
  split
  · rw [up_row hk]
  · rw [up_row hk, up_row hk]
theorem nm_bd {tx : Int → Int} {n lo hi : Int} {P : SG} (h : pbd n P) : pbd n (nm tx n lo hi P) := by
  unfold nm
  split
  · have h1 := sb_in tx n (P 11 0)
    have h2 := dg_in tx n (sb tx n (P 11 0))
    have h3 := h.1
    refine ⟨?_, ?_⟩
    · simp [up]; unfold nrA; omega
    · simp [up]; unfold nrK; (repeat' split) <;> omega
  · exact h
theorem ne_bd {tx : Int → Int} {n : Int} {P : SG} (h : pbd n P) : pbd n (ne tx n P) := by
  unfold ne
  have h1 := sb_in tx n (P 11 0)
  have h3 := h.1
  have h4 := h.2
  split
  · split
    · rename_i q
      unfold lh at q
      refine ⟨?_, ?_⟩
      · simp [up]; split at q <;> omega
      · simp [up]; omega
    · refine ⟨?_, ?_⟩
      · simp [up]; omega
      · simp [up]
  · exact h
theorem wd_bd {w n : Int} {P : SG} (h : pbd n P) (hn : P 11 0 < n) : pbd n (wd w P) := by
  have h3 := h.1
  have h4 := h.2
  unfold wd
  split
  · refine ⟨?_, ?_⟩
    · simp [up]; omega
    · simp [up]; omega
  · refine ⟨?_, ?_⟩
    · simp [up]; omega
    · simp [up]
theorem nm_3 (tx : Int → Int) (n lo hi : Int) (P : SG) : nm tx n lo hi P 11 3 = P 11 3 := by unfold nm; split <;> simp [up]
theorem ne_3 (tx : Int → Int) (n : Int) (P : SG) : ne tx n P 11 3 = P 11 3 := by unfold ne; (repeat' split) <;> simp [up]
theorem wd_3 (w : Int) (P : SG) : wd w P 11 3 = P 11 3 := by unfold wd; split <;> simp [up]
theorem nm_zero {tx : Int → Int} {n lo hi : Int} {P : SG} (h : nm tx n lo hi P 11 1 = 0) : P 11 1 = 0 ∧ lo ≤ nv tx n P ∧ nv tx n P ≤ hi := by
  unfold nm at h
  split at h
  · rename_i q
    refine ⟨q, ?_⟩
    unfold nv
    rw [if_pos q]
    have h2 : nrK tx n lo hi (P 11 0) = 0 := by simpa [up] using h
    unfold nrK at h2
    split at h2
    · omega
    · split at h2
      · omega
      · omega
  · rename_i q; exact absurd h q
theorem ne_zero {tx : Int → Int} {n : Int} {P : SG} (h : ne tx n P 11 1 = 0) : P 11 1 = 0 := by
  unfold ne at h
  split at h
  · rename_i q; exact q
  · exact h
theorem wd_zero {w : Int} {P : SG} (h : wd w P 11 1 = 0) : w = 0 := by
  unfold wd at h
  split at h
  · rename_i q; exact q
  · simp [up] at h
theorem gD.cong {σ : SG} {g : Nat} {D D' : SG} (h : gD σ g D) (e : ∀ k, k ≠ 11 → D' k = D k) : gD σ g D' := by
  unfold gD at *
  rw [e 9 (by decide), e 0 (by decide), e 1 (by decide), e 2 (by decide), e 3 (by decide)]
  exact h
theorem qD.cong {σ : SG} {g : Nat} {D D' : SG} (h : qD σ g D) (e : ∀ k, k ≠ 11 → D' k = D k) : qD σ g D' := by
  unfold qD at *
  rw [e 9 (by decide), e 5 (by decide), e 6 (by decide), e 7 (by decide), e 8 (by decide)]
  exact h
theorem sD.cong {σ : SG} {b : Nat} {D D' : SG} (h : sD σ b D) (e : ∀ k, k ≠ 11 → D' k = D k) : sD σ b D' := by
  unfold sD at *
  rw [e 9 (by decide), e 4 (by decide)]
  exact ⟨h.1.cong e, h.2.1.cong e, h.2.2⟩
theorem okF.cong {D D' : SG} (h : okF D) (e : ∀ k, k ≠ 11 → D' k = D k) : okF D' := by
  unfold okF at *
  rw [e 9 (by decide), e 0 (by decide), e 1 (by decide), e 2 (by decide), e 3 (by decide)]
  exact h
theorem okQ.cong {D D' : SG} (h : okQ D) (e : ∀ k, k ≠ 11 → D' k = D k) : okQ D' := by
  unfold okQ at *
  rw [e 9 (by decide), e 5 (by decide), e 6 (by decide), e 7 (by decide), e 8 (by decide)]
  exact h
theorem okH.cong {D D' : SG} (h : okH D) (e : ∀ k, k ≠ 11 → D' k = D k) : okH D' := by
  unfold okH at *
  rw [e 9 (by decide), e 4 (by decide)]
  exact h
def f6 (tx : Int → Int) (n : Int) (Q : SG) : SG := ne tx n (nm tx n 0 9 (nm tx n 0 11 (nm tx n 2 12 (nm tx n 0 99 Q))))
def fC (tx : Int → Int) (n : Int) (P : SG) : SG := (fun Q => if f6 tx n Q 11 1 = 0 then dF (f6 tx n Q) (nv tx n Q) (nv tx n (nm tx n 0 99 Q)) (nv tx n (nm tx n 2 12 (nm tx n 0 99 Q))) (nv tx n (nm tx n 0 11 (nm tx n 2 12 (nm tx n 0 99 Q)))) else f6 tx n Q) (wd (if P 9 0 < 8 then 0 else 1) P)
def dH (D : SG) (f s : Int) : SG := up (up (up D 4 (D 9 1) f) 10 (D 9 1) s) 9 1 (D 9 1 + 1)
def h4 (tx : Int → Int) (n u : Int) (Q : SG) : SG := ne tx n (nm tx n 0 99 (nm tx n 0 (u - 2) Q))
def hC (tx : Int → Int) (n : Int) (P : SG) : SG := (fun Q => if h4 tx n (P 9 0) Q 11 1 = 0 then dH (h4 tx n (P 9 0) Q) (nv tx n Q) (nv tx n (nm tx n 0 (P 9 0 - 2) Q)) else h4 tx n (P 9 0) Q) (wd (if P 9 1 < 4 then 0 else 1) P)
def s6 (tx : Int → Int) (n u : Int) (Q : SG) : SG := ne tx n (nm tx n 0 12 (nm tx n 0 11 (nm tx n 1 12 (nm tx n 0 (u - 2) Q))))
def sC (tx : Int → Int) (n : Int) (P : SG) : SG := (fun Q => if s6 tx n (P 9 0) Q 11 1 = 0 then dQ (s6 tx n (P 9 0) Q) (nv tx n Q) (nv tx n (nm tx n 0 (P 9 0 - 2) Q)) (nv tx n (nm tx n 1 12 (nm tx n 0 (P 9 0 - 2) Q))) (nv tx n (nm tx n 0 11 (nm tx n 1 12 (nm tx n 0 (P 9 0 - 2) Q)))) else s6 tx n (P 9 0) Q) (wd (if P 9 2 < 4 then 0 else 1) P)
def b3 (tx : Int → Int) (n u : Int) (Q : SG) : SG := ne tx n (nm tx n 0 (u - 1) Q)
def bC (tx : Int → Int) (n : Int) (P : SG) : SG := (fun Q => if b3 tx n (P 9 0) Q 11 1 = 0 then up (b3 tx n (P 9 0) Q) 11 3 (nv tx n Q) else b3 tx n (P 9 0) Q) (wd (if P 11 3 = -1 then 0 else 1) P)
theorem dF_11 (D : SG) (b n l s : Int) : dF D b n l s 11 = D 11 := by unfold dF; rw [up_row (by decide), up_row (by decide), up_row (by decide), up_row (by decide), up_row (by decide), up_row (by decide)]
theorem dQ_11 (D : SG) (f p r w : Int) : dQ D f p r w 11 = D 11 := by unfold dQ; rw [up_row (by decide), up_row (by decide), up_row (by decide), up_row (by decide), up_row (by decide)]
theorem dH_11 (D : SG) (f s : Int) : dH D f s 11 = D 11 := by unfold dH; rw [up_row (by decide), up_row (by decide), up_row (by decide)]
set_option maxRecDepth 100000 in
set_option maxHeartbeats 4000000 in
theorem c_X9_readField (l : Launch) (K : WK) (σ : SG) {tx : Int → Int} {n : Int} (hT : txD σ tx n) {P : SG} (hP : ctx σ P) (hb0 : pbd n P) (hnf : P 11 1 = 0 ∧ P 11 0 < n) {g : Nat} (hg : g = 4 ∨ g = 18) (hD : gD σ g P) (hF : okF P) (hr : 1 ≤ P 9 3 ∧ P 9 3 ≤ 100000) : MV l yX9_readField cX9_readField 6 none 3 64 K σ [.ref (K.2.2 1), .ref (K.2.2 g)] (fun τ => txD τ tx n ∧ ctx τ (fC tx n P) ∧ gD τ g (fC tx n P) ∧ ∀ k, k ≠ 1 → (k < g ∨ g + 4 < k) → τ k = σ k) := by
  refine met_of [(0, .ref (K.2.2 1)), (1, .ref (K.2.2 g))] (by decide +kernel) (Nat.le_of_ble_eq_true rfl) rfl ?_
  intro pP eE sS mM bW mT cC B hrt hlk
  replace B : CB pP sS mM [.ref (K.2.2 1), .ref (K.2.2 g)].toArray cC cX9_readField RX9 6 K := B
  obtain ⟨hT1, hT2, hT3⟩ := id hT
  have hb1 := hb0.1
  have hb2 := hb0.2
  obtain ⟨hF0, hF1⟩ := id hF
  refine g_aload_n (pc' := 1) B 0 rfl rfl dX9_readField_0 rfl ?_
  refine g_aload_n (pc' := 2) B 1 rfl rfl dX9_readField_1 rfl ?_
  refine g_get (pc' := 5) B (P 9 0) hD.1 fl_X9_59 (ly_G hg) rfl dX9_readField_2 rfl ?_
  refine g_bipush (pc' := 7) B (by decide +kernel) dX9_readField_5 rfl ?_
  refine g_icmp_lt (pc' := 10) B 14 (by omega) (by omega) dX9_readField_7 (by decide) rfl (fun c7 => ?_) (fun c7 => ?_)
  · refine g_iconst (pc' := 15) B dX9_readField_14 rfl ?_
    refine g_callVV (pc' := 18) (As := [.int (iI 0)]) B (c_X9_readWord l K _ (tx := tx) (n := n) (P := P) (w := 0) hT hP hb0.1 hb0.2 (by omega)) vt_X9_readWord tw_404 rfl rfl ⟨by decide, by decide⟩ rfl (Nat.le_of_ble_eq_true rfl) ⟨Nat.zero_le _, Nat.zero_le _⟩ rfl dX9_readField_15 rfl (fun τ15 h15 => ?_)
    obtain ⟨h15a, h15b, h15c⟩ := h15
    generalize eQ1 : wd 0 P = Q1 at h15b
    have bQ1 : pbd n Q1 := by rw [← eQ1]; exact wd_bd hb0 hnf.2
    have rQ1 : ∀ k, k ≠ 11 → Q1 k = P k := by rw [← eQ1]; exact wd_row _ _
    refine g_aload_n (pc' := 19) B 0 rfl rfl dX9_readField_18 rfl ?_
    refine g_iconst (pc' := 20) B dX9_readField_19 rfl ?_
    refine g_bipush (pc' := 22) B (by decide +kernel) dX9_readField_20 rfl ?_
    refine g_callVI (pc' := 25) (As := [.int (iI 0), .int (iI 99)]) B (c_X9_readNumber l K _ (tx := tx) (n := n) (P := Q1) (lo := 0) (hi := 99) h15a h15b bQ1.1 bQ1.2 (by omega) (by omega)) vt_X9_readNumber tw_412 rfl rfl ⟨by decide, by decide⟩ rfl (Nat.le_of_ble_eq_true rfl) ⟨Nat.zero_le _, Nat.zero_le _⟩ rfl dX9_readField_22 rfl (fun z22 τ22 h22 => ?_)
    obtain ⟨h22a, h22b, h22v, h22c⟩ := h22
    generalize eQ2 : nm tx n 0 99 Q1 = Q2 at h22b
    have bQ2 : pbd n Q2 := by rw [← eQ2]; exact nm_bd bQ1
    have rQ2 : ∀ k, k ≠ 11 → Q2 k = Q1 k := by rw [← eQ2]; exact nm_row _ _ _ _ _
    refine g_istore_n (pc' := 26) B [(2, .int (iI z22)), (0, .ref (K.2.2 1)), (1, .ref (K.2.2 g))] dX9_readField_25 rfl rfl (by decide) rfl ?_
    refine g_aload_n (pc' := 27) B 1 rfl rfl dX9_readField_26 rfl ?_
    refine g_iconst (pc' := 28) B dX9_readField_27 rfl ?_
    refine g_bipush (pc' := 30) B (by decide +kernel) dX9_readField_28 rfl ?_
    refine g_callVI (pc' := 33) (As := [.int (iI 2), .int (iI 12)]) B (c_X9_readNumber l K _ (tx := tx) (n := n) (P := Q2) (lo := 2) (hi := 12) h22a h22b bQ2.1 bQ2.2 (by omega) (by omega)) vt_X9_readNumber tw_412 rfl rfl ⟨by decide, by decide⟩ rfl (Nat.le_of_ble_eq_true rfl) ⟨Nat.zero_le _, Nat.zero_le _⟩ rfl dX9_readField_30 rfl (fun z30 τ30 h30 => ?_)
    obtain ⟨h30a, h30b, h30v, h30c⟩ := h30
    generalize eQ3 : nm tx n 2 12 Q2 = Q3 at h30b
    have bQ3 : pbd n Q3 := by rw [← eQ3]; exact nm_bd bQ2
    have rQ3 : ∀ k, k ≠ 11 → Q3 k = Q2 k := by rw [← eQ3]; exact nm_row _ _ _ _ _
    refine g_istore_n (pc' := 34) B [(3, .int (iI z30)), (2, .int (iI z22)), (0, .ref (K.2.2 1)), (1, .ref (K.2.2 g))] dX9_readField_33 rfl rfl (by decide) rfl ?_
    refine g_aload_n (pc' := 35) B 2 rfl rfl dX9_readField_34 rfl ?_
    refine g_iconst (pc' := 36) B dX9_readField_35 rfl ?_
    refine g_bipush (pc' := 38) B (by decide +kernel) dX9_readField_36 rfl ?_
    refine g_callVI (pc' := 41) (As := [.int (iI 0), .int (iI 11)]) B (c_X9_readNumber l K _ (tx := tx) (n := n) (P := Q3) (lo := 0) (hi := 11) h30a h30b bQ3.1 bQ3.2 (by omega) (by omega)) vt_X9_readNumber tw_412 rfl rfl ⟨by decide, by decide⟩ rfl (Nat.le_of_ble_eq_true rfl) ⟨Nat.zero_le _, Nat.zero_le _⟩ rfl dX9_readField_38 rfl (fun z38 τ38 h38 => ?_)
    obtain ⟨h38a, h38b, h38v, h38c⟩ := h38
    generalize eQ4 : nm tx n 0 11 Q3 = Q4 at h38b
    have bQ4 : pbd n Q4 := by rw [← eQ4]; exact nm_bd bQ3
    have rQ4 : ∀ k, k ≠ 11 → Q4 k = Q3 k := by rw [← eQ4]; exact nm_row _ _ _ _ _
    refine g_istore (pc' := 43) B [(4, .int (iI z38)), (3, .int (iI z30)), (2, .int (iI z22)), (0, .ref (K.2.2 1)), (1, .ref (K.2.2 g))] dX9_readField_41 rfl (by decide) rfl ?_
    refine g_aload_n (pc' := 44) B 3 rfl rfl dX9_readField_43 rfl ?_
    refine g_iconst (pc' := 45) B dX9_readField_44 rfl ?_
    refine g_bipush (pc' := 47) B (by decide +kernel) dX9_readField_45 rfl ?_
    refine g_callVI (pc' := 50) (As := [.int (iI 0), .int (iI 9)]) B (c_X9_readNumber l K _ (tx := tx) (n := n) (P := Q4) (lo := 0) (hi := 9) h38a h38b bQ4.1 bQ4.2 (by omega) (by omega)) vt_X9_readNumber tw_412 rfl rfl ⟨by decide, by decide⟩ rfl (Nat.le_of_ble_eq_true rfl) ⟨Nat.zero_le _, Nat.zero_le _⟩ rfl dX9_readField_47 rfl (fun z47 τ47 h47 => ?_)
    obtain ⟨h47a, h47b, h47v, h47c⟩ := h47
    generalize eQ5 : nm tx n 0 9 Q4 = Q5 at h47b
    have bQ5 : pbd n Q5 := by rw [← eQ5]; exact nm_bd bQ4
    have rQ5 : ∀ k, k ≠ 11 → Q5 k = Q4 k := by rw [← eQ5]; exact nm_row _ _ _ _ _
    refine g_istore (pc' := 52) B [(5, .int (iI z47)), (4, .int (iI z38)), (3, .int (iI z30)), (2, .int (iI z22)), (0, .ref (K.2.2 1)), (1, .ref (K.2.2 g))] dX9_readField_50 rfl (by decide) rfl ?_
    refine g_aload_n (pc' := 53) B 4 rfl rfl dX9_readField_52 rfl ?_
    refine g_callVV (pc' := 56) (As := []) B (c_X9_readEnd l K _ (tx := tx) (n := n) (P := Q5) h47a h47b bQ5.1 bQ5.2) vt_X9_readEnd tw_420 rfl rfl ⟨by decide, by decide⟩ rfl (Nat.le_of_ble_eq_true rfl) ⟨Nat.zero_le _, Nat.zero_le _⟩ rfl dX9_readField_53 rfl (fun τ53 h53 => ?_)
    obtain ⟨h53a, h53b, h53c⟩ := h53
    generalize eQ6 : ne tx n Q5 = Q6 at h53b
    have bQ6 : pbd n Q6 := by rw [← eQ6]; exact ne_bd bQ5
    have rQ6 : ∀ k, k ≠ 11 → Q6 k = Q5 k := by rw [← eQ6]; exact ne_row _ _ _
    refine g_aload_n (pc' := 57) B 4 rfl rfl dX9_readField_56 rfl ?_
    have hk6 := bQ6.2
    have r6 : ∀ k, k ≠ 11 → Q6 k = P k := fun k hk => by rw [rQ6 k hk, rQ5 k hk, rQ4 k hk, rQ3 k hk, rQ2 k hk, rQ1 k hk]
    have f6x : ∀ k, k ≠ 1 → τ53 k = σ k := fun k hk => by rw [h53c k hk, h47c k hk, h38c k hk, h30c k hk, h22c k hk, h15c k hk]
    have e6 : f6 tx n Q1 = Q6 := by unfold f6; rw [eQ2, eQ3, eQ4, eQ5, eQ6]
    have eW : wd (if P 9 0 < 8 then 0 else 1) P = Q1 := by first | (rw [if_pos c7]; exact eQ1) | (rw [if_neg (by omega)]; exact eQ1)
    have eF : fC tx n P = (if Q6 11 1 = 0 then dF Q6 z22 z30 z38 z47 else Q6) := by unfold fC; rw [eW]; simp only [e6, eQ2, eQ3, eQ4, eQ5, ← h22v, ← h30v, ← h38v, ← h47v]
    have hb3 : Q6 11 3 = P 11 3 := by rw [← eQ6, ne_3, ← eQ5, nm_3, ← eQ4, nm_3, ← eQ3, nm_3, ← eQ2, nm_3, ← eQ1, wd_3]
    refine g_get (pc' := 60) B (Q6 11 1) h53b.2.1 fl_X9_22 rfl rfl dX9_readField_57 rfl ?_
    refine g_if_ne (pc' := 63) B 73 (by omega) dX9_readField_60 (by decide) rfl (fun c60 => ?_) (fun c60 => ?_)
    · rw [if_neg c60] at eF
      have hA1 := h53a
      have hA2 : ctx τ53 (fC tx n P) := by rw [eF]; exact h53b
      have hA3 : gD τ53 g (fC tx n P) := by rw [eF]; exact (hD.keep (fun k a b => f6x k (by omega))).cong r6
      have hA4 : ∀ k, k ≠ 1 → (k < g ∨ g + 4 < k) → τ53 k = σ k := fun k hk _ => f6x k hk
      exact g_vret B hrt hlk dX9_readField_73 ⟨hA1, hA2, hA3, hA4⟩
    · rw [← eQ6] at c60
      have v5 := ne_zero c60
      rw [eQ6] at c60
      rw [← eQ5] at v5
      have y4 := nm_zero v5
      have v4 := y4.1
      rw [← h47v] at y4
      rw [← eQ4] at v4
      have y3 := nm_zero v4
      have v3 := y3.1
      rw [← h38v] at y3
      rw [← eQ3] at v3
      have y2 := nm_zero v3
      have v2 := y2.1
      rw [← h30v] at y2
      rw [← eQ2] at v2
      have y1 := nm_zero v2
      have v1 := y1.1
      rw [← h22v] at y1
      rw [← eQ1] at v1
      have y0 := wd_zero v1
      have r90 := congrFun (r6 9 (by decide))
      have r90a := r90 0
      have r90b := r90 1
      have r90c := r90 2
      have r90d := r90 3
      have hD6 : gD τ53 g Q6 := (hD.keep (fun k a b => f6x k (by omega))).cong r6
      have hF6 := hF.cong r6
      refine g_aload_n (pc' := 64) B 5 rfl rfl dX9_readField_63 rfl ?_
      refine g_iload_n (pc' := 65) B 3 rfl rfl dX9_readField_64 rfl ?_
      refine g_iload_n (pc' := 66) B 2 rfl rfl dX9_readField_65 rfl ?_
      refine g_iload (pc' := 68) B 1 rfl dX9_readField_66 rfl ?_
      refine g_iload (pc' := 70) B 0 rfl dX9_readField_68 rfl ?_
      refine g_callVV (pc' := 73) (As := [.int (iI z22), .int (iI z30), .int (iI z38), .int (iI z47)]) B (c_X2_add l K _ (g := g) (D := Q6) (b := z22) (n := z30) (l1 := z38) (s := z47) (by omega) hD6 hF6 (by omega) (by omega) (by omega) (by omega) (by omega) (by omega)) vt_X2_add tw_424 (ly_G hg) rfl ⟨by decide, by decide⟩ rfl (Nat.le_of_ble_eq_true rfl) ⟨Nat.zero_le _, Nat.zero_le _⟩ rfl dX9_readField_70 rfl (fun τ70 h70 => ?_)
      obtain ⟨h70a, h70b⟩ := h70
      rw [if_pos c60] at eF
      have hA1 : txD τ70 tx n := h53a.keep (by rw [h70b 1 (by omega)]) (h70b 2 (by omega))
      have hA2 : ctx τ70 (fC tx n P) := by rw [eF]; unfold ctx; rw [h70b 1 (by omega), dF_11]; exact h53b
      have hA3 : gD τ70 g (fC tx n P) := by rw [eF]; exact h70a
      have hA4 : ∀ k, k ≠ 1 → (k < g ∨ g + 4 < k) → τ70 k = σ k := fun k hk hk2 => by rw [h70b k hk2]; exact f6x k hk
      exact g_vret B hrt hlk dX9_readField_73 ⟨hA1, hA2, hA3, hA4⟩
  · refine g_iconst (pc' := 11) B dX9_readField_10 rfl ?_
    refine g_goto (pc' := 15) B dX9_readField_11 (by decide) ?_
    refine g_callVV (pc' := 18) (As := [.int (iI 1)]) B (c_X9_readWord l K _ (tx := tx) (n := n) (P := P) (w := 1) hT hP hb0.1 hb0.2 (by omega)) vt_X9_readWord tw_404 rfl rfl ⟨by decide, by decide⟩ rfl (Nat.le_of_ble_eq_true rfl) ⟨Nat.zero_le _, Nat.zero_le _⟩ rfl dX9_readField_15 rfl (fun τ15 h15 => ?_)
    obtain ⟨h15a, h15b, h15c⟩ := h15
    generalize eQ1 : wd 1 P = Q1 at h15b
    have bQ1 : pbd n Q1 := by rw [← eQ1]; exact wd_bd hb0 hnf.2
    have rQ1 : ∀ k, k ≠ 11 → Q1 k = P k := by rw [← eQ1]; exact wd_row _ _
    refine g_aload_n (pc' := 19) B 0 rfl rfl dX9_readField_18 rfl ?_
    refine g_iconst (pc' := 20) B dX9_readField_19 rfl ?_
    refine g_bipush (pc' := 22) B (by decide +kernel) dX9_readField_20 rfl ?_
    refine g_callVI (pc' := 25) (As := [.int (iI 0), .int (iI 99)]) B (c_X9_readNumber l K _ (tx := tx) (n := n) (P := Q1) (lo := 0) (hi := 99) h15a h15b bQ1.1 bQ1.2 (by omega) (by omega)) vt_X9_readNumber tw_412 rfl rfl ⟨by decide, by decide⟩ rfl (Nat.le_of_ble_eq_true rfl) ⟨Nat.zero_le _, Nat.zero_le _⟩ rfl dX9_readField_22 rfl (fun z22 τ22 h22 => ?_)
    obtain ⟨h22a, h22b, h22v, h22c⟩ := h22
    generalize eQ2 : nm tx n 0 99 Q1 = Q2 at h22b
    have bQ2 : pbd n Q2 := by rw [← eQ2]; exact nm_bd bQ1
    have rQ2 : ∀ k, k ≠ 11 → Q2 k = Q1 k := by rw [← eQ2]; exact nm_row _ _ _ _ _
    refine g_istore_n (pc' := 26) B [(2, .int (iI z22)), (0, .ref (K.2.2 1)), (1, .ref (K.2.2 g))] dX9_readField_25 rfl rfl (by decide) rfl ?_
    refine g_aload_n (pc' := 27) B 1 rfl rfl dX9_readField_26 rfl ?_
    refine g_iconst (pc' := 28) B dX9_readField_27 rfl ?_
    refine g_bipush (pc' := 30) B (by decide +kernel) dX9_readField_28 rfl ?_
    refine g_callVI (pc' := 33) (As := [.int (iI 2), .int (iI 12)]) B (c_X9_readNumber l K _ (tx := tx) (n := n) (P := Q2) (lo := 2) (hi := 12) h22a h22b bQ2.1 bQ2.2 (by omega) (by omega)) vt_X9_readNumber tw_412 rfl rfl ⟨by decide, by decide⟩ rfl (Nat.le_of_ble_eq_true rfl) ⟨Nat.zero_le _, Nat.zero_le _⟩ rfl dX9_readField_30 rfl (fun z30 τ30 h30 => ?_)
    obtain ⟨h30a, h30b, h30v, h30c⟩ := h30
    generalize eQ3 : nm tx n 2 12 Q2 = Q3 at h30b
    have bQ3 : pbd n Q3 := by rw [← eQ3]; exact nm_bd bQ2
    have rQ3 : ∀ k, k ≠ 11 → Q3 k = Q2 k := by rw [← eQ3]; exact nm_row _ _ _ _ _
    refine g_istore_n (pc' := 34) B [(3, .int (iI z30)), (2, .int (iI z22)), (0, .ref (K.2.2 1)), (1, .ref (K.2.2 g))] dX9_readField_33 rfl rfl (by decide) rfl ?_
    refine g_aload_n (pc' := 35) B 2 rfl rfl dX9_readField_34 rfl ?_
    refine g_iconst (pc' := 36) B dX9_readField_35 rfl ?_
    refine g_bipush (pc' := 38) B (by decide +kernel) dX9_readField_36 rfl ?_
    refine g_callVI (pc' := 41) (As := [.int (iI 0), .int (iI 11)]) B (c_X9_readNumber l K _ (tx := tx) (n := n) (P := Q3) (lo := 0) (hi := 11) h30a h30b bQ3.1 bQ3.2 (by omega) (by omega)) vt_X9_readNumber tw_412 rfl rfl ⟨by decide, by decide⟩ rfl (Nat.le_of_ble_eq_true rfl) ⟨Nat.zero_le _, Nat.zero_le _⟩ rfl dX9_readField_38 rfl (fun z38 τ38 h38 => ?_)
    obtain ⟨h38a, h38b, h38v, h38c⟩ := h38
    generalize eQ4 : nm tx n 0 11 Q3 = Q4 at h38b
    have bQ4 : pbd n Q4 := by rw [← eQ4]; exact nm_bd bQ3
    have rQ4 : ∀ k, k ≠ 11 → Q4 k = Q3 k := by rw [← eQ4]; exact nm_row _ _ _ _ _
    refine g_istore (pc' := 43) B [(4, .int (iI z38)), (3, .int (iI z30)), (2, .int (iI z22)), (0, .ref (K.2.2 1)), (1, .ref (K.2.2 g))] dX9_readField_41 rfl (by decide) rfl ?_
    refine g_aload_n (pc' := 44) B 3 rfl rfl dX9_readField_43 rfl ?_
    refine g_iconst (pc' := 45) B dX9_readField_44 rfl ?_
    refine g_bipush (pc' := 47) B (by decide +kernel) dX9_readField_45 rfl ?_
    refine g_callVI (pc' := 50) (As := [.int (iI 0), .int (iI 9)]) B (c_X9_readNumber l K _ (tx := tx) (n := n) (P := Q4) (lo := 0) (hi := 9) h38a h38b bQ4.1 bQ4.2 (by omega) (by omega)) vt_X9_readNumber tw_412 rfl rfl ⟨by decide, by decide⟩ rfl (Nat.le_of_ble_eq_true rfl) ⟨Nat.zero_le _, Nat.zero_le _⟩ rfl dX9_readField_47 rfl (fun z47 τ47 h47 => ?_)
    obtain ⟨h47a, h47b, h47v, h47c⟩ := h47
    generalize eQ5 : nm tx n 0 9 Q4 = Q5 at h47b
    have bQ5 : pbd n Q5 := by rw [← eQ5]; exact nm_bd bQ4
    have rQ5 : ∀ k, k ≠ 11 → Q5 k = Q4 k := by rw [← eQ5]; exact nm_row _ _ _ _ _
    refine g_istore (pc' := 52) B [(5, .int (iI z47)), (4, .int (iI z38)), (3, .int (iI z30)), (2, .int (iI z22)), (0, .ref (K.2.2 1)), (1, .ref (K.2.2 g))] dX9_readField_50 rfl (by decide) rfl ?_
    refine g_aload_n (pc' := 53) B 4 rfl rfl dX9_readField_52 rfl ?_
    refine g_callVV (pc' := 56) (As := []) B (c_X9_readEnd l K _ (tx := tx) (n := n) (P := Q5) h47a h47b bQ5.1 bQ5.2) vt_X9_readEnd tw_420 rfl rfl ⟨by decide, by decide⟩ rfl (Nat.le_of_ble_eq_true rfl) ⟨Nat.zero_le _, Nat.zero_le _⟩ rfl dX9_readField_53 rfl (fun τ53 h53 => ?_)
    obtain ⟨h53a, h53b, h53c⟩ := h53
    generalize eQ6 : ne tx n Q5 = Q6 at h53b
    have bQ6 : pbd n Q6 := by rw [← eQ6]; exact ne_bd bQ5
    have rQ6 : ∀ k, k ≠ 11 → Q6 k = Q5 k := by rw [← eQ6]; exact ne_row _ _ _
    refine g_aload_n (pc' := 57) B 4 rfl rfl dX9_readField_56 rfl ?_
    have hk6 := bQ6.2
    have r6 : ∀ k, k ≠ 11 → Q6 k = P k := fun k hk => by rw [rQ6 k hk, rQ5 k hk, rQ4 k hk, rQ3 k hk, rQ2 k hk, rQ1 k hk]
    have f6x : ∀ k, k ≠ 1 → τ53 k = σ k := fun k hk => by rw [h53c k hk, h47c k hk, h38c k hk, h30c k hk, h22c k hk, h15c k hk]
    have e6 : f6 tx n Q1 = Q6 := by unfold f6; rw [eQ2, eQ3, eQ4, eQ5, eQ6]
    have eW : wd (if P 9 0 < 8 then 0 else 1) P = Q1 := by first | (rw [if_pos c7]; exact eQ1) | (rw [if_neg (by omega)]; exact eQ1)
    have eF : fC tx n P = (if Q6 11 1 = 0 then dF Q6 z22 z30 z38 z47 else Q6) := by unfold fC; rw [eW]; simp only [e6, eQ2, eQ3, eQ4, eQ5, ← h22v, ← h30v, ← h38v, ← h47v]
    have hb3 : Q6 11 3 = P 11 3 := by rw [← eQ6, ne_3, ← eQ5, nm_3, ← eQ4, nm_3, ← eQ3, nm_3, ← eQ2, nm_3, ← eQ1, wd_3]
    refine g_get (pc' := 60) B (Q6 11 1) h53b.2.1 fl_X9_22 rfl rfl dX9_readField_57 rfl ?_
    refine g_if_ne (pc' := 63) B 73 (by omega) dX9_readField_60 (by decide) rfl (fun c60 => ?_) (fun c60 => ?_)
    · rw [if_neg c60] at eF
      have hA1 := h53a
      have hA2 : ctx τ53 (fC tx n P) := by rw [eF]; exact h53b
      have hA3 : gD τ53 g (fC tx n P) := by rw [eF]; exact (hD.keep (fun k a b => f6x k (by omega))).cong r6
      have hA4 : ∀ k, k ≠ 1 → (k < g ∨ g + 4 < k) → τ53 k = σ k := fun k hk _ => f6x k hk
      exact g_vret B hrt hlk dX9_readField_73 ⟨hA1, hA2, hA3, hA4⟩
    · rw [← eQ6] at c60
      have v5 := ne_zero c60
      rw [eQ6] at c60
      rw [← eQ5] at v5
      have y4 := nm_zero v5
      have v4 := y4.1
      rw [← h47v] at y4
      rw [← eQ4] at v4
      have y3 := nm_zero v4
      have v3 := y3.1
      rw [← h38v] at y3
      rw [← eQ3] at v3
      have y2 := nm_zero v3
      have v2 := y2.1
      rw [← h30v] at y2
      rw [← eQ2] at v2
      have y1 := nm_zero v2
      have v1 := y1.1
      rw [← h22v] at y1
      rw [← eQ1] at v1
      have y0 := wd_zero v1
      have r90 := congrFun (r6 9 (by decide))
      have r90a := r90 0
      have r90b := r90 1
      have r90c := r90 2
      have r90d := r90 3
      have hD6 : gD τ53 g Q6 := (hD.keep (fun k a b => f6x k (by omega))).cong r6
      have hF6 := hF.cong r6
      refine g_aload_n (pc' := 64) B 5 rfl rfl dX9_readField_63 rfl ?_
      refine g_iload_n (pc' := 65) B 3 rfl rfl dX9_readField_64 rfl ?_
      refine g_iload_n (pc' := 66) B 2 rfl rfl dX9_readField_65 rfl ?_
      refine g_iload (pc' := 68) B 1 rfl dX9_readField_66 rfl ?_
      refine g_iload (pc' := 70) B 0 rfl dX9_readField_68 rfl ?_
      refine g_callVV (pc' := 73) (As := [.int (iI z22), .int (iI z30), .int (iI z38), .int (iI z47)]) B (c_X2_add l K _ (g := g) (D := Q6) (b := z22) (n := z30) (l1 := z38) (s := z47) (by omega) hD6 hF6 (by omega) (by omega) (by omega) (by omega) (by omega) (by omega)) vt_X2_add tw_424 (ly_G hg) rfl ⟨by decide, by decide⟩ rfl (Nat.le_of_ble_eq_true rfl) ⟨Nat.zero_le _, Nat.zero_le _⟩ rfl dX9_readField_70 rfl (fun τ70 h70 => ?_)
      obtain ⟨h70a, h70b⟩ := h70
      rw [if_pos c60] at eF
      have hA1 : txD τ70 tx n := h53a.keep (by rw [h70b 1 (by omega)]) (h70b 2 (by omega))
      have hA2 : ctx τ70 (fC tx n P) := by rw [eF]; unfold ctx; rw [h70b 1 (by omega), dF_11]; exact h53b
      have hA3 : gD τ70 g (fC tx n P) := by rw [eF]; exact h70a
      have hA4 : ∀ k, k ≠ 1 → (k < g ∨ g + 4 < k) → τ70 k = σ k := fun k hk hk2 => by rw [h70b k hk2]; exact f6x k hk
      exact g_vret B hrt hlk dX9_readField_73 ⟨hA1, hA2, hA3, hA4⟩
set_option maxRecDepth 100000 in
set_option maxHeartbeats 4000000 in
theorem c_X9_readSeam (l : Launch) (K : WK) (σ : SG) {tx : Int → Int} {n : Int} (hT : txD σ tx n) {P : SG} (hP : ctx σ P) (hb0 : pbd n P) (hnf : P 11 1 = 0 ∧ P 11 0 < n) {q : Nat} (hq : q = 10 ∨ q = 24) (hQ : qD σ q P) (hO : okQ P) {u : Int} (hu : u = P 9 0) (hu0 : 0 ≤ u ∧ u ≤ 8) : MV l yX9_readSeam cX9_readSeam 7 none 3 64 K σ [.ref (K.2.2 1), .ref (K.2.2 q), .int (iI u)] (fun τ => txD τ tx n ∧ ctx τ (sC tx n P) ∧ qD τ q (sC tx n P) ∧ ∀ k, k ≠ 1 → (k < q ∨ q + 4 < k) → τ k = σ k) := by
  refine met_of [(0, .ref (K.2.2 1)), (1, .ref (K.2.2 q)), (2, .int (iI u))] (by decide +kernel) (Nat.le_of_ble_eq_true rfl) rfl ?_
  intro pP eE sS mM bW mT cC B hrt hlk
  replace B : CB pP sS mM [.ref (K.2.2 1), .ref (K.2.2 q), .int (iI u)].toArray cC cX9_readSeam RX9 7 K := B
  obtain ⟨hT1, hT2, hT3⟩ := id hT
  have hb1 := hb0.1
  have hb2 := hb0.2
  obtain ⟨hO0, hO1⟩ := id hO
  refine g_aload_n (pc' := 1) B 0 rfl rfl dX9_readSeam_0 rfl ?_
  refine g_aload_n (pc' := 2) B 1 rfl rfl dX9_readSeam_1 rfl ?_
  refine g_get (pc' := 5) B (P 9 2) hQ.1 fl_X9_96 (ly_Q hq) rfl dX9_readSeam_2 rfl ?_
  refine g_iconst (pc' := 6) B dX9_readSeam_5 rfl ?_
  refine g_icmp_lt (pc' := 9) B 13 (by omega) (by omega) dX9_readSeam_6 (by decide) rfl (fun c6 => ?_) (fun c6 => ?_)
  · refine g_iconst (pc' := 14) B dX9_readSeam_13 rfl ?_
    refine g_callVV (pc' := 17) (As := [.int (iI 0)]) B (c_X9_readWord l K _ (tx := tx) (n := n) (P := P) (w := 0) hT hP hb0.1 hb0.2 (by omega)) vt_X9_readWord tw_404 rfl rfl ⟨by decide, by decide⟩ rfl (Nat.le_of_ble_eq_true rfl) ⟨Nat.zero_le _, Nat.zero_le _⟩ rfl dX9_readSeam_14 rfl (fun τ14 h14 => ?_)
    obtain ⟨h14a, h14b, h14c⟩ := h14
    generalize eQ1 : wd 0 P = Q1 at h14b
    have bQ1 : pbd n Q1 := by rw [← eQ1]; exact wd_bd hb0 hnf.2
    have rQ1 : ∀ k, k ≠ 11 → Q1 k = P k := by rw [← eQ1]; exact wd_row _ _
    refine g_aload_n (pc' := 18) B 0 rfl rfl dX9_readSeam_17 rfl ?_
    refine g_iconst (pc' := 19) B dX9_readSeam_18 rfl ?_
    refine g_iload_n (pc' := 20) B 2 rfl rfl dX9_readSeam_19 rfl ?_
    refine g_iconst (pc' := 21) B dX9_readSeam_20 rfl ?_
    refine g_isub (pc' := 22) B dX9_readSeam_21 rfl ?_
    refine g_callVI (pc' := 25) (As := [.int (iI 0), .int (iI (u - 2))]) B (c_X9_readNumber l K _ (tx := tx) (n := n) (P := Q1) (lo := 0) (hi := u - 2) h14a h14b bQ1.1 bQ1.2 (by omega) (by omega)) vt_X9_readNumber tw_412 rfl rfl ⟨by decide, by decide⟩ rfl (Nat.le_of_ble_eq_true rfl) ⟨Nat.zero_le _, Nat.zero_le _⟩ rfl dX9_readSeam_22 rfl (fun z22 τ22 h22 => ?_)
    obtain ⟨h22a, h22b, h22v, h22c⟩ := h22
    generalize eQ2 : nm tx n 0 (u - 2) Q1 = Q2 at h22b
    have bQ2 : pbd n Q2 := by rw [← eQ2]; exact nm_bd bQ1
    have rQ2 : ∀ k, k ≠ 11 → Q2 k = Q1 k := by rw [← eQ2]; exact nm_row _ _ _ _ _
    refine g_istore_n (pc' := 26) B [(3, .int (iI z22)), (0, .ref (K.2.2 1)), (1, .ref (K.2.2 q)), (2, .int (iI u))] dX9_readSeam_25 rfl rfl (by decide) rfl ?_
    refine g_aload_n (pc' := 27) B 1 rfl rfl dX9_readSeam_26 rfl ?_
    refine g_iconst (pc' := 28) B dX9_readSeam_27 rfl ?_
    refine g_bipush (pc' := 30) B (by decide +kernel) dX9_readSeam_28 rfl ?_
    refine g_callVI (pc' := 33) (As := [.int (iI 1), .int (iI 12)]) B (c_X9_readNumber l K _ (tx := tx) (n := n) (P := Q2) (lo := 1) (hi := 12) h22a h22b bQ2.1 bQ2.2 (by omega) (by omega)) vt_X9_readNumber tw_412 rfl rfl ⟨by decide, by decide⟩ rfl (Nat.le_of_ble_eq_true rfl) ⟨Nat.zero_le _, Nat.zero_le _⟩ rfl dX9_readSeam_30 rfl (fun z30 τ30 h30 => ?_)
    obtain ⟨h30a, h30b, h30v, h30c⟩ := h30
    generalize eQ3 : nm tx n 1 12 Q2 = Q3 at h30b
    have bQ3 : pbd n Q3 := by rw [← eQ3]; exact nm_bd bQ2
    have rQ3 : ∀ k, k ≠ 11 → Q3 k = Q2 k := by rw [← eQ3]; exact nm_row _ _ _ _ _
    refine g_istore (pc' := 35) B [(4, .int (iI z30)), (3, .int (iI z22)), (0, .ref (K.2.2 1)), (1, .ref (K.2.2 q)), (2, .int (iI u))] dX9_readSeam_33 rfl (by decide) rfl ?_
    refine g_aload_n (pc' := 36) B 2 rfl rfl dX9_readSeam_35 rfl ?_
    refine g_iconst (pc' := 37) B dX9_readSeam_36 rfl ?_
    refine g_bipush (pc' := 39) B (by decide +kernel) dX9_readSeam_37 rfl ?_
    refine g_callVI (pc' := 42) (As := [.int (iI 0), .int (iI 11)]) B (c_X9_readNumber l K _ (tx := tx) (n := n) (P := Q3) (lo := 0) (hi := 11) h30a h30b bQ3.1 bQ3.2 (by omega) (by omega)) vt_X9_readNumber tw_412 rfl rfl ⟨by decide, by decide⟩ rfl (Nat.le_of_ble_eq_true rfl) ⟨Nat.zero_le _, Nat.zero_le _⟩ rfl dX9_readSeam_39 rfl (fun z39 τ39 h39 => ?_)
    obtain ⟨h39a, h39b, h39v, h39c⟩ := h39
    generalize eQ4 : nm tx n 0 11 Q3 = Q4 at h39b
    have bQ4 : pbd n Q4 := by rw [← eQ4]; exact nm_bd bQ3
    have rQ4 : ∀ k, k ≠ 11 → Q4 k = Q3 k := by rw [← eQ4]; exact nm_row _ _ _ _ _
    refine g_istore (pc' := 44) B [(5, .int (iI z39)), (4, .int (iI z30)), (3, .int (iI z22)), (0, .ref (K.2.2 1)), (1, .ref (K.2.2 q)), (2, .int (iI u))] dX9_readSeam_42 rfl (by decide) rfl ?_
    refine g_aload_n (pc' := 45) B 3 rfl rfl dX9_readSeam_44 rfl ?_
    refine g_iconst (pc' := 46) B dX9_readSeam_45 rfl ?_
    refine g_bipush (pc' := 48) B (by decide +kernel) dX9_readSeam_46 rfl ?_
    refine g_callVI (pc' := 51) (As := [.int (iI 0), .int (iI 12)]) B (c_X9_readNumber l K _ (tx := tx) (n := n) (P := Q4) (lo := 0) (hi := 12) h39a h39b bQ4.1 bQ4.2 (by omega) (by omega)) vt_X9_readNumber tw_412 rfl rfl ⟨by decide, by decide⟩ rfl (Nat.le_of_ble_eq_true rfl) ⟨Nat.zero_le _, Nat.zero_le _⟩ rfl dX9_readSeam_48 rfl (fun z48 τ48 h48 => ?_)
    obtain ⟨h48a, h48b, h48v, h48c⟩ := h48
    generalize eQ5 : nm tx n 0 12 Q4 = Q5 at h48b
    have bQ5 : pbd n Q5 := by rw [← eQ5]; exact nm_bd bQ4
    have rQ5 : ∀ k, k ≠ 11 → Q5 k = Q4 k := by rw [← eQ5]; exact nm_row _ _ _ _ _
    refine g_istore (pc' := 53) B [(6, .int (iI z48)), (5, .int (iI z39)), (4, .int (iI z30)), (3, .int (iI z22)), (0, .ref (K.2.2 1)), (1, .ref (K.2.2 q)), (2, .int (iI u))] dX9_readSeam_51 rfl (by decide) rfl ?_
    refine g_aload_n (pc' := 54) B 4 rfl rfl dX9_readSeam_53 rfl ?_
    refine g_callVV (pc' := 57) (As := []) B (c_X9_readEnd l K _ (tx := tx) (n := n) (P := Q5) h48a h48b bQ5.1 bQ5.2) vt_X9_readEnd tw_420 rfl rfl ⟨by decide, by decide⟩ rfl (Nat.le_of_ble_eq_true rfl) ⟨Nat.zero_le _, Nat.zero_le _⟩ rfl dX9_readSeam_54 rfl (fun τ54 h54 => ?_)
    obtain ⟨h54a, h54b, h54c⟩ := h54
    generalize eQ6 : ne tx n Q5 = Q6 at h54b
    have bQ6 : pbd n Q6 := by rw [← eQ6]; exact ne_bd bQ5
    have rQ6 : ∀ k, k ≠ 11 → Q6 k = Q5 k := by rw [← eQ6]; exact ne_row _ _ _
    refine g_aload_n (pc' := 58) B 4 rfl rfl dX9_readSeam_57 rfl ?_
    have hk6 := bQ6.2
    have r6 : ∀ k, k ≠ 11 → Q6 k = P k := fun k hk => by rw [rQ6 k hk, rQ5 k hk, rQ4 k hk, rQ3 k hk, rQ2 k hk, rQ1 k hk]
    have f6x : ∀ k, k ≠ 1 → τ54 k = σ k := fun k hk => by rw [h54c k hk, h48c k hk, h39c k hk, h30c k hk, h22c k hk, h14c k hk]
    have e6 : s6 tx n u Q1 = Q6 := by unfold s6; rw [eQ2, eQ3, eQ4, eQ5, eQ6]
    have eW : wd (if P 9 2 < 4 then 0 else 1) P = Q1 := by first | (rw [if_pos c6]; exact eQ1) | (rw [if_neg (by omega)]; exact eQ1)
    have eF : sC tx n P = (if Q6 11 1 = 0 then dQ Q6 z22 z30 z39 z48 else Q6) := by unfold sC; rw [eW]; simp only [← hu, e6, eQ2, eQ3, eQ4, eQ5, ← h22v, ← h30v, ← h39v, ← h48v]
    have hb3 : Q6 11 3 = P 11 3 := by rw [← eQ6, ne_3, ← eQ5, nm_3, ← eQ4, nm_3, ← eQ3, nm_3, ← eQ2, nm_3, ← eQ1, wd_3]
    refine g_get (pc' := 61) B (Q6 11 1) h54b.2.1 fl_X9_22 rfl rfl dX9_readSeam_58 rfl ?_
    refine g_if_ne (pc' := 64) B 75 (by omega) dX9_readSeam_61 (by decide) rfl (fun c61 => ?_) (fun c61 => ?_)
    · rw [if_neg c61] at eF
      have hA1 := h54a
      have hA2 : ctx τ54 (sC tx n P) := by rw [eF]; exact h54b
      have hA3 : qD τ54 q (sC tx n P) := by rw [eF]; exact (hQ.keep (fun k a b => f6x k (by omega))).cong r6
      have hA4 : ∀ k, k ≠ 1 → (k < q ∨ q + 4 < k) → τ54 k = σ k := fun k hk _ => f6x k hk
      exact g_vret B hrt hlk dX9_readSeam_75 ⟨hA1, hA2, hA3, hA4⟩
    · rw [← eQ6] at c61
      have v5 := ne_zero c61
      rw [eQ6] at c61
      rw [← eQ5] at v5
      have y4 := nm_zero v5
      have v4 := y4.1
      rw [← h48v] at y4
      rw [← eQ4] at v4
      have y3 := nm_zero v4
      have v3 := y3.1
      rw [← h39v] at y3
      rw [← eQ3] at v3
      have y2 := nm_zero v3
      have v2 := y2.1
      rw [← h30v] at y2
      rw [← eQ2] at v2
      have y1 := nm_zero v2
      have v1 := y1.1
      rw [← h22v] at y1
      rw [← eQ1] at v1
      have y0 := wd_zero v1
      have r90 := congrFun (r6 9 (by decide))
      have r90a := r90 0
      have r90b := r90 1
      have r90c := r90 2
      have r90d := r90 3
      have hQ6 : qD τ54 q Q6 := (hQ.keep (fun k a b => f6x k (by omega))).cong r6
      have hO6 := hO.cong r6
      refine g_aload_n (pc' := 65) B 5 rfl rfl dX9_readSeam_64 rfl ?_
      refine g_iload_n (pc' := 66) B 3 rfl rfl dX9_readSeam_65 rfl ?_
      refine g_iload (pc' := 68) B 2 rfl dX9_readSeam_66 rfl ?_
      refine g_iload (pc' := 70) B 1 rfl dX9_readSeam_68 rfl ?_
      refine g_iload (pc' := 72) B 0 rfl dX9_readSeam_70 rfl ?_
      refine g_callVV (pc' := 75) (As := [.int (iI z22), .int (iI z30), .int (iI z39), .int (iI z48)]) B (c_X6_add l K _ (q := q) (D := Q6) (f := z22) (p := z30) (r := z39) (w := z48) (by omega) hQ6 hO6 (by omega) (by omega) (by omega) (by omega) (by omega)) vt_X6_add tw_443 (ly_Q hq) rfl ⟨by decide, by decide⟩ rfl (Nat.le_of_ble_eq_true rfl) ⟨Nat.zero_le _, Nat.zero_le _⟩ rfl dX9_readSeam_72 rfl (fun τ72 h72 => ?_)
      obtain ⟨h72a, h72b⟩ := h72
      rw [if_pos c61] at eF
      have hA1 : txD τ72 tx n := h54a.keep (by rw [h72b 1 (by omega)]) (h72b 2 (by omega))
      have hA2 : ctx τ72 (sC tx n P) := by rw [eF]; unfold ctx; rw [h72b 1 (by omega), dQ_11]; exact h54b
      have hA3 : qD τ72 q (sC tx n P) := by rw [eF]; exact h72a
      have hA4 : ∀ k, k ≠ 1 → (k < q ∨ q + 4 < k) → τ72 k = σ k := fun k hk hk2 => by rw [h72b k hk2]; exact f6x k hk
      exact g_vret B hrt hlk dX9_readSeam_75 ⟨hA1, hA2, hA3, hA4⟩
  · refine g_iconst (pc' := 10) B dX9_readSeam_9 rfl ?_
    refine g_goto (pc' := 14) B dX9_readSeam_10 (by decide) ?_
    refine g_callVV (pc' := 17) (As := [.int (iI 1)]) B (c_X9_readWord l K _ (tx := tx) (n := n) (P := P) (w := 1) hT hP hb0.1 hb0.2 (by omega)) vt_X9_readWord tw_404 rfl rfl ⟨by decide, by decide⟩ rfl (Nat.le_of_ble_eq_true rfl) ⟨Nat.zero_le _, Nat.zero_le _⟩ rfl dX9_readSeam_14 rfl (fun τ14 h14 => ?_)
    obtain ⟨h14a, h14b, h14c⟩ := h14
    generalize eQ1 : wd 1 P = Q1 at h14b
    have bQ1 : pbd n Q1 := by rw [← eQ1]; exact wd_bd hb0 hnf.2
    have rQ1 : ∀ k, k ≠ 11 → Q1 k = P k := by rw [← eQ1]; exact wd_row _ _
    refine g_aload_n (pc' := 18) B 0 rfl rfl dX9_readSeam_17 rfl ?_
    refine g_iconst (pc' := 19) B dX9_readSeam_18 rfl ?_
    refine g_iload_n (pc' := 20) B 2 rfl rfl dX9_readSeam_19 rfl ?_
    refine g_iconst (pc' := 21) B dX9_readSeam_20 rfl ?_
    refine g_isub (pc' := 22) B dX9_readSeam_21 rfl ?_
    refine g_callVI (pc' := 25) (As := [.int (iI 0), .int (iI (u - 2))]) B (c_X9_readNumber l K _ (tx := tx) (n := n) (P := Q1) (lo := 0) (hi := u - 2) h14a h14b bQ1.1 bQ1.2 (by omega) (by omega)) vt_X9_readNumber tw_412 rfl rfl ⟨by decide, by decide⟩ rfl (Nat.le_of_ble_eq_true rfl) ⟨Nat.zero_le _, Nat.zero_le _⟩ rfl dX9_readSeam_22 rfl (fun z22 τ22 h22 => ?_)
    obtain ⟨h22a, h22b, h22v, h22c⟩ := h22
    generalize eQ2 : nm tx n 0 (u - 2) Q1 = Q2 at h22b
    have bQ2 : pbd n Q2 := by rw [← eQ2]; exact nm_bd bQ1
    have rQ2 : ∀ k, k ≠ 11 → Q2 k = Q1 k := by rw [← eQ2]; exact nm_row _ _ _ _ _
    refine g_istore_n (pc' := 26) B [(3, .int (iI z22)), (0, .ref (K.2.2 1)), (1, .ref (K.2.2 q)), (2, .int (iI u))] dX9_readSeam_25 rfl rfl (by decide) rfl ?_
    refine g_aload_n (pc' := 27) B 1 rfl rfl dX9_readSeam_26 rfl ?_
    refine g_iconst (pc' := 28) B dX9_readSeam_27 rfl ?_
    refine g_bipush (pc' := 30) B (by decide +kernel) dX9_readSeam_28 rfl ?_
    refine g_callVI (pc' := 33) (As := [.int (iI 1), .int (iI 12)]) B (c_X9_readNumber l K _ (tx := tx) (n := n) (P := Q2) (lo := 1) (hi := 12) h22a h22b bQ2.1 bQ2.2 (by omega) (by omega)) vt_X9_readNumber tw_412 rfl rfl ⟨by decide, by decide⟩ rfl (Nat.le_of_ble_eq_true rfl) ⟨Nat.zero_le _, Nat.zero_le _⟩ rfl dX9_readSeam_30 rfl (fun z30 τ30 h30 => ?_)
    obtain ⟨h30a, h30b, h30v, h30c⟩ := h30
    generalize eQ3 : nm tx n 1 12 Q2 = Q3 at h30b
    have bQ3 : pbd n Q3 := by rw [← eQ3]; exact nm_bd bQ2
    have rQ3 : ∀ k, k ≠ 11 → Q3 k = Q2 k := by rw [← eQ3]; exact nm_row _ _ _ _ _
    refine g_istore (pc' := 35) B [(4, .int (iI z30)), (3, .int (iI z22)), (0, .ref (K.2.2 1)), (1, .ref (K.2.2 q)), (2, .int (iI u))] dX9_readSeam_33 rfl (by decide) rfl ?_
    refine g_aload_n (pc' := 36) B 2 rfl rfl dX9_readSeam_35 rfl ?_
    refine g_iconst (pc' := 37) B dX9_readSeam_36 rfl ?_
    refine g_bipush (pc' := 39) B (by decide +kernel) dX9_readSeam_37 rfl ?_
    refine g_callVI (pc' := 42) (As := [.int (iI 0), .int (iI 11)]) B (c_X9_readNumber l K _ (tx := tx) (n := n) (P := Q3) (lo := 0) (hi := 11) h30a h30b bQ3.1 bQ3.2 (by omega) (by omega)) vt_X9_readNumber tw_412 rfl rfl ⟨by decide, by decide⟩ rfl (Nat.le_of_ble_eq_true rfl) ⟨Nat.zero_le _, Nat.zero_le _⟩ rfl dX9_readSeam_39 rfl (fun z39 τ39 h39 => ?_)
    obtain ⟨h39a, h39b, h39v, h39c⟩ := h39
    generalize eQ4 : nm tx n 0 11 Q3 = Q4 at h39b
    have bQ4 : pbd n Q4 := by rw [← eQ4]; exact nm_bd bQ3
    have rQ4 : ∀ k, k ≠ 11 → Q4 k = Q3 k := by rw [← eQ4]; exact nm_row _ _ _ _ _
    refine g_istore (pc' := 44) B [(5, .int (iI z39)), (4, .int (iI z30)), (3, .int (iI z22)), (0, .ref (K.2.2 1)), (1, .ref (K.2.2 q)), (2, .int (iI u))] dX9_readSeam_42 rfl (by decide) rfl ?_
    refine g_aload_n (pc' := 45) B 3 rfl rfl dX9_readSeam_44 rfl ?_
    refine g_iconst (pc' := 46) B dX9_readSeam_45 rfl ?_
    refine g_bipush (pc' := 48) B (by decide +kernel) dX9_readSeam_46 rfl ?_
    refine g_callVI (pc' := 51) (As := [.int (iI 0), .int (iI 12)]) B (c_X9_readNumber l K _ (tx := tx) (n := n) (P := Q4) (lo := 0) (hi := 12) h39a h39b bQ4.1 bQ4.2 (by omega) (by omega)) vt_X9_readNumber tw_412 rfl rfl ⟨by decide, by decide⟩ rfl (Nat.le_of_ble_eq_true rfl) ⟨Nat.zero_le _, Nat.zero_le _⟩ rfl dX9_readSeam_48 rfl (fun z48 τ48 h48 => ?_)
    obtain ⟨h48a, h48b, h48v, h48c⟩ := h48
    generalize eQ5 : nm tx n 0 12 Q4 = Q5 at h48b
    have bQ5 : pbd n Q5 := by rw [← eQ5]; exact nm_bd bQ4
    have rQ5 : ∀ k, k ≠ 11 → Q5 k = Q4 k := by rw [← eQ5]; exact nm_row _ _ _ _ _
    refine g_istore (pc' := 53) B [(6, .int (iI z48)), (5, .int (iI z39)), (4, .int (iI z30)), (3, .int (iI z22)), (0, .ref (K.2.2 1)), (1, .ref (K.2.2 q)), (2, .int (iI u))] dX9_readSeam_51 rfl (by decide) rfl ?_
    refine g_aload_n (pc' := 54) B 4 rfl rfl dX9_readSeam_53 rfl ?_
    refine g_callVV (pc' := 57) (As := []) B (c_X9_readEnd l K _ (tx := tx) (n := n) (P := Q5) h48a h48b bQ5.1 bQ5.2) vt_X9_readEnd tw_420 rfl rfl ⟨by decide, by decide⟩ rfl (Nat.le_of_ble_eq_true rfl) ⟨Nat.zero_le _, Nat.zero_le _⟩ rfl dX9_readSeam_54 rfl (fun τ54 h54 => ?_)
    obtain ⟨h54a, h54b, h54c⟩ := h54
    generalize eQ6 : ne tx n Q5 = Q6 at h54b
    have bQ6 : pbd n Q6 := by rw [← eQ6]; exact ne_bd bQ5
    have rQ6 : ∀ k, k ≠ 11 → Q6 k = Q5 k := by rw [← eQ6]; exact ne_row _ _ _
    refine g_aload_n (pc' := 58) B 4 rfl rfl dX9_readSeam_57 rfl ?_
    have hk6 := bQ6.2
    have r6 : ∀ k, k ≠ 11 → Q6 k = P k := fun k hk => by rw [rQ6 k hk, rQ5 k hk, rQ4 k hk, rQ3 k hk, rQ2 k hk, rQ1 k hk]
    have f6x : ∀ k, k ≠ 1 → τ54 k = σ k := fun k hk => by rw [h54c k hk, h48c k hk, h39c k hk, h30c k hk, h22c k hk, h14c k hk]
    have e6 : s6 tx n u Q1 = Q6 := by unfold s6; rw [eQ2, eQ3, eQ4, eQ5, eQ6]
    have eW : wd (if P 9 2 < 4 then 0 else 1) P = Q1 := by first | (rw [if_pos c6]; exact eQ1) | (rw [if_neg (by omega)]; exact eQ1)
    have eF : sC tx n P = (if Q6 11 1 = 0 then dQ Q6 z22 z30 z39 z48 else Q6) := by unfold sC; rw [eW]; simp only [← hu, e6, eQ2, eQ3, eQ4, eQ5, ← h22v, ← h30v, ← h39v, ← h48v]
    have hb3 : Q6 11 3 = P 11 3 := by rw [← eQ6, ne_3, ← eQ5, nm_3, ← eQ4, nm_3, ← eQ3, nm_3, ← eQ2, nm_3, ← eQ1, wd_3]
    refine g_get (pc' := 61) B (Q6 11 1) h54b.2.1 fl_X9_22 rfl rfl dX9_readSeam_58 rfl ?_
    refine g_if_ne (pc' := 64) B 75 (by omega) dX9_readSeam_61 (by decide) rfl (fun c61 => ?_) (fun c61 => ?_)
    · rw [if_neg c61] at eF
      have hA1 := h54a
      have hA2 : ctx τ54 (sC tx n P) := by rw [eF]; exact h54b
      have hA3 : qD τ54 q (sC tx n P) := by rw [eF]; exact (hQ.keep (fun k a b => f6x k (by omega))).cong r6
      have hA4 : ∀ k, k ≠ 1 → (k < q ∨ q + 4 < k) → τ54 k = σ k := fun k hk _ => f6x k hk
      exact g_vret B hrt hlk dX9_readSeam_75 ⟨hA1, hA2, hA3, hA4⟩
    · rw [← eQ6] at c61
      have v5 := ne_zero c61
      rw [eQ6] at c61
      rw [← eQ5] at v5
      have y4 := nm_zero v5
      have v4 := y4.1
      rw [← h48v] at y4
      rw [← eQ4] at v4
      have y3 := nm_zero v4
      have v3 := y3.1
      rw [← h39v] at y3
      rw [← eQ3] at v3
      have y2 := nm_zero v3
      have v2 := y2.1
      rw [← h30v] at y2
      rw [← eQ2] at v2
      have y1 := nm_zero v2
      have v1 := y1.1
      rw [← h22v] at y1
      rw [← eQ1] at v1
      have y0 := wd_zero v1
      have r90 := congrFun (r6 9 (by decide))
      have r90a := r90 0
      have r90b := r90 1
      have r90c := r90 2
      have r90d := r90 3
      have hQ6 : qD τ54 q Q6 := (hQ.keep (fun k a b => f6x k (by omega))).cong r6
      have hO6 := hO.cong r6
      refine g_aload_n (pc' := 65) B 5 rfl rfl dX9_readSeam_64 rfl ?_
      refine g_iload_n (pc' := 66) B 3 rfl rfl dX9_readSeam_65 rfl ?_
      refine g_iload (pc' := 68) B 2 rfl dX9_readSeam_66 rfl ?_
      refine g_iload (pc' := 70) B 1 rfl dX9_readSeam_68 rfl ?_
      refine g_iload (pc' := 72) B 0 rfl dX9_readSeam_70 rfl ?_
      refine g_callVV (pc' := 75) (As := [.int (iI z22), .int (iI z30), .int (iI z39), .int (iI z48)]) B (c_X6_add l K _ (q := q) (D := Q6) (f := z22) (p := z30) (r := z39) (w := z48) (by omega) hQ6 hO6 (by omega) (by omega) (by omega) (by omega) (by omega)) vt_X6_add tw_443 (ly_Q hq) rfl ⟨by decide, by decide⟩ rfl (Nat.le_of_ble_eq_true rfl) ⟨Nat.zero_le _, Nat.zero_le _⟩ rfl dX9_readSeam_72 rfl (fun τ72 h72 => ?_)
      obtain ⟨h72a, h72b⟩ := h72
      rw [if_pos c61] at eF
      have hA1 : txD τ72 tx n := h54a.keep (by rw [h72b 1 (by omega)]) (h72b 2 (by omega))
      have hA2 : ctx τ72 (sC tx n P) := by rw [eF]; unfold ctx; rw [h72b 1 (by omega), dQ_11]; exact h54b
      have hA3 : qD τ72 q (sC tx n P) := by rw [eF]; exact h72a
      have hA4 : ∀ k, k ≠ 1 → (k < q ∨ q + 4 < k) → τ72 k = σ k := fun k hk hk2 => by rw [h72b k hk2]; exact f6x k hk
      exact g_vret B hrt hlk dX9_readSeam_75 ⟨hA1, hA2, hA3, hA4⟩
theorem sD_house {σ : SG} {b : Nat} {D : SG} {f s : Int} (h : sD σ b D) : sD (up (up (up σ (b + 12) (D 9 1) f) (b + 13) (D 9 1) s) b 4 (D 9 1 + 1)) b (dH D f s) := by
  obtain ⟨h1, h2, h3, h4⟩ := h
  have e : ∀ k, k ≠ 4 → k ≠ 9 → k ≠ 10 → dH D f s k = D k := fun k a b c => by unfold dH; rw [up_row b, up_row c, up_row a]
  refine ⟨?_, ?_, by simp [up, dH], fun y a c => ?_⟩
  · have q := h1.keep (τ := up (up (up σ (b + 12) (D 9 1) f) (b + 13) (D 9 1) s) b 4 (D 9 1 + 1)) (fun k a c => by rw [up_row (by omega), up_row (by omega), up_row (by omega)])
    unfold gD at q ⊢
    rw [e 0 (by decide) (by decide) (by decide), e 1 (by decide) (by decide) (by decide), e 2 (by decide) (by decide) (by decide), e 3 (by decide) (by decide) (by decide), show dH D f s 9 0 = D 9 0 from by simp [dH, up], show dH D f s 9 3 = D 9 3 from by simp [dH, up]]
    exact q
  · have q := h2.keep (τ := up (up (up σ (b + 12) (D 9 1) f) (b + 13) (D 9 1) s) b 4 (D 9 1 + 1)) (fun k a c => by rw [up_row (by omega), up_row (by omega), up_row (by omega)])
    unfold qD at q ⊢
    rw [e 5 (by decide) (by decide) (by decide), e 6 (by decide) (by decide) (by decide), e 7 (by decide) (by decide) (by decide), e 8 (by decide) (by decide) (by decide), show dH D f s 9 2 = D 9 2 from by simp [dH, up]]
    exact q
  · have c2 : y < D 9 1 + 1 := by simpa [up, dH] using c
    by_cases q : y = D 9 1
    · subst q; simp [up, dH]
    · have q4 := h4 y a (by omega)
      simp [up, dH, q, q4]
set_option maxRecDepth 100000 in
set_option maxHeartbeats 4000000 in
theorem c_X9_readHouse (l : Launch) (K : WK) (σ : SG) {tx : Int → Int} {n : Int} (hT : txD σ tx n) {P : SG} (hP : ctx σ P) (hb0 : pbd n P) (hnf : P 11 1 = 0 ∧ P 11 0 < n) {b : Nat} (hb : b = 3 ∨ b = 17) (hS : sD σ b P) (hF : okF P) (hH : okH P) (hsl : ∀ h : Int, 0 ≤ h → h < P 9 1 → σ (b + 13) h = P 10 h) : MV l yX9_readHouse cX9_readHouse 4 none 3 64 K σ [.ref (K.2.2 1), .ref (K.2.2 b)] (fun τ => txD τ tx n ∧ ctx τ (hC tx n P) ∧ (sD τ b (hC tx n P) ∧ (∀ h : Int, 0 ≤ h → h < hC tx n P 9 1 → τ (b + 13) h = hC tx n P 10 h) ∧ τ b 5 = σ b 5) ∧ ∀ k, k ≠ 1 → k ≠ b → k ≠ b + 12 → k ≠ b + 13 → τ k = σ k) := by
  refine met_of [(0, .ref (K.2.2 1)), (1, .ref (K.2.2 b))] (by decide +kernel) (Nat.le_of_ble_eq_true rfl) rfl ?_
  intro pP eE sS mM bW mT cC B hrt hlk
  replace B : CB pP sS mM [.ref (K.2.2 1), .ref (K.2.2 b)].toArray cC cX9_readHouse RX9 4 K := B
  obtain ⟨hT1, hT2, hT3⟩ := id hT
  have hb1 := hb0.1
  have hb2 := hb0.2
  obtain ⟨hF0, hF1⟩ := id hF
  obtain ⟨hH0, hH1⟩ := id hH
  refine g_aload_n (pc' := 1) B 0 rfl rfl dX9_readHouse_0 rfl ?_
  refine g_aload_n (pc' := 2) B 1 rfl rfl dX9_readHouse_1 rfl ?_
  refine g_get (pc' := 5) B (P 9 1) hS.2.2.1 fl_X9_90 (ly_S hb) rfl dX9_readHouse_2 rfl ?_
  refine g_iconst (pc' := 6) B dX9_readHouse_5 rfl ?_
  refine g_icmp_lt (pc' := 9) B 13 (by omega) (by omega) dX9_readHouse_6 (by decide) rfl (fun c6 => ?_) (fun c6 => ?_)
  · refine g_iconst (pc' := 14) B dX9_readHouse_13 rfl ?_
    refine g_callVV (pc' := 17) (As := [.int (iI 0)]) B (c_X9_readWord l K _ (tx := tx) (n := n) (P := P) (w := 0) hT hP hb0.1 hb0.2 (by omega)) vt_X9_readWord tw_404 rfl rfl ⟨by decide, by decide⟩ rfl (Nat.le_of_ble_eq_true rfl) ⟨Nat.zero_le _, Nat.zero_le _⟩ rfl dX9_readHouse_14 rfl (fun τ14 h14 => ?_)
    obtain ⟨h14a, h14b, h14c⟩ := h14
    generalize eQ1 : wd 0 P = Q1 at h14b
    have bQ1 : pbd n Q1 := by rw [← eQ1]; exact wd_bd hb0 hnf.2
    have rQ1 : ∀ k, k ≠ 11 → Q1 k = P k := by rw [← eQ1]; exact wd_row _ _
    refine g_aload_n (pc' := 18) B 0 rfl rfl dX9_readHouse_17 rfl ?_
    refine g_iconst (pc' := 19) B dX9_readHouse_18 rfl ?_
    refine g_aload_n (pc' := 20) B 1 rfl rfl dX9_readHouse_19 rfl ?_
    refine g_getR (pc' := 23) B (b + 1) fl_X9_44 (ly_S hb) rfl dX9_readHouse_20 rfl ?_
    refine g_get (pc' := 26) B (P 9 0) (by rw [h14c _ (by omega)]; exact hS.1.1) fl_X9_59 (ly_G (by omega)) rfl dX9_readHouse_23 rfl ?_
    refine g_iconst (pc' := 27) B dX9_readHouse_26 rfl ?_
    refine g_isub (pc' := 28) B dX9_readHouse_27 rfl ?_
    refine g_callVI (pc' := 31) (As := [.int (iI 0), .int (iI ((P 9 0) - 2))]) B (c_X9_readNumber l K _ (tx := tx) (n := n) (P := Q1) (lo := 0) (hi := (P 9 0) - 2) h14a h14b bQ1.1 bQ1.2 (by omega) (by omega)) vt_X9_readNumber tw_412 rfl rfl ⟨by decide, by decide⟩ rfl (Nat.le_of_ble_eq_true rfl) ⟨Nat.zero_le _, Nat.zero_le _⟩ rfl dX9_readHouse_28 rfl (fun z28 τ28 h28 => ?_)
    obtain ⟨h28a, h28b, h28v, h28c⟩ := h28
    generalize eQ2 : nm tx n 0 (P 9 0 - 2) Q1 = Q2 at h28b
    have bQ2 : pbd n Q2 := by rw [← eQ2]; exact nm_bd bQ1
    have rQ2 : ∀ k, k ≠ 11 → Q2 k = Q1 k := by rw [← eQ2]; exact nm_row _ _ _ _ _
    refine g_istore_n (pc' := 32) B [(2, .int (iI z28)), (0, .ref (K.2.2 1)), (1, .ref (K.2.2 b))] dX9_readHouse_31 rfl rfl (by decide) rfl ?_
    refine g_aload_n (pc' := 33) B 1 rfl rfl dX9_readHouse_32 rfl ?_
    refine g_iconst (pc' := 34) B dX9_readHouse_33 rfl ?_
    refine g_bipush (pc' := 36) B (by decide +kernel) dX9_readHouse_34 rfl ?_
    refine g_callVI (pc' := 39) (As := [.int (iI 0), .int (iI 99)]) B (c_X9_readNumber l K _ (tx := tx) (n := n) (P := Q2) (lo := 0) (hi := 99) h28a h28b bQ2.1 bQ2.2 (by omega) (by omega)) vt_X9_readNumber tw_412 rfl rfl ⟨by decide, by decide⟩ rfl (Nat.le_of_ble_eq_true rfl) ⟨Nat.zero_le _, Nat.zero_le _⟩ rfl dX9_readHouse_36 rfl (fun z36 τ36 h36 => ?_)
    obtain ⟨h36a, h36b, h36v, h36c⟩ := h36
    generalize eQ3 : nm tx n 0 99 Q2 = Q3 at h36b
    have bQ3 : pbd n Q3 := by rw [← eQ3]; exact nm_bd bQ2
    have rQ3 : ∀ k, k ≠ 11 → Q3 k = Q2 k := by rw [← eQ3]; exact nm_row _ _ _ _ _
    refine g_istore_n (pc' := 40) B [(3, .int (iI z36)), (2, .int (iI z28)), (0, .ref (K.2.2 1)), (1, .ref (K.2.2 b))] dX9_readHouse_39 rfl rfl (by decide) rfl ?_
    refine g_aload_n (pc' := 41) B 2 rfl rfl dX9_readHouse_40 rfl ?_
    refine g_callVV (pc' := 44) (As := []) B (c_X9_readEnd l K _ (tx := tx) (n := n) (P := Q3) h36a h36b bQ3.1 bQ3.2) vt_X9_readEnd tw_420 rfl rfl ⟨by decide, by decide⟩ rfl (Nat.le_of_ble_eq_true rfl) ⟨Nat.zero_le _, Nat.zero_le _⟩ rfl dX9_readHouse_41 rfl (fun τ41 h41 => ?_)
    obtain ⟨h41a, h41b, h41c⟩ := h41
    generalize eQ4 : ne tx n Q3 = Q4 at h41b
    have bQ4 : pbd n Q4 := by rw [← eQ4]; exact ne_bd bQ3
    have rQ4 : ∀ k, k ≠ 11 → Q4 k = Q3 k := by rw [← eQ4]; exact ne_row _ _ _
    refine g_aload_n (pc' := 45) B 2 rfl rfl dX9_readHouse_44 rfl ?_
    have hk6 := bQ4.2
    have r6 : ∀ k, k ≠ 11 → Q4 k = P k := fun k hk => by rw [rQ4 k hk, rQ3 k hk, rQ2 k hk, rQ1 k hk]
    have f6x : ∀ k, k ≠ 1 → τ41 k = σ k := fun k hk => by rw [h41c k hk, h36c k hk, h28c k hk, h14c k hk]
    have e6 : h4 tx n (P 9 0) Q1 = Q4 := by unfold h4; rw [eQ2, eQ3, eQ4]
    have eW : wd (if P 9 1 < 4 then 0 else 1) P = Q1 := by first | (rw [if_pos c6]; exact eQ1) | (rw [if_neg (by omega)]; exact eQ1)
    have eF : hC tx n P = (if Q4 11 1 = 0 then dH Q4 z28 z36 else Q4) := by unfold hC; rw [eW]; simp only [e6, eQ2, eQ3, ← h28v, ← h36v]
    have hb3 : Q4 11 3 = P 11 3 := by rw [← eQ4, ne_3, ← eQ3, nm_3, ← eQ2, nm_3, ← eQ1, wd_3]
    refine g_get (pc' := 48) B (Q4 11 1) h41b.2.1 fl_X9_22 rfl rfl dX9_readHouse_45 rfl ?_
    refine g_if_ne (pc' := 51) B 57 (by omega) dX9_readHouse_48 (by decide) rfl (fun c48 => ?_) (fun c48 => ?_)
    · rw [if_neg c48] at eF
      have hA1 := h41a
      have hA2 : ctx τ41 (hC tx n P) := by rw [eF]; exact h41b
      have hA3 : sD τ41 b (hC tx n P) ∧ (∀ h : Int, 0 ≤ h → h < hC tx n P 9 1 → τ41 (b + 13) h = hC tx n P 10 h) ∧ τ41 b 5 = σ b 5 := by rw [eF]; exact ⟨(hS.keep (fun k a c => f6x k (by omega))).cong r6, fun h a c => by rw [f6x _ (by omega), r6 10 (by decide)]; rw [r6 9 (by decide)] at c; exact hsl h a c, by rw [f6x b (by omega)]⟩
      have hA4 : ∀ k, k ≠ 1 → k ≠ b → k ≠ b + 12 → k ≠ b + 13 → τ41 k = σ k := fun k hk _ _ _ => f6x k hk
      exact g_vret B hrt hlk dX9_readHouse_57 ⟨hA1, hA2, hA3, hA4⟩
    · rw [← eQ4] at c48
      have v3 := ne_zero c48
      rw [eQ4] at c48
      rw [← eQ3] at v3
      have y2 := nm_zero v3
      have v2 := y2.1
      rw [← h36v] at y2
      rw [← eQ2] at v2
      have y1 := nm_zero v2
      have v1 := y1.1
      rw [← h28v] at y1
      rw [← eQ1] at v1
      have y0 := wd_zero v1
      have r90 := congrFun (r6 9 (by decide))
      have r90a := r90 0
      have r90b := r90 1
      have r90c := r90 2
      have r90d := r90 3
      have hS6 : sD τ41 b Q4 := (hS.keep (fun k a c => f6x k (by omega))).cong r6
      refine g_aload_n (pc' := 52) B 3 rfl rfl dX9_readHouse_51 rfl ?_
      refine g_iload_n (pc' := 53) B 1 rfl rfl dX9_readHouse_52 rfl ?_
      refine g_iload_n (pc' := 54) B 0 rfl rfl dX9_readHouse_53 rfl ?_
      refine g_callVV (pc' := 57) (As := [.int (iI z28), .int (iI z36)]) B (c_X8_addHouse l K _ (b := b) (D := Q4) (f := z28) (s := z36) (by omega) hS6 (hF.cong r6) (hH.cong r6) (by omega) (by omega) (by omega)) vt_X8_addHouse tw_435 (ly_S hb) rfl ⟨by decide, by decide⟩ rfl (Nat.le_of_ble_eq_true rfl) ⟨Nat.zero_le _, Nat.zero_le _⟩ rfl dX9_readHouse_54 rfl (fun τ54 h54 => ?_)
      subst h54
      rw [if_pos c48] at eF
      have hA1 : txD (up (up (up τ41 (b + 12) (Q4 9 1) z28) (b + 13) (Q4 9 1) z36) b 4 (Q4 9 1 + 1)) tx n := h41a.keep (by rw [up_row (by omega), up_row (by omega), up_row (by omega)]) (by rw [up_row (by omega), up_row (by omega), up_row (by omega)])
      have hA2 : ctx (up (up (up τ41 (b + 12) (Q4 9 1) z28) (b + 13) (Q4 9 1) z36) b 4 (Q4 9 1 + 1)) (hC tx n P) := by rw [eF]; unfold ctx; rw [up_row (show (1 : Nat) ≠ b by omega), up_row (show (1 : Nat) ≠ b + 13 by omega), up_row (show (1 : Nat) ≠ b + 12 by omega), dH_11]; exact h41b
      have hA3 : sD (up (up (up τ41 (b + 12) (Q4 9 1) z28) (b + 13) (Q4 9 1) z36) b 4 (Q4 9 1 + 1)) b (hC tx n P) ∧ (∀ h : Int, 0 ≤ h → h < hC tx n P 9 1 → (up (up (up τ41 (b + 12) (Q4 9 1) z28) (b + 13) (Q4 9 1) z36) b 4 (Q4 9 1 + 1)) (b + 13) h = hC tx n P 10 h) ∧ (up (up (up τ41 (b + 12) (Q4 9 1) z28) (b + 13) (Q4 9 1) z36) b 4 (Q4 9 1 + 1)) b 5 = σ b 5 := by rw [eF]; exact ⟨sD_house hS6, fun h a c => by (have c2 : h < Q4 9 1 + 1 := by (simpa [up, dH] using c)); by_cases q9 : h = Q4 9 1; (subst q9; simp [up, dH]); (rw [up_row (by omega), up_col q9, up_row (by omega), f6x _ (by omega), hsl h a (by omega)]; simp [up, dH, q9, r6 10 (by decide)]), by simp [up]; rw [f6x b (by omega)]⟩
      have hA4 : ∀ k, k ≠ 1 → k ≠ b → k ≠ b + 12 → k ≠ b + 13 → (up (up (up τ41 (b + 12) (Q4 9 1) z28) (b + 13) (Q4 9 1) z36) b 4 (Q4 9 1 + 1)) k = σ k := fun k hk h1 h2 h3 => by rw [up_row h1, up_row h3, up_row h2]; exact f6x k hk
      exact g_vret B hrt hlk dX9_readHouse_57 ⟨hA1, hA2, hA3, hA4⟩
  · refine g_iconst (pc' := 10) B dX9_readHouse_9 rfl ?_
    refine g_goto (pc' := 14) B dX9_readHouse_10 (by decide) ?_
    refine g_callVV (pc' := 17) (As := [.int (iI 1)]) B (c_X9_readWord l K _ (tx := tx) (n := n) (P := P) (w := 1) hT hP hb0.1 hb0.2 (by omega)) vt_X9_readWord tw_404 rfl rfl ⟨by decide, by decide⟩ rfl (Nat.le_of_ble_eq_true rfl) ⟨Nat.zero_le _, Nat.zero_le _⟩ rfl dX9_readHouse_14 rfl (fun τ14 h14 => ?_)
    obtain ⟨h14a, h14b, h14c⟩ := h14
    generalize eQ1 : wd 1 P = Q1 at h14b
    have bQ1 : pbd n Q1 := by rw [← eQ1]; exact wd_bd hb0 hnf.2
    have rQ1 : ∀ k, k ≠ 11 → Q1 k = P k := by rw [← eQ1]; exact wd_row _ _
    refine g_aload_n (pc' := 18) B 0 rfl rfl dX9_readHouse_17 rfl ?_
    refine g_iconst (pc' := 19) B dX9_readHouse_18 rfl ?_
    refine g_aload_n (pc' := 20) B 1 rfl rfl dX9_readHouse_19 rfl ?_
    refine g_getR (pc' := 23) B (b + 1) fl_X9_44 (ly_S hb) rfl dX9_readHouse_20 rfl ?_
    refine g_get (pc' := 26) B (P 9 0) (by rw [h14c _ (by omega)]; exact hS.1.1) fl_X9_59 (ly_G (by omega)) rfl dX9_readHouse_23 rfl ?_
    refine g_iconst (pc' := 27) B dX9_readHouse_26 rfl ?_
    refine g_isub (pc' := 28) B dX9_readHouse_27 rfl ?_
    refine g_callVI (pc' := 31) (As := [.int (iI 0), .int (iI ((P 9 0) - 2))]) B (c_X9_readNumber l K _ (tx := tx) (n := n) (P := Q1) (lo := 0) (hi := (P 9 0) - 2) h14a h14b bQ1.1 bQ1.2 (by omega) (by omega)) vt_X9_readNumber tw_412 rfl rfl ⟨by decide, by decide⟩ rfl (Nat.le_of_ble_eq_true rfl) ⟨Nat.zero_le _, Nat.zero_le _⟩ rfl dX9_readHouse_28 rfl (fun z28 τ28 h28 => ?_)
    obtain ⟨h28a, h28b, h28v, h28c⟩ := h28
    generalize eQ2 : nm tx n 0 (P 9 0 - 2) Q1 = Q2 at h28b
    have bQ2 : pbd n Q2 := by rw [← eQ2]; exact nm_bd bQ1
    have rQ2 : ∀ k, k ≠ 11 → Q2 k = Q1 k := by rw [← eQ2]; exact nm_row _ _ _ _ _
    refine g_istore_n (pc' := 32) B [(2, .int (iI z28)), (0, .ref (K.2.2 1)), (1, .ref (K.2.2 b))] dX9_readHouse_31 rfl rfl (by decide) rfl ?_
    refine g_aload_n (pc' := 33) B 1 rfl rfl dX9_readHouse_32 rfl ?_
    refine g_iconst (pc' := 34) B dX9_readHouse_33 rfl ?_
    refine g_bipush (pc' := 36) B (by decide +kernel) dX9_readHouse_34 rfl ?_
    refine g_callVI (pc' := 39) (As := [.int (iI 0), .int (iI 99)]) B (c_X9_readNumber l K _ (tx := tx) (n := n) (P := Q2) (lo := 0) (hi := 99) h28a h28b bQ2.1 bQ2.2 (by omega) (by omega)) vt_X9_readNumber tw_412 rfl rfl ⟨by decide, by decide⟩ rfl (Nat.le_of_ble_eq_true rfl) ⟨Nat.zero_le _, Nat.zero_le _⟩ rfl dX9_readHouse_36 rfl (fun z36 τ36 h36 => ?_)
    obtain ⟨h36a, h36b, h36v, h36c⟩ := h36
    generalize eQ3 : nm tx n 0 99 Q2 = Q3 at h36b
    have bQ3 : pbd n Q3 := by rw [← eQ3]; exact nm_bd bQ2
    have rQ3 : ∀ k, k ≠ 11 → Q3 k = Q2 k := by rw [← eQ3]; exact nm_row _ _ _ _ _
    refine g_istore_n (pc' := 40) B [(3, .int (iI z36)), (2, .int (iI z28)), (0, .ref (K.2.2 1)), (1, .ref (K.2.2 b))] dX9_readHouse_39 rfl rfl (by decide) rfl ?_
    refine g_aload_n (pc' := 41) B 2 rfl rfl dX9_readHouse_40 rfl ?_
    refine g_callVV (pc' := 44) (As := []) B (c_X9_readEnd l K _ (tx := tx) (n := n) (P := Q3) h36a h36b bQ3.1 bQ3.2) vt_X9_readEnd tw_420 rfl rfl ⟨by decide, by decide⟩ rfl (Nat.le_of_ble_eq_true rfl) ⟨Nat.zero_le _, Nat.zero_le _⟩ rfl dX9_readHouse_41 rfl (fun τ41 h41 => ?_)
    obtain ⟨h41a, h41b, h41c⟩ := h41
    generalize eQ4 : ne tx n Q3 = Q4 at h41b
    have bQ4 : pbd n Q4 := by rw [← eQ4]; exact ne_bd bQ3
    have rQ4 : ∀ k, k ≠ 11 → Q4 k = Q3 k := by rw [← eQ4]; exact ne_row _ _ _
    refine g_aload_n (pc' := 45) B 2 rfl rfl dX9_readHouse_44 rfl ?_
    have hk6 := bQ4.2
    have r6 : ∀ k, k ≠ 11 → Q4 k = P k := fun k hk => by rw [rQ4 k hk, rQ3 k hk, rQ2 k hk, rQ1 k hk]
    have f6x : ∀ k, k ≠ 1 → τ41 k = σ k := fun k hk => by rw [h41c k hk, h36c k hk, h28c k hk, h14c k hk]
    have e6 : h4 tx n (P 9 0) Q1 = Q4 := by unfold h4; rw [eQ2, eQ3, eQ4]
    have eW : wd (if P 9 1 < 4 then 0 else 1) P = Q1 := by first | (rw [if_pos c6]; exact eQ1) | (rw [if_neg (by omega)]; exact eQ1)
    have eF : hC tx n P = (if Q4 11 1 = 0 then dH Q4 z28 z36 else Q4) := by unfold hC; rw [eW]; simp only [e6, eQ2, eQ3, ← h28v, ← h36v]
    have hb3 : Q4 11 3 = P 11 3 := by rw [← eQ4, ne_3, ← eQ3, nm_3, ← eQ2, nm_3, ← eQ1, wd_3]
    refine g_get (pc' := 48) B (Q4 11 1) h41b.2.1 fl_X9_22 rfl rfl dX9_readHouse_45 rfl ?_
    refine g_if_ne (pc' := 51) B 57 (by omega) dX9_readHouse_48 (by decide) rfl (fun c48 => ?_) (fun c48 => ?_)
    · rw [if_neg c48] at eF
      have hA1 := h41a
      have hA2 : ctx τ41 (hC tx n P) := by rw [eF]; exact h41b
      have hA3 : sD τ41 b (hC tx n P) ∧ (∀ h : Int, 0 ≤ h → h < hC tx n P 9 1 → τ41 (b + 13) h = hC tx n P 10 h) ∧ τ41 b 5 = σ b 5 := by rw [eF]; exact ⟨(hS.keep (fun k a c => f6x k (by omega))).cong r6, fun h a c => by rw [f6x _ (by omega), r6 10 (by decide)]; rw [r6 9 (by decide)] at c; exact hsl h a c, by rw [f6x b (by omega)]⟩
      have hA4 : ∀ k, k ≠ 1 → k ≠ b → k ≠ b + 12 → k ≠ b + 13 → τ41 k = σ k := fun k hk _ _ _ => f6x k hk
      exact g_vret B hrt hlk dX9_readHouse_57 ⟨hA1, hA2, hA3, hA4⟩
    · rw [← eQ4] at c48
      have v3 := ne_zero c48
      rw [eQ4] at c48
      rw [← eQ3] at v3
      have y2 := nm_zero v3
      have v2 := y2.1
      rw [← h36v] at y2
      rw [← eQ2] at v2
      have y1 := nm_zero v2
      have v1 := y1.1
      rw [← h28v] at y1
      rw [← eQ1] at v1
      have y0 := wd_zero v1
      have r90 := congrFun (r6 9 (by decide))
      have r90a := r90 0
      have r90b := r90 1
      have r90c := r90 2
      have r90d := r90 3
      have hS6 : sD τ41 b Q4 := (hS.keep (fun k a c => f6x k (by omega))).cong r6
      refine g_aload_n (pc' := 52) B 3 rfl rfl dX9_readHouse_51 rfl ?_
      refine g_iload_n (pc' := 53) B 1 rfl rfl dX9_readHouse_52 rfl ?_
      refine g_iload_n (pc' := 54) B 0 rfl rfl dX9_readHouse_53 rfl ?_
      refine g_callVV (pc' := 57) (As := [.int (iI z28), .int (iI z36)]) B (c_X8_addHouse l K _ (b := b) (D := Q4) (f := z28) (s := z36) (by omega) hS6 (hF.cong r6) (hH.cong r6) (by omega) (by omega) (by omega)) vt_X8_addHouse tw_435 (ly_S hb) rfl ⟨by decide, by decide⟩ rfl (Nat.le_of_ble_eq_true rfl) ⟨Nat.zero_le _, Nat.zero_le _⟩ rfl dX9_readHouse_54 rfl (fun τ54 h54 => ?_)
      subst h54
      rw [if_pos c48] at eF
      have hA1 : txD (up (up (up τ41 (b + 12) (Q4 9 1) z28) (b + 13) (Q4 9 1) z36) b 4 (Q4 9 1 + 1)) tx n := h41a.keep (by rw [up_row (by omega), up_row (by omega), up_row (by omega)]) (by rw [up_row (by omega), up_row (by omega), up_row (by omega)])
      have hA2 : ctx (up (up (up τ41 (b + 12) (Q4 9 1) z28) (b + 13) (Q4 9 1) z36) b 4 (Q4 9 1 + 1)) (hC tx n P) := by rw [eF]; unfold ctx; rw [up_row (show (1 : Nat) ≠ b by omega), up_row (show (1 : Nat) ≠ b + 13 by omega), up_row (show (1 : Nat) ≠ b + 12 by omega), dH_11]; exact h41b
      have hA3 : sD (up (up (up τ41 (b + 12) (Q4 9 1) z28) (b + 13) (Q4 9 1) z36) b 4 (Q4 9 1 + 1)) b (hC tx n P) ∧ (∀ h : Int, 0 ≤ h → h < hC tx n P 9 1 → (up (up (up τ41 (b + 12) (Q4 9 1) z28) (b + 13) (Q4 9 1) z36) b 4 (Q4 9 1 + 1)) (b + 13) h = hC tx n P 10 h) ∧ (up (up (up τ41 (b + 12) (Q4 9 1) z28) (b + 13) (Q4 9 1) z36) b 4 (Q4 9 1 + 1)) b 5 = σ b 5 := by rw [eF]; exact ⟨sD_house hS6, fun h a c => by (have c2 : h < Q4 9 1 + 1 := by (simpa [up, dH] using c)); by_cases q9 : h = Q4 9 1; (subst q9; simp [up, dH]); (rw [up_row (by omega), up_col q9, up_row (by omega), f6x _ (by omega), hsl h a (by omega)]; simp [up, dH, q9, r6 10 (by decide)]), by simp [up]; rw [f6x b (by omega)]⟩
      have hA4 : ∀ k, k ≠ 1 → k ≠ b → k ≠ b + 12 → k ≠ b + 13 → (up (up (up τ41 (b + 12) (Q4 9 1) z28) (b + 13) (Q4 9 1) z36) b 4 (Q4 9 1 + 1)) k = σ k := fun k hk h1 h2 h3 => by rw [up_row h1, up_row h3, up_row h2]; exact f6x k hk
      exact g_vret B hrt hlk dX9_readHouse_57 ⟨hA1, hA2, hA3, hA4⟩
set_option maxRecDepth 100000 in
set_option maxHeartbeats 4000000 in
theorem c_X9_readBarrel (l : Launch) (K : WK) (σ : SG) {tx : Int → Int} {n : Int} (hT : txD σ tx n) {P : SG} (hP : ctx σ P) (hb0 : pbd n P) (hnf : P 11 1 = 0 ∧ P 11 0 < n) {b : Nat} (hb : b = 3 ∨ b = 17) (hS : sD σ b P) (hF : okF P) (hH : okH P) (hbt : σ b 5 = P 11 3) (hbr : -1 ≤ P 11 3 ∧ P 11 3 ≤ 7) : MV l yX9_readBarrel cX9_readBarrel 3 none 3 64 K σ [.ref (K.2.2 1), .ref (K.2.2 b)] (fun τ => txD τ tx n ∧ ctx τ (bC tx n P) ∧ (τ b 5 = bC tx n P 11 3 ∧ ∀ j : Int, j ≠ 5 → τ b j = σ b j) ∧ ∀ k, k ≠ 1 → k ≠ b → τ k = σ k) := by
  refine met_of [(0, .ref (K.2.2 1)), (1, .ref (K.2.2 b))] (by decide +kernel) (Nat.le_of_ble_eq_true rfl) rfl ?_
  intro pP eE sS mM bW mT cC B hrt hlk
  replace B : CB pP sS mM [.ref (K.2.2 1), .ref (K.2.2 b)].toArray cC cX9_readBarrel RX9 3 K := B
  obtain ⟨hT1, hT2, hT3⟩ := id hT
  have hb1 := hb0.1
  have hb2 := hb0.2
  obtain ⟨hF0, hF1⟩ := id hF
  refine g_aload_n (pc' := 1) B 0 rfl rfl dX9_readBarrel_0 rfl ?_
  refine g_aload_n (pc' := 2) B 1 rfl rfl dX9_readBarrel_1 rfl ?_
  refine g_get (pc' := 5) B (P 11 3) hbt fl_X9_100 (ly_S hb) rfl dX9_readBarrel_2 rfl ?_
  refine g_iconst (pc' := 6) B dX9_readBarrel_5 rfl ?_
  refine g_icmp_eq (pc' := 9) B 13 (by omega) (by omega) dX9_readBarrel_6 (by decide) rfl (fun c6 => ?_) (fun c6 => ?_)
  · refine g_iconst (pc' := 14) B dX9_readBarrel_13 rfl ?_
    refine g_callVV (pc' := 17) (As := [.int (iI 0)]) B (c_X9_readWord l K _ (tx := tx) (n := n) (P := P) (w := 0) hT hP hb0.1 hb0.2 (by omega)) vt_X9_readWord tw_404 rfl rfl ⟨by decide, by decide⟩ rfl (Nat.le_of_ble_eq_true rfl) ⟨Nat.zero_le _, Nat.zero_le _⟩ rfl dX9_readBarrel_14 rfl (fun τ14 h14 => ?_)
    obtain ⟨h14a, h14b, h14c⟩ := h14
    generalize eQ1 : wd 0 P = Q1 at h14b
    have bQ1 : pbd n Q1 := by rw [← eQ1]; exact wd_bd hb0 hnf.2
    have rQ1 : ∀ k, k ≠ 11 → Q1 k = P k := by rw [← eQ1]; exact wd_row _ _
    refine g_aload_n (pc' := 18) B 0 rfl rfl dX9_readBarrel_17 rfl ?_
    refine g_iconst (pc' := 19) B dX9_readBarrel_18 rfl ?_
    refine g_aload_n (pc' := 20) B 1 rfl rfl dX9_readBarrel_19 rfl ?_
    refine g_getR (pc' := 23) B (b + 1) fl_X9_44 (ly_S hb) rfl dX9_readBarrel_20 rfl ?_
    refine g_get (pc' := 26) B (P 9 0) (by rw [h14c _ (by omega)]; exact hS.1.1) fl_X9_59 (ly_G (by omega)) rfl dX9_readBarrel_23 rfl ?_
    refine g_iconst (pc' := 27) B dX9_readBarrel_26 rfl ?_
    refine g_isub (pc' := 28) B dX9_readBarrel_27 rfl ?_
    refine g_callVI (pc' := 31) (As := [.int (iI 0), .int (iI ((P 9 0) - 1))]) B (c_X9_readNumber l K _ (tx := tx) (n := n) (P := Q1) (lo := 0) (hi := (P 9 0) - 1) h14a h14b bQ1.1 bQ1.2 (by omega) (by omega)) vt_X9_readNumber tw_412 rfl rfl ⟨by decide, by decide⟩ rfl (Nat.le_of_ble_eq_true rfl) ⟨Nat.zero_le _, Nat.zero_le _⟩ rfl dX9_readBarrel_28 rfl (fun z28 τ28 h28 => ?_)
    obtain ⟨h28a, h28b, h28v, h28c⟩ := h28
    generalize eQ2 : nm tx n 0 (P 9 0 - 1) Q1 = Q2 at h28b
    have bQ2 : pbd n Q2 := by rw [← eQ2]; exact nm_bd bQ1
    have rQ2 : ∀ k, k ≠ 11 → Q2 k = Q1 k := by rw [← eQ2]; exact nm_row _ _ _ _ _
    refine g_istore_n (pc' := 32) B [(2, .int (iI z28)), (0, .ref (K.2.2 1)), (1, .ref (K.2.2 b))] dX9_readBarrel_31 rfl rfl (by decide) rfl ?_
    refine g_aload_n (pc' := 33) B 1 rfl rfl dX9_readBarrel_32 rfl ?_
    refine g_callVV (pc' := 36) (As := []) B (c_X9_readEnd l K _ (tx := tx) (n := n) (P := Q2) h28a h28b bQ2.1 bQ2.2) vt_X9_readEnd tw_420 rfl rfl ⟨by decide, by decide⟩ rfl (Nat.le_of_ble_eq_true rfl) ⟨Nat.zero_le _, Nat.zero_le _⟩ rfl dX9_readBarrel_33 rfl (fun τ33 h33 => ?_)
    obtain ⟨h33a, h33b, h33c⟩ := h33
    generalize eQ3 : ne tx n Q2 = Q3 at h33b
    have bQ3 : pbd n Q3 := by rw [← eQ3]; exact ne_bd bQ2
    have rQ3 : ∀ k, k ≠ 11 → Q3 k = Q2 k := by rw [← eQ3]; exact ne_row _ _ _
    refine g_aload_n (pc' := 37) B 1 rfl rfl dX9_readBarrel_36 rfl ?_
    have hk6 := bQ3.2
    have r6 : ∀ k, k ≠ 11 → Q3 k = P k := fun k hk => by rw [rQ3 k hk, rQ2 k hk, rQ1 k hk]
    have f6x : ∀ k, k ≠ 1 → τ33 k = σ k := fun k hk => by rw [h33c k hk, h28c k hk, h14c k hk]
    have e6 : b3 tx n (P 9 0) Q1 = Q3 := by unfold b3; rw [eQ2, eQ3]
    have eW : wd (if P 11 3 = -1 then 0 else 1) P = Q1 := by first | (rw [if_pos c6]; exact eQ1) | (rw [if_neg (by omega)]; exact eQ1)
    have eF : bC tx n P = (if Q3 11 1 = 0 then up Q3 11 3 z28 else Q3) := by unfold bC; rw [eW]; simp only [e6, eQ2, ← h28v]
    have hb3 : Q3 11 3 = P 11 3 := by rw [← eQ3, ne_3, ← eQ2, nm_3, ← eQ1, wd_3]
    refine g_get (pc' := 40) B (Q3 11 1) h33b.2.1 fl_X9_22 rfl rfl dX9_readBarrel_37 rfl ?_
    refine g_if_ne (pc' := 43) B 48 (by omega) dX9_readBarrel_40 (by decide) rfl (fun c40 => ?_) (fun c40 => ?_)
    · rw [if_neg c40] at eF
      have hA1 := h33a
      have hA2 : ctx τ33 (bC tx n P) := by rw [eF]; exact h33b
      have hA3 : τ33 b 5 = bC tx n P 11 3 ∧ ∀ j : Int, j ≠ 5 → τ33 b j = σ b j := by rw [eF, f6x b (by omega), hbt, ← hb3]; exact ⟨rfl, fun j _ => rfl⟩
      have hA4 : ∀ k, k ≠ 1 → k ≠ b → τ33 k = σ k := fun k hk _ => f6x k hk
      exact g_vret B hrt hlk dX9_readBarrel_48 ⟨hA1, hA2, hA3, hA4⟩
    · rw [← eQ3] at c40
      have v2 := ne_zero c40
      rw [eQ3] at c40
      rw [← eQ2] at v2
      have y1 := nm_zero v2
      have v1 := y1.1
      rw [← h28v] at y1
      rw [← eQ1] at v1
      have y0 := wd_zero v1
      have r90 := congrFun (r6 9 (by decide))
      have r90a := r90 0
      have r90b := r90 1
      have r90c := r90 2
      have r90d := r90 3
      refine g_aload_n (pc' := 44) B 2 rfl rfl dX9_readBarrel_43 rfl ?_
      refine g_iload_n (pc' := 45) B 0 rfl rfl dX9_readBarrel_44 rfl ?_
      refine g_put (pc' := 48) B 5 rfl fp_X9_100 (ly_S hb) rfl dX9_readBarrel_45 rfl ?_
      rw [if_pos c40] at eF
      have hA1 : txD (up τ33 b 5 z28) tx n := h33a.keep (by rw [up_row (by omega)]) (by rw [up_row (by omega)])
      have hA2 : ctx (up τ33 b 5 z28) (bC tx n P) := by rw [eF]; unfold ctx; rw [up_row (show (1 : Nat) ≠ b by omega)]; simp only [up]; exact h33b
      have hA3 : (up τ33 b 5 z28) b 5 = bC tx n P 11 3 ∧ ∀ j : Int, j ≠ 5 → (up τ33 b 5 z28) b j = σ b j := by rw [eF]; exact ⟨by simp [up], fun j hj => by rw [up_col hj, f6x b (by omega)]⟩
      have hA4 : ∀ k, k ≠ 1 → k ≠ b → (up τ33 b 5 z28) k = σ k := fun k hk h1 => by rw [up_row h1]; exact f6x k hk
      exact g_vret B hrt hlk dX9_readBarrel_48 ⟨hA1, hA2, hA3, hA4⟩
  · refine g_iconst (pc' := 10) B dX9_readBarrel_9 rfl ?_
    refine g_goto (pc' := 14) B dX9_readBarrel_10 (by decide) ?_
    refine g_callVV (pc' := 17) (As := [.int (iI 1)]) B (c_X9_readWord l K _ (tx := tx) (n := n) (P := P) (w := 1) hT hP hb0.1 hb0.2 (by omega)) vt_X9_readWord tw_404 rfl rfl ⟨by decide, by decide⟩ rfl (Nat.le_of_ble_eq_true rfl) ⟨Nat.zero_le _, Nat.zero_le _⟩ rfl dX9_readBarrel_14 rfl (fun τ14 h14 => ?_)
    obtain ⟨h14a, h14b, h14c⟩ := h14
    generalize eQ1 : wd 1 P = Q1 at h14b
    have bQ1 : pbd n Q1 := by rw [← eQ1]; exact wd_bd hb0 hnf.2
    have rQ1 : ∀ k, k ≠ 11 → Q1 k = P k := by rw [← eQ1]; exact wd_row _ _
    refine g_aload_n (pc' := 18) B 0 rfl rfl dX9_readBarrel_17 rfl ?_
    refine g_iconst (pc' := 19) B dX9_readBarrel_18 rfl ?_
    refine g_aload_n (pc' := 20) B 1 rfl rfl dX9_readBarrel_19 rfl ?_
    refine g_getR (pc' := 23) B (b + 1) fl_X9_44 (ly_S hb) rfl dX9_readBarrel_20 rfl ?_
    refine g_get (pc' := 26) B (P 9 0) (by rw [h14c _ (by omega)]; exact hS.1.1) fl_X9_59 (ly_G (by omega)) rfl dX9_readBarrel_23 rfl ?_
    refine g_iconst (pc' := 27) B dX9_readBarrel_26 rfl ?_
    refine g_isub (pc' := 28) B dX9_readBarrel_27 rfl ?_
    refine g_callVI (pc' := 31) (As := [.int (iI 0), .int (iI ((P 9 0) - 1))]) B (c_X9_readNumber l K _ (tx := tx) (n := n) (P := Q1) (lo := 0) (hi := (P 9 0) - 1) h14a h14b bQ1.1 bQ1.2 (by omega) (by omega)) vt_X9_readNumber tw_412 rfl rfl ⟨by decide, by decide⟩ rfl (Nat.le_of_ble_eq_true rfl) ⟨Nat.zero_le _, Nat.zero_le _⟩ rfl dX9_readBarrel_28 rfl (fun z28 τ28 h28 => ?_)
    obtain ⟨h28a, h28b, h28v, h28c⟩ := h28
    generalize eQ2 : nm tx n 0 (P 9 0 - 1) Q1 = Q2 at h28b
    have bQ2 : pbd n Q2 := by rw [← eQ2]; exact nm_bd bQ1
    have rQ2 : ∀ k, k ≠ 11 → Q2 k = Q1 k := by rw [← eQ2]; exact nm_row _ _ _ _ _
    refine g_istore_n (pc' := 32) B [(2, .int (iI z28)), (0, .ref (K.2.2 1)), (1, .ref (K.2.2 b))] dX9_readBarrel_31 rfl rfl (by decide) rfl ?_
    refine g_aload_n (pc' := 33) B 1 rfl rfl dX9_readBarrel_32 rfl ?_
    refine g_callVV (pc' := 36) (As := []) B (c_X9_readEnd l K _ (tx := tx) (n := n) (P := Q2) h28a h28b bQ2.1 bQ2.2) vt_X9_readEnd tw_420 rfl rfl ⟨by decide, by decide⟩ rfl (Nat.le_of_ble_eq_true rfl) ⟨Nat.zero_le _, Nat.zero_le _⟩ rfl dX9_readBarrel_33 rfl (fun τ33 h33 => ?_)
    obtain ⟨h33a, h33b, h33c⟩ := h33
    generalize eQ3 : ne tx n Q2 = Q3 at h33b
    have bQ3 : pbd n Q3 := by rw [← eQ3]; exact ne_bd bQ2
    have rQ3 : ∀ k, k ≠ 11 → Q3 k = Q2 k := by rw [← eQ3]; exact ne_row _ _ _
    refine g_aload_n (pc' := 37) B 1 rfl rfl dX9_readBarrel_36 rfl ?_
    have hk6 := bQ3.2
    have r6 : ∀ k, k ≠ 11 → Q3 k = P k := fun k hk => by rw [rQ3 k hk, rQ2 k hk, rQ1 k hk]
    have f6x : ∀ k, k ≠ 1 → τ33 k = σ k := fun k hk => by rw [h33c k hk, h28c k hk, h14c k hk]
    have e6 : b3 tx n (P 9 0) Q1 = Q3 := by unfold b3; rw [eQ2, eQ3]
    have eW : wd (if P 11 3 = -1 then 0 else 1) P = Q1 := by first | (rw [if_pos c6]; exact eQ1) | (rw [if_neg (by omega)]; exact eQ1)
    have eF : bC tx n P = (if Q3 11 1 = 0 then up Q3 11 3 z28 else Q3) := by unfold bC; rw [eW]; simp only [e6, eQ2, ← h28v]
    have hb3 : Q3 11 3 = P 11 3 := by rw [← eQ3, ne_3, ← eQ2, nm_3, ← eQ1, wd_3]
    refine g_get (pc' := 40) B (Q3 11 1) h33b.2.1 fl_X9_22 rfl rfl dX9_readBarrel_37 rfl ?_
    refine g_if_ne (pc' := 43) B 48 (by omega) dX9_readBarrel_40 (by decide) rfl (fun c40 => ?_) (fun c40 => ?_)
    · rw [if_neg c40] at eF
      have hA1 := h33a
      have hA2 : ctx τ33 (bC tx n P) := by rw [eF]; exact h33b
      have hA3 : τ33 b 5 = bC tx n P 11 3 ∧ ∀ j : Int, j ≠ 5 → τ33 b j = σ b j := by rw [eF, f6x b (by omega), hbt, ← hb3]; exact ⟨rfl, fun j _ => rfl⟩
      have hA4 : ∀ k, k ≠ 1 → k ≠ b → τ33 k = σ k := fun k hk _ => f6x k hk
      exact g_vret B hrt hlk dX9_readBarrel_48 ⟨hA1, hA2, hA3, hA4⟩
    · rw [← eQ3] at c40
      have v2 := ne_zero c40
      rw [eQ3] at c40
      rw [← eQ2] at v2
      have y1 := nm_zero v2
      have v1 := y1.1
      rw [← h28v] at y1
      rw [← eQ1] at v1
      have y0 := wd_zero v1
      have r90 := congrFun (r6 9 (by decide))
      have r90a := r90 0
      have r90b := r90 1
      have r90c := r90 2
      have r90d := r90 3
      refine g_aload_n (pc' := 44) B 2 rfl rfl dX9_readBarrel_43 rfl ?_
      refine g_iload_n (pc' := 45) B 0 rfl rfl dX9_readBarrel_44 rfl ?_
      refine g_put (pc' := 48) B 5 rfl fp_X9_100 (ly_S hb) rfl dX9_readBarrel_45 rfl ?_
      rw [if_pos c40] at eF
      have hA1 : txD (up τ33 b 5 z28) tx n := h33a.keep (by rw [up_row (by omega)]) (by rw [up_row (by omega)])
      have hA2 : ctx (up τ33 b 5 z28) (bC tx n P) := by rw [eF]; unfold ctx; rw [up_row (show (1 : Nat) ≠ b by omega)]; simp only [up]; exact h33b
      have hA3 : (up τ33 b 5 z28) b 5 = bC tx n P 11 3 ∧ ∀ j : Int, j ≠ 5 → (up τ33 b 5 z28) b j = σ b j := by rw [eF]; exact ⟨by simp [up], fun j hj => by rw [up_col hj, f6x b (by omega)]⟩
      have hA4 : ∀ k, k ≠ 1 → k ≠ b → (up τ33 b 5 z28) k = σ k := fun k hk h1 => by rw [up_row h1]; exact f6x k hk
      exact g_vret B hrt hlk dX9_readBarrel_48 ⟨hA1, hA2, hA3, hA4⟩
