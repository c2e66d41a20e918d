def qTold (D : SG) (sl : Int → Int) (S X L P a b c d e w : Int) : Int := if w = 0 then D 9 0 else if w = 1 then D 9 1 else if w = 2 then D 9 2 else if w = 3 then a else if w = 4 then S else if w = 5 then X else if w = 6 then L else if w = 7 then P else if w = 8 then D 9 3 else if w = 9 then b else if w = 10 then c else if w = 11 then d else if w = 12 then e else if w = 13 then oset D S (D 9 2).toNat else if w = 14 then cset D sl X (D 9 1).toNat else -1000000002
def aRounds (D Y : SG) (f i z : Int) : Prop := (¬ (0 ≤ f ∧ f < D 9 0) ∧ z = -1000000001) ∨ ((0 ≤ f ∧ f < D 9 0) ∧ ((i = -1 ∧ z = cNt D Y f 13) ∨ (i ≠ -1 ∧ isT D Y f i z)))
theorem lN_and (a b : Nat) : lN a &&& lN b = lN (a &&& b) := by
  apply Int64.toBitVec_inj.1
  show BitVec.ofNat 64 a &&& BitVec.ofNat 64 b = BitVec.ofNat 64 (a &&& b)
  apply BitVec.eq_of_getLsbD_eq
  intro i hi
  simp [hi]
theorem lI_lN (n : Nat) : lI (n : Int) = lN n := Int64.ofInt_eq_ofNat
theorem land31 {a : Int} (h : 0 ≤ a) : lI a &&& lI 2147483647 = lI (a % 2147483648) := by
  obtain ⟨n, rfl⟩ : ∃ n : Nat, a = n := ⟨a.toNat, by omega⟩
  rw [lI_lN, show lI 2147483647 = lN (2 ^ 31 - 1) from rfl, lN_and, Nat.and_two_pow_sub_one_eq_mod, ← lI_lN]
  congr 1
/-- THE SEED, one draw on -/
def sdn (v : Int) : Int := (v * 1103515245 + 12345) % 2147483648
theorem sdn_bd (v : Int) : 0 ≤ sdn v ∧ sdn v < 2147483648 := by unfold sdn; omega
set_option maxRecDepth 100000 in
set_option maxHeartbeats 4000000 in
theorem c_X11_told (l : Launch) (K : WK) (σ : SG) {b : Nat} (hb : b = 3 ∨ b = 17) (hcb : σ 0 1 = ((b : Nat) : Int)) {D : SG} (hS : sD σ b D) (hF : okF D) (hR : okR D) (hO : okQ D) (hH : okH D) {S X L P : Int} (hm : σ 31 0 = S ∧ σ 31 1 = X ∧ σ 31 2 = L ∧ σ 31 3 = P) (hSX : 0 ≤ X ∧ X ≤ S ∧ S ≤ 70000) {sl : Int → Int} (hsl : ∀ h : Int, 0 ≤ h → h < D 9 1 → σ (b + 13) h = sl h ∧ 0 ≤ sl h ∧ sl h ≤ 999) {w : Int} (hw : -2147483648 ≤ w ∧ w < 2147483648) : MI l yX11_told cX11_told 2 (some .int) 6 133 K σ [.ref (K.2.2 0), .int (iI w)] (fun z τ => σ = τ ∧ z = qTold D sl S X L P (σ 1 1) (σ 45 2) (σ 50 3) (σ 54 2) (σ 32 5) w) := by
  refine met_of [(0, .ref (K.2.2 0)), (1, .int (iI w))] (by decide +kernel) (Nat.le_of_ble_eq_true rfl) rfl ?_
  intro pP eE sS mM bW mT cC B hrt hlk
  replace B : CB pP sS mM [.ref (K.2.2 0), .int (iI w)].toArray cC cX11_told RX11 2 K := B
  obtain ⟨hF0, hF1⟩ := id hF
  obtain ⟨hO0, hO1⟩ := id hO
  obtain ⟨hH0, hH1⟩ := id hH
  obtain ⟨hR0, hR1⟩ := id hR
  refine g_iload_n (pc' := 1) B 1 rfl rfl dX11_told_0 rfl ?_
  rcases (show w = 0 ∨ w = 1 ∨ w = 2 ∨ w = 3 ∨ w = 4 ∨ w = 5 ∨ w = 6 ∨ w = 7 ∨ w = 8 ∨ w = 9 ∨ w = 10 ∨ w = 11 ∨ w = 12 ∨ w = 13 ∨ w = 14 ∨ (w < 0 ∨ 14 < w) by omega) with c1 | c1 | c1 | c1 | c1 | c1 | c1 | c1 | c1 | c1 | c1 | c1 | c1 | c1 | c1 | c1
  · refine g_tableIn B 0 76 c1 dX11_told_1 (by decide) (by decide) (by decide) rfl (by decide) ?_
    refine g_aload_n (pc' := 77) B 0 rfl rfl dX11_told_76 rfl ?_
    refine g_getV (pc' := 80) B b (vr hcb) fl_X11_19 rfl rfl dX11_told_77 rfl ?_
    refine g_getR (pc' := 83) B (b + 1) fl_X11_121 (ly_S hb) rfl dX11_told_80 rfl ?_
    refine g_get (pc' := 86) B (D 9 0) hS.1.1 fl_X11_125 (ly_G (by omega)) rfl dX11_told_83 rfl ?_
    exact g_iret (z := D 9 0) B hrt rfl hlk dX11_told_86 ⟨rfl, by rw [c1]; rfl⟩
  · refine g_tableIn B 1 87 c1 dX11_told_1 (by decide) (by decide) (by decide) rfl (by decide) ?_
    refine g_aload_n (pc' := 88) B 0 rfl rfl dX11_told_87 rfl ?_
    refine g_getV (pc' := 91) B b (vr hcb) fl_X11_19 rfl rfl dX11_told_88 rfl ?_
    refine g_get (pc' := 94) B (D 9 1) hS.2.2.1 fl_X11_128 (ly_S hb) rfl dX11_told_91 rfl ?_
    exact g_iret (z := D 9 1) B hrt rfl hlk dX11_told_94 ⟨rfl, by rw [c1]; rfl⟩
  · refine g_tableIn B 2 95 c1 dX11_told_1 (by decide) (by decide) (by decide) rfl (by decide) ?_
    refine g_aload_n (pc' := 96) B 0 rfl rfl dX11_told_95 rfl ?_
    refine g_getV (pc' := 99) B b (vr hcb) fl_X11_19 rfl rfl dX11_told_96 rfl ?_
    refine g_getR (pc' := 102) B (b + 7) fl_X11_131 (ly_S hb) rfl dX11_told_99 rfl ?_
    refine g_get (pc' := 105) B (D 9 2) hS.2.1.1 fl_X11_135 (ly_Q (by omega)) rfl dX11_told_102 rfl ?_
    exact g_iret (z := D 9 2) B hrt rfl hlk dX11_told_105 ⟨rfl, by rw [c1]; rfl⟩
  · refine g_tableIn B 3 106 c1 dX11_told_1 (by decide) (by decide) (by decide) rfl (by decide) ?_
    refine g_aload_n (pc' := 107) B 0 rfl rfl dX11_told_106 rfl ?_
    refine g_getR (pc' := 110) B 1 fl_X11_10 rfl rfl dX11_told_107 rfl ?_
    refine g_get (pc' := 113) B (σ 1 1) rfl fl_X11_90 rfl rfl dX11_told_110 rfl ?_
    exact g_iret (z := σ 1 1) B hrt rfl hlk dX11_told_113 ⟨rfl, by rw [c1]; rfl⟩
  · refine g_tableIn B 4 114 c1 dX11_told_1 (by decide) (by decide) (by decide) rfl (by decide) ?_
    refine g_aload_n (pc' := 115) B 0 rfl rfl dX11_told_114 rfl ?_
    refine g_getR (pc' := 118) B 31 fl_X11_33 rfl rfl dX11_told_115 rfl ?_
    refine g_get (pc' := 121) B S hm.1 fl_X11_138 rfl rfl dX11_told_118 rfl ?_
    exact g_iret (z := S) B hrt rfl hlk dX11_told_121 ⟨rfl, by rw [c1]; rfl⟩
  · refine g_tableIn B 5 122 c1 dX11_told_1 (by decide) (by decide) (by decide) rfl (by decide) ?_
    refine g_aload_n (pc' := 123) B 0 rfl rfl dX11_told_122 rfl ?_
    refine g_getR (pc' := 126) B 31 fl_X11_33 rfl rfl dX11_told_123 rfl ?_
    refine g_get (pc' := 129) B X hm.2.1 fl_X11_141 rfl rfl dX11_told_126 rfl ?_
    exact g_iret (z := X) B hrt rfl hlk dX11_told_129 ⟨rfl, by rw [c1]; rfl⟩
  · refine g_tableIn B 6 130 c1 dX11_told_1 (by decide) (by decide) (by decide) rfl (by decide) ?_
    refine g_aload_n (pc' := 131) B 0 rfl rfl dX11_told_130 rfl ?_
    refine g_getR (pc' := 134) B 31 fl_X11_33 rfl rfl dX11_told_131 rfl ?_
    refine g_get (pc' := 137) B L hm.2.2.1 fl_X11_144 rfl rfl dX11_told_134 rfl ?_
    exact g_iret (z := L) B hrt rfl hlk dX11_told_137 ⟨rfl, by rw [c1]; rfl⟩
  · refine g_tableIn B 7 138 c1 dX11_told_1 (by decide) (by decide) (by decide) rfl (by decide) ?_
    refine g_aload_n (pc' := 139) B 0 rfl rfl dX11_told_138 rfl ?_
    refine g_getR (pc' := 142) B 31 fl_X11_33 rfl rfl dX11_told_139 rfl ?_
    refine g_get (pc' := 145) B P hm.2.2.2 fl_X11_147 rfl rfl dX11_told_142 rfl ?_
    exact g_iret (z := P) B hrt rfl hlk dX11_told_145 ⟨rfl, by rw [c1]; rfl⟩
  · refine g_tableIn B 8 146 c1 dX11_told_1 (by decide) (by decide) (by decide) rfl (by decide) ?_
    refine g_aload_n (pc' := 147) B 0 rfl rfl dX11_told_146 rfl ?_
    refine g_getV (pc' := 150) B b (vr hcb) fl_X11_19 rfl rfl dX11_told_147 rfl ?_
    refine g_getR (pc' := 153) B (b + 1) fl_X11_121 (ly_S hb) rfl dX11_told_150 rfl ?_
    refine g_get (pc' := 156) B (D 9 3) hS.1.2.1 fl_X11_150 (ly_G (by omega)) rfl dX11_told_153 rfl ?_
    exact g_iret (z := D 9 3) B hrt rfl hlk dX11_told_156 ⟨rfl, by rw [c1]; rfl⟩
  · refine g_tableIn B 9 157 c1 dX11_told_1 (by decide) (by decide) (by decide) rfl (by decide) ?_
    refine g_aload_n (pc' := 158) B 0 rfl rfl dX11_told_157 rfl ?_
    refine g_getR (pc' := 161) B 45 fl_X11_64 rfl rfl dX11_told_158 rfl ?_
    refine g_get (pc' := 164) B (σ 45 2) rfl fl_X11_153 rfl rfl dX11_told_161 rfl ?_
    exact g_iret (z := σ 45 2) B hrt rfl hlk dX11_told_164 ⟨rfl, by rw [c1]; rfl⟩
  · refine g_tableIn B 10 165 c1 dX11_told_1 (by decide) (by decide) (by decide) rfl (by decide) ?_
    refine g_aload_n (pc' := 166) B 0 rfl rfl dX11_told_165 rfl ?_
    refine g_getR (pc' := 169) B 50 fl_X11_71 rfl rfl dX11_told_166 rfl ?_
    refine g_get (pc' := 172) B (σ 50 3) rfl fl_X11_156 rfl rfl dX11_told_169 rfl ?_
    exact g_iret (z := σ 50 3) B hrt rfl hlk dX11_told_172 ⟨rfl, by rw [c1]; rfl⟩
  · refine g_tableIn B 11 173 c1 dX11_told_1 (by decide) (by decide) (by decide) rfl (by decide) ?_
    refine g_aload_n (pc' := 174) B 0 rfl rfl dX11_told_173 rfl ?_
    refine g_getR (pc' := 177) B 54 fl_X11_78 rfl rfl dX11_told_174 rfl ?_
    refine g_get (pc' := 180) B (σ 54 2) rfl fl_X11_159 rfl rfl dX11_told_177 rfl ?_
    exact g_iret (z := σ 54 2) B hrt rfl hlk dX11_told_180 ⟨rfl, by rw [c1]; rfl⟩
  · refine g_tableIn B 12 181 c1 dX11_told_1 (by decide) (by decide) (by decide) rfl (by decide) ?_
    refine g_aload_n (pc' := 182) B 0 rfl rfl dX11_told_181 rfl ?_
    refine g_getR (pc' := 185) B 32 fl_X11_40 rfl rfl dX11_told_182 rfl ?_
    refine g_get (pc' := 188) B (σ 32 5) rfl fl_X11_111 rfl rfl dX11_told_185 rfl ?_
    exact g_iret (z := σ 32 5) B hrt rfl hlk dX11_told_188 ⟨rfl, by rw [c1]; rfl⟩
  · refine g_tableIn B 13 189 c1 dX11_told_1 (by decide) (by decide) (by decide) rfl (by decide) ?_
    refine g_aload_n (pc' := 190) B 0 rfl rfl dX11_told_189 rfl ?_
    refine g_getV (pc' := 193) B b (vr hcb) fl_X11_19 rfl rfl dX11_told_190 rfl ?_
    refine g_getR (pc' := 196) B (b + 7) fl_X11_131 (ly_S hb) rfl dX11_told_193 rfl ?_
    refine g_aload_n (pc' := 197) B 0 rfl rfl dX11_told_196 rfl ?_
    refine g_getR (pc' := 200) B 31 fl_X11_33 rfl rfl dX11_told_197 rfl ?_
    refine g_get (pc' := 203) B S hm.1 fl_X11_138 rfl rfl dX11_told_200 rfl ?_
    refine g_callVI (pc' := 206) (As := [.int (iI S)]) B (c_X6_openSet l K _ (q := b + 7) (D := D) (t := S) (by omega) hS.2.1 hO (by omega)) vt_X6_openSet tw_471 (ly_Q (by omega)) rfl ⟨by decide, by decide⟩ rfl (Nat.le_of_ble_eq_true rfl) ⟨Nat.zero_le _, Nat.zero_le _⟩ rfl dX11_told_203 rfl (fun z203 τ203 h203 => ?_)
    obtain ⟨rfl, rfl⟩ := h203
    exact g_iret (z := oset D S (D 9 2).toNat) B hrt rfl hlk dX11_told_206 ⟨rfl, by rw [c1]; rfl⟩
  · refine g_tableIn B 14 207 c1 dX11_told_1 (by decide) (by decide) (by decide) rfl (by decide) ?_
    refine g_aload_n (pc' := 208) B 0 rfl rfl dX11_told_207 rfl ?_
    refine g_getV (pc' := 211) B b (vr hcb) fl_X11_19 rfl rfl dX11_told_208 rfl ?_
    refine g_aload_n (pc' := 212) B 0 rfl rfl dX11_told_211 rfl ?_
    refine g_getR (pc' := 215) B 31 fl_X11_33 rfl rfl dX11_told_212 rfl ?_
    refine g_get (pc' := 218) B X hm.2.1 fl_X11_141 rfl rfl dX11_told_215 rfl ?_
    refine g_callVI (pc' := 221) (As := [.int (iI X)]) B (c_X8_crackedSet l K _ (b := b) (D := D) (sl := sl) (x := X) hb hS hF hH hsl (by omega)) vt_X8_crackedSet tw_490 (ly_S hb) rfl ⟨by decide, by decide⟩ rfl (Nat.le_of_ble_eq_true rfl) ⟨Nat.zero_le _, Nat.zero_le _⟩ rfl dX11_told_218 rfl (fun z218 τ218 h218 => ?_)
    obtain ⟨rfl, rfl⟩ := h218
    exact g_iret (z := cset D sl X (D 9 1).toNat) B hrt rfl hlk dX11_told_221 ⟨rfl, by rw [c1]; rfl⟩
  · refine g_tableOut B 222 c1 (by omega) dX11_told_1 (by decide) ?_
    refine g_ldc (z := (-1000000002)) (pc' := 224) B tw_366 (by decide +kernel) dX11_told_222 rfl ?_
    exact g_iret (z := (-1000000002)) B hrt rfl hlk dX11_told_224 ⟨rfl, by unfold qTold; rw [if_neg (by omega), if_neg (by omega), if_neg (by omega), if_neg (by omega), if_neg (by omega), if_neg (by omega), if_neg (by omega), if_neg (by omega), if_neg (by omega), if_neg (by omega), if_neg (by omega), if_neg (by omega), if_neg (by omega), if_neg (by omega), if_neg (by omega)]⟩
set_option maxRecDepth 100000 in
set_option maxHeartbeats 4000000 in
theorem c_X11_feed (l : Launch) (K : WK) (σ : SG) {tx : Int → Int} {n : Int} (hT : txD σ tx n) {v : Int} (hv : -2147483648 ≤ v ∧ v < 2147483648) : MI l yX11_feed cX11_feed 2 (some .int) 1 22 K σ [.ref (K.2.2 0), .int (iI v)] (fun z τ => (((v < 0 ∨ 255 < v) ∧ τ = σ ∧ z = -1000000002) ∨ (¬ (v < 0 ∨ 255 < v) ∧ 250 ≤ n ∧ τ = σ ∧ z = -1000000004) ∨ (¬ (v < 0 ∨ 255 < v) ∧ n < 250 ∧ τ = up (up σ 2 n v) 1 1 (n + 1) ∧ z = n + 1))) := by
  refine met_of [(0, .ref (K.2.2 0)), (1, .int (iI v))] (by decide +kernel) (Nat.le_of_ble_eq_true rfl) rfl ?_
  intro pP eE sS mM bW mT cC B hrt hlk
  replace B : CB pP sS mM [.ref (K.2.2 0), .int (iI v)].toArray cC cX11_feed RX11 2 K := B
  obtain ⟨hT1, hT2, hT3⟩ := id hT
  refine g_iload_n (pc' := 1) B 1 rfl rfl dX11_feed_0 rfl ?_
  refine g_iconst (pc' := 2) B dX11_feed_1 rfl ?_
  refine g_sipush (pc' := 5) B (by decide +kernel) dX11_feed_2 rfl ?_
  refine g_callSI (pc' := 8) (As := [.int (iI v), .int (iI 0), .int (iI 255)]) B (c_X11_isOutside l K _ (v := v) (low := 0) (high := 255) (by omega) (by omega) (by omega)) st_X11_isOutside tw_363 ⟨by decide, by decide⟩ rfl (Nat.le_of_ble_eq_true rfl) ⟨Nat.zero_le _, Nat.zero_le _⟩ rfl dX11_feed_5 rfl (fun z5 τ5 h5 => ?_)
  obtain ⟨rfl, h5⟩ := h5
  rcases h5 with ⟨h5, rfl⟩ | ⟨h5, rfl⟩
  · refine g_if_eq (pc' := 11) B 14 (by omega) dX11_feed_8 (by decide) rfl (fun q => absurd q (by decide)) (fun _ => ?_)
    refine g_ldc (z := (-1000000002)) (pc' := 13) B tw_366 (by decide +kernel) dX11_feed_11 rfl ?_
    exact g_iret (z := (-1000000002)) B hrt rfl hlk dX11_feed_13 (Or.inl ⟨h5, rfl, rfl⟩)
  · refine g_if_eq (pc' := 11) B 14 (by omega) dX11_feed_8 (by decide) rfl (fun _ => ?_) (fun q => absurd q (by decide))
    refine g_aload_n (pc' := 15) B 0 rfl rfl dX11_feed_14 rfl ?_
    refine g_getR (pc' := 18) B 1 fl_X11_10 rfl rfl dX11_feed_15 rfl ?_
    refine g_get (pc' := 21) B n hT.1 fl_X11_90 rfl rfl dX11_feed_18 rfl ?_
    refine g_sipush (pc' := 24) B (by decide +kernel) dX11_feed_21 rfl ?_
    refine g_icmp_lt (pc' := 27) B 30 (by omega) (by omega) dX11_feed_24 (by decide) rfl (fun c24 => ?_) (fun c24 => ?_)
    · refine g_aload_n (pc' := 31) B 0 rfl rfl dX11_feed_30 rfl ?_
      refine g_getR (pc' := 34) B 1 fl_X11_10 rfl rfl dX11_feed_31 rfl ?_
      refine g_iload_n (pc' := 35) B 1 rfl rfl dX11_feed_34 rfl ?_
      refine g_callVI (pc' := 38) (As := [.int (iI v)]) B (c_X9_add l K _ (tx := tx) (n := n) (v := v) hT (by omega) (by omega)) vt_X9_add tw_368 rfl rfl ⟨by decide, by decide⟩ rfl (Nat.le_of_ble_eq_true rfl) ⟨Nat.zero_le _, Nat.zero_le _⟩ rfl dX11_feed_35 rfl (fun z35 τ35 h35 => ?_)
      obtain ⟨h35a, h35b⟩ := h35
      subst h35a
      subst h35b
      exact g_iret (z := n + 1) B hrt rfl hlk dX11_feed_38 (Or.inr (Or.inr ⟨h5, c24, rfl, rfl⟩))
    · refine g_ldc (z := (-1000000004)) (pc' := 29) B tw_367 (by decide +kernel) dX11_feed_27 rfl ?_
      exact g_iret (z := (-1000000004)) B hrt rfl hlk dX11_feed_29 (Or.inr (Or.inl ⟨h5, c24, rfl, rfl⟩))
set_option maxRecDepth 100000 in
set_option maxHeartbeats 4000000 in
theorem c_X11_rounds (l : Launch) (K : WK) (σ : SG) {b : Nat} (hb : b = 3 ∨ b = 17) (hcb : σ 0 1 = ((b : Nat) : Int)) {D : SG} (hS : sD σ b D) (hF : okF D) (hR : okR D) (hO : okQ D) (hH : okH D) {Y : SG} (hY : yD σ Y) {f i : Int} (hf : -2147483648 ≤ f ∧ f < 2147483648) (hi : -2147483648 ≤ i ∧ i < 2147483648) : MI l yX11_rounds cX11_rounds 3 (some .int) 4 96 K σ [.ref (K.2.2 0), .int (iI f), .int (iI i)] (fun z τ => σ = τ ∧ aRounds D Y f i z) := by
  refine met_of [(0, .ref (K.2.2 0)), (1, .int (iI f)), (2, .int (iI i))] (by decide +kernel) (Nat.le_of_ble_eq_true rfl) rfl ?_
  intro pP eE sS mM bW mT cC B hrt hlk
  replace B : CB pP sS mM [.ref (K.2.2 0), .int (iI f), .int (iI i)].toArray cC cX11_rounds RX11 3 K := B
  obtain ⟨hF0, hF1⟩ := id hF
  obtain ⟨hO0, hO1⟩ := id hO
  obtain ⟨hH0, hH1⟩ := id hH
  obtain ⟨hR0, hR1⟩ := id hR
  refine g_aload_n (pc' := 1) B 0 rfl rfl dX11_rounds_0 rfl ?_
  refine g_getV (pc' := 4) B b (vr hcb) fl_X11_19 rfl rfl dX11_rounds_1 rfl ?_
  refine g_getR (pc' := 7) B (b + 1) fl_X11_121 (ly_S hb) rfl dX11_rounds_4 rfl ?_
  refine g_iload_n (pc' := 8) B 1 rfl rfl dX11_rounds_7 rfl ?_
  refine g_callVI (pc' := 11) (As := [.int (iI f)]) B (c_X2_has l K _ (g := b + 1) (D := D) (f := f) (by omega) hS.1 hF (by omega)) vt_X2_has tw_532 (ly_G (by omega)) rfl ⟨by decide, by decide⟩ rfl (Nat.le_of_ble_eq_true rfl) ⟨Nat.zero_le _, Nat.zero_le _⟩ rfl dX11_rounds_8 rfl (fun z8 τ8 h8 => ?_)
  obtain ⟨rfl, h8⟩ := h8
  rcases h8 with ⟨h8, rfl⟩ | ⟨h8, rfl⟩
  · refine g_if_ne (pc' := 14) B 17 (by omega) dX11_rounds_11 (by decide) rfl (fun _ => ?_) (fun q => absurd q (by decide))
    refine g_iload_n (pc' := 18) B 2 rfl rfl dX11_rounds_17 rfl ?_
    refine g_iconst (pc' := 19) B dX11_rounds_18 rfl ?_
    refine g_icmp_ne (pc' := 22) B 40 (by omega) (by omega) dX11_rounds_19 (by decide) rfl (fun c19 => ?_) (fun c19 => ?_)
    · refine g_aload_n (pc' := 41) B 0 rfl rfl dX11_rounds_40 rfl ?_
      refine g_getR (pc' := 44) B 50 fl_X11_71 rfl rfl dX11_rounds_41 rfl ?_
      refine g_aload_n (pc' := 45) B 0 rfl rfl dX11_rounds_44 rfl ?_
      refine g_getV (pc' := 48) B b (vr hcb) fl_X11_19 rfl rfl dX11_rounds_45 rfl ?_
      refine g_getR (pc' := 51) B (b + 1) fl_X11_121 (ly_S hb) rfl dX11_rounds_48 rfl ?_
      refine g_iload_n (pc' := 52) B 1 rfl rfl dX11_rounds_51 rfl ?_
      refine g_iload_n (pc' := 53) B 2 rfl rfl dX11_rounds_52 rfl ?_
      refine g_callVI (pc' := 56) (As := [.ref (K.2.2 (b + 1)), .int (iI f), .int (iI i)]) B (c_X7_findTurn l K _ (g := b + 1) (D := D) (Y := Y) (f := f) (i := i) (by omega) hS.1 hF hY (by omega) (by omega)) vt_X7_findTurn tw_830 rfl rfl ⟨by decide, by decide⟩ rfl (Nat.le_of_ble_eq_true rfl) ⟨Nat.zero_le _, Nat.zero_le _⟩ rfl dX11_rounds_53 rfl (fun z53 τ53 h53 => ?_)
      obtain ⟨rfl, h53⟩ := h53
      exact g_iret (z := z53) B hrt rfl hlk dX11_rounds_56 ⟨rfl, Or.inr ⟨h8, by first | exact Or.inl ⟨c19, rfl⟩ | exact Or.inr ⟨c19, h53⟩⟩⟩
    · refine g_aload_n (pc' := 23) B 0 rfl rfl dX11_rounds_22 rfl ?_
      refine g_getR (pc' := 26) B 50 fl_X11_71 rfl rfl dX11_rounds_23 rfl ?_
      refine g_aload_n (pc' := 27) B 0 rfl rfl dX11_rounds_26 rfl ?_
      refine g_getV (pc' := 30) B b (vr hcb) fl_X11_19 rfl rfl dX11_rounds_27 rfl ?_
      refine g_getR (pc' := 33) B (b + 1) fl_X11_121 (ly_S hb) rfl dX11_rounds_30 rfl ?_
      refine g_iload_n (pc' := 34) B 1 rfl rfl dX11_rounds_33 rfl ?_
      refine g_callVI (pc' := 37) (As := [.ref (K.2.2 (b + 1)), .int (iI f)]) B (c_X7_countTurns l K _ (g := b + 1) (D := D) (Y := Y) (f := f) (by omega) hS.1 hF hY (by omega)) vt_X7_countTurns tw_820 rfl rfl ⟨by decide, by decide⟩ rfl (Nat.le_of_ble_eq_true rfl) ⟨Nat.zero_le _, Nat.zero_le _⟩ rfl dX11_rounds_34 rfl (fun z34 τ34 h34 => ?_)
      obtain ⟨rfl, rfl⟩ := h34
      refine g_goto (pc' := 56) B dX11_rounds_37 (by decide) ?_
      exact g_iret (z := cNt D Y f 13) B hrt rfl hlk dX11_rounds_56 ⟨rfl, Or.inr ⟨h8, by first | exact Or.inl ⟨c19, rfl⟩ | exact Or.inr ⟨c19, h53⟩⟩⟩
  · refine g_if_ne (pc' := 14) B 17 (by omega) dX11_rounds_11 (by decide) rfl (fun q => absurd q (by decide)) (fun _ => ?_)
    refine g_ldc (z := (-1000000001)) (pc' := 16) B tw_533 (by decide +kernel) dX11_rounds_14 rfl ?_
    exact g_iret (z := (-1000000001)) B hrt rfl hlk dX11_rounds_16 ⟨rfl, Or.inl ⟨h8, rfl⟩⟩
set_option maxRecDepth 100000 in
set_option maxHeartbeats 4000000 in
theorem c_X11_began (l : Launch) (K : WK) (σ : SG) {b : Nat} (hb : b = 3 ∨ b = 17) (hcb : σ 0 1 = ((b : Nat) : Int)) {D : SG} (hS : sD σ b D) (hF : okF D) (hR : okR D) (hO : okQ D) (hH : okH D) {E : SG} (hE : eD σ E) {i : Int} (hi : -2147483648 ≤ i ∧ i < 2147483648) : MI l yX11_began cX11_began 3 (some .int) 3 61 K σ [.ref (K.2.2 0), .int (iI i)] (fun z τ => (∀ k, k ≠ 48 → τ k = σ k) ∧ isB E (31 * D 9 0).toNat i z) := by
  refine met_of [(0, .ref (K.2.2 0)), (1, .int (iI i))] (by decide +kernel) (Nat.le_of_ble_eq_true rfl) rfl ?_
  intro pP eE sS mM bW mT cC B hrt hlk
  replace B : CB pP sS mM [.ref (K.2.2 0), .int (iI i)].toArray cC cX11_began RX11 3 K := B
  obtain ⟨hF0, hF1⟩ := id hF
  obtain ⟨hO0, hO1⟩ := id hO
  obtain ⟨hH0, hH1⟩ := id hH
  obtain ⟨hR0, hR1⟩ := id hR
  refine g_aload_n (pc' := 1) B 0 rfl rfl dX11_began_0 rfl ?_
  refine g_getR (pc' := 4) B 45 fl_X11_64 rfl rfl dX11_began_1 rfl ?_
  refine g_aload_n (pc' := 5) B 0 rfl rfl dX11_began_4 rfl ?_
  refine g_getV (pc' := 8) B b (vr hcb) fl_X11_19 rfl rfl dX11_began_5 rfl ?_
  refine g_getR (pc' := 11) B (b + 1) fl_X11_121 (ly_S hb) rfl dX11_began_8 rfl ?_
  refine g_get (pc' := 14) B (D 9 0) hS.1.1 fl_X11_125 (ly_G (by omega)) rfl dX11_began_11 rfl ?_
  refine g_callVI (pc' := 17) (As := [.int (iI (D 9 0))]) B (c_X1_gather l K _ (E := E) (n := D 9 0) hE (by omega)) vt_X1_gather tw_786 rfl rfl ⟨by decide, by decide⟩ rfl (Nat.le_of_ble_eq_true rfl) ⟨Nat.zero_le _, Nat.zero_le _⟩ rfl dX11_began_14 rfl (fun z14 τ14 h14 => ?_)
  obtain ⟨h14a, h14b, h14c⟩ := h14
  have hcb9 := cn_bd E (31 * D 9 0).toNat
  rw [← h14b] at hcb9
  refine g_istore_n (pc' := 18) B [(2, .int (iI z14)), (0, .ref (K.2.2 0)), (1, .int (iI i))] dX11_began_17 rfl rfl (by decide) rfl ?_
  refine g_iload_n (pc' := 19) B 2 rfl rfl dX11_began_18 rfl ?_
  refine g_iconst (pc' := 20) B dX11_began_19 rfl ?_
  refine g_icmp_ne (pc' := 23) B 25 (by omega) (by omega) dX11_began_20 (by decide) rfl (fun c20 => ?_) (fun c20 => ?_)
  · refine g_iload_n (pc' := 26) B 2 rfl rfl dX11_began_25 rfl ?_
    refine g_iconst (pc' := 27) B dX11_began_26 rfl ?_
    refine g_iload_n (pc' := 28) B 0 rfl rfl dX11_began_27 rfl ?_
    refine g_iconst (pc' := 29) B dX11_began_28 rfl ?_
    refine g_isub (pc' := 30) B dX11_began_29 rfl ?_
    refine g_callSI (pc' := 33) (As := [.int (iI i), .int (iI 0), .int (iI (z14 - 1))]) B (c_X11_isOutside l K _ (v := i) (low := 0) (high := z14 - 1) (by omega) (by omega) (by omega)) st_X11_isOutside tw_363 ⟨by decide, by decide⟩ rfl (Nat.le_of_ble_eq_true rfl) ⟨Nat.zero_le _, Nat.zero_le _⟩ rfl dX11_began_30 rfl (fun z30 τ30 h30 => ?_)
    obtain ⟨rfl, h30⟩ := h30
    rcases h30 with ⟨h30, rfl⟩ | ⟨h30, rfl⟩
    · refine g_if_eq (pc' := 36) B 40 (by omega) dX11_began_33 (by decide) rfl (fun q => absurd q (by decide)) (fun _ => ?_)
      refine g_iconst (pc' := 37) B dX11_began_36 rfl ?_
      refine g_goto (pc' := 49) B dX11_began_37 (by decide) ?_
      exact g_iret (z := (-1)) B hrt rfl hlk dX11_began_49 ⟨h14a, Or.inr ⟨c20, Or.inr ⟨rfl, fun m a1 a2 => by have q9 := cn_mono E (show m + 1 ≤ (31 * D 9 0).toNat by omega); have q8 : cn E (m + 1) = cn E m + qb E m := rfl; have q7 := cn_bd E m; omega⟩⟩⟩
    · refine g_if_eq (pc' := 36) B 40 (by omega) dX11_began_33 (by decide) rfl (fun _ => ?_) (fun q => absurd q (by decide))
      refine g_aload_n (pc' := 41) B 1 rfl rfl dX11_began_40 rfl ?_
      refine g_getR (pc' := 44) B 45 fl_X11_64 rfl rfl dX11_began_41 rfl ?_
      refine g_getR (pc' := 47) B 48 fl_X11_289 rfl rfl dX11_began_44 rfl ?_
      refine g_iload_n (pc' := 48) B 2 rfl rfl dX11_began_47 rfl ?_
      refine g_iald (pc' := 49) B (τ14 48 i) rfl rfl (by omega) (by decide) dX11_began_48 rfl ?_
      exact g_iret (z := τ14 48 i) B hrt rfl hlk dX11_began_49 ⟨h14a, Or.inr ⟨c20, Or.inl (by obtain ⟨m, a1, a2, a3⟩ := cn_surj E (i := i) (M := (31 * D 9 0).toNat) (by omega) (by omega); exact ⟨m, a1, a2, a3, by rw [← a3]; exact h14c m (by omega) a2⟩)⟩⟩
  · refine g_iload_n (pc' := 24) B 0 rfl rfl dX11_began_23 rfl ?_
    exact g_iret (z := z14) B hrt rfl hlk dX11_began_24 ⟨h14a, Or.inl ⟨c20, h14b⟩⟩
set_option maxRecDepth 100000 in
set_option maxHeartbeats 4000000 in
theorem c_X11_watch (l : Launch) (K : WK) (σ : SG) {b : Nat} (hb : b = 3 ∨ b = 17) (hcb : σ 0 1 = ((b : Nat) : Int)) {D : SG} (hS : sD σ b D) (hF : okF D) (hR : okR D) (hO : okQ D) (hH : okH D) {E : SG} (hE : eD σ E)  : MI l yX11_watch cX11_watch 2 (some .int) 3 65 K σ [.ref (K.2.2 0)] (fun z τ => (∀ k, k ≠ 48 → k ≠ 49 → τ k = σ k) ∧ z = (wS E (31 * D 9 0).toNat (D 9 0).toNat).1) := by
  refine met_of [(0, .ref (K.2.2 0))] (by decide +kernel) (Nat.le_of_ble_eq_true rfl) rfl ?_
  intro pP eE sS mM bW mT cC B hrt hlk
  replace B : CB pP sS mM [.ref (K.2.2 0)].toArray cC cX11_watch RX11 2 K := B
  obtain ⟨hF0, hF1⟩ := id hF
  obtain ⟨hO0, hO1⟩ := id hO
  obtain ⟨hH0, hH1⟩ := id hH
  obtain ⟨hR0, hR1⟩ := id hR
  refine g_aload_n (pc' := 1) B 0 rfl rfl dX11_watch_0 rfl ?_
  refine g_getV (pc' := 4) B b (vr hcb) fl_X11_19 rfl rfl dX11_watch_1 rfl ?_
  refine g_getR (pc' := 7) B (b + 1) fl_X11_121 (ly_S hb) rfl dX11_watch_4 rfl ?_
  refine g_get (pc' := 10) B (D 9 0) hS.1.1 fl_X11_125 (ly_G (by omega)) rfl dX11_watch_7 rfl ?_
  refine g_istore_n (pc' := 11) B [(1, .int (iI (D 9 0))), (0, .ref (K.2.2 0))] dX11_watch_10 rfl rfl (by decide) rfl ?_
  refine g_aload_n (pc' := 12) B 1 rfl rfl dX11_watch_11 rfl ?_
  refine g_getR (pc' := 15) B 45 fl_X11_64 rfl rfl dX11_watch_12 rfl ?_
  refine g_aload_n (pc' := 16) B 1 rfl rfl dX11_watch_15 rfl ?_
  refine g_getR (pc' := 19) B 45 fl_X11_64 rfl rfl dX11_watch_16 rfl ?_
  refine g_iload_n (pc' := 20) B 0 rfl rfl dX11_watch_19 rfl ?_
  refine g_callVI (pc' := 23) (As := [.int (iI (D 9 0))]) B (c_X1_gather l K _ (E := E) (n := D 9 0) hE (by omega)) vt_X1_gather tw_786 rfl rfl ⟨by decide, by decide⟩ rfl (Nat.le_of_ble_eq_true rfl) ⟨Nat.zero_le _, Nat.zero_le _⟩ rfl dX11_watch_20 rfl (fun z20 τ20 h20 => ?_)
  obtain ⟨h20a, h20b, h20c⟩ := h20
  refine g_iload_n (pc' := 24) B 0 rfl rfl dX11_watch_23 rfl ?_
  refine g_callVI (pc' := 27) (As := [.int (iI z20), .int (iI (D 9 0))]) B (c_X1_bestWatch l K _ (E := E) (n := D 9 0) (c := z20) (by omega) h20b h20c) vt_X1_bestWatch tw_799 rfl rfl ⟨by decide, by decide⟩ rfl (Nat.le_of_ble_eq_true rfl) ⟨Nat.zero_le _, Nat.zero_le _⟩ rfl dX11_watch_24 rfl (fun z24 τ24 h24 => ?_)
  obtain ⟨h24a, h24b⟩ := h24
  exact g_iret (z := z24) B hrt rfl hlk dX11_watch_27 ⟨fun k a c => by rw [h24a k c]; exact h20a k a, h24b⟩
set_option maxRecDepth 100000 in
set_option maxHeartbeats 4000000 in
theorem c_X11_hear (l : Launch) (K : WK) (σ : SG) {b : Nat} (hb : b = 3 ∨ b = 17) (hcb : σ 0 1 = ((b : Nat) : Int)) {D : SG} (hS : sD σ b D) (hF : okF D) (hR : okR D) (hO : okQ D) (hH : okH D) {E : SG} (hE : eD σ E) {f a : Int} (hf : -2147483648 ≤ f ∧ f < 2147483648) (ha : -2147483648 ≤ a ∧ a < 2147483648) : MI l yX11_hear cX11_hear 3 (some .int) 1 22 K σ [.ref (K.2.2 0), .int (iI f), .int (iI a)] (fun z τ => ((¬ (0 ≤ f ∧ f < D 9 0) ∧ τ = σ ∧ z = -1000000001) ∨ ((0 ≤ f ∧ f < D 9 0) ∧ (a < 0 ∨ 30 < a) ∧ τ = σ ∧ z = -1000000002) ∨ ((0 ≤ f ∧ f < D 9 0) ∧ ¬ (a < 0 ∨ 30 < a) ∧ 12 ≤ E 2 0 ∧ τ = σ ∧ z = -1000000004) ∨ ((0 ≤ f ∧ f < D 9 0) ∧ ¬ (a < 0 ∨ 30 < a) ∧ E 2 0 < 12 ∧ eD τ (up (up (up E 0 (E 2 0) f) 1 (E 2 0) a) 2 0 (E 2 0 + 1)) ∧ (∀ k, (k < 45 ∨ 47 < k) → τ k = σ k) ∧ z = E 2 0 + 1))) := by
  refine met_of [(0, .ref (K.2.2 0)), (1, .int (iI f)), (2, .int (iI a))] (by decide +kernel) (Nat.le_of_ble_eq_true rfl) rfl ?_
  intro pP eE sS mM bW mT cC B hrt hlk
  replace B : CB pP sS mM [.ref (K.2.2 0), .int (iI f), .int (iI a)].toArray cC cX11_hear RX11 3 K := B
  obtain ⟨hF0, hF1⟩ := id hF
  obtain ⟨hO0, hO1⟩ := id hO
  obtain ⟨hH0, hH1⟩ := id hH
  obtain ⟨hR0, hR1⟩ := id hR
  obtain ⟨hE1, hE2, hE3⟩ := id hE
  refine g_aload_n (pc' := 1) B 0 rfl rfl dX11_hear_0 rfl ?_
  refine g_getV (pc' := 4) B b (vr hcb) fl_X11_19 rfl rfl dX11_hear_1 rfl ?_
  refine g_getR (pc' := 7) B (b + 1) fl_X11_121 (ly_S hb) rfl dX11_hear_4 rfl ?_
  refine g_iload_n (pc' := 8) B 1 rfl rfl dX11_hear_7 rfl ?_
  refine g_callVI (pc' := 11) (As := [.int (iI f)]) B (c_X2_has l K _ (g := b + 1) (D := D) (f := f) (by omega) hS.1 hF (by omega)) vt_X2_has tw_532 (ly_G (by omega)) rfl ⟨by decide, by decide⟩ rfl (Nat.le_of_ble_eq_true rfl) ⟨Nat.zero_le _, Nat.zero_le _⟩ rfl dX11_hear_8 rfl (fun z8 τ8 h8 => ?_)
  obtain ⟨rfl, h8⟩ := h8
  rcases h8 with ⟨h8, rfl⟩ | ⟨h8, rfl⟩
  · refine g_if_ne (pc' := 14) B 17 (by omega) dX11_hear_11 (by decide) rfl (fun _ => ?_) (fun q => absurd q (by decide))
    refine g_iload_n (pc' := 18) B 2 rfl rfl dX11_hear_17 rfl ?_
    refine g_iconst (pc' := 19) B dX11_hear_18 rfl ?_
    refine g_bipush (pc' := 21) B (by decide +kernel) dX11_hear_19 rfl ?_
    refine g_callSI (pc' := 24) (As := [.int (iI a), .int (iI 0), .int (iI 30)]) B (c_X11_isOutside l K _ (v := a) (low := 0) (high := 30) (by omega) (by omega) (by omega)) st_X11_isOutside tw_363 ⟨by decide, by decide⟩ rfl (Nat.le_of_ble_eq_true rfl) ⟨Nat.zero_le _, Nat.zero_le _⟩ rfl dX11_hear_21 rfl (fun z21 τ21 h21 => ?_)
    obtain ⟨rfl, h21⟩ := h21
    rcases h21 with ⟨h21, rfl⟩ | ⟨h21, rfl⟩
    · refine g_if_eq (pc' := 27) B 30 (by omega) dX11_hear_24 (by decide) rfl (fun q => absurd q (by decide)) (fun _ => ?_)
      refine g_ldc (z := (-1000000002)) (pc' := 29) B tw_366 (by decide +kernel) dX11_hear_27 rfl ?_
      exact g_iret (z := (-1000000002)) B hrt rfl hlk dX11_hear_29 (Or.inr (Or.inl ⟨h8, h21, rfl, rfl⟩))
    · refine g_if_eq (pc' := 27) B 30 (by omega) dX11_hear_24 (by decide) rfl (fun _ => ?_) (fun q => absurd q (by decide))
      refine g_aload_n (pc' := 31) B 0 rfl rfl dX11_hear_30 rfl ?_
      refine g_getR (pc' := 34) B 45 fl_X11_64 rfl rfl dX11_hear_31 rfl ?_
      refine g_get (pc' := 37) B (E 2 0) hE.1 fl_X11_153 rfl rfl dX11_hear_34 rfl ?_
      refine g_bipush (pc' := 39) B (by decide +kernel) dX11_hear_37 rfl ?_
      refine g_icmp_lt (pc' := 42) B 47 (by omega) (by omega) dX11_hear_39 (by decide) rfl (fun c39 => ?_) (fun c39 => ?_)
      · refine g_aload_n (pc' := 48) B 0 rfl rfl dX11_hear_47 rfl ?_
        refine g_getR (pc' := 51) B 45 fl_X11_64 rfl rfl dX11_hear_48 rfl ?_
        refine g_iload_n (pc' := 52) B 1 rfl rfl dX11_hear_51 rfl ?_
        refine g_iload_n (pc' := 53) B 2 rfl rfl dX11_hear_52 rfl ?_
        refine g_callVI (pc' := 56) (As := [.int (iI f), .int (iI a)]) B (c_X1_note l K _ (E := E) (f := f) (a := a) hE (by omega) (by omega) (by omega)) vt_X1_note tw_778 rfl rfl ⟨by decide, by decide⟩ rfl (Nat.le_of_ble_eq_true rfl) ⟨Nat.zero_le _, Nat.zero_le _⟩ rfl dX11_hear_53 rfl (fun z53 τ53 h53 => ?_)
        obtain ⟨h53a, h53b, h53c⟩ := h53
        exact g_iret (z := z53) B hrt rfl hlk dX11_hear_56 (Or.inr (Or.inr (Or.inr ⟨h8, h21, c39, h53a, h53b, h53c⟩)))
      · refine g_ldc (z := (-1000000004)) (pc' := 44) B tw_367 (by decide +kernel) dX11_hear_42 rfl ?_
        refine g_goto (pc' := 56) B dX11_hear_44 (by decide) ?_
        exact g_iret (z := (-1000000004)) B hrt rfl hlk dX11_hear_56 (Or.inr (Or.inr (Or.inl ⟨h8, h21, c39, rfl, rfl⟩)))
  · refine g_if_ne (pc' := 14) B 17 (by omega) dX11_hear_11 (by decide) rfl (fun q => absurd q (by decide)) (fun _ => ?_)
    refine g_ldc (z := (-1000000001)) (pc' := 16) B tw_533 (by decide +kernel) dX11_hear_14 rfl ?_
    exact g_iret (z := (-1000000001)) B hrt rfl hlk dX11_hear_16 (Or.inl ⟨h8, rfl, rfl⟩)
set_option maxRecDepth 100000 in
set_option maxHeartbeats 4000000 in
theorem c_X11_see (l : Launch) (K : WK) (σ : SG) {b : Nat} (hb : b = 3 ∨ b = 17) (hcb : σ 0 1 = ((b : Nat) : Int)) {D : SG} (hS : sD σ b D) (hF : okF D) (hR : okR D) (hO : okQ D) (hH : okH D) {Y : SG} (hY : yD σ Y) {f x v : Int} (hf : -2147483648 ≤ f ∧ f < 2147483648) (hx : -2147483648 ≤ x ∧ x < 2147483648) (hv : -2147483648 ≤ v ∧ v < 2147483648) : MI l yX11_see cX11_see 4 (some .int) 1 23 K σ [.ref (K.2.2 0), .int (iI f), .int (iI x), .int (iI v)] (fun z τ => ((¬ (0 ≤ f ∧ f < D 9 0) ∧ τ = σ ∧ z = -1000000001) ∨ ((0 ≤ f ∧ f < D 9 0) ∧ ((x < 0 ∨ 9999 < x) ∨ (v < 0 ∨ 999 < v)) ∧ τ = σ ∧ z = -1000000002) ∨ ((0 ≤ f ∧ f < D 9 0) ∧ ¬ ((x < 0 ∨ 9999 < x) ∨ (v < 0 ∨ 999 < v)) ∧ 12 ≤ Y 3 0 ∧ τ = σ ∧ z = -1000000004) ∨ ((0 ≤ f ∧ f < D 9 0) ∧ ¬ ((x < 0 ∨ 9999 < x) ∨ (v < 0 ∨ 999 < v)) ∧ Y 3 0 < 12 ∧ yD τ (up (up (up (up Y 0 (Y 3 0) f) 1 (Y 3 0) x) 2 (Y 3 0) v) 3 0 (Y 3 0 + 1)) ∧ (∀ k, (k < 50 ∨ 53 < k) → τ k = σ k) ∧ z = Y 3 0 + 1))) := by
  refine met_of [(0, .ref (K.2.2 0)), (1, .int (iI f)), (2, .int (iI x)), (3, .int (iI v))] (by decide +kernel) (Nat.le_of_ble_eq_true rfl) rfl ?_
  intro pP eE sS mM bW mT cC B hrt hlk
  replace B : CB pP sS mM [.ref (K.2.2 0), .int (iI f), .int (iI x), .int (iI v)].toArray cC cX11_see RX11 4 K := B
  obtain ⟨hF0, hF1⟩ := id hF
  obtain ⟨hO0, hO1⟩ := id hO
  obtain ⟨hH0, hH1⟩ := id hH
  obtain ⟨hR0, hR1⟩ := id hR
  obtain ⟨hY1, hY2, hY3⟩ := id hY
  refine g_aload_n (pc' := 1) B 0 rfl rfl dX11_see_0 rfl ?_
  refine g_getV (pc' := 4) B b (vr hcb) fl_X11_19 rfl rfl dX11_see_1 rfl ?_
  refine g_getR (pc' := 7) B (b + 1) fl_X11_121 (ly_S hb) rfl dX11_see_4 rfl ?_
  refine g_iload_n (pc' := 8) B 1 rfl rfl dX11_see_7 rfl ?_
  refine g_callVI (pc' := 11) (As := [.int (iI f)]) B (c_X2_has l K _ (g := b + 1) (D := D) (f := f) (by omega) hS.1 hF (by omega)) vt_X2_has tw_532 (ly_G (by omega)) rfl ⟨by decide, by decide⟩ rfl (Nat.le_of_ble_eq_true rfl) ⟨Nat.zero_le _, Nat.zero_le _⟩ rfl dX11_see_8 rfl (fun z8 τ8 h8 => ?_)
  obtain ⟨rfl, h8⟩ := h8
  rcases h8 with ⟨h8, rfl⟩ | ⟨h8, rfl⟩
  · refine g_if_ne (pc' := 14) B 17 (by omega) dX11_see_11 (by decide) rfl (fun _ => ?_) (fun q => absurd q (by decide))
    refine g_iload_n (pc' := 18) B 2 rfl rfl dX11_see_17 rfl ?_
    refine g_iconst (pc' := 19) B dX11_see_18 rfl ?_
    refine g_sipush (pc' := 22) B (by decide +kernel) dX11_see_19 rfl ?_
    refine g_callSI (pc' := 25) (As := [.int (iI x), .int (iI 0), .int (iI 9999)]) B (c_X11_isOutside l K _ (v := x) (low := 0) (high := 9999) (by omega) (by omega) (by omega)) st_X11_isOutside tw_363 ⟨by decide, by decide⟩ rfl (Nat.le_of_ble_eq_true rfl) ⟨Nat.zero_le _, Nat.zero_le _⟩ rfl dX11_see_22 rfl (fun z22 τ22 h22 => ?_)
    obtain ⟨rfl, h22⟩ := h22
    rcases h22 with ⟨h22, rfl⟩ | ⟨h22, rfl⟩
    · refine g_if_ne (pc' := 28) B 39 (by omega) dX11_see_25 (by decide) rfl (fun _ => ?_) (fun q => absurd q (by decide))
      refine g_ldc (z := (-1000000002)) (pc' := 41) B tw_366 (by decide +kernel) dX11_see_39 rfl ?_
      exact g_iret (z := (-1000000002)) B hrt rfl hlk dX11_see_41 (Or.inr (Or.inl ⟨h8, by first | exact Or.inl h22 | exact Or.inr h33, rfl, rfl⟩))
    · refine g_if_ne (pc' := 28) B 39 (by omega) dX11_see_25 (by decide) rfl (fun q => absurd q (by decide)) (fun _ => ?_)
      refine g_iload_n (pc' := 29) B 3 rfl rfl dX11_see_28 rfl ?_
      refine g_iconst (pc' := 30) B dX11_see_29 rfl ?_
      refine g_sipush (pc' := 33) B (by decide +kernel) dX11_see_30 rfl ?_
      refine g_callSI (pc' := 36) (As := [.int (iI v), .int (iI 0), .int (iI 999)]) B (c_X11_isOutside l K _ (v := v) (low := 0) (high := 999) (by omega) (by omega) (by omega)) st_X11_isOutside tw_363 ⟨by decide, by decide⟩ rfl (Nat.le_of_ble_eq_true rfl) ⟨Nat.zero_le _, Nat.zero_le _⟩ rfl dX11_see_33 rfl (fun z33 τ33 h33 => ?_)
      obtain ⟨rfl, h33⟩ := h33
      rcases h33 with ⟨h33, rfl⟩ | ⟨h33, rfl⟩
      · refine g_if_eq (pc' := 39) B 42 (by omega) dX11_see_36 (by decide) rfl (fun q => absurd q (by decide)) (fun _ => ?_)
        refine g_ldc (z := (-1000000002)) (pc' := 41) B tw_366 (by decide +kernel) dX11_see_39 rfl ?_
        exact g_iret (z := (-1000000002)) B hrt rfl hlk dX11_see_41 (Or.inr (Or.inl ⟨h8, by first | exact Or.inl h22 | exact Or.inr h33, rfl, rfl⟩))
      · refine g_if_eq (pc' := 39) B 42 (by omega) dX11_see_36 (by decide) rfl (fun _ => ?_) (fun q => absurd q (by decide))
        refine g_aload_n (pc' := 43) B 0 rfl rfl dX11_see_42 rfl ?_
        refine g_getR (pc' := 46) B 50 fl_X11_71 rfl rfl dX11_see_43 rfl ?_
        refine g_get (pc' := 49) B (Y 3 0) hY.1 fl_X11_156 rfl rfl dX11_see_46 rfl ?_
        refine g_bipush (pc' := 51) B (by decide +kernel) dX11_see_49 rfl ?_
        refine g_icmp_lt (pc' := 54) B 59 (by omega) (by omega) dX11_see_51 (by decide) rfl (fun c51 => ?_) (fun c51 => ?_)
        · refine g_aload_n (pc' := 60) B 0 rfl rfl dX11_see_59 rfl ?_
          refine g_getR (pc' := 63) B 50 fl_X11_71 rfl rfl dX11_see_60 rfl ?_
          refine g_iload_n (pc' := 64) B 1 rfl rfl dX11_see_63 rfl ?_
          refine g_iload_n (pc' := 65) B 2 rfl rfl dX11_see_64 rfl ?_
          refine g_iload_n (pc' := 66) B 3 rfl rfl dX11_see_65 rfl ?_
          refine g_callVI (pc' := 69) (As := [.int (iI f), .int (iI x), .int (iI v)]) B (c_X7_note l K _ (Y := Y) (f := f) (x := x) (v := v) hY (by omega) (by omega) (by omega) (by omega)) vt_X7_note tw_812 rfl rfl ⟨by decide, by decide⟩ rfl (Nat.le_of_ble_eq_true rfl) ⟨Nat.zero_le _, Nat.zero_le _⟩ rfl dX11_see_66 rfl (fun z66 τ66 h66 => ?_)
          obtain ⟨h66a, h66b, h66c⟩ := h66
          exact g_iret (z := z66) B hrt rfl hlk dX11_see_69 (Or.inr (Or.inr (Or.inr ⟨h8, fun q9 => by rcases q9 with q9 | q9; exact h22 q9; exact h33 q9, c51, h66a, h66b, h66c⟩)))
        · refine g_ldc (z := (-1000000004)) (pc' := 56) B tw_367 (by decide +kernel) dX11_see_54 rfl ?_
          refine g_goto (pc' := 69) B dX11_see_56 (by decide) ?_
          exact g_iret (z := (-1000000004)) B hrt rfl hlk dX11_see_69 (Or.inr (Or.inr (Or.inl ⟨h8, fun q9 => by rcases q9 with q9 | q9; exact h22 q9; exact h33 q9, c51, rfl, rfl⟩)))
  · refine g_if_ne (pc' := 14) B 17 (by omega) dX11_see_11 (by decide) rfl (fun q => absurd q (by decide)) (fun _ => ?_)
    refine g_ldc (z := (-1000000001)) (pc' := 16) B tw_533 (by decide +kernel) dX11_see_14 rfl ?_
    exact g_iret (z := (-1000000001)) B hrt rfl hlk dX11_see_16 (Or.inl ⟨h8, rfl, rfl⟩)
set_option maxRecDepth 100000 in
set_option maxHeartbeats 4000000 in
theorem c_X11_write (l : Launch) (K : WK) (σ : SG) {bn : Int} {wy : Int → Int} (hB : σ 54 2 = bn ∧ (0 ≤ bn ∧ bn ≤ 30) ∧ ∀ k : Int, 0 ≤ k → k < bn → σ 55 k = wy k ∧ 0 ≤ wy k ∧ wy k ≤ 2) {w : Int} (hw : -2147483648 ≤ w ∧ w < 2147483648) : MI l yX11_write cX11_write 2 (some .int) 1 22 K σ [.ref (K.2.2 0), .int (iI w)] (fun z τ => (((w < 0 ∨ 2 < w) ∧ τ = σ ∧ z = -1000000002) ∨ (¬ (w < 0 ∨ 2 < w) ∧ 30 ≤ bn ∧ τ = σ ∧ z = -1000000004) ∨ (¬ (w < 0 ∨ 2 < w) ∧ bn < 30 ∧ τ = up (up σ 55 bn w) 54 2 (bn + 1) ∧ z = bn + 1))) := by
  refine met_of [(0, .ref (K.2.2 0)), (1, .int (iI w))] (by decide +kernel) (Nat.le_of_ble_eq_true rfl) rfl ?_
  intro pP eE sS mM bW mT cC B hrt hlk
  replace B : CB pP sS mM [.ref (K.2.2 0), .int (iI w)].toArray cC cX11_write RX11 2 K := B
  obtain ⟨hB1, hB2, hB3⟩ := id hB
  refine g_iload_n (pc' := 1) B 1 rfl rfl dX11_write_0 rfl ?_
  refine g_iconst (pc' := 2) B dX11_write_1 rfl ?_
  refine g_iconst (pc' := 3) B dX11_write_2 rfl ?_
  refine g_callSI (pc' := 6) (As := [.int (iI w), .int (iI 0), .int (iI 2)]) B (c_X11_isOutside l K _ (v := w) (low := 0) (high := 2) (by omega) (by omega) (by omega)) st_X11_isOutside tw_363 ⟨by decide, by decide⟩ rfl (Nat.le_of_ble_eq_true rfl) ⟨Nat.zero_le _, Nat.zero_le _⟩ rfl dX11_write_3 rfl (fun z3 τ3 h3 => ?_)
  obtain ⟨rfl, h3⟩ := h3
  rcases h3 with ⟨h3, rfl⟩ | ⟨h3, rfl⟩
  · refine g_if_eq (pc' := 9) B 12 (by omega) dX11_write_6 (by decide) rfl (fun q => absurd q (by decide)) (fun _ => ?_)
    refine g_ldc (z := (-1000000002)) (pc' := 11) B tw_366 (by decide +kernel) dX11_write_9 rfl ?_
    exact g_iret (z := (-1000000002)) B hrt rfl hlk dX11_write_11 (Or.inl ⟨h3, rfl, rfl⟩)
  · refine g_if_eq (pc' := 9) B 12 (by omega) dX11_write_6 (by decide) rfl (fun _ => ?_) (fun q => absurd q (by decide))
    refine g_aload_n (pc' := 13) B 0 rfl rfl dX11_write_12 rfl ?_
    refine g_getR (pc' := 16) B 54 fl_X11_78 rfl rfl dX11_write_13 rfl ?_
    refine g_get (pc' := 19) B bn hB.1 fl_X11_159 rfl rfl dX11_write_16 rfl ?_
    refine g_bipush (pc' := 21) B (by decide +kernel) dX11_write_19 rfl ?_
    refine g_icmp_lt (pc' := 24) B 29 (by omega) (by omega) dX11_write_21 (by decide) rfl (fun c21 => ?_) (fun c21 => ?_)
    · refine g_aload_n (pc' := 30) B 0 rfl rfl dX11_write_29 rfl ?_
      refine g_getR (pc' := 33) B 54 fl_X11_78 rfl rfl dX11_write_30 rfl ?_
      refine g_iload_n (pc' := 34) B 1 rfl rfl dX11_write_33 rfl ?_
      refine g_callVI (pc' := 37) (As := [.int (iI w)]) B (c_X0_note l K _ (n := bn) (wy := wy) (w := w) hB (by omega) (by omega)) vt_X0_note tw_876 rfl rfl ⟨by decide, by decide⟩ rfl (Nat.le_of_ble_eq_true rfl) ⟨Nat.zero_le _, Nat.zero_le _⟩ rfl dX11_write_34 rfl (fun z34 τ34 h34 => ?_)
      obtain ⟨h34a, h34b⟩ := h34
      subst h34a
      subst h34b
      exact g_iret (z := bn + 1) B hrt rfl hlk dX11_write_37 (Or.inr (Or.inr ⟨h3, c21, rfl, rfl⟩))
    · refine g_ldc (z := (-1000000004)) (pc' := 26) B tw_367 (by decide +kernel) dX11_write_24 rfl ?_
      refine g_goto (pc' := 37) B dX11_write_26 (by decide) ?_
      exact g_iret (z := (-1000000004)) B hrt rfl hlk dX11_write_37 (Or.inr (Or.inl ⟨h3, c21, rfl, rfl⟩))
set_option maxRecDepth 100000 in
set_option maxHeartbeats 4000000 in
theorem c_X11_judge (l : Launch) (K : WK) (σ : SG) {b : Nat} (hb : b = 3 ∨ b = 17) (hcb : σ 0 1 = ((b : Nat) : Int)) {D : SG} (hS : sD σ b D) (hF : okF D) (hR : okR D) (hO : okQ D) (hH : okH D) {S X L P : Int} (hm : σ 31 0 = S ∧ σ 31 1 = X ∧ σ 31 2 = L ∧ σ 31 3 = P) (hSX : 0 ≤ X ∧ X ≤ S ∧ S ≤ 70000) {bn : Int} {wy : Int → Int} (hB : σ 54 2 = bn ∧ (0 ≤ bn ∧ bn ≤ 30) ∧ ∀ k : Int, 0 ≤ k → k < bn → σ 55 k = wy k ∧ 0 ≤ wy k ∧ wy k ≤ 2) (hLr : D 9 0 ≠ 0 → 0 ≤ L ∧ L < D 9 0) {w : Int} (hw : -2147483648 ≤ w ∧ w < 2147483648) : MI l yX11_judge cX11_judge 3 (some .int) 6 137 K σ [.ref (K.2.2 0), .int (iI w)] (fun z τ => (((w < 0 ∨ 1 < w) ∧ τ = σ ∧ z = -1000000002) ∨ (¬ (w < 0 ∨ 1 < w) ∧ D 9 0 = 0 ∧ τ = σ ∧ z = -1000000003) ∨ (¬ (w < 0 ∨ 1 < w) ∧ D 9 0 ≠ 0 ∧ (∀ k, k ≠ 54 → k ≠ 56 → τ k = σ k) ∧ τ 54 2 = bn ∧ ∃ y : Int, isW (fun k => ¬ can D (bpos L wy k.toNat) (S + k + 1) (wy k)) bn y ∧ z = if w = 0 then y else bpl D X L wy (if y = -1 then bn else y).toNat))) := by
  refine met_of [(0, .ref (K.2.2 0)), (1, .int (iI w))] (by decide +kernel) (Nat.le_of_ble_eq_true rfl) rfl ?_
  intro pP eE sS mM bW mT cC B hrt hlk
  replace B : CB pP sS mM [.ref (K.2.2 0), .int (iI w)].toArray cC cX11_judge RX11 3 K := B
  obtain ⟨hF0, hF1⟩ := id hF
  obtain ⟨hO0, hO1⟩ := id hO
  obtain ⟨hH0, hH1⟩ := id hH
  obtain ⟨hR0, hR1⟩ := id hR
  refine g_iload_n (pc' := 1) B 1 rfl rfl dX11_judge_0 rfl ?_
  refine g_iconst (pc' := 2) B dX11_judge_1 rfl ?_
  refine g_iconst (pc' := 3) B dX11_judge_2 rfl ?_
  refine g_callSI (pc' := 6) (As := [.int (iI w), .int (iI 0), .int (iI 1)]) B (c_X11_isOutside l K _ (v := w) (low := 0) (high := 1) (by omega) (by omega) (by omega)) st_X11_isOutside tw_363 ⟨by decide, by decide⟩ rfl (Nat.le_of_ble_eq_true rfl) ⟨Nat.zero_le _, Nat.zero_le _⟩ rfl dX11_judge_3 rfl (fun z3 τ3 h3 => ?_)
  obtain ⟨rfl, h3⟩ := h3
  rcases h3 with ⟨h3, rfl⟩ | ⟨h3, rfl⟩
  · refine g_if_eq (pc' := 9) B 12 (by omega) dX11_judge_6 (by decide) rfl (fun q => absurd q (by decide)) (fun _ => ?_)
    refine g_ldc (z := (-1000000002)) (pc' := 11) B tw_366 (by decide +kernel) dX11_judge_9 rfl ?_
    exact g_iret (z := (-1000000002)) B hrt rfl hlk dX11_judge_11 (Or.inl ⟨h3, rfl, rfl⟩)
  · refine g_if_eq (pc' := 9) B 12 (by omega) dX11_judge_6 (by decide) rfl (fun _ => ?_) (fun q => absurd q (by decide))
    refine g_aload_n (pc' := 13) B 0 rfl rfl dX11_judge_12 rfl ?_
    refine g_getV (pc' := 16) B b (vr hcb) fl_X11_19 rfl rfl dX11_judge_13 rfl ?_
    refine g_getR (pc' := 19) B (b + 1) fl_X11_121 (ly_S hb) rfl dX11_judge_16 rfl ?_
    refine g_get (pc' := 22) B (D 9 0) hS.1.1 fl_X11_125 (ly_G (by omega)) rfl dX11_judge_19 rfl ?_
    refine g_if_ne (pc' := 25) B 28 (by omega) dX11_judge_22 (by decide) rfl (fun c22 => ?_) (fun c22 => ?_)
    · refine g_aload_n (pc' := 29) B 0 rfl rfl dX11_judge_28 rfl ?_
      refine g_getR (pc' := 32) B 54 fl_X11_78 rfl rfl dX11_judge_29 rfl ?_
      refine g_aload_n (pc' := 33) B 0 rfl rfl dX11_judge_32 rfl ?_
      refine g_getV (pc' := 36) B b (vr hcb) fl_X11_19 rfl rfl dX11_judge_33 rfl ?_
      refine g_aload_n (pc' := 37) B 0 rfl rfl dX11_judge_36 rfl ?_
      refine g_getR (pc' := 40) B 31 fl_X11_33 rfl rfl dX11_judge_37 rfl ?_
      refine g_callVI (pc' := 43) (As := [.ref (K.2.2 b), .ref (K.2.2 31)]) B (c_X0_tryFrom l K _ (S := S) (X := X) (L := L) (P := P) (b := b) (D := D) (n := bn) (wy := wy) hm hb hS hF hH hO (by omega) (by omega) (hLr c22) hB) vt_X0_tryFrom tw_884 rfl rfl ⟨by decide, by decide⟩ rfl (Nat.le_of_ble_eq_true rfl) ⟨Nat.zero_le _, Nat.zero_le _⟩ rfl dX11_judge_40 rfl (fun z40 τ40 h40 => ?_)
      obtain ⟨h40a, h40b, h40c, h40d⟩ := h40
      have hz9 : -1 ≤ z40 ∧ z40 ≤ 30 := by rcases h40a with q9 | q9; (have q8 := hB.2.1; omega); omega
      refine g_istore_n (pc' := 44) B [(2, .int (iI z40)), (0, .ref (K.2.2 0)), (1, .int (iI w))] dX11_judge_43 rfl rfl (by decide) rfl ?_
      refine g_iload_n (pc' := 45) B 2 rfl rfl dX11_judge_44 rfl ?_
      refine g_if_ne (pc' := 48) B 52 (by omega) dX11_judge_45 (by decide) rfl (fun c45 => ?_) (fun c45 => ?_)
      · refine g_aload_n (pc' := 53) B 1 rfl rfl dX11_judge_52 rfl ?_
        refine g_getR (pc' := 56) B 54 fl_X11_78 rfl rfl dX11_judge_53 rfl ?_
        refine g_get (pc' := 59) B (bpl D X L wy (if z40 = -1 then bn else z40).toNat) h40b fl_X11_326 rfl rfl dX11_judge_56 rfl ?_
        exact g_iret (z := bpl D X L wy (if z40 = -1 then bn else z40).toNat) B hrt rfl hlk dX11_judge_59 (Or.inr (Or.inr ⟨h3, c22, h40d, h40c, z40, h40a, by first | rw [if_pos c45] | rw [if_neg c45]⟩))
      · refine g_iload_n (pc' := 49) B 0 rfl rfl dX11_judge_48 rfl ?_
        refine g_goto (pc' := 59) B dX11_judge_49 (by decide) ?_
        exact g_iret (z := z40) B hrt rfl hlk dX11_judge_59 (Or.inr (Or.inr ⟨h3, c22, h40d, h40c, z40, h40a, by first | rw [if_pos c45] | rw [if_neg c45]⟩))
    · refine g_ldc (z := (-1000000003)) (pc' := 27) B tw_605 (by decide +kernel) dX11_judge_25 rfl ?_
      exact g_iret (z := (-1000000003)) B hrt rfl hlk dX11_judge_27 (Or.inr (Or.inl ⟨h3, c22, rfl, rfl⟩))
set_option maxRecDepth 100000 in
set_option maxHeartbeats 4000000 in
theorem c_X11_forgetNotes (l : Launch) (K : WK) (σ : SG)  : MV l yX11_forgetNotes cX11_forgetNotes 1 none 0 0 K σ [.ref (K.2.2 0)] (fun τ => τ = up (up (up σ 45 2 0) 50 3 0) 54 2 0) := by
  refine met_of [(0, .ref (K.2.2 0))] (by decide +kernel) (Nat.le_of_ble_eq_true rfl) rfl ?_
  intro pP eE sS mM bW mT cC B hrt hlk
  replace B : CB pP sS mM [.ref (K.2.2 0)].toArray cC cX11_forgetNotes RX11 1 K := B
  refine g_aload_n (pc' := 1) B 0 rfl rfl dX11_forgetNotes_0 rfl ?_
  refine g_getR (pc' := 4) B 45 fl_X11_64 rfl rfl dX11_forgetNotes_1 rfl ?_
  refine g_iconst (pc' := 5) B dX11_forgetNotes_4 rfl ?_
  refine g_put (pc' := 8) B 2 rfl fp_X11_153 rfl rfl dX11_forgetNotes_5 rfl ?_
  refine g_aload_n (pc' := 9) B 0 rfl rfl dX11_forgetNotes_8 rfl ?_
  refine g_getR (pc' := 12) B 50 fl_X11_71 rfl rfl dX11_forgetNotes_9 rfl ?_
  refine g_iconst (pc' := 13) B dX11_forgetNotes_12 rfl ?_
  refine g_put (pc' := 16) B 3 rfl fp_X11_156 rfl rfl dX11_forgetNotes_13 rfl ?_
  refine g_aload_n (pc' := 17) B 0 rfl rfl dX11_forgetNotes_16 rfl ?_
  refine g_getR (pc' := 20) B 54 fl_X11_78 rfl rfl dX11_forgetNotes_17 rfl ?_
  refine g_iconst (pc' := 21) B dX11_forgetNotes_20 rfl ?_
  refine g_put (pc' := 24) B 2 rfl fp_X11_159 rfl rfl dX11_forgetNotes_21 rfl ?_
  exact g_vret B hrt hlk dX11_forgetNotes_24 rfl
set_option maxRecDepth 100000 in
set_option maxHeartbeats 4000000 in
theorem c_X11_tear (l : Launch) (K : WK) (σ : SG)  : MI l yX11_tear cX11_tear 2 (some .int) 1 20 K σ [.ref (K.2.2 0)] (fun z τ => τ = up (up (up σ 45 2 0) 50 3 0) 54 2 0 ∧ z = σ 45 2 + σ 50 3 + σ 54 2) := by
  refine met_of [(0, .ref (K.2.2 0))] (by decide +kernel) (Nat.le_of_ble_eq_true rfl) rfl ?_
  intro pP eE sS mM bW mT cC B hrt hlk
  replace B : CB pP sS mM [.ref (K.2.2 0)].toArray cC cX11_tear RX11 2 K := B
  refine g_aload_n (pc' := 1) B 0 rfl rfl dX11_tear_0 rfl ?_
  refine g_getR (pc' := 4) B 45 fl_X11_64 rfl rfl dX11_tear_1 rfl ?_
  refine g_get (pc' := 7) B (σ 45 2) rfl fl_X11_153 rfl rfl dX11_tear_4 rfl ?_
  refine g_aload_n (pc' := 8) B 0 rfl rfl dX11_tear_7 rfl ?_
  refine g_getR (pc' := 11) B 50 fl_X11_71 rfl rfl dX11_tear_8 rfl ?_
  refine g_get (pc' := 14) B (σ 50 3) rfl fl_X11_156 rfl rfl dX11_tear_11 rfl ?_
  refine g_iadd (pc' := 15) B dX11_tear_14 rfl ?_
  refine g_aload_n (pc' := 16) B 0 rfl rfl dX11_tear_15 rfl ?_
  refine g_getR (pc' := 19) B 54 fl_X11_78 rfl rfl dX11_tear_16 rfl ?_
  refine g_get (pc' := 22) B (σ 54 2) rfl fl_X11_159 rfl rfl dX11_tear_19 rfl ?_
  refine g_iadd (pc' := 23) B dX11_tear_22 rfl ?_
  refine g_istore_n (pc' := 24) B [(1, .int (iI (((σ 45 2) + (σ 50 3)) + (σ 54 2)))), (0, .ref (K.2.2 0))] dX11_tear_23 rfl rfl (by decide) rfl ?_
  refine g_aload_n (pc' := 25) B 1 rfl rfl dX11_tear_24 rfl ?_
  refine g_callVV (pc' := 28) (As := []) B (c_X11_forgetNotes l K _  ) vt_X11_forgetNotes tw_459 rfl rfl ⟨by decide, by decide⟩ rfl (Nat.le_of_ble_eq_true rfl) ⟨Nat.zero_le _, Nat.zero_le _⟩ rfl dX11_tear_25 rfl (fun τ25 h25 => ?_)
  subst h25
  refine g_iload_n (pc' := 29) B 0 rfl rfl dX11_tear_28 rfl ?_
  exact g_iret (z := ((σ 45 2) + (σ 50 3)) + (σ 54 2)) B hrt rfl hlk dX11_tear_29 ⟨rfl, rfl⟩
set_option maxRecDepth 100000 in
set_option maxHeartbeats 4000000 in
theorem c_X11_seed (l : Launch) (K : WK) (σ : SG) {v : Int} (hv : -2147483648 ≤ v ∧ v < 2147483648) : MI l yX11_seed cX11_seed 3 (some .int) 0 0 K σ [.ref (K.2.2 0), .int (iI v)] (fun z τ => ((v < 0 ∧ τ = σ ∧ z = -1000000002) ∨ (0 ≤ v ∧ τ = up σ 0 12 v ∧ z = σ 0 12))) := by
  refine met_of [(0, .ref (K.2.2 0)), (1, .int (iI v))] (by decide +kernel) (Nat.le_of_ble_eq_true rfl) rfl ?_
  intro pP eE sS mM bW mT cC B hrt hlk
  replace B : CB pP sS mM [.ref (K.2.2 0), .int (iI v)].toArray cC cX11_seed RX11 3 K := B
  refine g_iload_n (pc' := 1) B 1 rfl rfl dX11_seed_0 rfl ?_
  refine g_if_ge (pc' := 4) B 7 (by omega) dX11_seed_1 (by decide) rfl (fun c1 => ?_) (fun c1 => ?_)
  · refine g_aload_n (pc' := 8) B 0 rfl rfl dX11_seed_7 rfl ?_
    refine g_get (pc' := 11) B (σ 0 12) rfl fl_X11_82 rfl rfl dX11_seed_8 rfl ?_
    refine g_istore_n (pc' := 12) B [(2, .int (iI (σ 0 12))), (0, .ref (K.2.2 0)), (1, .int (iI v))] dX11_seed_11 rfl rfl (by decide) rfl ?_
    refine g_aload_n (pc' := 13) B 1 rfl rfl dX11_seed_12 rfl ?_
    refine g_iload_n (pc' := 14) B 2 rfl rfl dX11_seed_13 rfl ?_
    refine g_put (pc' := 17) B 12 rfl fp_X11_82 rfl rfl dX11_seed_14 rfl ?_
    refine g_iload_n (pc' := 18) B 0 rfl rfl dX11_seed_17 rfl ?_
    exact g_iret (z := σ 0 12) B hrt rfl hlk dX11_seed_18 (Or.inr ⟨c1, rfl, rfl⟩)
  · refine g_ldc (z := (-1000000002)) (pc' := 6) B tw_366 (by decide +kernel) dX11_seed_4 rfl ?_
    exact g_iret (z := (-1000000002)) B hrt rfl hlk dX11_seed_6 (Or.inl ⟨c1, rfl, rfl⟩)
set_option maxRecDepth 100000 in
set_option maxHeartbeats 4000000 in
theorem c_X11_draw (l : Launch) (K : WK) (σ : SG) {n v : Int} (hv : σ 0 12 = v) (hvr : 0 ≤ v ∧ v < 2147483648) (hn : 1 ≤ n ∧ n ≤ 100) : MI l yX11_draw cX11_draw 2 (some .int) 0 0 K σ [.ref (K.2.2 0), .int (iI n)] (fun z τ => τ = up σ 0 12 (sdn v) ∧ z = sdn v / 65536 % n) := by
  refine met_of [(0, .ref (K.2.2 0)), (1, .int (iI n))] (by decide +kernel) (Nat.le_of_ble_eq_true rfl) rfl ?_
  intro pP eE sS mM bW mT cC B hrt hlk
  replace B : CB pP sS mM [.ref (K.2.2 0), .int (iI n)].toArray cC cX11_draw RX11 2 K := B
  refine g_iload_n (pc' := 1) B 1 rfl rfl dX11_draw_0 rfl ?_
  refine g_iconst (pc' := 2) B dX11_draw_1 rfl ?_
  refine g_icmp_ge (pc' := 5) B 7 (by omega) (by omega) dX11_draw_2 (by decide) rfl (fun c2 => ?_) (fun c2 => by exfalso; omega)
  refine g_aload_n (pc' := 8) B 0 rfl rfl dX11_draw_7 rfl ?_
  refine g_aload_n (pc' := 9) B 0 rfl rfl dX11_draw_8 rfl ?_
  refine g_get (pc' := 12) B v hv fl_X11_82 rfl rfl dX11_draw_9 rfl ?_
  refine g_i2l (pc' := 13) B (by omega) dX11_draw_12 rfl ?_
  refine g_ldc2 (z := 1103515245) (pc' := 16) B tw_628 (by decide +kernel) dX11_draw_13 rfl ?_
  refine g_lmul (pc' := 17) B dX11_draw_16 rfl ?_
  refine g_ldc2 (z := 12345) (pc' := 20) B tw_629 (by decide +kernel) dX11_draw_17 rfl ?_
  refine g_ladd (pc' := 21) B dX11_draw_20 rfl ?_
  refine g_ldc2 (z := 2147483647) (pc' := 24) B tw_630 (by decide +kernel) dX11_draw_21 rfl ?_
  refine g_land (pc' := 25) B ((v * 1103515245 + 12345) % 2147483648) (land31 (by omega)) dX11_draw_24 rfl ?_
  refine g_l2i (pc' := 26) B dX11_draw_25 rfl ?_
  refine g_put (pc' := 29) B 12 rfl fp_X11_82 rfl rfl dX11_draw_26 rfl ?_
  refine g_aload_n (pc' := 30) B 0 rfl rfl dX11_draw_29 rfl ?_
  refine g_get (pc' := 33) B (sdn v) (by unfold sdn; simp [up]) fl_X11_82 rfl rfl dX11_draw_30 rfl ?_
  have hsd := sdn_bd v
  have hq1 := Int.ediv_nonneg hsd.1 (show (0 : Int) ≤ 65536 by decide)
  refine g_ldcw (z := 65536) (pc' := 36) B tw_631 (by decide +kernel) dX11_draw_33 rfl ?_
  refine g_idiv (pc' := 37) B (by omega) (by omega) dX11_draw_36 rfl ?_
  refine g_iload_n (pc' := 38) B 1 rfl rfl dX11_draw_37 rfl ?_
  refine g_irem (pc' := 39) B (by omega) (by omega) dX11_draw_38 rfl ?_
  exact g_iret (z := ((sdn v) / 65536) % n) B hrt rfl hlk dX11_draw_39 ⟨rfl, rfl⟩
set_option maxRecDepth 100000 in
set_option maxHeartbeats 4000000 in
theorem c_X11_imageOf (l : Launch) (K : WK) (σ : SG) {i : Int} (hi : 0 ≤ i ∧ i ≤ 1) : MR l yX11_imageOf cX11_imageOf 2 (some (.object "BreathStreet$Image")) 0 0 K σ [.ref (K.2.2 0), .int (iI i)] (fun z τ => σ = τ ∧ ((i = 0 ∧ z = 37) ∨ (i ≠ 0 ∧ z = 40))) := by
  refine met_of [(0, .ref (K.2.2 0)), (1, .int (iI i))] (by decide +kernel) (Nat.le_of_ble_eq_true rfl) rfl ?_
  intro pP eE sS mM bW mT cC B hrt hlk
  replace B : CB pP sS mM [.ref (K.2.2 0), .int (iI i)].toArray cC cX11_imageOf RX11 2 K := B
  refine g_iload_n (pc' := 1) B 1 rfl rfl dX11_imageOf_0 rfl ?_
  refine g_if_ne (pc' := 4) B 11 (by omega) dX11_imageOf_1 (by decide) rfl (fun c1 => ?_) (fun c1 => ?_)
  · refine g_aload_n (pc' := 12) B 0 rfl rfl dX11_imageOf_11 rfl ?_
    refine g_getR (pc' := 15) B 40 fl_X11_51 rfl rfl dX11_imageOf_12 rfl ?_
    exact g_aret (k := 40) B hrt hlk dX11_imageOf_15 ⟨rfl, by omega⟩
  · refine g_aload_n (pc' := 5) B 0 rfl rfl dX11_imageOf_4 rfl ?_
    refine g_getR (pc' := 8) B 37 fl_X11_47 rfl rfl dX11_imageOf_5 rfl ?_
    refine g_goto (pc' := 15) B dX11_imageOf_8 (by decide) ?_
    exact g_aret (k := 37) B hrt hlk dX11_imageOf_15 ⟨rfl, by omega⟩
