theorem vr {σ : SG} {k b : Nat} {j : Int} (h : σ k j = ((b : Nat) : Int)) : (σ k j).toNat = b := by rw [h]; exact Int.toNat_natCast b
def qField (D : SG) (X f w : Int) : Int := if 0 ≤ f ∧ f < D 9 0 then (if w = 0 then D 0 f else if w = 1 then D 1 f else if w = 2 then D 2 f else if w = 3 then D 3 f else if w = 4 then hgt D f X else if w = 5 then lean D f X else -1000000002) else -1000000001
def qHeight (D : SG) (f x : Int) : Int := if 0 ≤ f ∧ f < D 9 0 then (if x < 0 ∨ 1000000 < x then -1000000002 else hgt D f x) else -1000000001
def qHouse (D : SG) (sl : Int → Int) (h w : Int) : Int := if 0 ≤ h ∧ h < D 9 1 then (if w = 0 then D 4 h else if w = 1 then sl h else if w = 2 then nd D h else -1000000002) else -1000000001
def qSeam (D : SG) (s w : Int) : Int := if 0 ≤ s ∧ s < D 9 2 then (if w = 0 then D 5 s else if w = 1 then D 6 s else if w = 2 then D 7 s else if w = 3 then D 8 s else -1000000002) else -1000000001
def qWater (D : SG) (X f n : Int) : Int := if 0 ≤ f ∧ f < D 9 0 then (if n < 0 ∨ 99 < n then -1000000002 else fl D f X n.toNat) else -1000000001
def qMill (D : SG) (f w : Int) : Int := if 0 ≤ f ∧ f + 1 < D 9 0 then (if w < 0 ∨ 2 < w then -1000000002 else ml D f w) else -1000000001
def qCellars (D : SG) (X v n : Int) : Int := if v < 0 ∨ 999 < v then -1000000002 else if n < 1 ∨ 40 < n then -1000000002 else fs D v X n.toNat (D 9 0).toNat
def qSluices (D : SG) (X v n w : Int) : Int := if v < 0 ∨ 999 < v then -1000000002 else if n < 1 ∨ 40 < n then -1000000002 else if w < 0 ∨ 1 < w then -1000000002 else if bs (fs D v X n.toNat (D 9 0).toNat) ((2 : Int) ^ gps D).toNat = -1 then -1 else if w = 0 then pcn (bs (fs D v X n.toNat (D 9 0).toNat) ((2 : Int) ^ gps D).toNat) else bs (fs D v X n.toNat (D 9 0).toNat) ((2 : Int) ^ gps D).toNat
def qOdds (D : SG) (X f v n q : Int) : Int := if 0 ≤ f ∧ f < D 9 0 then (if v < 0 ∨ 999 < v then -1000000002 else if n < 1 ∨ 20 < n then -1000000002 else if q < 0 ∨ 100 < q then -1000000002 else osm D f v X n q (n + 1).toNat) else -1000000001
def aCracks (D : SG) (sl : Int → Int) (X h z : Int) : Prop := (¬ (0 ≤ h ∧ h < D 9 1) ∧ z = -1000000001) ∨ ((0 ≤ h ∧ h < D 9 1) ∧ isF (fun x => sl h < cst D h x) X z)
def aSoonest (D : SG) (S f g z : Int) : Prop := (¬ ((0 ≤ f ∧ f < D 9 0) ∧ (0 ≤ g ∧ g < D 9 0)) ∧ z = -1000000001) ∨ (((0 ≤ f ∧ f < D 9 0) ∧ (0 ≤ g ∧ g < D 9 0)) ∧ isW (fun k => ps D S f g k.toNat = g) 201 z)
noncomputable def qLeast (D : SG) (S X f g n i : Int) : Int := if (0 ≤ f ∧ f < D 9 0) ∧ (0 ≤ g ∧ g < D 9 0) then (if n < 1 ∨ 30 < n then -1000000002 else if i = -1 then wg D S X g n n.toNat f else if wg D S X g n n.toNat f < 0 then -1 else lwF D S X g n i n.toNat f) else -1000000001
def aOpen (D : SG) (S u z : Int) : Prop := (¬ (0 ≤ u ∧ u < 2 ^ (D 9 2).toNat) ∧ z = -1000000001) ∨ ((0 ≤ u ∧ u < 2 ^ (D 9 2).toNat) ∧ isW (fun k => aop D u (S + k)) (rq D u (D 9 2).toNat) z)
def aLongest (D : SG) (u z : Int) : Prop := (¬ (0 ≤ u ∧ u < 2 ^ (D 9 2).toNat) ∧ z = -1000000001) ∨ ((0 ≤ u ∧ u < 2 ^ (D 9 2).toNat) ∧ isL (fun k => aop D u k) z)
theorem pow4 {k : Nat} (h : k ≤ 4) : (2 : Int) ^ k ≤ 16 := by
  have q : ∀ n : Fin 5, (2 : Int) ^ n.val ≤ 16 := by decide
  exact q ⟨k, by omega⟩
set_option maxRecDepth 100000 in
set_option maxHeartbeats 4000000 in
theorem c_X11_fault (l : Launch) (K : WK) (σ : SG)  : MI l yX11_fault cX11_fault 1 (some .int) 0 0 K σ [.ref (K.2.2 0)] (fun z τ => σ = τ ∧ z = σ 0 3) := by
  refine met_of [(0, .ref (K.2.2 0))] (by decide +kernel) (Nat.le_of_ble_eq_true rfl) rfl ?_
  intro pP eE sS mM bW mT cC B hrt hlk
  replace B : CB pP sS mM [.ref (K.2.2 0)].toArray cC cX11_fault RX11 1 K := B
  refine g_aload_n (pc' := 1) B 0 rfl rfl dX11_fault_0 rfl ?_
  refine g_get (pc' := 4) B (σ 0 3) rfl fl_X11_26 rfl rfl dX11_fault_1 rfl ?_
  exact g_iret (z := σ 0 3) B hrt rfl hlk dX11_fault_4 ⟨rfl, rfl⟩
set_option maxRecDepth 100000 in
set_option maxHeartbeats 4000000 in
theorem c_X11_field (l : Launch) (K : WK) (σ : SG) {b : Nat} (hb : b = 3 ∨ b = 17) (hcb : σ 0 1 = ((b : Nat) : Int)) {D : SG} (hS : sD σ b D) (hF : okF D) (hR : okR D) (hO : okQ D) (hH : okH D) {S X L P : Int} (hm : σ 31 0 = S ∧ σ 31 1 = X ∧ σ 31 2 = L ∧ σ 31 3 = P) (hSX : 0 ≤ X ∧ X ≤ S ∧ S ≤ 70000) {f w : Int} (hf : -2147483648 ≤ f ∧ f < 2147483648) (hw : -2147483648 ≤ w ∧ w < 2147483648) : MI l yX11_field cX11_field 4 (some .int) 4 88 K σ [.ref (K.2.2 0), .int (iI f), .int (iI w)] (fun z τ => σ = τ ∧ z = qField D X f w) := by
  refine met_of [(0, .ref (K.2.2 0)), (1, .int (iI f)), (2, .int (iI w))] (by decide +kernel) (Nat.le_of_ble_eq_true rfl) rfl ?_
  intro pP eE sS mM bW mT cC B hrt hlk
  replace B : CB pP sS mM [.ref (K.2.2 0), .int (iI f), .int (iI w)].toArray cC cX11_field RX11 4 K := B
  obtain ⟨hF0, hF1⟩ := id hF
  obtain ⟨hO0, hO1⟩ := id hO
  obtain ⟨hH0, hH1⟩ := id hH
  obtain ⟨hR0, hR1⟩ := id hR
  refine g_aload_n (pc' := 1) B 0 rfl rfl dX11_field_0 rfl ?_
  refine g_getV (pc' := 4) B b (vr hcb) fl_X11_19 rfl rfl dX11_field_1 rfl ?_
  refine g_getR (pc' := 7) B (b + 1) fl_X11_121 (ly_S hb) rfl dX11_field_4 rfl ?_
  refine g_astore_n (pc' := 8) B [(3, .ref (K.2.2 (b + 1))), (0, .ref (K.2.2 0)), (1, .int (iI f)), (2, .int (iI w))] dX11_field_7 rfl rfl (by decide) rfl ?_
  refine g_aload_n (pc' := 9) B 0 rfl rfl dX11_field_8 rfl ?_
  refine g_iload_n (pc' := 10) B 2 rfl rfl dX11_field_9 rfl ?_
  refine g_callVI (pc' := 13) (As := [.int (iI f)]) B (c_X2_has l K _ (g := b + 1) (D := D) (f := f) (by omega) hS.1 hF (by omega)) vt_X2_has tw_532 (ly_G (by omega)) rfl ⟨by decide, by decide⟩ rfl (Nat.le_of_ble_eq_true rfl) ⟨Nat.zero_le _, Nat.zero_le _⟩ rfl dX11_field_10 rfl (fun z10 τ10 h10 => ?_)
  obtain ⟨rfl, h10⟩ := h10
  rcases h10 with ⟨h10, rfl⟩ | ⟨h10, rfl⟩
  · refine g_if_ne (pc' := 16) B 19 (by omega) dX11_field_13 (by decide) rfl (fun _ => ?_) (fun q => absurd q (by decide))
    refine g_iload_n (pc' := 20) B 3 rfl rfl dX11_field_19 rfl ?_
    rcases (show w = 0 ∨ w = 1 ∨ w = 2 ∨ w = 3 ∨ w = 4 ∨ w = 5 ∨ (w < 0 ∨ 5 < w) by omega) with c20 | c20 | c20 | c20 | c20 | c20 | c20
    · refine g_tableIn B 0 60 c20 dX11_field_20 (by decide) (by decide) (by decide) rfl (by decide) ?_
      refine g_aload_n (pc' := 61) B 0 rfl rfl dX11_field_60 rfl ?_
      refine g_getR (pc' := 64) B (b + 2) fl_X11_173 (ly_G (by omega)) rfl dX11_field_61 rfl ?_
      refine g_iload_n (pc' := 65) B 2 rfl rfl dX11_field_64 rfl ?_
      refine g_iald (pc' := 66) B (D 0 f) (hS.1.2.2 _ (by omega) (by omega)).1 (ly_Ga0 (by omega)) (by omega) (by decide) dX11_field_65 rfl ?_
      exact g_iret (z := D 0 f) B hrt rfl hlk dX11_field_66 ⟨rfl, by unfold qField; (repeat' split) <;> first | rfl | (exfalso; omega)⟩
    · refine g_tableIn B 1 67 c20 dX11_field_20 (by decide) (by decide) (by decide) rfl (by decide) ?_
      refine g_aload_n (pc' := 68) B 0 rfl rfl dX11_field_67 rfl ?_
      refine g_getR (pc' := 71) B (b + 3) fl_X11_177 (ly_G (by omega)) rfl dX11_field_68 rfl ?_
      refine g_iload_n (pc' := 72) B 2 rfl rfl dX11_field_71 rfl ?_
      refine g_iald (pc' := 73) B (D 1 f) (hS.1.2.2 _ (by omega) (by omega)).2.1 (ly_Ga1 (by omega)) (by omega) (by decide) dX11_field_72 rfl ?_
      exact g_iret (z := D 1 f) B hrt rfl hlk dX11_field_73 ⟨rfl, by unfold qField; (repeat' split) <;> first | rfl | (exfalso; omega)⟩
    · refine g_tableIn B 2 74 c20 dX11_field_20 (by decide) (by decide) (by decide) rfl (by decide) ?_
      refine g_aload_n (pc' := 75) B 0 rfl rfl dX11_field_74 rfl ?_
      refine g_getR (pc' := 78) B (b + 4) fl_X11_180 (ly_G (by omega)) rfl dX11_field_75 rfl ?_
      refine g_iload_n (pc' := 79) B 2 rfl rfl dX11_field_78 rfl ?_
      refine g_iald (pc' := 80) B (D 2 f) (hS.1.2.2 _ (by omega) (by omega)).2.2.1 (ly_Ga2 (by omega)) (by omega) (by decide) dX11_field_79 rfl ?_
      exact g_iret (z := D 2 f) B hrt rfl hlk dX11_field_80 ⟨rfl, by unfold qField; (repeat' split) <;> first | rfl | (exfalso; omega)⟩
    · refine g_tableIn B 3 81 c20 dX11_field_20 (by decide) (by decide) (by decide) rfl (by decide) ?_
      refine g_aload_n (pc' := 82) B 0 rfl rfl dX11_field_81 rfl ?_
      refine g_getR (pc' := 85) B (b + 5) fl_X11_183 (ly_G (by omega)) rfl dX11_field_82 rfl ?_
      refine g_iload_n (pc' := 86) B 2 rfl rfl dX11_field_85 rfl ?_
      refine g_iald (pc' := 87) B (D 3 f) (hS.1.2.2 _ (by omega) (by omega)).2.2.2 (ly_Ga3 (by omega)) (by omega) (by decide) dX11_field_86 rfl ?_
      exact g_iret (z := D 3 f) B hrt rfl hlk dX11_field_87 ⟨rfl, by unfold qField; (repeat' split) <;> first | rfl | (exfalso; omega)⟩
    · refine g_tableIn B 4 88 c20 dX11_field_20 (by decide) (by decide) (by decide) rfl (by decide) ?_
      refine g_aload_n (pc' := 89) B 0 rfl rfl dX11_field_88 rfl ?_
      refine g_iload_n (pc' := 90) B 2 rfl rfl dX11_field_89 rfl ?_
      refine g_aload_n (pc' := 91) B 1 rfl rfl dX11_field_90 rfl ?_
      refine g_getR (pc' := 94) B 31 fl_X11_33 rfl rfl dX11_field_91 rfl ?_
      refine g_get (pc' := 97) B X hm.2.1 fl_X11_141 rfl rfl dX11_field_94 rfl ?_
      refine g_callVI (pc' := 100) (As := [.int (iI f), .int (iI X)]) B (c_X2_heightAt l K _ (g := b + 1) (D := D) (f := f) (x := X) (by omega) hS.1 hF (by omega) (by omega) (by omega)) vt_X2_heightAt tw_534 (ly_G (by omega)) rfl ⟨by decide, by decide⟩ rfl (Nat.le_of_ble_eq_true rfl) ⟨Nat.zero_le _, Nat.zero_le _⟩ rfl dX11_field_97 rfl (fun z97 τ97 h97 => ?_)
      obtain ⟨rfl, rfl⟩ := h97
      exact g_iret (z := hgt D f X) B hrt rfl hlk dX11_field_100 ⟨rfl, by unfold qField; (repeat' split) <;> first | rfl | (exfalso; omega)⟩
    · refine g_tableIn B 5 101 c20 dX11_field_20 (by decide) (by decide) (by decide) rfl (by decide) ?_
      refine g_aload_n (pc' := 102) B 0 rfl rfl dX11_field_101 rfl ?_
      refine g_iload_n (pc' := 103) B 2 rfl rfl dX11_field_102 rfl ?_
      refine g_aload_n (pc' := 104) B 1 rfl rfl dX11_field_103 rfl ?_
      refine g_getR (pc' := 107) B 31 fl_X11_33 rfl rfl dX11_field_104 rfl ?_
      refine g_get (pc' := 110) B X hm.2.1 fl_X11_141 rfl rfl dX11_field_107 rfl ?_
      refine g_callVI (pc' := 113) (As := [.int (iI f), .int (iI X)]) B (c_X2_leanAt l K _ (g := b + 1) (D := D) (f := f) (x := X) (by omega) hS.1 hF (by omega) (by omega) (by omega)) vt_X2_leanAt tw_535 (ly_G (by omega)) rfl ⟨by decide, by decide⟩ rfl (Nat.le_of_ble_eq_true rfl) ⟨Nat.zero_le _, Nat.zero_le _⟩ rfl dX11_field_110 rfl (fun z110 τ110 h110 => ?_)
      obtain ⟨rfl, rfl⟩ := h110
      exact g_iret (z := lean D f X) B hrt rfl hlk dX11_field_113 ⟨rfl, by unfold qField; (repeat' split) <;> first | rfl | (exfalso; omega)⟩
    · refine g_tableOut B 114 c20 (by omega) dX11_field_20 (by decide) ?_
      refine g_ldc (z := (-1000000002)) (pc' := 116) B tw_366 (by decide +kernel) dX11_field_114 rfl ?_
      exact g_iret (z := (-1000000002)) B hrt rfl hlk dX11_field_116 ⟨rfl, by unfold qField; (repeat' split) <;> first | rfl | (exfalso; omega)⟩
  · refine g_if_ne (pc' := 16) B 19 (by omega) dX11_field_13 (by decide) rfl (fun q => absurd q (by decide)) (fun _ => ?_)
    refine g_ldc (z := (-1000000001)) (pc' := 18) B tw_533 (by decide +kernel) dX11_field_16 rfl ?_
    exact g_iret (z := (-1000000001)) B hrt rfl hlk dX11_field_18 ⟨rfl, by unfold qField; (repeat' split) <;> first | rfl | (exfalso; omega)⟩
set_option maxRecDepth 100000 in
set_option maxHeartbeats 4000000 in
theorem c_X11_height (l : Launch) (K : WK) (σ : SG) {b : Nat} (hb : b = 3 ∨ b = 17) (hcb : σ 0 1 = ((b : Nat) : Int)) {D : SG} (hS : sD σ b D) (hF : okF D) (hR : okR D) (hO : okQ D) (hH : okH D) {f x : Int} (hf : -2147483648 ≤ f ∧ f < 2147483648) (hx : -2147483648 ≤ x ∧ x < 2147483648) : MI l yX11_height cX11_height 3 (some .int) 3 66 K σ [.ref (K.2.2 0), .int (iI f), .int (iI x)] (fun z τ => σ = τ ∧ z = qHeight D f x) := by
  refine met_of [(0, .ref (K.2.2 0)), (1, .int (iI f)), (2, .int (iI x))] (by decide +kernel) (Nat.le_of_ble_eq_true rfl) rfl ?_
  intro pP eE sS mM bW mT cC B hrt hlk
  replace B : CB pP sS mM [.ref (K.2.2 0), .int (iI f), .int (iI x)].toArray cC cX11_height RX11 3 K := B
  obtain ⟨hF0, hF1⟩ := id hF
  obtain ⟨hO0, hO1⟩ := id hO
  obtain ⟨hH0, hH1⟩ := id hH
  obtain ⟨hR0, hR1⟩ := id hR
  refine g_aload_n (pc' := 1) B 0 rfl rfl dX11_height_0 rfl ?_
  refine g_getV (pc' := 4) B b (vr hcb) fl_X11_19 rfl rfl dX11_height_1 rfl ?_
  refine g_getR (pc' := 7) B (b + 1) fl_X11_121 (ly_S hb) rfl dX11_height_4 rfl ?_
  refine g_iload_n (pc' := 8) B 1 rfl rfl dX11_height_7 rfl ?_
  refine g_callVI (pc' := 11) (As := [.int (iI f)]) B (c_X2_has l K _ (g := b + 1) (D := D) (f := f) (by omega) hS.1 hF (by omega)) vt_X2_has tw_532 (ly_G (by omega)) rfl ⟨by decide, by decide⟩ rfl (Nat.le_of_ble_eq_true rfl) ⟨Nat.zero_le _, Nat.zero_le _⟩ rfl dX11_height_8 rfl (fun z8 τ8 h8 => ?_)
  obtain ⟨rfl, h8⟩ := h8
  rcases h8 with ⟨h8, rfl⟩ | ⟨h8, rfl⟩
  · refine g_if_ne (pc' := 14) B 17 (by omega) dX11_height_11 (by decide) rfl (fun _ => ?_) (fun q => absurd q (by decide))
    refine g_iload_n (pc' := 18) B 2 rfl rfl dX11_height_17 rfl ?_
    refine g_iconst (pc' := 19) B dX11_height_18 rfl ?_
    refine g_ldc (z := 1000000) (pc' := 21) B tw_540 (by decide +kernel) dX11_height_19 rfl ?_
    refine g_callSI (pc' := 24) (As := [.int (iI x), .int (iI 0), .int (iI 1000000)]) B (c_X11_isOutside l K _ (v := x) (low := 0) (high := 1000000) (by omega) (by omega) (by omega)) st_X11_isOutside tw_363 ⟨by decide, by decide⟩ rfl (Nat.le_of_ble_eq_true rfl) ⟨Nat.zero_le _, Nat.zero_le _⟩ rfl dX11_height_21 rfl (fun z21 τ21 h21 => ?_)
    obtain ⟨rfl, h21⟩ := h21
    rcases h21 with ⟨h21, rfl⟩ | ⟨h21, rfl⟩
    · refine g_if_eq (pc' := 27) B 32 (by omega) dX11_height_24 (by decide) rfl (fun q => absurd q (by decide)) (fun _ => ?_)
      refine g_ldc (z := (-1000000002)) (pc' := 29) B tw_366 (by decide +kernel) dX11_height_27 rfl ?_
      refine g_goto (pc' := 44) B dX11_height_29 (by decide) ?_
      exact g_iret (z := (-1000000002)) B hrt rfl hlk dX11_height_44 ⟨rfl, by unfold qHeight; (repeat' split) <;> first | rfl | (exfalso; omega)⟩
    · refine g_if_eq (pc' := 27) B 32 (by omega) dX11_height_24 (by decide) rfl (fun _ => ?_) (fun q => absurd q (by decide))
      refine g_aload_n (pc' := 33) B 0 rfl rfl dX11_height_32 rfl ?_
      refine g_getV (pc' := 36) B b (vr hcb) fl_X11_19 rfl rfl dX11_height_33 rfl ?_
      refine g_getR (pc' := 39) B (b + 1) fl_X11_121 (ly_S hb) rfl dX11_height_36 rfl ?_
      refine g_iload_n (pc' := 40) B 1 rfl rfl dX11_height_39 rfl ?_
      refine g_iload_n (pc' := 41) B 2 rfl rfl dX11_height_40 rfl ?_
      refine g_callVI (pc' := 44) (As := [.int (iI f), .int (iI x)]) B (c_X2_heightAt l K _ (g := b + 1) (D := D) (f := f) (x := x) (by omega) hS.1 hF (by omega) (by omega) (by omega)) vt_X2_heightAt tw_534 (ly_G (by omega)) rfl ⟨by decide, by decide⟩ rfl (Nat.le_of_ble_eq_true rfl) ⟨Nat.zero_le _, Nat.zero_le _⟩ rfl dX11_height_41 rfl (fun z41 τ41 h41 => ?_)
      obtain ⟨rfl, rfl⟩ := h41
      exact g_iret (z := hgt D f x) B hrt rfl hlk dX11_height_44 ⟨rfl, by unfold qHeight; (repeat' split) <;> first | rfl | (exfalso; omega)⟩
  · refine g_if_ne (pc' := 14) B 17 (by omega) dX11_height_11 (by decide) rfl (fun q => absurd q (by decide)) (fun _ => ?_)
    refine g_ldc (z := (-1000000001)) (pc' := 16) B tw_533 (by decide +kernel) dX11_height_14 rfl ?_
    exact g_iret (z := (-1000000001)) B hrt rfl hlk dX11_height_16 ⟨rfl, by unfold qHeight; (repeat' split) <;> first | rfl | (exfalso; omega)⟩
set_option maxRecDepth 100000 in
set_option maxHeartbeats 4000000 in
theorem c_X11_house (l : Launch) (K : WK) (σ : SG) {b : Nat} (hb : b = 3 ∨ b = 17) (hcb : σ 0 1 = ((b : Nat) : Int)) {D : SG} (hS : sD σ b D) (hF : okF D) (hR : okR D) (hO : okQ D) (hH : okH D) {sl : Int → Int} (hsl : ∀ h : Int, 0 ≤ h → h < D 9 1 → σ (b + 13) h = sl h ∧ 0 ≤ sl h ∧ sl h ≤ 999) {h w : Int} (hh : -2147483648 ≤ h ∧ h < 2147483648) (hw : -2147483648 ≤ w ∧ w < 2147483648) : MI l yX11_house cX11_house 3 (some .int) 6 134 K σ [.ref (K.2.2 0), .int (iI h), .int (iI w)] (fun z τ => σ = τ ∧ z = qHouse D sl h w) := by
  refine met_of [(0, .ref (K.2.2 0)), (1, .int (iI h)), (2, .int (iI w))] (by decide +kernel) (Nat.le_of_ble_eq_true rfl) rfl ?_
  intro pP eE sS mM bW mT cC B hrt hlk
  replace B : CB pP sS mM [.ref (K.2.2 0), .int (iI h), .int (iI w)].toArray cC cX11_house RX11 3 K := B
  obtain ⟨hF0, hF1⟩ := id hF
  obtain ⟨hO0, hO1⟩ := id hO
  obtain ⟨hH0, hH1⟩ := id hH
  obtain ⟨hR0, hR1⟩ := id hR
  refine g_aload_n (pc' := 1) B 0 rfl rfl dX11_house_0 rfl ?_
  refine g_getV (pc' := 4) B b (vr hcb) fl_X11_19 rfl rfl dX11_house_1 rfl ?_
  refine g_iload_n (pc' := 5) B 1 rfl rfl dX11_house_4 rfl ?_
  refine g_callVI (pc' := 8) (As := [.int (iI h)]) B (c_X8_hasHouse l K _ (b := b) (D := D) (h := h) hb hS hF hH (by omega)) vt_X8_hasHouse tw_545 (ly_S hb) rfl ⟨by decide, by decide⟩ rfl (Nat.le_of_ble_eq_true rfl) ⟨Nat.zero_le _, Nat.zero_le _⟩ rfl dX11_house_5 rfl (fun z5 τ5 h5 => ?_)
  obtain ⟨rfl, h5⟩ := h5
  rcases h5 with ⟨h5, rfl⟩ | ⟨h5, rfl⟩
  · refine g_if_ne (pc' := 11) B 14 (by omega) dX11_house_8 (by decide) rfl (fun _ => ?_) (fun q => absurd q (by decide))
    refine g_iload_n (pc' := 15) B 2 rfl rfl dX11_house_14 rfl ?_
    rcases (show w = 0 ∨ w = 1 ∨ w = 2 ∨ (w < 0 ∨ 2 < w) by omega) with c15 | c15 | c15 | c15
    · refine g_tableIn B 0 40 c15 dX11_house_15 (by decide) (by decide) (by decide) rfl (by decide) ?_
      refine g_aload_n (pc' := 41) B 0 rfl rfl dX11_house_40 rfl ?_
      refine g_getV (pc' := 44) B b (vr hcb) fl_X11_19 rfl rfl dX11_house_41 rfl ?_
      refine g_getR (pc' := 47) B (b + 12) fl_X11_197 (ly_S hb) rfl dX11_house_44 rfl ?_
      refine g_iload_n (pc' := 48) B 1 rfl rfl dX11_house_47 rfl ?_
      refine g_iald (pc' := 49) B (D 4 h) (hS.2.2.2 _ (by omega) (by omega)) (ly_Sa2 hb) (by omega) (by decide) dX11_house_48 rfl ?_
      exact g_iret (z := D 4 h) B hrt rfl hlk dX11_house_49 ⟨rfl, by unfold qHouse; (repeat' split) <;> first | rfl | (exfalso; omega)⟩
    · refine g_tableIn B 1 50 c15 dX11_house_15 (by decide) (by decide) (by decide) rfl (by decide) ?_
      refine g_aload_n (pc' := 51) B 0 rfl rfl dX11_house_50 rfl ?_
      refine g_getV (pc' := 54) B b (vr hcb) fl_X11_19 rfl rfl dX11_house_51 rfl ?_
      refine g_getR (pc' := 57) B (b + 13) fl_X11_200 (ly_S hb) rfl dX11_house_54 rfl ?_
      refine g_iload_n (pc' := 58) B 1 rfl rfl dX11_house_57 rfl ?_
      refine g_iald (pc' := 59) B (sl h) (hsl _ (by omega) (by omega)).1 (ly_Sa3 hb) (by omega) (by decide) dX11_house_58 rfl ?_
      exact g_iret (z := sl h) B hrt rfl hlk dX11_house_59 ⟨rfl, by unfold qHouse; (repeat' split) <;> first | rfl | (exfalso; omega)⟩
    · refine g_tableIn B 2 60 c15 dX11_house_15 (by decide) (by decide) (by decide) rfl (by decide) ?_
      refine g_aload_n (pc' := 61) B 0 rfl rfl dX11_house_60 rfl ?_
      refine g_getV (pc' := 64) B b (vr hcb) fl_X11_19 rfl rfl dX11_house_61 rfl ?_
      refine g_iload_n (pc' := 65) B 1 rfl rfl dX11_house_64 rfl ?_
      refine g_callVI (pc' := 68) (As := [.int (iI h)]) B (c_X8_slackNeeded l K _ (b := b) (D := D) (h := h) hb hS hF hH (by omega) (by omega) hR) vt_X8_slackNeeded tw_546 (ly_S hb) rfl ⟨by decide, by decide⟩ rfl (Nat.le_of_ble_eq_true rfl) ⟨Nat.zero_le _, Nat.zero_le _⟩ rfl dX11_house_65 rfl (fun z65 τ65 h65 => ?_)
      obtain ⟨rfl, rfl⟩ := h65
      exact g_iret (z := nd D h) B hrt rfl hlk dX11_house_68 ⟨rfl, by unfold qHouse; (repeat' split) <;> first | rfl | (exfalso; omega)⟩
    · refine g_tableOut B 69 c15 (by omega) dX11_house_15 (by decide) ?_
      refine g_ldc (z := (-1000000002)) (pc' := 71) B tw_366 (by decide +kernel) dX11_house_69 rfl ?_
      exact g_iret (z := (-1000000002)) B hrt rfl hlk dX11_house_71 ⟨rfl, by unfold qHouse; (repeat' split) <;> first | rfl | (exfalso; omega)⟩
  · refine g_if_ne (pc' := 11) B 14 (by omega) dX11_house_8 (by decide) rfl (fun q => absurd q (by decide)) (fun _ => ?_)
    refine g_ldc (z := (-1000000001)) (pc' := 13) B tw_533 (by decide +kernel) dX11_house_11 rfl ?_
    exact g_iret (z := (-1000000001)) B hrt rfl hlk dX11_house_13 ⟨rfl, by unfold qHouse; (repeat' split) <;> first | rfl | (exfalso; omega)⟩
set_option maxRecDepth 100000 in
set_option maxHeartbeats 4000000 in
theorem c_X11_seam (l : Launch) (K : WK) (σ : SG) {b : Nat} (hb : b = 3 ∨ b = 17) (hcb : σ 0 1 = ((b : Nat) : Int)) {D : SG} (hS : sD σ b D) (hF : okF D) (hR : okR D) (hO : okQ D) (hH : okH D) {s w : Int} (hs : -2147483648 ≤ s ∧ s < 2147483648) (hw : -2147483648 ≤ w ∧ w < 2147483648) : MI l yX11_seam cX11_seam 4 (some .int) 1 21 K σ [.ref (K.2.2 0), .int (iI s), .int (iI w)] (fun z τ => σ = τ ∧ z = qSeam D s w) := by
  refine met_of [(0, .ref (K.2.2 0)), (1, .int (iI s)), (2, .int (iI w))] (by decide +kernel) (Nat.le_of_ble_eq_true rfl) rfl ?_
  intro pP eE sS mM bW mT cC B hrt hlk
  replace B : CB pP sS mM [.ref (K.2.2 0), .int (iI s), .int (iI w)].toArray cC cX11_seam RX11 4 K := B
  obtain ⟨hF0, hF1⟩ := id hF
  obtain ⟨hO0, hO1⟩ := id hO
  obtain ⟨hH0, hH1⟩ := id hH
  obtain ⟨hR0, hR1⟩ := id hR
  refine g_aload_n (pc' := 1) B 0 rfl rfl dX11_seam_0 rfl ?_
  refine g_getV (pc' := 4) B b (vr hcb) fl_X11_19 rfl rfl dX11_seam_1 rfl ?_
  refine g_getR (pc' := 7) B (b + 7) fl_X11_131 (ly_S hb) rfl dX11_seam_4 rfl ?_
  refine g_astore_n (pc' := 8) B [(3, .ref (K.2.2 (b + 7))), (0, .ref (K.2.2 0)), (1, .int (iI s)), (2, .int (iI w))] dX11_seam_7 rfl rfl (by decide) rfl ?_
  refine g_aload_n (pc' := 9) B 0 rfl rfl dX11_seam_8 rfl ?_
  refine g_iload_n (pc' := 10) B 2 rfl rfl dX11_seam_9 rfl ?_
  refine g_callVI (pc' := 13) (As := [.int (iI s)]) B (c_X6_has l K _ (q := b + 7) (D := D) (s := s) (by omega) hS.2.1 hO (by omega)) vt_X6_has tw_563 (ly_Q (by omega)) rfl ⟨by decide, by decide⟩ rfl (Nat.le_of_ble_eq_true rfl) ⟨Nat.zero_le _, Nat.zero_le _⟩ rfl dX11_seam_10 rfl (fun z10 τ10 h10 => ?_)
  obtain ⟨rfl, h10⟩ := h10
  rcases h10 with ⟨h10, rfl⟩ | ⟨h10, rfl⟩
  · refine g_if_ne (pc' := 16) B 19 (by omega) dX11_seam_13 (by decide) rfl (fun _ => ?_) (fun q => absurd q (by decide))
    refine g_iload_n (pc' := 20) B 3 rfl rfl dX11_seam_19 rfl ?_
    rcases (show w = 0 ∨ w = 1 ∨ w = 2 ∨ w = 3 ∨ (w < 0 ∨ 3 < w) by omega) with c20 | c20 | c20 | c20 | c20
    · refine g_tableIn B 0 52 c20 dX11_seam_20 (by decide) (by decide) (by decide) rfl (by decide) ?_
      refine g_aload_n (pc' := 53) B 0 rfl rfl dX11_seam_52 rfl ?_
      refine g_getR (pc' := 56) B (b + 8) fl_X11_207 (ly_Q (by omega)) rfl dX11_seam_53 rfl ?_
      refine g_iload_n (pc' := 57) B 2 rfl rfl dX11_seam_56 rfl ?_
      refine g_iald (pc' := 58) B (D 5 s) (hS.2.1.2 _ (by omega) (by omega)).1 (ly_Qa0 (by omega)) (by omega) (by decide) dX11_seam_57 rfl ?_
      exact g_iret (z := D 5 s) B hrt rfl hlk dX11_seam_58 ⟨rfl, by unfold qSeam; (repeat' split) <;> first | rfl | (exfalso; omega)⟩
    · refine g_tableIn B 1 59 c20 dX11_seam_20 (by decide) (by decide) (by decide) rfl (by decide) ?_
      refine g_aload_n (pc' := 60) B 0 rfl rfl dX11_seam_59 rfl ?_
      refine g_getR (pc' := 63) B (b + 9) fl_X11_210 (ly_Q (by omega)) rfl dX11_seam_60 rfl ?_
      refine g_iload_n (pc' := 64) B 2 rfl rfl dX11_seam_63 rfl ?_
      refine g_iald (pc' := 65) B (D 6 s) (hS.2.1.2 _ (by omega) (by omega)).2.1 (ly_Qa1 (by omega)) (by omega) (by decide) dX11_seam_64 rfl ?_
      exact g_iret (z := D 6 s) B hrt rfl hlk dX11_seam_65 ⟨rfl, by unfold qSeam; (repeat' split) <;> first | rfl | (exfalso; omega)⟩
    · refine g_tableIn B 2 66 c20 dX11_seam_20 (by decide) (by decide) (by decide) rfl (by decide) ?_
      refine g_aload_n (pc' := 67) B 0 rfl rfl dX11_seam_66 rfl ?_
      refine g_getR (pc' := 70) B (b + 10) fl_X11_211 (ly_Q (by omega)) rfl dX11_seam_67 rfl ?_
      refine g_iload_n (pc' := 71) B 2 rfl rfl dX11_seam_70 rfl ?_
      refine g_iald (pc' := 72) B (D 7 s) (hS.2.1.2 _ (by omega) (by omega)).2.2.1 (ly_Qa2 (by omega)) (by omega) (by decide) dX11_seam_71 rfl ?_
      exact g_iret (z := D 7 s) B hrt rfl hlk dX11_seam_72 ⟨rfl, by unfold qSeam; (repeat' split) <;> first | rfl | (exfalso; omega)⟩
    · refine g_tableIn B 3 73 c20 dX11_seam_20 (by decide) (by decide) (by decide) rfl (by decide) ?_
      refine g_aload_n (pc' := 74) B 0 rfl rfl dX11_seam_73 rfl ?_
      refine g_getR (pc' := 77) B (b + 11) fl_X11_214 (ly_Q (by omega)) rfl dX11_seam_74 rfl ?_
      refine g_iload_n (pc' := 78) B 2 rfl rfl dX11_seam_77 rfl ?_
      refine g_iald (pc' := 79) B (D 8 s) (hS.2.1.2 _ (by omega) (by omega)).2.2.2 (ly_Qa3 (by omega)) (by omega) (by decide) dX11_seam_78 rfl ?_
      exact g_iret (z := D 8 s) B hrt rfl hlk dX11_seam_79 ⟨rfl, by unfold qSeam; (repeat' split) <;> first | rfl | (exfalso; omega)⟩
    · refine g_tableOut B 80 c20 (by omega) dX11_seam_20 (by decide) ?_
      refine g_ldc (z := (-1000000002)) (pc' := 82) B tw_366 (by decide +kernel) dX11_seam_80 rfl ?_
      exact g_iret (z := (-1000000002)) B hrt rfl hlk dX11_seam_82 ⟨rfl, by unfold qSeam; (repeat' split) <;> first | rfl | (exfalso; omega)⟩
  · refine g_if_ne (pc' := 16) B 19 (by omega) dX11_seam_13 (by decide) rfl (fun q => absurd q (by decide)) (fun _ => ?_)
    refine g_ldc (z := (-1000000001)) (pc' := 18) B tw_533 (by decide +kernel) dX11_seam_16 rfl ?_
    exact g_iret (z := (-1000000001)) B hrt rfl hlk dX11_seam_18 ⟨rfl, by unfold qSeam; (repeat' split) <;> first | rfl | (exfalso; omega)⟩
set_option maxRecDepth 100000 in
set_option maxHeartbeats 4000000 in
theorem c_X11_slack (l : Launch) (K : WK) (σ : SG) {b : Nat} (hb : b = 3 ∨ b = 17) (hcb : σ 0 1 = ((b : Nat) : Int)) {D : SG} (hS : sD σ b D) (hF : okF D) (hR : okR D) (hO : okQ D) (hH : okH D) {sl : Int → Int} (hsl : ∀ h : Int, 0 ≤ h → h < D 9 1 → σ (b + 13) h = sl h ∧ 0 ≤ sl h ∧ sl h ≤ 999) {h v : Int} (hh : -2147483648 ≤ h ∧ h < 2147483648) (hv : -2147483648 ≤ v ∧ v < 2147483648) : MI l yX11_slack cX11_slack 4 (some .int) 1 22 K σ [.ref (K.2.2 0), .int (iI h), .int (iI v)] (fun z τ => ((¬ (0 ≤ h ∧ h < D 9 1) ∧ τ = σ ∧ z = -1000000001) ∨ ((0 ≤ h ∧ h < D 9 1) ∧ (v < 0 ∨ 999 < v) ∧ τ = σ ∧ z = -1000000002) ∨ ((0 ≤ h ∧ h < D 9 1) ∧ ¬ (v < 0 ∨ 999 < v) ∧ τ = up σ (b + 13) h v ∧ z = sl h))) := by
  refine met_of [(0, .ref (K.2.2 0)), (1, .int (iI h)), (2, .int (iI v))] (by decide +kernel) (Nat.le_of_ble_eq_true rfl) rfl ?_
  intro pP eE sS mM bW mT cC B hrt hlk
  replace B : CB pP sS mM [.ref (K.2.2 0), .int (iI h), .int (iI v)].toArray cC cX11_slack RX11 4 K := B
  obtain ⟨hF0, hF1⟩ := id hF
  obtain ⟨hO0, hO1⟩ := id hO
  obtain ⟨hH0, hH1⟩ := id hH
  obtain ⟨hR0, hR1⟩ := id hR
  refine g_aload_n (pc' := 1) B 0 rfl rfl dX11_slack_0 rfl ?_
  refine g_getV (pc' := 4) B b (vr hcb) fl_X11_19 rfl rfl dX11_slack_1 rfl ?_
  refine g_iload_n (pc' := 5) B 1 rfl rfl dX11_slack_4 rfl ?_
  refine g_callVI (pc' := 8) (As := [.int (iI h)]) B (c_X8_hasHouse l K _ (b := b) (D := D) (h := h) hb hS hF hH (by omega)) vt_X8_hasHouse tw_545 (ly_S hb) rfl ⟨by decide, by decide⟩ rfl (Nat.le_of_ble_eq_true rfl) ⟨Nat.zero_le _, Nat.zero_le _⟩ rfl dX11_slack_5 rfl (fun z5 τ5 h5 => ?_)
  obtain ⟨rfl, h5⟩ := h5
  rcases h5 with ⟨h5, rfl⟩ | ⟨h5, rfl⟩
  · refine g_if_ne (pc' := 11) B 14 (by omega) dX11_slack_8 (by decide) rfl (fun _ => ?_) (fun q => absurd q (by decide))
    refine g_iload_n (pc' := 15) B 2 rfl rfl dX11_slack_14 rfl ?_
    refine g_iconst (pc' := 16) B dX11_slack_15 rfl ?_
    refine g_sipush (pc' := 19) B (by decide +kernel) dX11_slack_16 rfl ?_
    refine g_callSI (pc' := 22) (As := [.int (iI v), .int (iI 0), .int (iI 999)]) B (c_X11_isOutside l K _ (v := v) (low := 0) (high := 999) (by omega) (by omega) (by omega)) st_X11_isOutside tw_363 ⟨by decide, by decide⟩ rfl (Nat.le_of_ble_eq_true rfl) ⟨Nat.zero_le _, Nat.zero_le _⟩ rfl dX11_slack_19 rfl (fun z19 τ19 h19 => ?_)
    obtain ⟨rfl, h19⟩ := h19
    rcases h19 with ⟨h19, rfl⟩ | ⟨h19, rfl⟩
    · refine g_if_eq (pc' := 25) B 28 (by omega) dX11_slack_22 (by decide) rfl (fun q => absurd q (by decide)) (fun _ => ?_)
      refine g_ldc (z := (-1000000002)) (pc' := 27) B tw_366 (by decide +kernel) dX11_slack_25 rfl ?_
      exact g_iret (z := (-1000000002)) B hrt rfl hlk dX11_slack_27 (Or.inr (Or.inl ⟨h5, h19, rfl, rfl⟩))
    · refine g_if_eq (pc' := 25) B 28 (by omega) dX11_slack_22 (by decide) rfl (fun _ => ?_) (fun q => absurd q (by decide))
      refine g_aload_n (pc' := 29) B 0 rfl rfl dX11_slack_28 rfl ?_
      refine g_getV (pc' := 32) B b (vr hcb) fl_X11_19 rfl rfl dX11_slack_29 rfl ?_
      refine g_getR (pc' := 35) B (b + 13) fl_X11_200 (ly_S hb) rfl dX11_slack_32 rfl ?_
      refine g_iload_n (pc' := 36) B 1 rfl rfl dX11_slack_35 rfl ?_
      refine g_iald (pc' := 37) B (sl h) (hsl _ (by omega) (by omega)).1 (ly_Sa3 hb) (by omega) (by decide) dX11_slack_36 rfl ?_
      refine g_istore_n (pc' := 38) B [(3, .int (iI (sl h))), (0, .ref (K.2.2 0)), (1, .int (iI h)), (2, .int (iI v))] dX11_slack_37 rfl rfl (by decide) rfl ?_
      refine g_aload_n (pc' := 39) B 1 rfl rfl dX11_slack_38 rfl ?_
      refine g_getV (pc' := 42) B b (vr hcb) fl_X11_19 rfl rfl dX11_slack_39 rfl ?_
      refine g_getR (pc' := 45) B (b + 13) fl_X11_200 (ly_S hb) rfl dX11_slack_42 rfl ?_
      refine g_iload_n (pc' := 46) B 2 rfl rfl dX11_slack_45 rfl ?_
      refine g_iload_n (pc' := 47) B 3 rfl rfl dX11_slack_46 rfl ?_
      refine g_iast (pc' := 48) B (ly_Sa3 hb) (by omega) (by decide) dX11_slack_47 rfl ?_
      refine g_iload_n (pc' := 49) B 0 rfl rfl dX11_slack_48 rfl ?_
      exact g_iret (z := sl h) B hrt rfl hlk dX11_slack_49 (Or.inr (Or.inr ⟨h5, h19, rfl, rfl⟩))
  · refine g_if_ne (pc' := 11) B 14 (by omega) dX11_slack_8 (by decide) rfl (fun q => absurd q (by decide)) (fun _ => ?_)
    refine g_ldc (z := (-1000000001)) (pc' := 13) B tw_533 (by decide +kernel) dX11_slack_11 rfl ?_
    exact g_iret (z := (-1000000001)) B hrt rfl hlk dX11_slack_13 (Or.inl ⟨h5, rfl, rfl⟩)
set_option maxRecDepth 100000 in
set_option maxHeartbeats 4000000 in
theorem c_X11_cracks (l : Launch) (K : WK) (σ : SG) {b : Nat} (hb : b = 3 ∨ b = 17) (hcb : σ 0 1 = ((b : Nat) : Int)) {D : SG} (hS : sD σ b D) (hF : okF D) (hR : okR D) (hO : okQ D) (hH : okH D) {S X L P : Int} (hm : σ 31 0 = S ∧ σ 31 1 = X ∧ σ 31 2 = L ∧ σ 31 3 = P) (hSX : 0 ≤ X ∧ X ≤ S ∧ S ≤ 70000) {sl : Int → Int} (hsl : ∀ h : Int, 0 ≤ h → h < D 9 1 → σ (b + 13) h = sl h ∧ 0 ≤ sl h ∧ sl h ≤ 999) {h : Int} (hh : -2147483648 ≤ h ∧ h < 2147483648) : MI l yX11_cracks cX11_cracks 2 (some .int) 6 134 K σ [.ref (K.2.2 0), .int (iI h)] (fun z τ => σ = τ ∧ aCracks D sl X h z) := by
  refine met_of [(0, .ref (K.2.2 0)), (1, .int (iI h))] (by decide +kernel) (Nat.le_of_ble_eq_true rfl) rfl ?_
  intro pP eE sS mM bW mT cC B hrt hlk
  replace B : CB pP sS mM [.ref (K.2.2 0), .int (iI h)].toArray cC cX11_cracks RX11 2 K := B
  obtain ⟨hF0, hF1⟩ := id hF
  obtain ⟨hO0, hO1⟩ := id hO
  obtain ⟨hH0, hH1⟩ := id hH
  obtain ⟨hR0, hR1⟩ := id hR
  refine g_aload_n (pc' := 1) B 0 rfl rfl dX11_cracks_0 rfl ?_
  refine g_getV (pc' := 4) B b (vr hcb) fl_X11_19 rfl rfl dX11_cracks_1 rfl ?_
  refine g_iload_n (pc' := 5) B 1 rfl rfl dX11_cracks_4 rfl ?_
  refine g_callVI (pc' := 8) (As := [.int (iI h)]) B (c_X8_hasHouse l K _ (b := b) (D := D) (h := h) hb hS hF hH (by omega)) vt_X8_hasHouse tw_545 (ly_S hb) rfl ⟨by decide, by decide⟩ rfl (Nat.le_of_ble_eq_true rfl) ⟨Nat.zero_le _, Nat.zero_le _⟩ rfl dX11_cracks_5 rfl (fun z5 τ5 h5 => ?_)
  obtain ⟨rfl, h5⟩ := h5
  rcases h5 with ⟨h5, rfl⟩ | ⟨h5, rfl⟩
  · refine g_if_eq (pc' := 11) B 29 (by omega) dX11_cracks_8 (by decide) rfl (fun q => absurd q (by decide)) (fun _ => ?_)
    refine g_aload_n (pc' := 12) B 0 rfl rfl dX11_cracks_11 rfl ?_
    refine g_getV (pc' := 15) B b (vr hcb) fl_X11_19 rfl rfl dX11_cracks_12 rfl ?_
    refine g_iload_n (pc' := 16) B 1 rfl rfl dX11_cracks_15 rfl ?_
    refine g_aload_n (pc' := 17) B 0 rfl rfl dX11_cracks_16 rfl ?_
    refine g_getR (pc' := 20) B 31 fl_X11_33 rfl rfl dX11_cracks_17 rfl ?_
    refine g_get (pc' := 23) B X hm.2.1 fl_X11_141 rfl rfl dX11_cracks_20 rfl ?_
    refine g_callVI (pc' := 26) (As := [.int (iI h), .int (iI X)]) B (c_X8_firstCrack l K _ (b := b) (D := D) (sl := sl) (h := h) (f := X) hb hS hF hH hsl (by omega) (by omega) (by omega)) vt_X8_firstCrack tw_645 (ly_S hb) rfl ⟨by decide, by decide⟩ rfl (Nat.le_of_ble_eq_true rfl) ⟨Nat.zero_le _, Nat.zero_le _⟩ rfl dX11_cracks_23 rfl (fun z23 τ23 h23 => ?_)
    obtain ⟨rfl, h23⟩ := h23
    refine g_goto (pc' := 31) B dX11_cracks_26 (by decide) ?_
    exact g_iret (z := z23) B hrt rfl hlk dX11_cracks_31 ⟨rfl, Or.inr ⟨h5, h23⟩⟩
  · refine g_if_eq (pc' := 11) B 29 (by omega) dX11_cracks_8 (by decide) rfl (fun _ => ?_) (fun q => absurd q (by decide))
    refine g_ldc (z := (-1000000001)) (pc' := 31) B tw_533 (by decide +kernel) dX11_cracks_29 rfl ?_
    exact g_iret (z := (-1000000001)) B hrt rfl hlk dX11_cracks_31 ⟨rfl, Or.inl ⟨h5, rfl⟩⟩
set_option maxRecDepth 100000 in
set_option maxHeartbeats 4000000 in
theorem c_X11_worst (l : Launch) (K : WK) (σ : SG) {b : Nat} (hb : b = 3 ∨ b = 17) (hcb : σ 0 1 = ((b : Nat) : Int)) {D : SG} (hS : sD σ b D) (hF : okF D) (hR : okR D) (hO : okQ D) (hH : okH D) {sl : Int → Int} (hsl : ∀ h : Int, 0 ≤ h → h < D 9 1 → σ (b + 13) h = sl h ∧ 0 ≤ sl h ∧ sl h ≤ 999)  : MI l yX11_worst cX11_worst 1 (some .int) 7 158 K σ [.ref (K.2.2 0)] (fun z τ => σ = τ ∧ z = (nhS D sl (D 9 1).toNat).1) := by
  refine met_of [(0, .ref (K.2.2 0))] (by decide +kernel) (Nat.le_of_ble_eq_true rfl) rfl ?_
  intro pP eE sS mM bW mT cC B hrt hlk
  replace B : CB pP sS mM [.ref (K.2.2 0)].toArray cC cX11_worst RX11 1 K := B
  obtain ⟨hF0, hF1⟩ := id hF
  obtain ⟨hO0, hO1⟩ := id hO
  obtain ⟨hH0, hH1⟩ := id hH
  obtain ⟨hR0, hR1⟩ := id hR
  refine g_aload_n (pc' := 1) B 0 rfl rfl dX11_worst_0 rfl ?_
  refine g_getV (pc' := 4) B b (vr hcb) fl_X11_19 rfl rfl dX11_worst_1 rfl ?_
  refine g_callVI (pc' := 7) (As := []) B (c_X8_neediestHouse l K _ (b := b) (D := D) (sl := sl) hb hS hF hH hsl hR) vt_X8_neediestHouse tw_653 (ly_S hb) rfl ⟨by decide, by decide⟩ rfl (Nat.le_of_ble_eq_true rfl) ⟨Nat.zero_le _, Nat.zero_le _⟩ rfl dX11_worst_4 rfl (fun z4 τ4 h4 => ?_)
  obtain ⟨rfl, rfl⟩ := h4
  exact g_iret (z := (nhS D sl (D 9 1).toNat).1) B hrt rfl hlk dX11_worst_7 ⟨rfl, rfl⟩
set_option maxRecDepth 100000 in
set_option maxHeartbeats 4000000 in
theorem c_X11_water (l : Launch) (K : WK) (σ : SG) {b : Nat} (hb : b = 3 ∨ b = 17) (hcb : σ 0 1 = ((b : Nat) : Int)) {D : SG} (hS : sD σ b D) (hF : okF D) (hR : okR D) (hO : okQ D) (hH : okH D) {S X L P : Int} (hm : σ 31 0 = S ∧ σ 31 1 = X ∧ σ 31 2 = L ∧ σ 31 3 = P) (hSX : 0 ≤ X ∧ X ≤ S ∧ S ≤ 70000) {f n : Int} (hf : -2147483648 ≤ f ∧ f < 2147483648) (hn : -2147483648 ≤ n ∧ n < 2147483648) : MI l yX11_water cX11_water 3 (some .int) 5 114 K σ [.ref (K.2.2 0), .int (iI f), .int (iI n)] (fun z τ => σ = τ ∧ z = qWater D X f n) := by
  refine met_of [(0, .ref (K.2.2 0)), (1, .int (iI f)), (2, .int (iI n))] (by decide +kernel) (Nat.le_of_ble_eq_true rfl) rfl ?_
  intro pP eE sS mM bW mT cC B hrt hlk
  replace B : CB pP sS mM [.ref (K.2.2 0), .int (iI f), .int (iI n)].toArray cC cX11_water RX11 3 K := B
  obtain ⟨hF0, hF1⟩ := id hF
  obtain ⟨hO0, hO1⟩ := id hO
  obtain ⟨hH0, hH1⟩ := id hH
  obtain ⟨hR0, hR1⟩ := id hR
  refine g_aload_n (pc' := 1) B 0 rfl rfl dX11_water_0 rfl ?_
  refine g_getV (pc' := 4) B b (vr hcb) fl_X11_19 rfl rfl dX11_water_1 rfl ?_
  refine g_getR (pc' := 7) B (b + 1) fl_X11_121 (ly_S hb) rfl dX11_water_4 rfl ?_
  refine g_iload_n (pc' := 8) B 1 rfl rfl dX11_water_7 rfl ?_
  refine g_callVI (pc' := 11) (As := [.int (iI f)]) B (c_X2_has l K _ (g := b + 1) (D := D) (f := f) (by omega) hS.1 hF (by omega)) vt_X2_has tw_532 (ly_G (by omega)) rfl ⟨by decide, by decide⟩ rfl (Nat.le_of_ble_eq_true rfl) ⟨Nat.zero_le _, Nat.zero_le _⟩ rfl dX11_water_8 rfl (fun z8 τ8 h8 => ?_)
  obtain ⟨rfl, h8⟩ := h8
  rcases h8 with ⟨h8, rfl⟩ | ⟨h8, rfl⟩
  · refine g_if_ne (pc' := 14) B 17 (by omega) dX11_water_11 (by decide) rfl (fun _ => ?_) (fun q => absurd q (by decide))
    refine g_iload_n (pc' := 18) B 2 rfl rfl dX11_water_17 rfl ?_
    refine g_iconst (pc' := 19) B dX11_water_18 rfl ?_
    refine g_bipush (pc' := 21) B (by decide +kernel) dX11_water_19 rfl ?_
    refine g_callSI (pc' := 24) (As := [.int (iI n), .int (iI 0), .int (iI 99)]) B (c_X11_isOutside l K _ (v := n) (low := 0) (high := 99) (by omega) (by omega) (by omega)) st_X11_isOutside tw_363 ⟨by decide, by decide⟩ rfl (Nat.le_of_ble_eq_true rfl) ⟨Nat.zero_le _, Nat.zero_le _⟩ rfl dX11_water_21 rfl (fun z21 τ21 h21 => ?_)
    obtain ⟨rfl, h21⟩ := h21
    rcases h21 with ⟨h21, rfl⟩ | ⟨h21, rfl⟩
    · refine g_if_eq (pc' := 27) B 32 (by omega) dX11_water_24 (by decide) rfl (fun q => absurd q (by decide)) (fun _ => ?_)
      refine g_ldc (z := (-1000000002)) (pc' := 29) B tw_366 (by decide +kernel) dX11_water_27 rfl ?_
      refine g_goto (pc' := 51) B dX11_water_29 (by decide) ?_
      exact g_iret (z := (-1000000002)) B hrt rfl hlk dX11_water_51 ⟨rfl, by unfold qWater; (repeat' split) <;> first | rfl | (exfalso; omega)⟩
    · refine g_if_eq (pc' := 27) B 32 (by omega) dX11_water_24 (by decide) rfl (fun _ => ?_) (fun q => absurd q (by decide))
      refine g_aload_n (pc' := 33) B 0 rfl rfl dX11_water_32 rfl ?_
      refine g_getV (pc' := 36) B b (vr hcb) fl_X11_19 rfl rfl dX11_water_33 rfl ?_
      refine g_getR (pc' := 39) B (b + 1) fl_X11_121 (ly_S hb) rfl dX11_water_36 rfl ?_
      refine g_iload_n (pc' := 40) B 1 rfl rfl dX11_water_39 rfl ?_
      refine g_aload_n (pc' := 41) B 0 rfl rfl dX11_water_40 rfl ?_
      refine g_getR (pc' := 44) B 31 fl_X11_33 rfl rfl dX11_water_41 rfl ?_
      refine g_get (pc' := 47) B X hm.2.1 fl_X11_141 rfl rfl dX11_water_44 rfl ?_
      refine g_iload_n (pc' := 48) B 2 rfl rfl dX11_water_47 rfl ?_
      refine g_callVI (pc' := 51) (As := [.int (iI f), .int (iI X), .int (iI n)]) B (c_X2_flownTo l K _ (g := b + 1) (D := D) (f := f) (x := X) (n := n) (by omega) hS.1 hF (by omega) (by omega) (by omega) (by omega)) vt_X2_flownTo tw_662 (ly_G (by omega)) rfl ⟨by decide, by decide⟩ rfl (Nat.le_of_ble_eq_true rfl) ⟨Nat.zero_le _, Nat.zero_le _⟩ rfl dX11_water_48 rfl (fun z48 τ48 h48 => ?_)
      obtain ⟨rfl, rfl⟩ := h48
      exact g_iret (z := fl D f X n.toNat) B hrt rfl hlk dX11_water_51 ⟨rfl, by unfold qWater; (repeat' split) <;> first | rfl | (exfalso; omega)⟩
  · refine g_if_ne (pc' := 14) B 17 (by omega) dX11_water_11 (by decide) rfl (fun q => absurd q (by decide)) (fun _ => ?_)
    refine g_ldc (z := (-1000000001)) (pc' := 16) B tw_533 (by decide +kernel) dX11_water_14 rfl ?_
    exact g_iret (z := (-1000000001)) B hrt rfl hlk dX11_water_16 ⟨rfl, by unfold qWater; (repeat' split) <;> first | rfl | (exfalso; omega)⟩
set_option maxRecDepth 100000 in
set_option maxHeartbeats 4000000 in
theorem c_X11_mill (l : Launch) (K : WK) (σ : SG) {b : Nat} (hb : b = 3 ∨ b = 17) (hcb : σ 0 1 = ((b : Nat) : Int)) {D : SG} (hS : sD σ b D) (hF : okF D) (hR : okR D) (hO : okQ D) (hH : okH D) {f w : Int} (hf : -2147483648 ≤ f ∧ f < 2147483648) (hw : -2147483648 ≤ w ∧ w < 2147483648) : MI l yX11_mill cX11_mill 3 (some .int) 5 114 K σ [.ref (K.2.2 0), .int (iI f), .int (iI w)] (fun z τ => σ = τ ∧ z = qMill D f w) := by
  refine met_of [(0, .ref (K.2.2 0)), (1, .int (iI f)), (2, .int (iI w))] (by decide +kernel) (Nat.le_of_ble_eq_true rfl) rfl ?_
  intro pP eE sS mM bW mT cC B hrt hlk
  replace B : CB pP sS mM [.ref (K.2.2 0), .int (iI f), .int (iI w)].toArray cC cX11_mill RX11 3 K := B
  obtain ⟨hF0, hF1⟩ := id hF
  obtain ⟨hO0, hO1⟩ := id hO
  obtain ⟨hH0, hH1⟩ := id hH
  obtain ⟨hR0, hR1⟩ := id hR
  refine g_aload_n (pc' := 1) B 0 rfl rfl dX11_mill_0 rfl ?_
  refine g_getV (pc' := 4) B b (vr hcb) fl_X11_19 rfl rfl dX11_mill_1 rfl ?_
  refine g_getR (pc' := 7) B (b + 1) fl_X11_121 (ly_S hb) rfl dX11_mill_4 rfl ?_
  refine g_iload_n (pc' := 8) B 1 rfl rfl dX11_mill_7 rfl ?_
  refine g_callVI (pc' := 11) (As := [.int (iI f)]) B (c_X2_hasGap l K _ (g := b + 1) (D := D) (f := f) (by omega) hS.1 hF (by omega)) vt_X2_hasGap tw_674 (ly_G (by omega)) rfl ⟨by decide, by decide⟩ rfl (Nat.le_of_ble_eq_true rfl) ⟨Nat.zero_le _, Nat.zero_le _⟩ rfl dX11_mill_8 rfl (fun z8 τ8 h8 => ?_)
  obtain ⟨rfl, h8⟩ := h8
  rcases h8 with ⟨h8, rfl⟩ | ⟨h8, rfl⟩
  · refine g_if_ne (pc' := 14) B 17 (by omega) dX11_mill_11 (by decide) rfl (fun _ => ?_) (fun q => absurd q (by decide))
    refine g_iload_n (pc' := 18) B 2 rfl rfl dX11_mill_17 rfl ?_
    refine g_iconst (pc' := 19) B dX11_mill_18 rfl ?_
    refine g_iconst (pc' := 20) B dX11_mill_19 rfl ?_
    refine g_callSI (pc' := 23) (As := [.int (iI w), .int (iI 0), .int (iI 2)]) B (c_X11_isOutside l K _ (v := w) (low := 0) (high := 2) (by omega) (by omega) (by omega)) st_X11_isOutside tw_363 ⟨by decide, by decide⟩ rfl (Nat.le_of_ble_eq_true rfl) ⟨Nat.zero_le _, Nat.zero_le _⟩ rfl dX11_mill_20 rfl (fun z20 τ20 h20 => ?_)
    obtain ⟨rfl, h20⟩ := h20
    rcases h20 with ⟨h20, rfl⟩ | ⟨h20, rfl⟩
    · refine g_if_eq (pc' := 26) B 31 (by omega) dX11_mill_23 (by decide) rfl (fun q => absurd q (by decide)) (fun _ => ?_)
      refine g_ldc (z := (-1000000002)) (pc' := 28) B tw_366 (by decide +kernel) dX11_mill_26 rfl ?_
      refine g_goto (pc' := 43) B dX11_mill_28 (by decide) ?_
      exact g_iret (z := (-1000000002)) B hrt rfl hlk dX11_mill_43 ⟨rfl, by unfold qMill; (repeat' split) <;> first | rfl | (exfalso; omega)⟩
    · refine g_if_eq (pc' := 26) B 31 (by omega) dX11_mill_23 (by decide) rfl (fun _ => ?_) (fun q => absurd q (by decide))
      refine g_aload_n (pc' := 32) B 0 rfl rfl dX11_mill_31 rfl ?_
      refine g_getV (pc' := 35) B b (vr hcb) fl_X11_19 rfl rfl dX11_mill_32 rfl ?_
      refine g_getR (pc' := 38) B (b + 1) fl_X11_121 (ly_S hb) rfl dX11_mill_35 rfl ?_
      refine g_iload_n (pc' := 39) B 1 rfl rfl dX11_mill_38 rfl ?_
      refine g_iload_n (pc' := 40) B 2 rfl rfl dX11_mill_39 rfl ?_
      refine g_callVI (pc' := 43) (As := [.int (iI f), .int (iI w)]) B (c_X2_milled l K _ (g := b + 1) (D := D) (f := f) (w := w) (by omega) hS.1 hF (by omega) (by omega) (by omega) hR) vt_X2_milled tw_675 (ly_G (by omega)) rfl ⟨by decide, by decide⟩ rfl (Nat.le_of_ble_eq_true rfl) ⟨Nat.zero_le _, Nat.zero_le _⟩ rfl dX11_mill_40 rfl (fun z40 τ40 h40 => ?_)
      obtain ⟨rfl, rfl⟩ := h40
      exact g_iret (z := ml D f w) B hrt rfl hlk dX11_mill_43 ⟨rfl, by unfold qMill; (repeat' split) <;> first | rfl | (exfalso; omega)⟩
  · refine g_if_ne (pc' := 14) B 17 (by omega) dX11_mill_11 (by decide) rfl (fun q => absurd q (by decide)) (fun _ => ?_)
    refine g_ldc (z := (-1000000001)) (pc' := 16) B tw_533 (by decide +kernel) dX11_mill_14 rfl ?_
    exact g_iret (z := (-1000000001)) B hrt rfl hlk dX11_mill_16 ⟨rfl, by unfold qMill; (repeat' split) <;> first | rfl | (exfalso; omega)⟩
set_option maxRecDepth 100000 in
set_option maxHeartbeats 4000000 in
theorem c_X11_bestMill (l : Launch) (K : WK) (σ : SG) {b : Nat} (hb : b = 3 ∨ b = 17) (hcb : σ 0 1 = ((b : Nat) : Int)) {D : SG} (hS : sD σ b D) (hF : okF D) (hR : okR D) (hO : okQ D) (hH : okH D)  : MI l yX11_bestMill cX11_bestMill 1 (some .int) 6 138 K σ [.ref (K.2.2 0)] (fun z τ => σ = τ ∧ z = (bgS D (D 9 0 - 1).toNat).1) := by
  refine met_of [(0, .ref (K.2.2 0))] (by decide +kernel) (Nat.le_of_ble_eq_true rfl) rfl ?_
  intro pP eE sS mM bW mT cC B hrt hlk
  replace B : CB pP sS mM [.ref (K.2.2 0)].toArray cC cX11_bestMill RX11 1 K := B
  obtain ⟨hF0, hF1⟩ := id hF
  obtain ⟨hO0, hO1⟩ := id hO
  obtain ⟨hH0, hH1⟩ := id hH
  obtain ⟨hR0, hR1⟩ := id hR
  refine g_aload_n (pc' := 1) B 0 rfl rfl dX11_bestMill_0 rfl ?_
  refine g_getV (pc' := 4) B b (vr hcb) fl_X11_19 rfl rfl dX11_bestMill_1 rfl ?_
  refine g_getR (pc' := 7) B (b + 1) fl_X11_121 (ly_S hb) rfl dX11_bestMill_4 rfl ?_
  refine g_callVI (pc' := 10) (As := []) B (c_X2_bestGap l K _ (g := b + 1) (D := D) (by omega) hS.1 hF hR) vt_X2_bestGap tw_686 (ly_G (by omega)) rfl ⟨by decide, by decide⟩ rfl (Nat.le_of_ble_eq_true rfl) ⟨Nat.zero_le _, Nat.zero_le _⟩ rfl dX11_bestMill_7 rfl (fun z7 τ7 h7 => ?_)
  obtain ⟨rfl, rfl⟩ := h7
  exact g_iret (z := (bgS D (D 9 0 - 1).toNat).1) B hrt rfl hlk dX11_bestMill_10 ⟨rfl, rfl⟩
set_option maxRecDepth 100000 in
set_option maxHeartbeats 4000000 in
theorem c_X11_soonest (l : Launch) (K : WK) (σ : SG) {b : Nat} (hb : b = 3 ∨ b = 17) (hcb : σ 0 1 = ((b : Nat) : Int)) {D : SG} (hS : sD σ b D) (hF : okF D) (hR : okR D) (hO : okQ D) (hH : okH D) {S X L P : Int} (hm : σ 31 0 = S ∧ σ 31 1 = X ∧ σ 31 2 = L ∧ σ 31 3 = P) (hSX : 0 ≤ X ∧ X ≤ S ∧ S ≤ 70000) {f g : Int} (hf : -2147483648 ≤ f ∧ f < 2147483648) (hg : -2147483648 ≤ g ∧ g < 2147483648) : MI l yX11_soonest cX11_soonest 3 (some .int) 4 94 K σ [.ref (K.2.2 0), .int (iI f), .int (iI g)] (fun z τ => σ = τ ∧ aSoonest D S f g z) := by
  refine met_of [(0, .ref (K.2.2 0)), (1, .int (iI f)), (2, .int (iI g))] (by decide +kernel) (Nat.le_of_ble_eq_true rfl) rfl ?_
  intro pP eE sS mM bW mT cC B hrt hlk
  replace B : CB pP sS mM [.ref (K.2.2 0), .int (iI f), .int (iI g)].toArray cC cX11_soonest RX11 3 K := B
  obtain ⟨hF0, hF1⟩ := id hF
  obtain ⟨hO0, hO1⟩ := id hO
  obtain ⟨hH0, hH1⟩ := id hH
  obtain ⟨hR0, hR1⟩ := id hR
  refine g_aload_n (pc' := 1) B 0 rfl rfl dX11_soonest_0 rfl ?_
  refine g_getV (pc' := 4) B b (vr hcb) fl_X11_19 rfl rfl dX11_soonest_1 rfl ?_
  refine g_getR (pc' := 7) B (b + 1) fl_X11_121 (ly_S hb) rfl dX11_soonest_4 rfl ?_
  refine g_iload_n (pc' := 8) B 1 rfl rfl dX11_soonest_7 rfl ?_
  refine g_callVI (pc' := 11) (As := [.int (iI f)]) B (c_X2_has l K _ (g := b + 1) (D := D) (f := f) (by omega) hS.1 hF (by omega)) vt_X2_has tw_532 (ly_G (by omega)) rfl ⟨by decide, by decide⟩ rfl (Nat.le_of_ble_eq_true rfl) ⟨Nat.zero_le _, Nat.zero_le _⟩ rfl dX11_soonest_8 rfl (fun z8 τ8 h8 => ?_)
  obtain ⟨rfl, h8⟩ := h8
  rcases h8 with ⟨h8, rfl⟩ | ⟨h8, rfl⟩
  · refine g_if_eq (pc' := 14) B 28 (by omega) dX11_soonest_11 (by decide) rfl (fun q => absurd q (by decide)) (fun _ => ?_)
    refine g_aload_n (pc' := 15) B 0 rfl rfl dX11_soonest_14 rfl ?_
    refine g_getV (pc' := 18) B b (vr hcb) fl_X11_19 rfl rfl dX11_soonest_15 rfl ?_
    refine g_getR (pc' := 21) B (b + 1) fl_X11_121 (ly_S hb) rfl dX11_soonest_18 rfl ?_
    refine g_iload_n (pc' := 22) B 2 rfl rfl dX11_soonest_21 rfl ?_
    refine g_callVI (pc' := 25) (As := [.int (iI g)]) B (c_X2_has l K _ (g := b + 1) (D := D) (f := g) (by omega) hS.1 hF (by omega)) vt_X2_has tw_532 (ly_G (by omega)) rfl ⟨by decide, by decide⟩ rfl (Nat.le_of_ble_eq_true rfl) ⟨Nat.zero_le _, Nat.zero_le _⟩ rfl dX11_soonest_22 rfl (fun z22 τ22 h22 => ?_)
    obtain ⟨rfl, h22⟩ := h22
    rcases h22 with ⟨h22, rfl⟩ | ⟨h22, rfl⟩
    · refine g_if_ne (pc' := 28) B 31 (by omega) dX11_soonest_25 (by decide) rfl (fun _ => ?_) (fun q => absurd q (by decide))
      refine g_aload_n (pc' := 32) B 0 rfl rfl dX11_soonest_31 rfl ?_
      refine g_getR (pc' := 35) B 43 fl_X11_57 rfl rfl dX11_soonest_32 rfl ?_
      refine g_aload_n (pc' := 36) B 0 rfl rfl dX11_soonest_35 rfl ?_
      refine g_getV (pc' := 39) B b (vr hcb) fl_X11_19 rfl rfl dX11_soonest_36 rfl ?_
      refine g_aload_n (pc' := 40) B 0 rfl rfl dX11_soonest_39 rfl ?_
      refine g_getR (pc' := 43) B 31 fl_X11_33 rfl rfl dX11_soonest_40 rfl ?_
      refine g_iload_n (pc' := 44) B 1 rfl rfl dX11_soonest_43 rfl ?_
      refine g_iload_n (pc' := 45) B 2 rfl rfl dX11_soonest_44 rfl ?_
      refine g_callVI (pc' := 48) (As := [.ref (K.2.2 b), .ref (K.2.2 31), .int (iI f), .int (iI g)]) B (c_X3_fewestSteps l K _ (S := S) (X := X) (L := L) (P := P) (b := b) (D := D) (f := f) (g := g) hm hb hS hF hH hO (by omega) (by omega) (by omega) (by omega)) vt_X3_fewestSteps tw_695 rfl rfl ⟨by decide, by decide⟩ rfl (Nat.le_of_ble_eq_true rfl) ⟨Nat.zero_le _, Nat.zero_le _⟩ rfl dX11_soonest_45 rfl (fun z45 τ45 h45 => ?_)
      obtain ⟨rfl, h45⟩ := h45
      exact g_iret (z := z45) B hrt rfl hlk dX11_soonest_48 ⟨rfl, Or.inr ⟨⟨h8, h22⟩, h45⟩⟩
    · refine g_if_ne (pc' := 28) B 31 (by omega) dX11_soonest_25 (by decide) rfl (fun q => absurd q (by decide)) (fun _ => ?_)
      refine g_ldc (z := (-1000000001)) (pc' := 30) B tw_533 (by decide +kernel) dX11_soonest_28 rfl ?_
      exact g_iret (z := (-1000000001)) B hrt rfl hlk dX11_soonest_30 ⟨rfl, Or.inl ⟨by omega, rfl⟩⟩
  · refine g_if_eq (pc' := 14) B 28 (by omega) dX11_soonest_11 (by decide) rfl (fun _ => ?_) (fun q => absurd q (by decide))
    refine g_ldc (z := (-1000000001)) (pc' := 30) B tw_533 (by decide +kernel) dX11_soonest_28 rfl ?_
    exact g_iret (z := (-1000000001)) B hrt rfl hlk dX11_soonest_30 ⟨rfl, Or.inl ⟨by omega, rfl⟩⟩
set_option maxRecDepth 100000 in
set_option maxHeartbeats 4000000 in
theorem c_X11_open (l : Launch) (K : WK) (σ : SG) {b : Nat} (hb : b = 3 ∨ b = 17) (hcb : σ 0 1 = ((b : Nat) : Int)) {D : SG} (hS : sD σ b D) (hF : okF D) (hR : okR D) (hO : okQ D) (hH : okH D) {S X L P : Int} (hm : σ 31 0 = S ∧ σ 31 1 = X ∧ σ 31 2 = L ∧ σ 31 3 = P) (hSX : 0 ≤ X ∧ X ≤ S ∧ S ≤ 70000) {u : Int} (hu : -2147483648 ≤ u ∧ u < 2147483648) : MI l yX11_open cX11_open 2 (some .int) 5 115 K σ [.ref (K.2.2 0), .int (iI u)] (fun z τ => σ = τ ∧ aOpen D S u z) := by
  refine met_of [(0, .ref (K.2.2 0)), (1, .int (iI u))] (by decide +kernel) (Nat.le_of_ble_eq_true rfl) rfl ?_
  intro pP eE sS mM bW mT cC B hrt hlk
  replace B : CB pP sS mM [.ref (K.2.2 0), .int (iI u)].toArray cC cX11_open RX11 2 K := B
  obtain ⟨hF0, hF1⟩ := id hF
  obtain ⟨hO0, hO1⟩ := id hO
  obtain ⟨hH0, hH1⟩ := id hH
  obtain ⟨hR0, hR1⟩ := id hR
  have hp4 := pow4 (k := (D 9 2).toNat) (by omega)
  refine g_aload_n (pc' := 1) B 0 rfl rfl dX11_open_0 rfl ?_
  refine g_getV (pc' := 4) B b (vr hcb) fl_X11_19 rfl rfl dX11_open_1 rfl ?_
  refine g_getR (pc' := 7) B (b + 7) fl_X11_131 (ly_S hb) rfl dX11_open_4 rfl ?_
  refine g_iload_n (pc' := 8) B 1 rfl rfl dX11_open_7 rfl ?_
  refine g_callVI (pc' := 11) (As := [.int (iI u)]) B (c_X6_hasAll l K _ (q := b + 7) (D := D) (u := u) (by omega) hS.2.1 hO (by omega)) vt_X6_hasAll tw_740 (ly_Q (by omega)) rfl ⟨by decide, by decide⟩ rfl (Nat.le_of_ble_eq_true rfl) ⟨Nat.zero_le _, Nat.zero_le _⟩ rfl dX11_open_8 rfl (fun z8 τ8 h8 => ?_)
  obtain ⟨rfl, h8⟩ := h8
  rcases h8 with ⟨h8, rfl⟩ | ⟨h8, rfl⟩
  · refine g_if_eq (pc' := 14) B 35 (by omega) dX11_open_11 (by decide) rfl (fun q => absurd q (by decide)) (fun _ => ?_)
    refine g_aload_n (pc' := 15) B 0 rfl rfl dX11_open_14 rfl ?_
    refine g_getV (pc' := 18) B b (vr hcb) fl_X11_19 rfl rfl dX11_open_15 rfl ?_
    refine g_getR (pc' := 21) B (b + 7) fl_X11_131 (ly_S hb) rfl dX11_open_18 rfl ?_
    refine g_iload_n (pc' := 22) B 1 rfl rfl dX11_open_21 rfl ?_
    refine g_aload_n (pc' := 23) B 0 rfl rfl dX11_open_22 rfl ?_
    refine g_getR (pc' := 26) B 31 fl_X11_33 rfl rfl dX11_open_23 rfl ?_
    refine g_get (pc' := 29) B S hm.1 fl_X11_138 rfl rfl dX11_open_26 rfl ?_
    refine g_callVI (pc' := 32) (As := [.int (iI u), .int (iI S)]) B (c_X6_waitFor l K _ (q := b + 7) (D := D) (u := u) (f := S) (by omega) hS.2.1 hO (by omega) (by omega)) vt_X6_waitFor tw_744 (ly_Q (by omega)) rfl ⟨by decide, by decide⟩ rfl (Nat.le_of_ble_eq_true rfl) ⟨Nat.zero_le _, Nat.zero_le _⟩ rfl dX11_open_29 rfl (fun z29 τ29 h29 => ?_)
    obtain ⟨rfl, h29⟩ := h29
    refine g_goto (pc' := 37) B dX11_open_32 (by decide) ?_
    exact g_iret (z := z29) B hrt rfl hlk dX11_open_37 ⟨rfl, Or.inr ⟨h8, h29⟩⟩
  · refine g_if_eq (pc' := 14) B 35 (by omega) dX11_open_11 (by decide) rfl (fun _ => ?_) (fun q => absurd q (by decide))
    refine g_ldc (z := (-1000000001)) (pc' := 37) B tw_533 (by decide +kernel) dX11_open_35 rfl ?_
    exact g_iret (z := (-1000000001)) B hrt rfl hlk dX11_open_37 ⟨rfl, Or.inl ⟨h8, rfl⟩⟩
set_option maxRecDepth 100000 in
set_option maxHeartbeats 4000000 in
theorem c_X11_longest (l : Launch) (K : WK) (σ : SG) {b : Nat} (hb : b = 3 ∨ b = 17) (hcb : σ 0 1 = ((b : Nat) : Int)) {D : SG} (hS : sD σ b D) (hF : okF D) (hR : okR D) (hO : okQ D) (hH : okH D) {u : Int} (hu : -2147483648 ≤ u ∧ u < 2147483648) : MI l yX11_longest cX11_longest 2 (some .int) 5 115 K σ [.ref (K.2.2 0), .int (iI u)] (fun z τ => σ = τ ∧ aLongest D u z) := by
  refine met_of [(0, .ref (K.2.2 0)), (1, .int (iI u))] (by decide +kernel) (Nat.le_of_ble_eq_true rfl) rfl ?_
  intro pP eE sS mM bW mT cC B hrt hlk
  replace B : CB pP sS mM [.ref (K.2.2 0), .int (iI u)].toArray cC cX11_longest RX11 2 K := B
  obtain ⟨hF0, hF1⟩ := id hF
  obtain ⟨hO0, hO1⟩ := id hO
  obtain ⟨hH0, hH1⟩ := id hH
  obtain ⟨hR0, hR1⟩ := id hR
  have hp4 := pow4 (k := (D 9 2).toNat) (by omega)
  refine g_aload_n (pc' := 1) B 0 rfl rfl dX11_longest_0 rfl ?_
  refine g_getV (pc' := 4) B b (vr hcb) fl_X11_19 rfl rfl dX11_longest_1 rfl ?_
  refine g_getR (pc' := 7) B (b + 7) fl_X11_131 (ly_S hb) rfl dX11_longest_4 rfl ?_
  refine g_iload_n (pc' := 8) B 1 rfl rfl dX11_longest_7 rfl ?_
  refine g_callVI (pc' := 11) (As := [.int (iI u)]) B (c_X6_hasAll l K _ (q := b + 7) (D := D) (u := u) (by omega) hS.2.1 hO (by omega)) vt_X6_hasAll tw_740 (ly_Q (by omega)) rfl ⟨by decide, by decide⟩ rfl (Nat.le_of_ble_eq_true rfl) ⟨Nat.zero_le _, Nat.zero_le _⟩ rfl dX11_longest_8 rfl (fun z8 τ8 h8 => ?_)
  obtain ⟨rfl, h8⟩ := h8
  rcases h8 with ⟨h8, rfl⟩ | ⟨h8, rfl⟩
  · refine g_if_eq (pc' := 14) B 28 (by omega) dX11_longest_11 (by decide) rfl (fun q => absurd q (by decide)) (fun _ => ?_)
    refine g_aload_n (pc' := 15) B 0 rfl rfl dX11_longest_14 rfl ?_
    refine g_getV (pc' := 18) B b (vr hcb) fl_X11_19 rfl rfl dX11_longest_15 rfl ?_
    refine g_getR (pc' := 21) B (b + 7) fl_X11_131 (ly_S hb) rfl dX11_longest_18 rfl ?_
    refine g_iload_n (pc' := 22) B 1 rfl rfl dX11_longest_21 rfl ?_
    refine g_callVI (pc' := 25) (As := [.int (iI u)]) B (c_X6_longestRun l K _ (q := b + 7) (D := D) (u := u) (by omega) hS.2.1 hO (by omega)) vt_X6_longestRun tw_765 (ly_Q (by omega)) rfl ⟨by decide, by decide⟩ rfl (Nat.le_of_ble_eq_true rfl) ⟨Nat.zero_le _, Nat.zero_le _⟩ rfl dX11_longest_22 rfl (fun z22 τ22 h22 => ?_)
    obtain ⟨rfl, h22⟩ := h22
    refine g_goto (pc' := 30) B dX11_longest_25 (by decide) ?_
    exact g_iret (z := z22) B hrt rfl hlk dX11_longest_30 ⟨rfl, Or.inr ⟨h8, h22⟩⟩
  · refine g_if_eq (pc' := 14) B 28 (by omega) dX11_longest_11 (by decide) rfl (fun _ => ?_) (fun q => absurd q (by decide))
    refine g_ldc (z := (-1000000001)) (pc' := 30) B tw_533 (by decide +kernel) dX11_longest_28 rfl ?_
    exact g_iret (z := (-1000000001)) B hrt rfl hlk dX11_longest_30 ⟨rfl, Or.inl ⟨h8, rfl⟩⟩
set_option maxRecDepth 100000 in
set_option maxHeartbeats 4000000 in
theorem c_X11_cellars (l : Launch) (K : WK) (σ : SG) {b : Nat} (hb : b = 3 ∨ b = 17) (hcb : σ 0 1 = ((b : Nat) : Int)) {D : SG} (hS : sD σ b D) (hF : okF D) (hR : okR D) (hO : okQ D) (hH : okH D) {S X L P : Int} (hm : σ 31 0 = S ∧ σ 31 1 = X ∧ σ 31 2 = L ∧ σ 31 3 = P) (hSX : 0 ≤ X ∧ X ≤ S ∧ S ≤ 70000) {v n : Int} (hv : -2147483648 ≤ v ∧ v < 2147483648) (hn : -2147483648 ≤ n ∧ n < 2147483648) : MI l yX11_cellars cX11_cellars 3 (some .int) 4 92 K σ [.ref (K.2.2 0), .int (iI v), .int (iI n)] (fun z τ => σ = τ ∧ z = qCellars D X v n) := by
  refine met_of [(0, .ref (K.2.2 0)), (1, .int (iI v)), (2, .int (iI n))] (by decide +kernel) (Nat.le_of_ble_eq_true rfl) rfl ?_
  intro pP eE sS mM bW mT cC B hrt hlk
  replace B : CB pP sS mM [.ref (K.2.2 0), .int (iI v), .int (iI n)].toArray cC cX11_cellars RX11 3 K := B
  obtain ⟨hF0, hF1⟩ := id hF
  obtain ⟨hO0, hO1⟩ := id hO
  obtain ⟨hH0, hH1⟩ := id hH
  obtain ⟨hR0, hR1⟩ := id hR
  refine g_iload_n (pc' := 1) B 1 rfl rfl dX11_cellars_0 rfl ?_
  refine g_iconst (pc' := 2) B dX11_cellars_1 rfl ?_
  refine g_sipush (pc' := 5) B (by decide +kernel) dX11_cellars_2 rfl ?_
  refine g_callSI (pc' := 8) (As := [.int (iI v), .int (iI 0), .int (iI 999)]) B (c_X11_isOutside l K _ (v := v) (low := 0) (high := 999) (by omega) (by omega) (by omega)) st_X11_isOutside tw_363 ⟨by decide, by decide⟩ rfl (Nat.le_of_ble_eq_true rfl) ⟨Nat.zero_le _, Nat.zero_le _⟩ rfl dX11_cellars_5 rfl (fun z5 τ5 h5 => ?_)
  obtain ⟨rfl, h5⟩ := h5
  rcases h5 with ⟨h5, rfl⟩ | ⟨h5, rfl⟩
  · refine g_if_ne (pc' := 11) B 21 (by omega) dX11_cellars_8 (by decide) rfl (fun _ => ?_) (fun q => absurd q (by decide))
    refine g_ldc (z := (-1000000002)) (pc' := 23) B tw_366 (by decide +kernel) dX11_cellars_21 rfl ?_
    exact g_iret (z := (-1000000002)) B hrt rfl hlk dX11_cellars_23 ⟨rfl, by unfold qCellars; (repeat' split) <;> first | rfl | (exfalso; omega)⟩
  · refine g_if_ne (pc' := 11) B 21 (by omega) dX11_cellars_8 (by decide) rfl (fun q => absurd q (by decide)) (fun _ => ?_)
    refine g_iload_n (pc' := 12) B 2 rfl rfl dX11_cellars_11 rfl ?_
    refine g_iconst (pc' := 13) B dX11_cellars_12 rfl ?_
    refine g_bipush (pc' := 15) B (by decide +kernel) dX11_cellars_13 rfl ?_
    refine g_callSI (pc' := 18) (As := [.int (iI n), .int (iI 1), .int (iI 40)]) B (c_X11_isOutside l K _ (v := n) (low := 1) (high := 40) (by omega) (by omega) (by omega)) st_X11_isOutside tw_363 ⟨by decide, by decide⟩ rfl (Nat.le_of_ble_eq_true rfl) ⟨Nat.zero_le _, Nat.zero_le _⟩ rfl dX11_cellars_15 rfl (fun z15 τ15 h15 => ?_)
    obtain ⟨rfl, h15⟩ := h15
    rcases h15 with ⟨h15, rfl⟩ | ⟨h15, rfl⟩
    · refine g_if_eq (pc' := 21) B 24 (by omega) dX11_cellars_18 (by decide) rfl (fun q => absurd q (by decide)) (fun _ => ?_)
      refine g_ldc (z := (-1000000002)) (pc' := 23) B tw_366 (by decide +kernel) dX11_cellars_21 rfl ?_
      exact g_iret (z := (-1000000002)) B hrt rfl hlk dX11_cellars_23 ⟨rfl, by unfold qCellars; (repeat' split) <;> first | rfl | (exfalso; omega)⟩
    · refine g_if_eq (pc' := 21) B 24 (by omega) dX11_cellars_18 (by decide) rfl (fun _ => ?_) (fun q => absurd q (by decide))
      refine g_aload_n (pc' := 25) B 0 rfl rfl dX11_cellars_24 rfl ?_
      refine g_getV (pc' := 28) B b (vr hcb) fl_X11_19 rfl rfl dX11_cellars_25 rfl ?_
      refine g_getR (pc' := 31) B (b + 1) fl_X11_121 (ly_S hb) rfl dX11_cellars_28 rfl ?_
      refine g_iload_n (pc' := 32) B 1 rfl rfl dX11_cellars_31 rfl ?_
      refine g_aload_n (pc' := 33) B 0 rfl rfl dX11_cellars_32 rfl ?_
      refine g_getR (pc' := 36) B 31 fl_X11_33 rfl rfl dX11_cellars_33 rfl ?_
      refine g_get (pc' := 39) B X hm.2.1 fl_X11_141 rfl rfl dX11_cellars_36 rfl ?_
      refine g_iload_n (pc' := 40) B 2 rfl rfl dX11_cellars_39 rfl ?_
      refine g_callVI (pc' := 43) (As := [.int (iI v), .int (iI X), .int (iI n)]) B (c_X2_flooded l K _ (g := b + 1) (D := D) (v := v) (x := X) (n := n) (by omega) hS.1 hF (by omega) (by omega) (by omega)) vt_X2_flooded tw_838 (ly_G (by omega)) rfl ⟨by decide, by decide⟩ rfl (Nat.le_of_ble_eq_true rfl) ⟨Nat.zero_le _, Nat.zero_le _⟩ rfl dX11_cellars_40 rfl (fun z40 τ40 h40 => ?_)
      obtain ⟨rfl, rfl⟩ := h40
      exact g_iret (z := fs D v X n.toNat (D 9 0).toNat) B hrt rfl hlk dX11_cellars_43 ⟨rfl, by unfold qCellars; (repeat' split) <;> first | rfl | (exfalso; omega)⟩
set_option maxRecDepth 100000 in
set_option maxHeartbeats 4000000 in
theorem c_X11_sluices (l : Launch) (K : WK) (σ : SG) {b : Nat} (hb : b = 3 ∨ b = 17) (hcb : σ 0 1 = ((b : Nat) : Int)) {D : SG} (hS : sD σ b D) (hF : okF D) (hR : okR D) (hO : okQ D) (hH : okH D) {S X L P : Int} (hm : σ 31 0 = S ∧ σ 31 1 = X ∧ σ 31 2 = L ∧ σ 31 3 = P) (hSX : 0 ≤ X ∧ X ≤ S ∧ S ≤ 70000) {v n w : Int} (hv : -2147483648 ≤ v ∧ v < 2147483648) (hn : -2147483648 ≤ n ∧ n < 2147483648) (hw : -2147483648 ≤ w ∧ w < 2147483648) : MI l yX11_sluices cX11_sluices 5 (some .int) 4 92 K σ [.ref (K.2.2 0), .int (iI v), .int (iI n), .int (iI w)] (fun z τ => σ = τ ∧ z = qSluices D X v n w) := by
  refine met_of [(0, .ref (K.2.2 0)), (1, .int (iI v)), (2, .int (iI n)), (3, .int (iI w))] (by decide +kernel) (Nat.le_of_ble_eq_true rfl) rfl ?_
  intro pP eE sS mM bW mT cC B hrt hlk
  replace B : CB pP sS mM [.ref (K.2.2 0), .int (iI v), .int (iI n), .int (iI w)].toArray cC cX11_sluices RX11 5 K := B
  obtain ⟨hF0, hF1⟩ := id hF
  obtain ⟨hO0, hO1⟩ := id hO
  obtain ⟨hH0, hH1⟩ := id hH
  obtain ⟨hR0, hR1⟩ := id hR
  refine g_iload_n (pc' := 1) B 1 rfl rfl dX11_sluices_0 rfl ?_
  refine g_iconst (pc' := 2) B dX11_sluices_1 rfl ?_
  refine g_sipush (pc' := 5) B (by decide +kernel) dX11_sluices_2 rfl ?_
  refine g_callSI (pc' := 8) (As := [.int (iI v), .int (iI 0), .int (iI 999)]) B (c_X11_isOutside l K _ (v := v) (low := 0) (high := 999) (by omega) (by omega) (by omega)) st_X11_isOutside tw_363 ⟨by decide, by decide⟩ rfl (Nat.le_of_ble_eq_true rfl) ⟨Nat.zero_le _, Nat.zero_le _⟩ rfl dX11_sluices_5 rfl (fun z5 τ5 h5 => ?_)
  obtain ⟨rfl, h5⟩ := h5
  rcases h5 with ⟨h5, rfl⟩ | ⟨h5, rfl⟩
  · refine g_if_ne (pc' := 11) B 30 (by omega) dX11_sluices_8 (by decide) rfl (fun _ => ?_) (fun q => absurd q (by decide))
    refine g_ldc (z := (-1000000002)) (pc' := 32) B tw_366 (by decide +kernel) dX11_sluices_30 rfl ?_
    exact g_iret (z := (-1000000002)) B hrt rfl hlk dX11_sluices_32 ⟨rfl, by unfold qSluices; (repeat' split) <;> first | rfl | (exfalso; omega)⟩
  · refine g_if_ne (pc' := 11) B 30 (by omega) dX11_sluices_8 (by decide) rfl (fun q => absurd q (by decide)) (fun _ => ?_)
    refine g_iload_n (pc' := 12) B 2 rfl rfl dX11_sluices_11 rfl ?_
    refine g_iconst (pc' := 13) B dX11_sluices_12 rfl ?_
    refine g_bipush (pc' := 15) B (by decide +kernel) dX11_sluices_13 rfl ?_
    refine g_callSI (pc' := 18) (As := [.int (iI n), .int (iI 1), .int (iI 40)]) B (c_X11_isOutside l K _ (v := n) (low := 1) (high := 40) (by omega) (by omega) (by omega)) st_X11_isOutside tw_363 ⟨by decide, by decide⟩ rfl (Nat.le_of_ble_eq_true rfl) ⟨Nat.zero_le _, Nat.zero_le _⟩ rfl dX11_sluices_15 rfl (fun z15 τ15 h15 => ?_)
    obtain ⟨rfl, h15⟩ := h15
    rcases h15 with ⟨h15, rfl⟩ | ⟨h15, rfl⟩
    · refine g_if_ne (pc' := 21) B 30 (by omega) dX11_sluices_18 (by decide) rfl (fun _ => ?_) (fun q => absurd q (by decide))
      refine g_ldc (z := (-1000000002)) (pc' := 32) B tw_366 (by decide +kernel) dX11_sluices_30 rfl ?_
      exact g_iret (z := (-1000000002)) B hrt rfl hlk dX11_sluices_32 ⟨rfl, by unfold qSluices; (repeat' split) <;> first | rfl | (exfalso; omega)⟩
    · refine g_if_ne (pc' := 21) B 30 (by omega) dX11_sluices_18 (by decide) rfl (fun q => absurd q (by decide)) (fun _ => ?_)
      refine g_iload_n (pc' := 22) B 3 rfl rfl dX11_sluices_21 rfl ?_
      refine g_iconst (pc' := 23) B dX11_sluices_22 rfl ?_
      refine g_iconst (pc' := 24) B dX11_sluices_23 rfl ?_
      refine g_callSI (pc' := 27) (As := [.int (iI w), .int (iI 0), .int (iI 1)]) B (c_X11_isOutside l K _ (v := w) (low := 0) (high := 1) (by omega) (by omega) (by omega)) st_X11_isOutside tw_363 ⟨by decide, by decide⟩ rfl (Nat.le_of_ble_eq_true rfl) ⟨Nat.zero_le _, Nat.zero_le _⟩ rfl dX11_sluices_24 rfl (fun z24 τ24 h24 => ?_)
      obtain ⟨rfl, h24⟩ := h24
      rcases h24 with ⟨h24, rfl⟩ | ⟨h24, rfl⟩
      · refine g_if_eq (pc' := 30) B 33 (by omega) dX11_sluices_27 (by decide) rfl (fun q => absurd q (by decide)) (fun _ => ?_)
        refine g_ldc (z := (-1000000002)) (pc' := 32) B tw_366 (by decide +kernel) dX11_sluices_30 rfl ?_
        exact g_iret (z := (-1000000002)) B hrt rfl hlk dX11_sluices_32 ⟨rfl, by unfold qSluices; (repeat' split) <;> first | rfl | (exfalso; omega)⟩
      · refine g_if_eq (pc' := 30) B 33 (by omega) dX11_sluices_27 (by decide) rfl (fun _ => ?_) (fun q => absurd q (by decide))
        refine g_aload_n (pc' := 34) B 0 rfl rfl dX11_sluices_33 rfl ?_
        refine g_getV (pc' := 37) B b (vr hcb) fl_X11_19 rfl rfl dX11_sluices_34 rfl ?_
        refine g_getR (pc' := 40) B (b + 1) fl_X11_121 (ly_S hb) rfl dX11_sluices_37 rfl ?_
        refine g_aload_n (pc' := 41) B 0 rfl rfl dX11_sluices_40 rfl ?_
        refine g_getV (pc' := 44) B b (vr hcb) fl_X11_19 rfl rfl dX11_sluices_41 rfl ?_
        refine g_getR (pc' := 47) B (b + 1) fl_X11_121 (ly_S hb) rfl dX11_sluices_44 rfl ?_
        refine g_iload_n (pc' := 48) B 1 rfl rfl dX11_sluices_47 rfl ?_
        refine g_aload_n (pc' := 49) B 0 rfl rfl dX11_sluices_48 rfl ?_
        refine g_getR (pc' := 52) B 31 fl_X11_33 rfl rfl dX11_sluices_49 rfl ?_
        refine g_get (pc' := 55) B X hm.2.1 fl_X11_141 rfl rfl dX11_sluices_52 rfl ?_
        refine g_iload_n (pc' := 56) B 2 rfl rfl dX11_sluices_55 rfl ?_
        refine g_callVI (pc' := 59) (As := [.int (iI v), .int (iI X), .int (iI n)]) B (c_X2_flooded l K _ (g := b + 1) (D := D) (v := v) (x := X) (n := n) (by omega) hS.1 hF (by omega) (by omega) (by omega)) vt_X2_flooded tw_838 (ly_G (by omega)) rfl ⟨by decide, by decide⟩ rfl (Nat.le_of_ble_eq_true rfl) ⟨Nat.zero_le _, Nat.zero_le _⟩ rfl dX11_sluices_56 rfl (fun z56 τ56 h56 => ?_)
        obtain ⟨rfl, rfl⟩ := h56
        have h256 := fs_256 D v X n.toNat (k := (D 9 0).toNat) (by omega)
        refine g_callVI (pc' := 62) (As := [.int (iI (fs D v X n.toNat (D 9 0).toNat))]) B (c_X2_fewestSluices l K _ (g := b + 1) (D := D) (w := fs D v X n.toNat (D 9 0).toNat) (by omega) hS.1 hF (by omega)) vt_X2_fewestSluices tw_846 (ly_G (by omega)) rfl ⟨by decide, by decide⟩ rfl (Nat.le_of_ble_eq_true rfl) ⟨Nat.zero_le _, Nat.zero_le _⟩ rfl dX11_sluices_59 rfl (fun z59 τ59 h59 => ?_)
        obtain ⟨rfl, rfl⟩ := h59
        refine g_istore (pc' := 64) B [(4, .int (iI (bs (fs D v X n.toNat (D 9 0).toNat) ((2 : Int) ^ gps D).toNat))), (0, .ref (K.2.2 0)), (1, .int (iI v)), (2, .int (iI n)), (3, .int (iI w))] dX11_sluices_62 rfl (by decide) rfl ?_
        have hbs := bs_bd (fs D v X n.toNat (D 9 0).toNat) ((2 : Int) ^ gps D).toNat
        have hp7 := pow_le7 (k := gps D) (by unfold gps; omega)
        refine g_iload (pc' := 66) B 0 rfl dX11_sluices_64 rfl ?_
        refine g_iconst (pc' := 67) B dX11_sluices_66 rfl ?_
        refine g_icmp_ne (pc' := 70) B 72 (by omega) (by omega) dX11_sluices_67 (by decide) rfl (fun c67 => ?_) (fun c67 => ?_)
        · refine g_iload_n (pc' := 73) B 4 rfl rfl dX11_sluices_72 rfl ?_
          refine g_if_ne (pc' := 76) B 84 (by omega) dX11_sluices_73 (by decide) rfl (fun c73 => ?_) (fun c73 => ?_)
          · refine g_iload (pc' := 86) B 0 rfl dX11_sluices_84 rfl ?_
            exact g_iret (z := bs (fs D v X n.toNat (D 9 0).toNat) ((2 : Int) ^ gps D).toNat) B hrt rfl hlk dX11_sluices_86 ⟨rfl, by unfold qSluices; (repeat' split) <;> first | rfl | (exfalso; omega)⟩
          · refine g_iload (pc' := 78) B 0 rfl dX11_sluices_76 rfl ?_
            refine g_callSI (pc' := 81) (As := [.int (iI (bs (fs D v X n.toNat (D 9 0).toNat) ((2 : Int) ^ gps D).toNat))]) B (c_J6_bitCount_0f7a4 l K _ (v := bs (fs D v X n.toNat (D 9 0).toNat) ((2 : Int) ^ gps D).toNat) (by omega)) st_J6_bitCount_0f7a4 tw_857 ⟨by decide, by decide⟩ rfl (Nat.le_of_ble_eq_true rfl) ⟨Nat.zero_le _, Nat.zero_le _⟩ rfl dX11_sluices_78 rfl (fun z78 τ78 h78 => ?_)
            obtain ⟨rfl, rfl⟩ := h78
            refine g_goto (pc' := 86) B dX11_sluices_81 (by decide) ?_
            exact g_iret (z := pcn (bs (fs D v X n.toNat (D 9 0).toNat) ((2 : Int) ^ gps D).toNat)) B hrt rfl hlk dX11_sluices_86 ⟨rfl, by unfold qSluices; (repeat' split) <;> first | rfl | (exfalso; omega)⟩
        · refine g_iconst (pc' := 71) B dX11_sluices_70 rfl ?_
          exact g_iret (z := (-1)) B hrt rfl hlk dX11_sluices_71 ⟨rfl, by unfold qSluices; (repeat' split) <;> first | rfl | (exfalso; omega)⟩
set_option maxRecDepth 100000 in
set_option maxHeartbeats 4000000 in
theorem c_X11_odds (l : Launch) (K : WK) (σ : SG) {b : Nat} (hb : b = 3 ∨ b = 17) (hcb : σ 0 1 = ((b : Nat) : Int)) {D : SG} (hS : sD σ b D) (hF : okF D) (hR : okR D) (hO : okQ D) (hH : okH D) {S X L P : Int} (hm : σ 31 0 = S ∧ σ 31 1 = X ∧ σ 31 2 = L ∧ σ 31 3 = P) (hSX : 0 ≤ X ∧ X ≤ S ∧ S ≤ 70000) {f v n q : Int} (hf : -2147483648 ≤ f ∧ f < 2147483648) (hv : -2147483648 ≤ v ∧ v < 2147483648) (hn : -2147483648 ≤ n ∧ n < 2147483648) (hq : -2147483648 ≤ q ∧ q < 2147483648) : MI l yX11_odds cX11_odds 5 (some .int) 4 95 K σ [.ref (K.2.2 0), .int (iI f), .int (iI v), .int (iI n), .int (iI q)] (fun z τ => (∀ k, k ≠ b + 6 → τ k = σ k) ∧ z = qOdds D X f v n q) := by
  refine met_of [(0, .ref (K.2.2 0)), (1, .int (iI f)), (2, .int (iI v)), (3, .int (iI n)), (4, .int (iI q))] (by decide +kernel) (Nat.le_of_ble_eq_true rfl) rfl ?_
  intro pP eE sS mM bW mT cC B hrt hlk
  replace B : CB pP sS mM [.ref (K.2.2 0), .int (iI f), .int (iI v), .int (iI n), .int (iI q)].toArray cC cX11_odds RX11 5 K := B
  obtain ⟨hF0, hF1⟩ := id hF
  obtain ⟨hO0, hO1⟩ := id hO
  obtain ⟨hH0, hH1⟩ := id hH
  obtain ⟨hR0, hR1⟩ := id hR
  refine g_aload_n (pc' := 1) B 0 rfl rfl dX11_odds_0 rfl ?_
  refine g_getV (pc' := 4) B b (vr hcb) fl_X11_19 rfl rfl dX11_odds_1 rfl ?_
  refine g_getR (pc' := 7) B (b + 1) fl_X11_121 (ly_S hb) rfl dX11_odds_4 rfl ?_
  refine g_iload_n (pc' := 8) B 1 rfl rfl dX11_odds_7 rfl ?_
  refine g_callVI (pc' := 11) (As := [.int (iI f)]) B (c_X2_has l K _ (g := b + 1) (D := D) (f := f) (by omega) hS.1 hF (by omega)) vt_X2_has tw_532 (ly_G (by omega)) rfl ⟨by decide, by decide⟩ rfl (Nat.le_of_ble_eq_true rfl) ⟨Nat.zero_le _, Nat.zero_le _⟩ rfl dX11_odds_8 rfl (fun z8 τ8 h8 => ?_)
  obtain ⟨rfl, h8⟩ := h8
  rcases h8 with ⟨h8, rfl⟩ | ⟨h8, rfl⟩
  · refine g_if_ne (pc' := 14) B 17 (by omega) dX11_odds_11 (by decide) rfl (fun _ => ?_) (fun q => absurd q (by decide))
    refine g_iload_n (pc' := 18) B 2 rfl rfl dX11_odds_17 rfl ?_
    refine g_iconst (pc' := 19) B dX11_odds_18 rfl ?_
    refine g_sipush (pc' := 22) B (by decide +kernel) dX11_odds_19 rfl ?_
    refine g_callSI (pc' := 25) (As := [.int (iI v), .int (iI 0), .int (iI 999)]) B (c_X11_isOutside l K _ (v := v) (low := 0) (high := 999) (by omega) (by omega) (by omega)) st_X11_isOutside tw_363 ⟨by decide, by decide⟩ rfl (Nat.le_of_ble_eq_true rfl) ⟨Nat.zero_le _, Nat.zero_le _⟩ rfl dX11_odds_22 rfl (fun z22 τ22 h22 => ?_)
    obtain ⟨rfl, h22⟩ := h22
    rcases h22 with ⟨h22, rfl⟩ | ⟨h22, rfl⟩
    · refine g_if_ne (pc' := 28) B 49 (by omega) dX11_odds_25 (by decide) rfl (fun _ => ?_) (fun q => absurd q (by decide))
      refine g_ldc (z := (-1000000002)) (pc' := 51) B tw_366 (by decide +kernel) dX11_odds_49 rfl ?_
      exact g_iret (z := (-1000000002)) B hrt rfl hlk dX11_odds_51 ⟨fun k _ => rfl, by unfold qOdds; (repeat' split) <;> first | rfl | (exfalso; omega)⟩
    · refine g_if_ne (pc' := 28) B 49 (by omega) dX11_odds_25 (by decide) rfl (fun q => absurd q (by decide)) (fun _ => ?_)
      refine g_iload_n (pc' := 29) B 3 rfl rfl dX11_odds_28 rfl ?_
      refine g_iconst (pc' := 30) B dX11_odds_29 rfl ?_
      refine g_bipush (pc' := 32) B (by decide +kernel) dX11_odds_30 rfl ?_
      refine g_callSI (pc' := 35) (As := [.int (iI n), .int (iI 1), .int (iI 20)]) B (c_X11_isOutside l K _ (v := n) (low := 1) (high := 20) (by omega) (by omega) (by omega)) st_X11_isOutside tw_363 ⟨by decide, by decide⟩ rfl (Nat.le_of_ble_eq_true rfl) ⟨Nat.zero_le _, Nat.zero_le _⟩ rfl dX11_odds_32 rfl (fun z32 τ32 h32 => ?_)
      obtain ⟨rfl, h32⟩ := h32
      rcases h32 with ⟨h32, rfl⟩ | ⟨h32, rfl⟩
      · refine g_if_ne (pc' := 38) B 49 (by omega) dX11_odds_35 (by decide) rfl (fun _ => ?_) (fun q => absurd q (by decide))
        refine g_ldc (z := (-1000000002)) (pc' := 51) B tw_366 (by decide +kernel) dX11_odds_49 rfl ?_
        exact g_iret (z := (-1000000002)) B hrt rfl hlk dX11_odds_51 ⟨fun k _ => rfl, by unfold qOdds; (repeat' split) <;> first | rfl | (exfalso; omega)⟩
      · refine g_if_ne (pc' := 38) B 49 (by omega) dX11_odds_35 (by decide) rfl (fun q => absurd q (by decide)) (fun _ => ?_)
        refine g_iload (pc' := 40) B 4 rfl dX11_odds_38 rfl ?_
        refine g_iconst (pc' := 41) B dX11_odds_40 rfl ?_
        refine g_bipush (pc' := 43) B (by decide +kernel) dX11_odds_41 rfl ?_
        refine g_callSI (pc' := 46) (As := [.int (iI q), .int (iI 0), .int (iI 100)]) B (c_X11_isOutside l K _ (v := q) (low := 0) (high := 100) (by omega) (by omega) (by omega)) st_X11_isOutside tw_363 ⟨by decide, by decide⟩ rfl (Nat.le_of_ble_eq_true rfl) ⟨Nat.zero_le _, Nat.zero_le _⟩ rfl dX11_odds_43 rfl (fun z43 τ43 h43 => ?_)
        obtain ⟨rfl, h43⟩ := h43
        rcases h43 with ⟨h43, rfl⟩ | ⟨h43, rfl⟩
        · refine g_if_eq (pc' := 49) B 52 (by omega) dX11_odds_46 (by decide) rfl (fun q => absurd q (by decide)) (fun _ => ?_)
          refine g_ldc (z := (-1000000002)) (pc' := 51) B tw_366 (by decide +kernel) dX11_odds_49 rfl ?_
          exact g_iret (z := (-1000000002)) B hrt rfl hlk dX11_odds_51 ⟨fun k _ => rfl, by unfold qOdds; (repeat' split) <;> first | rfl | (exfalso; omega)⟩
        · refine g_if_eq (pc' := 49) B 52 (by omega) dX11_odds_46 (by decide) rfl (fun _ => ?_) (fun q => absurd q (by decide))
          refine g_aload_n (pc' := 53) B 0 rfl rfl dX11_odds_52 rfl ?_
          refine g_getV (pc' := 56) B b (vr hcb) fl_X11_19 rfl rfl dX11_odds_53 rfl ?_
          refine g_getR (pc' := 59) B (b + 1) fl_X11_121 (ly_S hb) rfl dX11_odds_56 rfl ?_
          refine g_iload_n (pc' := 60) B 1 rfl rfl dX11_odds_59 rfl ?_
          refine g_iload_n (pc' := 61) B 2 rfl rfl dX11_odds_60 rfl ?_
          refine g_aload_n (pc' := 62) B 0 rfl rfl dX11_odds_61 rfl ?_
          refine g_getR (pc' := 65) B 31 fl_X11_33 rfl rfl dX11_odds_62 rfl ?_
          refine g_get (pc' := 68) B X hm.2.1 fl_X11_141 rfl rfl dX11_odds_65 rfl ?_
          refine g_iload_n (pc' := 69) B 3 rfl rfl dX11_odds_68 rfl ?_
          refine g_iload (pc' := 71) B 4 rfl dX11_odds_69 rfl ?_
          refine g_callVI (pc' := 74) (As := [.int (iI f), .int (iI v), .int (iI X), .int (iI n), .int (iI q)]) B (c_X2_chanceOf l K _ (g := b + 1) (D := D) (f := f) (v := v) (x := X) (n := n) (q := q) (by omega) hS.1 hF (by omega) (by omega) (by omega) (by omega) (by omega) (by omega)) vt_X2_chanceOf tw_862 (ly_G (by omega)) rfl ⟨by decide, by decide⟩ rfl (Nat.le_of_ble_eq_true rfl) ⟨Nat.zero_le _, Nat.zero_le _⟩ rfl dX11_odds_71 rfl (fun z71 τ71 h71 => ?_)
          obtain ⟨h71a, h71b⟩ := h71
          exact g_iret (z := z71) B hrt rfl hlk dX11_odds_74 ⟨h71a, by rw [h71b]; unfold qOdds; (repeat' split) <;> first | rfl | (exfalso; omega)⟩
  · refine g_if_ne (pc' := 14) B 17 (by omega) dX11_odds_11 (by decide) rfl (fun q => absurd q (by decide)) (fun _ => ?_)
    refine g_ldc (z := (-1000000001)) (pc' := 16) B tw_533 (by decide +kernel) dX11_odds_14 rfl ?_
    exact g_iret (z := (-1000000001)) B hrt rfl hlk dX11_odds_16 ⟨fun k _ => rfl, by unfold qOdds; (repeat' split) <;> first | rfl | (exfalso; omega)⟩
set_option maxRecDepth 100000 in
set_option maxHeartbeats 4000000 in
theorem c_X11_least (l : Launch) (K : WK) (σ : SG) {b : Nat} (hb : b = 3 ∨ b = 17) (hcb : σ 0 1 = ((b : Nat) : Int)) {D : SG} (hS : sD σ b D) (hF : okF D) (hR : okR D) (hO : okQ D) (hH : okH D) {S X L P : Int} (hm : σ 31 0 = S ∧ σ 31 1 = X ∧ σ 31 2 = L ∧ σ 31 3 = P) (hSX : 0 ≤ X ∧ X ≤ S ∧ S ≤ 70000) {f g n i : Int} (hf : -2147483648 ≤ f ∧ f < 2147483648) (hg : -2147483648 ≤ g ∧ g < 2147483648) (hn : -2147483648 ≤ n ∧ n < 2147483648) (hi : -2147483648 ≤ i ∧ i < 2147483648) : MI l yX11_least cX11_least 5 (some .int) 7 169 K σ [.ref (K.2.2 0), .int (iI f), .int (iI g), .int (iI n), .int (iI i)] (fun z τ => (∀ k, k ≠ 43 → k ≠ 44 → τ k = σ k) ∧ z = qLeast D S X f g n i) := by
  refine met_of [(0, .ref (K.2.2 0)), (1, .int (iI f)), (2, .int (iI g)), (3, .int (iI n)), (4, .int (iI i))] (by decide +kernel) (Nat.le_of_ble_eq_true rfl) rfl ?_
  intro pP eE sS mM bW mT cC B hrt hlk
  replace B : CB pP sS mM [.ref (K.2.2 0), .int (iI f), .int (iI g), .int (iI n), .int (iI i)].toArray cC cX11_least RX11 5 K := B
  obtain ⟨hF0, hF1⟩ := id hF
  obtain ⟨hO0, hO1⟩ := id hO
  obtain ⟨hH0, hH1⟩ := id hH
  obtain ⟨hR0, hR1⟩ := id hR
  refine g_aload_n (pc' := 1) B 0 rfl rfl dX11_least_0 rfl ?_
  refine g_getV (pc' := 4) B b (vr hcb) fl_X11_19 rfl rfl dX11_least_1 rfl ?_
  refine g_getR (pc' := 7) B (b + 1) fl_X11_121 (ly_S hb) rfl dX11_least_4 rfl ?_
  refine g_iload_n (pc' := 8) B 1 rfl rfl dX11_least_7 rfl ?_
  refine g_callVI (pc' := 11) (As := [.int (iI f)]) B (c_X2_has l K _ (g := b + 1) (D := D) (f := f) (by omega) hS.1 hF (by omega)) vt_X2_has tw_532 (ly_G (by omega)) rfl ⟨by decide, by decide⟩ rfl (Nat.le_of_ble_eq_true rfl) ⟨Nat.zero_le _, Nat.zero_le _⟩ rfl dX11_least_8 rfl (fun z8 τ8 h8 => ?_)
  obtain ⟨rfl, h8⟩ := h8
  rcases h8 with ⟨h8, rfl⟩ | ⟨h8, rfl⟩
  · refine g_if_eq (pc' := 14) B 28 (by omega) dX11_least_11 (by decide) rfl (fun q => absurd q (by decide)) (fun _ => ?_)
    refine g_aload_n (pc' := 15) B 0 rfl rfl dX11_least_14 rfl ?_
    refine g_getV (pc' := 18) B b (vr hcb) fl_X11_19 rfl rfl dX11_least_15 rfl ?_
    refine g_getR (pc' := 21) B (b + 1) fl_X11_121 (ly_S hb) rfl dX11_least_18 rfl ?_
    refine g_iload_n (pc' := 22) B 2 rfl rfl dX11_least_21 rfl ?_
    refine g_callVI (pc' := 25) (As := [.int (iI g)]) B (c_X2_has l K _ (g := b + 1) (D := D) (f := g) (by omega) hS.1 hF (by omega)) vt_X2_has tw_532 (ly_G (by omega)) rfl ⟨by decide, by decide⟩ rfl (Nat.le_of_ble_eq_true rfl) ⟨Nat.zero_le _, Nat.zero_le _⟩ rfl dX11_least_22 rfl (fun z22 τ22 h22 => ?_)
    obtain ⟨rfl, h22⟩ := h22
    rcases h22 with ⟨h22, rfl⟩ | ⟨h22, rfl⟩
    · refine g_if_ne (pc' := 28) B 31 (by omega) dX11_least_25 (by decide) rfl (fun _ => ?_) (fun q => absurd q (by decide))
      refine g_iload_n (pc' := 32) B 3 rfl rfl dX11_least_31 rfl ?_
      refine g_iconst (pc' := 33) B dX11_least_32 rfl ?_
      refine g_bipush (pc' := 35) B (by decide +kernel) dX11_least_33 rfl ?_
      refine g_callSI (pc' := 38) (As := [.int (iI n), .int (iI 1), .int (iI 30)]) B (c_X11_isOutside l K _ (v := n) (low := 1) (high := 30) (by omega) (by omega) (by omega)) st_X11_isOutside tw_363 ⟨by decide, by decide⟩ rfl (Nat.le_of_ble_eq_true rfl) ⟨Nat.zero_le _, Nat.zero_le _⟩ rfl dX11_least_35 rfl (fun z35 τ35 h35 => ?_)
      obtain ⟨rfl, h35⟩ := h35
      rcases h35 with ⟨h35, rfl⟩ | ⟨h35, rfl⟩
      · refine g_if_eq (pc' := 41) B 44 (by omega) dX11_least_38 (by decide) rfl (fun q => absurd q (by decide)) (fun _ => ?_)
        refine g_ldc (z := (-1000000002)) (pc' := 43) B tw_366 (by decide +kernel) dX11_least_41 rfl ?_
        exact g_iret (z := (-1000000002)) B hrt rfl hlk dX11_least_43 ⟨fun k _ _ => rfl, by unfold qLeast; (repeat' split) <;> first | rfl | (exfalso; omega)⟩
      · refine g_if_eq (pc' := 41) B 44 (by omega) dX11_least_38 (by decide) rfl (fun _ => ?_) (fun q => absurd q (by decide))
        refine g_aload_n (pc' := 45) B 0 rfl rfl dX11_least_44 rfl ?_
        refine g_getR (pc' := 48) B 43 fl_X11_57 rfl rfl dX11_least_45 rfl ?_
        refine g_aload_n (pc' := 49) B 0 rfl rfl dX11_least_48 rfl ?_
        refine g_getV (pc' := 52) B b (vr hcb) fl_X11_19 rfl rfl dX11_least_49 rfl ?_
        refine g_aload_n (pc' := 53) B 0 rfl rfl dX11_least_52 rfl ?_
        refine g_getR (pc' := 56) B 31 fl_X11_33 rfl rfl dX11_least_53 rfl ?_
        refine g_iload_n (pc' := 57) B 2 rfl rfl dX11_least_56 rfl ?_
        refine g_iload_n (pc' := 58) B 3 rfl rfl dX11_least_57 rfl ?_
        refine g_callVV (pc' := 61) (As := [.ref (K.2.2 b), .ref (K.2.2 31), .int (iI g), .int (iI n)]) B (c_X3_weigh l K _ (S := S) (X := X) (L := L) (P := P) (b := b) (D := D) (g := g) (n := n) hm hb hS hF hH hO (by omega) (by omega) (by omega) (by omega)) vt_X3_weigh tw_705 rfl rfl ⟨by decide, by decide⟩ rfl (Nat.le_of_ble_eq_true rfl) ⟨Nat.zero_le _, Nat.zero_le _⟩ rfl dX11_least_58 rfl (fun τ58 h58 => ?_)
        obtain ⟨h58a, h58b, h58c, h58d⟩ := h58
        have hw9 := wg_bd hF S X g n n.toNat f
        have h0d := h58d 0 f (by omega) (by omega) (by omega) (by omega)
        rw [show n - 0 = n by omega] at h0d
        have hm58 : τ58 31 0 = S ∧ τ58 31 1 = X ∧ τ58 31 2 = L ∧ τ58 31 3 = P := by rw [h58a 31 (by decide) (by decide)]; exact hm
        have hS58 : sD τ58 b D := hS.keep (fun k a c => h58a k (by omega) (by omega))
        have hcb58 : τ58 0 1 = ((b : Nat) : Int) := by rw [h58a 0 (by decide) (by decide)]; exact hcb
        refine g_iload (pc' := 63) B 4 rfl dX11_least_61 rfl ?_
        refine g_iconst (pc' := 64) B dX11_least_63 rfl ?_
        refine g_icmp_ne (pc' := 67) B 78 (by omega) (by omega) dX11_least_64 (by decide) rfl (fun c64 => ?_) (fun c64 => ?_)
        · refine g_aload_n (pc' := 79) B 0 rfl rfl dX11_least_78 rfl ?_
          refine g_getR (pc' := 82) B 43 fl_X11_57 rfl rfl dX11_least_79 rfl ?_
          refine g_aload_n (pc' := 83) B 0 rfl rfl dX11_least_82 rfl ?_
          refine g_getV (pc' := 86) B b (vr hcb58) fl_X11_19 rfl rfl dX11_least_83 rfl ?_
          refine g_aload_n (pc' := 87) B 0 rfl rfl dX11_least_86 rfl ?_
          refine g_getR (pc' := 90) B 31 fl_X11_33 rfl rfl dX11_least_87 rfl ?_
          refine g_iload_n (pc' := 91) B 1 rfl rfl dX11_least_90 rfl ?_
          refine g_iload (pc' := 93) B 4 rfl dX11_least_91 rfl ?_
          refine g_callVI (pc' := 96) (As := [.ref (K.2.2 b), .ref (K.2.2 31), .int (iI f), .int (iI i)]) B (c_X3_leastWay l K _ (S := S) (X := X) (L := L) (P := P) (b := b) (D := D) (g := g) (n := n) (f := f) (y := i) hm58 hb hS58 hF hH hO (by omega) (by omega) h58b h58c (by omega) (by omega) (by omega) (by omega) h58d) vt_X3_leastWay tw_727 rfl rfl ⟨by decide, by decide⟩ rfl (Nat.le_of_ble_eq_true rfl) ⟨Nat.zero_le _, Nat.zero_le _⟩ rfl dX11_least_93 rfl (fun z93 τ93 h93 => ?_)
          obtain ⟨rfl, rfl⟩ := h93
          exact g_iret (z := (if wg D S X g n n.toNat f < 0 then -1 else lwF D S X g n i n.toNat f)) B hrt rfl hlk dX11_least_96 ⟨h58a, by rw [show qLeast D S X f g n i = _ from (if_pos ⟨h8, h22⟩).trans (if_neg h35)]; first | (rw [if_pos c64]; done) | exact (if_neg c64).symm⟩
        · refine g_aload_n (pc' := 68) B 0 rfl rfl dX11_least_67 rfl ?_
          refine g_getR (pc' := 71) B 43 fl_X11_57 rfl rfl dX11_least_68 rfl ?_
          refine g_iload_n (pc' := 72) B 1 rfl rfl dX11_least_71 rfl ?_
          refine g_callVI (pc' := 75) (As := [.int (iI f)]) B (c_X3_leastPulled l K _ (f := f) (m := n) (v := wg D S X g n n.toNat f) h58c (by omega) (by omega) (⟨h0d, hw9.1, by omega⟩)) vt_X3_leastPulled tw_723 rfl rfl ⟨by decide, by decide⟩ rfl (Nat.le_of_ble_eq_true rfl) ⟨Nat.zero_le _, Nat.zero_le _⟩ rfl dX11_least_72 rfl (fun z72 τ72 h72 => ?_)
          obtain ⟨rfl, rfl⟩ := h72
          refine g_goto (pc' := 96) B dX11_least_75 (by decide) ?_
          exact g_iret (z := (wg D S X g n n.toNat f)) B hrt rfl hlk dX11_least_96 ⟨h58a, by rw [show qLeast D S X f g n i = _ from (if_pos ⟨h8, h22⟩).trans (if_neg h35)]; first | (rw [if_pos c64]; done) | exact (if_neg c64).symm⟩
    · refine g_if_ne (pc' := 28) B 31 (by omega) dX11_least_25 (by decide) rfl (fun q => absurd q (by decide)) (fun _ => ?_)
      refine g_ldc (z := (-1000000001)) (pc' := 30) B tw_533 (by decide +kernel) dX11_least_28 rfl ?_
      exact g_iret (z := (-1000000001)) B hrt rfl hlk dX11_least_30 ⟨fun k _ _ => rfl, by unfold qLeast; (repeat' split) <;> first | rfl | (exfalso; omega)⟩
  · refine g_if_eq (pc' := 14) B 28 (by omega) dX11_least_11 (by decide) rfl (fun _ => ?_) (fun q => absurd q (by decide))
    refine g_ldc (z := (-1000000001)) (pc' := 30) B tw_533 (by decide +kernel) dX11_least_28 rfl ?_
    exact g_iret (z := (-1000000001)) B hrt rfl hlk dX11_least_30 ⟨fun k _ _ => rfl, by unfold qLeast; (repeat' split) <;> first | rfl | (exfalso; omega)⟩
