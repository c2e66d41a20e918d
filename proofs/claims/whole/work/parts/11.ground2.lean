def wb (D : SG) (v x f : Int) : Nat → Bool
  | 0 => false
  | n + 1 => wb D v x f n || decide (hgt D f (x + n) < v)
/-- the set of fields that are flooded, the first k of them -/
def fs (D : SG) (v x : Int) (n : Nat) : Nat → Int
  | 0 => 0
  | k + 1 => fs D v x n k + (if wb D v x k n then 2 ^ k else 0)
theorem wb_mono {D : SG} {v x f : Int} : ∀ {i n : Nat}, i ≤ n → wb D v x f i = true → wb D v x f n = true := by
  intro i n h
  induction h with
  | refl => exact fun q => q
  | step _ ih => intro q; show (_ || _) = true; rw [ih q]; rfl
theorem wb_hit {D : SG} {v x f i : Int} {n : Nat} (h0 : 0 ≤ i) (h1 : i < n) (h : hgt D f (x + i) < v) : wb D v x f n = true := by
  refine wb_mono (i := i.toNat + 1) (by omega) ?_
  show (_ || decide (hgt D f (x + (i.toNat : Int)) < v)) = true
  rw [show ((i.toNat : Nat) : Int) = i by omega]
  simp [h]
theorem wb_miss {D : SG} {v x f i : Int} (h0 : 0 ≤ i) (h : wb D v x f i.toNat = false) (h2 : v ≤ hgt D f (x + i)) : wb D v x f (i + 1).toNat = false := by
  rw [show (i + 1).toNat = i.toNat + 1 by omega]
  show (_ || decide (hgt D f (x + (i.toNat : Int)) < v)) = false
  rw [show ((i.toNat : Nat) : Int) = i by omega, h]
  simp [h2]
theorem fs_bd (D : SG) (v x : Int) (n : Nat) : ∀ k : Nat, 0 ≤ fs D v x n k ∧ fs D v x n k < 2 ^ k
  | 0 => by simp [fs]
  | k + 1 => by
    have h := fs_bd D v x n k
    have e : (2 : Int) ^ (k + 1) = 2 ^ k * 2 := Int.pow_succ 2 k
    show 0 ≤ fs D v x n k + _ ∧ fs D v x n k + _ < 2 ^ (k + 1)
    rw [e]
    split <;> omega
theorem fs_next {D : SG} {v x f : Int} {n : Nat} (h : 0 ≤ f) : fs D v x n (f + 1).toNat = fs D v x n f.toNat + (if wb D v x f n then 2 ^ f.toNat else 0) := by
  rw [show (f + 1).toNat = f.toNat + 1 by omega]
  show fs D v x n f.toNat + (if wb D v x ((f.toNat : Nat) : Int) n then _ else _) = _
  rw [show ((f.toNat : Nat) : Int) = f by omega]
theorem pow_le7 {k : Nat} (h : k ≤ 8) : 1 ≤ (2 : Int) ^ k ∧ (2 : Int) ^ k ≤ 256 := by
  have q : ∀ n : Fin 9, 1 ≤ (2 : Int) ^ n.val ∧ (2 : Int) ^ n.val ≤ 256 := by decide
  exact q ⟨k, by omega⟩
theorem fs_256 (D : SG) (v x : Int) (n : Nat) {k : Nat} (h : k ≤ 8) : 0 ≤ fs D v x n k ∧ fs D v x n k < 256 := by
  have h1 := fs_bd D v x n k
  have h2 := pow_le7 h
  omega
set_option maxRecDepth 100000 in
set_option maxHeartbeats 4000000 in
theorem c_X2_flooded (l : Launch) (K : WK) (σ : SG) {g : Nat} (hg : g = 4 ∨ g = 18) {D : SG} (hD : gD σ g D) (hF : okF D) {v x n : Int} (hv : 0 ≤ v ∧ v ≤ 999) (hx : 0 ≤ x ∧ x ≤ 1000000000) (hn : 1 ≤ n ∧ n ≤ 40) : MI l yX2_flooded cX2_flooded 7 (some .int) 3 66 K σ [.ref (K.2.2 g), .int (iI v), .int (iI x), .int (iI n)] (fun z τ => σ = τ ∧ z = fs D v x n.toNat (D 9 0).toNat) := by
  refine met_of [(0, .ref (K.2.2 g)), (1, .int (iI v)), (2, .int (iI x)), (3, .int (iI n))] (by decide +kernel) (Nat.le_of_ble_eq_true rfl) rfl ?_
  intro pP eE sS mM bW mT cC B hrt hlk
  replace B : CB pP sS mM [.ref (K.2.2 g), .int (iI v), .int (iI x), .int (iI n)].toArray cC cX2_flooded RX2 7 K := B
  obtain ⟨hF0, hF1⟩ := id hF
  refine g_iconst (pc' := 1) B dX2_flooded_0 rfl ?_
  refine g_istore (pc' := 3) B [(4, .int (iI 0)), (0, .ref (K.2.2 g)), (1, .int (iI v)), (2, .int (iI x)), (3, .int (iI n))] dX2_flooded_1 rfl (by decide) rfl ?_
  refine g_iconst (pc' := 4) B dX2_flooded_3 rfl ?_
  refine g_istore (pc' := 6) B [(5, .int (iI 0)), (4, .int (iI 0)), (0, .ref (K.2.2 g)), (1, .int (iI v)), (2, .int (iI x)), (3, .int (iI n))] dX2_flooded_4 rfl (by decide) rfl ?_
  have L6 : ∀ (nn : Nat) (u f : Int) , (D 9 0 - f).toNat = nn → (0 ≤ f ∧ f ≤ D 9 0) → (u = fs D v x n.toNat f.toNat) → G pP l eE (rmo 3 66) sS mM [.ref (K.2.2 g), .int (iI v), .int (iI x), .int (iI n)].toArray bW mT cC 0 0 (MQ bW (Qi K (fun z τ => σ = τ ∧ z = fs D v x n.toNat (D 9 0).toNat)) [.ref (K.2.2 g), .int (iI v), .int (iI x), .int (iI n)].toArray sS 0 0 (wA K)) K sS.heap 7 σ 6 [(5, .int (iI f)), (4, .int (iI u)), (0, .ref (K.2.2 g)), (1, .int (iI v)), (2, .int (iI x)), (3, .int (iI n))] [] := by
    intro nn
    induction nn using Nat.strongRecOn with
    | _ nn ih6 =>
      intro u f hn6 i1 i2
      refine g_iload (pc' := 8) B 0 rfl dX2_flooded_6 rfl ?_
      refine g_aload_n (pc' := 9) B 2 rfl rfl dX2_flooded_8 rfl ?_
      refine g_get (pc' := 12) B (D 9 0) hD.1 fl_X2_28 (ly_G hg) rfl dX2_flooded_9 rfl ?_
      refine g_icmp_ge (pc' := 15) B 62 (by omega) (by omega) dX2_flooded_12 (by decide) rfl (fun c12 => ?_) (fun c12 => ?_)
      · refine g_iload (pc' := 64) B 1 rfl dX2_flooded_62 rfl ?_
        exact g_iret (z := u) B hrt rfl hlk dX2_flooded_64 ⟨rfl, by rw [i2, show f = D 9 0 by omega]⟩
      · refine g_iconst (pc' := 16) B dX2_flooded_15 rfl ?_
        refine g_istore (pc' := 18) B [(6, .int (iI 0)), (5, .int (iI f)), (4, .int (iI u)), (0, .ref (K.2.2 g)), (1, .int (iI v)), (2, .int (iI x)), (3, .int (iI n))] dX2_flooded_16 rfl (by decide) rfl ?_
        have L18 : ∀ (nn : Nat) (i : Int) , (n - i).toNat = nn → (0 ≤ i ∧ i ≤ n) → (wb D v x f i.toNat = false) → G pP l eE (rmo 3 66) sS mM [.ref (K.2.2 g), .int (iI v), .int (iI x), .int (iI n)].toArray bW mT cC 0 0 (MQ bW (Qi K (fun z τ => σ = τ ∧ z = fs D v x n.toNat (D 9 0).toNat)) [.ref (K.2.2 g), .int (iI v), .int (iI x), .int (iI n)].toArray sS 0 0 (wA K)) K sS.heap 7 σ 18 [(6, .int (iI i)), (5, .int (iI f)), (4, .int (iI u)), (0, .ref (K.2.2 g)), (1, .int (iI v)), (2, .int (iI x)), (3, .int (iI n))] [] := by
          intro nn
          induction nn using Nat.strongRecOn with
          | _ nn ih18 =>
            intro i hn18 j1 j2
            refine g_iload (pc' := 20) B 0 rfl dX2_flooded_18 rfl ?_
            refine g_iload_n (pc' := 21) B 6 rfl rfl dX2_flooded_20 rfl ?_
            refine g_icmp_ge (pc' := 24) B 56 (by omega) (by omega) dX2_flooded_21 (by decide) rfl (fun c21 => ?_) (fun c21 => ?_)
            · refine g_iinc (pc' := 59) B 1 [(5, .int (iI (f + 1))), (6, .int (iI i)), (4, .int (iI u)), (0, .ref (K.2.2 g)), (1, .int (iI v)), (2, .int (iI x)), (3, .int (iI n))] dX2_flooded_56 rfl rfl (by decide) rfl ?_
              refine g_goto (pc' := 6) B dX2_flooded_59 (by decide) ?_
              refine g_loc B [(5, .int (iI (f + 1))), (4, .int (iI u)), (0, .ref (K.2.2 g)), (1, .int (iI v)), (2, .int (iI x)), (3, .int (iI n))] [0, 2, 3, 4, 5, 6] rfl ?_
              exact ih6 _ (by omega) u (f + 1) rfl (by omega) (by rw [i2, fs_next (by omega)]; first | rw [if_pos (wb_hit (i := i) (by omega) (by omega) c35)] | (rw [if_neg (by rw [show n.toNat = i.toNat by omega, j2]; simp)]; omega))
            · refine g_aload_n (pc' := 25) B 3 rfl rfl dX2_flooded_24 rfl ?_
              refine g_iload (pc' := 27) B 1 rfl dX2_flooded_25 rfl ?_
              refine g_iload_n (pc' := 28) B 5 rfl rfl dX2_flooded_27 rfl ?_
              refine g_iload (pc' := 30) B 0 rfl dX2_flooded_28 rfl ?_
              refine g_iadd (pc' := 31) B dX2_flooded_30 rfl ?_
              refine g_callVI (pc' := 34) (As := [.int (iI f), .int (iI (x + i))]) B (c_X2_heightAt l K _ (g := g) (D := D) (f := f) (x := x + i) hg hD hF (by omega) (by omega) (by omega)) vt_X2_heightAt tw_510 (ly_G hg) rfl ⟨by decide, by decide⟩ rfl (Nat.le_of_ble_eq_true rfl) ⟨Nat.zero_le _, Nat.zero_le _⟩ rfl dX2_flooded_31 rfl (fun z31 τ31 h31 => ?_)
              obtain ⟨rfl, rfl⟩ := h31
              have hb := hgt_bd (x := x + i) hF (show 0 ≤ f by omega) (by omega)
              refine g_iload_n (pc' := 35) B 4 rfl rfl dX2_flooded_34 rfl ?_
              refine g_icmp_ge (pc' := 38) B 50 (by omega) (by omega) dX2_flooded_35 (by decide) rfl (fun c35 => ?_) (fun c35 => ?_)
              · refine g_iinc (pc' := 53) B 0 [(6, .int (iI (i + 1))), (5, .int (iI f)), (4, .int (iI u)), (0, .ref (K.2.2 g)), (1, .int (iI v)), (2, .int (iI x)), (3, .int (iI n))] dX2_flooded_50 rfl rfl (by decide) rfl ?_
                refine g_goto (pc' := 18) B dX2_flooded_53 (by decide) ?_
                exact ih18 _ (by omega) (i + 1) rfl (by omega) (by exact wb_miss (by omega) j2 c35)
              · have hu := fs_bd D v x n.toNat f.toNat
                rw [← i2] at hu
                refine g_iload (pc' := 40) B 2 rfl dX2_flooded_38 rfl ?_
                refine g_iconst (pc' := 41) B dX2_flooded_40 rfl ?_
                refine g_iload (pc' := 43) B 1 rfl dX2_flooded_41 rfl ?_
                refine g_ishl (pc' := 44) B (2 ^ f.toNat) (sh1 ⟨by omega, by omega⟩) dX2_flooded_43 rfl ?_
                refine g_ior (pc' := 45) B (u + 2 ^ f.toNat) (or_add hu.1 hu.2) dX2_flooded_44 rfl ?_
                refine g_istore (pc' := 47) B [(4, .int (iI (u + 2 ^ f.toNat))), (6, .int (iI i)), (5, .int (iI f)), (0, .ref (K.2.2 g)), (1, .int (iI v)), (2, .int (iI x)), (3, .int (iI n))] dX2_flooded_45 rfl (by decide) rfl ?_
                refine g_goto (pc' := 56) B dX2_flooded_47 (by decide) ?_
                refine g_iinc (pc' := 59) B 2 [(5, .int (iI (f + 1))), (4, .int (iI (u + 2 ^ f.toNat))), (6, .int (iI i)), (0, .ref (K.2.2 g)), (1, .int (iI v)), (2, .int (iI x)), (3, .int (iI n))] dX2_flooded_56 rfl rfl (by decide) rfl ?_
                refine g_goto (pc' := 6) B dX2_flooded_59 (by decide) ?_
                refine g_loc B [(5, .int (iI (f + 1))), (4, .int (iI (u + 2 ^ f.toNat))), (0, .ref (K.2.2 g)), (1, .int (iI v)), (2, .int (iI x)), (3, .int (iI n))] [0, 1, 3, 4, 5, 6] rfl ?_
                exact ih6 _ (by omega) (u + 2 ^ f.toNat) (f + 1) rfl (by omega) (by rw [i2, fs_next (by omega)]; first | rw [if_pos (wb_hit (i := i) (by omega) (by omega) c35)] | (rw [if_neg (by rw [show n.toNat = i.toNat by omega, j2]; simp)]; omega))
        exact L18 _ 0 rfl (by omega) (by rfl)
  exact L6 _ 0 0 rfl (by omega) (by rfl)
def dryZ (w t : Int) : Int := ((iI w) &&& (iI ((iI ((iI t) ||| (iI ((iI t) <<< ((iI 1) &&& 31)).toInt)).toInt) ^^^ (iI (-1))).toInt)).toInt
/-- the best set of sluices among the first n -/
def bs (w : Int) : Nat → Int
  | 0 => -1
  | n + 1 => if dryZ w n = 0 ∧ (bs w n = -1 ∨ pcn n < pcn (bs w n)) then (n : Int) else bs w n
theorem bs_bd (w : Int) : ∀ n : Nat, -1 ≤ bs w n ∧ bs w n < n
  | 0 => by simp [bs]
  | n + 1 => by
    have h := bs_bd w n
    unfold bs
    split <;> omega
theorem bs_next {w t : Int} (h : 0 ≤ t) : bs w (t + 1).toNat = if dryZ w t = 0 ∧ (bs w t.toNat = -1 ∨ pcn t < pcn (bs w t.toNat)) then t else bs w t.toNat := by
  rw [show (t + 1).toNat = t.toNat + 1 by omega]
  show (if dryZ w (t.toNat : Int) = 0 ∧ (bs w t.toNat = -1 ∨ pcn (t.toNat : Int) < pcn (bs w t.toNat)) then _ else _) = _
  rw [show ((t.toNat : Nat) : Int) = t by omega]
theorem pcn_bd {v : Int} : 0 ≤ pcn v ∧ pcn v ≤ 8 := by unfold pcn; omega
def gps (D : SG) : Nat := (max 0 (min (D 9 0) 8 - 1)).toNat
set_option maxRecDepth 100000 in
set_option maxHeartbeats 4000000 in
theorem c_X2_fewestSluices (l : Launch) (K : WK) (σ : SG) {g : Nat} (hg : g = 4 ∨ g = 18) {D : SG} (hD : gD σ g D) (hF : okF D) {w : Int} (hw : 0 ≤ w ∧ w < 256) : MI l yX2_fewestSluices cX2_fewestSluices 6 (some .int) 1 20 K σ [.ref (K.2.2 g), .int (iI w)] (fun z τ => σ = τ ∧ z = bs w ((2 : Int) ^ gps D).toNat) := by
  refine met_of [(0, .ref (K.2.2 g)), (1, .int (iI w))] (by decide +kernel) (Nat.le_of_ble_eq_true rfl) rfl ?_
  intro pP eE sS mM bW mT cC B hrt hlk
  replace B : CB pP sS mM [.ref (K.2.2 g), .int (iI w)].toArray cC cX2_fewestSluices RX2 6 K := B
  obtain ⟨hF0, hF1⟩ := id hF
  have hp := pow_le7 (k := gps D) (by unfold gps; omega)
  have hgp : gps D = (max 0 (min (D 9 0) 8 - 1)).toNat := rfl
  refine g_iconst (pc' := 1) B dX2_fewestSluices_0 rfl ?_
  refine g_aload_n (pc' := 2) B 0 rfl rfl dX2_fewestSluices_1 rfl ?_
  refine g_get (pc' := 5) B (D 9 0) hD.1 fl_X2_28 (ly_G hg) rfl dX2_fewestSluices_2 rfl ?_
  refine g_bipush (pc' := 7) B (by decide +kernel) dX2_fewestSluices_5 rfl ?_
  refine g_mmin (pc' := 10) B (by omega) (by omega) tw_850 (by decide) (Nat.le_of_ble_eq_true rfl) (Nat.zero_le _) (Nat.zero_le _) dX2_fewestSluices_7 rfl ?_
  refine g_iconst (pc' := 11) B dX2_fewestSluices_10 rfl ?_
  refine g_isub (pc' := 12) B dX2_fewestSluices_11 rfl ?_
  refine g_mmax (pc' := 15) B (by omega) (by omega) tw_615 (by decide) (Nat.le_of_ble_eq_true rfl) (Nat.zero_le _) (Nat.zero_le _) dX2_fewestSluices_12 rfl ?_
  refine g_istore_n (pc' := 16) B [(2, .int (iI (max 0 ((min (D 9 0) 8) - 1)))), (0, .ref (K.2.2 g)), (1, .int (iI w))] dX2_fewestSluices_15 rfl rfl (by decide) rfl ?_
  refine g_iconst (pc' := 17) B dX2_fewestSluices_16 rfl ?_
  refine g_istore_n (pc' := 18) B [(3, .int (iI (-1))), (2, .int (iI (max 0 ((min (D 9 0) 8) - 1)))), (0, .ref (K.2.2 g)), (1, .int (iI w))] dX2_fewestSluices_17 rfl rfl (by decide) rfl ?_
  refine g_iconst (pc' := 19) B dX2_fewestSluices_18 rfl ?_
  refine g_istore (pc' := 21) B [(4, .int (iI 0)), (3, .int (iI (-1))), (2, .int (iI (max 0 ((min (D 9 0) 8) - 1)))), (0, .ref (K.2.2 g)), (1, .int (iI w))] dX2_fewestSluices_19 rfl (by decide) rfl ?_
  have L21 : ∀ (nn : Nat) (u t : Int) , ((2 : Int) ^ gps D - t).toNat = nn → (0 ≤ t ∧ t ≤ 2 ^ gps D) → (u = bs w t.toNat) → G pP l eE (rmo 1 20) sS mM [.ref (K.2.2 g), .int (iI w)].toArray bW mT cC 0 0 (MQ bW (Qi K (fun z τ => σ = τ ∧ z = bs w ((2 : Int) ^ gps D).toNat)) [.ref (K.2.2 g), .int (iI w)].toArray sS 0 0 (wA K)) K sS.heap 6 σ 21 [(4, .int (iI t)), (3, .int (iI u)), (2, .int (iI (max 0 ((min (D 9 0) 8) - 1)))), (0, .ref (K.2.2 g)), (1, .int (iI w))] [] := by
    intro nn
    induction nn using Nat.strongRecOn with
    | _ nn ih21 =>
      intro u t hn21 i1 i2
      have ib := bs_bd w t.toNat
      rw [← i2] at ib
      have it : t.toNat = t := by omega
      refine g_iload (pc' := 23) B 0 rfl dX2_fewestSluices_21 rfl ?_
      refine g_iconst (pc' := 24) B dX2_fewestSluices_23 rfl ?_
      refine g_iload_n (pc' := 25) B 2 rfl rfl dX2_fewestSluices_24 rfl ?_
      refine g_ishl (pc' := 26) B (2 ^ gps D) (sh1 ⟨by omega, by omega⟩) dX2_fewestSluices_25 rfl ?_
      refine g_icmp_ge (pc' := 29) B 81 (by omega) (by omega) dX2_fewestSluices_26 (by decide) rfl (fun c26 => ?_) (fun c26 => ?_)
      · refine g_iload_n (pc' := 82) B 1 rfl rfl dX2_fewestSluices_81 rfl ?_
        exact g_iret (z := u) B hrt rfl hlk dX2_fewestSluices_82 ⟨rfl, by rw [i2, show t = 2 ^ gps D by omega]⟩
      · refine g_iload_n (pc' := 30) B 4 rfl rfl dX2_fewestSluices_29 rfl ?_
        refine g_iload (pc' := 32) B 0 rfl dX2_fewestSluices_30 rfl ?_
        refine g_iload (pc' := 34) B 0 rfl dX2_fewestSluices_32 rfl ?_
        refine g_iconst (pc' := 35) B dX2_fewestSluices_34 rfl ?_
        refine g_ishl (pc' := 36) B (((iI t) <<< ((iI 1) &&& 31)).toInt) (iI_of _).symm dX2_fewestSluices_35 rfl ?_
        refine g_ior (pc' := 37) B (((iI t) ||| (iI (((iI t) <<< ((iI 1) &&& 31)).toInt))).toInt) (iI_of _).symm dX2_fewestSluices_36 rfl ?_
        refine g_iconst (pc' := 38) B dX2_fewestSluices_37 rfl ?_
        refine g_ixor (pc' := 39) B (((iI (((iI t) ||| (iI (((iI t) <<< ((iI 1) &&& 31)).toInt))).toInt)) ^^^ (iI (-1))).toInt) (iI_of _).symm dX2_fewestSluices_38 rfl ?_
        refine g_iand (pc' := 40) B (((iI w) &&& (iI (((iI (((iI t) ||| (iI (((iI t) <<< ((iI 1) &&& 31)).toInt))).toInt)) ^^^ (iI (-1))).toInt))).toInt) (iI_of _).symm dX2_fewestSluices_39 rfl ?_
        refine g_if_ne (pc' := 43) B 47 (by exact iI_rng _) dX2_fewestSluices_40 (by decide) rfl (fun c40 => ?_) (fun c40 => ?_)
        · refine g_iconst (pc' := 48) B dX2_fewestSluices_47 rfl ?_
          refine g_istore (pc' := 50) B [(5, .int (iI 0)), (4, .int (iI t)), (3, .int (iI u)), (2, .int (iI (max 0 ((min (D 9 0) 8) - 1)))), (0, .ref (K.2.2 g)), (1, .int (iI w))] dX2_fewestSluices_48 rfl (by decide) rfl ?_
          refine g_iload (pc' := 52) B 0 rfl dX2_fewestSluices_50 rfl ?_
          refine g_if_eq (pc' := 55) B 75 (by omega) dX2_fewestSluices_52 (by decide) rfl (fun _ => ?_) (fun q => absurd q (by decide))
          refine g_iinc (pc' := 78) B 1 [(4, .int (iI (t + 1))), (5, .int (iI 0)), (3, .int (iI u)), (2, .int (iI (max 0 ((min (D 9 0) 8) - 1)))), (0, .ref (K.2.2 g)), (1, .int (iI w))] dX2_fewestSluices_75 rfl rfl (by decide) rfl ?_
          refine g_goto (pc' := 21) B dX2_fewestSluices_78 (by decide) ?_
          refine g_loc B [(4, .int (iI (t + 1))), (3, .int (iI u)), (2, .int (iI (max 0 ((min (D 9 0) 8) - 1)))), (0, .ref (K.2.2 g)), (1, .int (iI w))] [0, 2, 3, 4, 5] rfl ?_
          exact ih21 _ (by omega) u (t + 1) rfl (by omega) (by rw [bs_next (by omega), ← i2]; first | (rw [if_pos ⟨c40, by omega⟩]; done) | rw [if_neg (fun q => c40 q.1)] | rw [if_neg (fun q => by rcases q.2 with q | q <;> omega)])
        · refine g_iconst (pc' := 44) B dX2_fewestSluices_43 rfl ?_
          refine g_goto (pc' := 48) B dX2_fewestSluices_44 (by decide) ?_
          refine g_istore (pc' := 50) B [(5, .int (iI 1)), (4, .int (iI t)), (3, .int (iI u)), (2, .int (iI (max 0 ((min (D 9 0) 8) - 1)))), (0, .ref (K.2.2 g)), (1, .int (iI w))] dX2_fewestSluices_48 rfl (by decide) rfl ?_
          refine g_iload (pc' := 52) B 0 rfl dX2_fewestSluices_50 rfl ?_
          refine g_if_eq (pc' := 55) B 75 (by omega) dX2_fewestSluices_52 (by decide) rfl (fun q => absurd q (by decide)) (fun _ => ?_)
          refine g_iload_n (pc' := 56) B 2 rfl rfl dX2_fewestSluices_55 rfl ?_
          refine g_iconst (pc' := 57) B dX2_fewestSluices_56 rfl ?_
          refine g_icmp_eq (pc' := 60) B 72 (by omega) (by omega) dX2_fewestSluices_57 (by decide) rfl (fun c57 => ?_) (fun c57 => ?_)
          · refine g_iload (pc' := 74) B 1 rfl dX2_fewestSluices_72 rfl ?_
            refine g_istore_n (pc' := 75) B [(3, .int (iI t)), (5, .int (iI 1)), (4, .int (iI t)), (2, .int (iI (max 0 ((min (D 9 0) 8) - 1)))), (0, .ref (K.2.2 g)), (1, .int (iI w))] dX2_fewestSluices_74 rfl rfl (by decide) rfl ?_
            refine g_iinc (pc' := 78) B 2 [(4, .int (iI (t + 1))), (3, .int (iI t)), (5, .int (iI 1)), (2, .int (iI (max 0 ((min (D 9 0) 8) - 1)))), (0, .ref (K.2.2 g)), (1, .int (iI w))] dX2_fewestSluices_75 rfl rfl (by decide) rfl ?_
            refine g_goto (pc' := 21) B dX2_fewestSluices_78 (by decide) ?_
            refine g_loc B [(4, .int (iI (t + 1))), (3, .int (iI t)), (2, .int (iI (max 0 ((min (D 9 0) 8) - 1)))), (0, .ref (K.2.2 g)), (1, .int (iI w))] [0, 1, 3, 4, 5] rfl ?_
            exact ih21 _ (by omega) t (t + 1) rfl (by omega) (by rw [bs_next (by omega), ← i2]; first | (rw [if_pos ⟨c40, by omega⟩]; done) | rw [if_neg (fun q => c40 q.1)] | rw [if_neg (fun q => by rcases q.2 with q | q <;> omega)])
          · refine g_iload (pc' := 62) B 1 rfl dX2_fewestSluices_60 rfl ?_
            refine g_callSI (pc' := 65) (As := [.int (iI t)]) B (c_J6_bitCount_0f7a4 l K _ (v := t) (by omega)) st_J6_bitCount_0f7a4 tw_851 ⟨by decide, by decide⟩ rfl (Nat.le_of_ble_eq_true rfl) ⟨Nat.zero_le _, Nat.zero_le _⟩ rfl dX2_fewestSluices_62 rfl (fun z62 τ62 h62 => ?_)
            obtain ⟨rfl, rfl⟩ := h62
            refine g_iload_n (pc' := 66) B 2 rfl rfl dX2_fewestSluices_65 rfl ?_
            refine g_callSI (pc' := 69) (As := [.int (iI u)]) B (c_J6_bitCount_0f7a4 l K _ (v := u) (by omega)) st_J6_bitCount_0f7a4 tw_851 ⟨by decide, by decide⟩ rfl (Nat.le_of_ble_eq_true rfl) ⟨Nat.zero_le _, Nat.zero_le _⟩ rfl dX2_fewestSluices_66 rfl (fun z66 τ66 h66 => ?_)
            obtain ⟨rfl, rfl⟩ := h66
            refine g_icmp_ge (pc' := 72) B 75 (by have h1 := pcn_bd (v := t); have h2 := pcn_bd (v := u); omega) (by have h1 := pcn_bd (v := t); have h2 := pcn_bd (v := u); omega) dX2_fewestSluices_69 (by decide) rfl (fun c69 => ?_) (fun c69 => ?_)
            · refine g_iinc (pc' := 78) B 1 [(4, .int (iI (t + 1))), (5, .int (iI 1)), (3, .int (iI u)), (2, .int (iI (max 0 ((min (D 9 0) 8) - 1)))), (0, .ref (K.2.2 g)), (1, .int (iI w))] dX2_fewestSluices_75 rfl rfl (by decide) rfl ?_
              refine g_goto (pc' := 21) B dX2_fewestSluices_78 (by decide) ?_
              refine g_loc B [(4, .int (iI (t + 1))), (3, .int (iI u)), (2, .int (iI (max 0 ((min (D 9 0) 8) - 1)))), (0, .ref (K.2.2 g)), (1, .int (iI w))] [0, 2, 3, 4, 5] rfl ?_
              exact ih21 _ (by omega) u (t + 1) rfl (by omega) (by rw [bs_next (by omega), ← i2]; first | (rw [if_pos ⟨c40, by omega⟩]; done) | rw [if_neg (fun q => c40 q.1)] | rw [if_neg (fun q => by rcases q.2 with q | q <;> omega)])
            · refine g_iload (pc' := 74) B 1 rfl dX2_fewestSluices_72 rfl ?_
              refine g_istore_n (pc' := 75) B [(3, .int (iI t)), (5, .int (iI 1)), (4, .int (iI t)), (2, .int (iI (max 0 ((min (D 9 0) 8) - 1)))), (0, .ref (K.2.2 g)), (1, .int (iI w))] dX2_fewestSluices_74 rfl rfl (by decide) rfl ?_
              refine g_iinc (pc' := 78) B 2 [(4, .int (iI (t + 1))), (3, .int (iI t)), (5, .int (iI 1)), (2, .int (iI (max 0 ((min (D 9 0) 8) - 1)))), (0, .ref (K.2.2 g)), (1, .int (iI w))] dX2_fewestSluices_75 rfl rfl (by decide) rfl ?_
              refine g_goto (pc' := 21) B dX2_fewestSluices_78 (by decide) ?_
              refine g_loc B [(4, .int (iI (t + 1))), (3, .int (iI t)), (2, .int (iI (max 0 ((min (D 9 0) 8) - 1)))), (0, .ref (K.2.2 g)), (1, .int (iI w))] [0, 1, 3, 4, 5] rfl ?_
              exact ih21 _ (by omega) t (t + 1) rfl (by omega) (by rw [bs_next (by omega), ← i2]; first | (rw [if_pos ⟨c40, by omega⟩]; done) | rw [if_neg (fun q => c40 q.1)] | rw [if_neg (fun q => by rcases q.2 with q | q <;> omega)])
  exact L21 _ (-1) 0 rfl (by omega) (by rfl)
/-- shares behind n steps: what has h held breaths -/
def sh (q : Int) : Nat → Int → Int
  | 0 => fun h => if h = 0 then 1000000000 else 0
  | n + 1 => fun h => sh q n h - sh q n h * q / 100 + sh q n (h - 1) * q / 100
theorem sh_out (q : Int) : ∀ (n : Nat) (h : Int), (h < 0 ∨ n < h) → sh q n h = 0
  | 0, h, o => by show (if h = 0 then _ else _) = _; rw [if_neg (by omega)]
  | n + 1, h, o => by
    show sh q n h - sh q n h * q / 100 + sh q n (h - 1) * q / 100 = 0
    rw [sh_out q n h (by omega), sh_out q n (h - 1) (by omega)]
    simp
theorem sh_bd {q : Int} (hq : 0 ≤ q ∧ q ≤ 100) : ∀ (n : Nat) (h : Int), 0 ≤ sh q n h ∧ sh q n h ≤ 2 ^ n * 1000000000
  | 0, h => by show 0 ≤ (if h = 0 then _ else _) ∧ (if h = 0 then _ else _) ≤ _; split <;> omega
  | n + 1, h => by
    have h1 := sh_bd hq n h
    have h2 := sh_bd hq n (h - 1)
    have m1 : sh q n h * q ≤ sh q n h * 100 := Int.mul_le_mul_of_nonneg_left hq.2 h1.1
    have m2 : sh q n (h - 1) * q ≤ sh q n (h - 1) * 100 := Int.mul_le_mul_of_nonneg_left hq.2 h2.1
    have m3 : 0 ≤ sh q n h * q := Int.mul_nonneg h1.1 hq.1
    have m4 : 0 ≤ sh q n (h - 1) * q := Int.mul_nonneg h2.1 hq.1
    have e : (2 : Int) ^ (n + 1) * 1000000000 = 2 ^ n * 1000000000 + 2 ^ n * 1000000000 := by rw [Int.pow_succ]; omega
    show 0 ≤ sh q n h - sh q n h * q / 100 + sh q n (h - 1) * q / 100 ∧ sh q n h - sh q n h * q / 100 + sh q n (h - 1) * q / 100 ≤ 2 ^ (n + 1) * 1000000000
    rw [e]
    omega
theorem sh_bd20 {q : Int} (hq : 0 ≤ q ∧ q ≤ 100) {n : Nat} (hn : n ≤ 20) (h : Int) : 0 ≤ sh q n h ∧ sh q n h ≤ 1048576 * 1000000000 := by
  have h1 := sh_bd hq n h
  have q2 : ∀ k : Fin 21, (2 : Int) ^ k.val ≤ 1048576 := by decide
  have h2 := q2 ⟨n, by omega⟩
  simp only [] at h2
  omega
theorem sh_next {q i h : Int} (hi : 1 ≤ i) : sh q i.toNat h = sh q (i - 1).toNat h - sh q (i - 1).toNat h * q / 100 + sh q (i - 1).toNat (h - 1) * q / 100 := by
  rw [show i.toNat = (i - 1).toNat + 1 by omega]; rfl
set_option maxRecDepth 100000 in
set_option maxHeartbeats 4000000 in
theorem c_X2_shareOut (l : Launch) (K : WK) (σ : SG) {g : Nat} (hg : g = 4 ∨ g = 18) {D : SG} (hD : gD σ g D) (hF : okF D) {i q : Int} (hi : 1 ≤ i ∧ i ≤ 20) (hq : 0 ≤ q ∧ q ≤ 100) (hs : ∀ h : Int, 0 ≤ h → h < i → σ (g + 5) h = sh q (i - 1).toNat h) : MV l yX2_shareOut cX2_shareOut 6 none 0 0 K σ [.ref (K.2.2 g), .int (iI i), .int (iI q)] (fun τ => (∀ k, k ≠ g + 5 → τ k = σ k) ∧ ∀ h : Int, 0 ≤ h → h ≤ i → τ (g + 5) h = sh q i.toNat h) := by
  refine met_of [(0, .ref (K.2.2 g)), (1, .int (iI i)), (2, .int (iI q))] (by decide +kernel) (Nat.le_of_ble_eq_true rfl) rfl ?_
  intro pP eE sS mM bW mT cC B hrt hlk
  replace B : CB pP sS mM [.ref (K.2.2 g), .int (iI i), .int (iI q)].toArray cC cX2_shareOut RX2 6 K := B
  obtain ⟨hF0, hF1⟩ := id hF
  refine g_iload_n (pc' := 1) B 1 rfl rfl dX2_shareOut_0 rfl ?_
  refine g_iconst (pc' := 2) B dX2_shareOut_1 rfl ?_
  refine g_icmp_lt (pc' := 5) B 11 (by omega) (by omega) dX2_shareOut_2 (by decide) rfl (fun c2 => by exfalso; omega) (fun c2 => ?_)
  refine g_iload_n (pc' := 6) B 1 rfl rfl dX2_shareOut_5 rfl ?_
  refine g_bipush (pc' := 8) B (by decide +kernel) dX2_shareOut_6 rfl ?_
  refine g_icmp_le (pc' := 11) B 12 (by omega) (by omega) dX2_shareOut_8 (by decide) rfl (fun c8 => ?_) (fun c8 => by exfalso; omega)
  refine g_aload_n (pc' := 13) B 0 rfl rfl dX2_shareOut_12 rfl ?_
  refine g_getR (pc' := 16) B (g + 5) fl_X2_24 (ly_G hg) rfl dX2_shareOut_13 rfl ?_
  refine g_iload_n (pc' := 17) B 1 rfl rfl dX2_shareOut_16 rfl ?_
  refine g_lconst (z := 0) (pc' := 18) B (by decide +kernel) dX2_shareOut_17 rfl ?_
  refine g_last (pc' := 19) B (ly_Ga4 hg) (by omega) (by decide) dX2_shareOut_18 rfl ?_
  refine g_iload_n (pc' := 20) B 1 rfl rfl dX2_shareOut_19 rfl ?_
  refine g_iconst (pc' := 21) B dX2_shareOut_20 rfl ?_
  refine g_isub (pc' := 22) B dX2_shareOut_21 rfl ?_
  refine g_istore_n (pc' := 23) B [(3, .int (iI (i - 1))), (0, .ref (K.2.2 g)), (1, .int (iI i)), (2, .int (iI q))] dX2_shareOut_22 rfl rfl (by decide) rfl ?_
  have L23 : ∀ (nn : Nat) (ρ : SG) (h : Int) , (h + 1).toNat = nn → (-1 ≤ h ∧ h ≤ i - 1) → (∀ k, k ≠ g + 5 → ρ k = σ k) → (∀ y : Int, 0 ≤ y → y ≤ h → ρ (g + 5) y = sh q (i - 1).toNat y) → (ρ (g + 5) (h + 1) = sh q (i - 1).toNat (h + 1) - sh q (i - 1).toNat (h + 1) * q / 100) → (∀ y : Int, h + 1 < y → y ≤ i → ρ (g + 5) y = sh q i.toNat y) → G pP l eE (rmo 0 0) sS mM [.ref (K.2.2 g), .int (iI i), .int (iI q)].toArray bW mT cC 0 0 (MQ bW (Qv K (fun τ => (∀ k, k ≠ g + 5 → τ k = σ k) ∧ ∀ h : Int, 0 ≤ h → h ≤ i → τ (g + 5) h = sh q i.toNat h)) [.ref (K.2.2 g), .int (iI i), .int (iI q)].toArray sS 0 0 (wA K)) K sS.heap 6 ρ 23 [(3, .int (iI h)), (0, .ref (K.2.2 g)), (1, .int (iI i)), (2, .int (iI q))] [] := by
    intro nn
    induction nn using Nat.strongRecOn with
    | _ nn ih23 =>
      intro ρ h hn23 i1 i2 i3 i4 i5
      have e3 := fun a b => i3 h a b
      refine g_iload_n (pc' := 24) B 0 rfl rfl dX2_shareOut_23 rfl ?_
      refine g_if_lt (pc' := 27) B 72 (by omega) dX2_shareOut_24 (by decide) rfl (fun c24 => ?_) (fun c24 => ?_)
      · exact g_vret B hrt hlk dX2_shareOut_72 ⟨i2, fun y a b => by by_cases e9 : y = 0; (subst e9; rw [show (0 : Int) = h + 1 by omega, i4, sh_next (i := i) (by omega), sh_out q (i - 1).toNat (h + 1 - 1) (by omega)]; simp); exact i5 y (by omega) b⟩
      · have hv := sh_bd20 hq (n := (i - 1).toNat) (by omega) h
        have hm1 : 0 ≤ sh q (i - 1).toNat h * q := Int.mul_nonneg hv.1 hq.1
        have hm2 : sh q (i - 1).toNat h * q ≤ sh q (i - 1).toNat h * 100 := Int.mul_le_mul_of_nonneg_left hq.2 hv.1
        rw [← i3 h (by omega) (by omega)] at hv hm1 hm2
        refine g_aload_n (pc' := 28) B 1 rfl rfl dX2_shareOut_27 rfl ?_
        refine g_getR (pc' := 31) B (g + 5) fl_X2_24 (ly_G hg) rfl dX2_shareOut_28 rfl ?_
        refine g_iload_n (pc' := 32) B 0 rfl rfl dX2_shareOut_31 rfl ?_
        refine g_lald (pc' := 33) B (ρ (g + 5) h) rfl (ly_Ga4 hg) (by omega) (by decide) dX2_shareOut_32 rfl ?_
        refine g_iload_n (pc' := 34) B 3 rfl rfl dX2_shareOut_33 rfl ?_
        refine g_i2l (pc' := 35) B (by omega) dX2_shareOut_34 rfl ?_
        refine g_lmul (pc' := 36) B dX2_shareOut_35 rfl ?_
        refine g_ldc2 (z := 100) (pc' := 39) B tw_871 (by decide +kernel) dX2_shareOut_36 rfl ?_
        refine g_ldiv (pc' := 40) B (by omega) (by omega) dX2_shareOut_39 rfl ?_
        refine g_lstore (pc' := 42) B [(4, .long (lI (((ρ (g + 5) h) * q) / 100))), (3, .int (iI h)), (0, .ref (K.2.2 g)), (1, .int (iI i)), (2, .int (iI q))] dX2_shareOut_40 rfl (by decide) rfl ?_
        refine g_aload_n (pc' := 43) B 2 rfl rfl dX2_shareOut_42 rfl ?_
        refine g_getR (pc' := 46) B (g + 5) fl_X2_24 (ly_G hg) rfl dX2_shareOut_43 rfl ?_
        refine g_iload_n (pc' := 47) B 1 rfl rfl dX2_shareOut_46 rfl ?_
        refine g_iconst (pc' := 48) B dX2_shareOut_47 rfl ?_
        refine g_iadd (pc' := 49) B dX2_shareOut_48 rfl ?_
        refine g_dup2 (pc' := 50) B rfl rfl dX2_shareOut_49 rfl ?_
        refine g_lald (pc' := 51) B (ρ (g + 5) (h + 1)) rfl (ly_Ga4 hg) (by omega) (by decide) dX2_shareOut_50 rfl ?_
        refine g_lload (pc' := 53) B 0 rfl dX2_shareOut_51 rfl ?_
        refine g_ladd (pc' := 54) B dX2_shareOut_53 rfl ?_
        refine g_last (pc' := 55) B (ly_Ga4 hg) (by omega) (by decide) dX2_shareOut_54 rfl ?_
        refine g_aload_n (pc' := 56) B 2 rfl rfl dX2_shareOut_55 rfl ?_
        refine g_getR (pc' := 59) B (g + 5) fl_X2_24 (ly_G hg) rfl dX2_shareOut_56 rfl ?_
        refine g_iload_n (pc' := 60) B 1 rfl rfl dX2_shareOut_59 rfl ?_
        refine g_dup2 (pc' := 61) B rfl rfl dX2_shareOut_60 rfl ?_
        refine g_lald (pc' := 62) B (ρ (g + 5) h) (by rw [up_col (by omega)]) (ly_Ga4 hg) (by omega) (by decide) dX2_shareOut_61 rfl ?_
        refine g_lload (pc' := 64) B 0 rfl dX2_shareOut_62 rfl ?_
        refine g_lsub (pc' := 65) B dX2_shareOut_64 rfl ?_
        refine g_last (pc' := 66) B (ly_Ga4 hg) (by omega) (by decide) dX2_shareOut_65 rfl ?_
        refine g_iinc (pc' := 69) B 1 [(3, .int (iI (h + (-1)))), (4, .long (lI (((ρ (g + 5) h) * q) / 100))), (0, .ref (K.2.2 g)), (1, .int (iI i)), (2, .int (iI q))] dX2_shareOut_66 rfl rfl (by decide) rfl ?_
        refine g_goto (pc' := 23) B dX2_shareOut_69 (by decide) ?_
        refine g_loc B [(3, .int (iI (h + (-1)))), (0, .ref (K.2.2 g)), (1, .int (iI i)), (2, .int (iI q))] [0, 2, 3, 4] rfl ?_
        exact ih23 _ (by omega) (up (up ρ (g + 5) (h + 1) ((ρ (g + 5) (h + 1)) + (((ρ (g + 5) h) * q) / 100))) (g + 5) h ((ρ (g + 5) h) - (((ρ (g + 5) h) * q) / 100))) (h + (-1)) rfl (by omega) (by intro k hk; rw [up_row hk, up_row hk]; exact i2 k hk) (by intro y a b; rw [up_col (by omega), up_col (by omega)]; exact i3 y a (by omega)) (by rw [show h + -1 + 1 = h by omega, up_same, i3 h (by omega) (by omega)]) (by intro y a b; rw [up_col (by omega)]; by_cases e9 : y = h + 1; (subst e9; rw [up_same, i4, i3 h (by omega) (by omega), sh_next (i := i) (by omega), show h + 1 - 1 = h by omega]); (rw [up_col e9]; exact i5 y (by omega) b))
  exact L23 _ (up σ (g + 5) i 0) (i - 1) rfl (by omega) (by intro k hk; exact up_row hk) (by intro y a b; rw [up_col (by omega)]; exact hs y a (by omega)) (by rw [show i - 1 + 1 = i by omega, up_same, sh_out q (i - 1).toNat i (by omega)]; simp) (by intro y a b; omega)
