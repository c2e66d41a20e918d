noncomputable def cif (p : Prop) (x y : Int) : Int := @ite Int p (Classical.propDecidable p) x y
theorem cif_pos {p : Prop} {x y : Int} (h : p) : cif p x y = x := @if_pos p (Classical.propDecidable p) h Int x y
theorem cif_neg {p : Prop} {x y : Int} (h : ¬ p) : cif p x y = y := @if_neg p (Classical.propDecidable p) h Int x y
/-- where the barrel is behind n steps, if it goes on towards g wherever it is open -/
noncomputable def ps (D : SG) (S f g : Int) : Nat → Int
  | 0 => f
  | n + 1 => if ps D S f g n = g then ps D S f g n else cif (lets D (min (ps D S f g n) (if ps D S f g n < g then ps D S f g n + 1 else ps D S f g n - 1)) (S + ((n : Int) + 1))) (if ps D S f g n < g then ps D S f g n + 1 else ps D S f g n - 1) (ps D S f g n)
theorem ps_next {D : SG} {S f g n a : Int} (h : 0 ≤ n) (ha : a = ps D S f g n.toNat) : ps D S f g (n + 1).toNat = if a = g then a else cif (lets D (min a (if a < g then a + 1 else a - 1)) (S + (n + 1))) (if a < g then a + 1 else a - 1) a := by
  subst ha
  rw [show (n + 1).toNat = n.toNat + 1 by omega]
  show (if ps D S f g n.toNat = g then ps D S f g n.toNat else cif (lets D (min (ps D S f g n.toNat) _) (S + (((n.toNat : Nat) : Int) + 1))) _ _) = _
  rw [show ((n.toNat : Nat) : Int) = n by omega]
def enc (v : Int) : Int := if v < 0 then 1000000 else v
def mn (a b : Int) : Int := if a < 0 then b else if b < 0 then a else min a b
theorem enc_mn {a b : Int} (ha : a < 1000000) (hb : b < 1000000) : min (enc a) (enc b) = enc (mn a b) := by
  unfold enc mn; (repeat' split) <;> omega
theorem enc_bd {a : Int} (h : -1 ≤ a ∧ a < 1000000) : 0 ≤ enc a ∧ enc a ≤ 1000000 := by unfold enc; split <;> omega
theorem enc_inj {a b : Int} (ha : -1 ≤ a ∧ a < 1000000) (hb : -1 ≤ b ∧ b < 1000000) (h : enc a = enc b) : a = b := by
  unfold enc at h; (repeat' split at h) <;> omega
/-- the least that is pulled by a way that starts so; r: what is pulled from the next fields on -/
noncomputable def wyv (D : SG) (r : Int → Int) (t x f w : Int) : Int := cif (can D f t w) (if r (bes f w) < 0 then -1 else r (bes f w) + max 0 (hgt D (bes f w) x - hgt D f x)) (-1)
noncomputable def pmin (D : SG) (r : Int → Int) (t x f : Int) : Nat → Int
  | 0 => -1
  | k + 1 => mn (pmin D r t x f k) (wyv D r t x f k)
/-- the least pulled in l steps of n that are left -/
noncomputable def wg (D : SG) (S X g n : Int) : Nat → Int → Int
  | 0 => fun f => if f = g then 0 else -1
  | l + 1 => fun f => if f = g then 0 else pmin D (wg D S X g n l) (S + (n - l)) (X + (n - l)) f 3
theorem wyv_bd {D : SG} {r : Int → Int} {c : Int} (hF : okF D) (t x f w : Int) (hr : ∀ y : Int, 0 ≤ y → y < D 9 0 → -1 ≤ r y ∧ r y ≤ c) (hc : 0 ≤ c) : -1 ≤ wyv D r t x f w ∧ wyv D r t x f w ≤ c + 153 := by
  unfold wyv
  by_cases h : can D f t w
  · rw [cif_pos h]
    have h1 := hr _ h.2.1.1 h.2.1.2
    have h2 := hgt_bd (x := x) hF h.2.1.1 h.2.1.2
    have h3 := hgt_bd (x := x) hF h.1.1 h.1.2
    split <;> omega
  · rw [cif_neg h]; omega
theorem pmin_bd {D : SG} {r : Int → Int} {c : Int} (hF : okF D) (t x f : Int) (hr : ∀ y : Int, 0 ≤ y → y < D 9 0 → -1 ≤ r y ∧ r y ≤ c) (hc : 0 ≤ c) : ∀ k : Nat, -1 ≤ pmin D r t x f k ∧ pmin D r t x f k ≤ c + 153
  | 0 => by show -1 ≤ (-1 : Int) ∧ (-1 : Int) ≤ c + 153; omega
  | k + 1 => by
    have h1 := pmin_bd hF t x f hr hc k
    have h2 := wyv_bd hF t x f (k : Int) hr hc
    show -1 ≤ mn _ _ ∧ mn _ _ ≤ c + 153
    unfold mn
    (repeat' split) <;> omega
theorem wg_bd {D : SG} (hF : okF D) (S X g n : Int) : ∀ (l : Nat) (f : Int), -1 ≤ wg D S X g n l f ∧ wg D S X g n l f ≤ 153 * l
  | 0, f => by show -1 ≤ (if f = g then (0 : Int) else -1) ∧ (if f = g then (0 : Int) else -1) ≤ _; split <;> omega
  | l + 1, f => by
    have h1 := pmin_bd hF (S + (n - l)) (X + (n - l)) f (fun y _ _ => wg_bd hF S X g n l y) (by omega) 3
    show -1 ≤ (if f = g then (0 : Int) else pmin D (wg D S X g n l) (S + (n - l)) (X + (n - l)) f 3) ∧ (if f = g then (0 : Int) else _) ≤ _
    split <;> omega
theorem wg_step {D : SG} {S X g n i f : Int} (h0 : 0 ≤ i) (h1 : i < n) : wg D S X g n (n - i).toNat f = if f = g then 0 else pmin D (wg D S X g n (n - (i + 1)).toNat) (S + i + 1) (X + i + 1) f 3 := by
  rw [show (n - i).toNat = (n - (i + 1)).toNat + 1 by omega]
  show (if f = g then (0 : Int) else pmin D (wg D S X g n (n - (i + 1)).toNat) (S + (n - ((n - (i + 1)).toNat : Nat))) (X + (n - ((n - (i + 1)).toNat : Nat))) f 3) = _
  rw [show S + (n - (((n - (i + 1)).toNat : Nat) : Int)) = S + i + 1 by omega, show X + (n - (((n - (i + 1)).toNat : Nat) : Int)) = X + i + 1 by omega]
theorem pmin_next {D : SG} {r : Int → Int} {t x f w : Int} (h : 0 ≤ w) : pmin D r t x f (w + 1).toNat = mn (pmin D r t x f w.toNat) (wyv D r t x f w) := by
  rw [show (w + 1).toNat = w.toNat + 1 by omega]
  show mn _ (wyv D r t x f ((w.toNat : Nat) : Int)) = _
  rw [show ((w.toNat : Nat) : Int) = w by omega]
/-- the first way of the least -/
noncomputable def fbw (D : SG) (r : Int → Int) (t x f : Int) : Int := if wyv D r t x f 0 = pmin D r t x f 3 then 0 else if wyv D r t x f 1 = pmin D r t x f 3 then 1 else 2
theorem mn_cases (a b : Int) : (mn a b = a ∨ mn a b = b) := by unfold mn; (repeat' split) <;> omega
theorem fbw_is (D : SG) (r : Int → Int) (t x f : Int) : wyv D r t x f (fbw D r t x f) = pmin D r t x f 3 := by
  have e : pmin D r t x f 3 = mn (mn (mn (-1) (wyv D r t x f 0)) (wyv D r t x f 1)) (wyv D r t x f 2) := rfl
  unfold fbw
  split
  · rename_i h; exact h
  · rename_i h0
    split
    · rename_i h; exact h
    · rename_i h1
      rw [e] at h0 h1 ⊢
      have e0 : mn (-1) (wyv D r t x f 0) = wyv D r t x f 0 := by unfold mn; rw [if_pos (by omega)]
      rw [e0] at h0 h1 ⊢
      rcases mn_cases (mn (wyv D r t x f 0) (wyv D r t x f 1)) (wyv D r t x f 2) with q | q
      · rcases mn_cases (wyv D r t x f 0) (wyv D r t x f 1) with q2 | q2
        · rw [q2] at q; rw [q2] at h0; exact absurd q.symm h0
        · rw [q2] at q; rw [q2] at h1; exact absurd q.symm h1
      · exact q.symm
theorem fbw_in (D : SG) (r : Int → Int) (t x f : Int) : 0 ≤ fbw D r t x f ∧ fbw D r t x f ≤ 2 := by unfold fbw; (repeat' split) <;> omega
/-- the way that is wanted, of the least -/
noncomputable def lwF (D : SG) (S X g n i : Int) : Nat → Int → Int
  | 0 => fun _ => -1
  | l + 1 => fun a => if a = g then -1 else if n - (l + 1) = i then fbw D (wg D S X g n l) (S + (n - l)) (X + (n - l)) a else lwF D S X g n i l (bes a (fbw D (wg D S X g n l) (S + (n - l)) (X + (n - l)) a))
theorem lwF_step {D : SG} {S X g n w i a : Int} (h0 : 0 ≤ i) (h1 : i < n) : lwF D S X g n w (n - i).toNat a = if a = g then -1 else if i = w then fbw D (wg D S X g n (n - (i + 1)).toNat) (S + i + 1) (X + i + 1) a else lwF D S X g n w (n - (i + 1)).toNat (bes a (fbw D (wg D S X g n (n - (i + 1)).toNat) (S + i + 1) (X + i + 1) a)) := by
  rw [show (n - i).toNat = (n - (i + 1)).toNat + 1 by omega]
  show (if a = g then (-1 : Int) else if n - ((((n - (i + 1)).toNat : Nat) : Int) + 1) = w then fbw D (wg D S X g n (n - (i + 1)).toNat) (S + (n - ((n - (i + 1)).toNat : Nat))) (X + (n - ((n - (i + 1)).toNat : Nat))) a else lwF D S X g n w (n - (i + 1)).toNat (bes a (fbw D (wg D S X g n (n - (i + 1)).toNat) (S + (n - ((n - (i + 1)).toNat : Nat))) (X + (n - ((n - (i + 1)).toNat : Nat))) a))) = _
  rw [show S + (n - (((n - (i + 1)).toNat : Nat) : Int)) = S + i + 1 by omega, show X + (n - (((n - (i + 1)).toNat : Nat) : Int)) = X + i + 1 by omega, show n - ((((n - (i + 1)).toNat : Nat) : Int) + 1) = i by omega]
theorem wg_walk {D : SG} {S X g n i a : Int} (h0 : 0 ≤ i) (h1 : i < n) (hg : a ≠ g) (h : 0 ≤ wg D S X g n (n - i).toNat a) : (0 ≤ bes a (fbw D (wg D S X g n (n - (i + 1)).toNat) (S + i + 1) (X + i + 1) a) ∧ bes a (fbw D (wg D S X g n (n - (i + 1)).toNat) (S + i + 1) (X + i + 1) a) < D 9 0) ∧ can D a (S + i + 1) (fbw D (wg D S X g n (n - (i + 1)).toNat) (S + i + 1) (X + i + 1) a) ∧ 0 ≤ wg D S X g n (n - (i + 1)).toNat (bes a (fbw D (wg D S X g n (n - (i + 1)).toNat) (S + i + 1) (X + i + 1) a)) := by
  rw [wg_step h0 h1, if_neg hg, ← fbw_is] at h
  generalize fbw D (wg D S X g n (n - (i + 1)).toNat) (S + i + 1) (X + i + 1) a = w at h ⊢
  unfold wyv at h
  by_cases hc : can D a (S + i + 1) w
  · rw [cif_pos hc] at h
    refine ⟨hc.2.1, hc, ?_⟩
    split at h <;> omega
  · rw [cif_neg hc] at h; omega
set_option maxRecDepth 100000 in
set_option maxHeartbeats 4000000 in
theorem c_X3_fewestSteps (l : Launch) (K : WK) (σ : SG) {S X L P : Int} (hm : σ 31 0 = S ∧ σ 31 1 = X ∧ σ 31 2 = L ∧ σ 31 3 = P) {b : Nat} (hb : b = 3 ∨ b = 17) {D : SG} (hS : sD σ b D) (hF : okF D) (hH : okH D) (hO : okQ D) (hSS : 0 ≤ S ∧ S ≤ 100000000) (hX : 0 ≤ X ∧ X ≤ 100000000) {f g : Int} (hf : 0 ≤ f ∧ f < D 9 0) (hg0 : 0 ≤ g ∧ g < D 9 0) : MI l yX3_fewestSteps cX3_fewestSteps 8 (some .int) 3 67 K σ [.ref (K.2.2 43), .ref (K.2.2 b), .ref (K.2.2 31), .int (iI f), .int (iI g)] (fun z τ => σ = τ ∧ isW (fun k => ps D S f g k.toNat = g) 201 z) := by
  refine met_of [(0, .ref (K.2.2 43)), (1, .ref (K.2.2 b)), (2, .ref (K.2.2 31)), (3, .int (iI f)), (4, .int (iI g))] (by decide +kernel) (Nat.le_of_ble_eq_true rfl) rfl ?_
  intro pP eE sS mM bW mT cC B hrt hlk
  replace B : CB pP sS mM [.ref (K.2.2 43), .ref (K.2.2 b), .ref (K.2.2 31), .int (iI f), .int (iI g)].toArray cC cX3_fewestSteps RX3 8 K := B
  obtain ⟨hF0, hF1⟩ := id hF
  refine g_iload_n (pc' := 1) B 3 rfl rfl dX3_fewestSteps_0 rfl ?_
  refine g_istore (pc' := 3) B [(5, .int (iI f)), (0, .ref (K.2.2 43)), (1, .ref (K.2.2 b)), (2, .ref (K.2.2 31)), (3, .int (iI f)), (4, .int (iI g))] dX3_fewestSteps_1 rfl (by decide) rfl ?_
  refine g_iconst (pc' := 4) B dX3_fewestSteps_3 rfl ?_
  refine g_istore (pc' := 6) B [(6, .int (iI 0)), (5, .int (iI f)), (0, .ref (K.2.2 43)), (1, .ref (K.2.2 b)), (2, .ref (K.2.2 31)), (3, .int (iI f)), (4, .int (iI g))] dX3_fewestSteps_4 rfl (by decide) rfl ?_
  have L6 : ∀ (nn : Nat) (a n : Int) , (200 - n).toNat = nn → (0 ≤ n ∧ n ≤ 200) → (a = ps D S f g n.toNat) → (∀ k : Int, 0 ≤ k → k < n → ¬ ps D S f g k.toNat = g) → (0 ≤ a ∧ a < D 9 0) → G pP l eE (rmo 3 67) sS mM [.ref (K.2.2 43), .ref (K.2.2 b), .ref (K.2.2 31), .int (iI f), .int (iI g)].toArray bW mT cC 0 0 (MQ bW (Qi K (fun z τ => σ = τ ∧ isW (fun k => ps D S f g k.toNat = g) 201 z)) [.ref (K.2.2 43), .ref (K.2.2 b), .ref (K.2.2 31), .int (iI f), .int (iI g)].toArray sS 0 0 (wA K)) K sS.heap 8 σ 6 [(6, .int (iI n)), (5, .int (iI a)), (0, .ref (K.2.2 43)), (1, .ref (K.2.2 b)), (2, .ref (K.2.2 31)), (3, .int (iI f)), (4, .int (iI g))] [] := by
    intro nn
    induction nn using Nat.strongRecOn with
    | _ nn ih6 =>
      intro a n hn6 i1 i2 i3 i4
      refine g_iload (pc' := 8) B 1 rfl dX3_fewestSteps_6 rfl ?_
      refine g_iload (pc' := 10) B 6 rfl dX3_fewestSteps_8 rfl ?_
      refine g_icmp_eq (pc' := 13) B 75 (by omega) (by omega) dX3_fewestSteps_10 (by decide) rfl (fun c10 => ?_) (fun c10 => ?_)
      · refine g_iload (pc' := 77) B 1 rfl dX3_fewestSteps_75 rfl ?_
        refine g_iload (pc' := 79) B 6 rfl dX3_fewestSteps_77 rfl ?_
        refine g_icmp_ne (pc' := 82) B 87 (by omega) (by omega) dX3_fewestSteps_79 (by decide) rfl (fun c79 => ?_) (fun c79 => ?_)
        · refine g_iconst (pc' := 88) B dX3_fewestSteps_87 rfl ?_
          exact g_iret (z := (-1)) B hrt rfl hlk dX3_fewestSteps_88 ⟨rfl, by first | (exfalso; omega) | exact Or.inl ⟨by omega, by omega, by show ps D S f g n.toNat = g; rw [← i2]; omega, i3⟩ | exact Or.inr ⟨rfl, fun k a9 b9 => by by_cases e9 : k < n; exact i3 k a9 e9; (rw [show k = n by omega]; show ¬ ps D S f g n.toNat = g; rw [← i2]; omega)⟩⟩
        · refine g_iload (pc' := 84) B 0 rfl dX3_fewestSteps_82 rfl ?_
          refine g_goto (pc' := 88) B dX3_fewestSteps_84 (by decide) ?_
          exact g_iret (z := n) B hrt rfl hlk dX3_fewestSteps_88 ⟨rfl, by first | (exfalso; omega) | exact Or.inl ⟨by omega, by omega, by show ps D S f g n.toNat = g; rw [← i2]; omega, i3⟩ | exact Or.inr ⟨rfl, fun k a9 b9 => by by_cases e9 : k < n; exact i3 k a9 e9; (rw [show k = n by omega]; show ¬ ps D S f g n.toNat = g; rw [← i2]; omega)⟩⟩
      · refine g_iload (pc' := 15) B 0 rfl dX3_fewestSteps_13 rfl ?_
        refine g_sipush (pc' := 18) B (by decide +kernel) dX3_fewestSteps_15 rfl ?_
        refine g_icmp_ge (pc' := 21) B 75 (by omega) (by omega) dX3_fewestSteps_18 (by decide) rfl (fun c18 => ?_) (fun c18 => ?_)
        · refine g_iload (pc' := 77) B 1 rfl dX3_fewestSteps_75 rfl ?_
          refine g_iload (pc' := 79) B 6 rfl dX3_fewestSteps_77 rfl ?_
          refine g_icmp_ne (pc' := 82) B 87 (by omega) (by omega) dX3_fewestSteps_79 (by decide) rfl (fun c79 => ?_) (fun c79 => ?_)
          · refine g_iconst (pc' := 88) B dX3_fewestSteps_87 rfl ?_
            exact g_iret (z := (-1)) B hrt rfl hlk dX3_fewestSteps_88 ⟨rfl, by first | (exfalso; omega) | exact Or.inl ⟨by omega, by omega, by show ps D S f g n.toNat = g; rw [← i2]; omega, i3⟩ | exact Or.inr ⟨rfl, fun k a9 b9 => by by_cases e9 : k < n; exact i3 k a9 e9; (rw [show k = n by omega]; show ¬ ps D S f g n.toNat = g; rw [← i2]; omega)⟩⟩
          · refine g_iload (pc' := 84) B 0 rfl dX3_fewestSteps_82 rfl ?_
            refine g_goto (pc' := 88) B dX3_fewestSteps_84 (by decide) ?_
            exact g_iret (z := n) B hrt rfl hlk dX3_fewestSteps_88 ⟨rfl, by first | (exfalso; omega) | exact Or.inl ⟨by omega, by omega, by show ps D S f g n.toNat = g; rw [← i2]; omega, i3⟩ | exact Or.inr ⟨rfl, fun k a9 b9 => by by_cases e9 : k < n; exact i3 k a9 e9; (rw [show k = n by omega]; show ¬ ps D S f g n.toNat = g; rw [← i2]; omega)⟩⟩
        · refine g_iinc (pc' := 24) B 0 [(6, .int (iI (n + 1))), (5, .int (iI a)), (0, .ref (K.2.2 43)), (1, .ref (K.2.2 b)), (2, .ref (K.2.2 31)), (3, .int (iI f)), (4, .int (iI g))] dX3_fewestSteps_21 rfl rfl (by decide) rfl ?_
          refine g_iload (pc' := 26) B 1 rfl dX3_fewestSteps_24 rfl ?_
          refine g_iload (pc' := 28) B 6 rfl dX3_fewestSteps_26 rfl ?_
          refine g_icmp_ge (pc' := 31) B 38 (by omega) (by omega) dX3_fewestSteps_28 (by decide) rfl (fun c28 => ?_) (fun c28 => ?_)
          · refine g_iload (pc' := 40) B 1 rfl dX3_fewestSteps_38 rfl ?_
            refine g_iconst (pc' := 41) B dX3_fewestSteps_40 rfl ?_
            refine g_isub (pc' := 42) B dX3_fewestSteps_41 rfl ?_
            refine g_istore (pc' := 44) B [(7, .int (iI (a - 1))), (6, .int (iI (n + 1))), (5, .int (iI a)), (0, .ref (K.2.2 43)), (1, .ref (K.2.2 b)), (2, .ref (K.2.2 31)), (3, .int (iI f)), (4, .int (iI g))] dX3_fewestSteps_42 rfl (by decide) rfl ?_
            refine g_aload_n (pc' := 45) B 4 rfl rfl dX3_fewestSteps_44 rfl ?_
            refine g_getR (pc' := 48) B (b + 7) fl_X3_22 (ly_S hb) rfl dX3_fewestSteps_45 rfl ?_
            refine g_iload (pc' := 50) B 2 rfl dX3_fewestSteps_48 rfl ?_
            refine g_iload (pc' := 52) B 0 rfl dX3_fewestSteps_50 rfl ?_
            refine g_mmin (pc' := 55) B (by omega) (by omega) tw_699 (by decide) (Nat.le_of_ble_eq_true rfl) (Nat.zero_le _) (Nat.zero_le _) dX3_fewestSteps_52 rfl ?_
            refine g_aload_n (pc' := 56) B 5 rfl rfl dX3_fewestSteps_55 rfl ?_
            refine g_get (pc' := 59) B S hm.1 fl_X3_34 rfl rfl dX3_fewestSteps_56 rfl ?_
            refine g_iload (pc' := 61) B 1 rfl dX3_fewestSteps_59 rfl ?_
            refine g_iadd (pc' := 62) B dX3_fewestSteps_61 rfl ?_
            refine g_callVI (pc' := 65) (As := [.int (iI (min a (a - 1))), .int (iI (S + (n + 1)))]) B (c_X6_letsThrough l K _ (q := b + 7) (D := D) (gp := min a (a - 1)) (t := S + (n + 1)) (by omega) hS.2.1 hO (by omega) (by omega)) vt_X6_letsThrough tw_700 (ly_Q (by omega)) rfl ⟨by decide, by decide⟩ rfl (Nat.le_of_ble_eq_true rfl) ⟨Nat.zero_le _, Nat.zero_le _⟩ rfl dX3_fewestSteps_62 rfl (fun z62 τ62 h62 => ?_)
            obtain ⟨rfl, h62⟩ := h62
            rcases h62 with ⟨h62, rfl⟩ | ⟨h62, rfl⟩
            · refine g_if_eq (pc' := 68) B 72 (by omega) dX3_fewestSteps_65 (by decide) rfl (fun q => absurd q (by decide)) (fun _ => ?_)
              refine g_iload (pc' := 70) B 0 rfl dX3_fewestSteps_68 rfl ?_
              refine g_istore (pc' := 72) B [(5, .int (iI (a - 1))), (7, .int (iI (a - 1))), (6, .int (iI (n + 1))), (0, .ref (K.2.2 43)), (1, .ref (K.2.2 b)), (2, .ref (K.2.2 31)), (3, .int (iI f)), (4, .int (iI g))] dX3_fewestSteps_70 rfl (by decide) rfl ?_
              refine g_goto (pc' := 6) B dX3_fewestSteps_72 (by decide) ?_
              refine g_loc B [(6, .int (iI (n + 1))), (5, .int (iI (a - 1))), (0, .ref (K.2.2 43)), (1, .ref (K.2.2 b)), (2, .ref (K.2.2 31)), (3, .int (iI f)), (4, .int (iI g))] [2, 0, 3, 4, 5, 6, 7] rfl ?_
              exact ih6 _ (by omega) (a - 1) (n + 1) rfl (by omega) (by rw [ps_next (by omega) i2, if_neg c10]; first | (rw [if_pos c28]; first | rw [cif_pos h62] | rw [cif_neg h62]) | (rw [if_neg (by omega)]; first | rw [cif_pos h62] | rw [cif_neg h62])) (by intro k a9 b9; by_cases e9 : k = n; (subst e9; rw [← i2]; exact c10); exact i3 k a9 (by omega)) (by omega)
            · refine g_if_eq (pc' := 68) B 72 (by omega) dX3_fewestSteps_65 (by decide) rfl (fun _ => ?_) (fun q => absurd q (by decide))
              refine g_goto (pc' := 6) B dX3_fewestSteps_72 (by decide) ?_
              refine g_loc B [(6, .int (iI (n + 1))), (5, .int (iI a)), (0, .ref (K.2.2 43)), (1, .ref (K.2.2 b)), (2, .ref (K.2.2 31)), (3, .int (iI f)), (4, .int (iI g))] [1, 2, 3, 4, 5, 6, 7] rfl ?_
              exact ih6 _ (by omega) a (n + 1) rfl (by omega) (by rw [ps_next (by omega) i2, if_neg c10]; first | (rw [if_pos c28]; first | rw [cif_pos h62] | rw [cif_neg h62]) | (rw [if_neg (by omega)]; first | rw [cif_pos h62] | rw [cif_neg h62])) (by intro k a9 b9; by_cases e9 : k = n; (subst e9; rw [← i2]; exact c10); exact i3 k a9 (by omega)) (by omega)
          · refine g_iload (pc' := 33) B 1 rfl dX3_fewestSteps_31 rfl ?_
            refine g_iconst (pc' := 34) B dX3_fewestSteps_33 rfl ?_
            refine g_iadd (pc' := 35) B dX3_fewestSteps_34 rfl ?_
            refine g_goto (pc' := 42) B dX3_fewestSteps_35 (by decide) ?_
            refine g_istore (pc' := 44) B [(7, .int (iI (a + 1))), (6, .int (iI (n + 1))), (5, .int (iI a)), (0, .ref (K.2.2 43)), (1, .ref (K.2.2 b)), (2, .ref (K.2.2 31)), (3, .int (iI f)), (4, .int (iI g))] dX3_fewestSteps_42 rfl (by decide) rfl ?_
            refine g_aload_n (pc' := 45) B 4 rfl rfl dX3_fewestSteps_44 rfl ?_
            refine g_getR (pc' := 48) B (b + 7) fl_X3_22 (ly_S hb) rfl dX3_fewestSteps_45 rfl ?_
            refine g_iload (pc' := 50) B 2 rfl dX3_fewestSteps_48 rfl ?_
            refine g_iload (pc' := 52) B 0 rfl dX3_fewestSteps_50 rfl ?_
            refine g_mmin (pc' := 55) B (by omega) (by omega) tw_699 (by decide) (Nat.le_of_ble_eq_true rfl) (Nat.zero_le _) (Nat.zero_le _) dX3_fewestSteps_52 rfl ?_
            refine g_aload_n (pc' := 56) B 5 rfl rfl dX3_fewestSteps_55 rfl ?_
            refine g_get (pc' := 59) B S hm.1 fl_X3_34 rfl rfl dX3_fewestSteps_56 rfl ?_
            refine g_iload (pc' := 61) B 1 rfl dX3_fewestSteps_59 rfl ?_
            refine g_iadd (pc' := 62) B dX3_fewestSteps_61 rfl ?_
            refine g_callVI (pc' := 65) (As := [.int (iI (min a (a + 1))), .int (iI (S + (n + 1)))]) B (c_X6_letsThrough l K _ (q := b + 7) (D := D) (gp := min a (a + 1)) (t := S + (n + 1)) (by omega) hS.2.1 hO (by omega) (by omega)) vt_X6_letsThrough tw_700 (ly_Q (by omega)) rfl ⟨by decide, by decide⟩ rfl (Nat.le_of_ble_eq_true rfl) ⟨Nat.zero_le _, Nat.zero_le _⟩ rfl dX3_fewestSteps_62 rfl (fun z62 τ62 h62 => ?_)
            obtain ⟨rfl, h62⟩ := h62
            rcases h62 with ⟨h62, rfl⟩ | ⟨h62, rfl⟩
            · refine g_if_eq (pc' := 68) B 72 (by omega) dX3_fewestSteps_65 (by decide) rfl (fun q => absurd q (by decide)) (fun _ => ?_)
              refine g_iload (pc' := 70) B 0 rfl dX3_fewestSteps_68 rfl ?_
              refine g_istore (pc' := 72) B [(5, .int (iI (a + 1))), (7, .int (iI (a + 1))), (6, .int (iI (n + 1))), (0, .ref (K.2.2 43)), (1, .ref (K.2.2 b)), (2, .ref (K.2.2 31)), (3, .int (iI f)), (4, .int (iI g))] dX3_fewestSteps_70 rfl (by decide) rfl ?_
              refine g_goto (pc' := 6) B dX3_fewestSteps_72 (by decide) ?_
              refine g_loc B [(6, .int (iI (n + 1))), (5, .int (iI (a + 1))), (0, .ref (K.2.2 43)), (1, .ref (K.2.2 b)), (2, .ref (K.2.2 31)), (3, .int (iI f)), (4, .int (iI g))] [2, 0, 3, 4, 5, 6, 7] rfl ?_
              exact ih6 _ (by omega) (a + 1) (n + 1) rfl (by omega) (by rw [ps_next (by omega) i2, if_neg c10]; first | (rw [if_pos c28]; first | rw [cif_pos h62] | rw [cif_neg h62]) | (rw [if_neg (by omega)]; first | rw [cif_pos h62] | rw [cif_neg h62])) (by intro k a9 b9; by_cases e9 : k = n; (subst e9; rw [← i2]; exact c10); exact i3 k a9 (by omega)) (by omega)
            · refine g_if_eq (pc' := 68) B 72 (by omega) dX3_fewestSteps_65 (by decide) rfl (fun _ => ?_) (fun q => absurd q (by decide))
              refine g_goto (pc' := 6) B dX3_fewestSteps_72 (by decide) ?_
              refine g_loc B [(6, .int (iI (n + 1))), (5, .int (iI a)), (0, .ref (K.2.2 43)), (1, .ref (K.2.2 b)), (2, .ref (K.2.2 31)), (3, .int (iI f)), (4, .int (iI g))] [1, 2, 3, 4, 5, 6, 7] rfl ?_
              exact ih6 _ (by omega) a (n + 1) rfl (by omega) (by rw [ps_next (by omega) i2, if_neg c10]; first | (rw [if_pos c28]; first | rw [cif_pos h62] | rw [cif_neg h62]) | (rw [if_neg (by omega)]; first | rw [cif_pos h62] | rw [cif_neg h62])) (by intro k a9 b9; by_cases e9 : k = n; (subst e9; rw [← i2]; exact c10); exact i3 k a9 (by omega)) (by omega)
  exact L6 _ f 0 rfl (by omega) (by rfl) (by intro k a9 b9; omega) (by omega)
set_option maxRecDepth 100000 in
set_option maxHeartbeats 4000000 in
theorem c_X3_pulledFrom (l : Launch) (K : WK) (σ : SG) {i f m : Int} (hmo : σ 43 2 = m) (hi : 0 ≤ i ∧ i ≤ m ∧ m ≤ 30) (hf : 0 ≤ f ∧ f ≤ 7) : MI l yX3_pulledFrom cX3_pulledFrom 3 (some .int) 1 22 K σ [.ref (K.2.2 43), .int (iI i), .int (iI f)] (fun z τ => σ = τ ∧ z = σ 44 (i * 8 + f)) := by
  refine met_of [(0, .ref (K.2.2 43)), (1, .int (iI i)), (2, .int (iI f))] (by decide +kernel) (Nat.le_of_ble_eq_true rfl) rfl ?_
  intro pP eE sS mM bW mT cC B hrt hlk
  replace B : CB pP sS mM [.ref (K.2.2 43), .int (iI i), .int (iI f)].toArray cC cX3_pulledFrom RX3 3 K := B
  refine g_iload_n (pc' := 1) B 1 rfl rfl dX3_pulledFrom_0 rfl ?_
  refine g_iconst (pc' := 2) B dX3_pulledFrom_1 rfl ?_
  refine g_aload_n (pc' := 3) B 0 rfl rfl dX3_pulledFrom_2 rfl ?_
  refine g_get (pc' := 6) B m hmo fl_X3_19 rfl rfl dX3_pulledFrom_3 rfl ?_
  refine g_callNI (pc' := 9) (As := [.int (iI i), .int (iI 0), .int (iI m)]) B (c_X11_isOutside l K _ (v := i) (low := 0) (high := m) (by omega) (by omega) (by omega)) st_X11_isOutside tw_721 ⟨by decide, by decide⟩ rfl (Nat.le_of_ble_eq_true rfl) ⟨Nat.zero_le _, Nat.zero_le _⟩ rfl dX3_pulledFrom_6 rfl (fun z6 τ6 h6 => ?_)
  obtain ⟨rfl, h6⟩ := h6
  rcases h6 with ⟨h6, rfl⟩ | ⟨h6, rfl⟩
  · exfalso; omega
  · refine g_if_ne (pc' := 12) B 22 (by omega) dX3_pulledFrom_9 (by decide) rfl (fun q => absurd q (by decide)) (fun _ => ?_)
    refine g_iload_n (pc' := 13) B 2 rfl rfl dX3_pulledFrom_12 rfl ?_
    refine g_iconst (pc' := 14) B dX3_pulledFrom_13 rfl ?_
    refine g_bipush (pc' := 16) B (by decide +kernel) dX3_pulledFrom_14 rfl ?_
    refine g_callNI (pc' := 19) (As := [.int (iI f), .int (iI 0), .int (iI 7)]) B (c_X11_isOutside l K _ (v := f) (low := 0) (high := 7) (by omega) (by omega) (by omega)) st_X11_isOutside tw_721 ⟨by decide, by decide⟩ rfl (Nat.le_of_ble_eq_true rfl) ⟨Nat.zero_le _, Nat.zero_le _⟩ rfl dX3_pulledFrom_16 rfl (fun z16 τ16 h16 => ?_)
    obtain ⟨rfl, h16⟩ := h16
    rcases h16 with ⟨h16, rfl⟩ | ⟨h16, rfl⟩
    · exfalso; omega
    · refine g_if_eq (pc' := 22) B 25 (by omega) dX3_pulledFrom_19 (by decide) rfl (fun _ => ?_) (fun q => absurd q (by decide))
      refine g_aload_n (pc' := 26) B 0 rfl rfl dX3_pulledFrom_25 rfl ?_
      refine g_getR (pc' := 29) B 44 fl_X3_9 rfl rfl dX3_pulledFrom_26 rfl ?_
      refine g_iload_n (pc' := 30) B 1 rfl rfl dX3_pulledFrom_29 rfl ?_
      refine g_bipush (pc' := 32) B (by decide +kernel) dX3_pulledFrom_30 rfl ?_
      refine g_imul (pc' := 33) B dX3_pulledFrom_32 rfl ?_
      refine g_iload_n (pc' := 34) B 2 rfl rfl dX3_pulledFrom_33 rfl ?_
      refine g_iadd (pc' := 35) B dX3_pulledFrom_34 rfl ?_
      refine g_iald (pc' := 36) B (σ 44 ((i * 8) + f)) rfl rfl (by omega) (by decide) dX3_pulledFrom_35 rfl ?_
      exact g_iret (z := σ 44 ((i * 8) + f)) B hrt rfl hlk dX3_pulledFrom_36 ⟨rfl, rfl⟩
set_option maxRecDepth 100000 in
set_option maxHeartbeats 4000000 in
theorem c_X3_pulledBy (l : Launch) (K : WK) (σ : SG) {S X L P : Int} (hm : σ 31 0 = S ∧ σ 31 1 = X ∧ σ 31 2 = L ∧ σ 31 3 = P) {b : Nat} (hb : b = 3 ∨ b = 17) {D : SG} (hS : sD σ b D) (hF : okF D) (hH : okH D) (hO : okQ D) (hSS : 0 ≤ S ∧ S ≤ 100000000) (hX : 0 ≤ X ∧ X ≤ 100000000) {r : Int → Int} {m i f w : Int} (hmo : σ 43 2 = m) (hi : 0 ≤ i ∧ i < m ∧ m ≤ 30) (hf : 0 ≤ f ∧ f < D 9 0) (hw : 0 ≤ w ∧ w ≤ 2) (hr : ∀ y : Int, 0 ≤ y → y < D 9 0 → σ 44 ((i + 1) * 8 + y) = enc (r y) ∧ -1 ≤ r y ∧ r y ≤ 100000) : MI l yX3_pulledBy cX3_pulledBy 8 (some .int) 4 89 K σ [.ref (K.2.2 43), .ref (K.2.2 b), .ref (K.2.2 31), .int (iI i), .int (iI f), .int (iI w)] (fun z τ => σ = τ ∧ z = enc (wyv D r (S + i + 1) (X + i + 1) f w)) := by
  refine met_of [(0, .ref (K.2.2 43)), (1, .ref (K.2.2 b)), (2, .ref (K.2.2 31)), (3, .int (iI i)), (4, .int (iI f)), (5, .int (iI w))] (by decide +kernel) (Nat.le_of_ble_eq_true rfl) rfl ?_
  intro pP eE sS mM bW mT cC B hrt hlk
  replace B : CB pP sS mM [.ref (K.2.2 43), .ref (K.2.2 b), .ref (K.2.2 31), .int (iI i), .int (iI f), .int (iI w)].toArray cC cX3_pulledBy RX3 8 K := B
  obtain ⟨hF0, hF1⟩ := id hF
  have hbb := bes_bd f w
  have hb0 : bes f w = f ↔ w = 0 := by unfold bes; (repeat' split) <;> omega
  refine g_iload (pc' := 2) B 4 rfl dX3_pulledBy_0 rfl ?_
  refine g_iload (pc' := 4) B 5 rfl dX3_pulledBy_2 rfl ?_
  refine g_callNI (pc' := 7) (As := [.int (iI f), .int (iI w)]) B (c_X11_besideOf l K _ (f := f) (way := w) (by omega) (by omega)) st_X11_besideOf tw_715 ⟨by decide, by decide⟩ rfl (Nat.le_of_ble_eq_true rfl) ⟨Nat.zero_le _, Nat.zero_le _⟩ rfl dX3_pulledBy_4 rfl (fun z4 τ4 h4 => ?_)
  obtain ⟨rfl, rfl⟩ := h4
  refine g_istore (pc' := 9) B [(6, .int (iI (bes f w))), (0, .ref (K.2.2 43)), (1, .ref (K.2.2 b)), (2, .ref (K.2.2 31)), (3, .int (iI i)), (4, .int (iI f)), (5, .int (iI w))] dX3_pulledBy_7 rfl (by decide) rfl ?_
  refine g_aload_n (pc' := 10) B 2 rfl rfl dX3_pulledBy_9 rfl ?_
  refine g_getR (pc' := 13) B (b + 1) fl_X3_48 (ly_S hb) rfl dX3_pulledBy_10 rfl ?_
  refine g_iload (pc' := 15) B 0 rfl dX3_pulledBy_13 rfl ?_
  refine g_callVI (pc' := 18) (As := [.int (iI (bes f w))]) B (c_X2_has l K _ (g := b + 1) (D := D) (f := bes f w) (by omega) hS.1 hF (by omega)) vt_X2_has tw_716 (ly_G (by omega)) rfl ⟨by decide, by decide⟩ rfl (Nat.le_of_ble_eq_true rfl) ⟨Nat.zero_le _, Nat.zero_le _⟩ rfl dX3_pulledBy_15 rfl (fun z15 τ15 h15 => ?_)
  obtain ⟨rfl, h15⟩ := h15
  rcases h15 with ⟨h15, rfl⟩ | ⟨h15, rfl⟩
  · refine g_if_ne (pc' := 21) B 24 (by omega) dX3_pulledBy_18 (by decide) rfl (fun _ => ?_) (fun q => absurd q (by decide))
    refine g_iload (pc' := 26) B 6 rfl dX3_pulledBy_24 rfl ?_
    refine g_if_eq (pc' := 29) B 57 (by omega) dX3_pulledBy_26 (by decide) rfl (fun c26 => ?_) (fun c26 => ?_)
    · refine g_aload_n (pc' := 58) B 1 rfl rfl dX3_pulledBy_57 rfl ?_
      refine g_iload_n (pc' := 59) B 4 rfl rfl dX3_pulledBy_58 rfl ?_
      refine g_iconst (pc' := 60) B dX3_pulledBy_59 rfl ?_
      refine g_iadd (pc' := 61) B dX3_pulledBy_60 rfl ?_
      refine g_iload (pc' := 63) B 0 rfl dX3_pulledBy_61 rfl ?_
      refine g_callVI (pc' := 66) (As := [.int (iI (i + 1)), .int (iI (bes f w))]) B (c_X3_pulledFrom l K _ (i := i + 1) (f := bes f w) (m := m) hmo (by omega) (by omega)) vt_X3_pulledFrom tw_717 rfl rfl ⟨by decide, by decide⟩ rfl (Nat.le_of_ble_eq_true rfl) ⟨Nat.zero_le _, Nat.zero_le _⟩ rfl dX3_pulledBy_63 rfl (fun z63 τ63 h63 => ?_)
      obtain ⟨rfl, rfl⟩ := h63
      refine g_istore (pc' := 68) B [(7, .int (iI (σ 44 ((i + 1) * 8 + (bes f w))))), (6, .int (iI (bes f w))), (0, .ref (K.2.2 43)), (1, .ref (K.2.2 b)), (2, .ref (K.2.2 31)), (3, .int (iI i)), (4, .int (iI f)), (5, .int (iI w))] dX3_pulledBy_66 rfl (by decide) rfl ?_
      have hr9 := hr (bes f w) h15.1 h15.2
      have he9 := enc_bd (a := r (bes f w)) (by omega)
      rw [← hr9.1] at he9
      refine g_iload (pc' := 70) B 0 rfl dX3_pulledBy_68 rfl ?_
      refine g_ldc (z := 1000000) (pc' := 72) B tw_710 (by decide +kernel) dX3_pulledBy_70 rfl ?_
      refine g_icmp_lt (pc' := 75) B 80 (by omega) (by omega) dX3_pulledBy_72 (by decide) rfl (fun c72 => ?_) (fun c72 => ?_)
      · refine g_iload (pc' := 82) B 0 rfl dX3_pulledBy_80 rfl ?_
        refine g_aload_n (pc' := 83) B 3 rfl rfl dX3_pulledBy_82 rfl ?_
        refine g_getR (pc' := 86) B (b + 1) fl_X3_48 (ly_S hb) rfl dX3_pulledBy_83 rfl ?_
        refine g_iload (pc' := 88) B 6 rfl dX3_pulledBy_86 rfl ?_
        refine g_iload (pc' := 90) B 1 rfl dX3_pulledBy_88 rfl ?_
        refine g_aload_n (pc' := 91) B 4 rfl rfl dX3_pulledBy_90 rfl ?_
        refine g_get (pc' := 94) B X hm.2.1 fl_X3_80 rfl rfl dX3_pulledBy_91 rfl ?_
        refine g_iload_n (pc' := 95) B 5 rfl rfl dX3_pulledBy_94 rfl ?_
        refine g_iadd (pc' := 96) B dX3_pulledBy_95 rfl ?_
        refine g_iconst (pc' := 97) B dX3_pulledBy_96 rfl ?_
        refine g_iadd (pc' := 98) B dX3_pulledBy_97 rfl ?_
        refine g_callVI (pc' := 101) (As := [.int (iI f), .int (iI (bes f w)), .int (iI ((X + i) + 1))]) B (c_X2_climb l K _ (g := b + 1) (D := D) (a := f) (b := bes f w) (x := (X + i) + 1) (by omega) hS.1 hF (by omega) (by omega) (by omega) (by omega) (by omega)) vt_X2_climb tw_722 (ly_G (by omega)) rfl ⟨by decide, by decide⟩ rfl (Nat.le_of_ble_eq_true rfl) ⟨Nat.zero_le _, Nat.zero_le _⟩ rfl dX3_pulledBy_98 rfl (fun z98 τ98 h98 => ?_)
        obtain ⟨rfl, rfl⟩ := h98
        refine g_iadd (pc' := 102) B dX3_pulledBy_101 rfl ?_
        exact g_iret (z := (σ 44 ((i + 1) * 8 + (bes f w))) + (max 0 (hgt D (bes f w) ((X + i) + 1) - hgt D f ((X + i) + 1)))) B hrt rfl hlk dX3_pulledBy_102 ⟨rfl, by unfold wyv; rw [cif_pos ⟨hf, h15, by first | exact Or.inl (hb0.mpr c26) | exact Or.inr h48⟩]; rw [hr9.1] at c72; have q7 : ¬ r (bes f w) < 0 := (by unfold enc at c72; split at c72 <;> omega); rw [if_neg q7, hr9.1]; have q6 := hgt_bd (x := X + i + 1) hF h15.1 h15.2; unfold enc; rw [if_neg q7, if_neg (by omega)]⟩
      · refine g_ldc (z := 1000000) (pc' := 77) B tw_710 (by decide +kernel) dX3_pulledBy_75 rfl ?_
        refine g_goto (pc' := 102) B dX3_pulledBy_77 (by decide) ?_
        exact g_iret (z := 1000000) B hrt rfl hlk dX3_pulledBy_102 ⟨rfl, by unfold wyv; rw [cif_pos ⟨hf, h15, by first | exact Or.inl (hb0.mpr c26) | exact Or.inr h48⟩]; rw [hr9.1] at c72; have q7 : r (bes f w) < 0 := (by unfold enc at c72; split at c72 <;> omega); rw [if_pos q7]; rfl⟩
    · refine g_aload_n (pc' := 30) B 2 rfl rfl dX3_pulledBy_29 rfl ?_
      refine g_getR (pc' := 33) B (b + 7) fl_X3_22 (ly_S hb) rfl dX3_pulledBy_30 rfl ?_
      refine g_iload (pc' := 35) B 5 rfl dX3_pulledBy_33 rfl ?_
      refine g_iload (pc' := 37) B 0 rfl dX3_pulledBy_35 rfl ?_
      refine g_mmin (pc' := 40) B (by omega) (by omega) tw_699 (by decide) (Nat.le_of_ble_eq_true rfl) (Nat.zero_le _) (Nat.zero_le _) dX3_pulledBy_37 rfl ?_
      refine g_aload_n (pc' := 41) B 3 rfl rfl dX3_pulledBy_40 rfl ?_
      refine g_get (pc' := 44) B S hm.1 fl_X3_34 rfl rfl dX3_pulledBy_41 rfl ?_
      refine g_iload_n (pc' := 45) B 4 rfl rfl dX3_pulledBy_44 rfl ?_
      refine g_iadd (pc' := 46) B dX3_pulledBy_45 rfl ?_
      refine g_iconst (pc' := 47) B dX3_pulledBy_46 rfl ?_
      refine g_iadd (pc' := 48) B dX3_pulledBy_47 rfl ?_
      refine g_callVI (pc' := 51) (As := [.int (iI (min f (bes f w))), .int (iI ((S + i) + 1))]) B (c_X6_letsThrough l K _ (q := b + 7) (D := D) (gp := min f (bes f w)) (t := (S + i) + 1) (by omega) hS.2.1 hO (by omega) (by omega)) vt_X6_letsThrough tw_700 (ly_Q (by omega)) rfl ⟨by decide, by decide⟩ rfl (Nat.le_of_ble_eq_true rfl) ⟨Nat.zero_le _, Nat.zero_le _⟩ rfl dX3_pulledBy_48 rfl (fun z48 τ48 h48 => ?_)
      obtain ⟨rfl, h48⟩ := h48
      rcases h48 with ⟨h48, rfl⟩ | ⟨h48, rfl⟩
      · refine g_if_ne (pc' := 54) B 57 (by omega) dX3_pulledBy_51 (by decide) rfl (fun _ => ?_) (fun q => absurd q (by decide))
        refine g_aload_n (pc' := 58) B 1 rfl rfl dX3_pulledBy_57 rfl ?_
        refine g_iload_n (pc' := 59) B 4 rfl rfl dX3_pulledBy_58 rfl ?_
        refine g_iconst (pc' := 60) B dX3_pulledBy_59 rfl ?_
        refine g_iadd (pc' := 61) B dX3_pulledBy_60 rfl ?_
        refine g_iload (pc' := 63) B 0 rfl dX3_pulledBy_61 rfl ?_
        refine g_callVI (pc' := 66) (As := [.int (iI (i + 1)), .int (iI (bes f w))]) B (c_X3_pulledFrom l K _ (i := i + 1) (f := bes f w) (m := m) hmo (by omega) (by omega)) vt_X3_pulledFrom tw_717 rfl rfl ⟨by decide, by decide⟩ rfl (Nat.le_of_ble_eq_true rfl) ⟨Nat.zero_le _, Nat.zero_le _⟩ rfl dX3_pulledBy_63 rfl (fun z63 τ63 h63 => ?_)
        obtain ⟨rfl, rfl⟩ := h63
        refine g_istore (pc' := 68) B [(7, .int (iI (σ 44 ((i + 1) * 8 + (bes f w))))), (6, .int (iI (bes f w))), (0, .ref (K.2.2 43)), (1, .ref (K.2.2 b)), (2, .ref (K.2.2 31)), (3, .int (iI i)), (4, .int (iI f)), (5, .int (iI w))] dX3_pulledBy_66 rfl (by decide) rfl ?_
        have hr9 := hr (bes f w) h15.1 h15.2
        have he9 := enc_bd (a := r (bes f w)) (by omega)
        rw [← hr9.1] at he9
        refine g_iload (pc' := 70) B 0 rfl dX3_pulledBy_68 rfl ?_
        refine g_ldc (z := 1000000) (pc' := 72) B tw_710 (by decide +kernel) dX3_pulledBy_70 rfl ?_
        refine g_icmp_lt (pc' := 75) B 80 (by omega) (by omega) dX3_pulledBy_72 (by decide) rfl (fun c72 => ?_) (fun c72 => ?_)
        · refine g_iload (pc' := 82) B 0 rfl dX3_pulledBy_80 rfl ?_
          refine g_aload_n (pc' := 83) B 3 rfl rfl dX3_pulledBy_82 rfl ?_
          refine g_getR (pc' := 86) B (b + 1) fl_X3_48 (ly_S hb) rfl dX3_pulledBy_83 rfl ?_
          refine g_iload (pc' := 88) B 6 rfl dX3_pulledBy_86 rfl ?_
          refine g_iload (pc' := 90) B 1 rfl dX3_pulledBy_88 rfl ?_
          refine g_aload_n (pc' := 91) B 4 rfl rfl dX3_pulledBy_90 rfl ?_
          refine g_get (pc' := 94) B X hm.2.1 fl_X3_80 rfl rfl dX3_pulledBy_91 rfl ?_
          refine g_iload_n (pc' := 95) B 5 rfl rfl dX3_pulledBy_94 rfl ?_
          refine g_iadd (pc' := 96) B dX3_pulledBy_95 rfl ?_
          refine g_iconst (pc' := 97) B dX3_pulledBy_96 rfl ?_
          refine g_iadd (pc' := 98) B dX3_pulledBy_97 rfl ?_
          refine g_callVI (pc' := 101) (As := [.int (iI f), .int (iI (bes f w)), .int (iI ((X + i) + 1))]) B (c_X2_climb l K _ (g := b + 1) (D := D) (a := f) (b := bes f w) (x := (X + i) + 1) (by omega) hS.1 hF (by omega) (by omega) (by omega) (by omega) (by omega)) vt_X2_climb tw_722 (ly_G (by omega)) rfl ⟨by decide, by decide⟩ rfl (Nat.le_of_ble_eq_true rfl) ⟨Nat.zero_le _, Nat.zero_le _⟩ rfl dX3_pulledBy_98 rfl (fun z98 τ98 h98 => ?_)
          obtain ⟨rfl, rfl⟩ := h98
          refine g_iadd (pc' := 102) B dX3_pulledBy_101 rfl ?_
          exact g_iret (z := (σ 44 ((i + 1) * 8 + (bes f w))) + (max 0 (hgt D (bes f w) ((X + i) + 1) - hgt D f ((X + i) + 1)))) B hrt rfl hlk dX3_pulledBy_102 ⟨rfl, by unfold wyv; rw [cif_pos ⟨hf, h15, by first | exact Or.inl (hb0.mpr c26) | exact Or.inr h48⟩]; rw [hr9.1] at c72; have q7 : ¬ r (bes f w) < 0 := (by unfold enc at c72; split at c72 <;> omega); rw [if_neg q7, hr9.1]; have q6 := hgt_bd (x := X + i + 1) hF h15.1 h15.2; unfold enc; rw [if_neg q7, if_neg (by omega)]⟩
        · refine g_ldc (z := 1000000) (pc' := 77) B tw_710 (by decide +kernel) dX3_pulledBy_75 rfl ?_
          refine g_goto (pc' := 102) B dX3_pulledBy_77 (by decide) ?_
          exact g_iret (z := 1000000) B hrt rfl hlk dX3_pulledBy_102 ⟨rfl, by unfold wyv; rw [cif_pos ⟨hf, h15, by first | exact Or.inl (hb0.mpr c26) | exact Or.inr h48⟩]; rw [hr9.1] at c72; have q7 : r (bes f w) < 0 := (by unfold enc at c72; split at c72 <;> omega); rw [if_pos q7]; rfl⟩
      · refine g_if_ne (pc' := 54) B 57 (by omega) dX3_pulledBy_51 (by decide) rfl (fun q => absurd q (by decide)) (fun _ => ?_)
        refine g_ldc (z := 1000000) (pc' := 56) B tw_710 (by decide +kernel) dX3_pulledBy_54 rfl ?_
        exact g_iret (z := 1000000) B hrt rfl hlk dX3_pulledBy_56 ⟨rfl, by unfold wyv; rw [cif_neg (fun q9 => by rcases q9.2.2 with q8 | q8; exact c26 (hb0.mp q8); exact h48 q8)]; rfl⟩
  · refine g_if_ne (pc' := 21) B 24 (by omega) dX3_pulledBy_18 (by decide) rfl (fun q => absurd q (by decide)) (fun _ => ?_)
    refine g_ldc (z := 1000000) (pc' := 23) B tw_710 (by decide +kernel) dX3_pulledBy_21 rfl ?_
    exact g_iret (z := 1000000) B hrt rfl hlk dX3_pulledBy_23 ⟨rfl, by unfold wyv; rw [cif_neg (fun q9 => h15 q9.2.1)]; rfl⟩
