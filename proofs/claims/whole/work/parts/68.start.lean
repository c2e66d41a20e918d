def sg0 : SG := fun k j => if k = 0 then (if j = 1 then 3 else if j = 2 then 17 else if j = 3 then -1 else 0) else if k = 1 then (if j = 4 then -1 else 0) else if k = 3 then (if j = 5 then -1 else 0) else if k = 17 then (if j = 5 then -1 else 0) else if k = 4 then (if j = 6 then 1 else 0) else if k = 18 then (if j = 6 then 1 else 0) else if k = 31 then (if j = 2 then -1 else 0) else if k = 38 then (if j = 2 then -1 else 0) else if k = 41 then (if j = 2 then -1 else 0) else if k = 56 then (if j = 2 then -1 else 0) else if k = 57 then (if j = 18 then -1 else if j = 19 then 1 else 0) else 0
def D00 : SG := fun k j => if k = 9 then (if j = 3 then 1 else 0) else 0
def Z00 : SG := fun _ _ => 0
theorem inv_0 : INV 0 sg0 := by
  have d0 : D00 9 0 = 0 := rfl
  have d1 : D00 9 1 = 0 := rfl
  have d2 : D00 9 2 = 0 := rfl
  have d3 : D00 9 3 = 1 := rfl
  refine ⟨3, D00, 0, 0, -1, 0, 0, 0, fun _ => 0, Z00, Z00, 0, fun _ => 0, fun _ => 0, 0, -1, Z00, Z00, ⟨⟨Or.inl rfl, rfl, rfl, ⟨rfl, rfl, fun f a b => ?_⟩, ⟨rfl, fun f a b => ?_⟩, rfl, fun f a b => ?_⟩, ⟨rfl, rfl, rfl, rfl⟩, rfl, fun f a b => ?_, ⟨rfl, by decide, fun f a b => ?_⟩, ⟨rfl, by decide, fun f a b => ?_⟩, ⟨rfl, by decide, fun f a b => ?_⟩, ⟨rfl, by decide, fun f a b => ?_⟩, rfl, ⟨by decide, rfl, by decide, fun f a b => ?_⟩⟩,
    ⟨⟨rfl, rfl, rfl, rfl, fun f a b => ?_, fun f a b => ?_, fun f a b => ?_⟩, ⟨rfl, rfl, rfl, rfl⟩, rfl, fun f a b => ?_, ⟨rfl, by decide, fun f a b => ?_⟩, ⟨rfl, by decide, fun f a b => ?_⟩, ⟨rfl, by decide, fun f a b => ?_⟩, ⟨rfl, by decide, fun f a b => ?_⟩, rfl, ⟨rfl, by decide, fun f a b => ?_⟩⟩,
    ⟨⟨⟨by decide, fun f a b => ?_⟩, ⟨by decide, fun f a b => ?_⟩, ⟨by decide, fun f a b => ?_⟩, ⟨by decide, fun f a b => ?_⟩⟩, by decide, Or.inl ⟨rfl, rfl⟩, by decide, ⟨rfl, fun f a b => ?_⟩⟩, img_off rfl rfl, img_off rfl rfl⟩ <;> (exfalso; first | omega | (have q0 : Z00 2 0 = 0 := rfl; have q1 : Z00 3 0 = 0 := rfl; have q2 : Z00 4 0 = 0 := rfl; omega))
set_option maxRecDepth 100000 in
set_option maxHeartbeats 4000000 in
theorem wl_st (C : CI) (f : Nat → Nat) : wl (C.1, C.2, f) sg0 = [(f 0, .inr (11, [.ref (f 1), .ref (f 3), .ref (f 17), .int (iI (-1)), .ref (f 31), .ref (f 32), .ref (f 37), .ref (f 40), .ref (f 43), .ref (f 45), .ref (f 50), .ref (f 54), .int (iI 0)])), (f 1, .inr (9, [.ref (f 2), .int (iI 0), .int (iI 0), .int (iI 0), .int (iI (-1))])), (f 2, aI C 250), (f 3, .inr (8, [.ref (f 4), .ref (f 10), .ref (f 15), .ref (f 16), .int (iI 0), .int (iI (-1))])), (f 4, .inr (2, [.ref (f 5), .ref (f 6), .ref (f 7), .ref (f 8), .ref (f 9), .int (iI 0), .int (iI 1)])), (f 5, aI C 8), (f 6, aI C 8), (f 7, aI C 8), (f 8, aI C 8), (f 9, aL C 21), (f 10, .inr (6, [.ref (f 11), .ref (f 12), .ref (f 13), .ref (f 14), .int (iI 0)])), (f 11, aI C 4), (f 12, aI C 4), (f 13, aI C 4), (f 14, aI C 4), (f 15, aI C 4), (f 16, aI C 4), (f 17, .inr (8, [.ref (f 18), .ref (f 24), .ref (f 29), .ref (f 30), .int (iI 0), .int (iI (-1))])), (f 18, .inr (2, [.ref (f 19), .ref (f 20), .ref (f 21), .ref (f 22), .ref (f 23), .int (iI 0), .int (iI 1)])), (f 19, aI C 8), (f 20, aI C 8), (f 21, aI C 8), (f 22, aI C 8), (f 23, aL C 21), (f 24, .inr (6, [.ref (f 25), .ref (f 26), .ref (f 27), .ref (f 28), .int (iI 0)])), (f 25, aI C 4), (f 26, aI C 4), (f 27, aI C 4), (f 28, aI C 4), (f 29, aI C 4), (f 30, aI C 4), (f 31, .inr (5, [.int (iI 0), .int (iI 0), .int (iI (-1)), .int (iI 0)])), (f 32, .inr (10, [.ref (f 33), .ref (f 34), .ref (f 35), .ref (f 36), .int (iI 0), .int (iI 0)])), (f 33, aI C 40), (f 34, aI C 40), (f 35, aI C 40), (f 36, aI C 40), (f 37, .inr (4, [.int (iI 0), .ref (f 38), .ref (f 39), .int (iI 0)])), (f 38, .inr (5, [.int (iI 0), .int (iI 0), .int (iI (-1)), .int (iI 0)])), (f 39, aI C 4), (f 40, .inr (4, [.int (iI 0), .ref (f 41), .ref (f 42), .int (iI 0)])), (f 41, .inr (5, [.int (iI 0), .int (iI 0), .int (iI (-1)), .int (iI 0)])), (f 42, aI C 4), (f 43, .inr (3, [.ref (f 44), .int (iI 0), .int (iI 0)])), (f 44, aI C 248), (f 45, .inr (1, [.ref (f 46), .ref (f 47), .int (iI 0), .ref (f 48), .ref (f 49)])), (f 46, aI C 12), (f 47, aI C 12), (f 48, aI C 248), (f 49, aI C 39), (f 50, .inr (7, [.ref (f 51), .ref (f 52), .ref (f 53), .int (iI 0)])), (f 51, aI C 12), (f 52, aI C 12), (f 53, aI C 12), (f 54, .inr (0, [.ref (f 55), .ref (f 56), .int (iI 0), .int (iI 0)])), (f 55, aI C 30), (f 56, .inr (5, [.int (iI 0), .int (iI 0), .int (iI (-1)), .int (iI 0)])), (f 57, .inr (12, [.ref (f 58), .ref (f 59), .ref (f 60), .ref (f 61), .ref (f 62), .int (iI 0), .int (iI 0), .int (iI 0), .int (iI 0), .int (iI 0), .int (iI 0), .int (iI 0), .int (iI 0), .ref (f 63), .int (iI 0), .int (iI 0), .int (iI 0), .int (iI 0), .int (iI (-1)), .int (iI 1), .ref (f 64), .int (iI 0), .ref (f 65), .ref (f 66), .ref (f 67), .int (iI 0), .ref (f 68), .ref (f 69), .ref (f 70), .ref (f 71), .int (iI 0), .ref (f 72), .ref (f 73), .int (iI 0)])), (f 58, aI C 30), (f 59, aZ C 2), (f 60, aI C 64), (f 61, aI C 16), (f 62, aI C 32), (f 63, aI C 250), (f 64, aI C 160), (f 65, aI C 248), (f 66, aI C 12), (f 67, aI C 12), (f 68, aI C 40), (f 69, aI C 12), (f 70, aI C 12), (f 71, aI C 12), (f 72, aI C 22), (f 73, aI C 30)] := rfl
set_option maxHeartbeats 8000000 in
set_option maxRecDepth 100000 in
theorem whole_start {p : Program} {e : Env} {s : State} {m : MethodId} {below : List Frame} {meth : Method} {c : Code} (l : Launch) {b L : Nat} {xs : Nat → Int32} (hL : L ≤ 320) (C0 : lw_At p s m meth c b L xs) : W p l e room_1 s m #[Value.ref b] below meth c s.heap [] 0 0 (lw_Z below #[Value.ref b] s) (entryFrame m ([Value.ref b] : List Value).toArray 4) := by
  obtain ⟨hx, hb, hr, hml, hown, hts, hX, hbl, hlocks, hgv⟩ := id C0
  obtain ⟨c0, i0, k0⟩ := u_known (C := RX0) (T := TX0) (N := 4) (n := 4) hts (fun w hw => (List.mem_filter.mp (in_0 w hw)).1) (hts _ tw_297)
  obtain ⟨c1, i1, k1⟩ := u_known (C := RX1) (T := TX1) (N := 5) (n := 5) hts (fun w hw => (List.mem_filter.mp (in_1 w hw)).1) (hts _ tw_253)
  obtain ⟨c2, i2, k2⟩ := u_known (C := RX2) (T := TX2) (N := 7) (n := 7) hts (fun w hw => (List.mem_filter.mp (in_2 w hw)).1) (hts _ tw_57)
  obtain ⟨c3, i3, k3⟩ := u_known (C := RX3) (T := TX3) (N := 3) (n := 3) hts (fun w hw => (List.mem_filter.mp (in_3 w hw)).1) (hts _ tw_237)
  obtain ⟨c4, i4, k4⟩ := u_known (C := RX4) (T := TX4) (N := 4) (n := 4) hts (fun w hw => (List.mem_filter.mp (in_4 w hw)).1) (hts _ tw_214)
  obtain ⟨c5, i5, k5⟩ := u_known (C := RX5) (T := TX5) (N := 4) (n := 4) hts (fun w hw => (List.mem_filter.mp (in_5 w hw)).1) (hts _ tw_159)
  obtain ⟨c6, i6, k6⟩ := u_known (C := RX6) (T := TX6) (N := 5) (n := 5) hts (fun w hw => (List.mem_filter.mp (in_6 w hw)).1) (hts _ tw_97)
  obtain ⟨c7, i7, k7⟩ := u_known (C := RX7) (T := TX7) (N := 4) (n := 4) hts (fun w hw => (List.mem_filter.mp (in_7 w hw)).1) (hts _ tw_277)
  obtain ⟨c8, i8, k8⟩ := u_known (C := RX8) (T := TX8) (N := 6) (n := 6) hts (fun w hw => (List.mem_filter.mp (in_8 w hw)).1) (hts _ tw_51)
  obtain ⟨c9, i9, k9⟩ := u_known (C := RX9) (T := TX9) (N := 5) (n := 5) hts (fun w hw => (List.mem_filter.mp (in_9 w hw)).1) (hts _ tw_26)
  obtain ⟨c10, i10, k10⟩ := u_known (C := RX10) (T := TX10) (N := 6) (n := 6) hts (fun w hw => (List.mem_filter.mp (in_10 w hw)).1) (hts _ tw_188)
  obtain ⟨c11, i11, k11⟩ := u_known (C := RX11) (T := TX11) (N := 13) (n := 13) hts (fun w hw => (List.mem_filter.mp (in_11 w hw)).1) (hts _ tw_18)
  obtain ⟨c12, i12, k12⟩ := u_known (C := RX12) (T := TX12) (N := 34) (n := 34) hts (fun w hw => (List.mem_filter.mp (in_12 w hw)).1) (hts _ tw_927)
  obtain ⟨dC, dI, hKc⟩ : ∃ (dC : Nat → ClassId) (dI : Nat → Nat → Nat), ∀ (k : Nat) (q : vw_C), vwCl[k]? = some q → u_Kn s q.1 q.2.1 q.2.2 (dC k) (dI k) := by
    refine ⟨fun k => [c0, c1, c2, c3, c4, c5, c6, c7, c8, c9, c10, c11, c12].getD k c0, fun k => [i0, i1, i2, i3, i4, i5, i6, i7, i8, i9, i10, i11, i12].getD k i0, ?_⟩
    intro k q hq
    match k, hq with
    | 0, hq => cases hq; exact k0
    | 1, hq => cases hq; exact k1
    | 2, hq => cases hq; exact k2
    | 3, hq => cases hq; exact k3
    | 4, hq => cases hq; exact k4
    | 5, hq => cases hq; exact k5
    | 6, hq => cases hq; exact k6
    | 7, hq => cases hq; exact k7
    | 8, hq => cases hq; exact k8
    | 9, hq => cases hq; exact k9
    | 10, hq => cases hq; exact k10
    | 11, hq => cases hq; exact k11
    | 12, hq => cases hq; exact k12
    | k + 13, hq => simp [vwCl] at hq
  obtain ⟨a1, ya1, za1, fa1, ga1, ha1⟩ := Cond.arrayClass_spec (hts _ tw_49)
  obtain ⟨a2, ya2, za2, fa2, ga2, ha2⟩ := Cond.arrayClass_spec (hts _ tw_95)
  obtain ⟨a3, ya3, za3, fa3, ga3, ha3⟩ := Cond.arrayClass_spec (hts _ tw_1035)
  obtain ⟨C, hC⟩ : ∃ C : CI, C = ((dC, dI), (a1, a2, a3)) := ⟨_, rfl⟩
  have hK3 : kO3 C s := by
    subst hC
    refine ⟨⟨hKc, fun k q hq => ?_⟩, fun o i y h hq => va_Nw.of rfl (hts _ hq)⟩
    match k, hq with
    | 0, hq => cases hq; exact ⟨fun n z => ⟨fun k h => (by cases h), ya1, ga1, za1, ha1⟩, fa1⟩
    | 1, hq => cases hq; exact ⟨fun n z => ⟨fun k h => (by cases h), ya2, ga2, za2, ha2⟩, fa2⟩
    | 2, hq => cases hq; exact ⟨fun n z => ⟨fun k h => (by cases h), ya3, ga3, za3, ha3⟩, fa3⟩
    | k + 3, hq => simp at hq
  have hA : ∀ q : Nat, s.heap.size ≤ q → (fun q : Nat => s.heap.size ≤ q) q := fun _ h => h
  have B : CN p s m #[.ref b] c cL_law RL 4 C (fun q : Nat => s.heap.size ≤ q) s.heap := ⟨⟨hx, hb, hml, hown, fun w hw => hts w (List.mem_filter.mp hw).1⟩, hK3, hA⟩
  have hl0 := lv_entry ([.ref b]) (n := 4) (Nat.le_of_ble_eq_true rfl)
  rw [lg_entry_eq]
  suffices h : GN p l e room_1 s m #[.ref b] below meth c 0 0 (lw_Z below #[.ref b] s) C (fun q : Nat => s.heap.size ≤ q) s.heap 4 [] 0 [(0, .ref b)] [] from h s.heap [] _ (fun k q h => by simp at h) ⟨fun i j p q h => by simp at h, fun k q h => by simp at h⟩ va_S.rf hl0
  refine n_nw (pc' := 3) B (ci := 11) in_11 tyX11 tyX11_ok tw_17 tw_18 tw_1 rfl [.null, .null, .null, .int (iI 0), .null, .null, .null, .null, .null, .null, .null, .null, .int (iI 0)] (fun j hj => by rcases (show j = 0 ∨ j = 1 ∨ j = 2 ∨ j = 3 ∨ j = 4 ∨ j = 5 ∨ j = 6 ∨ j = 7 ∨ j = 8 ∨ j = 9 ∨ j = 10 ∨ j = 11 ∨ j = 12 by omega) with rfl | rfl | rfl | rfl | rfl | rfl | rfl | rfl | rfl | rfl | rfl | rfl | rfl <;> rfl) (Nat.le_of_ble_eq_true rfl) (Nat.le_of_ble_eq_true rfl) dL_law_0 rfl (fun q0 => ?_)
  refine n_dup (pc' := 4) B rfl dL_law_3 rfl ?_
  refine n_ci (pc' := 7) B (k_X11_init l C q0) tw_21 tw_20 tw_1 rfl (by decide +kernel) (Or.inl tw_19) ⟨Nat.le_of_ble_eq_true rfl, Nat.le_of_ble_eq_true rfl⟩ [0] [] rfl (wr := []) rfl (by decide) (by decide) (Nat.le_of_ble_eq_true rfl) ⟨Nat.le_of_ble_eq_true rfl, Nat.le_of_ble_eq_true rfl⟩ dL_law_4 rfl (fun w4 h4 => ?_)
  obtain ⟨q1, q2, q3, q4, q5, q6, q7, q8, q9, q10, q11, q12, q13, q14, q15, q16, q17, q18, q19, q20, q21, q22, q23, q24, q25, q26, q27, q28, q29, q30, q31, q32, q33, q34, q35, q36, q37, q38, q39, q40, q41, q42, q43, q44, q45, q46, q47, q48, q49, q50, q51, q52, q53, q54, q55, q56, rfl⟩ := h4
  refine n_as (pc' := 8) B [(1, .ref q0), (0, .ref b)] rfl dL_law_7 rfl (by decide) rfl ?_
  refine n_nw (pc' := 11) B (ci := 12) in_12 tyX12 tyX12_ok tw_926 tw_927 tw_13 rfl [.null, .null, .null, .null, .null, .int (iI 0), .int (iI 0), .int (iI 0), .int (iI 0), .int (iI 0), .int (iI 0), .int (iI 0), .int (iI 0), .null, .int (iI 0), .int (iI 0), .int (iI 0), .int (iI 0), .int (iI 0), .int (iI 0), .null, .int (iI 0), .null, .null, .null, .int (iI 0), .null, .null, .null, .null, .int (iI 0), .null, .null, .int (iI 0)] (fun j hj => by rcases (show j = 0 ∨ j = 1 ∨ j = 2 ∨ j = 3 ∨ j = 4 ∨ j = 5 ∨ j = 6 ∨ j = 7 ∨ j = 8 ∨ j = 9 ∨ j = 10 ∨ j = 11 ∨ j = 12 ∨ j = 13 ∨ j = 14 ∨ j = 15 ∨ j = 16 ∨ j = 17 ∨ j = 18 ∨ j = 19 ∨ j = 20 ∨ j = 21 ∨ j = 22 ∨ j = 23 ∨ j = 24 ∨ j = 25 ∨ j = 26 ∨ j = 27 ∨ j = 28 ∨ j = 29 ∨ j = 30 ∨ j = 31 ∨ j = 32 ∨ j = 33 by omega) with rfl | rfl | rfl | rfl | rfl | rfl | rfl | rfl | rfl | rfl | rfl | rfl | rfl | rfl | rfl | rfl | rfl | rfl | rfl | rfl | rfl | rfl | rfl | rfl | rfl | rfl | rfl | rfl | rfl | rfl | rfl | rfl | rfl | rfl <;> rfl) (Nat.le_of_ble_eq_true rfl) (Nat.le_of_ble_eq_true rfl) dL_law_8 rfl (fun m0 => ?_)
  refine n_dup (pc' := 12) B rfl dL_law_11 rfl ?_
  refine n_ci (pc' := 15) B (k_X12_init l C m0) tw_930 tw_929 tw_13 rfl (by decide +kernel) (Or.inl tw_928) ⟨Nat.le_of_ble_eq_true rfl, Nat.le_of_ble_eq_true rfl⟩ [57] [0, 1, 2, 3, 4, 5, 6, 7, 8, 9, 10, 11, 12, 13, 14, 15, 16, 17, 18, 19, 20, 21, 22, 23, 24, 25, 26, 27, 28, 29, 30, 31, 32, 33, 34, 35, 36, 37, 38, 39, 40, 41, 42, 43, 44, 45, 46, 47, 48, 49, 50, 51, 52, 53, 54, 55, 56] rfl (wr := [(q0, .inr (11, [.ref q1, .ref q3, .ref q17, .int (iI (-1)), .ref q31, .ref q32, .ref q37, .ref q40, .ref q43, .ref q45, .ref q50, .ref q54, .int (iI 0)])), (q1, .inr (9, [.ref q2, .int (iI 0), .int (iI 0), .int (iI 0), .int (iI (-1))])), (q2, aI C 250), (q3, .inr (8, [.ref q4, .ref q10, .ref q15, .ref q16, .int (iI 0), .int (iI (-1))])), (q4, .inr (2, [.ref q5, .ref q6, .ref q7, .ref q8, .ref q9, .int (iI 0), .int (iI 1)])), (q5, aI C 8), (q6, aI C 8), (q7, aI C 8), (q8, aI C 8), (q9, aL C 21), (q10, .inr (6, [.ref q11, .ref q12, .ref q13, .ref q14, .int (iI 0)])), (q11, aI C 4), (q12, aI C 4), (q13, aI C 4), (q14, aI C 4), (q15, aI C 4), (q16, aI C 4), (q17, .inr (8, [.ref q18, .ref q24, .ref q29, .ref q30, .int (iI 0), .int (iI (-1))])), (q18, .inr (2, [.ref q19, .ref q20, .ref q21, .ref q22, .ref q23, .int (iI 0), .int (iI 1)])), (q19, aI C 8), (q20, aI C 8), (q21, aI C 8), (q22, aI C 8), (q23, aL C 21), (q24, .inr (6, [.ref q25, .ref q26, .ref q27, .ref q28, .int (iI 0)])), (q25, aI C 4), (q26, aI C 4), (q27, aI C 4), (q28, aI C 4), (q29, aI C 4), (q30, aI C 4), (q31, .inr (5, [.int (iI 0), .int (iI 0), .int (iI (-1)), .int (iI 0)])), (q32, .inr (10, [.ref q33, .ref q34, .ref q35, .ref q36, .int (iI 0), .int (iI 0)])), (q33, aI C 40), (q34, aI C 40), (q35, aI C 40), (q36, aI C 40), (q37, .inr (4, [.int (iI 0), .ref q38, .ref q39, .int (iI 0)])), (q38, .inr (5, [.int (iI 0), .int (iI 0), .int (iI (-1)), .int (iI 0)])), (q39, aI C 4), (q40, .inr (4, [.int (iI 0), .ref q41, .ref q42, .int (iI 0)])), (q41, .inr (5, [.int (iI 0), .int (iI 0), .int (iI (-1)), .int (iI 0)])), (q42, aI C 4), (q43, .inr (3, [.ref q44, .int (iI 0), .int (iI 0)])), (q44, aI C 248), (q45, .inr (1, [.ref q46, .ref q47, .int (iI 0), .ref q48, .ref q49])), (q46, aI C 12), (q47, aI C 12), (q48, aI C 248), (q49, aI C 39), (q50, .inr (7, [.ref q51, .ref q52, .ref q53, .int (iI 0)])), (q51, aI C 12), (q52, aI C 12), (q53, aI C 12), (q54, .inr (0, [.ref q55, .ref q56, .int (iI 0), .int (iI 0)])), (q55, aI C 30), (q56, .inr (5, [.int (iI 0), .int (iI 0), .int (iI (-1)), .int (iI 0)]))]) rfl (by decide) (by decide) (Nat.le_of_ble_eq_true rfl) ⟨Nat.le_of_ble_eq_true rfl, Nat.le_of_ble_eq_true rfl⟩ dL_law_12 rfl (fun w12 h12 => ?_)
  obtain ⟨m1, m2, m3, m4, m5, m6, m7, m8, m9, m10, m11, m12, m13, m14, m15, m16, rfl⟩ := h12
  refine n_as (pc' := 16) B [(2, .ref m0), (1, .ref q0), (0, .ref b)] rfl dL_law_15 rfl (by decide) rfl ?_
  refine n_ic (pc' := 17) B dL_law_16 rfl ?_
  refine n_is (pc' := 18) B [(3, .int (iI 0)), (2, .ref m0), (1, .ref q0), (0, .ref b)] rfl dL_law_17 rfl (by decide) rfl ?_
  intro H locs ls hP hD hS hl
  obtain ⟨f, hf⟩ : ∃ f : Nat → Nat, f = fun k => [q0, q1, q2, q3, q4, q5, q6, q7, q8, q9, q10, q11, q12, q13, q14, q15, q16, q17, q18, q19, q20, q21, q22, q23, q24, q25, q26, q27, q28, q29, q30, q31, q32, q33, q34, q35, q36, q37, q38, q39, q40, q41, q42, q43, q44, q45, q46, q47, q48, q49, q50, q51, q52, q53, q54, q55, q56, m0, m1, m2, m3, m4, m5, m6, m7, m8, m9, m10, m11, m12, m13, m14, m15, m16].getD k 0 := ⟨_, rfl⟩
  have hw := wl_st C f
  have hP : va_P C.1 vwCl (wl (C.1, C.2, f) sg0) H := by rw [hw, hf]; exact hP
  have hD : va_D (fun q : Nat => s.heap.size ≤ q) (wl (C.1, C.2, f) sg0) := by rw [hw, hf]; exact hD
  have hf0 : f 0 = q0 := by rw [hf]; rfl
  have hf57 : f 57 = m0 := by rw [hf]; rfl
  have hfr : ∀ q, wA (C.1, C.2, f) q → s.heap.size ≤ q := by
    rintro q ⟨k, hk, rfl⟩
    exact hD.2 k _ (wl_at hk)
  have hkOk : kOk (C.1, C.2, f) s := ⟨hK3.1, fun i j hi hj e => hD.1 i j _ _ (wl_at hi) (wl_at hj) e, hK3.2⟩
  refine va_forget (fun q hq => hS.2.2 q hq) ?_
  refine W.widen (k := 74) (n := 2285) (Nat.le_of_ble_eq_true rfl) (Nat.le_of_ble_eq_true rfl) ?_
  rw [← hf0, ← hf57] at hl
  exact law_loop hx hb hr hlocks ⟨B.1, hkOk⟩ ⟨hX.kept (hS.2.1 b hbl (Nat.not_le.mpr hbl)), Nat.lt_of_lt_of_le hbl hS.1, fun h => absurd (hfr b h) (Nat.not_le.mpr hbl), hL⟩ hfr 64 0 0 sg0 rfl (by omega) inv_0 H [] ls hP va_S.rf hl
