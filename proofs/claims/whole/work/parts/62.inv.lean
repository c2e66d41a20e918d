/-! THE LAW'S INVARIANT: the class's cells (below 57) and the reference's hold the same street -/
def bar (D : SG) (L M : Int) : Prop := (D 9 0 = 0 ∧ L = -1) ∨ (L = M ∧ 0 ≤ L ∧ L < D 9 0)
def rM (N : Nat) (D : SG) (s x l q s' x' l' q' : Int) : Prop := s = s' ∧ x = x' ∧ bar D l l' ∧ q = q' ∧ (0 ≤ x ∧ x ≤ s ∧ s ≤ 999 * N)
theorem rM.mono {N N' : Nat} {D : SG} {s x l q s' x' l' q' : Int} (h : rM N D s x l q s' x' l' q') (hN : N ≤ N') : rM N' D s x l q s' x' l' q' := by
  obtain ⟨a, b, c, d, e⟩ := h
  exact ⟨a, b, c, d, by omega⟩
def rT (N : Nat) (D T U : SG) : Prop := T 4 0 = U 4 0 ∧ ∀ j : Int, 0 ≤ j → j < T 4 0 → rM N D (T 0 j) (T 1 j) (T 2 j) (T 3 j) (U 0 j) (U 1 j) (U 2 j) (U 3 j)
theorem rT.mono {N N' : Nat} {D T U : SG} (h : rT N D T U) (hN : N ≤ N') : rT N' D T U := ⟨h.1, fun j a b => (h.2 j a b).mono hN⟩
def bkD (σ : SG) (bn : Int) (wy : Int → Int) : Prop := σ 54 2 = bn ∧ (0 ≤ bn ∧ bn ≤ 30) ∧ ∀ k : Int, 0 ≤ k → k < bn → σ 55 k = wy k ∧ 0 ≤ wy k ∧ wy k ≤ 2
def slD (σ : SG) (b : Nat) (D : SG) (sl : Int → Int) : Prop := ∀ h : Int, 0 ≤ h → h < D 9 1 → σ (b + 13) h = sl h ∧ 0 ≤ sl h ∧ sl h ≤ 999
def msD (σ D : SG) (sl : Int → Int) : Prop := ∀ h : Int, 0 ≤ h → h < D 9 1 → σ 58 (4 + h) = sl h ∧ 0 ≤ sl h ∧ sl h ≤ 999
def stD (σ : SG) (b : Nat) (D : SG) : Prop := (b = 3 ∨ b = 17) ∧ σ 0 1 = ((b : Nat) : Int) ∧ σ 0 2 = (((20 - b : Nat)) : Int) ∧ sD σ b D
def nwD (σ : SG) (S X L P : Int) : Prop := σ 31 0 = S ∧ σ 31 1 = X ∧ σ 31 2 = L ∧ σ 31 3 = P
def mnD (σ : SG) (S X L P : Int) : Prop := σ 58 0 = S ∧ σ 58 1 = X ∧ σ 58 2 = L ∧ σ 58 3 = P
/-- an image: the class's at c, the reference's in row 58 from w on -/
def img (σ D : SG) (N : Nat) (c : Nat) (i : Int) : Prop := σ c 0 = σ 59 i ∧ (σ c 0 = 0 ∨ σ c 0 = 1) ∧ (σ c 0 ≠ 0 → rM N D (σ (c + 1) 0) (σ (c + 1) 1) (σ (c + 1) 2) (σ (c + 1) 3) (σ 58 (10 * (1 + i) + 0)) (σ 58 (10 * (1 + i) + 1)) (σ 58 (10 * (1 + i) + 2)) (σ 58 (10 * (1 + i) + 3)) ∧ (∀ h : Int, 0 ≤ h → h < D 9 1 → σ (c + 2) h = σ 58 (10 * (1 + i) + (4 + h)) ∧ 0 ≤ σ (c + 2) h ∧ σ (c + 2) h ≤ 999) ∧ σ c 3 = σ 58 (10 * (1 + i) + 8) ∧ 0 ≤ σ c 3 ∧ σ c 3 < 2147483648)
def cI (σ : SG) (b : Nat) (D : SG) (S X L P v : Int) (sl : Int → Int) (E Y : SG) (bn : Int) (wy tx : Int → Int) (n f : Int) (T : SG) : Prop := stD σ b D ∧ nwD σ S X L P ∧ σ 0 12 = v ∧ slD σ b D sl ∧ eD σ E ∧ yD σ Y ∧ bkD σ bn wy ∧ txD σ tx n ∧ σ 0 3 = f ∧ tD σ T
def mI (σ D : SG) (S X M P v : Int) (sl : Int → Int) (E Y : SG) (bn : Int) (wy tx : Int → Int) (n f : Int) (U : SG) : Prop := mD σ D ∧ mnD σ S X M P ∧ σ 58 8 = v ∧ msD σ D sl ∧ meD σ E ∧ myD σ Y ∧ mbD σ bn wy ∧ mtx σ tx n ∧ σ 57 18 = f ∧ mtD σ U
def rI (N : Nat) (D : SG) (S X L M v : Int) (T U : SG) : Prop := (okF D ∧ okR D ∧ okQ D ∧ okH D) ∧ (0 ≤ X ∧ X ≤ S ∧ S ≤ 999 * N) ∧ bar D L M ∧ (0 ≤ v ∧ v < 2147483648) ∧ rT N D T U
theorem rI.mono {N N' : Nat} {D : SG} {S X L M v : Int} {T U : SG} (h : rI N D S X L M v T U) (hN : N ≤ N') : rI N' D S X L M v T U := by
  obtain ⟨a, b, c, d, e⟩ := h
  exact ⟨a, by omega, c, d, e.mono hN⟩
def INV (N : Nat) (σ : SG) : Prop := ∃ (b : Nat) (D : SG) (S X L M P v : Int) (sl : Int → Int) (E Y : SG) (bn : Int) (wy tx : Int → Int) (n f : Int) (T U : SG), cI σ b D S X L P v sl E Y bn wy tx n f T ∧ mI σ D S X M P v sl E Y bn wy tx n f U ∧ rI N D S X L M v T U ∧ img σ D N 37 0 ∧ img σ D N 40 1
-- what keeps each
theorem stD.keep {σ τ : SG} {b : Nat} {D : SG} (h : stD σ b D) (e1 : τ 0 1 = σ 0 1) (e2 : τ 0 2 = σ 0 2) (e : ∀ k, b ≤ k → k ≤ b + 12 → k ≠ b + 6 → τ k = σ k) : stD τ b D := by
  obtain ⟨a1, a2, a3, g, q, h3, h4⟩ := h
  refine ⟨a1, by rw [e1]; exact a2, by rw [e2]; exact a3, g.keep (fun k a c => e k (by omega) (by omega) (by omega)), q.keep (fun k a c => e k (by omega) (by omega) (by omega)), by rw [e b (by omega) (by omega) (by omega)]; exact h3, fun x a c => ?_⟩
  rw [e (b + 12) (by omega) (by omega) (by omega)]
  exact h4 x a c
theorem nwD.keep {σ τ : SG} {S X L P : Int} (h : nwD σ S X L P) (e : τ 31 = σ 31) : nwD τ S X L P := by unfold nwD at *; rw [e]; exact h
theorem mnD.keep {σ τ : SG} {S X L P : Int} (h : mnD σ S X L P) (e0 : τ 58 0 = σ 58 0) (e1 : τ 58 1 = σ 58 1) (e2 : τ 58 2 = σ 58 2) (e3 : τ 58 3 = σ 58 3) : mnD τ S X L P := by unfold mnD at *; rw [e0, e1, e2, e3]; exact h
theorem slD.keep {σ τ : SG} {b : Nat} {D : SG} {sl : Int → Int} (h : slD σ b D sl) (e : τ (b + 13) = σ (b + 13)) : slD τ b D sl := by unfold slD at *; rw [e]; exact h
theorem msD.keep {σ τ D : SG} {sl : Int → Int} (h : msD σ D sl) (hH : okH D) (e : ∀ j : Int, 4 ≤ j → j < 8 → τ 58 j = σ 58 j) : msD τ D sl := fun x a c => by
  have q := hH.1
  rw [e _ (by omega) (by omega)]; exact h x a c
theorem bkD.keep {σ τ : SG} {bn : Int} {wy : Int → Int} (h : bkD σ bn wy) (e1 : τ 54 2 = σ 54 2) (e2 : τ 55 = σ 55) : bkD τ bn wy := by unfold bkD at *; rw [e1, e2]; exact h
theorem eD.keep2 {σ τ E : SG} (h : eD σ E) (e1 : τ 45 2 = σ 45 2) (e2 : τ 46 = σ 46) (e3 : τ 47 = σ 47) : eD τ E := by unfold eD at *; rw [e1, e2, e3]; exact h
theorem yD.keep2 {σ τ Y : SG} (h : yD σ Y) (e1 : τ 50 3 = σ 50 3) (e2 : τ 51 = σ 51) (e3 : τ 52 = σ 52) (e4 : τ 53 = σ 53) : yD τ Y := by unfold yD at *; rw [e1, e2, e3, e4]; exact h
theorem myD.keep {σ τ Y : SG} (h : myD σ Y) (e1 : τ 57 30 = σ 57 30) (e2 : τ 69 = σ 69) (e3 : τ 70 = σ 70) (e4 : τ 71 = σ 71) : myD τ Y := by unfold myD at *; rw [e1, e2, e3, e4]; exact h
theorem mbD.keep {σ τ : SG} {bn : Int} {wy : Int → Int} (h : mbD σ bn wy) (e1 : τ 57 33 = σ 57 33) (e2 : τ 73 = σ 73) : mbD τ bn wy := by unfold mbD at *; rw [e1, e2]; exact h
theorem tD.keep2 {σ τ T : SG} (h : tD σ T) (e : ∀ k, 32 ≤ k → k ≤ 36 → τ k = σ k) : tD τ T := by
  unfold tD at *
  rw [e 32 (by omega) (by omega), e 33 (by omega) (by omega), e 34 (by omega) (by omega), e 35 (by omega) (by omega), e 36 (by omega) (by omega)]; exact h
theorem img.keep {σ τ D : SG} {N N' c : Nat} {i : Int} (h : img σ D N c i) (hH : okH D) (hi : 0 ≤ i) (hN : N ≤ N') (e0 : τ c = σ c) (e1 : τ (c + 1) = σ (c + 1)) (e2 : τ (c + 2) = σ (c + 2)) (e59 : τ 59 i = σ 59 i) (e58 : ∀ j : Int, 10 ≤ j → τ 58 j = σ 58 j) : img τ D N' c i := by
  obtain ⟨a, b, k⟩ := h
  unfold img
  rw [e0, e1, e2, e59, e58 _ (by omega), e58 _ (by omega), e58 _ (by omega), e58 _ (by omega), e58 (10 * (1 + i) + 8) (by omega)]
  refine ⟨a, b, fun z => ?_⟩
  obtain ⟨k1, k2, k3⟩ := k z
  refine ⟨k1.mono hN, fun x x0 x1 => ?_, k3⟩
  rw [e58 _ (by omega)]; exact k2 x x0 x1
theorem cI.keep {σ τ : SG} {b : Nat} {D : SG} {S X L P v : Int} {sl : Int → Int} {E Y : SG} {bn : Int} {wy tx : Int → Int} {n f : Int} {T : SG} (h : cI σ b D S X L P v sl E Y bn wy tx n f T) (e : ∀ k, k < 57 → k ≠ 9 → k ≠ 23 → k ≠ 43 → k ≠ 44 → k ≠ 48 → k ≠ 49 → k ≠ 54 → k ≠ 56 → τ k = σ k) (e54 : τ 54 2 = σ 54 2) : cI τ b D S X L P v sl E Y bn wy tx n f T := by
  obtain ⟨h1, h2, h3, h4, h5, h6, h7, h8, h9, h10⟩ := h
  have q : ∀ k, k < 57 → (k < 9 ∨ (9 < k ∧ k < 23) ∨ (23 < k ∧ k < 43) ∨ (44 < k ∧ k < 48) ∨ (49 < k ∧ k < 54) ∨ k = 55) → τ k = σ k := fun k a c => e k a (by omega) (by omega) (by omega) (by omega) (by omega) (by omega) (by omega) (by omega)
  have hb := h1.1
  refine ⟨h1.keep (by rw [q 0 (by omega) (by omega)]) (by rw [q 0 (by omega) (by omega)]) (fun k a c d => q k (by omega) (by omega)), h2.keep (q 31 (by omega) (by omega)), by rw [q 0 (by omega) (by omega)]; exact h3, h4.keep (q (b + 13) (by omega) (by omega)), h5.keep2 (by rw [q 45 (by omega) (by omega)]) (q 46 (by omega) (by omega)) (q 47 (by omega) (by omega)), h6.keep2 (by rw [q 50 (by omega) (by omega)]) (q 51 (by omega) (by omega)) (q 52 (by omega) (by omega)) (q 53 (by omega) (by omega)), h7.keep e54 (q 55 (by omega) (by omega)), h8.keep (by rw [q 1 (by omega) (by omega)]) (q 2 (by omega) (by omega)), by rw [q 0 (by omega) (by omega)]; exact h9, h10.keep2 (fun k a c => q k (by omega) (by omega))⟩
theorem cI.k57 {σ τ : SG} {b : Nat} {D : SG} {S X L P v : Int} {sl : Int → Int} {E Y : SG} {bn : Int} {wy tx : Int → Int} {n f : Int} {T : SG} (h : cI σ b D S X L P v sl E Y bn wy tx n f T) (e : ∀ k, k < 57 → τ k = σ k) : cI τ b D S X L P v sl E Y bn wy tx n f T :=
  h.keep (fun k a _ _ _ _ _ _ _ _ => e k a) (by rw [e 54 (by omega)])
theorem mI.keep {σ τ D : SG} {S X M P v : Int} {sl : Int → Int} {E Y : SG} {bn : Int} {wy tx : Int → Int} {n f : Int} {U : SG} (h : mI σ D S X M P v sl E Y bn wy tx n f U) (e : ∀ k, 57 ≤ k → k ≠ 65 → k ≠ 68 → k ≠ 72 → τ k = σ k) : mI τ D S X M P v sl E Y bn wy tx n f U := by
  obtain ⟨h1, h2, h3, h4, h5, h6, h7, h8, h9, h10⟩ := h
  have q : ∀ k, 57 ≤ k → (k < 65 ∨ k = 66 ∨ k = 67 ∨ (68 < k ∧ k < 72) ∨ 72 < k) → τ k = σ k := fun k a c => e k a (by omega) (by omega) (by omega)
  have q57 := q 57 (by omega) (by omega)
  have q58 := q 58 (by omega) (by omega)
  unfold mI
  refine ⟨h1.keep (by rw [q57]) (by rw [q57]) (by rw [q57]) (by rw [q57]) (fun k a c => q k (by omega) (by omega)), h2.keep (by rw [q58]) (by rw [q58]) (by rw [q58]) (by rw [q58]), by rw [q58]; exact h3, fun x a c => by rw [q58]; exact h4 x a c, h5.keep (by rw [q57]) (q 66 (by omega) (by omega)) (q 67 (by omega) (by omega)), h6.keep (by rw [q57]) (q 69 (by omega) (by omega)) (q 70 (by omega) (by omega)) (q 71 (by omega) (by omega)), h7.keep (by rw [q57]) (q 73 (by omega) (by omega)), h8.keep (by rw [q57]) (q 63 (by omega) (by omega)), by rw [q57]; exact h9, h10.keep (by rw [q57]) (q 64 (by omega) (by omega))⟩
theorem mI.k57 {σ τ D : SG} {S X M P v : Int} {sl : Int → Int} {E Y : SG} {bn : Int} {wy tx : Int → Int} {n f : Int} {U : SG} (h : mI σ D S X M P v sl E Y bn wy tx n f U) (e : ∀ k, 57 ≤ k → τ k = σ k) : mI τ D S X M P v sl E Y bn wy tx n f U := h.keep (fun k a _ _ _ => e k a)
/-- a call that changes rows of its own alone -/
theorem q_end {N : Nat} {σ τ1 τ2 : SG} {b : Nat} {D : SG} {S X L M P v : Int} {sl : Int → Int} {E Y : SG} {bn : Int} {wy tx : Int → Int} {n f : Int} {T U : SG} (hc : cI σ b D S X L P v sl E Y bn wy tx n f T) (hm : mI σ D S X M P v sl E Y bn wy tx n f U) (hr : rI N D S X L M v T U) (g0 : img σ D N 37 0) (g1 : img σ D N 40 1)
    (e1 : ∀ k, k ≠ 9 → k ≠ 23 → k ≠ 43 → k ≠ 44 → k ≠ 48 → k ≠ 49 → k ≠ 54 → k ≠ 56 → τ1 k = σ k) (e54 : τ1 54 2 = σ 54 2) (e2 : ∀ k, k ≠ 65 → k ≠ 68 → k ≠ 72 → τ2 k = τ1 k) : INV (N + 1) τ2 := by
  have q : ∀ k, (k < 9 ∨ (9 < k ∧ k < 23) ∨ (23 < k ∧ k < 43) ∨ (44 < k ∧ k < 48) ∨ (49 < k ∧ k < 54) ∨ k = 55 ∨ (56 < k ∧ k < 65)) → τ2 k = σ k := fun k c => (e2 k (by omega) (by omega) (by omega)).trans (e1 k (by omega) (by omega) (by omega) (by omega) (by omega) (by omega) (by omega) (by omega))
  have hH := hr.1.2.2.2
  refine ⟨b, D, S, X, L, M, P, v, sl, E, Y, bn, wy, tx, n, f, T, U, hc.keep (fun k a a1 a2 a3 a4 a5 a6 a7 a8 => (e2 k (by omega) (by omega) (by omega)).trans (e1 k a1 a2 a3 a4 a5 a6 a7 a8)) (by rw [e2 54 (by omega) (by omega) (by omega)]; exact e54), hm.keep (fun k a a1 a2 a3 => (e2 k a1 a2 a3).trans (e1 k (by omega) (by omega) (by omega) (by omega) (by omega) (by omega) (by omega) (by omega))), hr.mono (by omega), ?_, ?_⟩
  · exact g0.keep hH (by omega) (by omega) (q 37 (by omega)) (q 38 (by omega)) (q 39 (by omega)) (by rw [q 59 (by omega)]) (fun j _ => by rw [q 58 (by omega)])
  · exact g1.keep hH (by omega) (by omega) (q 40 (by omega)) (q 41 (by omega)) (q 42 (by omega)) (by rw [q 59 (by omega)]) (fun j _ => by rw [q 58 (by omega)])
/-- the script's ints -/
def xv (xs : Nat → Int32) (i : Int) : Int := (xs i.toNat).toInt
theorem xv_rng (xs : Nat → Int32) (i : Int) : -2147483648 ≤ xv xs i ∧ xv xs i < 2147483648 := iI_rng _
def SCR (a L : Nat) (xs : Nat → Int32) (s : State) (H0 : Heap) (K : WK) : Prop := va_X a L xs s H0 ∧ a < H0.size ∧ ¬ wA K a ∧ L ≤ 320
section LR
variable {p : Program} {l : Launch} {e : Env} {R : Room} {s : State} {m : MethodId} {args : Array Value} {below : List Frame} {meth : Method} {c : Code} {cells slots : Nat} {Q : State → Prop} {K : WK} {H0 : Heap} {nL : Nat} {σ : SG} {pc pc' : Nat} {lv : List (Nat × Value)} {st : List Value} {cc : ByteArray} {own : String}
theorem g_sld {a L : Nat} {xs : Nat → Int32} {i : Int} (B : CB p s m args c cc own nL K) (hS0 : SCR a L xs s H0 K) (hi : 0 ≤ i ∧ i < L) (hd : decode cc pc = .ok (.iaload, 1)) (hp : pc + 1 = pc') (k : G p l e R s m args below meth c cells slots Q K H0 nL σ pc' lv (.int (iI (xv xs i)) :: st)) : G p l e R s m args below meth c cells slots Q K H0 nL σ pc lv (.int (iI i) :: .ref a :: st) := by
  subst hp
  intro H locs ls hW hS hl
  have hL := hS0.2.2.2
  refine va_sld B.1.1 B.1.2.1 hS0.1 hS0.2.1 hS0.2.2.1 hS (iI_in hi (by omega)) hd ?_
  have e1 : (iI i).toNatClampNeg = i.toNat := by have := iI_nat (e := i) (by omega); omega
  rw [e1, show xs i.toNat = iI (xv xs i) from (iI_of _).symm]
  exact k H locs ls hW hS hl
theorem g_slen {a L : Nat} {xs : Nat → Int32} (B : CB p s m args c cc own nL K) (hS0 : SCR a L xs s H0 K) (hd : decode cc pc = .ok (.arraylength, 1)) (hp : pc + 1 = pc') (k : G p l e R s m args below meth c cells slots Q K H0 nL σ pc' lv (.int (iI (L : Int)) :: st)) : G p l e R s m args below meth c cells slots Q K H0 nL σ pc lv (.ref a :: st) := by
  subst hp
  intro H locs ls hW hS hl
  refine va_slen B.1.1 B.1.2.1 hS0.1 hS0.2.1 hS0.2.2.1 hS hd ?_
  rw [show Int32.ofNat L = iI (L : Int) from Int32.ofInt_eq_ofNat.symm]
  exact k H locs ls hW hS hl
theorem g_same {a b : Int} {off : Int} (B : CB p s m args c cc own nL K) (tgt : Nat) (h : a = b) (hd : decode cc pc = .ok (.if_icmp .eq off, 3)) (ht : (pc : Int) + off = (tgt : Int)) (k : G p l e R s m args below meth c cells slots Q K H0 nL σ tgt lv st) : G p l e R s m args below meth c cells slots Q K H0 nL σ pc lv (.int (iI b) :: .int (iI a) :: st) := by
  subst h
  intro H locs ls hW hS hl
  exact lv_icmp_eq (tgt := tgt) B.1.1 B.1.2.1 hd ht (fun _ => k H locs ls hW hS hl) (fun q => absurd rfl q)
end LR
abbrev LG (p : Program) (l : Launch) (e : Env) (s : State) (m : MethodId) (below : List Frame) (meth : Method) (c : Code) (Q : State → Prop) (K : WK) (H0 : Heap) (a : Nat) (i : Int) (σ : SG) (pc : Nat) (st : List Value) : Prop := G p l e room_1 s m #[.ref a] below meth c 74 2285 Q K H0 4 σ pc [(3, .int (iI i)), (2, .ref (K.2.2 57)), (1, .ref (K.2.2 0)), (0, .ref a)] st
