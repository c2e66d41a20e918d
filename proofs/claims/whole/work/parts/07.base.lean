/-! the layout by kinds; the street's data as one function D; the words of the specification -/
theorem nb_z {z : Int} (h : z = 0 ∨ z = 1) : narrow .boolean (.int (iI z)) = .int (iI z) := by rcases h with rfl | rfl <;> rfl
theorem ly_S {b : Nat} (h : b = 3 ∨ b = 17) : layL[b]? = some (.inr (8, [b + 3, b + 9, b + 14, b + 15, 0, 0])) := by rcases h with rfl | rfl <;> rfl
theorem ly_Sa2 {b : Nat} (h : b = 3 ∨ b = 17) : layL[b + 12]? = some (.inl (0, 4)) := by rcases h with rfl | rfl <;> rfl
theorem ly_Sa3 {b : Nat} (h : b = 3 ∨ b = 17) : layL[b + 13]? = some (.inl (0, 4)) := by rcases h with rfl | rfl <;> rfl
theorem ly_G {g : Nat} (h : g = 4 ∨ g = 18) : layL[g]? = some (.inr (2, [g + 3, g + 4, g + 5, g + 6, g + 7, 0, 0])) := by rcases h with rfl | rfl <;> rfl
theorem ly_Ga0 {g : Nat} (h : g = 4 ∨ g = 18) : layL[g + 1]? = some (.inl (0, 8)) := by rcases h with rfl | rfl <;> rfl
theorem ly_Ga1 {g : Nat} (h : g = 4 ∨ g = 18) : layL[g + 2]? = some (.inl (0, 8)) := by rcases h with rfl | rfl <;> rfl
theorem ly_Ga2 {g : Nat} (h : g = 4 ∨ g = 18) : layL[g + 3]? = some (.inl (0, 8)) := by rcases h with rfl | rfl <;> rfl
theorem ly_Ga3 {g : Nat} (h : g = 4 ∨ g = 18) : layL[g + 4]? = some (.inl (0, 8)) := by rcases h with rfl | rfl <;> rfl
theorem ly_Ga4 {g : Nat} (h : g = 4 ∨ g = 18) : layL[g + 5]? = some (.inl (1, 21)) := by rcases h with rfl | rfl <;> rfl
theorem ly_Q {q : Nat} (h : q = 10 ∨ q = 24) : layL[q]? = some (.inr (6, [q + 3, q + 4, q + 5, q + 6, 0])) := by rcases h with rfl | rfl <;> rfl
theorem ly_Qa0 {q : Nat} (h : q = 10 ∨ q = 24) : layL[q + 1]? = some (.inl (0, 4)) := by rcases h with rfl | rfl <;> rfl
theorem ly_Qa1 {q : Nat} (h : q = 10 ∨ q = 24) : layL[q + 2]? = some (.inl (0, 4)) := by rcases h with rfl | rfl <;> rfl
theorem ly_Qa2 {q : Nat} (h : q = 10 ∨ q = 24) : layL[q + 3]? = some (.inl (0, 4)) := by rcases h with rfl | rfl <;> rfl
theorem ly_Qa3 {q : Nat} (h : q = 10 ∨ q = 24) : layL[q + 4]? = some (.inl (0, 4)) := by rcases h with rfl | rfl <;> rfl
theorem ly_M {u : Nat} (h : u = 31 ∨ u = 38 ∨ u = 41 ∨ u = 56) : layL[u]? = some (.inr (5, [0, 0, 0, 0])) := by rcases h with rfl | rfl | rfl | rfl <;> rfl
theorem ly_I {i : Nat} (h : i = 37 ∨ i = 40) : layL[i]? = some (.inr (4, [0, i + 3, i + 4, 0])) := by rcases h with rfl | rfl <;> rfl
theorem ly_Ia2 {i : Nat} (h : i = 37 ∨ i = 40) : layL[i + 2]? = some (.inl (0, 4)) := by rcases h with rfl | rfl <;> rfl
-- D: 0 B, 1 N, 2 L, 3 S; 4 a house's field; 5 a seam's field, 6 P, 7 R, 8 W; 9: 0 fields, 1 houses, 2 seams, 3 round
def okF (D : SG) : Prop := (0 ≤ D 9 0 ∧ D 9 0 ≤ 8) ∧ ∀ f : Int, 0 ≤ f → f < D 9 0 → (0 ≤ D 0 f ∧ D 0 f ≤ 99) ∧ (2 ≤ D 1 f ∧ D 1 f ≤ 12) ∧ (0 ≤ D 2 f ∧ D 2 f ≤ 11) ∧ (0 ≤ D 3 f ∧ D 3 f ≤ 9)
def okR (D : SG) : Prop := (1 ≤ D 9 3 ∧ D 9 3 ≤ 27720) ∧ ∀ f : Int, 0 ≤ f → f < D 9 0 → D 1 f ∣ D 9 3
def okQ (D : SG) : Prop := (0 ≤ D 9 2 ∧ D 9 2 ≤ 4) ∧ ∀ s : Int, 0 ≤ s → s < D 9 2 → (0 ≤ D 5 s ∧ D 5 s + 1 < D 9 0 ∧ D 5 s ≤ 6) ∧ (1 ≤ D 6 s ∧ D 6 s ≤ 12) ∧ (0 ≤ D 7 s ∧ D 7 s ≤ 11) ∧ (0 ≤ D 8 s ∧ D 8 s ≤ 12)
def okH (D : SG) : Prop := (0 ≤ D 9 1 ∧ D 9 1 ≤ 4) ∧ ∀ h : Int, 0 ≤ h → h < D 9 1 → 0 ≤ D 4 h ∧ D 4 h + 1 < D 9 0 ∧ D 4 h ≤ 6
def gD (σ : SG) (g : Nat) (D : SG) : Prop := σ g 5 = D 9 0 ∧ σ g 6 = D 9 3 ∧ ∀ f : Int, 0 ≤ f → f < D 9 0 → σ (g + 1) f = D 0 f ∧ σ (g + 2) f = D 1 f ∧ σ (g + 3) f = D 2 f ∧ σ (g + 4) f = D 3 f
def qD (σ : SG) (q : Nat) (D : SG) : Prop := σ q 4 = D 9 2 ∧ ∀ s : Int, 0 ≤ s → s < D 9 2 → σ (q + 1) s = D 5 s ∧ σ (q + 2) s = D 6 s ∧ σ (q + 3) s = D 7 s ∧ σ (q + 4) s = D 8 s
def sD (σ : SG) (b : Nat) (D : SG) : Prop := gD σ (b + 1) D ∧ qD σ (b + 7) D ∧ σ b 4 = D 9 1 ∧ ∀ h : Int, 0 ≤ h → h < D 9 1 → σ (b + 12) h = D 4 h
def mD (σ : SG) (D : SG) : Prop := σ 57 5 = D 9 0 ∧ σ 57 6 = D 9 1 ∧ σ 57 7 = D 9 2 ∧ σ 57 19 = D 9 3 ∧
  (∀ f : Int, 0 ≤ f → f < D 9 0 → σ 60 (4 * f) = D 0 f ∧ σ 60 (4 * f + 1) = D 1 f ∧ σ 60 (4 * f + 2) = D 2 f ∧ σ 60 (4 * f + 3) = D 3 f) ∧
  (∀ h : Int, 0 ≤ h → h < D 9 1 → σ 61 (2 * h) = D 4 h) ∧
  (∀ s : Int, 0 ≤ s → s < D 9 2 → σ 62 (4 * s) = D 5 s ∧ σ 62 (4 * s + 1) = D 6 s ∧ σ 62 (4 * s + 2) = D 7 s ∧ σ 62 (4 * s + 3) = D 8 s)
theorem gD.keep {σ τ : SG} {g : Nat} {D : SG} (h : gD σ g D) (e : ∀ k, g ≤ k → k ≤ g + 4 → τ k = σ k) : gD τ g D := by
  obtain ⟨h1, h2, h3⟩ := h
  refine ⟨by rw [e g (by omega) (by omega)]; exact h1, by rw [e g (by omega) (by omega)]; exact h2, fun f a b => ?_⟩
  rw [e (g + 1) (by omega) (by omega), e (g + 2) (by omega) (by omega), e (g + 3) (by omega) (by omega), e (g + 4) (by omega) (by omega)]
  exact h3 f a b
theorem qD.keep {σ τ : SG} {q : Nat} {D : SG} (h : qD σ q D) (e : ∀ k, q ≤ k → k ≤ q + 4 → τ k = σ k) : qD τ q D := by
  obtain ⟨h1, h3⟩ := h
  refine ⟨by rw [e q (by omega) (by omega)]; exact h1, fun f a b => ?_⟩
  rw [e (q + 1) (by omega) (by omega), e (q + 2) (by omega) (by omega), e (q + 3) (by omega) (by omega), e (q + 4) (by omega) (by omega)]
  exact h3 f a b
theorem sD.keep {σ τ : SG} {b : Nat} {D : SG} (h : sD σ b D) (e : ∀ k, b ≤ k → k ≤ b + 12 → τ k = σ k) : sD τ b D := by
  obtain ⟨h1, h2, h3, h4⟩ := h
  refine ⟨h1.keep (fun k a c => e k (by omega) (by omega)), h2.keep (fun k a c => e k (by omega) (by omega)), by rw [e b (by omega) (by omega)]; exact h3, fun f a c => ?_⟩
  rw [e (b + 12) (by omega) (by omega)]
  exact h4 f a c
def hgt (D : SG) (f x : Int) : Int := D 0 f + D 3 f * min ((x + D 2 f) % D 1 f) (D 1 f - (x + D 2 f) % D 1 f)
theorem swl_bd (x n : Int) (h : 1 ≤ n) : 0 ≤ min (x % n) (n - x % n) ∧ min (x % n) (n - x % n) ≤ n / 2 := by
  have h1 := Int.emod_nonneg x (show n ≠ 0 by omega)
  have h2 := Int.emod_lt_of_pos x (show 0 < n by omega)
  omega
theorem hgt_bd {D : SG} {f x : Int} (h : okF D) (h0 : 0 ≤ f) (h1 : f < D 9 0) : 0 ≤ hgt D f x ∧ hgt D f x ≤ 153 := by
  obtain ⟨a, b, c, d⟩ := h.2 f h0 h1
  have e := swl_bd (x + D 2 f) (D 1 f) (by omega)
  unfold hgt
  generalize min ((x + D 2 f) % D 1 f) (D 1 f - (x + D 2 f) % D 1 f) = w at e ⊢
  have hw : w ≤ 6 := by omega
  have h2 : 0 ≤ D 3 f * w := Int.mul_nonneg (by omega) (by omega)
  have h3 : D 3 f * w ≤ 9 * 6 := Int.mul_le_mul (by omega) hw (by omega) (by omega)
  omega
/-- LEAN -/
def lean (D : SG) (f x : Int) : Int := if f + 1 < D 9 0 then hgt D (f + 1) x - hgt D f x else 0
theorem lean_bd {D : SG} {f : Int} (x : Int) (h : okF D) (h0 : 0 ≤ f) : -153 ≤ lean D f x ∧ lean D f x ≤ 153 := by
  unfold lean
  split
  · have h1 := hgt_bd (x := x) h (show 0 ≤ f + 1 by omega) (by omega)
    have h2 := hgt_bd (x := x) h h0 (by omega)
    omega
  · omega
/-- a seam is open in a step -/
def rs (D : SG) (s t : Int) : Int := (t - D 7 s) % D 6 s
def opn (D : SG) (s t : Int) : Prop := rs D s t < D 8 s
/-- a gap lets through in a step -/
def lets (D : SG) (gap t : Int) : Prop := ∀ s : Int, 0 ≤ s → s < D 9 2 → D 5 s = gap → opn D s t
