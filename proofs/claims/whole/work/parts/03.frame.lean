/-! THE FRAME: ints as Int, the world as one function, the judgement G, a row an instruction. -/
abbrev SG : Type := Nat → Int → Int
abbrev WK : Type := va_G × (ClassId × ClassId × ClassId) × (Nat → Nat)
def iI (z : Int) : Int32 := Int32.ofInt z
def lI (z : Int) : Int64 := Int64.ofInt z
theorem iI_add (a b : Int) : iI a + iI b = iI (a + b) := (Int32.ofInt_add a b).symm
theorem iI_sub (a b : Int) : iI a - iI b = iI (a - b) := (Int32.ofInt_sub a b).symm
theorem iI_mul (a b : Int) : iI a * iI b = iI (a * b) := (Int32.ofInt_mul a b).symm
theorem iI_neg (a : Int) : -iI a = iI (-a) := (Int32.ofInt_neg a).symm
theorem iI_toInt {a : Int} (h : -2147483648 ≤ a ∧ a < 2147483648) : (iI a).toInt = a := Int32.toInt_ofInt_of_le (by simpa using h.1) (by simpa using h.2)
theorem iI_of (x : Int32) : iI x.toInt = x := Int32.ofInt_toInt x
theorem iI_rng (x : Int32) : -2147483648 ≤ x.toInt ∧ x.toInt < 2147483648 := by
  have h1 := x.toInt_lt; have h2 := x.le_toInt
  constructor
  · simpa using h2
  · simpa using h1
theorem iI_lt {a b : Int} (ha : -2147483648 ≤ a ∧ a < 2147483648) (hb : -2147483648 ≤ b ∧ b < 2147483648) : iI a < iI b ↔ a < b := by rw [Int32.lt_iff_toInt_lt, iI_toInt ha, iI_toInt hb]
theorem iI_le {a b : Int} (ha : -2147483648 ≤ a ∧ a < 2147483648) (hb : -2147483648 ≤ b ∧ b < 2147483648) : iI a ≤ iI b ↔ a ≤ b := by rw [Int32.le_iff_toInt_le, iI_toInt ha, iI_toInt hb]
theorem iI_eq {a b : Int} (ha : -2147483648 ≤ a ∧ a < 2147483648) (hb : -2147483648 ≤ b ∧ b < 2147483648) : iI a = iI b ↔ a = b := by rw [← Int32.toInt_inj, iI_toInt ha, iI_toInt hb]
theorem iI_0 : iI 0 = 0 := rfl
theorem iI_tdiv {a b : Int} (ha : -2147483648 ≤ a ∧ a < 2147483648) (hb : 0 < b ∧ b < 2147483648) : iI a / iI b = iI (a.tdiv b) := by
  rw [← Int32.toInt_inj, Int32.toInt_div_of_ne_right, iI_toInt ha, iI_toInt (by omega), iI_toInt]
  · have h1 : (a.tdiv b).natAbs ≤ a.natAbs := by rw [Int.natAbs_tdiv]; exact Nat.div_le_self _ _
    by_cases h : a = -2147483648
    · subst h
      have h2 : ((-2147483648 : Int).tdiv b) ≤ 0 := by
        rw [Int.neg_tdiv]
        have := Int.tdiv_nonneg (a := 2147483648) (b := b) (by omega) (by omega)
        omega
      omega
    · omega
  · intro h
    have h2 : iI b = iI (-1) := h
    rw [iI_eq (by omega) (by omega)] at h2
    omega
theorem iI_div {a b : Int} (ha : 0 ≤ a ∧ a < 2147483648) (hb : 0 < b ∧ b < 2147483648) : iI a / iI b = iI (a / b) := by
  rw [iI_tdiv (by omega) hb, Int.tdiv_eq_ediv_of_nonneg ha.1]
theorem iI_trem {a b : Int} (ha : -2147483648 ≤ a ∧ a < 2147483648) (hb : 0 < b ∧ b < 2147483648) : iI a - iI a / iI b * iI b = iI (a.tmod b) := by
  rw [iI_tdiv ha hb, iI_mul, iI_sub]
  congr 1
  rw [Int.tmod_def, Int.mul_comm]
theorem iI_rem {a b : Int} (ha : 0 ≤ a ∧ a < 2147483648) (hb : 0 < b ∧ b < 2147483648) : iI a - iI a / iI b * iI b = iI (a % b) := by
  rw [iI_trem (by omega) hb, Int.tmod_eq_emod_of_nonneg ha.1]
theorem iI_ne0 {b : Int} (hb : 0 < b ∧ b < 2147483648) : ¬ iI b = 0 := by
  intro h
  have h2 : iI b = iI 0 := h
  rw [iI_eq (by omega) (by omega)] at h2
  omega
theorem iI_max {a b : Int} (ha : -2147483648 ≤ a ∧ a < 2147483648) (hb : -2147483648 ≤ b ∧ b < 2147483648) : (if iI a < iI b then iI b else iI a) = iI (max a b) := by
  by_cases h : a < b
  · rw [if_pos ((iI_lt ha hb).mpr h), Int.max_eq_right (by omega)]
  · rw [if_neg (fun q => h ((iI_lt ha hb).mp q)), Int.max_eq_left (by omega)]
theorem iI_min {a b : Int} (ha : -2147483648 ≤ a ∧ a < 2147483648) (hb : -2147483648 ≤ b ∧ b < 2147483648) : (if iI b < iI a then iI b else iI a) = iI (min a b) := by
  by_cases h : b < a
  · rw [if_pos ((iI_lt hb ha).mpr h), Int.min_eq_right (by omega)]
  · rw [if_neg (fun q => h ((iI_lt hb ha).mp q)), Int.min_eq_left (by omega)]
theorem iI_abs {a : Int} (ha : -2147483648 ≤ a ∧ a < 2147483648) : (if 0 ≤ iI a then iI a else 0 - iI a) = iI (a.natAbs : Int) := by
  show (if iI 0 ≤ iI a then iI a else iI 0 - iI a) = _
  by_cases h : 0 ≤ a
  · rw [if_pos ((iI_le (a := 0) (by omega) ha).mpr h)]; congr 1; omega
  · rw [if_neg (fun q => h ((iI_le (a := 0) (by omega) ha).mp q)), iI_sub]; congr 1; omega
theorem iI_in {e : Int} {n : Nat} (h : 0 ≤ e ∧ e < n) (hn : n < 2147483648) : vp_in (iI e) n := by
  rw [vp_in_iff, iI_toInt (by omega)]; exact h
theorem iI_nat {e : Int} (h : 0 ≤ e ∧ e < 2147483648) : (((iI e).toNatClampNeg : Nat) : Int) = e := by
  show (((iI e).toInt.toNat : Nat) : Int) = e
  rw [iI_toInt (by omega)]; omega
theorem lI_add (a b : Int) : lI a + lI b = lI (a + b) := (Int64.ofInt_add a b).symm
theorem lI_sub (a b : Int) : lI a - lI b = lI (a - b) := (Int64.ofInt_sub a b).symm
theorem lI_mul (a b : Int) : lI a * lI b = lI (a * b) := (Int64.ofInt_mul a b).symm
theorem lI_toInt {a : Int} (h : -9223372036854775808 ≤ a ∧ a < 9223372036854775808) : (lI a).toInt = a := Int64.toInt_ofInt_of_le (by simpa using h.1) (by simpa using h.2)
theorem lI_lt {a b : Int} (ha : -9223372036854775808 ≤ a ∧ a < 9223372036854775808) (hb : -9223372036854775808 ≤ b ∧ b < 9223372036854775808) : lI a < lI b ↔ a < b := by rw [Int64.lt_iff_toInt_lt, lI_toInt ha, lI_toInt hb]
theorem lI_eq {a b : Int} (ha : -9223372036854775808 ≤ a ∧ a < 9223372036854775808) (hb : -9223372036854775808 ≤ b ∧ b < 9223372036854775808) : lI a = lI b ↔ a = b := by rw [← Int64.toInt_inj, lI_toInt ha, lI_toInt hb]
theorem lI_i (a : Int) : (lI a).toInt32 = iI a := Int64.toInt32_ofInt
theorem iI_l {a : Int} (h : -2147483648 ≤ a ∧ a < 2147483648) : (iI a).toInt64 = lI a := Int32.toInt64_ofInt (by simpa using h.1) (by have := h.2; have e : Int32.maxValue.toInt = 2147483647 := by decide
                                                                                                                                      omega)
theorem lI_div {a b : Int} (ha : 0 ≤ a ∧ a < 9223372036854775808) (hb : 0 < b ∧ b < 9223372036854775808) : lI a / lI b = lI (a / b) := by
  rw [← Int64.toInt_inj, Int64.toInt_div_of_ne_right, lI_toInt (by omega), lI_toInt (by omega), lI_toInt, Int.tdiv_eq_ediv_of_nonneg ha.1]
  · have h1 : 0 ≤ a / b := Int.ediv_nonneg ha.1 (by omega)
    have h2 : a / b ≤ a := Int.ediv_le_self b ha.1
    omega
  · intro h
    have h2 : lI b = lI (-1) := h
    rw [lI_eq (by omega) (by omega)] at h2
    omega
theorem lI_rem {a b : Int} (ha : 0 ≤ a ∧ a < 9223372036854775808) (hb : 0 < b ∧ b < 9223372036854775808) : lI a - lI a / lI b * lI b = lI (a % b) := by
  rw [lI_div ha hb, lI_mul, lI_sub]
  congr 1
  rw [Int.emod_def, Int.mul_comm]
theorem lI_ne0 {b : Int} (hb : 0 < b ∧ b < 9223372036854775808) : ¬ lI b = 0 := by
  intro h
  have h2 : lI b = lI 0 := h
  rw [lI_eq (by omega) (by omega)] at h2
  omega
-- THE LAYOUT: (0: ints, 1: longs, 2: booleans; how many), or (class, a code a slot: 0 a number, 1 a reference by number, r + 2 the cell r)
abbrev LY : Type := (Nat × Nat) ⊕ (Nat × List Nat)
def layStreet (b : Nat) : List LY := [.inr (8, [b + 3, b + 9, b + 14, b + 15, 0, 0]), .inr (2, [b + 4, b + 5, b + 6, b + 7, b + 8, 0, 0]), .inl (0, 8), .inl (0, 8), .inl (0, 8), .inl (0, 8), .inl (1, 21), .inr (6, [b + 10, b + 11, b + 12, b + 13, 0]), .inl (0, 4), .inl (0, 4), .inl (0, 4), .inl (0, 4), .inl (0, 4), .inl (0, 4)]
def layL : List LY := [.inr (11, [3, 1, 1, 0, 33, 34, 39, 42, 45, 47, 52, 56, 0]), .inr (9, [4, 0, 0, 0, 0]), .inl (0, 250)] ++ layStreet 3 ++ layStreet 17 ++
  [.inr (5, [0, 0, 0, 0]), .inr (10, [35, 36, 37, 38, 0, 0]), .inl (0, 40), .inl (0, 40), .inl (0, 40), .inl (0, 40),
   .inr (4, [0, 40, 41, 0]), .inr (5, [0, 0, 0, 0]), .inl (0, 4), .inr (4, [0, 43, 44, 0]), .inr (5, [0, 0, 0, 0]), .inl (0, 4),
   .inr (3, [46, 0, 0]), .inl (0, 248), .inr (1, [48, 49, 0, 50, 51]), .inl (0, 12), .inl (0, 12), .inl (0, 248), .inl (0, 39),
   .inr (7, [53, 54, 55, 0]), .inl (0, 12), .inl (0, 12), .inl (0, 12), .inr (0, [57, 58, 0, 0]), .inl (0, 30), .inr (5, [0, 0, 0, 0]),
   .inr (12, [60, 61, 62, 63, 64, 0, 0, 0, 0, 0, 0, 0, 0, 65, 0, 0, 0, 0, 0, 0, 66, 0, 67, 68, 69, 0, 70, 71, 72, 73, 0, 74, 75, 0]), .inl (0, 30), .inl (2, 2), .inl (0, 64), .inl (0, 16), .inl (0, 32), .inl (0, 250), .inl (0, 160), .inl (0, 248), .inl (0, 12), .inl (0, 12), .inl (0, 40), .inl (0, 12), .inl (0, 12), .inl (0, 12), .inl (0, 22), .inl (0, 30)]
theorem layL_len : layL.length = 74 := by decide
def slV (K : WK) (σ : SG) (k j c : Nat) : Value := match c with
  | 0 => .int (iI (σ k j))
  | 1 => .ref (K.2.2 (σ k j).toNat)
  | r + 2 => .ref (K.2.2 r)
def slL (K : WK) (σ : SG) (k : Nat) : Nat → List Nat → List Value
  | _, [] => []
  | j, c :: cs => slV K σ k j c :: slL K σ k (j + 1) cs
theorem slL_get (K : WK) (σ : SG) (k : Nat) : ∀ (cs : List Nat) (j i : Nat), (slL K σ k j cs)[i]? = (cs[i]?).map (slV K σ k (j + i))
  | [], j, i => by simp [slL]
  | c :: cs, j, 0 => by simp [slL]
  | c :: cs, j, i + 1 => by
    simp only [slL, List.getElem?_cons_succ, slL_get K σ k cs (j + 1) i]
    rw [show j + 1 + i = j + (i + 1) by omega]
theorem slL_len (K : WK) (σ : SG) (k : Nat) : ∀ (cs : List Nat) (j : Nat), (slL K σ k j cs).length = cs.length
  | [], j => rfl
  | c :: cs, j => by simp [slL, slL_len K σ k cs (j + 1)]
def cellOf (K : WK) (σ : SG) (k : Nat) : LY → va_E
  | .inl (0, n) => .inl (K.2.1.1, n, .inl (fun j => iI (σ k j)))
  | .inl (1, n) => .inl (K.2.1.2.1, n, .inr (.inl (fun j => lI (σ k j))))
  | .inl (_, n) => .inl (K.2.1.2.2, n, .inl (fun j => iI (σ k j)))
  | .inr (ci, cs) => .inr (ci, slL K σ k 0 cs)
def cellE (K : WK) (σ : SG) (k : Nat) : va_E := cellOf K σ k (layL.getD k (.inr (0, [])))
def wl (K : WK) (σ : SG) : va_W := (List.range 74).map (fun k => (K.2.2 k, cellE K σ k))
theorem lay_lt {k : Nat} {x : LY} (h : layL[k]? = some x) : k < 74 := by
  have := (List.getElem?_eq_some_iff.mp h).1
  rw [layL_len] at this; exact this
theorem wl_at {K : WK} {σ : SG} {k : Nat} (h : k < 74) : (wl K σ)[k]? = some (K.2.2 k, cellE K σ k) := by
  simp [wl, h]
theorem wl_get {K : WK} {σ : SG} {k : Nat} {x : LY} (h : layL[k]? = some x) : (wl K σ)[k]? = some (K.2.2 k, cellOf K σ k x) := by
  rw [wl_at (lay_lt h)]
  simp [cellE, List.getD, h]
theorem wl_len (K : WK) (σ : SG) : (wl K σ).length = 74 := by simp [wl]
/-- one place of one row anew -/
def up (σ : SG) (k : Nat) (i v : Int) : SG := fun k' j => if k' = k ∧ j = i then v else σ k' j
theorem up_same (σ : SG) (k : Nat) (i v : Int) : up σ k i v k i = v := by simp [up]
theorem up_row {σ : SG} {k k' : Nat} {i v : Int} (h : k' ≠ k) : up σ k i v k' = σ k' := by funext j; simp [up, h]
theorem up_col {σ : SG} {k k' : Nat} {i v j : Int} (h : j ≠ i) : up σ k i v k' j = σ k' j := by simp [up, h]
theorem up_in {σ : SG} {k : Nat} {i v j : Int} : up σ k i v k j = if j = i then v else σ k j := by simp [up]
theorem cellOf_row {K : WK} {σ τ : SG} {k : Nat} {x : LY} (h : σ k = τ k) : cellOf K σ k x = cellOf K τ k x := by
  have hs : ∀ (cs : List Nat) (j : Nat), slL K σ k j cs = slL K τ k j cs := by
    intro cs
    induction cs with
    | nil => intro j; rfl
    | cons c cs ih =>
      intro j
      simp only [slL, ih]
      congr 1
      unfold slV
      rw [h]
  rcases x with ⟨t, n⟩ | ⟨ci, cs⟩
  · rcases t with _ | _ | t <;> simp [cellOf, h]
  · simp [cellOf, hs]
theorem wl_set {K : WK} {σ τ : SG} {k : Nat} {x : LY} {e : va_E} (h : layL[k]? = some x) (hr : ∀ j, j ≠ k → τ j = σ j) (he : cellOf K τ k x = e) : (wl K σ).set k (K.2.2 k, e) = wl K τ := by
  apply List.ext_getElem?
  intro i
  by_cases hi : i = k
  · subst hi
    rw [List.getElem?_set_self (by rw [wl_len]; exact lay_lt h), wl_get h, he]
  · rw [List.getElem?_set_ne (fun q => hi q.symm)]
    by_cases hi2 : i < 74
    · rw [wl_at hi2, wl_at hi2]
      congr 2
      exact cellOf_row (hr i hi).symm
    · rw [List.getElem?_eq_none (by rw [wl_len]; omega), List.getElem?_eq_none (by rw [wl_len]; omega)]
def wA (K : WK) : Nat → Prop := fun q => ∃ k, k < 74 ∧ q = K.2.2 k
abbrev wT (K : WK) : List (ClassId × FieldType) := [(K.2.1.1, .int), (K.2.1.2.1, .long), (K.2.1.2.2, .boolean)]
/-- the tables' words that stay good behind a call -/
def tb : List Cond := lw_tbl.filter goodWord
theorem inb {w : Cond} (h : w ∈ lw_tbl) (hg : goodWord w = true) : w ∈ tb := List.mem_filter.mpr ⟨h, hg⟩
theorem tb_good : ∀ w ∈ tb, (w.onTables && w.keeps) = true ∨ ∃ ty, w = .arrayClass ty := fun w h => good_of_word (List.mem_filter.mp h).2
def kOk (K : WK) (s : State) : Prop := va_K K.1 vwCl (wT K) s ∧ (∀ i j, i < 74 → j < 74 → K.2.2 i = K.2.2 j → i = j) ∧ ∀ (own : String) (idx : Nat) (y : MethodName) (host : String), Cond.methodLinkNest own idx y host ∈ lw_tbl → va_Nw (.methodLinkNest own idx y host) s
theorem kOk.warm {K : WK} {s t : State} (hW : s.WarmedH t.vm) (h : kOk K s) : kOk K t := ⟨va_K.moved hW.alike h.1, h.2.1, fun o i y q hq => va_Nw.warmM hW (h.2.2 o i y q hq)⟩
theorem wl_D {K : WK} {s : State} (σ : SG) (h : kOk K s) : va_D (wA K) (wl K σ) := by
  have hg : ∀ (i : Nat) (q : Nat × va_E), (wl K σ)[i]? = some q → i < 74 ∧ q.1 = K.2.2 i := by
    intro i q hq
    have hi : i < 74 := by
      have := (List.getElem?_eq_some_iff.mp hq).1
      rw [wl_len] at this; exact this
    rw [wl_at hi] at hq
    exact ⟨hi, by rw [← Option.some.inj hq]⟩
  refine ⟨fun i j p q hp hq e => ?_, fun k q hq => ?_⟩
  · obtain ⟨h1, e1⟩ := hg i p hp
    obtain ⟨h2, e2⟩ := hg j q hq
    exact h.2.1 i j h1 h2 (by rw [← e1, ← e2, e])
  · obtain ⟨h1, e1⟩ := hg k q hq
    exact ⟨k, h1, e1⟩
/-- the base of a walk -/
def CB (p : Program) (s : State) (m : MethodId) (args : Array Value) (c : Code) (cc : ByteArray) (own : String) (nL : Nat) (K : WK) : Prop := CallFix p m c cc nL s args tb own ∧ kOk K s
def G (p : Program) (l : Launch) (e : Env) (R : Room) (s : State) (m : MethodId) (args : Array Value) (below : List Frame) (meth : Method) (c : Code) (cells slots : Nat) (Q : State → Prop) (K : WK) (H0 : Heap) (nL : Nat) (σ : SG) (pc : Nat) (lv : List (Nat × Value)) (st : List Value) : Prop :=
  ∀ (H : Heap) (locs : List Loc) (ls : Array Slot), va_P K.1 vwCl (wl K σ) H → va_S (wA K) H0 H locs → lv_has ls nL lv → W p l e R s m args below meth c H locs cells slots Q (F0 m pc ls st)
