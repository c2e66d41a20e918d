/-! THE CLAIM OUT OF ONE WALK OF THE LAW'S BODY. Your part is whole_start (and what it stands on); all else here is the same for every law, but numbers. -/
def R_law : String := "BreathStreetLaw"
def lw_P (b : Addr) (xs : List Int32) (args : Array Value) (s : State) : Prop := args = #[.ref b] ∧ s.IntsAt b xs ∧ xs.length ≤ 320 ∧ (Jvm.Cond.and given_1 narrow_1).before args s = true
def lw_Q (_ : Array Value) (s : State) (o : Outcome) (t : State) : Prop := o = .returned (some (.int 1)) ∧ Framed s o t [] 74 2285
def lw_Z (below : List Frame) (a : Array Value) (s : State) : State → Prop := fun t => ∃ o, t.status = .running ∧ Ended t below o ∧ lw_Q a s o t
/-- the law's own end, with 1 on the stack, nothing written that was there before, its room as the claim has it -/
theorem lw_ret {p : Program} {l : Launch} {e : Env} {s : State} {m : MethodId} {below : List Frame} {meth : Method} {c : Code} {b : Nat} (hx : p.tables.exec = Jvm.exec) (hb : c.code = code) (hr : meth.sig.returnType = ret) (hlocks : meth.locks = false) {pc : Nat} {H : Heap} {ls : Array Slot} (hdg : decode code pc = .ok (.ireturn, 1)) : W p l e room_1 s m #[Value.ref b] below meth c H [] 74 2285 (lw_Z below #[Value.ref b] s) (F0 m pc ls [.int 1]) := by
  intro T hT X
  obtain ⟨fs, hret, hrun, hended, hW, hframe⟩ := X.leave (v := some (.int 1)) (hlocks := hlocks) (fun h => by rw [hr] at h; cases h)
  have hmeth' : T.vm.method? m = some meth := X.method'
  refine ⟨T.setFrames fs, ?_, .returned (some (.int 1)), hrun, hended, rfl, ⟨_, rfl⟩, hW, hframe⟩
  jvm_step X.here [X.here.top, hx, hb, hdg, hmeth', hr, ret, narrow_b1]
  (try refine ⟨rfl, ?_⟩); (try refine ⟨rfl, ?_⟩)
  first | (intro acts; rw [hret _ acts rfl rfl rfl]) | rw [hret _ _ rfl rfl rfl]
  exact Steps.refl _
/-- what holds at the law's entry: the machine, the code, the tables' words (any of lw_tbl by 'hts w (by decide +kernel)'), the script of L ints xs at the cell b, what the Statement gives of the start (any of its parts by flat_of_before) -/
def lw_At (p : Program) (s : State) (m : MethodId) (meth : Method) (c : Code) (b L : Nat) (xs : Nat → Int32) : Prop :=
  p.tables.exec = Jvm.exec ∧ c.code = code ∧ meth.sig.returnType = ret ∧ c.maxLocals = 4 ∧ s.vm.findClass R_law = some m.cls ∧ (∀ w ∈ lw_tbl, w.before #[Value.ref b] s = true) ∧ va_X b L xs s s.heap ∧ b < s.heap.size ∧ meth.locks = false ∧ (Jvm.Cond.and given_1 narrow_1).before #[Value.ref b] s = true
theorem inv_mono {N : Nat} {σ : SG} (h : INV N σ) : INV (N + 1) σ := by
  obtain ⟨b, D, S, X, L, M, P, v, sl, E, Y, bn, wy, tx, n, f, T, U, hc, hm, hr, g0, g1⟩ := h
  exact inv_same hc hm hr g0 g1
set_option maxRecDepth 100000 in
set_option maxHeartbeats 4000000 in
theorem law_loop {p : Program} {l : Launch} {e : Env} {s : State} {m : MethodId} {below : List Frame} {meth : Method} {c : Code} {K : WK} {H0 : Heap} {a L0 : Nat} {xs : Nat → Int32} (hx : p.tables.exec = Jvm.exec) (hb : c.code = code) (hr : meth.sig.returnType = ret) (hlocks : meth.locks = false) (B : CB p s m #[.ref a] c cL_law RL 4 K) (hS0 : SCR a L0 xs s H0 K) (hfr : ∀ q, wA K q → s.heap.size ≤ q) :
    ∀ (nn N : Nat) (i : Int) (σ : SG), 64 - N = nn → (i = 5 * N ∧ N ≤ 64) → INV N σ → LG p l e s m below meth c (lw_Z below #[.ref a] s) K H0 a i σ 18 [] := by
  intro nn
  induction nn using Nat.strongRecOn with
  | _ nn ih =>
    intro N i σ hn hi hI
    have hL := hS0.2.2.2
    refine g_iload_n (pc' := 19) B 0 rfl rfl dL_law_18 rfl ?_
    refine g_aload_n (pc' := 20) B 3 rfl rfl dL_law_19 rfl ?_
    refine g_slen (pc' := 21) B hS0 dL_law_20 rfl ?_
    refine g_iconst (pc' := 22) B dL_law_21 rfl ?_
    refine g_isub (pc' := 23) B dL_law_22 rfl ?_
    refine g_icmp_gt (pc' := 26) B 1203 (by omega) (by omega) dL_law_23 (by decide) rfl (fun c23 => ?_) (fun c23 => ?_)
    · refine g_iconst (pc' := 1204) B dL_law_1203 rfl ?_
      intro H locs ls hW hS hl
      refine va_forget (fun q hq => hfr _ (hS.2.2 q hq)) ?_
      exact lw_ret hx hb hr hlocks dL_law_1204
    · have kk : ∀ τ : SG, INV (N + 1) τ → LG p l e s m below meth c (lw_Z below #[.ref a] s) K H0 a i τ 1197 [] := by
        intro τ hτ
        refine g_iinc (pc' := 1200) B 0 [(3, .int (iI (i + 5))), (2, .ref (K.2.2 57)), (1, .ref (K.2.2 0)), (0, .ref a)] dL_law_1197 rfl rfl (by decide) rfl ?_
        refine g_goto (pc' := 18) B dL_law_1200 (by decide) ?_
        exact ih _ (by omega) (N + 1) (i + 5) τ rfl (by omega) hτ
      have hN : N ≤ 63 := by omega
      have hi5 : 0 ≤ i ∧ i + 5 ≤ L0 := by omega
      refine g_aload_n (pc' := 27) B 3 rfl rfl dL_law_26 rfl ?_
      refine g_iload_n (pc' := 28) B 0 rfl rfl dL_law_27 rfl ?_
      refine g_sld (pc' := 29) B hS0 (by omega) dL_law_28 rfl ?_
      refine g_bipush (pc' := 31) B (by decide +kernel) dL_law_29 rfl ?_
      refine g_iand (pc' := 32) B (iI (xv xs i) &&& iI 63).toInt (iI_of _).symm dL_law_31 rfl ?_
      have hz := iI_rng (iI (xv xs i) &&& iI 63)
      generalize (iI (xv xs i) &&& iI 63).toInt = z at hz ⊢
      rcases (show z = 0 ∨ z = 1 ∨ z = 2 ∨ z = 3 ∨ z = 4 ∨ z = 5 ∨ z = 6 ∨ z = 7 ∨ z = 8 ∨ z = 9 ∨ z = 10 ∨ z = 11 ∨ z = 12 ∨ z = 13 ∨ z = 14 ∨ z = 15 ∨ z = 16 ∨ z = 17 ∨ z = 18 ∨ z = 19 ∨ z = 20 ∨ z = 21 ∨ z = 22 ∨ z = 23 ∨ z = 24 ∨ z = 25 ∨ z = 26 ∨ z = 27 ∨ z = 28 ∨ z = 29 ∨ z = 30 ∨ z = 31 ∨ z = 32 ∨ z = 33 ∨ z = 34 ∨ z = 35 ∨ z = 36 ∨ (z < 0 ∨ 36 < z) by omega) with hk | hk | hk | hk | hk | hk | hk | hk | hk | hk | hk | hk | hk | hk | hk | hk | hk | hk | hk | hk | hk | hk | hk | hk | hk | hk | hk | hk | hk | hk | hk | hk | hk | hk | hk | hk | hk | hk
      · refine g_tableIn B 0 196 hk dL_law_32 (by decide) (by decide) (by decide) rfl (by decide) ?_
        exact law_feed B hS0 hN hi5 hI kk
      · refine g_tableIn B 1 219 hk dL_law_32 (by decide) (by decide) (by decide) rfl (by decide) ?_
        exact law_street B hS0 hN hi5 hI kk
      · refine g_tableIn B 2 232 hk dL_law_32 (by decide) (by decide) (by decide) rfl (by decide) ?_
        exact law_fault B hS0 hN hi5 hI kk
      · refine g_tableIn B 3 245 hk dL_law_32 (by decide) (by decide) (by decide) rfl (by decide) ?_
        exact law_told B hS0 hN hi5 hI kk
      · refine g_tableIn B 4 268 hk dL_law_32 (by decide) (by decide) (by decide) rfl (by decide) ?_
        exact law_field B hS0 hN hi5 hI kk
      · refine g_tableIn B 5 301 hk dL_law_32 (by decide) (by decide) (by decide) rfl (by decide) ?_
        exact law_height B hS0 hN hi5 hI kk
      · refine g_tableIn B 6 334 hk dL_law_32 (by decide) (by decide) (by decide) rfl (by decide) ?_
        exact law_house B hS0 hN hi5 hI kk
      · refine g_tableIn B 7 367 hk dL_law_32 (by decide) (by decide) (by decide) rfl (by decide) ?_
        exact law_seam B hS0 hN hi5 hI kk
      · refine g_tableIn B 8 400 hk dL_law_32 (by decide) (by decide) (by decide) rfl (by decide) ?_
        exact law_step B hS0 hN hi5 hI kk
      · refine g_tableIn B 9 423 hk dL_law_32 (by decide) (by decide) (by decide) rfl (by decide) ?_
        exact law_hold B hS0 hN hi5 hI kk
      · refine g_tableIn B 10 446 hk dL_law_32 (by decide) (by decide) (by decide) rfl (by decide) ?_
        exact law_roll B hS0 hN hi5 hI kk
      · refine g_tableIn B 11 469 hk dL_law_32 (by decide) (by decide) (by decide) rfl (by decide) ?_
        exact law_slack B hS0 hN hi5 hI kk
      · refine g_tableIn B 12 502 hk dL_law_32 (by decide) (by decide) (by decide) rfl (by decide) ?_
        exact law_drift B hS0 hN hi5 hI kk
      · refine g_tableIn B 13 525 hk dL_law_32 (by decide) (by decide) (by decide) rfl (by decide) ?_
        exact law_undo B hS0 hN hi5 hI kk
      · refine g_tableIn B 14 548 hk dL_law_32 (by decide) (by decide) (by decide) rfl (by decide) ?_
        exact law_cracks B hS0 hN hi5 hI kk
      · refine g_tableIn B 15 571 hk dL_law_32 (by decide) (by decide) (by decide) rfl (by decide) ?_
        exact law_worst B hS0 hN hi5 hI kk
      · refine g_tableIn B 16 584 hk dL_law_32 (by decide) (by decide) (by decide) rfl (by decide) ?_
        exact law_water B hS0 hN hi5 hI kk
      · refine g_tableIn B 17 617 hk dL_law_32 (by decide) (by decide) (by decide) rfl (by decide) ?_
        exact law_mill B hS0 hN hi5 hI kk
      · refine g_tableIn B 18 650 hk dL_law_32 (by decide) (by decide) (by decide) rfl (by decide) ?_
        exact law_bestMill B hS0 hN hi5 hI kk
      · refine g_tableIn B 19 663 hk dL_law_32 (by decide) (by decide) (by decide) rfl (by decide) ?_
        exact law_soonest B hS0 hN hi5 hI kk
      · refine g_tableIn B 20 696 hk dL_law_32 (by decide) (by decide) (by decide) rfl (by decide) ?_
        exact law_least B hS0 hN hi5 hI kk
      · refine g_tableIn B 21 749 hk dL_law_32 (by decide) (by decide) (by decide) rfl (by decide) ?_
        exact law_open B hS0 hN hi5 hI kk
      · refine g_tableIn B 22 772 hk dL_law_32 (by decide) (by decide) (by decide) rfl (by decide) ?_
        exact law_longest B hS0 hN hi5 hI kk
      · refine g_tableIn B 23 795 hk dL_law_32 (by decide) (by decide) (by decide) rfl (by decide) ?_
        exact law_hear B hS0 hN hi5 hI kk
      · refine g_tableIn B 24 828 hk dL_law_32 (by decide) (by decide) (by decide) rfl (by decide) ?_
        exact law_began B hS0 hN hi5 hI kk
      · refine g_tableIn B 25 851 hk dL_law_32 (by decide) (by decide) (by decide) rfl (by decide) ?_
        exact law_watch B hS0 hN hi5 hI kk
      · refine g_tableIn B 26 864 hk dL_law_32 (by decide) (by decide) (by decide) rfl (by decide) ?_
        exact law_see B hS0 hN hi5 hI kk
      · refine g_tableIn B 27 907 hk dL_law_32 (by decide) (by decide) (by decide) rfl (by decide) ?_
        exact law_rounds B hS0 hN hi5 hI kk
      · refine g_tableIn B 28 940 hk dL_law_32 (by decide) (by decide) (by decide) rfl (by decide) ?_
        exact law_cellars B hS0 hN hi5 hI kk
      · refine g_tableIn B 29 973 hk dL_law_32 (by decide) (by decide) (by decide) rfl (by decide) ?_
        exact law_sluices B hS0 hN hi5 hI kk
      · refine g_tableIn B 30 1016 hk dL_law_32 (by decide) (by decide) (by decide) rfl (by decide) ?_
        exact law_odds B hS0 hN hi5 hI kk
      · refine g_tableIn B 31 1069 hk dL_law_32 (by decide) (by decide) (by decide) rfl (by decide) ?_
        exact law_write B hS0 hN hi5 hI kk
      · refine g_tableIn B 32 1092 hk dL_law_32 (by decide) (by decide) (by decide) rfl (by decide) ?_
        exact law_judge B hS0 hN hi5 hI kk
      · refine g_tableIn B 33 1115 hk dL_law_32 (by decide) (by decide) (by decide) rfl (by decide) ?_
        exact law_tear B hS0 hN hi5 hI kk
      · refine g_tableIn B 34 1128 hk dL_law_32 (by decide) (by decide) (by decide) rfl (by decide) ?_
        exact law_seed B hS0 hN hi5 hI kk
      · refine g_tableIn B 35 1151 hk dL_law_32 (by decide) (by decide) (by decide) rfl (by decide) ?_
        exact law_keep B hS0 hN hi5 hI kk
      · refine g_tableIn B 36 1174 hk dL_law_32 (by decide) (by decide) (by decide) rfl (by decide) ?_
        exact law_goBack B hS0 hN hi5 hI kk
      · refine g_tableOut B 1197 hk (by omega) dL_law_32 (by decide) ?_
        exact kk σ (inv_mono hI)
