/-! CONSTRUCTORS: a world that grows -/
abbrev CI : Type := va_G × (ClassId × ClassId × ClassId)
abbrev wT3 (C : CI) : List (ClassId × FieldType) := [(C.2.1, .int), (C.2.2.1, .long), (C.2.2.2, .boolean)]
def kO3 (C : CI) (s : State) : Prop := va_K C.1 vwCl (wT3 C) s ∧ ∀ (own : String) (idx : Nat) (y : MethodName) (host : String), Cond.methodLinkNest own idx y host ∈ lw_tbl → va_Nw (.methodLinkNest own idx y host) s
theorem kO3.warm {C : CI} {s t : State} (hW : s.WarmedH t.vm) (h : kO3 C s) : kO3 C t := ⟨va_K.moved hW.alike h.1, fun o i y q hq => va_Nw.warmM hW (h.2 o i y q hq)⟩
abbrev aI (C : CI) (n : Nat) : va_E := .inl (C.2.1, n, .inl (fun _ => iI 0))
abbrev aL (C : CI) (n : Nat) : va_E := .inl (C.2.2.1, n, .inr (.inl (fun _ => lI 0)))
abbrev aZ (C : CI) (n : Nat) : va_E := .inl (C.2.2.2, n, .inl (fun _ => iI 0))
def GN (p : Program) (l : Launch) (e : Env) (R : Room) (s : State) (m : MethodId) (args : Array Value) (below : List Frame) (meth : Method) (c : Code) (cells slots : Nat) (Q : State → Prop) (C : CI) (A : Nat → Prop) (H0 : Heap) (nL : Nat) (ws : va_W) (pc : Nat) (lv : List (Nat × Value)) (st : List Value) : Prop :=
  ∀ (H : Heap) (locs : List Loc) (ls : Array Slot), va_P C.1 vwCl ws H → va_D A ws → va_S A H0 H locs → lv_has ls nL lv → W p l e R s m args below meth c H locs cells slots Q (F0 m pc ls st)
def CN (p : Program) (s : State) (m : MethodId) (args : Array Value) (c : Code) (cc : ByteArray) (own : String) (nL : Nat) (C : CI) (A : Nat → Prop) (H0 : Heap) : Prop := CallFix p m c cc nL s args tb own ∧ kO3 C s ∧ ∀ q, H0.size ≤ q → A q
def FA (own : String) (index ci j : Nat) (ty : FieldType) (fin : Bool) : Prop := ∃ (C : String) (T : u_T) (N : Nat) (ty0 : Nat → FieldType), vwCl[ci]? = some (C, T, N) ∧ j < N ∧ Cond.fieldLink own index (T j).1 (T j).2.1 (T j).2.2.1 ∈ lw_tbl ∧ (∀ w ∈ u_ws C T N, w ∈ tb) ∧ (∀ k, k < N → parseFieldDescriptor (T k).2.2.1 = some (ty0 k)) ∧ (∀ a, a < N → ∀ b, b < N → a ≠ b → (T a).2.1 ≠ (T b).2.1) ∧ (T j).2.2.2 = fin ∧ parseFieldDescriptor (T j).2.2.1 = some ty ∧ (T j).1 = own
section NC
variable {p : Program} {l : Launch} {e : Env} {R : Room} {s : State} {m : MethodId} {args : Array Value} {below : List Frame} {meth : Method} {c : Code} {cells slots : Nat} {Q : State → Prop} {C : CI} {A : Nat → Prop} {H0 : Heap} {nL : Nat} {ws : va_W} {pc pc' : Nat} {lv : List (Nat × Value)} {st : List Value} {cc : ByteArray} {own : String}
theorem n_al (B : CN p s m args c cc own nL C A H0) {k0 : Fin 4} {i : Nat} {x : Nat} (pos : Nat) (hi : (k0 : Nat) = i) (hv : lv[pos]? = some (i, .ref x)) (hd : decode cc pc = .ok (.aload_n k0, 1)) (hp : pc + 1 = pc') (k : GN p l e R s m args below meth c cells slots Q C A H0 nL ws pc' lv (.ref x :: st)) : GN p l e R s m args below meth c cells slots Q C A H0 nL ws pc lv st := by
  subst hp
  intro H locs ls hP hD hS hl
  exact lv_aload_n B.1.1 B.1.2.1 hd hi (lv_at hl pos hv) (k H locs ls hP hD hS hl)
theorem n_as (B : CN p s m args c cc own nL C A H0) {k0 : Fin 4} {i : Nat} {x : Nat} (lv' : List (Nat × Value)) (hi : (k0 : Nat) = i) (hd : decode cc pc = .ok (.astore_n k0, 1)) (hp : pc + 1 = pc') (hn : i < nL) (hl0 : (i, Value.ref x) :: lv.filter (fun q => !(q.1 == i) && !(q.1 + 1 == i && q.2.category == 2)) = lv') (k : GN p l e R s m args below meth c cells slots Q C A H0 nL ws pc' lv' st) : GN p l e R s m args below meth c cells slots Q C A H0 nL ws pc lv (.ref x :: st) := by
  subst hp
  intro H locs ls hP hD hS hl
  exact lv_astore_n B.1.1 B.1.2.1 hd hi hl hn hl0 (fun ls' hl' => k H locs ls' hP hD hS hl')
theorem n_is (B : CN p s m args c cc own nL C A H0) {k0 : Fin 4} {i : Nat} {x : Int32} (lv' : List (Nat × Value)) (hi : (k0 : Nat) = i) (hd : decode cc pc = .ok (.istore_n k0, 1)) (hp : pc + 1 = pc') (hn : i < nL) (hl0 : (i, Value.int x) :: lv.filter (fun q => !(q.1 == i) && !(q.1 + 1 == i && q.2.category == 2)) = lv') (k : GN p l e R s m args below meth c cells slots Q C A H0 nL ws pc' lv' st) : GN p l e R s m args below meth c cells slots Q C A H0 nL ws pc lv (.int x :: st) := by
  subst hp
  intro H locs ls hP hD hS hl
  exact lv_istore_n B.1.1 B.1.2.1 hd hi hl hn hl0 (fun ls' hl' => k H locs ls' hP hD hS hl')
theorem n_dup (B : CN p s m args c cc own nL C A H0) {va : Value} (hva : va.category = 1) (hd : decode cc pc = .ok (.dup, 1)) (hp : pc + 1 = pc') (k : GN p l e R s m args below meth c cells slots Q C A H0 nL ws pc' lv (va :: va :: st)) : GN p l e R s m args below meth c cells slots Q C A H0 nL ws pc lv (va :: st) := by
  subst hp
  intro H locs ls hP hD hS hl
  exact lv_dup B.1.1 B.1.2.1 hd hva (k H locs ls hP hD hS hl)
theorem n_ic (B : CN p s m args c cc own nL C A H0) {n : Int} (hd : decode cc pc = .ok (.iconst n, 1)) (hp : pc + 1 = pc') (k : GN p l e R s m args below meth c cells slots Q C A H0 nL ws pc' lv (.int (iI n) :: st)) : GN p l e R s m args below meth c cells slots Q C A H0 nL ws pc lv st := by
  subst hp
  intro H locs ls hP hD hS hl
  exact lv_iconst B.1.1 B.1.2.1 hd rfl (k H locs ls hP hD hS hl)
theorem n_bi (B : CN p s m args c cc own nL C A H0) {n : Int} (hv : (Int8.ofInt n).toInt32 = iI n) (hd : decode cc pc = .ok (.bipush n, 2)) (hp : pc + 2 = pc') (k : GN p l e R s m args below meth c cells slots Q C A H0 nL ws pc' lv (.int (iI n) :: st)) : GN p l e R s m args below meth c cells slots Q C A H0 nL ws pc lv st := by
  subst hp
  intro H locs ls hP hD hS hl
  exact lv_bipush B.1.1 B.1.2.1 hd hv (k H locs ls hP hD hS hl)
theorem n_si (B : CN p s m args c cc own nL C A H0) {n : Int} (hv : (Int16.ofInt n).toInt32 = iI n) (hd : decode cc pc = .ok (.sipush n, 3)) (hp : pc + 3 = pc') (k : GN p l e R s m args below meth c cells slots Q C A H0 nL ws pc' lv (.int (iI n) :: st)) : GN p l e R s m args below meth c cells slots Q C A H0 nL ws pc lv st := by
  subst hp
  intro H locs ls hP hD hS hl
  exact lv_sipush B.1.1 B.1.2.1 hd hv (k H locs ls hP hD hS hl)
theorem n_oi (B : CN p s m args c cc own nL C A H0) {idx : Nat} {a : Nat} (hlk : Cond.methodLink own idx Lib.objectInit ∈ lw_tbl) (hd : decode cc pc = .ok (.invokespecial idx, 3)) (hp : pc + 3 = pc') (hfr : 1 ≤ R.frames) (hlo : (st.map fun v => v.category).sum + 12 ≤ R.locals) (k : GN p l e R s m args below meth c cells slots Q C A H0 nL ws pc' lv st) : GN p l e R s m args below meth c cells slots Q C A H0 nL ws pc lv (.ref a :: st) := by
  subst hp
  intro H locs ls hP hD hS hl
  refine W.objInit B.1.1 B.1.2.1 B.1.2.2.2.1 (B.1.2.2.2.2 _ (inb hlk rfl)) (B.1.2.2.2.2 _ (inb tw_23 rfl)) (B.1.2.2.2.2 (Cond.code Lib.objectInit ⟨#[0xb1]⟩ 1 none) (inb tw_24 rfl)) rfl (by rw [B.1.2.2.1]; exact hl.1) rfl hd hfr (by show 2 * 0 + _ + 12 ≤ _; omega) ?_
  refine W.eq (g2 := F0 m (pc + 3) ls st) rfl ?_
  exact k H locs ls hP hD hS hl
theorem n_na (B : CN p s m args c cc own nL C A H0) {atype : ArrayType} {ty : FieldType} (hty : newarray.typeOf atype = ty) (hw : Cond.arrayClass ty ∈ lw_tbl) (t : Nat) (cA0 : ClassId) (ht : (wT3 C)[t]? = some (cA0, ty)) (hu : ∀ (U : State) (x y : ClassId), va_RA U x ty → va_RA U y ty → x = y) {n : Int} {N : Nat} (a0 : vp_A) (ha : ∀ cA : ClassId, vp_cell cA a0 = arrV cA N (fun _ => defaultValue ty)) (hn : ¬ iI n < 0) (hN : (iI n).toNatClampNeg = N) (hby : N * componentBytes ty ≤ 536870912) (hce : cells + 1 ≤ R.cells) (hsl : slots + N ≤ R.slots) (hd : decode cc pc = .ok (.newarray atype, 2)) (hp : pc + 2 = pc')
    (k : ∀ q : Nat, GN p l e R s m args below meth c (cells + 1) (slots + N) Q C A H0 nL (ws ++ [(q, .inl (cA0, a0))]) pc' lv (.ref q :: st)) : GN p l e R s m args below meth c cells slots Q C A H0 nL ws pc lv (.int (iI n) :: st) := by
  subst hp
  intro H locs ls hP hD hS hl
  have harr : (Cond.arrayClass (newarray.typeOf atype)).before args s = true := by rw [hty]; exact B.1.2.2.2.2 _ (inb hw rfl)
  refine va_newa B.1.1 B.1.2.1 harr hty B.2.1.1 hP hD hS B.2.2 ha hn hN hby hce hsl hd (fun q cA H1 hK1 hP1 hD1 hS1 => ?_)
  have e : cA = cA0 := hu s cA cA0 (hK1.2 3 (cA, ty) rfl).2 (B.2.1.1.2 t (cA0, ty) ht).2
  subst e
  exact k q H1 locs ls hP1 hD1 hS1 hl
theorem n_nw (B : CN p s m args c cc own nL C A H0) {cn : String} {T : u_T} {N ci index : Nat} (hin : ∀ w ∈ u_ws cn T N, w ∈ tb) (ty : Nat → FieldType) (hty : ∀ k, k < N → parseFieldDescriptor (T k).2.2.1 = some (ty k)) (w1 : Cond.classLink own index cn ∈ lw_tbl) (w2 : Cond.instantiable cn N ∈ lw_tbl) (w3 : Cond.initialized cn ∈ lw_tbl) (hc : vwCl[ci]? = some (cn, T, N)) (fs : List Value) (hfs : ∀ j, j < N → defaultValue (ty j) = vp_V fs j) (hce : cells + 1 ≤ R.cells) (hsl : slots + N ≤ R.slots) (hd : decode cc pc = .ok (.new index, 3)) (hp : pc + 3 = pc')
    (k : ∀ q : Nat, GN p l e R s m args below meth c (cells + 1) (slots + N) Q C A H0 nL (ws ++ [(q, .inr (ci, fs))]) pc' lv (.ref q :: st)) : GN p l e R s m args below meth c cells slots Q C A H0 nL ws pc lv st := by
  subst hp
  intro H locs ls hP hD hS hl
  exact va_new B.1.1 B.1.2.1 B.1.2.2.2.2 hin ty hty B.1.2.2.2.1 (B.1.2.2.2.2 _ (inb w1 rfl)) (B.1.2.2.2.2 _ (inb w2 rfl)) (B.1.2.2.2.2 _ (inb w3 rfl)) B.2.1.1 hP hD hS B.2.2 hc hfs hce hsl hd (fun q H1 hP1 hD1 hS1 => k q H1 locs ls hP1 hD1 hS1 hl)
theorem n_pu (B : CN p s m args c cc own nL C A H0) (hin2 : meth.name = "<init>") {index ci j a i : Nat} {fs : List Value} {v : Value} {ty : FieldType} {fin : Bool} (hf : FA own index ci j ty fin) (hw : ws[i]? = some (a, .inr (ci, fs))) (hj : j < fs.length) (hn : narrow ty v = v) (hfit : fits ty v = true) (ws' : va_W) (he : ws.set i (a, .inr (ci, fs.set j v)) = ws') (hd : decode cc pc = .ok (.putfield index, 3)) (hp : pc + 3 = pc')
    (k : GN p l e R s m args below meth c cells slots Q C A H0 nL ws' pc' lv st) : GN p l e R s m args below meth c cells slots Q C A H0 nL ws pc lv (v :: .ref a :: st) := by
  subst hp
  subst he
  intro H locs ls hP hD hS hl
  obtain ⟨cn, T, N, ty0, h1, h2, h3, h4, h5, h6, h7, h8, h9⟩ := hf
  cases fin with
  | true => exact va_putF B.1.1 B.1.2.1 B.1.2.2.2.2 h4 ty0 h5 h6 B.1.2.2.2.1 B.2.1.1 hP hD hS i hw h1 j h2 (B.1.2.2.2.2 _ (inb h3 rfl)) (fun _ h => h) h7 hin2 h9 h8 hn hfit hj hd (fun H1 locs1 hP1 hD1 hS1 => k H1 locs1 ls hP1 hD1 hS1 hl)
  | false => exact va_put B.1.1 B.1.2.1 B.1.2.2.2.2 h4 ty0 h5 h6 B.1.2.2.2.1 B.2.1.1 hP hD hS i hw h1 j h2 (B.1.2.2.2.2 _ (inb h3 rfl)) (fun _ h => h) h7 h8 hn hfit hj hd (fun H1 locs1 hP1 hD1 hS1 => k H1 locs1 ls hP1 hD1 hS1 hl)
end NC
def PN (C : CI) (h0 sz ci : Nat) (fs : List Value) : Array Value → State → Prop := va_Pc [.ref h0] (fun U => U.heap.size = sz ∧ va_P C.1 vwCl [(h0, .inr (ci, fs))] U.heap ∧ kO3 C U)
def QN (C : CI) (Sh : va_W → Prop) (A : Nat → Prop) : Array Value → State → Outcome → State → Prop := va_Qv (S := va_W) Sh (fun w t => va_P C.1 vwCl w t.heap ∧ va_D A w) A
abbrev AN (h0 sz ci : Nat) (fs : List Value) : Nat → Prop := va_A [(h0, .inr (ci, fs))] sz
def MN (l : Launch) (y : MethodName) (cc : ByteArray) (fr lo mc ms : Nat) (C : CI) (h0 ci : Nat) (fs : List Value) (Sh : va_W → Prop) : Prop := ∀ sz : Nat, Met l y (mw y cc 1 none) { frames := fr, cells := mc, slots := ms, locals := lo } (PN C h0 sz ci fs) (QN C Sh (AN h0 sz ci fs)) mc ms (AN h0 sz ci fs)
theorem metN {l : Launch} {y : MethodName} {cc : ByteArray} {fr lo mc ms : Nat} {C : CI} {h0 ci : Nat} {fs : List Value} {Sh : va_W → Prop} (hy : plainFor y = true) (hyn : y.name = "<init>")
    (body : ∀ (p : Program) (e : Env) (s : State) (m : MethodId) (below : List Frame) (meth : Method) (c : Code) (A : Nat → Prop), CN p s m #[.ref h0] c cc y.cls 1 C A s.heap → meth.name = "<init>" → meth.sig.returnType = none → meth.locks = false →
      GN p l e { frames := fr, cells := mc, slots := ms, locals := lo } s m #[.ref h0] below meth c 0 0 (MQ below (QN C Sh A) #[.ref h0] s mc ms A) C A s.heap 1 [(h0, .inr (ci, fs))] 0 [(0, .ref h0)] []) : MN l y cc fr lo mc ms C h0 ci fs Sh := by
  intro sz
  refine va_MetF (cc := cc) (maxL := 1) (ret := none) hy rfl ?_
  intro p e s m args below meth c s₁ B hml hv
  obtain ⟨rfl, hsz, hP, hK⟩ := hv
  subst hsz
  have hts := atoms_spec (ws := mw y cc 1 none) B.pre
  have hD : va_D (AN h0 s.heap.size ci fs) [(h0, .inr (ci, fs))] := ⟨fun i j p q hp hq _ => by
    have h1 : i < 1 := (List.getElem?_eq_some_iff.mp hp).1
    have h2 : j < 1 := (List.getElem?_eq_some_iff.mp hq).1
    omega, fun k q hk => va_A.in hk⟩
  have hl := lv_entry [.ref h0] (n := 1) (Nat.le_of_ble_eq_true rfl)
  rw [lg_entry_eq]
  exact body p e s m below meth c (AN h0 s.heap.size ci fs) ⟨⟨B.exec, B.bytes, hml, findClass_of_methodNamed B.named, fun w hw => hts w (List.mem_cons_of_mem _ hw)⟩, hK, fun q h => Or.inr h⟩ ((name_of_methodNamed B.named B.method).1.trans hyn) B.returns B.notSynchronized s.heap [] _ hP hD va_S.rf hl
section ND
variable {p : Program} {l : Launch} {e : Env} {R : Room} {s : State} {m : MethodId} {args : Array Value} {below : List Frame} {meth : Method} {c : Code} {cells slots : Nat} {Q : State → Prop} {C : CI} {A : Nat → Prop} {H0 : Heap} {nL : Nat} {ws : va_W} {pc pc' : Nat} {lv : List (Nat × Value)} {st : List Value} {cc : ByteArray} {own : String}
theorem n_vr {Sh : va_W → Prop} {mc ms : Nat} (B : CN p s m args c cc own nL C A s.heap) (hr : meth.sig.returnType = none) (hlocks : meth.locks = false) (h1 : cells ≤ mc) (h2 : slots ≤ ms) (hsh : Sh ws) (hd : decode cc pc = .ok (.return_, 1)) : GN p l e R s m args below meth c cells slots (MQ below (QN C Sh A) args s mc ms A) C A s.heap nL ws pc lv [] := by
  intro H locs ls hP hD hS hl
  refine W.widen (k := mc) (n := ms) h1 h2 ?_
  exact W.vret B.1.1 B.1.2.1 hr (fun t ht hWm => ⟨⟨ws, rfl, hsh, by show va_P C.1 vwCl ws t.heap; rw [ht]; exact hP, hD⟩, hS.F ht⟩) hS.2.2 hd hlocks
theorem preN {H : Heap} {q ci : Nat} {fs : List Value} (hK : kO3 C s) (hP : va_P C.1 vwCl [(q, .inr (ci, fs))] H) : PreS s H (PN C q H.size ci fs) [.ref q] := ⟨fun a U g mk h => by
    obtain ⟨q0, q1, qP, qK⟩ := h
    exact ⟨q0, q1, qP, va_K.moved (u := U) (U := U.calling g mk a) (Vm.Alike.refl U.vm) qK.1, fun o i y h hq => va_Nw.same rfl (u := U) (U := U.calling g mk a) rfl (qK.2 o i y h hq)⟩,
  fun U hU hWm => ⟨rfl, by rw [hU], by rw [hU]; exact hP, kO3.warm hWm hK⟩⟩
/-- a constructor called, of the object made just before it: privately (nest mates) or not -/
theorem n_ci {y : MethodName} {cc' : ByteArray} {fr lo mc ms idx q ci : Nat} {fs : List Value} {Sh : va_W → Prop} {wr : va_W} (B : CN p s m args c cc own nL C A H0) (hM : MN l y cc' fr lo mc ms C q ci fs Sh) (hcd : Cond.code y cc' 1 none ∈ lw_tbl) (him : Cond.instanceMethod y ∈ lw_tbl) (hini : Cond.initialized y.cls ∈ lw_tbl) (hyn : y.name = "<init>") (hy : y.cls ≠ "java/lang/invoke/MethodHandle" ∧ y.cls ≠ "java/lang/invoke/VarHandle" ∧ (parseMethodDescriptor y.desc).map (fun d => d.parameters.length) = some 0)
    (hlk : Cond.methodLink own idx y ∈ lw_tbl ∨ ∃ host : String, Cond.methodLinkNest own idx y host ∈ lw_tbl) (hR : fr + 1 ≤ R.frames ∧ 8 + (1 + 11) + lo ≤ R.locals) (isC isR : List Nat) (hC : isC.map (fun i => ws[i]?) = [(q, Sum.inr (ci, fs))].map some) (hRr : isR.map (fun i => ws[i]?) = wr.map some) (hnd : va_nd isR = true) (hdis : ∀ i ∈ isR, i ∉ isC)
    (hcat : (st.map fun v => v.category).sum ≤ 8) (hcs : cells + mc ≤ R.cells ∧ slots + ms ≤ R.slots) (hd : decode cc pc = .ok (.invokespecial idx, 3)) (hp : pc + 3 = pc')
    (k : ∀ w1 : va_W, Sh w1 → GN p l e R s m args below meth c (cells + mc) (slots + ms) Q C A H0 nL (wr ++ w1) pc' lv st) : GN p l e R s m args below meth c cells slots Q C A H0 nL ws pc lv (.ref q :: st) := by
  subst hp
  intro H locs ls hP hD hS hl
  have hPc : va_P C.1 vwCl [(q, .inr (ci, fs))] H := by
    intro k0 x hx
    have h0 : k0 < 1 := (List.getElem?_eq_some_iff.mp hx).1
    obtain rfl : k0 = 0 := by omega
    cases isC with
    | nil => cases hC
    | cons i0 is =>
      have h2 : ws[i0]? = some (q, .inr (ci, fs)) := (List.cons.inj hC).1
      cases hx
      exact hP i0 _ h2
  have hFc := va_free (wc := [(q, .inr (ci, fs))]) hD hS B.2.2 isC hC
  have run : va_Run p l e R s m args below meth c H locs cells slots mc ms (F0 m pc ls (.ref q :: st)) st (QN C Sh (AN q H.size ci fs) (Value.ref q :: []).toArray) (AN q H.size ci fs) := by
    rcases hlk with hlk | ⟨host, hlk⟩
    · exact va_runI (As := []) (rest := st) B.1 (hM H.size) (cwI 0 B.1.2.2.2.2 (gin hcd) rfl rfl rfl (B.1.2.2.2.2 _ (inb hini rfl)) (B.1.2.2.2.2 _ (inb hlk rfl)) (B.1.2.2.2.2 _ (inb him rfl)) hyn hy hR) (preN B.2.1 hPc) rfl rfl hl.1 rfl (lv_room hcat) hd hcs
    · exact va_runIN (As := []) (rest := st) B.1 (hM H.size) ⟨va_cnB 0 B.1.2.2.2.2 (gin hcd) rfl rfl rfl (B.2.1.2 _ _ _ _ hlk) (B.1.2.2.2.2 _ (inb hini rfl)) hy hR, hyn, B.1.2.2.2.2 _ (inb him rfl)⟩ (preN B.2.1 hPc) rfl rfl hl.1 rfl (lv_room hcat) hd hcs
  refine va_callv run hS (fun q _ h => hFc q h) hFc (fun w1 t H1 locs1 ht hvm hw hB hz1 hk1 hS1 => ?_)
  obtain ⟨hP1, hD1⟩ := hB
  rw [ht] at hP1
  obtain ⟨hP2, hD2⟩ := va_join hP hD isC isR hC hRr hnd hdis hk1 hFc hP1 hD1
  exact k w1 hw H1 locs1 ls hP2 hD2 hS1 hl
end ND
theorem RA_i (U : State) (x y : ClassId) (h1 : va_RA U x .int) (h2 : va_RA U y .int) : x = y := Option.some.inj (h1.symm.trans h2)
theorem RA_l (U : State) (x y : ClassId) (h1 : va_RA U x .long) (h2 : va_RA U y .long) : x = y := Option.some.inj (h1.symm.trans h2)
theorem RA_z (U : State) (x y : ClassId) (h1 : va_RA U x .boolean) (h2 : va_RA U y .boolean) : x = y := Option.some.inj (h1.symm.trans h2)
