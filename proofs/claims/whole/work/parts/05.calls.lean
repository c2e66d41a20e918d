/-! CONTRACTS over the one world, and the rows of a call. -/
def mw (y : MethodName) (cc : ByteArray) (n : Nat) (rt : Option FieldType) : List Cond := Cond.code y cc n rt :: tb
theorem gin {y : MethodName} {cc : ByteArray} {n : Nat} {rt : Option FieldType} (h : Cond.code y cc n rt ∈ lw_tbl) : GoodIn tb (mw y cc n rt) := fun w hw => by
  rcases List.mem_cons.mp hw with e | hw
  · subst e; exact ⟨inb h rfl, tb_good _ (inb h rfl)⟩
  · exact ⟨hw, tb_good _ hw⟩
abbrev rmo (fr lo : Nat) : Room := { frames := fr, cells := 0, slots := 0, locals := lo }
def Pz (K : WK) (σ : SG) (as : List Value) : Array Value → State → Prop := va_Pc as (fun U => va_P K.1 vwCl (wl K σ) U.heap ∧ kOk K U)
def Qi (K : WK) (post : Int → SG → Prop) : Array Value → State → Outcome → State → Prop := va_Qi (S := SG) (fun r τ => ∃ z : Int, r = iI z ∧ post z τ) (fun τ t => va_P K.1 vwCl (wl K τ) t.heap) (wA K)
def Qv (K : WK) (post : SG → Prop) : Array Value → State → Outcome → State → Prop := va_Qv (S := SG) post (fun τ t => va_P K.1 vwCl (wl K τ) t.heap) (wA K)
def Qr (K : WK) (post : Nat → SG → Prop) : Array Value → State → Outcome → State → Prop := va_Qr (S := Nat × SG) (fun u => post u.1 u.2) (fun u a t => a = K.2.2 u.1 ∧ va_P K.1 vwCl (wl K u.2) t.heap) (wA K)
def MI (l : Launch) (y : MethodName) (cc : ByteArray) (n : Nat) (rt : Option FieldType) (fr lo : Nat) (K : WK) (σ : SG) (as : List Value) (post : Int → SG → Prop) : Prop := Met l y (mw y cc n rt) (rmo fr lo) (Pz K σ as) (Qi K post) 0 0 (wA K)
def MV (l : Launch) (y : MethodName) (cc : ByteArray) (n : Nat) (rt : Option FieldType) (fr lo : Nat) (K : WK) (σ : SG) (as : List Value) (post : SG → Prop) : Prop := Met l y (mw y cc n rt) (rmo fr lo) (Pz K σ as) (Qv K post) 0 0 (wA K)
def MR (l : Launch) (y : MethodName) (cc : ByteArray) (n : Nat) (rt : Option FieldType) (fr lo : Nat) (K : WK) (σ : SG) (as : List Value) (post : Nat → SG → Prop) : Prop := Met l y (mw y cc n rt) (rmo fr lo) (Pz K σ as) (Qr K post) 0 0 (wA K)
theorem met_of {l : Launch} {y : MethodName} {cc : ByteArray} {n : Nat} {rt : Option FieldType} {fr lo : Nat} {K : WK} {σ : SG} {as : List Value} {Qc : Array Value → State → Outcome → State → Prop} (lv : List (Nat × Value)) (hy : plainFor y = true) (hn : (lg_sl as).length ≤ n) (hlv : lv_args 0 as = lv)
    (body : ∀ (p : Program) (e : Env) (s : State) (m : MethodId) (below : List Frame) (meth : Method) (c : Code), CB p s m as.toArray c cc y.cls n K → meth.sig.returnType = rt → meth.locks = false →
      G p l e (rmo fr lo) s m as.toArray below meth c 0 0 (MQ below Qc as.toArray s 0 0 (wA K)) K s.heap n σ 0 lv []) : Met l y (mw y cc n rt) (rmo fr lo) (Pz K σ as) Qc 0 0 (wA K) := by
  refine va_MetF (cc := cc) (maxL := n) (ret := rt) hy rfl ?_
  intro p e s m args below meth c s₁ B hml hv
  obtain ⟨rfl, hP, hK⟩ := hv
  have hts := atoms_spec (ws := mw y cc n rt) B.pre
  have hCB : CB p s m as.toArray c cc y.cls n K := ⟨⟨B.exec, B.bytes, hml, findClass_of_methodNamed B.named, fun w hw => hts w (List.mem_cons_of_mem _ hw)⟩, hK⟩
  have hl := lv_entry as (n := n) hn
  rw [lg_entry_eq]
  rw [hlv] at hl
  exact body p e s m below meth c hCB B.returns B.notSynchronized s.heap [] _ hP va_S.rf hl
section RC
variable {p : Program} {l : Launch} {e : Env} {R : Room} {s : State} {m : MethodId} {args : Array Value} {below : List Frame} {meth : Method} {c : Code} {cells slots : Nat} {Q : State → Prop} {K : WK} {H0 : Heap} {nL : Nat} {σ : SG} {pc pc' : Nat} {lv : List (Nat × Value)} {st : List Value} {cc : ByteArray} {own : String}
theorem g_iret {ty : FieldType} {z : Int} {post : Int → SG → Prop} (B : CB p s m args c cc own nL K) (hr : meth.sig.returnType = some ty) (hn : narrow ty (.int (iI z)) = .int (iI z)) (hlocks : meth.locks = false) (hd : decode cc pc = .ok (.ireturn, 1)) (hpost : post z σ) :
    G p l e R s m args below meth c 0 0 (MQ below (Qi K post) args s 0 0 (wA K)) K s.heap nL σ pc lv [.int (iI z)] := by
  intro H locs ls hW hS hl
  exact W.zret B.1.1 B.1.2.1 hr hn (fun t ht hWm => ⟨⟨iI z, σ, rfl, ⟨z, rfl, hpost⟩, by show va_P K.1 vwCl (wl K σ) t.heap; rw [ht]; exact hW⟩, hS.F ht⟩) hS.2.2 hd hlocks
theorem g_vret {post : SG → Prop} (B : CB p s m args c cc own nL K) (hr : meth.sig.returnType = none) (hlocks : meth.locks = false) (hd : decode cc pc = .ok (.return_, 1)) (hpost : post σ) :
    G p l e R s m args below meth c 0 0 (MQ below (Qv K post) args s 0 0 (wA K)) K s.heap nL σ pc lv [] := by
  intro H locs ls hW hS hl
  exact W.vret B.1.1 B.1.2.1 hr (fun t ht hWm => ⟨⟨σ, rfl, hpost, by show va_P K.1 vwCl (wl K σ) t.heap; rw [ht]; exact hW⟩, hS.F ht⟩) hS.2.2 hd hlocks
theorem g_aret {cn : String} {k : Nat} {post : Nat → SG → Prop} (B : CB p s m args c cc own nL K) (hr : meth.sig.returnType = some (.object cn)) (hlocks : meth.locks = false) (hd : decode cc pc = .ok (.areturn, 1)) (hpost : post k σ) :
    G p l e R s m args below meth c 0 0 (MQ below (Qr K post) args s 0 0 (wA K)) K s.heap nL σ pc lv [.ref (K.2.2 k)] := by
  intro H locs ls hW hS hl
  exact W.aret B.1.1 B.1.2.1 hr (Or.inl ⟨_, rfl⟩) (Or.inr ⟨_, rfl⟩) (fun t ht hWm => ⟨⟨(k, σ), K.2.2 k, rfl, hpost, rfl, by show va_P K.1 vwCl (wl K σ) t.heap; rw [ht]; exact hW⟩, hS.F ht⟩) hS.2.2 hd hlocks
/-- what a call of an instance's method needs of the tables -/
def VT (y : MethodName) (cc : ByteArray) (n : Nat) (rt : Option FieldType) (np : Nat) : Prop := Cond.code y cc n rt ∈ lw_tbl ∧ Cond.instanceMethod y ∈ lw_tbl ∧ Cond.selects y.cls y y ∈ lw_tbl ∧ Cond.initialized y.cls ∈ lw_tbl ∧ (y.cls ≠ "java/lang/invoke/MethodHandle" ∧ y.cls ≠ "java/lang/invoke/VarHandle" ∧ (parseMethodDescriptor y.desc).map (fun d => d.parameters.length) = some np)
def ST (y : MethodName) (cc : ByteArray) (n : Nat) (rt : Option FieldType) (np : Nat) : Prop := Cond.code y cc n rt ∈ lw_tbl ∧ Cond.static y ∈ lw_tbl ∧ Cond.initialized y.cls ∈ lw_tbl ∧ (y.cls ≠ "java/lang/invoke/MethodHandle" ∧ y.cls ≠ "java/lang/invoke/VarHandle" ∧ (parseMethodDescriptor y.desc).map (fun d => d.parameters.length) = some np)
theorem blind (K : WK) (σ : SG) (as : List Value) : FrameBlind (Pz K σ as) := fun a U g mk q => by
  obtain ⟨q0, qP, qK⟩ := q
  exact ⟨q0, qP, va_K.moved (u := U) (U := U.calling g mk a) (Vm.Alike.refl U.vm) qK.1, qK.2.1, fun o i y h hq => va_Nw.same rfl (u := U) (U := U.calling g mk a) rfl (qK.2.2 o i y h hq)⟩
theorem preS {H : Heap} (hK : kOk K s) (hW : va_P K.1 vwCl (wl K σ) H) (as : List Value) : PreS s H (Pz K σ as) as := ⟨blind K σ as, fun U hU hWm => ⟨rfl, by rw [hU]; exact hW, kOk.warm hWm hK⟩⟩
theorem preV {H : Heap} {o ci : Nat} {cs : List Nat} {C : String} {T : u_T} {N : Nat} (hK : kOk K s) (hW : va_P K.1 vwCl (wl K σ) H) (As : List Value) (hy : layL[o]? = some (.inr (ci, cs))) (hcl : vwCl[ci]? = some (C, T, N)) : PreV s H C (K.2.2 o) (Pz K σ (.ref (K.2.2 o) :: As)) As :=
  ⟨blind K σ _, va_recv hK.1 hW hcl (wl_get hy), fun U hU hWm => ⟨rfl, by rw [hU]; exact hW, kOk.warm hWm hK⟩⟩
theorem runV {H : Heap} {locs : List Loc} {ls : Array Slot} {y : MethodName} {cc' : ByteArray} {n' np fr lo o ci idx : Nat} {rt : Option FieldType} {cs : List Nat} {T : u_T} {N : Nat} {As st0 : List Value} {Qc : Array Value → State → Outcome → State → Prop} (B : CB p s m args c cc own nL K)
    (hM : Met l y (mw y cc' n' rt) (rmo fr lo) (Pz K σ (.ref (K.2.2 o) :: As)) Qc 0 0 (wA K)) (hv : VT y cc' n' rt np) (hlk : Cond.methodLink own idx y ∈ lw_tbl) (hy : layL[o]? = some (.inr (ci, cs))) (hcl : vwCl[ci]? = some (y.cls, T, N)) (hR : fr + 1 ≤ R.frames ∧ 8 + (n' + 11) + lo ≤ R.locals) (hst : st0 = As.reverse ++ .ref (K.2.2 o) :: st) (hcat : (st.map fun v => v.category).sum ≤ 8) (hcs : cells ≤ R.cells ∧ slots ≤ R.slots) (hn : As.length = np) (hd : decode cc pc = .ok (.invokevirtual idx, 3))
    (hW : va_P K.1 vwCl (wl K σ) H) (hl : lv_has ls nL lv) : va_Run p l e R s m args below meth c H locs cells slots 0 0 (F0 m pc ls st0) st (Qc (Value.ref (K.2.2 o) :: As).toArray) (wA K) := by
  obtain ⟨h1, h2, h3, h4, h5⟩ := hv
  exact va_runV B.1 hM ⟨callB_of np B.1.2.2.2.2 (gin h1) rfl rfl rfl (B.1.2.2.2.2 _ (inb h4 rfl)) (B.1.2.2.2.2 _ (inb hlk rfl)) h5 hR, B.1.2.2.2.2 _ (inb h2 rfl), B.1.2.2.2.2 _ (inb h3 rfl)⟩ (preV B.2 hW As hy hcl) rfl hn hl.1 hst (lv_room hcat) hd hcs
theorem runS {H : Heap} {locs : List Loc} {ls : Array Slot} {y : MethodName} {cc' : ByteArray} {n' np fr lo idx : Nat} {rt : Option FieldType} {As st0 : List Value} {Qc : Array Value → State → Outcome → State → Prop} (B : CB p s m args c cc own nL K)
    (hM : Met l y (mw y cc' n' rt) (rmo fr lo) (Pz K σ As) Qc 0 0 (wA K)) (hv : ST y cc' n' rt np) (hlk : Cond.methodLink own idx y ∈ lw_tbl) (hR : fr + 1 ≤ R.frames ∧ 8 + (n' + 11) + lo ≤ R.locals) (hst : st0 = As.reverse ++ st) (hcat : (st.map fun v => v.category).sum ≤ 8) (hcs : cells ≤ R.cells ∧ slots ≤ R.slots) (hn : As.length = np) (hd : decode cc pc = .ok (.invokestatic idx, 3))
    (hW : va_P K.1 vwCl (wl K σ) H) (hl : lv_has ls nL lv) : va_Run p l e R s m args below meth c H locs cells slots 0 0 (F0 m pc ls st0) st (Qc As.toArray) (wA K) := by
  obtain ⟨h1, h2, h4, h5⟩ := hv
  exact va_runS B.1 hM ⟨callB_of np B.1.2.2.2.2 (gin h1) rfl rfl rfl (B.1.2.2.2.2 _ (inb h4 rfl)) (B.1.2.2.2.2 _ (inb hlk rfl)) h5 hR, B.1.2.2.2.2 _ (inb h2 rfl)⟩ (preS B.2 hW As) rfl hn hl.1 hst (lv_room hcat) hd hcs
theorem runSN {H : Heap} {locs : List Loc} {ls : Array Slot} {y : MethodName} {host : String} {cc' : ByteArray} {n' np fr lo idx : Nat} {rt : Option FieldType} {As st0 : List Value} {Qc : Array Value → State → Outcome → State → Prop} (B : CB p s m args c cc own nL K)
    (hM : Met l y (mw y cc' n' rt) (rmo fr lo) (Pz K σ As) Qc 0 0 (wA K)) (hv : ST y cc' n' rt np) (hlk : Cond.methodLinkNest own idx y host ∈ lw_tbl) (hR : fr + 1 ≤ R.frames ∧ 8 + (n' + 11) + lo ≤ R.locals) (hst : st0 = As.reverse ++ st) (hcat : (st.map fun v => v.category).sum ≤ 8) (hcs : cells ≤ R.cells ∧ slots ≤ R.slots) (hn : As.length = np) (hd : decode cc pc = .ok (.invokestatic idx, 3))
    (hW : va_P K.1 vwCl (wl K σ) H) (hl : lv_has ls nL lv) : va_Run p l e R s m args below meth c H locs cells slots 0 0 (F0 m pc ls st0) st (Qc As.toArray) (wA K) := by
  obtain ⟨h1, h2, h4, h5⟩ := hv
  exact va_runSN B.1 hM ⟨va_cnB np B.1.2.2.2.2 (gin h1) rfl rfl rfl (B.2.2.2 _ _ _ _ hlk) (B.1.2.2.2.2 _ (inb h4 rfl)) h5 hR, B.1.2.2.2.2 _ (inb h2 rfl), trivial⟩ (preS B.2 hW As) rfl hn hl.1 hst (lv_room hcat) hd hcs
theorem goI {H : Heap} {locs : List Loc} {ls : Array Slot} {st0 : List Value} {post : Int → SG → Prop} {a : Array Value} (hp : pc + 3 = pc') (hr : va_Run p l e R s m args below meth c H locs cells slots 0 0 (F0 m pc ls st0) st (Qi K post a) (wA K)) (hS : va_S (wA K) H0 H locs) (hl : lv_has ls nL lv)
    (k : ∀ (z : Int) (τ : SG), post z τ → G p l e R s m args below meth c cells slots Q K H0 nL τ pc' lv (.int (iI z) :: st)) : W p l e R s m args below meth c H locs cells slots Q (F0 m pc ls st0) := by
  subst hp
  refine va_calli hr hS (fun q _ h => h) (fun q h => h) (fun r τ t H1 locs1 ht hvm hw hB hz1 hk1 hS1 => ?_)
  obtain ⟨z, rfl, hz⟩ := hw
  rw [ht] at hB
  exact k z τ hz H1 locs1 ls hB hS1 hl
theorem goV {H : Heap} {locs : List Loc} {ls : Array Slot} {st0 : List Value} {post : SG → Prop} {a : Array Value} (hp : pc + 3 = pc') (hr : va_Run p l e R s m args below meth c H locs cells slots 0 0 (F0 m pc ls st0) st (Qv K post a) (wA K)) (hS : va_S (wA K) H0 H locs) (hl : lv_has ls nL lv)
    (k : ∀ (τ : SG), post τ → G p l e R s m args below meth c cells slots Q K H0 nL τ pc' lv st) : W p l e R s m args below meth c H locs cells slots Q (F0 m pc ls st0) := by
  subst hp
  refine va_callv hr hS (fun q _ h => h) (fun q h => h) (fun τ t H1 locs1 ht hvm hw hB hz1 hk1 hS1 => ?_)
  rw [ht] at hB
  exact k τ hw H1 locs1 ls hB hS1 hl
theorem goR {H : Heap} {locs : List Loc} {ls : Array Slot} {st0 : List Value} {post : Nat → SG → Prop} {a : Array Value} (hp : pc + 3 = pc') (hr : va_Run p l e R s m args below meth c H locs cells slots 0 0 (F0 m pc ls st0) st (Qr K post a) (wA K)) (hS : va_S (wA K) H0 H locs) (hl : lv_has ls nL lv)
    (k : ∀ (z : Nat) (τ : SG), post z τ → G p l e R s m args below meth c cells slots Q K H0 nL τ pc' lv (.ref (K.2.2 z) :: st)) : W p l e R s m args below meth c H locs cells slots Q (F0 m pc ls st0) := by
  subst hp
  refine va_callr hr hS (fun q _ h => h) (fun q h => h) (fun u ra t H1 locs1 ht hvm hw hB hz1 hk1 hS1 => ?_)
  obtain ⟨rfl, hB⟩ := hB
  rw [ht] at hB
  exact k u.1 u.2 hw H1 locs1 ls hB hS1 hl
theorem g_callVI {y : MethodName} {cc' : ByteArray} {n' np fr lo idx : Nat} {rt : Option FieldType} {As st0 : List Value} {post : Int → SG → Prop} {o ci : Nat} {cs : List Nat} {T : u_T} {N : Nat} (B : CB p s m args c cc own nL K) (hM : MI l y cc' n' rt fr lo K σ (.ref (K.2.2 o) :: As) post) (hv : VT y cc' n' rt np) (hlk : Cond.methodLink own idx y ∈ lw_tbl) (hy : layL[o]? = some (.inr (ci, cs))) (hcl : vwCl[ci]? = some (y.cls, T, N)) (hR : fr + 1 ≤ R.frames ∧ 8 + (n' + 11) + lo ≤ R.locals) (hst : st0 = As.reverse ++ .ref (K.2.2 o) :: st) (hcat : (st.map fun v => v.category).sum ≤ 8) (hcs : cells ≤ R.cells ∧ slots ≤ R.slots) (hn : As.length = np) (hd : decode cc pc = .ok (.invokevirtual idx, 3)) (hp : pc + 3 = pc') (k : ∀ (z : Int) (τ : SG), post z τ → G p l e R s m args below meth c cells slots Q K H0 nL τ pc' lv (.int (iI z) :: st)) : G p l e R s m args below meth c cells slots Q K H0 nL σ pc lv st0 := by
  intro H locs ls hW hS hl
  exact goI hp (runV B hM hv hlk hy hcl hR hst hcat hcs hn hd hW hl) hS hl k
theorem g_callSI {y : MethodName} {cc' : ByteArray} {n' np fr lo idx : Nat} {rt : Option FieldType} {As st0 : List Value} {post : Int → SG → Prop} (B : CB p s m args c cc own nL K) (hM : MI l y cc' n' rt fr lo K σ As post) (hv : ST y cc' n' rt np) (hlk : Cond.methodLink own idx y ∈ lw_tbl) (hR : fr + 1 ≤ R.frames ∧ 8 + (n' + 11) + lo ≤ R.locals) (hst : st0 = As.reverse ++ st) (hcat : (st.map fun v => v.category).sum ≤ 8) (hcs : cells ≤ R.cells ∧ slots ≤ R.slots) (hn : As.length = np) (hd : decode cc pc = .ok (.invokestatic idx, 3)) (hp : pc + 3 = pc') (k : ∀ (z : Int) (τ : SG), post z τ → G p l e R s m args below meth c cells slots Q K H0 nL τ pc' lv (.int (iI z) :: st)) : G p l e R s m args below meth c cells slots Q K H0 nL σ pc lv st0 := by
  intro H locs ls hW hS hl
  exact goI hp (runS B hM hv hlk hR hst hcat hcs hn hd hW hl) hS hl k
theorem g_callNI {y : MethodName} {cc' : ByteArray} {n' np fr lo idx : Nat} {rt : Option FieldType} {As st0 : List Value} {post : Int → SG → Prop} {host : String} (B : CB p s m args c cc own nL K) (hM : MI l y cc' n' rt fr lo K σ As post) (hv : ST y cc' n' rt np) (hlk : Cond.methodLinkNest own idx y host ∈ lw_tbl) (hR : fr + 1 ≤ R.frames ∧ 8 + (n' + 11) + lo ≤ R.locals) (hst : st0 = As.reverse ++ st) (hcat : (st.map fun v => v.category).sum ≤ 8) (hcs : cells ≤ R.cells ∧ slots ≤ R.slots) (hn : As.length = np) (hd : decode cc pc = .ok (.invokestatic idx, 3)) (hp : pc + 3 = pc') (k : ∀ (z : Int) (τ : SG), post z τ → G p l e R s m args below meth c cells slots Q K H0 nL τ pc' lv (.int (iI z) :: st)) : G p l e R s m args below meth c cells slots Q K H0 nL σ pc lv st0 := by
  intro H locs ls hW hS hl
  exact goI hp (runSN B hM hv hlk hR hst hcat hcs hn hd hW hl) hS hl k
theorem g_callVV {y : MethodName} {cc' : ByteArray} {n' np fr lo idx : Nat} {rt : Option FieldType} {As st0 : List Value} {post : SG → Prop} {o ci : Nat} {cs : List Nat} {T : u_T} {N : Nat} (B : CB p s m args c cc own nL K) (hM : MV l y cc' n' rt fr lo K σ (.ref (K.2.2 o) :: As) post) (hv : VT y cc' n' rt np) (hlk : Cond.methodLink own idx y ∈ lw_tbl) (hy : layL[o]? = some (.inr (ci, cs))) (hcl : vwCl[ci]? = some (y.cls, T, N)) (hR : fr + 1 ≤ R.frames ∧ 8 + (n' + 11) + lo ≤ R.locals) (hst : st0 = As.reverse ++ .ref (K.2.2 o) :: st) (hcat : (st.map fun v => v.category).sum ≤ 8) (hcs : cells ≤ R.cells ∧ slots ≤ R.slots) (hn : As.length = np) (hd : decode cc pc = .ok (.invokevirtual idx, 3)) (hp : pc + 3 = pc') (k : ∀ (τ : SG), post τ → G p l e R s m args below meth c cells slots Q K H0 nL τ pc' lv st) : G p l e R s m args below meth c cells slots Q K H0 nL σ pc lv st0 := by
  intro H locs ls hW hS hl
  exact goV hp (runV B hM hv hlk hy hcl hR hst hcat hcs hn hd hW hl) hS hl k
theorem g_callSV {y : MethodName} {cc' : ByteArray} {n' np fr lo idx : Nat} {rt : Option FieldType} {As st0 : List Value} {post : SG → Prop} (B : CB p s m args c cc own nL K) (hM : MV l y cc' n' rt fr lo K σ As post) (hv : ST y cc' n' rt np) (hlk : Cond.methodLink own idx y ∈ lw_tbl) (hR : fr + 1 ≤ R.frames ∧ 8 + (n' + 11) + lo ≤ R.locals) (hst : st0 = As.reverse ++ st) (hcat : (st.map fun v => v.category).sum ≤ 8) (hcs : cells ≤ R.cells ∧ slots ≤ R.slots) (hn : As.length = np) (hd : decode cc pc = .ok (.invokestatic idx, 3)) (hp : pc + 3 = pc') (k : ∀ (τ : SG), post τ → G p l e R s m args below meth c cells slots Q K H0 nL τ pc' lv st) : G p l e R s m args below meth c cells slots Q K H0 nL σ pc lv st0 := by
  intro H locs ls hW hS hl
  exact goV hp (runS B hM hv hlk hR hst hcat hcs hn hd hW hl) hS hl k
theorem g_callNV {y : MethodName} {cc' : ByteArray} {n' np fr lo idx : Nat} {rt : Option FieldType} {As st0 : List Value} {post : SG → Prop} {host : String} (B : CB p s m args c cc own nL K) (hM : MV l y cc' n' rt fr lo K σ As post) (hv : ST y cc' n' rt np) (hlk : Cond.methodLinkNest own idx y host ∈ lw_tbl) (hR : fr + 1 ≤ R.frames ∧ 8 + (n' + 11) + lo ≤ R.locals) (hst : st0 = As.reverse ++ st) (hcat : (st.map fun v => v.category).sum ≤ 8) (hcs : cells ≤ R.cells ∧ slots ≤ R.slots) (hn : As.length = np) (hd : decode cc pc = .ok (.invokestatic idx, 3)) (hp : pc + 3 = pc') (k : ∀ (τ : SG), post τ → G p l e R s m args below meth c cells slots Q K H0 nL τ pc' lv st) : G p l e R s m args below meth c cells slots Q K H0 nL σ pc lv st0 := by
  intro H locs ls hW hS hl
  exact goV hp (runSN B hM hv hlk hR hst hcat hcs hn hd hW hl) hS hl k
theorem g_callVR {y : MethodName} {cc' : ByteArray} {n' np fr lo idx : Nat} {rt : Option FieldType} {As st0 : List Value} {post : Nat → SG → Prop} {o ci : Nat} {cs : List Nat} {T : u_T} {N : Nat} (B : CB p s m args c cc own nL K) (hM : MR l y cc' n' rt fr lo K σ (.ref (K.2.2 o) :: As) post) (hv : VT y cc' n' rt np) (hlk : Cond.methodLink own idx y ∈ lw_tbl) (hy : layL[o]? = some (.inr (ci, cs))) (hcl : vwCl[ci]? = some (y.cls, T, N)) (hR : fr + 1 ≤ R.frames ∧ 8 + (n' + 11) + lo ≤ R.locals) (hst : st0 = As.reverse ++ .ref (K.2.2 o) :: st) (hcat : (st.map fun v => v.category).sum ≤ 8) (hcs : cells ≤ R.cells ∧ slots ≤ R.slots) (hn : As.length = np) (hd : decode cc pc = .ok (.invokevirtual idx, 3)) (hp : pc + 3 = pc') (k : ∀ (z : Nat) (τ : SG), post z τ → G p l e R s m args below meth c cells slots Q K H0 nL τ pc' lv (.ref (K.2.2 z) :: st)) : G p l e R s m args below meth c cells slots Q K H0 nL σ pc lv st0 := by
  intro H locs ls hW hS hl
  exact goR hp (runV B hM hv hlk hy hcl hR hst hcat hcs hn hd hW hl) hS hl k
end RC
