/-! A ROW AN INSTRUCTION, over G. -/
section RW
variable {p : Program} {l : Launch} {e : Env} {R : Room} {s : State} {m : MethodId} {args : Array Value} {below : List Frame} {meth : Method} {c : Code} {cells slots : Nat} {Q : State → Prop} {K : WK} {H0 : Heap} {nL : Nat} {σ : SG} {pc pc' : Nat} {lv : List (Nat × Value)} {st : List Value} {cc : ByteArray} {own : String}
theorem g_iconst (B : CB p s m args c cc own nL K) {n : Int} (hd : decode cc pc = .ok (.iconst n, 1)) (hp : pc + 1 = pc') (k : G p l e R s m args below meth c cells slots Q K H0 nL σ pc' lv (.int (iI n) :: st)) : G p l e R s m args below meth c cells slots Q K H0 nL σ pc lv (st) := by
  subst hp
  intro H locs ls hW hS hl
  exact lv_iconst B.1.1 B.1.2.1 hd rfl (k H locs ls hW hS hl)
theorem g_bipush (B : CB p s m args c cc own nL K) {n : Int} (hv : (Int8.ofInt n).toInt32 = iI n) (hd : decode cc pc = .ok (.bipush n, 2)) (hp : pc + 2 = pc') (k : G p l e R s m args below meth c cells slots Q K H0 nL σ pc' lv (.int (iI n) :: st)) : G p l e R s m args below meth c cells slots Q K H0 nL σ pc lv (st) := by
  subst hp
  intro H locs ls hW hS hl
  exact lv_bipush B.1.1 B.1.2.1 hd hv (k H locs ls hW hS hl)
theorem g_sipush (B : CB p s m args c cc own nL K) {n : Int} (hv : (Int16.ofInt n).toInt32 = iI n) (hd : decode cc pc = .ok (.sipush n, 3)) (hp : pc + 3 = pc') (k : G p l e R s m args below meth c cells slots Q K H0 nL σ pc' lv (.int (iI n) :: st)) : G p l e R s m args below meth c cells slots Q K H0 nL σ pc lv (st) := by
  subst hp
  intro H locs ls hW hS hl
  exact lv_sipush B.1.1 B.1.2.1 hd hv (k H locs ls hW hS hl)
theorem g_lconst (B : CB p s m args c cc own nL K) {n : Fin 2} {z : Int} (hv : Int64.ofNat n = lI z) (hd : decode cc pc = .ok (.lconst n, 1)) (hp : pc + 1 = pc') (k : G p l e R s m args below meth c cells slots Q K H0 nL σ pc' lv (.long (lI z) :: st)) : G p l e R s m args below meth c cells slots Q K H0 nL σ pc lv (st) := by
  subst hp
  intro H locs ls hW hS hl
  exact lv_lconst B.1.1 B.1.2.1 hd hv (k H locs ls hW hS hl)
theorem g_ldc (B : CB p s m args c cc own nL K) {index : Nat} {v : Int32} {z : Int} (hw : Cond.constant own index v ∈ lw_tbl) (hv : v = iI z) (hd : decode cc pc = .ok (.ldc index, 2)) (hp : pc + 2 = pc') (k : G p l e R s m args below meth c cells slots Q K H0 nL σ pc' lv (.int (iI z) :: st)) : G p l e R s m args below meth c cells slots Q K H0 nL σ pc lv (st) := by
  subst hp
  intro H locs ls hW hS hl
  subst hv
  exact lv_ldc B.1.1 B.1.2.1 B.1.2.2.2.1 (B.1.2.2.2.2 _ (inb hw rfl)) hd (k H locs ls hW hS hl)
theorem g_ldcw (B : CB p s m args c cc own nL K) {index : Nat} {v : Int32} {z : Int} (hw : Cond.constant own index v ∈ lw_tbl) (hv : v = iI z) (hd : decode cc pc = .ok (.ldc_w index, 3)) (hp : pc + 3 = pc') (k : G p l e R s m args below meth c cells slots Q K H0 nL σ pc' lv (.int (iI z) :: st)) : G p l e R s m args below meth c cells slots Q K H0 nL σ pc lv (st) := by
  subst hp
  intro H locs ls hW hS hl
  subst hv
  exact lv_ldcw B.1.1 B.1.2.1 B.1.2.2.2.1 (B.1.2.2.2.2 _ (inb hw rfl)) hd (k H locs ls hW hS hl)
theorem g_ldc2 (B : CB p s m args c cc own nL K) {index : Nat} {v : Int64} {z : Int} (hw : Cond.constantLong own index v ∈ lw_tbl) (hv : v = lI z) (hd : decode cc pc = .ok (.ldc2_w index, 3)) (hp : pc + 3 = pc') (k : G p l e R s m args below meth c cells slots Q K H0 nL σ pc' lv (.long (lI z) :: st)) : G p l e R s m args below meth c cells slots Q K H0 nL σ pc lv (st) := by
  subst hp
  intro H locs ls hW hS hl
  subst hv
  exact lv_ldc2 B.1.1 B.1.2.1 B.1.2.2.2.1 (B.1.2.2.2.2 _ (inb hw rfl)) hd (k H locs ls hW hS hl)
theorem g_iload_n (B : CB p s m args c cc own nL K) {k0 : Fin 4} {i : Nat} {x : Int32} (pos : Nat) (hi : (k0 : Nat) = i) (hv : lv[pos]? = some (i, .int x)) (hd : decode cc pc = .ok (.iload_n k0, 1)) (hp : pc + 1 = pc') (k : G p l e R s m args below meth c cells slots Q K H0 nL σ pc' lv (.int x :: st)) : G p l e R s m args below meth c cells slots Q K H0 nL σ pc lv (st) := by
  subst hp
  intro H locs ls hW hS hl
  exact lv_iload_n B.1.1 B.1.2.1 hd hi (lv_at hl pos hv) (k H locs ls hW hS hl)
theorem g_iload (B : CB p s m args c cc own nL K) {i : Nat} {x : Int32} (pos : Nat) (hv : lv[pos]? = some (i, .int x)) (hd : decode cc pc = .ok (.iload i, 2)) (hp : pc + 2 = pc') (k : G p l e R s m args below meth c cells slots Q K H0 nL σ pc' lv (.int x :: st)) : G p l e R s m args below meth c cells slots Q K H0 nL σ pc lv (st) := by
  subst hp
  intro H locs ls hW hS hl
  exact lv_iload B.1.1 B.1.2.1 hd (lv_at hl pos hv) (k H locs ls hW hS hl)
theorem g_aload_n (B : CB p s m args c cc own nL K) {k0 : Fin 4} {i : Nat} {x : Nat} (pos : Nat) (hi : (k0 : Nat) = i) (hv : lv[pos]? = some (i, .ref x)) (hd : decode cc pc = .ok (.aload_n k0, 1)) (hp : pc + 1 = pc') (k : G p l e R s m args below meth c cells slots Q K H0 nL σ pc' lv (.ref x :: st)) : G p l e R s m args below meth c cells slots Q K H0 nL σ pc lv (st) := by
  subst hp
  intro H locs ls hW hS hl
  exact lv_aload_n B.1.1 B.1.2.1 hd hi (lv_at hl pos hv) (k H locs ls hW hS hl)
theorem g_aload (B : CB p s m args c cc own nL K) {i : Nat} {x : Nat} (pos : Nat) (hv : lv[pos]? = some (i, .ref x)) (hd : decode cc pc = .ok (.aload i, 2)) (hp : pc + 2 = pc') (k : G p l e R s m args below meth c cells slots Q K H0 nL σ pc' lv (.ref x :: st)) : G p l e R s m args below meth c cells slots Q K H0 nL σ pc lv (st) := by
  subst hp
  intro H locs ls hW hS hl
  exact lv_aload B.1.1 B.1.2.1 hd (lv_at hl pos hv) (k H locs ls hW hS hl)
theorem g_lload_n (B : CB p s m args c cc own nL K) {k0 : Fin 4} {i : Nat} {x : Int64} (pos : Nat) (hi : (k0 : Nat) = i) (hv : lv[pos]? = some (i, .long x)) (hd : decode cc pc = .ok (.lload_n k0, 1)) (hp : pc + 1 = pc') (k : G p l e R s m args below meth c cells slots Q K H0 nL σ pc' lv (.long x :: st)) : G p l e R s m args below meth c cells slots Q K H0 nL σ pc lv (st) := by
  subst hp
  intro H locs ls hW hS hl
  exact lv_lload_n B.1.1 B.1.2.1 hd hi (lv_at hl pos hv) (k H locs ls hW hS hl)
theorem g_lload (B : CB p s m args c cc own nL K) {i : Nat} {x : Int64} (pos : Nat) (hv : lv[pos]? = some (i, .long x)) (hd : decode cc pc = .ok (.lload i, 2)) (hp : pc + 2 = pc') (k : G p l e R s m args below meth c cells slots Q K H0 nL σ pc' lv (.long x :: st)) : G p l e R s m args below meth c cells slots Q K H0 nL σ pc lv (st) := by
  subst hp
  intro H locs ls hW hS hl
  exact lv_lload B.1.1 B.1.2.1 hd (lv_at hl pos hv) (k H locs ls hW hS hl)
theorem g_istore_n (B : CB p s m args c cc own nL K) {k0 : Fin 4} {i : Nat} {x : Int32} (lv' : List (Nat × Value)) (hd : decode cc pc = .ok (.istore_n k0, 1)) (hp : pc + 1 = pc') (hi : (k0 : Nat) = i) (hn : i < nL) (hl0 : (i, Value.int x) :: lv.filter (fun q => !(q.1 == i) && !(q.1 + 1 == i && q.2.category == 2)) = lv') (k : G p l e R s m args below meth c cells slots Q K H0 nL σ pc' lv' st) : G p l e R s m args below meth c cells slots Q K H0 nL σ pc lv (.int x :: st) := by
  subst hp
  intro H locs ls hW hS hl
  exact lv_istore_n B.1.1 B.1.2.1 hd hi hl hn hl0 (fun ls' hl' => k H locs ls' hW hS hl')
theorem g_istore (B : CB p s m args c cc own nL K) {i : Nat} {x : Int32} (lv' : List (Nat × Value)) (hd : decode cc pc = .ok (.istore i, 2)) (hp : pc + 2 = pc') (hn : i < nL) (hl0 : (i, Value.int x) :: lv.filter (fun q => !(q.1 == i) && !(q.1 + 1 == i && q.2.category == 2)) = lv') (k : G p l e R s m args below meth c cells slots Q K H0 nL σ pc' lv' st) : G p l e R s m args below meth c cells slots Q K H0 nL σ pc lv (.int x :: st) := by
  subst hp
  intro H locs ls hW hS hl
  exact lv_istore B.1.1 B.1.2.1 hd hl hn hl0 (fun ls' hl' => k H locs ls' hW hS hl')
theorem g_astore_n (B : CB p s m args c cc own nL K) {k0 : Fin 4} {i : Nat} {x : Nat} (lv' : List (Nat × Value)) (hd : decode cc pc = .ok (.astore_n k0, 1)) (hp : pc + 1 = pc') (hi : (k0 : Nat) = i) (hn : i < nL) (hl0 : (i, Value.ref x) :: lv.filter (fun q => !(q.1 == i) && !(q.1 + 1 == i && q.2.category == 2)) = lv') (k : G p l e R s m args below meth c cells slots Q K H0 nL σ pc' lv' st) : G p l e R s m args below meth c cells slots Q K H0 nL σ pc lv (.ref x :: st) := by
  subst hp
  intro H locs ls hW hS hl
  exact lv_astore_n B.1.1 B.1.2.1 hd hi hl hn hl0 (fun ls' hl' => k H locs ls' hW hS hl')
theorem g_astore (B : CB p s m args c cc own nL K) {i : Nat} {x : Nat} (lv' : List (Nat × Value)) (hd : decode cc pc = .ok (.astore i, 2)) (hp : pc + 2 = pc') (hn : i < nL) (hl0 : (i, Value.ref x) :: lv.filter (fun q => !(q.1 == i) && !(q.1 + 1 == i && q.2.category == 2)) = lv') (k : G p l e R s m args below meth c cells slots Q K H0 nL σ pc' lv' st) : G p l e R s m args below meth c cells slots Q K H0 nL σ pc lv (.ref x :: st) := by
  subst hp
  intro H locs ls hW hS hl
  exact lv_astore B.1.1 B.1.2.1 hd hl hn hl0 (fun ls' hl' => k H locs ls' hW hS hl')
theorem g_lstore (B : CB p s m args c cc own nL K) {i : Nat} {x : Int64} (lv' : List (Nat × Value)) (hd : decode cc pc = .ok (.lstore i, 2)) (hp : pc + 2 = pc') (hn : i + 1 < nL) (hl0 : (i, Value.long x) :: lv.filter (fun q => !(q.1 == i) && (!(q.1 == i + 1) && !(q.1 + 1 == i && q.2.category == 2))) = lv') (k : G p l e R s m args below meth c cells slots Q K H0 nL σ pc' lv' st) : G p l e R s m args below meth c cells slots Q K H0 nL σ pc lv (.long x :: st) := by
  subst hp
  intro H locs ls hW hS hl
  exact lv_lstore B.1.1 B.1.2.1 hd hl hn hl0 (fun ls' hl' => k H locs ls' hW hS hl')
theorem g_iushr (B : CB p s m args c cc own nL K) {x y : Int32} (z : Int) (hv : (x.toUInt32 >>> (y.toUInt32 &&& Int32.toUInt32 31)).toInt32 = iI z) (hd : decode cc pc = .ok (.iushr, 1)) (hp : pc + 1 = pc') (k : G p l e R s m args below meth c cells slots Q K H0 nL σ pc' lv (.int (iI z) :: st)) : G p l e R s m args below meth c cells slots Q K H0 nL σ pc lv (.int y :: .int x :: st) := by
  subst hp
  intro H locs ls hW hS hl
  exact lv_iushr B.1.1 B.1.2.1 hd hv (k H locs ls hW hS hl)
theorem g_iinc (B : CB p s m args c cc own nL K) {i : Nat} {a n : Int} (pos : Nat) (lv' : List (Nat × Value)) (hd : decode cc pc = .ok (.iinc i n, 3)) (hp : pc + 3 = pc') (hk : lv[pos]? = some (i, .int (iI a))) (hn : i < nL) (hl0 : (i, Value.int (iI (a + n))) :: lv.filter (fun q => !(q.1 == i) && !(q.1 + 1 == i && q.2.category == 2)) = lv') (k : G p l e R s m args below meth c cells slots Q K H0 nL σ pc' lv' st) : G p l e R s m args below meth c cells slots Q K H0 nL σ pc lv st := by
  subst hp
  intro H locs ls hW hS hl
  exact lv_iinc B.1.1 B.1.2.1 hd hl hk (iI_add a n) hn hl0 (fun ls' hl' => k H locs ls' hW hS hl')
theorem g_iadd (B : CB p s m args c cc own nL K) {a b : Int} (hd : decode cc pc = .ok (.iadd, 1)) (hp : pc + 1 = pc') (k : G p l e R s m args below meth c cells slots Q K H0 nL σ pc' lv (.int (iI (a + b)) :: st)) : G p l e R s m args below meth c cells slots Q K H0 nL σ pc lv (.int (iI b) :: .int (iI a) :: st) := by
  subst hp
  intro H locs ls hW hS hl
  refine lv_iadd B.1.1 B.1.2.1 hd ?_
  rw [iI_add]
  exact k H locs ls hW hS hl
theorem g_isub (B : CB p s m args c cc own nL K) {a b : Int} (hd : decode cc pc = .ok (.isub, 1)) (hp : pc + 1 = pc') (k : G p l e R s m args below meth c cells slots Q K H0 nL σ pc' lv (.int (iI (a - b)) :: st)) : G p l e R s m args below meth c cells slots Q K H0 nL σ pc lv (.int (iI b) :: .int (iI a) :: st) := by
  subst hp
  intro H locs ls hW hS hl
  refine lv_isub B.1.1 B.1.2.1 hd ?_
  rw [iI_sub]
  exact k H locs ls hW hS hl
theorem g_imul (B : CB p s m args c cc own nL K) {a b : Int} (hd : decode cc pc = .ok (.imul, 1)) (hp : pc + 1 = pc') (k : G p l e R s m args below meth c cells slots Q K H0 nL σ pc' lv (.int (iI (a * b)) :: st)) : G p l e R s m args below meth c cells slots Q K H0 nL σ pc lv (.int (iI b) :: .int (iI a) :: st) := by
  subst hp
  intro H locs ls hW hS hl
  refine lv_imul B.1.1 B.1.2.1 hd ?_
  rw [iI_mul]
  exact k H locs ls hW hS hl
theorem g_ladd (B : CB p s m args c cc own nL K) {a b : Int} (hd : decode cc pc = .ok (.ladd, 1)) (hp : pc + 1 = pc') (k : G p l e R s m args below meth c cells slots Q K H0 nL σ pc' lv (.long (lI (a + b)) :: st)) : G p l e R s m args below meth c cells slots Q K H0 nL σ pc lv (.long (lI b) :: .long (lI a) :: st) := by
  subst hp
  intro H locs ls hW hS hl
  refine lv_ladd B.1.1 B.1.2.1 hd ?_
  rw [lI_add]
  exact k H locs ls hW hS hl
theorem g_lsub (B : CB p s m args c cc own nL K) {a b : Int} (hd : decode cc pc = .ok (.lsub, 1)) (hp : pc + 1 = pc') (k : G p l e R s m args below meth c cells slots Q K H0 nL σ pc' lv (.long (lI (a - b)) :: st)) : G p l e R s m args below meth c cells slots Q K H0 nL σ pc lv (.long (lI b) :: .long (lI a) :: st) := by
  subst hp
  intro H locs ls hW hS hl
  refine lv_lsub B.1.1 B.1.2.1 hd ?_
  rw [lI_sub]
  exact k H locs ls hW hS hl
theorem g_lmul (B : CB p s m args c cc own nL K) {a b : Int} (hd : decode cc pc = .ok (.lmul, 1)) (hp : pc + 1 = pc') (k : G p l e R s m args below meth c cells slots Q K H0 nL σ pc' lv (.long (lI (a * b)) :: st)) : G p l e R s m args below meth c cells slots Q K H0 nL σ pc lv (.long (lI b) :: .long (lI a) :: st) := by
  subst hp
  intro H locs ls hW hS hl
  refine lv_lmul B.1.1 B.1.2.1 hd ?_
  rw [lI_mul]
  exact k H locs ls hW hS hl
theorem g_ineg (B : CB p s m args c cc own nL K) {a : Int} (hd : decode cc pc = .ok (.ineg, 1)) (hp : pc + 1 = pc') (k : G p l e R s m args below meth c cells slots Q K H0 nL σ pc' lv (.int (iI (-a)) :: st)) : G p l e R s m args below meth c cells slots Q K H0 nL σ pc lv (.int (iI a) :: st) := by
  subst hp
  intro H locs ls hW hS hl
  refine lv_ineg B.1.1 B.1.2.1 hd ?_
  first | (rw [show (0 : Int32) - iI a = iI (-a) from by rw [← iI_0, iI_sub]; congr 1; omega]; exact k H locs ls hW hS hl) | (rw [iI_neg]; exact k H locs ls hW hS hl)
theorem g_idiv (B : CB p s m args c cc own nL K) {a b : Int} (ha : 0 ≤ a ∧ a < 2147483648) (hb : 0 < b ∧ b < 2147483648) (hd : decode cc pc = .ok (.idiv, 1)) (hp : pc + 1 = pc') (k : G p l e R s m args below meth c cells slots Q K H0 nL σ pc' lv (.int (iI (a / b)) :: st)) : G p l e R s m args below meth c cells slots Q K H0 nL σ pc lv (.int (iI b) :: .int (iI a) :: st) := by
  subst hp
  intro H locs ls hW hS hl
  refine lv_idiv B.1.1 B.1.2.1 hd (iI_ne0 hb) ?_
  rw [iI_div ha hb]
  exact k H locs ls hW hS hl
theorem g_irem (B : CB p s m args c cc own nL K) {a b : Int} (ha : 0 ≤ a ∧ a < 2147483648) (hb : 0 < b ∧ b < 2147483648) (hd : decode cc pc = .ok (.irem, 1)) (hp : pc + 1 = pc') (k : G p l e R s m args below meth c cells slots Q K H0 nL σ pc' lv (.int (iI (a % b)) :: st)) : G p l e R s m args below meth c cells slots Q K H0 nL σ pc lv (.int (iI b) :: .int (iI a) :: st) := by
  subst hp
  intro H locs ls hW hS hl
  refine lv_irem B.1.1 B.1.2.1 hd (iI_ne0 hb) ?_
  rw [iI_rem ha hb]
  exact k H locs ls hW hS hl
theorem g_tdiv (B : CB p s m args c cc own nL K) {a b : Int} (ha : -2147483648 ≤ a ∧ a < 2147483648) (hb : 0 < b ∧ b < 2147483648) (hd : decode cc pc = .ok (.idiv, 1)) (hp : pc + 1 = pc') (k : G p l e R s m args below meth c cells slots Q K H0 nL σ pc' lv (.int (iI (a.tdiv b)) :: st)) : G p l e R s m args below meth c cells slots Q K H0 nL σ pc lv (.int (iI b) :: .int (iI a) :: st) := by
  subst hp
  intro H locs ls hW hS hl
  refine lv_idiv B.1.1 B.1.2.1 hd (iI_ne0 hb) ?_
  rw [iI_tdiv ha hb]
  exact k H locs ls hW hS hl
theorem g_trem (B : CB p s m args c cc own nL K) {a b : Int} (ha : -2147483648 ≤ a ∧ a < 2147483648) (hb : 0 < b ∧ b < 2147483648) (hd : decode cc pc = .ok (.irem, 1)) (hp : pc + 1 = pc') (k : G p l e R s m args below meth c cells slots Q K H0 nL σ pc' lv (.int (iI (a.tmod b)) :: st)) : G p l e R s m args below meth c cells slots Q K H0 nL σ pc lv (.int (iI b) :: .int (iI a) :: st) := by
  subst hp
  intro H locs ls hW hS hl
  refine lv_irem B.1.1 B.1.2.1 hd (iI_ne0 hb) ?_
  rw [iI_trem ha hb]
  exact k H locs ls hW hS hl
theorem g_ldiv (B : CB p s m args c cc own nL K) {a b : Int} (ha : 0 ≤ a ∧ a < 9223372036854775808) (hb : 0 < b ∧ b < 9223372036854775808) (hd : decode cc pc = .ok (.ldiv, 1)) (hp : pc + 1 = pc') (k : G p l e R s m args below meth c cells slots Q K H0 nL σ pc' lv (.long (lI (a / b)) :: st)) : G p l e R s m args below meth c cells slots Q K H0 nL σ pc lv (.long (lI b) :: .long (lI a) :: st) := by
  subst hp
  intro H locs ls hW hS hl
  refine lv_ldiv B.1.1 B.1.2.1 hd (lI_ne0 hb) ?_
  rw [lI_div ha hb]
  exact k H locs ls hW hS hl
theorem g_lrem (B : CB p s m args c cc own nL K) {a b : Int} (ha : 0 ≤ a ∧ a < 9223372036854775808) (hb : 0 < b ∧ b < 9223372036854775808) (hd : decode cc pc = .ok (.lrem, 1)) (hp : pc + 1 = pc') (k : G p l e R s m args below meth c cells slots Q K H0 nL σ pc' lv (.long (lI (a % b)) :: st)) : G p l e R s m args below meth c cells slots Q K H0 nL σ pc lv (.long (lI b) :: .long (lI a) :: st) := by
  subst hp
  intro H locs ls hW hS hl
  refine lv_lrem B.1.1 B.1.2.1 hd (lI_ne0 hb) ?_
  rw [lI_rem ha hb]
  exact k H locs ls hW hS hl
theorem g_iand (B : CB p s m args c cc own nL K) {x y : Int32} (z : Int) (hv : x &&& y = iI z) (hd : decode cc pc = .ok (.iand, 1)) (hp : pc + 1 = pc') (k : G p l e R s m args below meth c cells slots Q K H0 nL σ pc' lv (.int (iI z) :: st)) : G p l e R s m args below meth c cells slots Q K H0 nL σ pc lv (.int y :: .int x :: st) := by
  subst hp
  intro H locs ls hW hS hl
  refine lv_iand B.1.1 B.1.2.1 hd ?_
  rw [hv]
  exact k H locs ls hW hS hl
theorem g_ior (B : CB p s m args c cc own nL K) {x y : Int32} (z : Int) (hv : x ||| y = iI z) (hd : decode cc pc = .ok (.ior, 1)) (hp : pc + 1 = pc') (k : G p l e R s m args below meth c cells slots Q K H0 nL σ pc' lv (.int (iI z) :: st)) : G p l e R s m args below meth c cells slots Q K H0 nL σ pc lv (.int y :: .int x :: st) := by
  subst hp
  intro H locs ls hW hS hl
  refine lv_ior B.1.1 B.1.2.1 hd ?_
  rw [hv]
  exact k H locs ls hW hS hl
theorem g_ixor (B : CB p s m args c cc own nL K) {x y : Int32} (z : Int) (hv : x ^^^ y = iI z) (hd : decode cc pc = .ok (.ixor, 1)) (hp : pc + 1 = pc') (k : G p l e R s m args below meth c cells slots Q K H0 nL σ pc' lv (.int (iI z) :: st)) : G p l e R s m args below meth c cells slots Q K H0 nL σ pc lv (.int y :: .int x :: st) := by
  subst hp
  intro H locs ls hW hS hl
  refine lv_ixor B.1.1 B.1.2.1 hd ?_
  rw [hv]
  exact k H locs ls hW hS hl
theorem g_ishl (B : CB p s m args c cc own nL K) {x y : Int32} (z : Int) (hv : x <<< (y &&& 31) = iI z) (hd : decode cc pc = .ok (.ishl, 1)) (hp : pc + 1 = pc') (k : G p l e R s m args below meth c cells slots Q K H0 nL σ pc' lv (.int (iI z) :: st)) : G p l e R s m args below meth c cells slots Q K H0 nL σ pc lv (.int y :: .int x :: st) := by
  subst hp
  intro H locs ls hW hS hl
  refine lv_ishl B.1.1 B.1.2.1 hd ?_
  rw [hv]
  exact k H locs ls hW hS hl
theorem g_ishr (B : CB p s m args c cc own nL K) {x y : Int32} (z : Int) (hv : x >>> (y &&& 31) = iI z) (hd : decode cc pc = .ok (.ishr, 1)) (hp : pc + 1 = pc') (k : G p l e R s m args below meth c cells slots Q K H0 nL σ pc' lv (.int (iI z) :: st)) : G p l e R s m args below meth c cells slots Q K H0 nL σ pc lv (.int y :: .int x :: st) := by
  subst hp
  intro H locs ls hW hS hl
  refine lv_ishr B.1.1 B.1.2.1 hd ?_
  rw [hv]
  exact k H locs ls hW hS hl
theorem g_land (B : CB p s m args c cc own nL K) {x y : Int64} (z : Int) (hv : x &&& y = lI z) (hd : decode cc pc = .ok (.land, 1)) (hp : pc + 1 = pc') (k : G p l e R s m args below meth c cells slots Q K H0 nL σ pc' lv (.long (lI z) :: st)) : G p l e R s m args below meth c cells slots Q K H0 nL σ pc lv (.long y :: .long x :: st) := by
  subst hp
  intro H locs ls hW hS hl
  refine lv_land B.1.1 B.1.2.1 hd ?_
  rw [hv]
  exact k H locs ls hW hS hl
theorem g_i2l (B : CB p s m args c cc own nL K) {a : Int} (ha : -2147483648 ≤ a ∧ a < 2147483648) (hd : decode cc pc = .ok (.i2l, 1)) (hp : pc + 1 = pc') (k : G p l e R s m args below meth c cells slots Q K H0 nL σ pc' lv (.long (lI a) :: st)) : G p l e R s m args below meth c cells slots Q K H0 nL σ pc lv (.int (iI a) :: st) := by
  subst hp
  intro H locs ls hW hS hl
  exact lv_i2l B.1.1 B.1.2.1 hd (iI_l ha) (k H locs ls hW hS hl)
theorem g_l2i (B : CB p s m args c cc own nL K) {a : Int} (hd : decode cc pc = .ok (.l2i, 1)) (hp : pc + 1 = pc') (k : G p l e R s m args below meth c cells slots Q K H0 nL σ pc' lv (.int (iI a) :: st)) : G p l e R s m args below meth c cells slots Q K H0 nL σ pc lv (.long (lI a) :: st) := by
  subst hp
  intro H locs ls hW hS hl
  exact lv_l2i B.1.1 B.1.2.1 hd (lI_i a) (k H locs ls hW hS hl)
theorem g_lcmp (B : CB p s m args c cc own nL K) {a b : Int} (ha : -9223372036854775808 ≤ a ∧ a < 9223372036854775808) (hb : -9223372036854775808 ≤ b ∧ b < 9223372036854775808) (hd : decode cc pc = .ok (.lcmp, 1)) (hp : pc + 1 = pc') (k : G p l e R s m args below meth c cells slots Q K H0 nL σ pc' lv (.int (iI (if b < a then 1 else if a = b then 0 else -1)) :: st)) : G p l e R s m args below meth c cells slots Q K H0 nL σ pc lv (.long (lI b) :: .long (lI a) :: st) := by
  subst hp
  intro H locs ls hW hS hl
  refine W.lcmp B.1.1 B.1.2.1 hd ?_
  have hq : lg_cmp (lI a) (lI b) = iI (if b < a then 1 else if a = b then 0 else -1) := by
    unfold lg_cmp
    by_cases h1 : b < a
    · rw [if_pos (show lI a > lI b from (lI_lt hb ha).mpr h1), if_pos h1]; rfl
    · rw [if_neg (fun q : lI a > lI b => h1 ((lI_lt hb ha).mp q)), if_neg h1]
      by_cases h2 : a = b
      · rw [if_pos ((lI_eq ha hb).mpr h2), if_pos h2]; rfl
      · rw [if_neg (fun q => h2 ((lI_eq ha hb).mp q)), if_neg h2]; rfl
  rw [hq]
  exact k H locs ls hW hS hl
theorem g_dup (B : CB p s m args c cc own nL K) {va : Value} (hva : va.category = 1) (hd : decode cc pc = .ok (.dup, 1)) (hp : pc + 1 = pc') (k : G p l e R s m args below meth c cells slots Q K H0 nL σ pc' lv (va :: va :: st)) : G p l e R s m args below meth c cells slots Q K H0 nL σ pc lv (va :: st) := by
  subst hp
  intro H locs ls hW hS hl
  exact lv_dup B.1.1 B.1.2.1 hd hva (k H locs ls hW hS hl)
theorem g_pop (B : CB p s m args c cc own nL K) {va : Value} (hva : va.category = 1) (hd : decode cc pc = .ok (.pop, 1)) (hp : pc + 1 = pc') (k : G p l e R s m args below meth c cells slots Q K H0 nL σ pc' lv (st)) : G p l e R s m args below meth c cells slots Q K H0 nL σ pc lv (va :: st) := by
  subst hp
  intro H locs ls hW hS hl
  exact lv_pop B.1.1 B.1.2.1 hd hva (k H locs ls hW hS hl)
theorem g_dup2 (B : CB p s m args c cc own nL K) {va vb : Value} (hva : va.category = 1) (hvb : vb.category = 1) (hd : decode cc pc = .ok (.dup2, 1)) (hp : pc + 1 = pc') (k : G p l e R s m args below meth c cells slots Q K H0 nL σ pc' lv (va :: vb :: va :: vb :: st)) : G p l e R s m args below meth c cells slots Q K H0 nL σ pc lv (va :: vb :: st) := by
  subst hp
  intro H locs ls hW hS hl
  exact lv_dup2_11 B.1.1 B.1.2.1 hd hva hvb (k H locs ls hW hS hl)
theorem g_goto (B : CB p s m args c cc own nL K) {off : Int} (hd : decode cc pc = .ok (.goto off, 3)) (ht : (pc : Int) + off = (pc' : Int)) (k : G p l e R s m args below meth c cells slots Q K H0 nL σ pc' lv st) : G p l e R s m args below meth c cells slots Q K H0 nL σ pc lv st := by
  intro H locs ls hW hS hl
  exact lv_goto B.1.1 B.1.2.1 hd ht (k H locs ls hW hS hl)
theorem g_icmp_eq (B : CB p s m args c cc own nL K) {a b : Int} {off : Int} (tgt : Nat) (ha : -2147483648 ≤ a ∧ a < 2147483648) (hb : -2147483648 ≤ b ∧ b < 2147483648) (hd : decode cc pc = .ok (.if_icmp .eq off, 3)) (ht : (pc : Int) + off = (tgt : Int)) (hp : pc + 3 = pc') (kt : a = b → G p l e R s m args below meth c cells slots Q K H0 nL σ tgt lv st) (kf : a ≠ b → G p l e R s m args below meth c cells slots Q K H0 nL σ pc' lv st) : G p l e R s m args below meth c cells slots Q K H0 nL σ pc lv (.int (iI b) :: .int (iI a) :: st) := by
  subst hp
  intro H locs ls hW hS hl
  exact lv_icmp_eq (tgt := tgt) B.1.1 B.1.2.1 hd ht (fun q => kt ((iI_eq ha hb).mp q) H locs ls hW hS hl) (fun q => kf (fun z => q ((iI_eq ha hb).mpr z)) H locs ls hW hS hl)
theorem g_if_eq (B : CB p s m args c cc own nL K) {a : Int} {off : Int} (tgt : Nat) (ha : -2147483648 ≤ a ∧ a < 2147483648) (hd : decode cc pc = .ok (.ifCond .eq off, 3)) (ht : (pc : Int) + off = (tgt : Int)) (hp : pc + 3 = pc') (kt : a = 0 → G p l e R s m args below meth c cells slots Q K H0 nL σ tgt lv st) (kf : a ≠ 0 → G p l e R s m args below meth c cells slots Q K H0 nL σ pc' lv st) : G p l e R s m args below meth c cells slots Q K H0 nL σ pc lv (.int (iI a) :: st) := by
  subst hp
  intro H locs ls hW hS hl
  have hb : -2147483648 ≤ (0 : Int) ∧ (0 : Int) < 2147483648 := by omega
  exact lv_if_eq (tgt := tgt) B.1.1 B.1.2.1 hd ht (fun q => kt ((iI_eq ha hb).mp q) H locs ls hW hS hl) (fun q => kf (fun z => q ((iI_eq ha hb).mpr z)) H locs ls hW hS hl)
theorem g_icmp_ne (B : CB p s m args c cc own nL K) {a b : Int} {off : Int} (tgt : Nat) (ha : -2147483648 ≤ a ∧ a < 2147483648) (hb : -2147483648 ≤ b ∧ b < 2147483648) (hd : decode cc pc = .ok (.if_icmp .ne off, 3)) (ht : (pc : Int) + off = (tgt : Int)) (hp : pc + 3 = pc') (kt : a ≠ b → G p l e R s m args below meth c cells slots Q K H0 nL σ tgt lv st) (kf : a = b → G p l e R s m args below meth c cells slots Q K H0 nL σ pc' lv st) : G p l e R s m args below meth c cells slots Q K H0 nL σ pc lv (.int (iI b) :: .int (iI a) :: st) := by
  subst hp
  intro H locs ls hW hS hl
  exact lv_icmp_ne (tgt := tgt) B.1.1 B.1.2.1 hd ht (fun q => kt (fun z => q ((iI_eq ha hb).mpr z)) H locs ls hW hS hl) (fun q => kf ((iI_eq ha hb).mp q) H locs ls hW hS hl)
theorem g_if_ne (B : CB p s m args c cc own nL K) {a : Int} {off : Int} (tgt : Nat) (ha : -2147483648 ≤ a ∧ a < 2147483648) (hd : decode cc pc = .ok (.ifCond .ne off, 3)) (ht : (pc : Int) + off = (tgt : Int)) (hp : pc + 3 = pc') (kt : a ≠ 0 → G p l e R s m args below meth c cells slots Q K H0 nL σ tgt lv st) (kf : a = 0 → G p l e R s m args below meth c cells slots Q K H0 nL σ pc' lv st) : G p l e R s m args below meth c cells slots Q K H0 nL σ pc lv (.int (iI a) :: st) := by
  subst hp
  intro H locs ls hW hS hl
  have hb : -2147483648 ≤ (0 : Int) ∧ (0 : Int) < 2147483648 := by omega
  exact lv_if_ne (tgt := tgt) B.1.1 B.1.2.1 hd ht (fun q => kt (fun z => q ((iI_eq ha hb).mpr z)) H locs ls hW hS hl) (fun q => kf ((iI_eq ha hb).mp q) H locs ls hW hS hl)
theorem g_icmp_lt (B : CB p s m args c cc own nL K) {a b : Int} {off : Int} (tgt : Nat) (ha : -2147483648 ≤ a ∧ a < 2147483648) (hb : -2147483648 ≤ b ∧ b < 2147483648) (hd : decode cc pc = .ok (.if_icmp .lt off, 3)) (ht : (pc : Int) + off = (tgt : Int)) (hp : pc + 3 = pc') (kt : a < b → G p l e R s m args below meth c cells slots Q K H0 nL σ tgt lv st) (kf : b ≤ a → G p l e R s m args below meth c cells slots Q K H0 nL σ pc' lv st) : G p l e R s m args below meth c cells slots Q K H0 nL σ pc lv (.int (iI b) :: .int (iI a) :: st) := by
  subst hp
  intro H locs ls hW hS hl
  exact lv_icmp_lt (tgt := tgt) B.1.1 B.1.2.1 hd ht (fun q => kt ((iI_lt ha hb).mp q) H locs ls hW hS hl) (fun q => kf (by have h9 : ¬ (a < b) := fun z => q ((iI_lt ha hb).mpr z); omega) H locs ls hW hS hl)
theorem g_if_lt (B : CB p s m args c cc own nL K) {a : Int} {off : Int} (tgt : Nat) (ha : -2147483648 ≤ a ∧ a < 2147483648) (hd : decode cc pc = .ok (.ifCond .lt off, 3)) (ht : (pc : Int) + off = (tgt : Int)) (hp : pc + 3 = pc') (kt : a < 0 → G p l e R s m args below meth c cells slots Q K H0 nL σ tgt lv st) (kf : 0 ≤ a → G p l e R s m args below meth c cells slots Q K H0 nL σ pc' lv st) : G p l e R s m args below meth c cells slots Q K H0 nL σ pc lv (.int (iI a) :: st) := by
  subst hp
  intro H locs ls hW hS hl
  have hb : -2147483648 ≤ (0 : Int) ∧ (0 : Int) < 2147483648 := by omega
  exact lv_if_lt (tgt := tgt) B.1.1 B.1.2.1 hd ht (fun q => kt ((iI_lt ha hb).mp q) H locs ls hW hS hl) (fun q => kf (by have h9 : ¬ (a < 0) := fun z => q ((iI_lt ha hb).mpr z); omega) H locs ls hW hS hl)
theorem g_icmp_ge (B : CB p s m args c cc own nL K) {a b : Int} {off : Int} (tgt : Nat) (ha : -2147483648 ≤ a ∧ a < 2147483648) (hb : -2147483648 ≤ b ∧ b < 2147483648) (hd : decode cc pc = .ok (.if_icmp .ge off, 3)) (ht : (pc : Int) + off = (tgt : Int)) (hp : pc + 3 = pc') (kt : b ≤ a → G p l e R s m args below meth c cells slots Q K H0 nL σ tgt lv st) (kf : a < b → G p l e R s m args below meth c cells slots Q K H0 nL σ pc' lv st) : G p l e R s m args below meth c cells slots Q K H0 nL σ pc lv (.int (iI b) :: .int (iI a) :: st) := by
  subst hp
  intro H locs ls hW hS hl
  exact lv_icmp_ge (tgt := tgt) B.1.1 B.1.2.1 hd ht (fun q => kt ((iI_le hb ha).mp q) H locs ls hW hS hl) (fun q => kf (by have h9 : ¬ (b ≤ a) := fun z => q ((iI_le hb ha).mpr z); omega) H locs ls hW hS hl)
theorem g_if_ge (B : CB p s m args c cc own nL K) {a : Int} {off : Int} (tgt : Nat) (ha : -2147483648 ≤ a ∧ a < 2147483648) (hd : decode cc pc = .ok (.ifCond .ge off, 3)) (ht : (pc : Int) + off = (tgt : Int)) (hp : pc + 3 = pc') (kt : 0 ≤ a → G p l e R s m args below meth c cells slots Q K H0 nL σ tgt lv st) (kf : a < 0 → G p l e R s m args below meth c cells slots Q K H0 nL σ pc' lv st) : G p l e R s m args below meth c cells slots Q K H0 nL σ pc lv (.int (iI a) :: st) := by
  subst hp
  intro H locs ls hW hS hl
  have hb : -2147483648 ≤ (0 : Int) ∧ (0 : Int) < 2147483648 := by omega
  exact lv_if_ge (tgt := tgt) B.1.1 B.1.2.1 hd ht (fun q => kt ((iI_le hb ha).mp q) H locs ls hW hS hl) (fun q => kf (by have h9 : ¬ (0 ≤ a) := fun z => q ((iI_le hb ha).mpr z); omega) H locs ls hW hS hl)
theorem g_icmp_gt (B : CB p s m args c cc own nL K) {a b : Int} {off : Int} (tgt : Nat) (ha : -2147483648 ≤ a ∧ a < 2147483648) (hb : -2147483648 ≤ b ∧ b < 2147483648) (hd : decode cc pc = .ok (.if_icmp .gt off, 3)) (ht : (pc : Int) + off = (tgt : Int)) (hp : pc + 3 = pc') (kt : b < a → G p l e R s m args below meth c cells slots Q K H0 nL σ tgt lv st) (kf : a ≤ b → G p l e R s m args below meth c cells slots Q K H0 nL σ pc' lv st) : G p l e R s m args below meth c cells slots Q K H0 nL σ pc lv (.int (iI b) :: .int (iI a) :: st) := by
  subst hp
  intro H locs ls hW hS hl
  exact lv_icmp_gt (tgt := tgt) B.1.1 B.1.2.1 hd ht (fun q => kt ((iI_lt hb ha).mp q) H locs ls hW hS hl) (fun q => kf (by have h9 : ¬ (b < a) := fun z => q ((iI_lt hb ha).mpr z); omega) H locs ls hW hS hl)
theorem g_if_gt (B : CB p s m args c cc own nL K) {a : Int} {off : Int} (tgt : Nat) (ha : -2147483648 ≤ a ∧ a < 2147483648) (hd : decode cc pc = .ok (.ifCond .gt off, 3)) (ht : (pc : Int) + off = (tgt : Int)) (hp : pc + 3 = pc') (kt : 0 < a → G p l e R s m args below meth c cells slots Q K H0 nL σ tgt lv st) (kf : a ≤ 0 → G p l e R s m args below meth c cells slots Q K H0 nL σ pc' lv st) : G p l e R s m args below meth c cells slots Q K H0 nL σ pc lv (.int (iI a) :: st) := by
  subst hp
  intro H locs ls hW hS hl
  have hb : -2147483648 ≤ (0 : Int) ∧ (0 : Int) < 2147483648 := by omega
  exact lv_if_gt (tgt := tgt) B.1.1 B.1.2.1 hd ht (fun q => kt ((iI_lt hb ha).mp q) H locs ls hW hS hl) (fun q => kf (by have h9 : ¬ (0 < a) := fun z => q ((iI_lt hb ha).mpr z); omega) H locs ls hW hS hl)
theorem g_icmp_le (B : CB p s m args c cc own nL K) {a b : Int} {off : Int} (tgt : Nat) (ha : -2147483648 ≤ a ∧ a < 2147483648) (hb : -2147483648 ≤ b ∧ b < 2147483648) (hd : decode cc pc = .ok (.if_icmp .le off, 3)) (ht : (pc : Int) + off = (tgt : Int)) (hp : pc + 3 = pc') (kt : a ≤ b → G p l e R s m args below meth c cells slots Q K H0 nL σ tgt lv st) (kf : b < a → G p l e R s m args below meth c cells slots Q K H0 nL σ pc' lv st) : G p l e R s m args below meth c cells slots Q K H0 nL σ pc lv (.int (iI b) :: .int (iI a) :: st) := by
  subst hp
  intro H locs ls hW hS hl
  exact lv_icmp_le (tgt := tgt) B.1.1 B.1.2.1 hd ht (fun q => kt ((iI_le ha hb).mp q) H locs ls hW hS hl) (fun q => kf (by have h9 : ¬ (a ≤ b) := fun z => q ((iI_le ha hb).mpr z); omega) H locs ls hW hS hl)
theorem g_if_le (B : CB p s m args c cc own nL K) {a : Int} {off : Int} (tgt : Nat) (ha : -2147483648 ≤ a ∧ a < 2147483648) (hd : decode cc pc = .ok (.ifCond .le off, 3)) (ht : (pc : Int) + off = (tgt : Int)) (hp : pc + 3 = pc') (kt : a ≤ 0 → G p l e R s m args below meth c cells slots Q K H0 nL σ tgt lv st) (kf : 0 < a → G p l e R s m args below meth c cells slots Q K H0 nL σ pc' lv st) : G p l e R s m args below meth c cells slots Q K H0 nL σ pc lv (.int (iI a) :: st) := by
  subst hp
  intro H locs ls hW hS hl
  have hb : -2147483648 ≤ (0 : Int) ∧ (0 : Int) < 2147483648 := by omega
  exact lv_if_le (tgt := tgt) B.1.1 B.1.2.1 hd ht (fun q => kt ((iI_le ha hb).mp q) H locs ls hW hS hl) (fun q => kf (by have h9 : ¬ (a ≤ 0) := fun z => q ((iI_le ha hb).mpr z); omega) H locs ls hW hS hl)
theorem g_tableIn (B : CB p s m args c cc own nL K) {a : Int} {dflt lo hi : Int} {offs : Array Int} {len : Nat} {off : Int} (i : Int) (tgt : Nat) (ha : a = i) (hd : decode cc pc = .ok (.tableswitch dflt lo hi offs, len)) (hi0 : -2147483648 ≤ i ∧ i < 2147483648) (h1 : ¬ i < lo) (h2 : ¬ hi < i) (ho : offs[(i - lo).toNat]? = some off) (ht : (pc : Int) + off = (tgt : Int)) (k : G p l e R s m args below meth c cells slots Q K H0 nL σ tgt lv st) : G p l e R s m args below meth c cells slots Q K H0 nL σ pc lv (.int (iI a) :: st) := by
  subst ha
  intro H locs ls hW hS hl
  exact lv_tableIn B.1.1 B.1.2.1 hd (by rw [iI_toInt hi0]; exact h1) (by rw [iI_toInt hi0]; exact h2) (by rw [iI_toInt hi0]; exact ho) ht (k H locs ls hW hS hl)
theorem g_tableOut (B : CB p s m args c cc own nL K) {a : Int} {dflt lo hi : Int} {offs : Array Int} {len : Nat} (tgt : Nat) (ha : a < lo ∨ hi < a) (ha0 : -2147483648 ≤ a ∧ a < 2147483648) (hd : decode cc pc = .ok (.tableswitch dflt lo hi offs, len)) (ht : (pc : Int) + dflt = (tgt : Int)) (k : G p l e R s m args below meth c cells slots Q K H0 nL σ tgt lv st) : G p l e R s m args below meth c cells slots Q K H0 nL σ pc lv (.int (iI a) :: st) := by
  intro H locs ls hW hS hl
  exact lv_tableOut B.1.1 B.1.2.1 hd (by rw [iI_toInt ha0]; exact ha) ht (k H locs ls hW hS hl)
theorem g_lookup (B : CB p s m args c cc own nL K) {a : Int} {dflt : Int} {ps : Array (Int × Int)} {len : Nat} {off : Int} (tgt : Nat) (ha0 : -2147483648 ≤ a ∧ a < 2147483648) (hd : decode cc pc = .ok (.lookupswitch dflt ps, len)) (hps : (ps.toList.zip (ps.toList.drop 1)).all (fun (a, next) => a.1 < next.1) = true) (ho : Op.lookupswitch.offset ps.toList dflt a = off) (ht : (pc : Int) + off = (tgt : Int)) (k : G p l e R s m args below meth c cells slots Q K H0 nL σ tgt lv st) : G p l e R s m args below meth c cells slots Q K H0 nL σ pc lv (.int (iI a) :: st) := by
  intro H locs ls hW hS hl
  exact lv_lookup B.1.1 B.1.2.1 hd hps (by rw [iI_toInt ha0]; exact ho) ht (k H locs ls hW hS hl)
theorem g_loc (B : CB p s m args c cc own nL K) (lv' : List (Nat × Value)) (ks : List Nat) (hl0 : lv_pick lv ks = lv') (k : G p l e R s m args below meth c cells slots Q K H0 nL σ pc lv' st) : G p l e R s m args below meth c cells slots Q K H0 nL σ pc lv st := by
  intro H locs ls hW hS hl
  exact k H locs ls hW hS (lv_sub hl ks hl0)
def FL (own : String) (index ci j : Nat) : Prop := ∃ (C : String) (T : u_T) (N : Nat), vwCl[ci]? = some (C, T, N) ∧ j < N ∧ Cond.fieldLink own index (T j).1 (T j).2.1 (T j).2.2.1 ∈ lw_tbl ∧ (∀ w ∈ u_ws C T N, w ∈ tb)
def FP (own : String) (index ci j : Nat) (ty : FieldType) : Prop := ∃ (C : String) (T : u_T) (N : Nat) (ty0 : Nat → FieldType), vwCl[ci]? = some (C, T, N) ∧ j < N ∧ Cond.fieldLink own index (T j).1 (T j).2.1 (T j).2.2.1 ∈ lw_tbl ∧ (∀ w ∈ u_ws C T N, w ∈ tb) ∧ (∀ k, k < N → parseFieldDescriptor (T k).2.2.1 = some (ty0 k)) ∧ (∀ a, a < N → ∀ b, b < N → a ≠ b → (T a).2.1 ≠ (T b).2.1) ∧ (T j).2.2.2 = false ∧ parseFieldDescriptor (T j).2.2.1 = some ty
theorem g_get (B : CB p s m args c cc own nL K) {index ci : Nat} {cs : List Nat} {k j : Nat} (v : Int) (hv : σ k ((j : Nat) : Int) = v) (hf : FL own index ci j) (hy : layL[k]? = some (.inr (ci, cs))) (hc : cs[j]? = some 0) (hd : decode cc pc = .ok (.getfield index, 3)) (hp : pc + 3 = pc') (kk : G p l e R s m args below meth c cells slots Q K H0 nL σ pc' lv (.int (iI v) :: st)) : G p l e R s m args below meth c cells slots Q K H0 nL σ pc lv (.ref (K.2.2 k) :: st) := by
  subst hv
  subst hp
  intro H locs ls hW hS hl
  obtain ⟨C, T, N, h1, h2, h3, h4⟩ := hf
  exact va_get B.1.1 B.1.2.1 B.1.2.2.2.2 h4 B.1.2.2.2.1 B.2.1 hW k (wl_get hy) h1 j h2 (B.1.2.2.2.2 _ (inb h3 rfl)) (fun _ h9 => h9) (by rw [slL_get, hc]; simp [slV]) hd (kk H locs ls hW hS hl)
theorem g_getV (B : CB p s m args c cc own nL K) {index ci : Nat} {cs : List Nat} {k j : Nat} (v : Nat) (hv : (σ k ((j : Nat) : Int)).toNat = v) (hf : FL own index ci j) (hy : layL[k]? = some (.inr (ci, cs))) (hc : cs[j]? = some 1) (hd : decode cc pc = .ok (.getfield index, 3)) (hp : pc + 3 = pc') (kk : G p l e R s m args below meth c cells slots Q K H0 nL σ pc' lv (.ref (K.2.2 v) :: st)) : G p l e R s m args below meth c cells slots Q K H0 nL σ pc lv (.ref (K.2.2 k) :: st) := by
  subst hv
  subst hp
  intro H locs ls hW hS hl
  obtain ⟨C, T, N, h1, h2, h3, h4⟩ := hf
  exact va_get B.1.1 B.1.2.1 B.1.2.2.2.2 h4 B.1.2.2.2.1 B.2.1 hW k (wl_get hy) h1 j h2 (B.1.2.2.2.2 _ (inb h3 rfl)) (fun _ h9 => h9) (by rw [slL_get, hc]; simp [slV]) hd (kk H locs ls hW hS hl)
theorem g_getR (B : CB p s m args c cc own nL K) {index ci : Nat} {cs : List Nat} {k j : Nat} (r : Nat) (hf : FL own index ci j) (hy : layL[k]? = some (.inr (ci, cs))) (hc : cs[j]? = some (r + 2)) (hd : decode cc pc = .ok (.getfield index, 3)) (hp : pc + 3 = pc') (kk : G p l e R s m args below meth c cells slots Q K H0 nL σ pc' lv (.ref (K.2.2 r) :: st)) : G p l e R s m args below meth c cells slots Q K H0 nL σ pc lv (.ref (K.2.2 k) :: st) := by
  subst hp
  intro H locs ls hW hS hl
  obtain ⟨C, T, N, h1, h2, h3, h4⟩ := hf
  exact va_get B.1.1 B.1.2.1 B.1.2.2.2.2 h4 B.1.2.2.2.1 B.2.1 hW k (wl_get hy) h1 j h2 (B.1.2.2.2.2 _ (inb h3 rfl)) (fun _ h9 => h9) (by rw [slL_get, hc]; simp [slV]) hd (kk H locs ls hW hS hl)
theorem slL_set (K : WK) (σ : SG) (k : Nat) (i : Nat) (v : Int) : ∀ (cs : List Nat) (j0 j : Nat), j0 + j = i → (cs[j]? = some 0 → (slL K σ k j0 cs).set j (.int (iI v)) = slL K (up σ k i v) k j0 cs) ∧ (cs[j]? = some 1 → (slL K σ k j0 cs).set j (.ref (K.2.2 v.toNat)) = slL K (up σ k i v) k j0 cs)
  | [], j0, j, h => ⟨fun h => by simp at h, fun h => by simp at h⟩
  | c :: cs, j0, 0, h => by
    have hrest : ∀ (cs : List Nat) (j1 : Nat), i < j1 → slL K σ k j1 cs = slL K (up σ k i v) k j1 cs := by
      intro cs
      induction cs with
      | nil => intro j1 _; rfl
      | cons c cs ih =>
        intro j1 h1
        simp only [slL]
        rw [ih (j1 + 1) (by omega)]
        congr 1
        unfold slV
        rw [up_col (show ((j1 : Nat) : Int) ≠ ((i : Nat) : Int) by omega)]
    have hi : j0 = i := by omega
    subst hi
    refine ⟨fun h0 => ?_, fun h0 => ?_⟩
    · have hc : c = 0 := by simpa using h0
      subst hc
      simp only [slL, List.set_cons_zero]
      rw [hrest cs _ (by omega)]
      simp [slV, up_same]
    · have hc : c = 1 := by simpa using h0
      subst hc
      simp only [slL, List.set_cons_zero]
      rw [hrest cs _ (by omega)]
      simp [slV, up_same]
  | c :: cs, j0, j + 1, h => by
    have hc : slV K σ k j0 c = slV K (up σ k i v) k j0 c := by
      unfold slV
      rw [up_col (show ((j0 : Nat) : Int) ≠ ((i : Nat) : Int) by omega)]
    obtain ⟨i1, i2⟩ := slL_set K σ k i v cs (j0 + 1) j (by omega)
    refine ⟨fun h0 => ?_, fun h0 => ?_⟩
    · simp only [slL, List.set_cons_succ]
      rw [i1 (by simpa using h0), hc]
    · simp only [slL, List.set_cons_succ]
      rw [i2 (by simpa using h0), hc]
theorem g_put (B : CB p s m args c cc own nL K) {index ci : Nat} {cs : List Nat} {k j : Nat} {v : Int} (i : Int) (hij : ((j : Nat) : Int) = i)  (hf : FP own index ci j .int) (hy : layL[k]? = some (.inr (ci, cs))) (hc : cs[j]? = some 0) (hd : decode cc pc = .ok (.putfield index, 3)) (hp : pc + 3 = pc') (kk : G p l e R s m args below meth c cells slots Q K H0 nL (up σ k i v) pc' lv st) : G p l e R s m args below meth c cells slots Q K H0 nL σ pc lv (.int (iI v) :: .ref (K.2.2 k) :: st) := by
  subst hij
  subst hp
  intro H locs ls hW hS hl
  obtain ⟨C, T, N, ty0, h1, h2, h3, h4, h5, h6, h7, h8⟩ := hf
  have hlen : j < (slL K σ k 0 cs).length := by rw [slL_len]; exact (List.getElem?_eq_some_iff.mp hc).1
  refine va_put (fs := slL K σ k 0 cs) B.1.1 B.1.2.1 B.1.2.2.2.2 h4 ty0 h5 h6 B.1.2.2.2.1 B.2.1 hW (wl_D σ B.2) hS k (wl_get hy) h1 j h2 (B.1.2.2.2.2 _ (inb h3 rfl)) (fun _ h9 => h9) h7 h8 rfl rfl hlen hd (fun H1 locs1 hP1 _ hS1 => ?_)
  rw [(slL_set K σ k j v cs 0 j (by omega)).1 hc] at hP1
  have hP2 : va_P K.1 vwCl ((wl K σ).set k (K.2.2 k, cellOf K (up σ k j v) k (.inr (ci, cs)))) H1 := hP1
  rw [wl_set (K := K) (σ := σ) (τ := up σ k j v) hy (fun j' h' => up_row h') rfl] at hP2
  exact kk H1 locs1 ls hP2 hS1 hl
theorem g_putZ (B : CB p s m args c cc own nL K) {index ci : Nat} {cs : List Nat} {k j : Nat} {v : Int} (i : Int) (hij : ((j : Nat) : Int) = i) (hz : v = 0 ∨ v = 1) (hf : FP own index ci j .boolean) (hy : layL[k]? = some (.inr (ci, cs))) (hc : cs[j]? = some 0) (hd : decode cc pc = .ok (.putfield index, 3)) (hp : pc + 3 = pc') (kk : G p l e R s m args below meth c cells slots Q K H0 nL (up σ k i v) pc' lv st) : G p l e R s m args below meth c cells slots Q K H0 nL σ pc lv (.int (iI v) :: .ref (K.2.2 k) :: st) := by
  subst hij
  subst hp
  intro H locs ls hW hS hl
  obtain ⟨C, T, N, ty0, h1, h2, h3, h4, h5, h6, h7, h8⟩ := hf
  have hlen : j < (slL K σ k 0 cs).length := by rw [slL_len]; exact (List.getElem?_eq_some_iff.mp hc).1
  refine va_put (fs := slL K σ k 0 cs) B.1.1 B.1.2.1 B.1.2.2.2.2 h4 ty0 h5 h6 B.1.2.2.2.1 B.2.1 hW (wl_D σ B.2) hS k (wl_get hy) h1 j h2 (B.1.2.2.2.2 _ (inb h3 rfl)) (fun _ h9 => h9) h7 h8 (by rcases hz with rfl | rfl <;> rfl) (by rcases hz with rfl | rfl <;> rfl) hlen hd (fun H1 locs1 hP1 _ hS1 => ?_)
  rw [(slL_set K σ k j v cs 0 j (by omega)).1 hc] at hP1
  have hP2 : va_P K.1 vwCl ((wl K σ).set k (K.2.2 k, cellOf K (up σ k j v) k (.inr (ci, cs)))) H1 := hP1
  rw [wl_set (K := K) (σ := σ) (τ := up σ k j v) hy (fun j' h' => up_row h') rfl] at hP2
  exact kk H1 locs1 ls hP2 hS1 hl
theorem g_putV (B : CB p s m args c cc own nL K) {index ci : Nat} {cs : List Nat} {k j : Nat} {v : Int} (i : Int) (hij : ((j : Nat) : Int) = i) {tn : String} (hf : FP own index ci j (.object tn)) (hy : layL[k]? = some (.inr (ci, cs))) (hc : cs[j]? = some 1) (hd : decode cc pc = .ok (.putfield index, 3)) (hp : pc + 3 = pc') (kk : G p l e R s m args below meth c cells slots Q K H0 nL (up σ k i v) pc' lv st) : G p l e R s m args below meth c cells slots Q K H0 nL σ pc lv (.ref (K.2.2 v.toNat) :: .ref (K.2.2 k) :: st) := by
  subst hij
  subst hp
  intro H locs ls hW hS hl
  obtain ⟨C, T, N, ty0, h1, h2, h3, h4, h5, h6, h7, h8⟩ := hf
  have hlen : j < (slL K σ k 0 cs).length := by rw [slL_len]; exact (List.getElem?_eq_some_iff.mp hc).1
  refine va_put (fs := slL K σ k 0 cs) B.1.1 B.1.2.1 B.1.2.2.2.2 h4 ty0 h5 h6 B.1.2.2.2.1 B.2.1 hW (wl_D σ B.2) hS k (wl_get hy) h1 j h2 (B.1.2.2.2.2 _ (inb h3 rfl)) (fun _ h9 => h9) h7 h8 rfl rfl hlen hd (fun H1 locs1 hP1 _ hS1 => ?_)
  rw [(slL_set K σ k j v cs 0 j (by omega)).2 hc] at hP1
  have hP2 : va_P K.1 vwCl ((wl K σ).set k (K.2.2 k, cellOf K (up σ k j v) k (.inr (ci, cs)))) H1 := hP1
  rw [wl_set (K := K) (σ := σ) (τ := up σ k j v) hy (fun j' h' => up_row h') rfl] at hP2
  exact kk H1 locs1 ls hP2 hS1 hl
theorem g_iald (B : CB p s m args c cc own nL K) {k n : Nat} {i : Int} (v : Int) (hv : σ k i = v) (hy : layL[k]? = some (.inl (0, n))) (hi : 0 ≤ i ∧ i < n) (hn : n < 2147483648) (hd : decode cc pc = .ok (.iaload, 1)) (hp : pc + 1 = pc') (kk : G p l e R s m args below meth c cells slots Q K H0 nL σ pc' lv (.int (iI v) :: st)) : G p l e R s m args below meth c cells slots Q K H0 nL σ pc lv (.int (iI i) :: .ref (K.2.2 k) :: st) := by
  subst hv
  subst hp
  intro H locs ls hW hS hl
  refine va_iald B.1.1 B.1.2.1 B.2.1 hW k 0 (wl_get hy) rfl (iI_in hi hn) hd ?_
  rw [iI_nat (by omega)]
  exact kk H locs ls hW hS hl
theorem g_lald (B : CB p s m args c cc own nL K) {k n : Nat} {i : Int} (v : Int) (hv : σ k i = v) (hy : layL[k]? = some (.inl (1, n))) (hi : 0 ≤ i ∧ i < n) (hn : n < 2147483648) (hd : decode cc pc = .ok (.laload, 1)) (hp : pc + 1 = pc') (kk : G p l e R s m args below meth c cells slots Q K H0 nL σ pc' lv (.long (lI v) :: st)) : G p l e R s m args below meth c cells slots Q K H0 nL σ pc lv (.int (iI i) :: .ref (K.2.2 k) :: st) := by
  subst hv
  subst hp
  intro H locs ls hW hS hl
  refine va_lald B.1.1 B.1.2.1 B.2.1 hW k 1 (wl_get hy) rfl (iI_in hi hn) hd ?_
  rw [iI_nat (by omega)]
  exact kk H locs ls hW hS hl
theorem g_zald (B : CB p s m args c cc own nL K) {k n : Nat} {i : Int} (v : Int) (hv : σ k i = v) (hy : layL[k]? = some (.inl (2, n))) (hi : 0 ≤ i ∧ i < n) (hn : n < 2147483648) (hd : decode cc pc = .ok (.baload, 1)) (hp : pc + 1 = pc') (kk : G p l e R s m args below meth c cells slots Q K H0 nL σ pc' lv (.int (iI v) :: st)) : G p l e R s m args below meth c cells slots Q K H0 nL σ pc lv (.int (iI i) :: .ref (K.2.2 k) :: st) := by
  subst hv
  subst hp
  intro H locs ls hW hS hl
  refine va_zald B.1.1 B.1.2.1 B.2.1 hW k 2 (wl_get hy) rfl (iI_in hi hn) hd ?_
  rw [iI_nat (by omega)]
  exact kk H locs ls hW hS hl
theorem upd_up {σ : SG} {k : Nat} {i v : Int} (hi : 0 ≤ i ∧ i < 2147483648) : upd (fun j => iI (σ k j)) (iI i).toNatClampNeg (iI v) = fun (j : Nat) => iI (up σ k i v k j) := by
  funext j
  have h1 := iI_nat hi
  unfold upd
  rw [up_in]
  by_cases h : j = (iI i).toNatClampNeg
  · rw [if_pos h, if_pos (by omega)]
  · rw [if_neg h, if_neg (by omega)]
theorem updL_up {σ : SG} {k : Nat} {i v : Int} (hi : 0 ≤ i ∧ i < 2147483648) : vp_updL (fun j => lI (σ k j)) (iI i).toNatClampNeg (lI v) = fun (j : Nat) => lI (up σ k i v k j) := by
  funext j
  have h1 := iI_nat hi
  unfold vp_updL
  rw [up_in]
  by_cases h : j = (iI i).toNatClampNeg
  · rw [if_pos h, if_pos (by omega)]
  · rw [if_neg h, if_neg (by omega)]
theorem g_iast (B : CB p s m args c cc own nL K) {k n : Nat} {i v : Int}  (hy : layL[k]? = some (.inl (0, n))) (hi : 0 ≤ i ∧ i < n) (hn : n < 2147483648) (hd : decode cc pc = .ok (.iastore, 1)) (hp : pc + 1 = pc') (kk : G p l e R s m args below meth c cells slots Q K H0 nL (up σ k i v) pc' lv st) : G p l e R s m args below meth c cells slots Q K H0 nL σ pc lv (.int (iI v) :: .int (iI i) :: .ref (K.2.2 k) :: st) := by
  subst hp
  intro H locs ls hW hS hl
  refine va_iast B.1.1 B.1.2.1 B.2.1 hW (wl_D σ B.2) hS k 0 (wl_get hy) rfl (iI_in hi hn) hd (fun H1 locs1 hP1 _ hS1 => ?_)
  rw [upd_up (by omega)] at hP1
  have hP2 : va_P K.1 vwCl ((wl K σ).set k (K.2.2 k, cellOf K (up σ k i v) k (.inl (0, n)))) H1 := hP1
  rw [wl_set (K := K) (σ := σ) (τ := up σ k i v) hy (fun j' h' => up_row h') rfl] at hP2
  exact kk H1 locs1 ls hP2 hS1 hl
theorem g_last (B : CB p s m args c cc own nL K) {k n : Nat} {i v : Int}  (hy : layL[k]? = some (.inl (1, n))) (hi : 0 ≤ i ∧ i < n) (hn : n < 2147483648) (hd : decode cc pc = .ok (.lastore, 1)) (hp : pc + 1 = pc') (kk : G p l e R s m args below meth c cells slots Q K H0 nL (up σ k i v) pc' lv st) : G p l e R s m args below meth c cells slots Q K H0 nL σ pc lv (.long (lI v) :: .int (iI i) :: .ref (K.2.2 k) :: st) := by
  subst hp
  intro H locs ls hW hS hl
  refine va_last B.1.1 B.1.2.1 B.2.1 hW (wl_D σ B.2) hS k 1 (wl_get hy) rfl (iI_in hi hn) hd (fun H1 locs1 hP1 _ hS1 => ?_)
  rw [updL_up (by omega)] at hP1
  have hP2 : va_P K.1 vwCl ((wl K σ).set k (K.2.2 k, cellOf K (up σ k i v) k (.inl (1, n)))) H1 := hP1
  rw [wl_set (K := K) (σ := σ) (τ := up σ k i v) hy (fun j' h' => up_row h') rfl] at hP2
  exact kk H1 locs1 ls hP2 hS1 hl
theorem g_zast (B : CB p s m args c cc own nL K) {k n : Nat} {i v : Int} (hz : v = 0 ∨ v = 1) (hy : layL[k]? = some (.inl (2, n))) (hi : 0 ≤ i ∧ i < n) (hn : n < 2147483648) (hd : decode cc pc = .ok (.bastore, 1)) (hp : pc + 1 = pc') (kk : G p l e R s m args below meth c cells slots Q K H0 nL (up σ k i v) pc' lv st) : G p l e R s m args below meth c cells slots Q K H0 nL σ pc lv (.int (iI v) :: .int (iI i) :: .ref (K.2.2 k) :: st) := by
  subst hp
  intro H locs ls hW hS hl
  refine va_zast B.1.1 B.1.2.1 B.2.1 hW (wl_D σ B.2) hS k 2 (wl_get hy) rfl (iI_in hi hn) hd (fun H1 locs1 hP1 _ hS1 => ?_)
  rw [show vp_nar .boolean (iI v) = iI v from by rcases hz with rfl | rfl <;> rfl] at hP1
  rw [upd_up (by omega)] at hP1
  have hP2 : va_P K.1 vwCl ((wl K σ).set k (K.2.2 k, cellOf K (up σ k i v) k (.inl (2, n)))) H1 := hP1
  rw [wl_set (K := K) (σ := σ) (τ := up σ k i v) hy (fun j' h' => up_row h') rfl] at hP2
  exact kk H1 locs1 ls hP2 hS1 hl
theorem g_alen (B : CB p s m args c cc own nL K) {k n : Nat} (hy : layL[k]? = some (.inl (0, n))) (hd : decode cc pc = .ok (.arraylength, 1)) (hp : pc + 1 = pc') (kk : G p l e R s m args below meth c cells slots Q K H0 nL σ pc' lv (.int (iI n) :: st)) : G p l e R s m args below meth c cells slots Q K H0 nL σ pc lv (.ref (K.2.2 k) :: st) := by
  subst hp
  intro H locs ls hW hS hl
  exact va_alen B.1.1 B.1.2.1 B.2.1 hW k 0 (wl_get hy) rfl (by show Int32.ofNat n = _; exact Int32.ofInt_eq_ofNat.symm) hd (kk H locs ls hW hS hl)
theorem g_mmax (B : CB p s m args c cc own nL K) {a b : Int} (ha : -2147483648 ≤ a ∧ a < 2147483648) (hb : -2147483648 ≤ b ∧ b < 2147483648) {index : Nat} (hw : Cond.methodLink own index Lib.Math.max.name ∈ lw_tbl) (hfr : 1 ≤ R.frames) (hlo : (st.map fun v => v.category).sum + 13 ≤ R.locals) (hce : cells ≤ R.cells) (hsl : slots ≤ R.slots) (hd : decode cc pc = .ok (.invokestatic index, 3)) (hp : pc + 3 = pc') (k : G p l e R s m args below meth c cells slots Q K H0 nL σ pc' lv (.int (iI (max a b)) :: st)) : G p l e R s m args below meth c cells slots Q K H0 nL σ pc lv (.int (iI b) :: .int (iI a) :: st) := by
  subst hp
  intro H locs ls hW hS hl
  refine va_mmax B.1.1 B.1.2.1 (by rw [hl.1]; exact B.1.2.2.1) B.1.2.2.2.1 (B.1.2.2.2.2 _ (inb hw rfl)) (B.1.2.2.2.2 _ (inb tw_488 rfl)) (B.1.2.2.2.2 _ (inb tw_14 rfl)) (B.1.2.2.2.2 _ (inb tw_489 rfl)) hfr hlo hce hsl hd ?_
  rw [iI_max ha hb]
  exact k H locs ls hW hS hl
theorem g_mmin (B : CB p s m args c cc own nL K) {a b : Int} (ha : -2147483648 ≤ a ∧ a < 2147483648) (hb : -2147483648 ≤ b ∧ b < 2147483648) {index : Nat} (hw : Cond.methodLink own index Lib.Math.min.name ∈ lw_tbl) (hfr : 1 ≤ R.frames) (hlo : (st.map fun v => v.category).sum + 13 ≤ R.locals) (hce : cells ≤ R.cells) (hsl : slots ≤ R.slots) (hd : decode cc pc = .ok (.invokestatic index, 3)) (hp : pc + 3 = pc') (k : G p l e R s m args below meth c cells slots Q K H0 nL σ pc' lv (.int (iI (min a b)) :: st)) : G p l e R s m args below meth c cells slots Q K H0 nL σ pc lv (.int (iI b) :: .int (iI a) :: st) := by
  subst hp
  intro H locs ls hW hS hl
  refine va_mmin B.1.1 B.1.2.1 (by rw [hl.1]; exact B.1.2.2.1) B.1.2.2.2.1 (B.1.2.2.2.2 _ (inb hw rfl)) (B.1.2.2.2.2 _ (inb tw_523 rfl)) (B.1.2.2.2.2 _ (inb tw_14 rfl)) (B.1.2.2.2.2 _ (inb tw_524 rfl)) hfr hlo hce hsl hd ?_
  rw [iI_min ha hb]
  exact k H locs ls hW hS hl
theorem g_mabs (B : CB p s m args c cc own nL K) {a : Int} (ha : -2147483648 ≤ a ∧ a < 2147483648) {index : Nat} (hw : Cond.methodLink own index Lib.Math.abs.name ∈ lw_tbl) (hfr : 1 ≤ R.frames) (hlo : (st.map fun v => v.category).sum + 13 ≤ R.locals) (hce : cells ≤ R.cells) (hsl : slots ≤ R.slots) (hd : decode cc pc = .ok (.invokestatic index, 3)) (hp : pc + 3 = pc') (k : G p l e R s m args below meth c cells slots Q K H0 nL σ pc' lv (.int (iI ((a.natAbs : Int))) :: st)) : G p l e R s m args below meth c cells slots Q K H0 nL σ pc lv (.int (iI a) :: st) := by
  subst hp
  intro H locs ls hW hS hl
  refine va_mabs B.1.1 B.1.2.1 (by rw [hl.1]; exact B.1.2.2.1) B.1.2.2.2.1 (B.1.2.2.2.2 _ (inb hw rfl)) (B.1.2.2.2.2 _ (inb tw_526 rfl)) (B.1.2.2.2.2 _ (inb tw_14 rfl)) (B.1.2.2.2.2 _ (inb tw_527 rfl)) hfr hlo hce hsl hd ?_
  rw [iI_abs ha]
  exact k H locs ls hW hS hl
end RW
