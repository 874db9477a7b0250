/-! ===== rows of the abstract walk: one instruction each ===== -/
section AWR
variable {ρ : Type} {l : Launch} {E : Ev} {f : Fr} {R : ρ → Room} {PQ : ρ → Mem → Array Value → State → List Frame → State → Prop} {ct : Nat} {ex : Bool} {ce sl : Nat} {pc : Nat} {lv : List (Nat × Value)} {st : List Value} {M : Mem} {F : Option (ρ × Mem)}
theorem AW.none : AW l E f R PQ ct ex ce sl pc lv st M Option.none := fun r M9 hF => by cases hF
theorem AW.chk {c : Prop} {i : Decidable c} (k : c → AW l E f R PQ ct ex ce sl pc lv st M F) : AW l E f R PQ ct ex ce sl pc lv st M (@ite _ c i F Option.none) := by
  by_cases h : c
  · rw [if_pos h]; exact k h
  · rw [if_neg h]; exact AW.none
theorem AW.sub (ks : List Nat) {lv' : List (Nat × Value)} (h : lv_pick lv ks = lv') (k : AW l E f R PQ ct ex ce sl pc lv' st M F) : AW l E f R PQ ct ex ce sl pc lv st M F :=
  fun r M9 hF p e s m args below meth c H locs ls X hl hW hs hL => k r M9 hF p e s m args below meth c H locs ls X (lv_sub hl ks h) hW hs hL
theorem AW.eqF {F' : Option (ρ × Mem)} (h : F = F') (k : AW l E f R PQ ct ex ce sl pc lv st M F') : AW l E f R PQ ct ex ce sl pc lv st M F := h ▸ k

theorem AW.iconst {n : Int} {v : Int32} (d : decode f.2.1 pc = .ok (.iconst n, 1)) (hv : Int32.ofInt n = v) (k : AW l E f R PQ ct ex ce sl (pc + 1) lv (.int v :: st) M F) : AW l E f R PQ ct ex ce sl pc lv (st) M F :=
  fun r M9 hF p e s m args below meth c H locs ls X hl hW hs hL => lv_iconst X.1 X.2.1 d hv (k r M9 hF p e s m args below meth c H locs ls X hl hW hs hL)
theorem AW.bipush {n : Int} {v : Int32} (d : decode f.2.1 pc = .ok (.bipush n, 2)) (hv : (Int8.ofInt n).toInt32 = v) (k : AW l E f R PQ ct ex ce sl (pc + 2) lv (.int v :: st) M F) : AW l E f R PQ ct ex ce sl pc lv (st) M F :=
  fun r M9 hF p e s m args below meth c H locs ls X hl hW hs hL => lv_bipush X.1 X.2.1 d hv (k r M9 hF p e s m args below meth c H locs ls X hl hW hs hL)
theorem AW.sipush {n : Int} {v : Int32} (d : decode f.2.1 pc = .ok (.sipush n, 3)) (hv : (Int16.ofInt n).toInt32 = v) (k : AW l E f R PQ ct ex ce sl (pc + 3) lv (.int v :: st) M F) : AW l E f R PQ ct ex ce sl pc lv (st) M F :=
  fun r M9 hF p e s m args below meth c H locs ls X hl hW hs hL => lv_sipush X.1 X.2.1 d hv (k r M9 hF p e s m args below meth c H locs ls X hl hW hs hL)
theorem AW.lconst {n : Fin 2} {v : Int64} (d : decode f.2.1 pc = .ok (.lconst n, 1)) (hv : Int64.ofNat (n : Nat) = v) (k : AW l E f R PQ ct ex ce sl (pc + 1) lv (.long v :: st) M F) : AW l E f R PQ ct ex ce sl pc lv (st) M F :=
  fun r M9 hF p e s m args below meth c H locs ls X hl hW hs hL => lv_lconst X.1 X.2.1 d hv (k r M9 hF p e s m args below meth c H locs ls X hl hW hs hL)
theorem AW.iload_n {q : Fin 4} {i : Nat} {x : Int32} (d : decode f.2.1 pc = .ok (.iload_n q, 1)) (hi : (q : Nat) = i) (w : Nat) (hk : lv[w]? = some (i, .int x)) (k : AW l E f R PQ ct ex ce sl (pc + 1) lv (.int x :: st) M F) : AW l E f R PQ ct ex ce sl pc lv (st) M F :=
  fun r M9 hF p e s m args below meth c H locs ls X hl hW hs hL => lv_iload_n X.1 X.2.1 d hi (lv_at hl w hk) (k r M9 hF p e s m args below meth c H locs ls X hl hW hs hL)
theorem AW.iload {i : Nat} {x : Int32} (d : decode f.2.1 pc = .ok (.iload i, 2)) (w : Nat) (hk : lv[w]? = some (i, .int x)) (k : AW l E f R PQ ct ex ce sl (pc + 2) lv (.int x :: st) M F) : AW l E f R PQ ct ex ce sl pc lv (st) M F :=
  fun r M9 hF p e s m args below meth c H locs ls X hl hW hs hL => lv_iload X.1 X.2.1 d (lv_at hl w hk) (k r M9 hF p e s m args below meth c H locs ls X hl hW hs hL)
theorem AW.istore_n {q : Fin 4} {i : Nat} {x : Int32} (ks9 : List Nat) (lv' : List (Nat × Value)) (d : decode f.2.1 pc = .ok (.istore_n q, 1)) (hi : (q : Nat) = i) (hn : i < f.2.2.1) (hv : lv_pick ((i, Value.int x) :: lv.filter (fun q => !(q.1 == i) && !(q.1 + 1 == i && q.2.category == 2))) ks9 = lv') (k : AW l E f R PQ ct ex ce sl (pc + 1) lv' st M F) : AW l E f R PQ ct ex ce sl pc lv (.int x :: st) M F :=
  fun r M9 hF p e s m args below meth c H locs ls X hl hW hs hL => lv_istore_n X.1 X.2.1 d hi hl hn rfl (fun ls hl => k r M9 hF p e s m args below meth c H locs ls X (lv_sub hl ks9 hv) hW hs hL)
theorem AW.istore {i : Nat} {x : Int32} (ks9 : List Nat) (lv' : List (Nat × Value)) (d : decode f.2.1 pc = .ok (.istore i, 2)) (hn : i < f.2.2.1) (hv : lv_pick ((i, Value.int x) :: lv.filter (fun q => !(q.1 == i) && !(q.1 + 1 == i && q.2.category == 2))) ks9 = lv') (k : AW l E f R PQ ct ex ce sl (pc + 2) lv' st M F) : AW l E f R PQ ct ex ce sl pc lv (.int x :: st) M F :=
  fun r M9 hF p e s m args below meth c H locs ls X hl hW hs hL => lv_istore X.1 X.2.1 d hl hn rfl (fun ls hl => k r M9 hF p e s m args below meth c H locs ls X (lv_sub hl ks9 hv) hW hs hL)
theorem AW.lload_n {q : Fin 4} {i : Nat} {x : Int64} (d : decode f.2.1 pc = .ok (.lload_n q, 1)) (hi : (q : Nat) = i) (w : Nat) (hk : lv[w]? = some (i, .long x)) (k : AW l E f R PQ ct ex ce sl (pc + 1) lv (.long x :: st) M F) : AW l E f R PQ ct ex ce sl pc lv (st) M F :=
  fun r M9 hF p e s m args below meth c H locs ls X hl hW hs hL => lv_lload_n X.1 X.2.1 d hi (lv_at hl w hk) (k r M9 hF p e s m args below meth c H locs ls X hl hW hs hL)
theorem AW.lload {i : Nat} {x : Int64} (d : decode f.2.1 pc = .ok (.lload i, 2)) (w : Nat) (hk : lv[w]? = some (i, .long x)) (k : AW l E f R PQ ct ex ce sl (pc + 2) lv (.long x :: st) M F) : AW l E f R PQ ct ex ce sl pc lv (st) M F :=
  fun r M9 hF p e s m args below meth c H locs ls X hl hW hs hL => lv_lload X.1 X.2.1 d (lv_at hl w hk) (k r M9 hF p e s m args below meth c H locs ls X hl hW hs hL)
theorem AW.lstore_n {q : Fin 4} {i : Nat} {x : Int64} (ks9 : List Nat) (lv' : List (Nat × Value)) (d : decode f.2.1 pc = .ok (.lstore_n q, 1)) (hi : (q : Nat) = i) (hn : i + 1 < f.2.2.1) (hv : lv_pick ((i, Value.long x) :: lv.filter (fun q => !(q.1 == i) && (!(q.1 == i + 1) && !(q.1 + 1 == i && q.2.category == 2)))) ks9 = lv') (k : AW l E f R PQ ct ex ce sl (pc + 1) lv' st M F) : AW l E f R PQ ct ex ce sl pc lv (.long x :: st) M F :=
  fun r M9 hF p e s m args below meth c H locs ls X hl hW hs hL => lv_lstore_n X.1 X.2.1 d hi hl hn rfl (fun ls hl => k r M9 hF p e s m args below meth c H locs ls X (lv_sub hl ks9 hv) hW hs hL)
theorem AW.lstore {i : Nat} {x : Int64} (ks9 : List Nat) (lv' : List (Nat × Value)) (d : decode f.2.1 pc = .ok (.lstore i, 2)) (hn : i + 1 < f.2.2.1) (hv : lv_pick ((i, Value.long x) :: lv.filter (fun q => !(q.1 == i) && (!(q.1 == i + 1) && !(q.1 + 1 == i && q.2.category == 2)))) ks9 = lv') (k : AW l E f R PQ ct ex ce sl (pc + 2) lv' st M F) : AW l E f R PQ ct ex ce sl pc lv (.long x :: st) M F :=
  fun r M9 hF p e s m args below meth c H locs ls X hl hW hs hL => lv_lstore X.1 X.2.1 d hl hn rfl (fun ls hl => k r M9 hF p e s m args below meth c H locs ls X (lv_sub hl ks9 hv) hW hs hL)
theorem AW.aload_n {q : Fin 4} {i : Nat} {x : Nat} (d : decode f.2.1 pc = .ok (.aload_n q, 1)) (hi : (q : Nat) = i) (w : Nat) (hk : lv[w]? = some (i, .ref x)) (k : AW l E f R PQ ct ex ce sl (pc + 1) lv (.ref x :: st) M F) : AW l E f R PQ ct ex ce sl pc lv (st) M F :=
  fun r M9 hF p e s m args below meth c H locs ls X hl hW hs hL => lv_aload_n X.1 X.2.1 d hi (lv_at hl w hk) (k r M9 hF p e s m args below meth c H locs ls X hl hW hs hL)
theorem AW.aload {i : Nat} {x : Nat} (d : decode f.2.1 pc = .ok (.aload i, 2)) (w : Nat) (hk : lv[w]? = some (i, .ref x)) (k : AW l E f R PQ ct ex ce sl (pc + 2) lv (.ref x :: st) M F) : AW l E f R PQ ct ex ce sl pc lv (st) M F :=
  fun r M9 hF p e s m args below meth c H locs ls X hl hW hs hL => lv_aload X.1 X.2.1 d (lv_at hl w hk) (k r M9 hF p e s m args below meth c H locs ls X hl hW hs hL)
theorem AW.astore_n {q : Fin 4} {i : Nat} {x : Nat} (ks9 : List Nat) (lv' : List (Nat × Value)) (d : decode f.2.1 pc = .ok (.astore_n q, 1)) (hi : (q : Nat) = i) (hn : i < f.2.2.1) (hv : lv_pick ((i, Value.ref x) :: lv.filter (fun q => !(q.1 == i) && !(q.1 + 1 == i && q.2.category == 2))) ks9 = lv') (k : AW l E f R PQ ct ex ce sl (pc + 1) lv' st M F) : AW l E f R PQ ct ex ce sl pc lv (.ref x :: st) M F :=
  fun r M9 hF p e s m args below meth c H locs ls X hl hW hs hL => lv_astore_n X.1 X.2.1 d hi hl hn rfl (fun ls hl => k r M9 hF p e s m args below meth c H locs ls X (lv_sub hl ks9 hv) hW hs hL)
theorem AW.astore {i : Nat} {x : Nat} (ks9 : List Nat) (lv' : List (Nat × Value)) (d : decode f.2.1 pc = .ok (.astore i, 2)) (hn : i < f.2.2.1) (hv : lv_pick ((i, Value.ref x) :: lv.filter (fun q => !(q.1 == i) && !(q.1 + 1 == i && q.2.category == 2))) ks9 = lv') (k : AW l E f R PQ ct ex ce sl (pc + 2) lv' st M F) : AW l E f R PQ ct ex ce sl pc lv (.ref x :: st) M F :=
  fun r M9 hF p e s m args below meth c H locs ls X hl hW hs hL => lv_astore X.1 X.2.1 d hl hn rfl (fun ls hl => k r M9 hF p e s m args below meth c H locs ls X (lv_sub hl ks9 hv) hW hs hL)
theorem AW.iinc {i w : Nat} {n : Int} {x v : Int32} (ks9 : List Nat) (lv' : List (Nat × Value)) (d : decode f.2.1 pc = .ok (.iinc i n, 3)) (hk : lv[w]? = some (i, .int x)) (hx : x + Int32.ofInt n = v) (hn : i < f.2.2.1) (hv : lv_pick ((i, Value.int v) :: lv.filter (fun q => !(q.1 == i) && !(q.1 + 1 == i && q.2.category == 2))) ks9 = lv') (k : AW l E f R PQ ct ex ce sl (pc + 3) lv' st M F) : AW l E f R PQ ct ex ce sl pc lv st M F :=
  fun r M9 hF p e s m args below meth c H locs ls X hl hW hs hL => lv_iinc X.1 X.2.1 d hl hk hx hn rfl (fun ls hl => k r M9 hF p e s m args below meth c H locs ls X (lv_sub hl ks9 hv) hW hs hL)
theorem AW.iadd {x y : Int32} (d : decode f.2.1 pc = .ok (.iadd, 1))  (k : AW l E f R PQ ct ex ce sl (pc + 1) lv (.int (x + y) :: st) M F) : AW l E f R PQ ct ex ce sl pc lv (.int y :: .int x :: st) M F :=
  fun r M9 hF p e s m args below meth c H locs ls X hl hW hs hL => lv_iadd X.1 X.2.1 d  (k r M9 hF p e s m args below meth c H locs ls X hl hW hs hL)
theorem AW.isub {x y : Int32} (d : decode f.2.1 pc = .ok (.isub, 1))  (k : AW l E f R PQ ct ex ce sl (pc + 1) lv (.int (x - y) :: st) M F) : AW l E f R PQ ct ex ce sl pc lv (.int y :: .int x :: st) M F :=
  fun r M9 hF p e s m args below meth c H locs ls X hl hW hs hL => lv_isub X.1 X.2.1 d  (k r M9 hF p e s m args below meth c H locs ls X hl hW hs hL)
theorem AW.imul {x y : Int32} (d : decode f.2.1 pc = .ok (.imul, 1))  (k : AW l E f R PQ ct ex ce sl (pc + 1) lv (.int (x * y) :: st) M F) : AW l E f R PQ ct ex ce sl pc lv (.int y :: .int x :: st) M F :=
  fun r M9 hF p e s m args below meth c H locs ls X hl hW hs hL => lv_imul X.1 X.2.1 d  (k r M9 hF p e s m args below meth c H locs ls X hl hW hs hL)
theorem AW.iand {x y : Int32} (d : decode f.2.1 pc = .ok (.iand, 1))  (k : AW l E f R PQ ct ex ce sl (pc + 1) lv (.int (x &&& y) :: st) M F) : AW l E f R PQ ct ex ce sl pc lv (.int y :: .int x :: st) M F :=
  fun r M9 hF p e s m args below meth c H locs ls X hl hW hs hL => lv_iand X.1 X.2.1 d  (k r M9 hF p e s m args below meth c H locs ls X hl hW hs hL)
theorem AW.ior {x y : Int32} (d : decode f.2.1 pc = .ok (.ior, 1))  (k : AW l E f R PQ ct ex ce sl (pc + 1) lv (.int (x ||| y) :: st) M F) : AW l E f R PQ ct ex ce sl pc lv (.int y :: .int x :: st) M F :=
  fun r M9 hF p e s m args below meth c H locs ls X hl hW hs hL => lv_ior X.1 X.2.1 d  (k r M9 hF p e s m args below meth c H locs ls X hl hW hs hL)
theorem AW.ishl {x y : Int32} (d : decode f.2.1 pc = .ok (.ishl, 1))  (k : AW l E f R PQ ct ex ce sl (pc + 1) lv (.int (x <<< (y &&& 31)) :: st) M F) : AW l E f R PQ ct ex ce sl pc lv (.int y :: .int x :: st) M F :=
  fun r M9 hF p e s m args below meth c H locs ls X hl hW hs hL => lv_ishl X.1 X.2.1 d  (k r M9 hF p e s m args below meth c H locs ls X hl hW hs hL)
theorem AW.ishr {x y : Int32} (d : decode f.2.1 pc = .ok (.ishr, 1))  (k : AW l E f R PQ ct ex ce sl (pc + 1) lv (.int (x >>> (y &&& 31)) :: st) M F) : AW l E f R PQ ct ex ce sl pc lv (.int y :: .int x :: st) M F :=
  fun r M9 hF p e s m args below meth c H locs ls X hl hW hs hL => lv_ishr X.1 X.2.1 d  (k r M9 hF p e s m args below meth c H locs ls X hl hW hs hL)
def iushr (x y : Int32) : Int32 := (x.toUInt32 >>> (y.toUInt32 &&& Int32.toUInt32 31)).toInt32
def lshl (x : Int64) (y : Int32) : Int64 := x <<< (y.toInt64 &&& 63)
def lshr (x : Int64) (y : Int32) : Int64 := x >>> (y.toInt64 &&& 63)
theorem AW.iushr {x y : Int32} (d : decode f.2.1 pc = .ok (.iushr, 1))  (k : AW l E f R PQ ct ex ce sl (pc + 1) lv (.int (iushr x y) :: st) M F) : AW l E f R PQ ct ex ce sl pc lv (.int y :: .int x :: st) M F :=
  fun r M9 hF p e s m args below meth c H locs ls X hl hW hs hL => lv_iushr X.1 X.2.1 d rfl (k r M9 hF p e s m args below meth c H locs ls X hl hW hs hL)
theorem AW.lshl {x : Int64} {y : Int32} (d : decode f.2.1 pc = .ok (.lshl, 1))  (k : AW l E f R PQ ct ex ce sl (pc + 1) lv (.long (lshl x y) :: st) M F) : AW l E f R PQ ct ex ce sl pc lv (.int y :: .long x :: st) M F :=
  fun r M9 hF p e s m args below meth c H locs ls X hl hW hs hL => lv_lshl X.1 X.2.1 d rfl (k r M9 hF p e s m args below meth c H locs ls X hl hW hs hL)
theorem AW.lshr {x : Int64} {y : Int32} (d : decode f.2.1 pc = .ok (.lshr, 1))  (k : AW l E f R PQ ct ex ce sl (pc + 1) lv (.long (lshr x y) :: st) M F) : AW l E f R PQ ct ex ce sl pc lv (.int y :: .long x :: st) M F :=
  fun r M9 hF p e s m args below meth c H locs ls X hl hW hs hL => lv_lshr X.1 X.2.1 d rfl (k r M9 hF p e s m args below meth c H locs ls X hl hW hs hL)
theorem AW.idiv {x y : Int32} (d : decode f.2.1 pc = .ok (.idiv, 1)) (hne : ¬ y = 0) (k : AW l E f R PQ ct ex ce sl (pc + 1) lv (.int (x / y) :: st) M F) : AW l E f R PQ ct ex ce sl pc lv (.int y :: .int x :: st) M F :=
  fun r M9 hF p e s m args below meth c H locs ls X hl hW hs hL => lv_idiv X.1 X.2.1 d hne (k r M9 hF p e s m args below meth c H locs ls X hl hW hs hL)
theorem AW.irem {x y : Int32} (d : decode f.2.1 pc = .ok (.irem, 1)) (hne : ¬ y = 0) (k : AW l E f R PQ ct ex ce sl (pc + 1) lv (.int (x % y) :: st) M F) : AW l E f R PQ ct ex ce sl pc lv (.int y :: .int x :: st) M F :=
  fun r M9 hF p e s m args below meth c H locs ls X hl hW hs hL => lv_irem X.1 X.2.1 d hne (by rw [irem_eq_mod]; exact k r M9 hF p e s m args below meth c H locs ls X hl hW hs hL)
theorem AW.ladd {x y : Int64} (d : decode f.2.1 pc = .ok (.ladd, 1))  (k : AW l E f R PQ ct ex ce sl (pc + 1) lv (.long (x + y) :: st) M F) : AW l E f R PQ ct ex ce sl pc lv (.long y :: .long x :: st) M F :=
  fun r M9 hF p e s m args below meth c H locs ls X hl hW hs hL => lv_ladd X.1 X.2.1 d  (k r M9 hF p e s m args below meth c H locs ls X hl hW hs hL)
theorem AW.lsub {x y : Int64} (d : decode f.2.1 pc = .ok (.lsub, 1))  (k : AW l E f R PQ ct ex ce sl (pc + 1) lv (.long (x - y) :: st) M F) : AW l E f R PQ ct ex ce sl pc lv (.long y :: .long x :: st) M F :=
  fun r M9 hF p e s m args below meth c H locs ls X hl hW hs hL => lv_lsub X.1 X.2.1 d  (k r M9 hF p e s m args below meth c H locs ls X hl hW hs hL)
theorem AW.lmul {x y : Int64} (d : decode f.2.1 pc = .ok (.lmul, 1))  (k : AW l E f R PQ ct ex ce sl (pc + 1) lv (.long (x * y) :: st) M F) : AW l E f R PQ ct ex ce sl pc lv (.long y :: .long x :: st) M F :=
  fun r M9 hF p e s m args below meth c H locs ls X hl hW hs hL => lv_lmul X.1 X.2.1 d  (k r M9 hF p e s m args below meth c H locs ls X hl hW hs hL)
theorem AW.land {x y : Int64} (d : decode f.2.1 pc = .ok (.land, 1))  (k : AW l E f R PQ ct ex ce sl (pc + 1) lv (.long (x &&& y) :: st) M F) : AW l E f R PQ ct ex ce sl pc lv (.long y :: .long x :: st) M F :=
  fun r M9 hF p e s m args below meth c H locs ls X hl hW hs hL => lv_land X.1 X.2.1 d  (k r M9 hF p e s m args below meth c H locs ls X hl hW hs hL)
theorem AW.lor {x y : Int64} (d : decode f.2.1 pc = .ok (.lor, 1))  (k : AW l E f R PQ ct ex ce sl (pc + 1) lv (.long (x ||| y) :: st) M F) : AW l E f R PQ ct ex ce sl pc lv (.long y :: .long x :: st) M F :=
  fun r M9 hF p e s m args below meth c H locs ls X hl hW hs hL => lv_lor X.1 X.2.1 d  (k r M9 hF p e s m args below meth c H locs ls X hl hW hs hL)
theorem AW.ldiv {x y : Int64} (d : decode f.2.1 pc = .ok (.ldiv, 1)) (hne : ¬ y = 0) (k : AW l E f R PQ ct ex ce sl (pc + 1) lv (.long (x / y) :: st) M F) : AW l E f R PQ ct ex ce sl pc lv (.long y :: .long x :: st) M F :=
  fun r M9 hF p e s m args below meth c H locs ls X hl hW hs hL => lv_ldiv X.1 X.2.1 d hne (k r M9 hF p e s m args below meth c H locs ls X hl hW hs hL)
theorem AW.i2l {x : Int32} (d : decode f.2.1 pc = .ok (.i2l, 1))  (k : AW l E f R PQ ct ex ce sl (pc + 1) lv (.long x.toInt64 :: st) M F) : AW l E f R PQ ct ex ce sl pc lv (.int x :: st) M F :=
  fun r M9 hF p e s m args below meth c H locs ls X hl hW hs hL => lv_i2l X.1 X.2.1 d rfl (k r M9 hF p e s m args below meth c H locs ls X hl hW hs hL)
theorem AW.l2i {x : Int64} (d : decode f.2.1 pc = .ok (.l2i, 1))  (k : AW l E f R PQ ct ex ce sl (pc + 1) lv (.int x.toInt32 :: st) M F) : AW l E f R PQ ct ex ce sl pc lv (.long x :: st) M F :=
  fun r M9 hF p e s m args below meth c H locs ls X hl hW hs hL => lv_l2i X.1 X.2.1 d rfl (k r M9 hF p e s m args below meth c H locs ls X hl hW hs hL)
theorem AW.dup {v : Value} (d : decode f.2.1 pc = .ok (.dup, 1)) (hc : v.category = 1) (k : AW l E f R PQ ct ex ce sl (pc + 1) lv (v :: v :: st) M F) : AW l E f R PQ ct ex ce sl pc lv (v :: st) M F :=
  fun r M9 hF p e s m args below meth c H locs ls X hl hW hs hL => lv_dup X.1 X.2.1 d hc (k r M9 hF p e s m args below meth c H locs ls X hl hW hs hL)
theorem AW.dup2 {v w : Value} (d : decode f.2.1 pc = .ok (.dup2, 1)) (hc : v.category = 1) (hc2 : w.category = 1) (k : AW l E f R PQ ct ex ce sl (pc + 1) lv (v :: w :: v :: w :: st) M F) : AW l E f R PQ ct ex ce sl pc lv (v :: w :: st) M F :=
  fun r M9 hF p e s m args below meth c H locs ls X hl hW hs hL => lv_dup2_11 X.1 X.2.1 d hc hc2 (k r M9 hF p e s m args below meth c H locs ls X hl hW hs hL)
theorem AW.lcmp {x y : Int64} (d : decode f.2.1 pc = .ok (.lcmp, 1))  (k : AW l E f R PQ ct ex ce sl (pc + 1) lv (.int (lg_cmp x y) :: st) M F) : AW l E f R PQ ct ex ce sl pc lv (.long y :: .long x :: st) M F :=
  fun r M9 hF p e s m args below meth c H locs ls X hl hW hs hL => W.lcmp X.1 X.2.1 d  (k r M9 hF p e s m args below meth c H locs ls X hl hW hs hL)
theorem AW.icmp_eq {x y : Int32} {off : Int} {i : Decidable (x = y)} {F1 F2 : Option (ρ × Mem)} (tgt : Nat) (d : decode f.2.1 pc = .ok (.if_icmp .eq off, 3)) (ht : (pc : Int) + off = (tgt : Int)) (k1 : x = y → AW l E f R PQ ct ex ce sl tgt lv st M F1) (k2 : ¬ (x = y) → AW l E f R PQ ct ex ce sl (pc + 3) lv st M F2) : AW l E f R PQ ct ex ce sl pc lv (.int y :: .int x :: st) M (@ite _ (x = y) i F1 F2) := by
  intro r M9 hF p e s m args below meth c H locs ls X hl hW hs hL
  refine lv_icmp_eq X.1 X.2.1 d ht (fun h => ?_) (fun h => ?_)
  · exact k1 h r M9 (by rw [if_pos h] at hF; exact hF) p e s m args below meth c H locs ls X hl hW hs hL
  · exact k2 h r M9 (by rw [if_neg h] at hF; exact hF) p e s m args below meth c H locs ls X hl hW hs hL
theorem AW.icmp_ne {x y : Int32} {off : Int} {i : Decidable (x = y)} {F1 F2 : Option (ρ × Mem)} (tgt : Nat) (d : decode f.2.1 pc = .ok (.if_icmp .ne off, 3)) (ht : (pc : Int) + off = (tgt : Int)) (k1 : x = y → AW l E f R PQ ct ex ce sl (pc + 3) lv st M F1) (k2 : ¬ (x = y) → AW l E f R PQ ct ex ce sl tgt lv st M F2) : AW l E f R PQ ct ex ce sl pc lv (.int y :: .int x :: st) M (@ite _ (x = y) i F1 F2) := by
  intro r M9 hF p e s m args below meth c H locs ls X hl hW hs hL
  refine lv_icmp_ne X.1 X.2.1 d ht (fun h => ?_) (fun h => ?_)
  · exact k2 h r M9 (by rw [if_neg h] at hF; exact hF) p e s m args below meth c H locs ls X hl hW hs hL
  · exact k1 h r M9 (by rw [if_pos h] at hF; exact hF) p e s m args below meth c H locs ls X hl hW hs hL
theorem AW.icmp_lt {x y : Int32} {off : Int} {i : Decidable (x < y)} {F1 F2 : Option (ρ × Mem)} (tgt : Nat) (d : decode f.2.1 pc = .ok (.if_icmp .lt off, 3)) (ht : (pc : Int) + off = (tgt : Int)) (k1 : x < y → AW l E f R PQ ct ex ce sl tgt lv st M F1) (k2 : ¬ (x < y) → AW l E f R PQ ct ex ce sl (pc + 3) lv st M F2) : AW l E f R PQ ct ex ce sl pc lv (.int y :: .int x :: st) M (@ite _ (x < y) i F1 F2) := by
  intro r M9 hF p e s m args below meth c H locs ls X hl hW hs hL
  refine lv_icmp_lt X.1 X.2.1 d ht (fun h => ?_) (fun h => ?_)
  · exact k1 h r M9 (by rw [if_pos h] at hF; exact hF) p e s m args below meth c H locs ls X hl hW hs hL
  · exact k2 h r M9 (by rw [if_neg h] at hF; exact hF) p e s m args below meth c H locs ls X hl hW hs hL
theorem AW.icmp_ge {x y : Int32} {off : Int} {i : Decidable (y ≤ x)} {F1 F2 : Option (ρ × Mem)} (tgt : Nat) (d : decode f.2.1 pc = .ok (.if_icmp .ge off, 3)) (ht : (pc : Int) + off = (tgt : Int)) (k1 : y ≤ x → AW l E f R PQ ct ex ce sl tgt lv st M F1) (k2 : ¬ (y ≤ x) → AW l E f R PQ ct ex ce sl (pc + 3) lv st M F2) : AW l E f R PQ ct ex ce sl pc lv (.int y :: .int x :: st) M (@ite _ (y ≤ x) i F1 F2) := by
  intro r M9 hF p e s m args below meth c H locs ls X hl hW hs hL
  refine lv_icmp_ge X.1 X.2.1 d ht (fun h => ?_) (fun h => ?_)
  · exact k1 h r M9 (by rw [if_pos h] at hF; exact hF) p e s m args below meth c H locs ls X hl hW hs hL
  · exact k2 h r M9 (by rw [if_neg h] at hF; exact hF) p e s m args below meth c H locs ls X hl hW hs hL
theorem AW.icmp_gt {x y : Int32} {off : Int} {i : Decidable (y < x)} {F1 F2 : Option (ρ × Mem)} (tgt : Nat) (d : decode f.2.1 pc = .ok (.if_icmp .gt off, 3)) (ht : (pc : Int) + off = (tgt : Int)) (k1 : y < x → AW l E f R PQ ct ex ce sl tgt lv st M F1) (k2 : ¬ (y < x) → AW l E f R PQ ct ex ce sl (pc + 3) lv st M F2) : AW l E f R PQ ct ex ce sl pc lv (.int y :: .int x :: st) M (@ite _ (y < x) i F1 F2) := by
  intro r M9 hF p e s m args below meth c H locs ls X hl hW hs hL
  refine lv_icmp_gt X.1 X.2.1 d ht (fun h => ?_) (fun h => ?_)
  · exact k1 h r M9 (by rw [if_pos h] at hF; exact hF) p e s m args below meth c H locs ls X hl hW hs hL
  · exact k2 h r M9 (by rw [if_neg h] at hF; exact hF) p e s m args below meth c H locs ls X hl hW hs hL
theorem AW.icmp_le {x y : Int32} {off : Int} {i : Decidable (x ≤ y)} {F1 F2 : Option (ρ × Mem)} (tgt : Nat) (d : decode f.2.1 pc = .ok (.if_icmp .le off, 3)) (ht : (pc : Int) + off = (tgt : Int)) (k1 : x ≤ y → AW l E f R PQ ct ex ce sl tgt lv st M F1) (k2 : ¬ (x ≤ y) → AW l E f R PQ ct ex ce sl (pc + 3) lv st M F2) : AW l E f R PQ ct ex ce sl pc lv (.int y :: .int x :: st) M (@ite _ (x ≤ y) i F1 F2) := by
  intro r M9 hF p e s m args below meth c H locs ls X hl hW hs hL
  refine lv_icmp_le X.1 X.2.1 d ht (fun h => ?_) (fun h => ?_)
  · exact k1 h r M9 (by rw [if_pos h] at hF; exact hF) p e s m args below meth c H locs ls X hl hW hs hL
  · exact k2 h r M9 (by rw [if_neg h] at hF; exact hF) p e s m args below meth c H locs ls X hl hW hs hL
theorem AW.if_eq {x : Int32} {off : Int} {i : Decidable (x = 0)} {F1 F2 : Option (ρ × Mem)} (tgt : Nat) (d : decode f.2.1 pc = .ok (.ifCond .eq off, 3)) (ht : (pc : Int) + off = (tgt : Int)) (k1 : x = 0 → AW l E f R PQ ct ex ce sl tgt lv st M F1) (k2 : ¬ (x = 0) → AW l E f R PQ ct ex ce sl (pc + 3) lv st M F2) : AW l E f R PQ ct ex ce sl pc lv (.int x :: st) M (@ite _ (x = 0) i F1 F2) := by
  intro r M9 hF p e s m args below meth c H locs ls X hl hW hs hL
  refine lv_if_eq X.1 X.2.1 d ht (fun h => ?_) (fun h => ?_)
  · exact k1 h r M9 (by rw [if_pos h] at hF; exact hF) p e s m args below meth c H locs ls X hl hW hs hL
  · exact k2 h r M9 (by rw [if_neg h] at hF; exact hF) p e s m args below meth c H locs ls X hl hW hs hL
theorem AW.if_ne {x : Int32} {off : Int} {i : Decidable (x = 0)} {F1 F2 : Option (ρ × Mem)} (tgt : Nat) (d : decode f.2.1 pc = .ok (.ifCond .ne off, 3)) (ht : (pc : Int) + off = (tgt : Int)) (k1 : x = 0 → AW l E f R PQ ct ex ce sl (pc + 3) lv st M F1) (k2 : ¬ (x = 0) → AW l E f R PQ ct ex ce sl tgt lv st M F2) : AW l E f R PQ ct ex ce sl pc lv (.int x :: st) M (@ite _ (x = 0) i F1 F2) := by
  intro r M9 hF p e s m args below meth c H locs ls X hl hW hs hL
  refine lv_if_ne X.1 X.2.1 d ht (fun h => ?_) (fun h => ?_)
  · exact k2 h r M9 (by rw [if_neg h] at hF; exact hF) p e s m args below meth c H locs ls X hl hW hs hL
  · exact k1 h r M9 (by rw [if_pos h] at hF; exact hF) p e s m args below meth c H locs ls X hl hW hs hL
theorem AW.if_lt {x : Int32} {off : Int} {i : Decidable (x < 0)} {F1 F2 : Option (ρ × Mem)} (tgt : Nat) (d : decode f.2.1 pc = .ok (.ifCond .lt off, 3)) (ht : (pc : Int) + off = (tgt : Int)) (k1 : x < 0 → AW l E f R PQ ct ex ce sl tgt lv st M F1) (k2 : ¬ (x < 0) → AW l E f R PQ ct ex ce sl (pc + 3) lv st M F2) : AW l E f R PQ ct ex ce sl pc lv (.int x :: st) M (@ite _ (x < 0) i F1 F2) := by
  intro r M9 hF p e s m args below meth c H locs ls X hl hW hs hL
  refine lv_if_lt X.1 X.2.1 d ht (fun h => ?_) (fun h => ?_)
  · exact k1 h r M9 (by rw [if_pos h] at hF; exact hF) p e s m args below meth c H locs ls X hl hW hs hL
  · exact k2 h r M9 (by rw [if_neg h] at hF; exact hF) p e s m args below meth c H locs ls X hl hW hs hL
theorem AW.if_ge {x : Int32} {off : Int} {i : Decidable (0 ≤ x)} {F1 F2 : Option (ρ × Mem)} (tgt : Nat) (d : decode f.2.1 pc = .ok (.ifCond .ge off, 3)) (ht : (pc : Int) + off = (tgt : Int)) (k1 : 0 ≤ x → AW l E f R PQ ct ex ce sl tgt lv st M F1) (k2 : ¬ (0 ≤ x) → AW l E f R PQ ct ex ce sl (pc + 3) lv st M F2) : AW l E f R PQ ct ex ce sl pc lv (.int x :: st) M (@ite _ (0 ≤ x) i F1 F2) := by
  intro r M9 hF p e s m args below meth c H locs ls X hl hW hs hL
  refine lv_if_ge X.1 X.2.1 d ht (fun h => ?_) (fun h => ?_)
  · exact k1 h r M9 (by rw [if_pos h] at hF; exact hF) p e s m args below meth c H locs ls X hl hW hs hL
  · exact k2 h r M9 (by rw [if_neg h] at hF; exact hF) p e s m args below meth c H locs ls X hl hW hs hL
theorem AW.if_gt {x : Int32} {off : Int} {i : Decidable (0 < x)} {F1 F2 : Option (ρ × Mem)} (tgt : Nat) (d : decode f.2.1 pc = .ok (.ifCond .gt off, 3)) (ht : (pc : Int) + off = (tgt : Int)) (k1 : 0 < x → AW l E f R PQ ct ex ce sl tgt lv st M F1) (k2 : ¬ (0 < x) → AW l E f R PQ ct ex ce sl (pc + 3) lv st M F2) : AW l E f R PQ ct ex ce sl pc lv (.int x :: st) M (@ite _ (0 < x) i F1 F2) := by
  intro r M9 hF p e s m args below meth c H locs ls X hl hW hs hL
  refine lv_if_gt X.1 X.2.1 d ht (fun h => ?_) (fun h => ?_)
  · exact k1 h r M9 (by rw [if_pos h] at hF; exact hF) p e s m args below meth c H locs ls X hl hW hs hL
  · exact k2 h r M9 (by rw [if_neg h] at hF; exact hF) p e s m args below meth c H locs ls X hl hW hs hL
theorem AW.if_le {x : Int32} {off : Int} {i : Decidable (x ≤ 0)} {F1 F2 : Option (ρ × Mem)} (tgt : Nat) (d : decode f.2.1 pc = .ok (.ifCond .le off, 3)) (ht : (pc : Int) + off = (tgt : Int)) (k1 : x ≤ 0 → AW l E f R PQ ct ex ce sl tgt lv st M F1) (k2 : ¬ (x ≤ 0) → AW l E f R PQ ct ex ce sl (pc + 3) lv st M F2) : AW l E f R PQ ct ex ce sl pc lv (.int x :: st) M (@ite _ (x ≤ 0) i F1 F2) := by
  intro r M9 hF p e s m args below meth c H locs ls X hl hW hs hL
  refine lv_if_le X.1 X.2.1 d ht (fun h => ?_) (fun h => ?_)
  · exact k1 h r M9 (by rw [if_pos h] at hF; exact hF) p e s m args below meth c H locs ls X hl hW hs hL
  · exact k2 h r M9 (by rw [if_neg h] at hF; exact hF) p e s m args below meth c H locs ls X hl hW hs hL
theorem AW.goto {off : Int} (tgt : Nat) (d : decode f.2.1 pc = .ok (.goto off, 3)) (ht : (pc : Int) + off = (tgt : Int)) (k : AW l E f R PQ ct ex ce sl tgt lv st M F) : AW l E f R PQ ct ex ce sl pc lv st M F :=
  fun r M9 hF p e s m args below meth c H locs ls X hl hW hs hL => lv_goto X.1 X.2.1 d ht (k r M9 hF p e s m args below meth c H locs ls X hl hW hs hL)
theorem AW.tsw {dflt lo hi : Int} {offs : Array Int} {len : Nat} {x : Int32} (d : decode f.2.1 pc = .ok (.tableswitch dflt lo hi offs, len)) (td : Nat) (htd : (pc : Int) + dflt = (td : Int)) (k1 : (x.toInt < lo ∨ hi < x.toInt) → AW l E f R PQ ct ex ce sl td lv st M F) (k2 : ∀ (q : Nat) (off : Int) (tgt : Nat), x.toInt = lo + q → offs[q]? = some off → (pc : Int) + off = (tgt : Int) → AW l E f R PQ ct ex ce sl tgt lv st M F) (hok : ∀ q : Nat, lo + q ≤ hi → ∃ (off : Int) (tgt : Nat), offs[q]? = some off ∧ (pc : Int) + off = (tgt : Int)) : AW l E f R PQ ct ex ce sl pc lv (.int x :: st) M F := by
  intro r M9 hF p e s m args below meth c H locs ls X hl hW hs hL
  by_cases h : x.toInt < lo ∨ hi < x.toInt
  · exact lv_tableOut X.1 X.2.1 d h htd (k1 h r M9 hF p e s m args below meth c H locs ls X hl hW hs hL)
  · have h1 : ¬ x.toInt < lo := fun q => h (Or.inl q)
    have h2 : ¬ hi < x.toInt := fun q => h (Or.inr q)
    obtain ⟨off, tgt, ho, ht⟩ := hok (x.toInt - lo).toNat (by omega)
    exact lv_tableIn X.1 X.2.1 d h1 h2 ho ht (k2 (x.toInt - lo).toNat off tgt (by omega) ho ht r M9 hF p e s m args below meth c H locs ls X hl hW hs hL)
theorem AW.genI {x : Int32} {kF : Int32 → Option (ρ × Mem)} (k : ∀ x : Int32, AW l E f R PQ ct ex ce sl pc lv (.int x :: st) M (kF x)) : AW l E f R PQ ct ex ce sl pc lv (.int x :: st) M (lt x kF) := k x
theorem AW.genL {x : Int64} {kF : Int64 → Option (ρ × Mem)} (k : ∀ x : Int64, AW l E f R PQ ct ex ce sl pc lv (.long x :: st) M (kF x)) : AW l E f R PQ ct ex ce sl pc lv (.long x :: st) M (lt x kF) := k x
theorem AW.genM {kF : Mem → Option (ρ × Mem)} (k : ∀ M : Mem, AW l E f R PQ ct ex ce sl pc lv st M (kF M)) : AW l E f R PQ ct ex ce sl pc lv st M (lt M kF) := k M
theorem AW.ldc {index : Nat} {v : Int32} (d : decode f.2.1 pc = .ok (.ldc index, 2)) (hc : Cond.constant f.1 index v ∈ TB) (k : AW l E f R PQ ct ex ce sl (pc + 2) lv (.int v :: st) M F) : AW l E f R PQ ct ex ce sl pc lv st M F :=
  fun r M9 hF p e s m args below meth c H locs ls X hl hW hs hL => lv_ldc X.1 X.2.1 X.2.2.2.2.1 (X.2.2.2.2.2.1 _ hc) d (k r M9 hF p e s m args below meth c H locs ls X hl hW hs hL)
theorem AW.ldcw {index : Nat} {v : Int32} (d : decode f.2.1 pc = .ok (.ldc_w index, 3)) (hc : Cond.constant f.1 index v ∈ TB) (k : AW l E f R PQ ct ex ce sl (pc + 3) lv (.int v :: st) M F) : AW l E f R PQ ct ex ce sl pc lv st M F :=
  fun r M9 hF p e s m args below meth c H locs ls X hl hW hs hL => lv_ldcw X.1 X.2.1 X.2.2.2.2.1 (X.2.2.2.2.2.1 _ hc) d (k r M9 hF p e s m args below meth c H locs ls X hl hW hs hL)
theorem AW.ldc2 {index : Nat} {v : Int64} (d : decode f.2.1 pc = .ok (.ldc2_w index, 3)) (hc : Cond.constantLong f.1 index v ∈ TB) (k : AW l E f R PQ ct ex ce sl (pc + 3) lv (.long v :: st) M F) : AW l E f R PQ ct ex ce sl pc lv st M F :=
  fun r M9 hF p e s m args below meth c H locs ls X hl hW hs hL => lv_ldc2 X.1 X.2.1 X.2.2.2.2.1 (X.2.2.2.2.2.1 _ hc) d (k r M9 hF p e s m args below meth c H locs ls X hl hW hs hL)
end AWR
