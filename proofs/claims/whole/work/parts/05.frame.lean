/-! ===== what holds of a frame, and the walk over the abstract memory ===== -/
def Old (E : Ev) (H : Heap) : Prop := (eH E).size ≤ H.size ∧ ∀ q : Nat, q < (eH E).size → H[q]? = (eH E)[q]?
/-- String constants: class, place in its pool, text -/
def srL : List (String × Nat × String) := [("GateBox", 360, "there is no such thing"), ("GateBox", 362, "not as told"), ("GateBox$Reader", 67, "sort"), ("GateBox$Reader", 130, "worth"), ("GateBox$Reader", 137, "purse"), ("GateBox$Reader", 141, "gives"), ("GateBox$Reader", 175, "not"), ("GateBox$Reader", 196, "last"), ("GateBox$Reader", 198, "mean"), ("GateBox$Reader", 85, "card"), ("GateBox$Reader", 200, "sign"), ("GateBox$Reader", 90, "keeper"), ("GateBox$Reader", 100, "glass"), ("GateBox$Reader", 104, "least"), ("GateBox$Reader", 173, "and"), ("GateBox$Reader", 164, "or"), ("GateBox$Reader", 76, "sight"), ("GateBox$Reader", 109, "thief"), ("GateBox", 221, "no such rest"), ("GateBox", 334, "no sorts"), ("GateBoxModel", 9, "sort"), ("GateBoxModel", 11, "sight"), ("GateBoxModel", 13, "card"), ("GateBoxModel", 15, "keeper"), ("GateBoxModel", 17, "glass"), ("GateBoxModel", 19, "least"), ("GateBoxModel", 21, "thief"), ("GateBoxModel", 29, "worth"), ("GateBoxModel", 31, "purse"), ("GateBoxModel", 33, "last"), ("GateBoxModel", 35, "mean"), ("GateBoxModel", 37, "sign"), ("GateBoxModel", 284, "gives"), ("GateBoxModel", 265, "not"), ("GateBoxModel", 273, "and"), ("GateBoxModel", 278, "or")]
def slen : List Nat := srL.map (fun q => q.2.2.length)
def sbyt : List (List Int32) := srL.map (fun q => q.2.2.toList.map (fun ch => Int32.ofNat ch.toNat))
def xnse : String := "java/util/NoSuchElementException"
def xiae : String := "java/lang/IllegalArgumentException"
def xnm : List String := ["java/lang/RuntimeException", "java/lang/Exception"]
def nstL : List Cond := [.methodLinkNest "GateBox" 11 ⟨"GateBox$Reader", "<init>", "()V"⟩ "GateBox", .methodLinkNest "GateBox$Reader" 24 ⟨"GateBox$Rules", "<init>", "()V"⟩ "GateBox", .methodLinkNest "GateBox$Rules" 51 ⟨"GateBox$Setting", "<init>", "()V"⟩ "GateBox", .methodLinkNest "GateBox" 18 ⟨"GateBox$Gate", "<init>", "()V"⟩ "GateBox", .methodLinkNest "GateBox$Gate" 11 ⟨"GateBox$Rules", "<init>", "()V"⟩ "GateBox", .methodLinkNest "GateBox$Gate" 20 ⟨"GateBox$Book", "<init>", "()V"⟩ "GateBox", .methodLinkNest "GateBox" 88 ⟨"GateBox$Setting", "<init>", "()V"⟩ "GateBox", .methodLinkNest "GateBox$Reader" 53 ⟨"GateBox", "put", "([III)V"⟩ "GateBox", .methodLinkNest "GateBox$Book" 44 ⟨"GateBox", "copy", "([I[I)V"⟩ "GateBox", .methodLinkNest "GateBox$Reader" 206 ⟨"GateBox", "at", "([II)I"⟩ "GateBox", .methodLinkNest "GateBox$Rules" 71 ⟨"GateBox", "put", "([III)V"⟩ "GateBox", .methodLinkNest "GateBox$Rules" 79 ⟨"GateBox", "at", "([II)I"⟩ "GateBox", .methodLinkNest "GateBox$Giver" 44 ⟨"GateBox", "at", "([II)I"⟩ "GateBox", .methodLinkNest "GateBox$Giver" 63 ⟨"GateBox", "put", "([III)V"⟩ "GateBox", .methodLinkNest "GateBox$Cases" 20 ⟨"GateBox", "at", "([II)I"⟩ "GateBox", .methodLinkNest "GateBox$Cases" 26 ⟨"GateBox", "put", "([III)V"⟩ "GateBox", .methodLinkNest "GateBox$Book" 48 ⟨"GateBox", "put", "([III)V"⟩ "GateBox", .methodLinkNest "GateBox$Clues" 41 ⟨"GateBox", "at", "([II)I"⟩ "GateBox", .methodLinkNest "GateBox$Clues" 45 ⟨"GateBox", "put", "([III)V"⟩ "GateBox", .methodLinkNest "GateBox$Book" 52 ⟨"GateBox", "at", "([II)I"⟩ "GateBox", .methodLinkNest "GateBox$Gate" 82 ⟨"GateBox", "at", "([II)I"⟩ "GateBox", .castable "java/util/NoSuchElementException" "java/util/NoSuchElementException", .castable "java/lang/IllegalArgumentException" "java/lang/IllegalArgumentException"]
def nxAtoms (own : String) (ic : Nat) (X Y : String) (r : List String) (i1 : Nat) (b1 : ByteArray) : List Cond :=
  Bundle.throwableAtoms ++ Bundle.throwableSAtoms ++ Bundle.passSAtoms X Y i1 b1 ++ Bundle.chainSAtoms Y r ++
  [.methodLink own ic (Bundle.initS X), .instantiable X 6, .castable X X, .selects X Bundle.tFill0 Bundle.tFill0, .selects X Bundle.tFill Bundle.tFill,
   .lays X Bundle.tN "cause" "Ljava/lang/Throwable;", .lays X Bundle.tN "stackTrace" Bundle.steD, .lays X Bundle.tN "suppressedExceptions" Bundle.listD, .lays X Bundle.tN "detailMessage" "Ljava/lang/String;",
   .isRef (.static Bundle.tN "UNASSIGNED_STACK" Bundle.steD), .isRef (.static Bundle.tN "SUPPRESSED_SENTINEL" Bundle.listD),
   .fieldLink Bundle.tN 198 Bundle.tN "backtrace" "Ljava/lang/Object;", .lays Bundle.tN Bundle.tN "backtrace" "Ljava/lang/Object;", .lays X Bundle.tN "backtrace" "Ljava/lang/Object;"]
def nxAt (own : String) (ic : Nat) (X Y : String) (r : List String) (i1 : Nat) (b1 : ByteArray) : List Cond := (nxAtoms own ic X Y r i1 b1).filter vx_no
def nseAt : List Cond := nxAt RX11 223 xnse "java/lang/RuntimeException" ["java/lang/Exception"] 13 prog_30_method_4_code
def xwL : List Cond := (nseAt.filter (fun w => !goodWord w)) ++ ((vx_atS RX11 336 xiae xnm).filter (fun w => !goodWord w))
def SW (E : Ev) (U : State) (H : Heap) : Prop := ∀ i : Nat, i < 36 → va_O "java/lang/String" (eS E i) (AE E) U H ∧ va_OF "java/lang/String" "coder" "B" (.int 0) (eS E i) (AE E) U H ∧ va_OF "java/lang/String" "value" "[B" (.ref (eV E i)) (eS E i) (AE E) U H ∧ va_T .byte (eV E i) (slen.getD i 0) (fun j => .int ((sbyt.getD i []).getD j 0)) (AE E) U H
theorem SW.moved {E : Ev} {u U : State} {H : Heap} (hvm : u.vm.Alike U.vm) (h : SW E u H) : SW E U H :=
  fun i hi => ⟨va_O.moved hvm (h i hi).1, va_OF.moved hvm (h i hi).2.1, va_OF.moved hvm (h i hi).2.2.1, va_T.moved hvm (h i hi).2.2.2⟩
theorem SW.kept {E : Ev} {U : State} {H H1 : Heap} (h : SW E U H) (hq : ∀ a : Nat, a < H.size → ¬ AE E a → H1[a]? = H[a]?) : SW E U H1 :=
  fun i hi => ⟨(h i hi).1.kept hq, (h i hi).2.1.kept hq, (h i hi).2.2.1.kept hq, (h i hi).2.2.2.kept hq⟩
/-- what is known of the tables and of what stood before the start -/
def KV (E : Ev) (U : State) : Prop := va_K (eC E, eI E) clsL (tysL E) U ∧ (∀ (i : Nat) (q : String × Nat × String), srL[i]? = some q → vk_R q.1 q.2.1 q.2.2 (eS E i) U) ∧ SW E U (eH E) ∧ (∀ w ∈ nstL, va_Nw w U) ∧ (∀ w ∈ xwL, va_Nw w U) ∧ vx_Zq Bundle.tN "UNASSIGNED_STACK" Bundle.steD (AE E) U (eH E) ∧ vx_Zq Bundle.tN "SUPPRESSED_SENTINEL" Bundle.listD (AE E) U (eH E) ∧ (va_Nc xiae xnse U ∧ va_AO "java/lang/String" U) ∧ va_Z "java/lang/String" "COMPACT_STRINGS" "Z" (.int 1) (AE E) U (eH E) ∧ va_Zq "jdk/internal/util/Preconditions" "SIOOBE_FORMATTER" "Ljava/util/function/BiFunction;" (AE E) U (eH E)
def w_nest (w : Cond) : Bool := match w with
  | .methodLinkNest _ _ _ _ => true
  | .castable _ _ => true
  | .declares _ => true
  | _ => false
theorem w_nest_on {w : Cond} (h : w_nest w = true) : w.onTables = true := by
  cases w <;> first | rfl | exact Bool.noConfusion h
theorem w_nest_warm {w : Cond} {s U : State} (h : w_nest w = true) (hW : s.WarmedH U.vm) (hz : va_Nw w s) : va_Nw w U := by
  cases w <;> first | exact va_Nw.warmM hW hz | exact va_Nw.warmC hW hz | exact va_Nw.warmD hW hz | exact Bool.noConfusion h
theorem nst_ok : ∀ w ∈ nstL, w_nest w = true := fun w h => List.all_eq_true.mp (by decide +kernel : nstL.all w_nest = true) w h
theorem xw_ok : ∀ w ∈ xwL, w_nest w = true := fun w h => List.all_eq_true.mp (by decide +kernel : xwL.all w_nest = true) w h
theorem KV.warm {E : Ev} {s U : State} (hW : s.WarmedH U.vm) (h : KV E s) : KV E U := by
  obtain ⟨h1, h2, h3, h4, h5, h6, h7, h8, h9, h10⟩ := h
  exact ⟨h1.moved hW.alike, fun i q hq => vk_R.warm hW (h2 i q hq), h3.moved hW.alike, fun w hw => w_nest_warm (nst_ok w hw) hW (h4 w hw), fun w hw => w_nest_warm (xw_ok w hw) hW (h5 w hw), vx_Zq.moved hW.alike h6, vx_Zq.moved hW.alike h7, ⟨va_Nc.moved hW.alike h8.1, va_AO.moved hW.alike h8.2⟩, va_Z.moved hW.alike h9, va_Zq.moved hW.alike h10⟩
theorem KV.same {E : Ev} {s U : State} (hv : U.vm = s.vm) (h : KV E s) : KV E U := by
  obtain ⟨h1, h2, h3, h4, h5, h6, h7, h8, h9, h10⟩ := h
  have ha : s.vm.Alike U.vm := by rw [hv]; exact Vm.Alike.refl s.vm
  exact ⟨h1.moved ha, fun i q hq => vk_R.same hv (h2 i q hq), h3.moved ha, fun w hw => va_Nw.same (w_nest_on (nst_ok w hw)) hv.symm (h4 w hw), fun w hw => va_Nw.same (w_nest_on (xw_ok w hw)) hv.symm (h5 w hw), vx_Zq.moved ha h6, vx_Zq.moved ha h7, ⟨va_Nc.moved ha h8.1, va_AO.moved ha h8.2⟩, va_Z.moved ha h9, va_Zq.moved ha h10⟩
/-- the world: ct objects, whose contents M are; what stood before stays; where it is exact, nothing else was made -/
def Wd (E : Ev) (ct : Nat) (ex : Bool) (M : Mem) (H : Heap) : Prop := va_P (eC E, eI E) clsL (wsO E ct M) H ∧ Old E H ∧ (ex = true → H.size = (eH E).size + ct)
/-- a method: its class, bytes, locals, what it returns, name ("": not told), handlers ([(0, 0, 0, 0)]: not told) -/
abbrev Fr : Type := String × ByteArray × Nat × Option FieldType × String × List (Nat × Nat × Nat × Nat)
def Fx (l : Launch) (E : Ev) (f : Fr) (p : Program) (s : State) (m : MethodId) (args : Array Value) (meth : Method) (c : Code) : Prop :=
  p.tables.exec = Jvm.exec ∧ c.code = f.2.1 ∧ meth.sig.returnType = f.2.2.2.1 ∧ c.maxLocals = f.2.2.1 ∧ s.vm.findClass f.1 = some m.cls ∧ (∀ w ∈ TB, w.before args s = true) ∧ meth.locks = false ∧ (meth.name = f.2.2.2.2.1 ∨ f.2.2.2.2.1 = "") ∧ (c.exceptionTable.toList = tableOf f.2.2.2.2.2 ∨ f.2.2.2.2.2 = [(0, 0, 0, 0)]) ∧ KV E s ∧ Old E s.heap
/-- from here the method comes to what F says of its answer and of the memory -/
def AW {ρ : Type} (l : Launch) (E : Ev) (f : Fr) (R : ρ → Room) (PQ : ρ → Mem → Array Value → State → List Frame → State → Prop) (ct : Nat) (ex : Bool) (ce sl : Nat) (pc : Nat) (lv : List (Nat × Value)) (st : List Value) (M : Mem) (F : Option (ρ × Mem)) : Prop :=
  ∀ (r : ρ) (M9 : Mem), F = some (r, M9) → ∀ (p : Program) (e : Env) (s : State) (m : MethodId) (args : Array Value) (below : List Frame) (meth : Method) (c : Code) (H : Heap) (locs : List Loc) (ls : Array Slot),
    Fx l E f p s m args meth c → lv_has ls f.2.2.1 lv → Wd E ct ex M H → s.heap.size ≤ H.size → (∀ q ∈ locs, AE E q.base) →
    W p l e (R r) s m args below meth c H locs ce sl (PQ r M9 args s below) (F0 m pc ls st)
def bnd {α β : Type} (F : Option (α × Mem)) (k : α → Mem → Option (β × Mem)) : Option (β × Mem) := match F with
  | none => none
  | some (x, M) => k x M
def lt {α β : Type} (x : α) (k : α → β) : β := k x
theorem bnd_some {α β : Type} (x : α) (M : Mem) (k : α → Mem → Option (β × Mem)) : bnd (some (x, M)) k = k x M := rfl
theorem bnd_none {α β : Type} (k : α → Mem → Option (β × Mem)) : bnd none k = none := rfl
