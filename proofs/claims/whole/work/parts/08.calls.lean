/-! ===== contracts, calls, returns, throws of the abstract walk ===== -/
def rmN (n c k : Nat) : Room := { frames := n, cells := c, slots := k, locals := 40 * n }
def PcW (E : Ev) (ct : Nat) (ex : Bool) (args : List Value) (M : Mem) : Array Value → State → Prop := va_Pc args (fun U => Wd E ct ex M U.heap ∧ KV E U)
def QcW (E : Ev) (ct : Nat) (ex : Bool) (o : Option Value) (M9 : Mem) : Array Value → State → Outcome → State → Prop := fun _ st oc t => oc = .returned o ∧ Wd E ct ex M9 t.heap ∧ va_F (AE E) st t
def ARet (l : Launch) (E : Ev) (n mc ms ct : Nat) (ex : Bool) (ct9 : Nat) (ex9 : Bool) (y : MethodName) (g : Fr) (args : List Value) (M : Mem) (o : Option Value) (M9 : Mem) : Prop :=
  Met l y (Cond.code y g.2.1 g.2.2.1 g.2.2.2.1 :: TB) (rmN n mc ms) (PcW E ct ex args M) (QcW E ct9 ex9 o M9) mc ms (AE E)
/-- a method's contract: what F says of its answer and of the memory behind it -/
def AMg {α : Type} (l : Launch) (E : Ev) (n mc ms ct : Nat) (ex : Bool) (ct9 : Nat) (ex9 : Bool) (y : MethodName) (g : Fr) (en : α → Option Value) (args : List Value) (M : Mem) (F : Option (α × Mem)) : Prop :=
  ∀ (x : α) (M9 : Mem), F = some (x, M9) → ARet l E n mc ms ct ex ct9 ex9 y g args M (en x) M9
def AM {α : Type} (l : Launch) (E : Ev) (n ct : Nat) (ex : Bool) (y : MethodName) (g : Fr) (en : α → Option Value) (args : List Value) (M : Mem) (F : Option (α × Mem)) : Prop := AMg l E n 0 0 ct ex ct ex y g en args M F
def xcl (k : Nat) : String := if k = 0 then xnse else xiae
def XCW (E : Ev) (ct k : Nat) (M9 : Mem) : String → State → State → Prop := fun cls st t => cls = xcl k ∧ Wd E ct false M9 t.heap ∧ va_F (AE E) st t
def AThr (l : Launch) (E : Ev) (n ct : Nat) (ex : Bool) (y : MethodName) (g : Fr) (args : List Value) (M : Mem) (k : Nat) (M9 : Mem) : Prop :=
  vx_Met l y (Cond.code y g.2.1 g.2.2.1 g.2.2.2.1 :: TB) (rmN n 1 6) (PcW E ct ex args M) (fun _ _ _ _ => False) (XCW E ct k M9) 1 6 (AE E)
def AMX {α : Type} (l : Launch) (E : Ev) (n ct : Nat) (ex : Bool) (y : MethodName) (g : Fr) (en : α → Option Value) (args : List Value) (M : Mem) (F : Option ((α ⊕ Nat) × Mem)) : Prop :=
  (∀ (x : α) (M9 : Mem), F = some (.inl x, M9) → ARet l E n 0 0 ct ex ct ex y g args M (en x) M9) ∧ ∀ (k : Nat) (M9 : Mem), F = some (.inr k, M9) → AThr l E n ct ex y g args M k M9
def PQr {ρ : Type} (E : Ev) (mc ms ct : Nat) (ex : Bool) (en : ρ → Option Value) : ρ → Mem → Array Value → State → List Frame → State → Prop := fun r M9 args s below => MQ below (QcW E ct ex (en r) M9) args s mc ms (AE E)
def RX {α : Type} (n : Nat) (r : α ⊕ Nat) : Room := match r with
  | .inl _ => rmN n 0 0
  | .inr _ => rmN n 1 6
def PQX {α : Type} (E : Ev) (ct : Nat) (ex : Bool) (en : α → Option Value) : (α ⊕ Nat) → Mem → Array Value → State → List Frame → State → Prop := fun r M9 args s below => match r with
  | .inl x => MQ below (QcW E ct ex (en x) M9) args s 0 0 (AE E)
  | .inr k => vx_MQ below (fun _ _ _ _ => False) (XCW E ct k M9) args s 1 6 (AE E)
def enI (x : Int32) : Option Value := some (.int x)
def enJ (x : Int64) : Option Value := some (.long x)
def enR (E : Ev) (x : Nat) : Option Value := some (.ref (ad E x))
def enU (_ : Unit) : Option Value := none
theorem PcW_blind {E : Ev} {ct : Nat} {ex : Bool} {args : List Value} {M : Mem} : FrameBlind (PcW E ct ex args M) := fun a U g mk h => ⟨h.1, h.2.1, KV.same (s := U) (U := U.calling g mk a) rfl h.2.2⟩
theorem F_of {E : Ev} {s t : State} {H : Heap} (h1 : Old E s.heap) (h2 : Old E H) (h3 : s.heap.size ≤ H.size) (ht : t.heap = H) : va_F (AE E) s t := by
  refine ⟨by rw [ht]; exact h3, fun q hq hA => ?_⟩
  have hl : q < (eH E).size := Nat.not_le.mp hA
  rw [ht, h2.2 q hl, h1.2 q hl]
theorem met_ofW {l : Launch} {y : MethodName} {ws ws' : List Cond} {rm : Room} {Pc : Array Value → State → Prop} {Qc : Array Value → State → Outcome → State → Prop} {mc ms : Nat} {free : Addr → Prop} {cc : ByteArray} {maxL : Nat} {ret : Option FieldType}
    (hy : plainName y.cls = true) (hw : ws = Cond.code y cc maxL ret :: ws')
    (body : ∀ p e s m args below meth c s₁, BodyLoose p l y (headSpec ws rm) cc maxL ret e s m args below meth c s₁ → c.maxLocals = maxL → c.exceptionTable.toList = [] → Pc args s →
      W p l e (headSpec ws rm).room s m args below meth c s.heap [] 0 0 (MQ below Qc args s mc ms free) (entryFrame m args maxL)) : Met l y ws rm Pc Qc mc ms free := by
  refine MetFree.of_bodyS (code := cc) (maxLocals := maxL) (ret := ret) hy ?_ ?_
  · intro args s m h hn
    obtain ⟨meth, c, h1, h2, h3, h4, h5, h6, -, -⟩ := Cond.code_spec hn (atoms_spec (ws := ws) h _ (by rw [hw]; exact List.mem_cons_self))
    exact ⟨meth, c, h1, h2, h3, h4, h5, h6⟩
  · intro p e s m args below meth c s₁ B hml hP _
    have hh0 : s₁.heap = s.heap := by rw [B.state]; rfl
    have ht : c.exceptionTable.toList = [] := by
      obtain ⟨meth9, c9, h1, h2, -, -, -, -, h7, -⟩ := Cond.code_spec B.named (atoms_spec (ws := ws) B.pre _ (by rw [hw]; exact List.mem_cons_self))
      cases Option.some.inj (h1.symm.trans B.method)
      cases Option.some.inj (h2.symm.trans (Stand.of_body B).code)
      rw [Array.isEmpty_iff.mp h7]
    obtain ⟨t, a1, o, b1, b2, b3⟩ := body p e s m args below meth c s₁ B hml ht hP s₁ hh0 (Stand.of_body B)
    exact ⟨t, o, a1, b1, b2, ⟨b3.1, b3.2⟩⟩
theorem AMg.of {α : Type} {l : Launch} {E : Ev} {n mc ms ct : Nat} {ex : Bool} {ct9 : Nat} {ex9 : Bool} {y : MethodName} {g : Fr} {en : α → Option Value} {args : List Value} {M : Mem} {F : Option (α × Mem)}
    (hy : plainName y.cls = true) (hg : g.1 = y.cls ∧ g.2.2.2.2.1 = y.name ∧ g.2.2.2.2.2 = []) (hlen : (lg_sl args).length ≤ g.2.2.1) (k : AW l E g (fun _ => rmN n mc ms) (PQr E mc ms ct9 ex9 en) ct ex 0 0 0 (lv_args 0 args) [] M F) : AMg l E n mc ms ct ex ct9 ex9 y g en args M F := by
  intro x M9 hF
  refine met_ofW hy rfl ?_
  intro p e s m args9 below meth c s₁ B hml hxt hv
  obtain ⟨rfl, hW, hKV⟩ := hv
  have hts := atoms_spec (ws := Cond.code y g.2.1 g.2.2.1 g.2.2.2.1 :: TB) B.pre
  rw [lg_entry_eq]
  exact k x M9 hF p e s m _ below meth c s.heap [] _ ⟨B.exec, B.bytes, B.returns, hml, by rw [hg.1]; exact findClass_of_methodNamed B.named, fun w hw => hts w (List.mem_cons_of_mem _ hw), B.notSynchronized, Or.inl (by rw [hg.2.1]; exact (name_of_methodNamed B.named B.method).1), Or.inl (by rw [hg.2.2, hxt]; rfl), hKV, hW.2.1⟩ (lv_entry args hlen) hW (Nat.le_refl _) (fun _ h => by cases h)
theorem AM.of {α : Type} {l : Launch} {E : Ev} {n ct : Nat} {ex : Bool} {y : MethodName} {g : Fr} {en : α → Option Value} {args : List Value} {M : Mem} {F : Option (α × Mem)}
    (hy : plainName y.cls = true) (hg : g.1 = y.cls ∧ g.2.2.2.2.1 = y.name ∧ g.2.2.2.2.2 = []) (hlen : (lg_sl args).length ≤ g.2.2.1) (k : AW l E g (fun _ => rmN n 0 0) (PQr E 0 0 ct ex en) ct ex 0 0 0 (lv_args 0 args) [] M F) : AM l E n ct ex y g en args M F := AMg.of hy hg hlen k
theorem AMX.of {α : Type} {l : Launch} {E : Ev} {n ct : Nat} {ex : Bool} {y : MethodName} {g : Fr} {en : α → Option Value} {args : List Value} {M : Mem} {F : Option ((α ⊕ Nat) × Mem)}
    (hy : plainName y.cls = true) (hg : g.1 = y.cls ∧ g.2.2.2.2.1 = y.name ∧ g.2.2.2.2.2 = []) (hlen : (lg_sl args).length ≤ g.2.2.1) (k : AW l E g (RX n) (PQX E ct ex en) ct ex 0 0 0 (lv_args 0 args) [] M F) : AMX l E n ct ex y g en args M F := by
  refine ⟨fun x M9 hF => ?_, fun k9 M9 hF => ?_⟩
  · refine met_ofW hy rfl ?_
    intro p e s m args9 below meth c s₁ B hml hxt hv
    obtain ⟨rfl, hW, hKV⟩ := hv
    have hts := atoms_spec (ws := Cond.code y g.2.1 g.2.2.1 g.2.2.2.1 :: TB) B.pre
    rw [lg_entry_eq]
    exact k (.inl x) M9 hF p e s m _ below meth c s.heap [] _ ⟨B.exec, B.bytes, B.returns, hml, by rw [hg.1]; exact findClass_of_methodNamed B.named, fun w hw => hts w (List.mem_cons_of_mem _ hw), B.notSynchronized, Or.inl (by rw [hg.2.1]; exact (name_of_methodNamed B.named B.method).1), Or.inl (by rw [hg.2.2, hxt]; rfl), hKV, hW.2.1⟩ (lv_entry args hlen) hW (Nat.le_refl _) (fun _ h => by cases h)
  · refine vx_ofW hy rfl ?_
    intro p e s m args9 below meth c s₁ B hml hxt hv
    obtain ⟨rfl, hW, hKV⟩ := hv
    have hts := atoms_spec (ws := Cond.code y g.2.1 g.2.2.1 g.2.2.2.1 :: TB) B.pre
    have hxt2 : c.exceptionTable.toList = [] := by
      cases hz : c.exceptionTable.toList with
      | nil => rfl
      | cons a b => exact (hxt a (by rw [hz]; exact List.mem_cons_self)).elim
    rw [lg_entry_eq]
    exact k (.inr k9) M9 hF p e s m _ below meth c s.heap [] _ ⟨B.exec, B.bytes, B.returns, hml, by rw [hg.1]; exact findClass_of_methodNamed B.named, fun w hw => hts w (List.mem_cons_of_mem _ hw), B.notSynchronized, Or.inl (by rw [hg.2.1]; exact (name_of_methodNamed B.named B.method).1), Or.inl (by rw [hg.2.2, hxt2]; rfl), hKV, hW.2.1⟩ (lv_entry args hlen) hW (Nat.le_refl _) (fun _ h => by cases h)
/-- a callee, as the tables have it -/
def MB (y : MethodName) (g : Fr) (na : Nat) : Prop := Cond.code y g.2.1 g.2.2.1 g.2.2.2.1 ∈ TB ∧ Cond.initialized y.cls ∈ TB ∧ (y.cls ≠ "java/lang/invoke/MethodHandle" ∧ y.cls ≠ "java/lang/invoke/VarHandle") ∧ (parseMethodDescriptor y.desc).map (fun d => d.parameters.length) = some na ∧ g.2.2.1 ≤ 21
def MBV (y : MethodName) (g : Fr) (na : Nat) : Prop := MB y g na ∧ Cond.instanceMethod y ∈ TB ∧ Cond.selects y.cls y y ∈ TB
def MBS (y : MethodName) (g : Fr) (na : Nat) : Prop := MB y g na ∧ Cond.static y ∈ TB
def MBI (y : MethodName) (g : Fr) (na : Nat) : Prop := MB y g na ∧ y.name = "<init>" ∧ Cond.instanceMethod y ∈ TB
theorem MB_good {y : MethodName} {g : Fr} {na : Nat} (h : MB y g na) : GoodIn TB (Cond.code y g.2.1 g.2.2.1 g.2.2.2.1 :: TB) := tb_GoodIn fun w hw => by
  rcases List.mem_cons.mp hw with rfl | hw
  · exact h.1
  · exact hw
def okR (R : Room) (n ce sl : Nat) : Prop := n + 1 ≤ R.frames ∧ 40 * n + 40 ≤ R.locals ∧ ce ≤ R.cells ∧ sl ≤ R.slots
theorem okR_N {n m mc ms : Nat} (h : m + 1 ≤ n) : okR (rmN n mc ms) m 0 0 := ⟨h, by show 40 * m + 40 ≤ 40 * n; omega, Nat.zero_le _, Nat.zero_le _⟩
theorem okR_X {α : Type} {n m : Nat} (h : m + 1 ≤ n) (r : α ⊕ Nat) : okR (RX n r) m 0 0 := by cases r <;> exact okR_N h
section CB
variable {R : Room} {s : State} {args : Array Value} {own : String} {idx : Nat} {y : MethodName} {g : Fr} {na n mc ms : Nat}
theorem MB_core (hts : ∀ w ∈ TB, w.before args s = true) (h : MB y g na) (hR : n + 1 ≤ R.frames ∧ 40 * n + 40 ≤ R.locals) :
    ((rmN n mc ms).cells = mc ∧ (rmN n mc ms).slots = ms ∧ (rmN n mc ms).frames + 1 ≤ R.frames ∧ 8 + (g.2.2.1 + 11) + (rmN n mc ms).locals ≤ R.locals ∧ (∀ w ∈ (Cond.code y g.2.1 g.2.2.1 g.2.2.2.1 :: TB), ∀ (a' : Array Value) (U : State), s.WarmedH U.vm → w.before a' U = true) ∧ Cond.code y g.2.1 g.2.2.1 g.2.2.2.1 ∈ (Cond.code y g.2.1 g.2.2.1 g.2.2.2.1 :: TB)) ∧
    (Cond.code y g.2.1 g.2.2.1 g.2.2.2.1).before args s = true ∧ (Cond.initialized y.cls).before args s = true ∧ (y.cls ≠ "java/lang/invoke/MethodHandle" ∧ y.cls ≠ "java/lang/invoke/VarHandle") ∧ (∀ sig, parseMethodDescriptor y.desc = some sig → na = sig.parameters.length) := by
  have h5 := h.2.2.2.2
  refine ⟨⟨rfl, rfl, hR.1, ?_, pay_in hts (MB_good h), List.mem_cons_self⟩, hts _ h.1, hts _ h.2.1, h.2.2.1, fun sig hs => ?_⟩
  · show 8 + (g.2.2.1 + 11) + 40 * n ≤ R.locals
    have := hR.2
    omega
  · have h2 := h.2.2.2.1
    rw [hs] at h2
    exact (Option.some.inj h2).symm
theorem mkCB (hts : ∀ w ∈ TB, w.before args s = true) (h : MB y g na) (hl : Cond.methodLink own idx y ∈ TB) (hR : n + 1 ≤ R.frames ∧ 40 * n + 40 ≤ R.locals) : CallB R s args own idx y g.2.1 g.2.2.1 g.2.2.2.1 (Cond.code y g.2.1 g.2.2.1 g.2.2.2.1 :: TB) (rmN n mc ms) mc ms na := by
  obtain ⟨⟨a1, a2, a3, a4, a5, a6⟩, b1, b2, b3, b4⟩ := MB_core (mc := mc) (ms := ms) hts h hR
  exact ⟨a1, a2, a3, a4, a5, a6, b1, b2, b3, b4, hts _ hl⟩
theorem mkCN {host : String} (hts : ∀ w ∈ TB, w.before args s = true) (h : MB y g na) (hl : va_Nw (.methodLinkNest own idx y host) s) (hR : n + 1 ≤ R.frames ∧ 40 * n + 40 ≤ R.locals) : va_CN R s args own idx y host g.2.1 g.2.2.1 g.2.2.2.1 (Cond.code y g.2.1 g.2.2.1 g.2.2.2.1 :: TB) (rmN n mc ms) mc ms na := by
  obtain ⟨a, b1, b2, b3, b4⟩ := MB_core (mc := mc) (ms := ms) hts h hR
  exact ⟨a, b1, b2, b3, b4, va_Nw.use rfl hl⟩
end CB
section AWC
variable {p : Program} {l : Launch} {e : Env} {R : Room} {s : State} {m : MethodId} {args : Array Value} {below : List Frame} {meth : Method} {c : Code} {H : Heap} {locs : List Loc} {ce sl mc ms pc : Nat} {Q : State → Prop} {ls : Array Slot} {st0 rest : List Value} {a : Array Value} {E : Ev} {ct : Nat} {ex : Bool} {o : Option Value} {M9 : Mem}
theorem W.afterRun (hr : va_Run p l e R s m args below meth c H locs ce sl mc ms (F0 m pc ls st0) rest (QcW E ct ex o M9 a) (AE E)) (hL : ∀ q ∈ locs, AE E q.base)
    (k : ∀ (H1 : Heap) (locs1 : List Loc), Wd E ct ex M9 H1 → H.size ≤ H1.size → (∀ q ∈ locs1, AE E q.base) → W p l e R s m args below meth c H1 locs1 (ce + mc) (sl + ms) Q (F0 m (pc + 3) ls (o.toList ++ rest))) : W p l e R s m args below meth c H locs ce sl Q (F0 m pc ls st0) := by
  intro T hT X
  obtain ⟨v, st₀, t, T', L, h0, X', hL2, e1, e2, ⟨hv, hw, hz⟩, st⟩ := hr T hT X
  cases hv
  obtain ⟨t2, a1, b1⟩ := k T'.heap (locs ++ L) (by rw [e1]; exact hw) (by rw [e1, ← h0]; exact hz.1) (fun q hq => by
    rcases List.mem_append.mp hq with h | h
    · exact hL q h
    · exact hL2 q h) T' rfl X'
  exact ⟨t2, st t2 a1, b1⟩
theorem W.afterThrow {XC : String → State → State → Prop} (hr : vx_Run p l e R s m args below meth c H locs ce sl mc ms (F0 m pc ls st0) rest (fun _ _ _ => False) XC (AE E)) (hL : ∀ q ∈ locs, AE E q.base)
    (k : ∀ (H1 : Heap) (locs1 : List Loc) (q : Addr) (cls : String) (ce1 : Cell) (st t : State), st.heap = H → t.heap = H1 → XC cls st t → H1[q]? = some ce1 → ce1.vm = .none → s.vm.findClass cls = some ce1.cls → (∀ z ∈ locs1, AE E z.base) → vx_W p l e R s m args below meth c H1 locs1 (ce + mc) (sl + ms) Q (F0 m pc ls rest) q) : W p l e R s m args below meth c H locs ce sl Q (F0 m pc ls st0) := by
  intro T hT X
  rcases hr T hT X with ⟨v, st₀, t, T', L, h0, X', hL2, e1, e2, hf, st⟩ | ⟨q, st₀, t, T', L, cls, ce1, h0, X', hL2, e1, e2, hx, hc1, hc2, hc3, st⟩
  · exact hf.elim
  · obtain ⟨t2, a1, b1⟩ := k T'.heap (locs ++ L) q cls ce1 st₀ t h0 e1.symm hx (by rw [e1]; exact hc1) hc2 hc3 (fun z hz => by
      rcases List.mem_append.mp hz with h | h
      · exact hL z h
      · exact hL2 z h) T' rfl X'
    exact ⟨t2, st.trans a1, b1⟩
end AWC
theorem Fx.fix {l : Launch} {E : Ev} {f : Fr} {p : Program} {s : State} {m : MethodId} {args : Array Value} {meth : Method} {c : Code} (X : Fx l E f p s m args meth c) : CallFix p m c f.2.1 f.2.2.1 s args TB f.1 := ⟨X.1, X.2.1, X.2.2.2.1, X.own, X.ts⟩
theorem Wd_recv {E : Ev} {ct : Nat} {ex : Bool} {M : Mem} {H : Heap} {s : State} {o c : Nat} {C : String} (hW : Wd E ct ex M H) (hKV : KV E s) (hK : K0 o = (0, c)) (hct : o ≤ ct) (hcl : clsL[c]?.map (fun q => q.1) = some C) : ∃ cell : Cell, H[ad E o]? = some cell ∧ cell.vm.isStatics = false ∧ s.vm.findClass C = some cell.cls := by
  have he := wsO_at (E := E) (M := M) hK (ne9 rfl) hct
  rw [ent_obj hK] at he
  cases hq : clsL[c]? with
  | none => rw [hq] at hcl; cases hcl
  | some q =>
    rw [hq] at hcl
    cases hcl
    exact va_recv hKV.1 hW.1 hq he
section AWD
variable {ρ α : Type} {l : Launch} {E : Ev} {f : Fr} {R : ρ → Room} {PQ : ρ → Mem → Array Value → State → List Frame → State → Prop} {ct : Nat} {ex : Bool} {ce sl : Nat} {pc : Nat} {lv : List (Nat × Value)} {st stk : List Value} {M : Mem} {en : α → Option Value} {F1 : Option (α × Mem)} {F2 : α → Mem → Option (ρ × Mem)} {y : MethodName} {g : Fr} {n idx : Nat} {As : List Value}
theorem AW.callV {o c : Nat} (d : decode f.2.1 pc = .ok (.invokevirtual idx, 3)) (hl : Cond.methodLink f.1 idx y ∈ TB) (hy : MBV y g As.length) (hcl : clsL[c]?.map (fun q => q.1) = some y.cls) (hK : K0 o = (0, c)) (hct : o ≤ ct) (hR : ∀ r, okR (R r) n ce sl)
    (hc : AM l E n ct ex y g en (.ref (ad E o) :: As) M F1) (hst : stk = As.reverse ++ .ref (ad E o) :: st) (hW8 : (st.map fun v => v.category).sum ≤ 8)
    (k : ∀ x M1, AW l E f R PQ ct ex ce sl (pc + 3) lv ((en x).toList ++ st) M1 (F2 x M1)) : AW l E f R PQ ct ex ce sl pc lv stk M (bnd F1 F2) := by
  intro r M9 hF p e s m args below meth c' H locs ls X hl9 hW hs hL
  cases hF1 : F1 with
  | none => rw [hF1] at hF; cases hF
  | some q =>
    obtain ⟨x, M1⟩ := q
    rw [hF1] at hF
    have hcb := mkCB (R := R r) (n := n) (mc := 0) (ms := 0) X.ts hy.1 hl ⟨(hR r).1, (hR r).2.1⟩
    refine W.afterRun (va_runV (C := y.cls) (As := As) (rest := st) X.fix (hc x M1 hF1) ⟨hcb, X.ts _ hy.2.1, X.ts _ hy.2.2⟩ ⟨PcW_blind, Wd_recv hW X.kv hK hct hcl, fun U hU hWm => ⟨rfl, by rw [hU]; exact hW, KV.warm hWm X.kv⟩⟩ rfl rfl hl9.1 hst (lv_room hW8) d ⟨(hR r).2.2.1, (hR r).2.2.2⟩) hL fun H1 locs1 w1 w2 w3 => ?_
    exact k x M1 r M9 hF p e s m args below meth c' H1 locs1 ls X hl9 w1 (Nat.le_trans hs w2) w3
theorem AW.callS (d : decode f.2.1 pc = .ok (.invokestatic idx, 3)) (hl : Cond.methodLink f.1 idx y ∈ TB) (hy : MBS y g As.length) (hR : ∀ r, okR (R r) n ce sl)
    (hc : AM l E n ct ex y g en As M F1) (hst : stk = As.reverse ++ st) (hW8 : (st.map fun v => v.category).sum ≤ 8)
    (k : ∀ x M1, AW l E f R PQ ct ex ce sl (pc + 3) lv ((en x).toList ++ st) M1 (F2 x M1)) : AW l E f R PQ ct ex ce sl pc lv stk M (bnd F1 F2) := by
  intro r M9 hF p e s m args below meth c' H locs ls X hl9 hW hs hL
  cases hF1 : F1 with
  | none => rw [hF1] at hF; cases hF
  | some q =>
    obtain ⟨x, M1⟩ := q
    rw [hF1] at hF
    have hcb := mkCB (R := R r) (n := n) (mc := 0) (ms := 0) X.ts hy.1 hl ⟨(hR r).1, (hR r).2.1⟩
    refine W.afterRun (va_runS (As := As) (rest := st) X.fix (hc x M1 hF1) ⟨hcb, X.ts _ hy.2⟩ ⟨PcW_blind, fun U hU hWm => ⟨rfl, by rw [hU]; exact hW, KV.warm hWm X.kv⟩⟩ rfl rfl hl9.1 hst (lv_room hW8) d ⟨(hR r).2.2.1, (hR r).2.2.2⟩) hL fun H1 locs1 w1 w2 w3 => ?_
    exact k x M1 r M9 hF p e s m args below meth c' H1 locs1 ls X hl9 w1 (Nat.le_trans hs w2) w3
theorem AW.callSN {host : String} (d : decode f.2.1 pc = .ok (.invokestatic idx, 3)) (hl : Cond.methodLinkNest f.1 idx y host ∈ nstL) (hy : MBS y g As.length) (hR : ∀ r, okR (R r) n ce sl)
    (hc : AM l E n ct ex y g en As M F1) (hst : stk = As.reverse ++ st) (hW8 : (st.map fun v => v.category).sum ≤ 8)
    (k : ∀ x M1, AW l E f R PQ ct ex ce sl (pc + 3) lv ((en x).toList ++ st) M1 (F2 x M1)) : AW l E f R PQ ct ex ce sl pc lv stk M (bnd F1 F2) := by
  intro r M9 hF p e s m args below meth c' H locs ls X hl9 hW hs hL
  cases hF1 : F1 with
  | none => rw [hF1] at hF; cases hF
  | some q =>
    obtain ⟨x, M1⟩ := q
    rw [hF1] at hF
    have hcb := mkCN (R := R r) (n := n) (mc := 0) (ms := 0) X.ts hy.1 (X.kv.2.2.2.1 _ hl) ⟨(hR r).1, (hR r).2.1⟩
    refine W.afterRun (va_runSN (As := As) (rest := st) X.fix (hc x M1 hF1) ⟨hcb, X.ts _ hy.2, trivial⟩ ⟨PcW_blind, fun U hU hWm => ⟨rfl, by rw [hU]; exact hW, KV.warm hWm X.kv⟩⟩ rfl rfl hl9.1 hst (lv_room hW8) d ⟨(hR r).2.2.1, (hR r).2.2.2⟩) hL fun H1 locs1 w1 w2 w3 => ?_
    exact k x M1 r M9 hF p e s m args below meth c' H1 locs1 ls X hl9 w1 (Nat.le_trans hs w2) w3
end AWD

section AWRet
variable {ρ : Type} {l : Launch} {E : Ev} {f : Fr} {R : ρ → Room} {PQ : ρ → Mem → Array Value → State → List Frame → State → Prop} {ct : Nat} {ex : Bool} {ce sl mc ms : Nat} {pc : Nat} {lv : List (Nat × Value)} {M : Mem} {r0 : ρ}

theorem AW.iret {v : Int32} (d : decode f.2.1 pc = .ok (.ireturn, 1)) (hr : f.2.2.2.1 = some .int) (hPQ : ∀ args s below, PQ r0 M args s below = MQ below (QcW E ct ex (some (.int v)) M) args s mc ms (AE E)) (hc : ce ≤ mc) (hsl : sl ≤ ms) : AW l E f R PQ ct ex ce sl pc lv [.int v] M (some (r0, M)) := by
  intro r M9 hF p e s m args below meth c' H locs ls X hl9 hW hs hL
  cases hF
  rw [hPQ]
  refine W.widen hc hsl ?_
  exact W.iret X.1 X.2.1 (X.2.2.1.trans hr) (fun t ht _ => ⟨rfl, by rw [ht]; exact hW, F_of X.old hW.2.1 hs ht⟩) hL d X.locks
theorem AW.zret {v : Int32} (d : decode f.2.1 pc = .ok (.ireturn, 1)) (hr : f.2.2.2.1 = some .boolean) (hv : v = 0 ∨ v = 1) (hPQ : ∀ args s below, PQ r0 M args s below = MQ below (QcW E ct ex (some (.int v)) M) args s mc ms (AE E)) (hc : ce ≤ mc) (hsl : sl ≤ ms) : AW l E f R PQ ct ex ce sl pc lv [.int v] M (some (r0, M)) := by
  intro r M9 hF p e s m args below meth c' H locs ls X hl9 hW hs hL
  cases hF
  rw [hPQ]
  refine W.widen hc hsl ?_
  exact W.zret X.1 X.2.1 (X.2.2.1.trans hr) (by rcases hv with rfl | rfl <;> rfl) (fun t ht _ => ⟨rfl, by rw [ht]; exact hW, F_of X.old hW.2.1 hs ht⟩) hL d X.locks
theorem AW.lret {v : Int64} (d : decode f.2.1 pc = .ok (.lreturn, 1)) (hr : f.2.2.2.1 = some .long) (hPQ : ∀ args s below, PQ r0 M args s below = MQ below (QcW E ct ex (some (.long v)) M) args s mc ms (AE E)) (hc : ce ≤ mc) (hsl : sl ≤ ms) : AW l E f R PQ ct ex ce sl pc lv [.long v] M (some (r0, M)) := by
  intro r M9 hF p e s m args below meth c' H locs ls X hl9 hW hs hL
  cases hF
  rw [hPQ]
  refine W.widen hc hsl ?_
  exact W.lret X.1 X.2.1 (X.2.2.1.trans hr) (fun t ht _ => ⟨rfl, by rw [ht]; exact hW, F_of X.old hW.2.1 hs ht⟩) hL d X.locks
theorem AW.vret  (d : decode f.2.1 pc = .ok (.return_, 1)) (hr : f.2.2.2.1 = Option.none) (hPQ : ∀ args s below, PQ r0 M args s below = MQ below (QcW E ct ex (Option.none) M) args s mc ms (AE E)) (hc : ce ≤ mc) (hsl : sl ≤ ms) : AW l E f R PQ ct ex ce sl pc lv [] M (some (r0, M)) := by
  intro r M9 hF p e s m args below meth c' H locs ls X hl9 hW hs hL
  cases hF
  rw [hPQ]
  refine W.widen hc hsl ?_
  exact W.vret X.1 X.2.1 (X.2.2.1.trans hr) (fun t ht _ => ⟨rfl, by rw [ht]; exact hW, F_of X.old hW.2.1 hs ht⟩) hL d X.locks
theorem AW.aret {v : Nat} {rt : FieldType} (d : decode f.2.1 pc = .ok (.areturn, 1)) (hr : f.2.2.2.1 = some rt) (hrt : (∃ n, rt = .object n) ∨ ∃ t, rt = .array t) (hPQ : ∀ args s below, PQ r0 M args s below = MQ below (QcW E ct ex (some (.ref (ad E v))) M) args s mc ms (AE E)) (hc : ce ≤ mc) (hsl : sl ≤ ms) : AW l E f R PQ ct ex ce sl pc lv [.ref (ad E v)] M (some (r0, M)) := by
  intro r M9 hF p e s m args below meth c' H locs ls X hl9 hW hs hL
  cases hF
  rw [hPQ]
  refine W.widen hc hsl ?_
  exact W.aret X.1 X.2.1 (X.2.2.1.trans hr) hrt (Or.inr ⟨_, rfl⟩) (fun t ht _ => ⟨rfl, by rw [ht]; exact hW, F_of X.old hW.2.1 hs ht⟩) hL d X.locks
end AWRet
