/-! ===== methods with handlers, and the law's own rows ===== -/
def ARetW (l : Launch) (E : Ev) (n ct : Nat) (y : MethodName) (g : Fr) (args : List Value) (M : Mem) (o : Option Value) (M9 : Mem) : Prop :=
  Met l y (Cond.codeWith y g.2.1 g.2.2.1 g.2.2.2.1 g.2.2.2.2.2 :: TB) (rmN n 1 6) (PcW E ct false args M) (QcW E ct false o M9) 1 6 (AE E)
/-- the contract of a method that catches -/
def AMW {α : Type} (l : Launch) (E : Ev) (n ct : Nat) (y : MethodName) (g : Fr) (en : α → Option Value) (args : List Value) (M : Mem) (F : Option (α × Mem)) : Prop :=
  ∀ (x : α) (M9 : Mem), F = some (x, M9) → ARetW l E n ct y g args M (en x) M9
theorem met_ofWH {l : Launch} {y : MethodName} {ws ws' : List Cond} {rm : Room} {Pc : Array Value → State → Prop} {Qc : Array Value → State → Outcome → State → Prop} {mc ms : Nat} {free : Addr → Prop} {cc : ByteArray} {maxL : Nat} {ret : Option FieldType} {hh : List (Nat × Nat × Nat × Nat)}
    (hy : plainName y.cls = true) (hw : ws = Cond.codeWith y cc maxL ret hh :: ws')
    (body : ∀ p e s m args below meth c s₁, BodyLoose p l y (headSpec ws rm) cc maxL ret e s m args below meth c s₁ → c.maxLocals = maxL → c.exceptionTable.toList = tableOf hh → Pc args s →
      W p l e (headSpec ws rm).room s m args below meth c s.heap [] 0 0 (MQ below Qc args s mc ms free) (entryFrame m args maxL)) : Met l y ws rm Pc Qc mc ms free := by
  refine MetFree.of_bodyS (code := cc) (maxLocals := maxL) (ret := ret) hy ?_ ?_
  · intro args s m h hn
    obtain ⟨m9, meth, c, hn9, h1, h2, h3, h4, -, h5, h6, -⟩ := Cond.codeWith_spec (atoms_spec (ws := ws) h _ (by rw [hw]; exact List.mem_cons_self))
    cases hn.symm.trans hn9
    exact ⟨meth, c, h1, h2, h3, h4, h5, h6⟩
  · intro p e s m args below meth c s₁ B hml hP _
    have hh0 : s₁.heap = s.heap := by rw [B.state]; rfl
    have ht := vx_table (x := y) B (atoms_spec (ws := ws) B.pre _ (by rw [hw]; exact List.mem_cons_self))
    obtain ⟨t, a1, o, b1, b2, b3⟩ := body p e s m args below meth c s₁ B hml ht hP s₁ hh0 (Stand.of_body B)
    exact ⟨t, o, a1, b1, b2, ⟨b3.1, b3.2⟩⟩
theorem AMW.of {α : Type} {l : Launch} {E : Ev} {n ct : Nat} {y : MethodName} {g : Fr} {en : α → Option Value} {args : List Value} {M : Mem} {F : Option (α × Mem)}
    (hy : plainName y.cls = true) (hg : g.1 = y.cls ∧ g.2.2.2.2.1 = y.name) (hlen : (lg_sl args).length ≤ g.2.2.1) (k : AW l E g (fun _ => rmN n 1 6) (PQr E 1 6 ct false en) ct false 0 0 0 (lv_args 0 args) [] M F) : AMW l E n ct y g en args M F := by
  intro x M9 hF
  refine met_ofWH hy rfl ?_
  intro p e s m args9 below meth c s₁ B hml hxt hv
  obtain ⟨rfl, hW, hKV⟩ := hv
  have hts := atoms_spec (ws := Cond.codeWith y g.2.1 g.2.2.1 g.2.2.2.1 g.2.2.2.2.2 :: TB) B.pre
  rw [lg_entry_eq]
  exact k x M9 hF p e s m _ below meth c s.heap [] _ ⟨B.exec, B.bytes, B.returns, hml, by rw [hg.1]; exact findClass_of_methodNamed B.named, fun w hw => hts w (List.mem_cons_of_mem _ hw), B.notSynchronized, Or.inl (by rw [hg.2]; exact (name_of_methodNamed B.named B.method).1), Or.inl hxt, hKV, hW.2.1⟩ (lv_entry args hlen) hW (Nat.le_refl _) (fun _ h => by cases h)
/-- a call, what goes on behind it, and what the handlers do -/
def bndK {α β : Type} (F : Option ((α ⊕ Nat) × Mem)) (kx : Nat → Mem → Option (β × Mem)) (k : α → Mem → Option (β × Mem)) : Option (β × Mem) := match F with
  | none => none
  | some (.inl x, M) => k x M
  | some (.inr e, M) => kx e M
/-- a handler of the throw k, at this pc -/
abbrev HD (f : Fr) (pc k pcH : Nat) : Prop := ∃ (pre : List ExceptionTableEntry) (x : ExceptionTableEntry) (suf : List ExceptionTableEntry), tableOf f.2.2.2.2.2 = pre ++ x :: suf ∧ covers x pc = true ∧ x.catchType ≠ 0 ∧ x.handlerPc = pcH ∧ Cond.classLink f.1 x.catchType (xcl k) ∈ TB ∧
  (∀ z ∈ pre, z.catchType ≠ 0 ∧ k = 1 ∧ Cond.classLink f.1 z.catchType xnse ∈ TB)
section AWH
variable {ρ α : Type} {l : Launch} {E : Ev} {f : Fr} {R : ρ → Room} {PQ : ρ → Mem → Array Value → State → List Frame → State → Prop} {ct : Nat} {ce sl : Nat} {pc : Nat} {lv : List (Nat × Value)} {M : Mem} {en : α → Option Value} {F1 : Option ((α ⊕ Nat) × Mem)} {F2 : α → Mem → Option (ρ × Mem)} {FX : Nat → Mem → Option (ρ × Mem)} {y : MethodName} {g : Fr} {n idx : Nat} {stk : List Value}
theorem nst_c0 : Cond.castable xnse xnse ∈ nstL := List.mem_of_getElem? (i := nstL.length - 2) rfl
theorem nst_c1 : Cond.castable xiae xiae ∈ nstL := List.mem_of_getElem? (i := nstL.length - 1) rfl
theorem AW.callC (As st : List Value) {o c : Nat} (hm : f.2.2.2.2.2 ≠ [(0, 0, 0, 0)]) (d : decode f.2.1 pc = .ok (.invokevirtual idx, 3)) (hl : Cond.methodLink f.1 idx y ∈ TB) (hy : MBV y g As.length) (hcl : clsL[c]?.map (fun q => q.1) = some y.cls) (hK : K0 o = (0, c)) (hct : o ≤ ct) (hR : ∀ r, okR (R r) n (ce + 1) (sl + 6))
    (hc : AMX l E n ct false y g en (.ref (ad E o) :: As) M F1) (hst : stk = As.reverse ++ .ref (ad E o) :: st) (hW8 : (st.map fun v => v.category).sum ≤ 8)
    (kx : ∀ (k1 : Nat) (M1 : Mem), FX k1 M1 ≠ Option.none → k1 < 2 ∧ ∃ pcH, HD f pc k1 pcH ∧ ∀ q, AW l E f R PQ ct false (ce + 1) (sl + 6) pcH lv [.ref q] M1 (FX k1 M1))
    (k : ∀ x M1, AW l E f R PQ ct false ce sl (pc + 3) lv ((en x).toList ++ st) M1 (F2 x M1)) : AW l E f R PQ ct false ce sl pc lv stk M (bndK F1 FX F2) := by
  intro r M9 hF p e s m args below meth c' H locs ls X hl9 hW hs hL
  cases hF1 : F1 with
  | none => rw [hF1] at hF; cases hF
  | some q =>
    obtain ⟨x | k1, M1⟩ := q
    · rw [hF1] at hF
      have hcb := mkCB (R := R r) (n := n) (mc := 0) (ms := 0) X.ts hy.1 hl ⟨(hR r).1, (hR r).2.1⟩
      refine W.afterRun (va_runV (C := y.cls) (As := As) (rest := st) X.fix (hc.1 x M1 hF1) ⟨hcb, X.ts _ hy.2.1, X.ts _ hy.2.2⟩ ⟨PcW_blind, Wd_recv hW X.kv hK hct hcl, fun U hU hWm => ⟨rfl, by rw [hU]; exact hW, KV.warm hWm X.kv⟩⟩ rfl rfl hl9.1 hst (lv_room hW8) d ⟨Nat.le_trans (Nat.le_succ _) (hR r).2.2.1, Nat.le_trans (Nat.le_add_right _ 6) (hR r).2.2.2⟩) hL fun H1 locs1 w1 w2 w3 => ?_
      exact k x M1 r M9 hF p e s m args below meth c' H1 locs1 ls X hl9 w1 (Nat.le_trans hs w2) w3
    · rw [hF1] at hF
      have hF' : FX k1 M1 = some (r, M9) := hF
      obtain ⟨hk2, pcH, ⟨pre, x, suf, e1, e2, e3, e4, e5, e6⟩, hwalk⟩ := kx k1 M1 (by rw [hF']; intro h; cases h)
      have hcb := mkCB (R := R r) (n := n) (mc := 1) (ms := 6) X.ts hy.1 hl ⟨(hR r).1, (hR r).2.1⟩
      refine W.afterThrow (vx_runV (C := y.cls) (As := As) (rest := st) X.fix (hc.2 k1 M1 hF1) ⟨hcb, X.ts _ hy.2.1, X.ts _ hy.2.2⟩ ⟨PcW_blind, Wd_recv hW X.kv hK hct hcl, fun U hU hWm => ⟨rfl, by rw [hU]; exact hW, KV.warm hWm X.kv⟩⟩ rfl rfl hl9.1 hst (lv_room hW8) d ⟨(hR r).2.2.1, (hR r).2.2.2⟩) hL ?_
      intro H1 locs1 q cls ce1 st9 t9 h0 h1 hx hc1 hc2 hc3 hL1
      obtain ⟨hcls, hWd, hz⟩ := hx
      subst hcls
      rw [h1] at hWd
      have hz1 : H.size ≤ H1.size := by
        have := hz.1
        rw [h0, h1] at this
        exact this
      have hcast : va_Nw (.castable (xcl k1) (xcl k1)) s := by
        have h01 : k1 = 0 ∨ k1 = 1 := by omega
        rcases h01 with rfl | rfl
        · exact X.kv.2.2.2.1 _ nst_c0
        · exact X.kv.2.2.2.1 _ nst_c1
      refine vx_catch (E := xcl k1) (name := xcl k1) (own := f.1) X.own pre x suf ((X.xtW hm).trans e1) (fun z hz9 => ?_) e2 e3 (X.ts _ e5) (va_Nw.use rfl hcast) hc1 hc2 hc3 ?_
      · obtain ⟨z1, z2, z3⟩ := e6 z hz9
        subst z2
        exact Or.inr ⟨z1, xnse, X.ts _ z3, X.kv.2.2.2.2.2.2.2.1.1⟩
      · rw [e4]
        exact hwalk q r M9 hF' p e s m args below meth c' H1 locs1 ls X hl9 hWd (Nat.le_trans hs hz1) hL1
end AWH
/-! ===== the law's own rows ===== -/
def LHyp (E : Ev) (b L : Nat) (xs : Nat → Int32) (s : State) (args : Array Value) : Prop := args = #[Value.ref b] ∧ va_X b L xs s s.heap ∧ b < s.heap.size ∧ s.heap = eH E
/-- what is proved of the law: when it has come to 1, what Z says -/
def PQL (Z : List Frame → Array Value → State → State → Prop) (E : Ev) (b L : Nat) (xs : Nat → Int32) : Int32 → Mem → Array Value → State → List Frame → State → Prop := fun r _ args s below t => LHyp E b L xs s args → r = 1 → Z below args s t
def MBW (y : MethodName) (g : Fr) (na : Nat) : Prop := Cond.codeWith y g.2.1 g.2.2.1 g.2.2.2.1 g.2.2.2.2.2 ∈ TB ∧ Cond.initialized y.cls ∈ TB ∧ (y.cls ≠ "java/lang/invoke/MethodHandle" ∧ y.cls ≠ "java/lang/invoke/VarHandle") ∧ (parseMethodDescriptor y.desc).map (fun d => d.parameters.length) = some na ∧ g.2.2.1 ≤ 21 ∧ Cond.static y ∈ TB
theorem W.triv {p : Program} {l : Launch} {e : Env} {R : Room} {s : State} {m : MethodId} {args : Array Value} {below : List Frame} {meth : Method} {c : Code} {H : Heap} {locs : List Loc} {ce sl : Nat} {Q : State → Prop} {g : JFrame} (h : ∀ t, Q t) : W p l e R s m args below meth c H locs ce sl Q g := fun T _ _ => ⟨T.setTop g, Steps.refl _, h _⟩
section AWL
variable {Z : List Frame → Array Value → State → State → Prop} {l : Launch} {E : Ev} {f : Fr} {b L : Nat} {xs : Nat → Int32} {ct : Nat} {ex : Bool} {ce sl : Nat} {pc : Nat} {lv : List (Nat × Value)} {st : List Value} {M : Mem} {F : Option (Int32 × Mem)}
theorem AW.slen (d : decode f.2.1 pc = .ok (.arraylength, 1)) (kk : AW l E f (fun _ => room_1) (PQL Z E b L xs) ct ex ce sl (pc + 1) lv (.int (Int32.ofNat L) :: st) M F) : AW l E f (fun _ => room_1) (PQL Z E b L xs) ct ex ce sl pc lv (.ref b :: st) M F := by
  intro r M9 hF p e s m args below meth c' H locs ls X hl hW hs hL
  by_cases hh : LHyp E b L xs s args
  · obtain ⟨-, ⟨scr, h1, h2, h3, h4, h5⟩, hbl, hE⟩ := id hh
    exact W.alen (n := Int32.ofNat L) X.1 X.2.1 (by rw [hW.2.1.2 b (by rw [← hE]; exact hbl), ← hE]; exact h1) h2 (by rw [h4] <;> rfl) rfl rfl d (kk r M9 hF p e s m args below meth c' H locs ls X hl hW hs hL)
  · exact W.triv fun t h => absurd h hh
theorem AW.sld {i : Int32} (d : decode f.2.1 pc = .ok (.iaload, 1)) (hi : inb i L = true) (kk : AW l E f (fun _ => room_1) (PQL Z E b L xs) ct ex ce sl (pc + 1) lv (.int (xs i.toNatClampNeg) :: st) M F) : AW l E f (fun _ => room_1) (PQL Z E b L xs) ct ex ce sl pc lv (.int i :: .ref b :: st) M F := by
  intro r M9 hF p e s m args below meth c' H locs ls X hl hW hs hL
  by_cases hh : LHyp E b L xs s args
  · obtain ⟨-, ⟨scr, h1, h2, h3, h4, h5⟩, hbl, hE⟩ := id hh
    have hin := inb_vp hi
    have hlt : i.toNatClampNeg < L := Nat.not_le.mp fun q => hin (Or.inr q)
    exact W.iald (v := .int (xs i.toNatClampNeg)) X.1 X.2.1 (by rw [hW.2.1.2 b (by rw [← hE]; exact hbl), ← hE]; exact h1) h2 h3 (by rw [h4]; exact hin) (h5 _ hlt) rfl rfl d (kk r M9 hF p e s m args below meth c' H locs ls X hl hW hs hL)
  · exact W.triv fun t h => absurd h hh
theorem AW.lend0 {r0 : Int32} (h : r0 ≠ 1) : AW l E f (fun _ => room_1) (PQL Z E b L xs) ct ex ce sl pc lv st M (some (r0, M)) := by
  intro r M9 hF p e s m args below meth c' H locs ls X hl hW hs hL
  cases hF
  exact W.triv fun t _ h1 => absurd h1 h
/-- the end's own law, as the skeleton has it -/
def LEnd (l : Launch) (Z : List Frame → Array Value → State → State → Prop) : Prop := ∀ {p : Program} {e : Env} {s : State} {m : MethodId} {below : List Frame} {meth : Method} {c : Code} {b : Nat}, p.tables.exec = Jvm.exec → c.code = code → meth.sig.returnType = ret → meth.locks = false → ∀ {pc : Nat} {H : Heap} {ls : Array Slot}, decode code pc = .ok (.ireturn, 1) → W p l e room_1 s m #[Value.ref b] below meth c H [] 601024 7293034 (Z below #[Value.ref b] s) (F0 m pc ls [.int 1])
theorem AW.lend1 (hZ : LEnd l Z) (hcode : f.2.1 = code) (hret : f.2.2.2.1 = ret) (d : decode f.2.1 pc = .ok (.ireturn, 1)) (hc : ce ≤ 601024) (hsl : sl ≤ 7293034) : AW l E f (fun _ => room_1) (PQL Z E b L xs) ct ex ce sl pc lv [.int 1] M (some (1, M)) := by
  intro r M9 hF p e s m args below meth c' H locs ls X hl hW hs hL
  cases hF
  by_cases hh : LHyp E b L xs s args
  · obtain ⟨rfl, -, -, hE⟩ := id hh
    refine va_forget (fun q hq => by rw [hE]; exact hL q hq) (W.widen hc hsl ?_)
    have h := hZ (p := p) (e := e) (s := s) (m := m) (below := below) (meth := meth) (c := c') (b := b) X.1 (X.2.1.trans hcode) (X.2.2.1.trans hret) X.locks (pc := pc) (H := H) (ls := ls) (by rw [← hcode]; exact d)
    intro T hT X9
    obtain ⟨t, a1, b1⟩ := h T hT X9
    exact ⟨t, a1, fun _ _ => b1⟩
  · exact W.triv fun t h => absurd h hh
end AWL
section AWX2
variable {ρ : Type} {l : Launch} {E : Ev} {f : Fr} {R : ρ → Room} {PQ : ρ → Mem → Array Value → State → List Frame → State → Prop} {ct : Nat} {ce ce9 sl sl9 : Nat} {ex : Bool} {pc : Nat} {lv : List (Nat × Value)} {st stk : List Value} {M : Mem} {F : Option (ρ × Mem)} {F1 : Option (Int32 × Mem)} {F2 : Int32 → Mem → Option (ρ × Mem)} {y : MethodName} {g : Fr} {n idx : Nat}
theorem AW.exf (k : AW l E f R PQ ct false ce sl pc lv st M F) : AW l E f R PQ ct true ce sl pc lv st M F := fun r M9 hF p e s m args below meth c H locs ls X hl hW hs hL => k r M9 hF p e s m args below meth c H locs ls X hl ⟨hW.1, hW.2.1, fun h => by cases h⟩ hs hL
theorem AW.wide (h1 : ce ≤ ce9) (h2 : sl ≤ sl9) (k : AW l E f R PQ ct ex ce9 sl9 pc lv st M F) : AW l E f R PQ ct ex ce sl pc lv st M F := fun r M9 hF p e s m args below meth c H locs ls X hl hW hs hL => W.widen h1 h2 (k r M9 hF p e s m args below meth c H locs ls X hl hW hs hL)
theorem AW.callW (As st : List Value) (d : decode f.2.1 pc = .ok (.invokestatic idx, 3)) (hl : Cond.methodLink f.1 idx y ∈ TB) (hy : MBW y g As.length) (h1 : ce + 1 = ce9) (h2 : sl + 6 = sl9) (hR : ∀ r, okR (R r) n ce9 sl9)
    (hc : AMW l E n ct y g enI As M F1) (hst : stk = As.reverse ++ st) (hW8 : (st.map fun v => v.category).sum ≤ 8)
    (k : ∀ x M1, AW l E f R PQ ct false ce9 sl9 (pc + 3) lv (.int x :: st) M1 (F2 x M1)) : AW l E f R PQ ct false ce sl pc lv stk M (bnd F1 F2) := by
  intro r M9 hF p e s m args below meth c' H locs ls X hl9 hW hs hL
  subst h1; subst h2
  cases hF1 : F1 with
  | none => rw [hF1] at hF; cases hF
  | some q =>
    obtain ⟨x, M1⟩ := q
    rw [hF1] at hF
    have hR9 := hR r
    have h21 := hy.2.2.2.2.1
    have hgood : GoodIn TB (Cond.codeWith y g.2.1 g.2.2.1 g.2.2.2.1 g.2.2.2.2.2 :: TB) := tb_GoodIn fun w hw => by
      rcases List.mem_cons.mp hw with rfl | hw
      · exact hy.1
      · exact hw
    have hcw : vx_CSW (R r) s args f.1 idx y g.2.1 g.2.2.1 g.2.2.2.1 g.2.2.2.2.2 (Cond.codeWith y g.2.1 g.2.2.1 g.2.2.2.1 g.2.2.2.2.2 :: TB) (rmN n 1 6) 1 6 As.length :=
      ⟨⟨rfl, rfl, hR9.1, by show 8 + (g.2.2.1 + 11) + 40 * n ≤ (R r).locals; have := hR9.2.1; omega, pay_in X.ts hgood, List.mem_cons_self⟩, X.ts _ hy.1, X.ts _ hy.2.1, hy.2.2.1, fun sig hs9 => by
        have h3 := hy.2.2.2.1
        rw [hs9] at h3
        exact (Option.some.inj h3).symm, X.ts _ hl, X.ts _ hy.2.2.2.2.2⟩
    refine W.afterRun (vx_runSW (As := As) (rest := st) X.fix (hc x M1 hF1) hcw ⟨PcW_blind, fun U hU hWm => ⟨rfl, by rw [hU]; exact hW, KV.warm hWm X.kv⟩⟩ rfl rfl hl9.1 hst (lv_room hW8) d ⟨hR9.2.2.1, hR9.2.2.2⟩) hL fun H1 locs1 w1 w2 w3 => ?_
    exact k x M1 r M9 hF p e s m args below meth c' H1 locs1 ls X hl9 w1 (Nat.le_trans hs w2) w3
end AWX2
theorem okR_L {n ce sl : Nat} (h : n ≤ 1000) (h1 : ce ≤ 601024) (h2 : sl ≤ 7293034) : okR room_1 n ce sl := ⟨by show n + 1 ≤ 2048; omega, by show 40 * n + 40 ≤ 84000; omega, h1, h2⟩
/-- how often the law's loop turns at most -/
def LF : Nat := 513
