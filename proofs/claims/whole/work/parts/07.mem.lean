/-! ===== rows of the abstract walk over the memory ===== -/
/-- a field as an instruction links it: of class c, its k-th, of a type, final or not -/
def FLk (own : String) (idx c k ty : Nat) (fin : Bool) : Prop := ∃ q : vw_C, clsL[c]? = some q ∧ k < q.2.2 ∧ Cond.fieldLink own idx (q.2.1 k).1 (q.2.1 k).2.1 (q.2.1 k).2.2.1 ∈ TB ∧ (FT c)[k]? = some ty ∧ (q.2.1 k).2.2.2 = fin
theorem Fx.ts {l : Launch} {E : Ev} {f : Fr} {p : Program} {s : State} {m : MethodId} {args : Array Value} {meth : Method} {c : Code} (X : Fx l E f p s m args meth c) : ∀ w ∈ TB, w.before args s = true := X.2.2.2.2.2.1
theorem Fx.own {l : Launch} {E : Ev} {f : Fr} {p : Program} {s : State} {m : MethodId} {args : Array Value} {meth : Method} {c : Code} (X : Fx l E f p s m args meth c) : s.vm.findClass f.1 = some m.cls := X.2.2.2.2.1
theorem Fx.kv {l : Launch} {E : Ev} {f : Fr} {p : Program} {s : State} {m : MethodId} {args : Array Value} {meth : Method} {c : Code} (X : Fx l E f p s m args meth c) : KV E s := X.2.2.2.2.2.2.2.2.2.1
theorem Fx.old {l : Launch} {E : Ev} {f : Fr} {p : Program} {s : State} {m : MethodId} {args : Array Value} {meth : Method} {c : Code} (X : Fx l E f p s m args meth c) : Old E s.heap := X.2.2.2.2.2.2.2.2.2.2
theorem Fx.locks {l : Launch} {E : Ev} {f : Fr} {p : Program} {s : State} {m : MethodId} {args : Array Value} {meth : Method} {c : Code} (X : Fx l E f p s m args meth c) : meth.locks = false := X.2.2.2.2.2.2.1
theorem Fx.nm9 {l : Launch} {E : Ev} {f : Fr} {p : Program} {s : State} {m : MethodId} {args : Array Value} {meth : Method} {c : Code} (X : Fx l E f p s m args meth c) (h : f.2.2.2.2.1 = "<init>") : meth.name = "<init>" := by
  rcases X.2.2.2.2.2.2.2.1 with h1 | h1
  · rw [h1, h]
  · rw [h] at h1
    exact absurd h1 (by decide)
theorem Fx.xt9 {l : Launch} {E : Ev} {f : Fr} {p : Program} {s : State} {m : MethodId} {args : Array Value} {meth : Method} {c : Code} (X : Fx l E f p s m args meth c) (h : f.2.2.2.2.2 = []) : c.exceptionTable.toList = [] := by
  rcases X.2.2.2.2.2.2.2.2.1 with h1 | h1
  · rw [h1, h]
    rfl
  · rw [h] at h1
    cases h1
theorem Fx.xtW {l : Launch} {E : Ev} {f : Fr} {p : Program} {s : State} {m : MethodId} {args : Array Value} {meth : Method} {c : Code} (X : Fx l E f p s m args meth c) (h : f.2.2.2.2.2 ≠ [(0, 0, 0, 0)]) : c.exceptionTable.toList = tableOf f.2.2.2.2.2 := by
  rcases X.2.2.2.2.2.2.2.2.1 with h1 | h1
  · exact h1
  · exact absurd h1 h
theorem ne9 {t n : Nat} (h : (t == 9) = false) : ((t, n) : Nat × Nat).1 ≠ 9 := fun e => by
  have e' : t = 9 := e
  rw [e'] at h
  cases h
theorem wsO_at {E : Ev} {ct : Nat} {M : Mem} {o : Nat} {q : Nat × Nat} (hK : K0 o = q) (h9 : q.1 ≠ 9) (hct : o ≤ ct) : (wsO E ct M)[o - 1]? = some (ad E o, ent E M o) := by
  obtain ⟨h1, h2⟩ := K0_le hK h9
  rw [ad_lt (by omega)]
  exact wsO_get h2 hct
theorem Old.put {E : Ev} {H H1 : Heap} {a : Nat} (h : Old E H) (z : H1.size = H.size) (oq : ∀ q : Nat, q ≠ a → H1[q]? = H[q]?) (ha : AE E a) : Old E H1 := by
  refine ⟨by rw [z]; exact h.1, fun q hq => ?_⟩
  rw [oq q (fun e => by subst e; exact Nat.lt_irrefl _ (Nat.lt_of_lt_of_le hq ha))]
  exact h.2 q hq
theorem ad_AE {E : Ev} {o : Nat} {q : Nat × Nat} (hK : K0 o = q) (h9 : q.1 ≠ 9) : AE E (ad E o) := by
  obtain ⟨h1, h2⟩ := K0_le hK h9
  rw [ad_lt (by omega)]
  exact Nat.le_add_right _ _
/-- behind a store into the object o -/
theorem Wd.put {E : Ev} {ct : Nat} {ex : Bool} {M M2 : Mem} {H H1 : Heap} {o : Nat} {q : Nat × Nat} (hK : K0 o = q) (h9 : q.1 ≠ 9) (hct : o ≤ ct) (h : Wd E ct ex M H) (he : va_at (eC E, eI E) clsL (ad E o, ent E M2 o) H1) (hk : ∀ j, j ≠ o → ent E M2 j = ent E M j) (z : H1.size = H.size) (oq : ∀ q : Nat, q ≠ ad E o → H1[q]? = H[q]?) : Wd E ct ex M2 H1 := by
  obtain ⟨h1, h2⟩ := K0_le hK h9
  refine ⟨?_, h.2.1.put z oq (ad_AE hK h9), fun hx => by rw [z]; exact h.2.2 hx⟩
  have a1 := h.1.set (wsO_D (M := M)) (wsO_at hK h9 hct) he oq
  rw [ad_lt (by omega)] at a1
  rw [wsO_set h2 hct rfl hk] at a1
  exact a1
theorem locs_put {E : Ev} {locs : List Loc} {a i : Nat} (h : ∀ q ∈ locs, AE E q.base) (ha : AE E a) : ∀ q ∈ locs ++ [⟨a, i⟩], AE E q.base := by
  intro q hq
  rcases List.mem_append.mp hq with h1 | h1
  · exact h q h1
  · rw [List.mem_singleton.mp h1]
    exact ha
section AWM
variable {ρ : Type} {l : Launch} {E : Ev} {f : Fr} {R : ρ → Room} {PQ : ρ → Mem → Array Value → State → List Frame → State → Prop} {ct : Nat} {ex : Bool} {ce sl : Nat} {pc : Nat} {lv : List (Nat × Value)} {st : List Value} {M : Mem} {F : Option (ρ × Mem)}
theorem AW.getf {idx c k ty o : Nat} {fin : Bool} {v : Value} (d : decode f.2.1 pc = .ok (.getfield idx, 3)) (hfl : FLk f.1 idx c k ty fin) (hK : K0 o = (0, c)) (hct : o ≤ ct) (hv : fval E M o ty k = v)
    (kk : AW l E f R PQ ct ex ce sl (pc + 3) lv (v :: st) M F) : AW l E f R PQ ct ex ce sl pc lv (.ref (ad E o) :: st) M F := by
  intro r M9 hF p e s m args below meth c H locs ls X hl hW hs hL
  obtain ⟨q, hq, hk, hlk, hft, -⟩ := hfl
  have he := wsO_at (E := E) (M := M) hK (ne9 rfl) hct
  rw [ent_obj hK] at he
  exact va_get X.1 X.2.1 X.ts (cls_ws hq) X.own X.kv.1 hW.1 (o - 1) he hq k hk (X.ts _ hlk) (fun x h => h) (by rw [flds_get hft, hv]) d (kk r M9 hF p e s m args below meth c H locs ls X hl hW hs hL)
theorem AW.getI {idx c k o : Nat} {fin : Bool} (d : decode f.2.1 pc = .ok (.getfield idx, 3)) (hfl : FLk f.1 idx c k 0 fin) (hK : K0 o = (0, c)) (hct : o ≤ ct) (kk : AW l E f R PQ ct ex ce sl (pc + 3) lv (.int (mI M o k) :: st) M F) : AW l E f R PQ ct ex ce sl pc lv (.ref (ad E o) :: st) M F := AW.getf d hfl hK hct rfl kk
theorem AW.getZ {idx c k o : Nat} {fin : Bool} (d : decode f.2.1 pc = .ok (.getfield idx, 3)) (hfl : FLk f.1 idx c k 3 fin) (hK : K0 o = (0, c)) (hct : o ≤ ct) (kk : AW l E f R PQ ct ex ce sl (pc + 3) lv (.int (mI M o k) :: st) M F) : AW l E f R PQ ct ex ce sl pc lv (.ref (ad E o) :: st) M F := AW.getf d hfl hK hct rfl kk
theorem AW.getL {idx c k o : Nat} {fin : Bool} (d : decode f.2.1 pc = .ok (.getfield idx, 3)) (hfl : FLk f.1 idx c k 1 fin) (hK : K0 o = (0, c)) (hct : o ≤ ct) (kk : AW l E f R PQ ct ex ce sl (pc + 3) lv (.long (mL M o k) :: st) M F) : AW l E f R PQ ct ex ce sl pc lv (.ref (ad E o) :: st) M F := AW.getf d hfl hK hct rfl kk
theorem AW.getR {idx c k o : Nat} {fin : Bool} (d : decode f.2.1 pc = .ok (.getfield idx, 3)) (hfl : FLk f.1 idx c k 2 fin) (hK : K0 o = (0, c)) (hct : o ≤ ct) (hn : mR M o k ≠ 0) (kk : AW l E f R PQ ct ex ce sl (pc + 3) lv (.ref (ad E (mR M o k)) :: st) M F) : AW l E f R PQ ct ex ce sl pc lv (.ref (ad E o) :: st) M F :=
  AW.getf d hfl hK hct (by show va_rf (rfv E (mR M o k)) = _; rw [rfv, if_neg hn]; rfl) kk
/-- a store into a field; final fields in their own class's constructor -/
theorem AW.putf {idx c k t o : Nat} {fin : Bool} {v : Value} {M2 : Mem} (d : decode f.2.1 pc = .ok (.putfield idx, 3)) (hfl : FLk f.1 idx c k t fin) (hfin : fin = true → f.2.2.2.2.1 = "<init>" ∧ clsL[c]?.map (fun q => (q.2.1 k).1) = some f.1) (hK : K0 o = (0, c)) (hct : o ≤ ct)
    (hty : ∀ ty : FieldType, (t = 0 → ty = .int) → (t = 1 → ty = .long) → (t = 3 → ty = .boolean) → (t = 2 → ty.isReference = true) → narrow ty v = v ∧ fits ty v = true)
    (hset : (flds E M o c).set k v = flds E M2 o c) (hoth : ∀ j, j ≠ o → ent E M2 j = ent E M j)
    (kk : AW l E f R PQ ct ex ce sl (pc + 3) lv st M2 F) : AW l E f R PQ ct ex ce sl pc lv (v :: .ref (ad E o) :: st) M F := by
  intro r M9 hF p e s m args below meth c' H locs ls X hl hW hs hL
  obtain ⟨q, hq, hk, hlk, hft, hfi⟩ := hfl
  have he := wsO_at (E := E) (M := M) hK (ne9 rfl) hct
  have hee := ent_obj (E := E) (M := M2) hK
  rw [ent_obj hK] at he
  obtain ⟨hws, ⟨tyf, htyf⟩, hnm, hlen, hall⟩ := cls_all c q hq
  obtain ⟨C, T, N⟩ := q
  have hap := va_apart (own := C) X.ts (cls_ws hq) tyf htyf hnm X.kv.1 hq
  obtain ⟨r0, h1, cell, q1, q2, q3, q4⟩ := hW.1 (o - 1) _ he
  have hr : r0 = (C, T, N) := Option.some.inj (h1.symm.trans hq)
  subst hr
  obtain ⟨hS, hfc, kC, hkC, hkind⟩ := X.kv.1.1 c _ hq
  obtain ⟨cf, kf, fi, fd, hi, hsl⟩ := hS k hk
  have hst := (u_facts hfc hkC (u_lays X.ts (cls_ws hq) hk) hi).1
  have htt : ∃ ty : FieldType, parseFieldDescriptor (T k).2.2.1 = some ty ∧ narrow ty v = v ∧ fits ty v = true := by
    have hg : (FT c).getD k 0 = t := by simp [List.getD_eq_getElem?_getD, hft]
    have h9 := hall k hk
    rw [hg] at h9
    rcases h9 with ⟨a, b⟩ | ⟨a, b⟩ | ⟨a, b⟩ | ⟨a, b⟩
    · exact ⟨_, a, hty _ (fun _ => rfl) (fun z => by omega) (fun z => by omega) (fun z => by omega)⟩
    · exact ⟨_, a, hty _ (fun z => by omega) (fun _ => rfl) (fun z => by omega) (fun z => by omega)⟩
    · exact ⟨_, a, hty _ (fun z => by omega) (fun z => by omega) (fun _ => rfl) (fun z => by omega)⟩
    · cases hp : parseFieldDescriptor (T k).2.2.1 with
      | none =>
        have a' : (parseFieldDescriptor (T k).2.2.1).any FieldType.isReference = true := a
        rw [hp] at a'
        exact Bool.noConfusion a'
      | some ty =>
        have a' : (parseFieldDescriptor (T k).2.2.1).any FieldType.isReference = true := a
        rw [hp] at a'
        exact ⟨ty, rfl, hty ty (fun z => by omega) (fun z => by omega) (fun z => by omega) (fun _ => a')⟩
  obtain ⟨ty, hd, hn, hfit⟩ := htt
  have hlen2 : k < (flds E M o c).length := by rw [flds_len]; rw [hlen]; exact hk
  have hfin9 : ∀ (H' : Heap), H'[ad E o]? = some (cell.setSlot fd.slot v) → H'.size = H.size → (∀ q : Nat, q ≠ ad E o → H'[q]? = H[q]?) →
      W p l e (R r) s m args below meth c' H' (locs ++ [⟨ad E o, fd.slot⟩]) ce sl (PQ r M9 args s below) (F0 m (pc + 3) ls st) := by
    intro H' e1 e2 e3
    rw [hsl] at e1
    refine kk r M9 hF p e s m args below meth c' H' _ ls X hl (hW.put (M2 := M2) hK (ne9 rfl) hct ?_ hoth e2 e3) (by rw [e2]; exact hs) (locs_put hL (ad_AE hK (ne9 rfl)))
    rw [hee, ← hset]
    exact ⟨_, hq, t_OB.to (V := updV (vp_V (flds E M o c)) k v) ⟨_, e1, q2, q3, t_set q4 hap hk v⟩ (fun j _ => vp_updV_set hlen2 v j)⟩
  cases fin with
  | false =>
    have hlay := X.ts _ (cls_ws hq _ (u_in_lay hk))
    unfold u_lay at hlay
    rw [if_neg (by rw [hfi]; decide)] at hlay
    have h6 := u_store hfc hkC hkind hlay hi hd hn hfit
    exact W.putK X.1 X.2.1 (f := fd) ⟨X.own, X.ts _ hlk, ⟨_, _, _, hi⟩, hst⟩ (by rw [q2]; exact h6) q1 q3 (by rw [hsl]; exact k2_hasslot (q4 k hk)) rfl rfl d hfin9
  | true =>
    obtain ⟨hin, hdecl⟩ := hfin rfl
    have hlay := X.ts _ (cls_ws hq _ (u_in_lay hk))
    unfold u_lay at hlay
    rw [if_pos hfi] at hlay
    have hdecl' : (T k).1 = f.1 := by
      rw [hq] at hdecl
      exact Option.some.inj hdecl
    have hcf : m.cls = cf := by
      obtain ⟨_, _, c2, _, _, _, -, -, hf', -, -, -, hown2, -⟩ := Cond.laysFinal_spec hlay
      have e1 : c2 = cf := by have := hi.symm.trans hf'; simp at this; exact this.1.symm
      rw [hdecl'] at hown2
      rw [← e1]; exact Option.some.inj (X.own.symm.trans hown2)
    have h6 := u_fits hfc hkC hkind (Or.inr hlay) hi hd hn hfit
    exact W.putFinK X.1 X.2.1 X.own (X.ts _ hlk) hi hst hcf (X.nm9 hin) (by rw [q2]; exact h6) q1 q3 (by rw [hsl]; exact k2_hasslot (q4 k hk)) rfl rfl d hfin9
theorem AW.putI {idx c k o : Nat} {v : Int32} (d : decode f.2.1 pc = .ok (.putfield idx, 3)) (hfl : FLk f.1 idx c k 0 false) (hK : K0 o = (0, c)) (hct : o ≤ ct)
    (kk : AW l E f R PQ ct ex ce sl (pc + 3) lv st (sI M o k v) F) : AW l E f R PQ ct ex ce sl pc lv (.int v :: .ref (ad E o) :: st) M F :=
  AW.putf d hfl (fun h => by cases h) hK hct (fun ty h0 _ _ _ => by rw [h0 rfl]; exact ⟨rfl, rfl⟩) (flds_sI (by obtain ⟨q, -, -, -, h, -⟩ := hfl; exact h) (Or.inl rfl)) (fun j hj => ent_sI hj) kk
theorem AW.putZ {idx c k o : Nat} {v : Int32} (d : decode f.2.1 pc = .ok (.putfield idx, 3)) (hfl : FLk f.1 idx c k 3 false) (hK : K0 o = (0, c)) (hct : o ≤ ct) (hv : v = 0 ∨ v = 1)
    (kk : AW l E f R PQ ct ex ce sl (pc + 3) lv st (sI M o k v) F) : AW l E f R PQ ct ex ce sl pc lv (.int v :: .ref (ad E o) :: st) M F :=
  AW.putf d hfl (fun h => by cases h) hK hct (fun ty _ _ h0 _ => by rw [h0 rfl]; rcases hv with rfl | rfl <;> exact ⟨rfl, rfl⟩) (flds_sI (by obtain ⟨q, -, -, -, h, -⟩ := hfl; exact h) (Or.inr rfl)) (fun j hj => ent_sI hj) kk
theorem AW.putL {idx c k o : Nat} {v : Int64} (d : decode f.2.1 pc = .ok (.putfield idx, 3)) (hfl : FLk f.1 idx c k 1 false) (hK : K0 o = (0, c)) (hct : o ≤ ct)
    (kk : AW l E f R PQ ct ex ce sl (pc + 3) lv st (sL M o k v) F) : AW l E f R PQ ct ex ce sl pc lv (.long v :: .ref (ad E o) :: st) M F :=
  AW.putf d hfl (fun h => by cases h) hK hct (fun ty _ h0 _ _ => by rw [h0 rfl]; exact ⟨rfl, rfl⟩) (flds_sL (by obtain ⟨q, -, -, -, h, -⟩ := hfl; exact h)) (fun j hj => ent_sL hj) kk
theorem ref_fits {ty : FieldType} {a : Nat} (h : ty.isReference = true) : narrow ty (.ref a) = .ref a ∧ fits ty (.ref a) = true := by
  cases ty <;> first | exact ⟨rfl, rfl⟩ | exact Bool.noConfusion h
theorem AW.putR {idx c k o v : Nat} {fin : Bool} (d : decode f.2.1 pc = .ok (.putfield idx, 3)) (hfl : FLk f.1 idx c k 2 fin) (hfin : fin = true → f.2.2.2.2.1 = "<init>" ∧ clsL[c]?.map (fun q => (q.2.1 k).1) = some f.1) (hK : K0 o = (0, c)) (hct : o ≤ ct) (hv : v ≠ 0)
    (kk : AW l E f R PQ ct ex ce sl (pc + 3) lv st (sR M o k v) F) : AW l E f R PQ ct ex ce sl pc lv (.ref (ad E v) :: .ref (ad E o) :: st) M F :=
  AW.putf d hfl hfin hK hct (fun ty _ _ _ h0 => ref_fits (h0 rfl)) (flds_sR (by obtain ⟨q, -, -, -, h, -⟩ := hfl; exact h) hv) (fun j hj => ent_sR hj) kk
/-! arrays -/
theorem AW.alen {o t n : Nat} {v : Int32} (d : decode f.2.1 pc = .ok (.arraylength, 1)) (hK : K0 o = (t, n)) (ht : t = 1 ∨ t = 2 ∨ t = 3 ∨ t = 4) (hct : o ≤ ct) (hv : Int32.ofNat n = v)
    (kk : AW l E f R PQ ct ex ce sl (pc + 1) lv (.int v :: st) M F) : AW l E f R PQ ct ex ce sl pc lv (.ref (ad E o) :: st) M F := by
  intro r M9 hF p e s m args below meth c H locs ls X hl hW hs hL
  have h9 : (t, n).1 ≠ 9 := by rcases ht with rfl | rfl | rfl | rfl <;> exact ne9 rfl
  have he := wsO_at (E := E) (M := M) hK h9 hct
  have k9 := kk r M9 hF p e s m args below meth c H locs ls X hl hW hs hL
  rcases ht with rfl | rfl | rfl | rfl
  · rw [ent_int hK] at he
    exact va_alen X.1 X.2.1 X.kv.1 hW.1 (o - 1) 0 he rfl hv d k9
  · rw [ent_long hK] at he
    exact va_alen X.1 X.2.1 X.kv.1 hW.1 (o - 1) 1 he rfl hv d k9
  · rw [ent_bool hK] at he
    exact va_alen X.1 X.2.1 X.kv.1 hW.1 (o - 1) 2 he rfl hv d k9
  · rw [ent_str hK] at he
    exact va_alen X.1 X.2.1 X.kv.1 hW.1 (o - 1) 3 he rfl hv d k9
def inb (i : Int32) (n : Nat) : Bool := decide (¬ (i < 0 ∨ n ≤ i.toNatClampNeg))
theorem inb_vp {i : Int32} {n : Nat} (h : inb i n = true) : vp_in i n := by
  have h1 : ¬ (i < 0 ∨ n ≤ i.toNatClampNeg) := of_decide_eq_true h
  exact h1
theorem AW.iald {o n : Nat} {i : Int32} (d : decode f.2.1 pc = .ok (.iaload, 1)) (hK : K0 o = (1, n)) (hct : o ≤ ct) (hi : inb i n = true)
    (kk : AW l E f R PQ ct ex ce sl (pc + 1) lv (.int (mI M o i.toNatClampNeg) :: st) M F) : AW l E f R PQ ct ex ce sl pc lv (.int i :: .ref (ad E o) :: st) M F := by
  intro r M9 hF p e s m args below meth c H locs ls X hl hW hs hL
  have he := wsO_at (E := E) (M := M) hK (ne9 rfl) hct
  rw [ent_int hK] at he
  exact va_iald X.1 X.2.1 X.kv.1 hW.1 (o - 1) 0 he rfl (inb_vp hi) d (kk r M9 hF p e s m args below meth c H locs ls X hl hW hs hL)
theorem AW.zald {o n : Nat} {i : Int32} (d : decode f.2.1 pc = .ok (.baload, 1)) (hK : K0 o = (3, n)) (hct : o ≤ ct) (hi : inb i n = true)
    (kk : AW l E f R PQ ct ex ce sl (pc + 1) lv (.int (mI M o i.toNatClampNeg) :: st) M F) : AW l E f R PQ ct ex ce sl pc lv (.int i :: .ref (ad E o) :: st) M F := by
  intro r M9 hF p e s m args below meth c H locs ls X hl hW hs hL
  have he := wsO_at (E := E) (M := M) hK (ne9 rfl) hct
  rw [ent_bool hK] at he
  exact va_zald X.1 X.2.1 X.kv.1 hW.1 (o - 1) 2 he rfl (inb_vp hi) d (kk r M9 hF p e s m args below meth c H locs ls X hl hW hs hL)
theorem AW.lald {o n : Nat} {i : Int32} (d : decode f.2.1 pc = .ok (.laload, 1)) (hK : K0 o = (2, n)) (hct : o ≤ ct) (hi : inb i n = true)
    (kk : AW l E f R PQ ct ex ce sl (pc + 1) lv (.long (mL M o i.toNatClampNeg) :: st) M F) : AW l E f R PQ ct ex ce sl pc lv (.int i :: .ref (ad E o) :: st) M F := by
  intro r M9 hF p e s m args below meth c H locs ls X hl hW hs hL
  have he := wsO_at (E := E) (M := M) hK (ne9 rfl) hct
  rw [ent_long hK] at he
  exact va_lald X.1 X.2.1 X.kv.1 hW.1 (o - 1) 1 he rfl (inb_vp hi) d (kk r M9 hF p e s m args below meth c H locs ls X hl hW hs hL)
theorem AW.aald {o n : Nat} {i : Int32} (d : decode f.2.1 pc = .ok (.aaload, 1)) (hK : K0 o = (4, n)) (hct : o ≤ ct) (hi : inb i n = true) (hn : mR M o i.toNatClampNeg ≠ 0)
    (kk : AW l E f R PQ ct ex ce sl (pc + 1) lv (.ref (ad E (mR M o i.toNatClampNeg)) :: st) M F) : AW l E f R PQ ct ex ce sl pc lv (.int i :: .ref (ad E o) :: st) M F := by
  intro r M9 hF p e s m args below meth c H locs ls X hl hW hs hL
  have he := wsO_at (E := E) (M := M) hK (ne9 rfl) hct
  rw [ent_str hK] at he
  refine va_aldq X.1 X.2.1 X.kv.1 hW.1 (o - 1) 3 he rfl (inb_vp hi) d ?_
  rw [show rfv E (mR M o i.toNatClampNeg) = some (ad E (mR M o i.toNatClampNeg)) by rw [rfv, if_neg hn]]
  exact kk r M9 hF p e s m args below meth c H locs ls X hl hW hs hL
theorem AW.iast {o n : Nat} {i x : Int32} (d : decode f.2.1 pc = .ok (.iastore, 1)) (hK : K0 o = (1, n)) (hct : o ≤ ct) (hi : inb i n = true)
    (kk : AW l E f R PQ ct ex ce sl (pc + 1) lv st (sI M o i.toNatClampNeg x) F) : AW l E f R PQ ct ex ce sl pc lv (.int x :: .int i :: .ref (ad E o) :: st) M F := by
  intro r M9 hF p e s m args below meth c H locs ls X hl hW hs hL
  have he := wsO_at (E := E) (M := M) hK (ne9 rfl) hct
  rw [ent_int hK] at he
  refine W.iast X.1 X.2.1 (hW.1 (o - 1) _ he) ((X.kv.1.2 0 _ rfl).1 n (fun j => .int (mI M o j))) (fun q => by cases q) (by show ¬ (i < 0 ∨ (arrV _ _ _).slots.size ≤ _); rw [arrV_size]; exact inb_vp hi) rfl rfl d fun H1 e1 z oq => ?_
  refine kk r M9 hF p e s m args below meth c H1 _ ls X hl (hW.put (M2 := sI M o i.toNatClampNeg x) hK (ne9 rfl) hct ?_ (fun j hj => ent_sI hj) z oq) (by rw [z]; exact hs) (locs_put hL (ad_AE hK (ne9 rfl)))
  rw [ent_int hK, ← mI_upd]
  show H1[ad E o]? = some (vp_cell _ _)
  rw [e1]
  rw [vp_cell_i, vp_cell_i, arrV_store]
  congr 2
  funext q
  by_cases hq : q = i.toNatClampNeg
  · subst hq
    simp [updV, upd]
  · simp [updV, upd, hq]
theorem AW.zast {o n : Nat} {i x : Int32} (d : decode f.2.1 pc = .ok (.bastore, 1)) (hK : K0 o = (3, n)) (hct : o ≤ ct) (hi : inb i n = true)
    (kk : AW l E f R PQ ct ex ce sl (pc + 1) lv st (sI M o i.toNatClampNeg (vp_nar .boolean x)) F) : AW l E f R PQ ct ex ce sl pc lv (.int x :: .int i :: .ref (ad E o) :: st) M F := by
  intro r M9 hF p e s m args below meth c H locs ls X hl hW hs hL
  have he := wsO_at (E := E) (M := M) hK (ne9 rfl) hct
  rw [ent_bool hK] at he
  refine W.zast X.1 X.2.1 (hW.1 (o - 1) _ he) ((X.kv.1.2 2 _ rfl).1 n (fun j => .int (mI M o j))) (fun q => by cases q) (by show ¬ (i < 0 ∨ (arrV _ _ _).slots.size ≤ _); rw [arrV_size]; exact inb_vp hi) rfl rfl d fun H1 e1 z oq => ?_
  refine kk r M9 hF p e s m args below meth c H1 _ ls X hl (hW.put (M2 := sI M o i.toNatClampNeg (vp_nar .boolean x)) hK (ne9 rfl) hct ?_ (fun j hj => ent_sI hj) z oq) (by rw [z]; exact hs) (locs_put hL (ad_AE hK (ne9 rfl)))
  rw [ent_bool hK, ← mI_upd]
  show H1[ad E o]? = some (vp_cell _ _)
  rw [e1]
  rw [vp_cell_i, vp_cell_i, arrV_store]
  congr 2
  funext q
  by_cases hq : q = i.toNatClampNeg
  · subst hq
    simp [updV, upd, vp_nar]
    try rfl
  · simp [updV, upd, hq]
theorem AW.last {o n : Nat} {i : Int32} {x : Int64} (d : decode f.2.1 pc = .ok (.lastore, 1)) (hK : K0 o = (2, n)) (hct : o ≤ ct) (hi : inb i n = true)
    (kk : AW l E f R PQ ct ex ce sl (pc + 1) lv st (sL M o i.toNatClampNeg x) F) : AW l E f R PQ ct ex ce sl pc lv (.long x :: .int i :: .ref (ad E o) :: st) M F := by
  intro r M9 hF p e s m args below meth c H locs ls X hl hW hs hL
  have he := wsO_at (E := E) (M := M) hK (ne9 rfl) hct
  rw [ent_long hK] at he
  refine W.last X.1 X.2.1 (hW.1 (o - 1) _ he) ((X.kv.1.2 1 _ rfl).1 n (fun j => .long (mL M o j))) (fun q => by cases q) (by show ¬ (i < 0 ∨ (arrV _ _ _).slots.size ≤ _); rw [arrV_size]; exact inb_vp hi) rfl rfl d fun H1 e1 z oq => ?_
  refine kk r M9 hF p e s m args below meth c H1 _ ls X hl (hW.put (M2 := sL M o i.toNatClampNeg x) hK (ne9 rfl) hct ?_ (fun j hj => ent_sL hj) z oq) (by rw [z]; exact hs) (locs_put hL (ad_AE hK (ne9 rfl)))
  rw [ent_long hK, ← mL_upd]
  show H1[ad E o]? = some (vp_cell _ _)
  rw [e1]
  rw [vp_cell_l, vp_cell_l, arrV_store]
  congr 2
  funext q
  by_cases hq : q = i.toNatClampNeg
  · subst hq
    simp [updV, vp_updL]
  · simp [updV, vp_updL, hq]
/-- a String constant -/
theorem AW.ldcS {idx i : Nat} {tx : String} (d : decode f.2.1 pc = .ok (.ldc idx, 2)) (hs9 : srL[i]? = some (f.1, idx, tx)) (kk : AW l E f R PQ ct ex ce sl (pc + 2) lv (.ref (ad E (1000 + i)) :: st) M F) : AW l E f R PQ ct ex ce sl pc lv st M F := by
  intro r M9 hF p e s m args below meth c H locs ls X hl hW hs hL
  have h1 := X.kv.2.1 i _ hs9
  have h2 : ad E (1000 + i) = eS E i := by
    unfold ad
    rw [if_neg (Nat.not_lt.mpr (Nat.le_add_right 1000 i)), Nat.add_sub_cancel_left]
  have k9 := kk r M9 hF p e s m args below meth c H locs ls X hl hW hs hL
  rw [h2] at k9
  exact va_ldcS X.1 X.2.1 X.own h1 d k9
end AWM
