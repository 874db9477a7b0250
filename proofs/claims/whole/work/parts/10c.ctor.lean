/-! ===== objects made, constructors ===== -/
def zr (M : Mem) (o : Nat) : Mem := (fun a b => if a = o then 0 else M.1 a b, fun a b => if a = o then 0 else M.2.1 a b, fun a b => if a = o then 0 else M.2.2 a b)
theorem ent_zr {E : Ev} {M : Mem} {o j : Nat} (h : j ≠ o) : ent E (zr M o) j = ent E M j := by
  have e1 : mI (zr M o) j = mI M j := by
    funext a
    simp only [mI, zr]
    rw [if_neg h]
  have e2 : mL (zr M o) j = mL M j := by
    funext a
    simp only [mL, zr]
    rw [if_neg h]
  have e3 : mR (zr M o) j = mR M j := by
    funext a
    simp only [mR, zr]
    rw [if_neg h]
  simp only [ent, entK, entA, flds, fval, e1, e2, e3]
theorem zrI {M : Mem} {o k : Nat} : mI (zr M o) o k = 0 := by simp [mI, zr]
theorem zrL {M : Mem} {o k : Nat} : mL (zr M o) o k = 0 := by simp [mL, zr]
theorem zrR {M : Mem} {o k : Nat} : mR (zr M o) o k = 0 := by simp [mR, zr]
theorem K0_lt {o : Nat} {q : Nat × Nat} (h : K0 o = q) (hq : q.1 ≠ 9) : o < 1000 := by
  have := (K0_le h hq).1
  omega
theorem Wd.size {E : Ev} {ct : Nat} {M : Mem} {H : Heap} (h : Wd E ct true M H) (hl : ct + 1 < 1000) : H.size = ad E (ct + 1) := by
  rw [ad_lt hl, h.2.2 rfl]
  omega
theorem Wd.push {E : Ev} {ct ct' : Nat} {M : Mem} {H H1 : Heap} (h1 : ct + 1 = ct') (hl : ct + 1 < 1000) (hW : Wd E ct true M H) (he : va_at (eC E, eI E) clsL (ad E (ct + 1), ent E (zr M (ct + 1)) (ct + 1)) H1) (z1 : H1.size = ad E (ct + 1) + 1) (o1 : ∀ q : Nat, q < ad E (ct + 1) → H1[q]? = H[q]?) : Wd E ct' true (zr M ct') H1 := by
  subst h1
  have hz := hW.size hl
  rw [← hz] at z1 o1
  refine ⟨fun k q hk => ?_, ⟨by rw [z1]; exact Nat.le_succ_of_le hW.2.1.1, fun q hq => (o1 q (Nat.lt_of_lt_of_le hq hW.2.1.1)).trans (hW.2.1.2 q hq)⟩, fun _ => by rw [z1, hW.2.2 rfl]; omega⟩
  have hkl : k < ct + 1 := by
    have := (List.getElem?_eq_some_iff.mp hk).1
    rw [wsO_len] at this
    exact this
  have hg := wsO_get (E := E) (M := zr M (ct + 1)) (o := k + 1) (ct := ct + 1) (by omega) (by omega)
  rw [Nat.add_sub_cancel] at hg
  cases hg.symm.trans hk
  by_cases hc : k = ct
  · subst hc
    rw [ad_lt hl, Nat.add_sub_cancel] at he
    exact he
  · have hg2 := wsO_get (E := E) (M := M) (o := k + 1) (ct := ct) (by omega) (by omega)
    rw [Nat.add_sub_cancel] at hg2
    have h3 := hW.1 k _ hg2
    rw [ent_zr (by omega)]
    exact h3.kept (o1 _ h3.lt)
theorem def_ref {ty : FieldType} (h : ty.isReference = true) : defaultValue ty = .null := by
  cases ty <;> first | rfl | exact Bool.noConfusion h
theorem flds_zero {E : Ev} {M : Mem} {o c : Nat} {C : String} {T : u_T} {N : Nat} (hq : clsL[c]? = some (C, T, N)) {ty : Nat → FieldType} (hty : ∀ k, k < N → parseFieldDescriptor (T k).2.2.1 = some (ty k)) : ∀ j, j < N → defaultValue (ty j) = vp_V (flds E (zr M o) o c) j := by
  intro j hj
  obtain ⟨-, -, -, hlen, hall⟩ := cls_all c _ hq
  have hlen' : (FT c).length = N := hlen
  have hl : j < (FT c).length := by omega
  have hg : (FT c)[j]? = some ((FT c).getD j 0) := by rw [List.getD_eq_getElem?_getD, List.getElem?_eq_getElem hl]; rfl
  have hv : vp_V (flds E (zr M o) o c) j = fval E (zr M o) o ((FT c).getD j 0) j := by
    have := flds_get (E := E) (M := zr M o) (o := o) hg
    simp only [vp_V, List.getD_eq_getElem?_getD, this, Option.getD_some]
  rw [hv]
  have h9 := hall j hj
  have ht := hty j hj
  rcases h9 with ⟨a, b⟩ | ⟨a, b⟩ | ⟨a, b⟩ | ⟨a, b⟩
  · rw [b]
    have e : ty j = .int := (Option.some.inj (a.symm.trans ht)).symm
    rw [e]
    show _ = Value.int (mI _ _ _)
    rw [zrI]
    rfl
  · rw [b]
    have e : ty j = .long := (Option.some.inj (a.symm.trans ht)).symm
    rw [e]
    show _ = Value.long (mL _ _ _)
    rw [zrL]
    rfl
  · rw [b]
    have e : ty j = .boolean := (Option.some.inj (a.symm.trans ht)).symm
    rw [e]
    show _ = Value.int (mI _ _ _)
    rw [zrI]
    rfl
  · rw [b]
    have a' : (parseFieldDescriptor (T j).2.2.1).any FieldType.isReference = true := a
    rw [ht] at a'
    show _ = va_rf (rfv E (mR _ _ _))
    rw [zrR]
    exact def_ref a'
section AWN
variable {ρ : Type} {l : Launch} {E : Ev} {f : Fr} {R : ρ → Room} {PQ : ρ → Mem → Array Value → State → List Frame → State → Prop} {ct ct' ce ce' sl sl' : Nat} {ex : Bool} {pc : Nat} {lv : List (Nat × Value)} {st : List Value} {M : Mem} {F : Option (ρ × Mem)}
theorem AW.newO {idx c N : Nat} {C : String} {T : u_T} (d : decode f.2.1 pc = .ok (.new idx, 3)) (hq : clsL[c]? = some (C, T, N)) (hw : Cond.classLink f.1 idx C ∈ TB ∧ Cond.instantiable C N ∈ TB ∧ Cond.initialized C ∈ TB) (hK : K0 ct' = (0, c)) (h1 : ct + 1 = ct') (h2 : ce + 1 = ce') (h3 : sl + N = sl') (hR : ∀ r, ce' ≤ (R r).cells ∧ sl' ≤ (R r).slots)
    (kk : AW l E f R PQ ct' true ce' sl' (pc + 3) lv (.ref (ad E ct') :: st) (zr M ct') F) : AW l E f R PQ ct true ce sl pc lv st M F := by
  intro r M9 hF p e s m args below meth c' H locs ls X hl hW hs hL
  subst h1; subst h2; subst h3
  have hlt := K0_lt hK (ne9 rfl)
  have hKn := X.kv.1.1 c _ hq
  obtain ⟨-, ⟨ty, hty⟩, -⟩ := cls_all c _ hq
  refine W.newcK X.1 X.2.1 X.own (X.ts _ hw.1) (X.ts _ hw.2.1) (X.ts _ hw.2.2) rfl d (hR r).1 (hR r).2 hKn.2.1 (hW.size hlt) fun H1 kC hkC e1 z1 o1 => ?_
  refine kk r M9 hF p e s m args below meth c' H1 locs ls X hl (hW.push rfl hlt ?_ z1 o1) (by rw [z1, ← hW.size hlt]; omega) hL
  rw [ent_obj hK]
  exact ⟨_, hq, (u_born ty X.ts (cls_ws hq) hKn hkC e1 hty).to (flds_zero hq hty)⟩
theorem AW.newI {n : Nat} {v : Int32} (d : decode f.2.1 pc = .ok (.newarray .int, 2)) (hw : Cond.arrayClass .int ∈ TB) (hv : ¬ v < 0) (hn : v.toNatClampNeg = n) (hb : n ≤ 100000) (hK : K0 ct' = (1, n)) (h1 : ct + 1 = ct') (h2 : ce + 1 = ce') (h3 : sl + n = sl') (hR : ∀ r, ce' ≤ (R r).cells ∧ sl' ≤ (R r).slots)
    (kk : AW l E f R PQ ct' true ce' sl' (pc + 2) lv (.ref (ad E ct') :: st) (zr M ct') F) : AW l E f R PQ ct true ce sl pc lv (.int v :: st) M F := by
  intro r M9 hF p e s m args below meth c' H locs ls X hl hW hs hL
  subst h1; subst h2; subst h3
  have hlt := K0_lt hK (ne9 rfl)
  refine va_newaK X.1 X.2.1 (atype := .int) (X.ts _ hw) rfl d rfl hv hn (by show n * 4 ≤ 536870912; omega) (hR r).1 (hR r).2 (hW.size hlt) fun H1 cA e1 z1 o1 hAr hNm => ?_
  have hcA : cA = eA E 1 := Option.some.inj (hNm.symm.trans (X.kv.1.2 0 _ rfl).2)
  subst hcA
  refine kk r M9 hF p e s m args below meth c' H1 locs ls X hl (hW.push rfl hlt ?_ z1 o1) (by rw [z1, ← hW.size hlt]; omega) hL
  rw [ent_int hK]
  show H1[ad E (ct + 1)]? = some (vp_cell _ _)
  rw [e1, vp_cell_i]
  congr 2
  funext j
  rw [zrI]
  rfl
theorem AW.newL {n : Nat} {v : Int32} (d : decode f.2.1 pc = .ok (.newarray .long, 2)) (hw : Cond.arrayClass .long ∈ TB) (hv : ¬ v < 0) (hn : v.toNatClampNeg = n) (hb : n ≤ 100000) (hK : K0 ct' = (2, n)) (h1 : ct + 1 = ct') (h2 : ce + 1 = ce') (h3 : sl + n = sl') (hR : ∀ r, ce' ≤ (R r).cells ∧ sl' ≤ (R r).slots)
    (kk : AW l E f R PQ ct' true ce' sl' (pc + 2) lv (.ref (ad E ct') :: st) (zr M ct') F) : AW l E f R PQ ct true ce sl pc lv (.int v :: st) M F := by
  intro r M9 hF p e s m args below meth c' H locs ls X hl hW hs hL
  subst h1; subst h2; subst h3
  have hlt := K0_lt hK (ne9 rfl)
  refine va_newaK X.1 X.2.1 (atype := .long) (X.ts _ hw) rfl d rfl hv hn (by show n * 8 ≤ 536870912; omega) (hR r).1 (hR r).2 (hW.size hlt) fun H1 cA e1 z1 o1 hAr hNm => ?_
  have hcA : cA = eA E 2 := Option.some.inj (hNm.symm.trans (X.kv.1.2 1 _ rfl).2)
  subst hcA
  refine kk r M9 hF p e s m args below meth c' H1 locs ls X hl (hW.push rfl hlt ?_ z1 o1) (by rw [z1, ← hW.size hlt]; omega) hL
  rw [ent_long hK]
  show H1[ad E (ct + 1)]? = some (vp_cell _ _)
  rw [e1, vp_cell_l]
  congr 2
  funext j
  rw [zrL]
  rfl
theorem AW.newZ {n : Nat} {v : Int32} (d : decode f.2.1 pc = .ok (.newarray .boolean, 2)) (hw : Cond.arrayClass .boolean ∈ TB) (hv : ¬ v < 0) (hn : v.toNatClampNeg = n) (hb : n ≤ 100000) (hK : K0 ct' = (3, n)) (h1 : ct + 1 = ct') (h2 : ce + 1 = ce') (h3 : sl + n = sl') (hR : ∀ r, ce' ≤ (R r).cells ∧ sl' ≤ (R r).slots)
    (kk : AW l E f R PQ ct' true ce' sl' (pc + 2) lv (.ref (ad E ct') :: st) (zr M ct') F) : AW l E f R PQ ct true ce sl pc lv (.int v :: st) M F := by
  intro r M9 hF p e s m args below meth c' H locs ls X hl hW hs hL
  subst h1; subst h2; subst h3
  have hlt := K0_lt hK (ne9 rfl)
  refine va_newaK X.1 X.2.1 (atype := .boolean) (X.ts _ hw) rfl d rfl hv hn (by show n * 1 ≤ 536870912; omega) (hR r).1 (hR r).2 (hW.size hlt) fun H1 cA e1 z1 o1 hAr hNm => ?_
  have hcA : cA = eA E 3 := Option.some.inj (hNm.symm.trans (X.kv.1.2 2 _ rfl).2)
  subst hcA
  refine kk r M9 hF p e s m args below meth c' H1 locs ls X hl (hW.push rfl hlt ?_ z1 o1) (by rw [z1, ← hW.size hlt]; omega) hL
  rw [ent_bool hK]
  show H1[ad E (ct + 1)]? = some (vp_cell _ _)
  rw [e1, vp_cell_i]
  congr 2
  funext j
  rw [zrI]
  rfl
theorem AW.newS {idx n : Nat} {v : Int32} (d : decode f.2.1 pc = .ok (.anewarray idx, 3)) (hw : Cond.classLink f.1 idx "java/lang/String" ∈ TB) (hv : ¬ v < 0) (hn : v.toNatClampNeg = n) (hb : n ≤ 100000) (hK : K0 ct' = (4, n)) (h1 : ct + 1 = ct') (h2 : ce + 1 = ce') (h3 : sl + n = sl') (hR : ∀ r, ce' ≤ (R r).cells ∧ sl' ≤ (R r).slots)
    (kk : AW l E f R PQ ct' true ce' sl' (pc + 3) lv (.ref (ad E ct') :: st) (zr M ct') F) : AW l E f R PQ ct true ce sl pc lv (.int v :: st) M F := by
  intro r M9 hF p e s m args below meth c' H locs ls X hl hW hs hL
  subst h1; subst h2; subst hn; subst h3
  have hlt := K0_lt hK (ne9 rfl)
  refine W.anew X.1 X.2.1 X.own (X.ts _ hw) (va_AO.use X.kv.2.2.2.2.2.2.2.1.2) rfl d rfl hv (by omega) (hR r).1 (hR r).2 fun cA kA comp f1 f2 f3 f4 => ?_
  generalize hH1 : H.push ({ cls := cA, slots := Array.replicate v.toNatClampNeg .null, vm := .none } : Cell) = H1
  have z1 : H1.size = H.size + 1 := by rw [← hH1, Array.size_push]
  have e1 : H1[H.size]? = some (arrV cA v.toNatClampNeg (fun _ => .null)) := by rw [← hH1, Array.getElem?_push_size, ← arrV_new]
  have o1 : ∀ q : Nat, q < H.size → H1[q]? = H[q]? := fun q hq => by rw [← hH1, Array.getElem?_push, if_neg (Nat.ne_of_lt hq)]
  have hcA : cA = eA E 4 := by
    obtain ⟨kA2, comp2, g1, g2, g3, g4⟩ := (X.kv.1.2 3 _ rfl).2
    exact Option.some.inj (f1.symm.trans g4)
  subst hcA
  rw [hW.size hlt] at z1 e1 o1 ⊢
  refine kk r M9 hF p e s m args below meth c' H1 locs ls X hl (hW.push rfl hlt ?_ z1 o1) (by rw [z1, ← hW.size hlt]; omega) hL
  rw [ent_str hK]
  show H1[ad E (ct + 1)]? = some (vp_cell _ _)
  rw [e1, vp_cell_q]
  congr 2
  funext j
  rw [zrR]
  rfl
theorem mR_upd {E : Ev} {M : Mem} {o j v : Nat} (hv : v ≠ 0) : va_up (fun k => rfv E (mR M o k)) j (some (ad E v)) = fun k => rfv E (mR (sR M o j v) o k) := by
  funext k
  by_cases h : k = j
  · subst h
    simp [va_up, mR, sR, up2_s, rfv, hv]
  · simp [va_up, mR, sR, up2_k h, h]
theorem AW.aast {o n i : Nat} {j : Int32} (d : decode f.2.1 pc = .ok (.aastore, 1)) (hK : K0 o = (4, n)) (hct : o ≤ ct) (hi : inb j n = true) (hi9 : i < 36)
    (kk : AW l E f R PQ ct ex ce sl (pc + 1) lv st (sR M o j.toNatClampNeg (1000 + i)) F) : AW l E f R PQ ct ex ce sl pc lv (.ref (ad E (1000 + i)) :: .int j :: .ref (ad E o) :: st) M F := by
  intro r M9 hF p e s m args below meth c' H locs ls X hl hW hs hL
  have he := wsO_at (E := E) (M := M) hK (ne9 rfl) hct
  rw [ent_str hK] at he
  have had : ad E (1000 + i) = eS E i := by
    unfold ad
    rw [if_neg (Nat.not_lt.mpr (Nat.le_add_right 1000 i)), Nat.add_sub_cancel_left]
  obtain ⟨cv, g1, g2, g3, g4⟩ := (X.kv.2.2.1 i hi9).1
  obtain ⟨kA, comp, k1, k2, k3, k4⟩ := (X.kv.1.2 3 _ rfl).2
  cases Option.some.inj (k3.symm.trans g3)
  have hlt0 : eS E i < (eH E).size := (Array.getElem?_eq_some_iff.mp g1).1
  have hcv : H[ad E (1000 + i)]? = some cv := by rw [had, hW.2.1.2 _ hlt0]; exact g1
  obtain ⟨kC, hkC, -⟩ := Vm.findClass_spec k3
  have hin := inb_vp hi
  have hlt : j.toNatClampNeg < n := Nat.not_le.mp fun q => hin (Or.inr q)
  refine W.aast X.1 X.2.1 (hW.1 (o - 1) _ he) (fun q h => by cases h) (fun h => by cases h) k1 k2 rfl hkC ⟨fun q => hin (Or.inl q), by show _ < (arrV _ _ _).slots.size; rw [arrV_size]; exact hlt⟩ hcv (fun q h => by rw [h] at g2; cases g2) hkC (Vm.assignable_self _ _) rfl rfl d fun H1 e1 z oq => ?_
  refine kk r M9 hF p e s m args below meth c' H1 _ ls X hl (hW.put (M2 := sR M o j.toNatClampNeg (1000 + i)) hK (ne9 rfl) hct ?_ (fun j hj => ent_sR hj) z oq) (by rw [z]; exact hs) (locs_put hL (ad_AE hK (ne9 rfl)))
  rw [ent_str hK, ← mR_upd (by omega)]
  show H1[ad E o]? = some (vp_cell _ _)
  rw [e1]
  rw [vp_cell_q, vp_cell_q, arrV_store]
  congr 2
  funext q
  by_cases hq : q = j.toNatClampNeg
  · subst hq
    simp [updV, va_up, va_rf]
  · simp [updV, va_up, hq]
theorem AW.objI {idx a : Nat} (d : decode f.2.1 pc = .ok (.invokespecial idx, 3)) (hl9 : Cond.methodLink f.1 idx Lib.objectInit ∈ TB) (hw : Cond.instanceMethod Lib.objectInit ∈ TB ∧ Cond.code Lib.objectInit ⟨#[0xb1]⟩ 1 Option.none ∈ TB) (hR : ∀ r, okR (R r) 0 ce sl) (hW8 : (st.map fun v => v.category).sum ≤ 8)
    (kk : AW l E f R PQ ct ex ce sl (pc + 3) lv st M F) : AW l E f R PQ ct ex ce sl pc lv (.ref a :: st) M F := by
  intro r M9 hF p e s m args below meth c' H locs ls X hl hW hs hL
  exact W.objInit X.1 X.2.1 X.own (X.ts _ hl9) (X.ts _ hw.1) (X.ts _ hw.2) rfl (hl.1.trans X.2.2.2.1.symm) rfl d (hR r).1 (by have h1 := (hR r).2.1; have h2 : 2 * (F0 m pc ls (.ref a :: st)).monitorRoom + (st.map fun v => v.category).sum ≤ 8 := lv_room hW8; omega) (kk r M9 hF p e s m args below meth c' H locs ls X hl hW hs hL)
end AWN
section AWI
variable {ρ : Type} {l : Launch} {E : Ev} {f : Fr} {R : ρ → Room} {PQ : ρ → Mem → Array Value → State → List Frame → State → Prop} {ct ct1 ct9 ce ce9 sl sl9 mc ms : Nat} {ex ex9 : Bool} {pc : Nat} {lv : List (Nat × Value)} {st stk : List Value} {M : Mem} {F1 : Option (Unit × Mem)} {F2 : Unit → Mem → Option (ρ × Mem)} {y : MethodName} {g : Fr} {n idx o : Nat}
theorem AW.callI (As st : List Value) (d : decode f.2.1 pc = .ok (.invokespecial idx, 3)) (hl : Cond.methodLink f.1 idx y ∈ TB) (hy : MBI y g As.length) (hr : g.2.2.2.1 = Option.none) (h2 : ce + mc = ce9) (h3 : sl + ms = sl9) (hR : ∀ r, okR (R r) n ce9 sl9)
    (h9 : ct1 = ct9) (hc : AMg l E n mc ms ct ex ct1 ex9 y g enU (.ref (ad E o) :: As) M F1) (hst : stk = As.reverse ++ .ref (ad E o) :: st) (hW8 : (st.map fun v => v.category).sum ≤ 8)
    (k : ∀ x M1, AW l E f R PQ ct9 ex9 ce9 sl9 (pc + 3) lv st M1 (F2 x M1)) : AW l E f R PQ ct ex ce sl pc lv stk M (bnd F1 F2) := by
  intro r M9 hF p e s m args below meth c' H locs ls X hl9 hW hs hL
  subst h2; subst h3; subst h9
  obtain ⟨g1, g2, g3, g4, g5⟩ := g
  have hr' : g4 = Option.none := hr
  subst hr'
  cases hF1 : F1 with
  | none => rw [hF1] at hF; cases hF
  | some q =>
    obtain ⟨x, M1⟩ := q
    rw [hF1] at hF
    have hcb := mkCB (R := R r) (n := n) (mc := mc) (ms := ms) X.ts hy.1 hl ⟨(hR r).1, (hR r).2.1⟩
    refine W.afterRun (va_runI (As := As) (rest := st) X.fix (hc x M1 hF1) ⟨hcb, hy.2.1, X.ts _ hy.2.2⟩ ⟨PcW_blind, fun U hU hWm => ⟨rfl, by rw [hU]; exact hW, KV.warm hWm X.kv⟩⟩ rfl rfl hl9.1 hst (lv_room hW8) d ⟨(hR r).2.2.1, (hR r).2.2.2⟩) hL fun H1 locs1 w1 w2 w3 => ?_
    exact k x M1 r M9 hF p e s m args below meth c' H1 locs1 ls X hl9 w1 (Nat.le_trans hs w2) w3
theorem AW.callIN (As st : List Value) {host : String} (d : decode f.2.1 pc = .ok (.invokespecial idx, 3)) (hl : Cond.methodLinkNest f.1 idx y host ∈ nstL) (hy : MBI y g As.length) (hr : g.2.2.2.1 = Option.none) (h2 : ce + mc = ce9) (h3 : sl + ms = sl9) (hR : ∀ r, okR (R r) n ce9 sl9)
    (h9 : ct1 = ct9) (hc : AMg l E n mc ms ct ex ct1 ex9 y g enU (.ref (ad E o) :: As) M F1) (hst : stk = As.reverse ++ .ref (ad E o) :: st) (hW8 : (st.map fun v => v.category).sum ≤ 8)
    (k : ∀ x M1, AW l E f R PQ ct9 ex9 ce9 sl9 (pc + 3) lv st M1 (F2 x M1)) : AW l E f R PQ ct ex ce sl pc lv stk M (bnd F1 F2) := by
  intro r M9 hF p e s m args below meth c' H locs ls X hl9 hW hs hL
  subst h2; subst h3; subst h9
  obtain ⟨g1, g2, g3, g4, g5⟩ := g
  have hr' : g4 = Option.none := hr
  subst hr'
  cases hF1 : F1 with
  | none => rw [hF1] at hF; cases hF
  | some q =>
    obtain ⟨x, M1⟩ := q
    rw [hF1] at hF
    have hcb := mkCN (R := R r) (n := n) (mc := mc) (ms := ms) X.ts hy.1 (X.kv.2.2.2.1 _ hl) ⟨(hR r).1, (hR r).2.1⟩
    refine W.afterRun (va_runIN (As := As) (rest := st) X.fix (hc x M1 hF1) ⟨hcb, hy.2.1, X.ts _ hy.2.2⟩ ⟨PcW_blind, fun U hU hWm => ⟨rfl, by rw [hU]; exact hW, KV.warm hWm X.kv⟩⟩ rfl rfl hl9.1 hst (lv_room hW8) d ⟨(hR r).2.2.1, (hR r).2.2.2⟩) hL fun H1 locs1 w1 w2 w3 => ?_
    exact k x M1 r M9 hF p e s m args below meth c' H1 locs1 ls X hl9 w1 (Nat.le_trans hs w2) w3
end AWI
theorem okR_M {n m mc ms ce sl : Nat} (h : m + 1 ≤ n) (h1 : ce ≤ mc) (h2 : sl ≤ ms) : okR (rmN n mc ms) m ce sl := ⟨h, by show 40 * m + 40 ≤ 40 * n; omega, h1, h2⟩
