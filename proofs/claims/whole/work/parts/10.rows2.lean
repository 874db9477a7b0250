/-! ===== small rows that the printed contracts use ===== -/
def FU : Nat := 1000000000
def RD : Nat := 12
theorem k0e {o t : Nat} (h : (K0 o).1 = t) : K0 o = (t, (K0 o).2) := by rw [← h]
theorem kct {o t n ct : Nat} (h : K0 o = (t, n)) (ht : (t == 9) = false) (hct : 111 ≤ ct) : o ≤ ct := Nat.le_trans (K0_le h (ne9 ht)).1 hct
theorem k0n {o t n : Nat} (h : K0 o = (t, n)) (ht : (t == 9) = false) : o ≠ 0 := fun e => by
  have := (K0_le h (ne9 ht)).2
  omega
theorem kct0 {o t n ct : Nat} (h : K0 o = (t, n)) (ht : (t == 9 || t == 2) = false) (hct : 110 ≤ ct) : o ≤ ct := by
  have h1 := (K0_le h (ne9 (by cases h9 : t == 9 with | true => rw [h9] at ht; cases ht | false => rfl))).1
  rcases Nat.lt_or_ge o 111 with h2 | h2
  · omega
  · have e : o = 111 := by omega
    subst e
    have h3 : t = 2 := by
      have : (2, 1) = ((t, n) : Nat × Nat) := h
      exact (congrArg Prod.fst this).symm
    subst h3
    cases ht
section AWS
variable {ρ : Type} {l : Launch} {E : Ev} {f : Fr} {R : ρ → Room} {PQ : ρ → Mem → Array Value → State → List Frame → State → Prop} {ct : Nat} {ex : Bool} {ce sl : Nat} {pc : Nat} {lv : List (Nat × Value)} {st : List Value} {M : Mem} {F F1 F2 : Option (ρ × Mem)}
theorem AW.sw1 {x v : Int32} {i : Decidable (x = v)} (k1 : x = v → AW l E f R PQ ct ex ce sl pc lv st M F1) (k2 : ¬ x = v → AW l E f R PQ ct ex ce sl pc lv st M F2) : AW l E f R PQ ct ex ce sl pc lv st M (@ite _ (x = v) i F1 F2) := by
  by_cases h : x = v
  · rw [if_pos h]; exact k1 h
  · rw [if_neg h]; exact k2 h
theorem AW.tswIn {dflt lo hi off : Int} {offs : Array Int} {len q : Nat} {x v : Int32} (tgt : Nat) (hx : x = v) (d : decode f.2.1 pc = .ok (.tableswitch dflt lo hi offs, len)) (h1 : ¬ v.toInt < lo) (h2 : ¬ hi < v.toInt) (hq : (v.toInt - lo).toNat = q) (ho : offs[q]? = some off) (ht : (pc : Int) + off = (tgt : Int)) (k : AW l E f R PQ ct ex ce sl tgt lv st M F) : AW l E f R PQ ct ex ce sl pc lv (.int x :: st) M F := by
  subst hx
  intro r M9 hF p e s m args below meth c H locs ls X hl hW hs hL
  exact lv_tableIn X.1 X.2.1 d h1 h2 (by rw [hq]; exact ho) ht (k r M9 hF p e s m args below meth c H locs ls X hl hW hs hL)
theorem AW.tswOut {dflt lo hi : Int} {offs : Array Int} {len : Nat} {x : Int32} (tgt : Nat) (d : decode f.2.1 pc = .ok (.tableswitch dflt lo hi offs, len)) (h : x.toInt < lo ∨ hi < x.toInt) (ht : (pc : Int) + dflt = (tgt : Int)) (k : AW l E f R PQ ct ex ce sl tgt lv st M F) : AW l E f R PQ ct ex ce sl pc lv (.int x :: st) M F := by
  intro r M9 hF p e s m args below meth c H locs ls X hl hW hs hL
  exact lv_tableOut X.1 X.2.1 d h ht (k r M9 hF p e s m args below meth c H locs ls X hl hW hs hL)
theorem AW.ldcSW {idx i : Nat} {tx : String} (d : decode f.2.1 pc = .ok (.ldc_w idx, 3)) (hs9 : srL[i]? = some (f.1, idx, tx)) (kk : AW l E f R PQ ct ex ce sl (pc + 3) lv (.ref (ad E (1000 + i)) :: st) M F) : AW l E f R PQ ct ex ce sl pc lv st M F := by
  intro r M9 hF p e s m args below meth c H locs ls X hl hW hs hL
  have h1 := X.kv.2.1 i _ hs9
  have h2 : ad E (1000 + i) = eS E i := by
    unfold ad
    rw [if_neg (Nat.not_lt.mpr (Nat.le_add_right 1000 i)), Nat.add_sub_cancel_left]
  have k9 := kk r M9 hF p e s m args below meth c H locs ls X hl hW hs hL
  rw [h2] at k9
  intro T hT Y
  obtain ⟨t, a1, b1⟩ := k9 T hT Y
  exact ⟨t, Y.ldcStringW X.1 X.own (text := tx) (a := eS E i) h1.1 h1.2 (g := F0 m pc ls st) rfl (by rw [X.2.1]; exact d) t a1, b1⟩
def imax (x y : Int32) : Int32 := if x < y then y else x
def imin (x y : Int32) : Int32 := if y < x then y else x
theorem AW.mmax {x y : Int32} {idx : Nat} (d : decode f.2.1 pc = .ok (.invokestatic idx, 3)) (hl : Cond.methodLink f.1 idx Lib.Math.max.name ∈ TB) (h2 : Cond.static Lib.Math.max.name ∈ TB ∧ Cond.initialized "java/lang/Math" ∈ TB ∧ Cond.code Lib.Math.max.name Lib.Math.max.code 2 (some .int) ∈ TB) (hR : ∀ r, okR (R r) 0 ce sl) (hW8 : (st.map fun v => v.category).sum ≤ 8) (k : AW l E f R PQ ct ex ce sl (pc + 3) lv (.int (imax x y) :: st) M F) : AW l E f R PQ ct ex ce sl pc lv (.int y :: .int x :: st) M F := by
  intro r M9 hF p e s m args below meth c H locs ls X hl9 hW hs hL
  exact va_mmax X.1 X.2.1 (X.2.2.2.1.trans hl9.1.symm) X.own (X.ts _ hl) (X.ts _ h2.1) (X.ts _ h2.2.1) (X.ts _ h2.2.2) (hR r).1 (by have := (hR r).2.1; omega) (hR r).2.2.1 (hR r).2.2.2 d (k r M9 hF p e s m args below meth c H locs ls X hl9 hW hs hL)
theorem AW.mmin {x y : Int32} {idx : Nat} (d : decode f.2.1 pc = .ok (.invokestatic idx, 3)) (hl : Cond.methodLink f.1 idx Lib.Math.min.name ∈ TB) (h2 : Cond.static Lib.Math.min.name ∈ TB ∧ Cond.initialized "java/lang/Math" ∈ TB ∧ Cond.code Lib.Math.min.name Lib.Math.min.code 2 (some .int) ∈ TB) (hR : ∀ r, okR (R r) 0 ce sl) (hW8 : (st.map fun v => v.category).sum ≤ 8) (k : AW l E f R PQ ct ex ce sl (pc + 3) lv (.int (imin x y) :: st) M F) : AW l E f R PQ ct ex ce sl pc lv (.int y :: .int x :: st) M F := by
  intro r M9 hF p e s m args below meth c H locs ls X hl9 hW hs hL
  exact va_mmin X.1 X.2.1 (X.2.2.2.1.trans hl9.1.symm) X.own (X.ts _ hl) (X.ts _ h2.1) (X.ts _ h2.2.1) (X.ts _ h2.2.2) (hR r).1 (by have := (hR r).2.1; omega) (hR r).2.2.1 (hR r).2.2.2 d (k r M9 hF p e s m args below meth c H locs ls X hl9 hW hs hL)
end AWS
set_option maxRecDepth 100000 in
theorem mb_max : Cond.static Lib.Math.max.name ∈ TB ∧ Cond.initialized "java/lang/Math" ∈ TB ∧ Cond.code Lib.Math.max.name Lib.Math.max.code 2 (some .int) ∈ TB := ⟨tb_in 1801 rfl rfl, tb_in 127 rfl rfl, tb_in 1802 rfl rfl⟩
set_option maxRecDepth 100000 in
theorem mb_min : Cond.static Lib.Math.min.name ∈ TB ∧ Cond.initialized "java/lang/Math" ∈ TB ∧ Cond.code Lib.Math.min.name Lib.Math.min.code 2 (some .int) ∈ TB := ⟨tb_in 1669 rfl rfl, tb_in 127 rfl rfl, tb_in 1670 rfl rfl⟩
/-! String constants: length and charAt -/
def zS_length (q : Nat) (M : Mem) : Option (Int32 × Mem) := if 1000 ≤ q ∧ q < 1036 then some (Int32.ofNat (slen.getD (q - 1000) 0), M) else none
def zS_charAt (q : Nat) (i : Int32) (M : Mem) : Option (Int32 × Mem) := if (1000 ≤ q ∧ q < 1036) ∧ inb i (slen.getD (q - 1000) 0) = true then some ((sbyt.getD (q - 1000) []).getD i.toNatClampNeg 0, M) else none
section AWSt
variable {ρ : Type} {l : Launch} {E : Ev} {f : Fr} {R : ρ → Room} {PQ : ρ → Mem → Array Value → State → List Frame → State → Prop} {ct : Nat} {ex : Bool} {ce sl : Nat} {pc : Nat} {lv : List (Nat × Value)} {st : List Value} {M : Mem} {F2 : Int32 → Mem → Option (ρ × Mem)} {n idx q : Nat}
end AWSt
set_option maxRecDepth 100000 in
theorem xg_0 : ∀ w ∈ (xat 0).filter goodWord, w ∈ TB := fun w h => List.mem_filter.mpr ⟨(by decide +kernel : ∀ w ∈ (xat 0).filter goodWord, w ∈ lw_tbl) w h, (List.mem_filter.mp h).2⟩
theorem xw_0 : ∀ w ∈ (xat 0).filter (fun w => !goodWord w), w ∈ xwL := fun w h => List.mem_append_left _ h
set_option maxRecDepth 100000 in
theorem xo_0 : ∀ w ∈ Cond.classLink RX11 219 (xcl 0) :: Cond.initialized (xcl 0) :: xat 0, vx_ot w = true := fun w hw => List.all_eq_true.mp (by decide +kernel : (Cond.classLink RX11 219 (xcl 0) :: Cond.initialized (xcl 0) :: xat 0).all vx_ot = true) w hw
set_option maxRecDepth 100000 in
theorem xg_1 : ∀ w ∈ (xat 1).filter goodWord, w ∈ TB := fun w h => List.mem_filter.mpr ⟨(by decide +kernel : ∀ w ∈ (xat 1).filter goodWord, w ∈ lw_tbl) w h, (List.mem_filter.mp h).2⟩
theorem xw_1 : ∀ w ∈ (xat 1).filter (fun w => !goodWord w), w ∈ xwL := fun w h => List.mem_append_right _ h
set_option maxRecDepth 100000 in
theorem xo_1 : ∀ w ∈ Cond.classLink RX11 332 (xcl 1) :: Cond.initialized (xcl 1) :: xat 1, vx_ot w = true := fun w hw => List.all_eq_true.mp (by decide +kernel : (Cond.classLink RX11 332 (xcl 1) :: Cond.initialized (xcl 1) :: xat 1).all vx_ot = true) w hw
