/-! ===== String constants: length and charAt, by the JDK's own bytecode ===== -/
def fJ0_length_8abf5 : Fr := (RJ0, cJ0_length_8abf5, 1, (some .int), "length", [])
set_option maxRecDepth 100000 in
theorem mbJ0_length_8abf5 : MBV yJ0_length_8abf5 fJ0_length_8abf5 0 := ⟨⟨tb_in 740 rfl rfl, tb_in 122 rfl rfl, ⟨by decide +kernel, by decide +kernel⟩, by decide +kernel, by decide⟩, tb_in 738 rfl rfl, tb_in 739 rfl rfl⟩
def fJ0_coder_7d493 : Fr := (RJ0, cJ0_coder_7d493, 1, (some .byte), "coder", [])
set_option maxRecDepth 100000 in
theorem mbJ0_coder_7d493 : MBV yJ0_coder_7d493 fJ0_coder_7d493 0 := ⟨⟨tb_in 744 rfl rfl, tb_in 122 rfl rfl, ⟨by decide +kernel, by decide +kernel⟩, by decide +kernel, by decide⟩, tb_in 742 rfl rfl, tb_in 743 rfl rfl⟩
def fJ0_charAt_5068e : Fr := (RJ0, cJ0_charAt_5068e, 2, (some .char), "charAt", [])
set_option maxRecDepth 100000 in
theorem mbJ0_charAt_5068e : MBV yJ0_charAt_5068e fJ0_charAt_5068e 1 := ⟨⟨tb_in 750 rfl rfl, tb_in 122 rfl rfl, ⟨by decide +kernel, by decide +kernel⟩, by decide +kernel, by decide⟩, tb_in 748 rfl rfl, tb_in 749 rfl rfl⟩
def fJ0_isLatin1_aae02 : Fr := (RJ0, cJ0_isLatin1_aae02, 1, (some .boolean), "isLatin1", [])
set_option maxRecDepth 100000 in
theorem mbJ0_isLatin1_aae02 : MBV yJ0_isLatin1_aae02 fJ0_isLatin1_aae02 0 := ⟨⟨tb_in 754 rfl rfl, tb_in 122 rfl rfl, ⟨by decide +kernel, by decide +kernel⟩, by decide +kernel, by decide⟩, tb_in 752 rfl rfl, tb_in 753 rfl rfl⟩
def fJ1_charAt_3b067 : Fr := (RJ1, cJ1_charAt_3b067, 2, (some .char), "charAt", [])
set_option maxRecDepth 100000 in
theorem mbJ1_charAt_3b067 : MBS yJ1_charAt_3b067 fJ1_charAt_3b067 2 := ⟨⟨tb_in 757 rfl rfl, tb_in 123 rfl rfl, ⟨by decide +kernel, by decide +kernel⟩, by decide +kernel, by decide⟩, tb_in 756 rfl rfl⟩
def fJ0_checkIndex_df160 : Fr := (RJ0, cJ0_checkIndex_df160, 2, Option.none, "checkIndex", [])
set_option maxRecDepth 100000 in
theorem mbJ0_checkIndex_df160 : MBS yJ0_checkIndex_df160 fJ0_checkIndex_df160 2 := ⟨⟨tb_in 760 rfl rfl, tb_in 122 rfl rfl, ⟨by decide +kernel, by decide +kernel⟩, by decide +kernel, by decide⟩, tb_in 759 rfl rfl⟩
def fJ3_checkIndex_8e157 : Fr := (RJ3, cJ3_checkIndex_8e157, 3, (some .int), "checkIndex", [])
set_option maxRecDepth 100000 in
theorem mbJ3_checkIndex_8e157 : MBS yJ3_checkIndex_8e157 fJ3_checkIndex_8e157 3 := ⟨⟨tb_in 765 rfl rfl, tb_in 124 rfl rfl, ⟨by decide +kernel, by decide +kernel⟩, by decide +kernel, by decide⟩, tb_in 764 rfl rfl⟩
set_option maxRecDepth 100000 in
theorem mlJ0_335 : Cond.methodLink RJ0 335 yJ0_coder_7d493 ∈ TB := tb_in 741 rfl rfl
set_option maxRecDepth 100000 in
theorem mlJ0_492 : Cond.methodLink RJ0 492 yJ0_isLatin1_aae02 ∈ TB := tb_in 751 rfl rfl
set_option maxRecDepth 100000 in
theorem mlJ0_495 : Cond.methodLink RJ0 495 yJ1_charAt_3b067 ∈ TB := tb_in 755 rfl rfl
set_option maxRecDepth 100000 in
theorem mlJ0_1059 : Cond.methodLink RJ0 1059 yJ3_checkIndex_8e157 ∈ TB := tb_in 763 rfl rfl
set_option maxRecDepth 100000 in
theorem mlJ1_9 : Cond.methodLink RJ1 9 yJ0_checkIndex_df160 ∈ TB := tb_in 758 rfl rfl
set_option maxRecDepth 100000 in
theorem lkS_9 : Cond.fieldLink RJ0 9 "java/lang/String" "value" "[B" ∈ TB := tb_in 2041 rfl rfl
set_option maxRecDepth 100000 in
theorem lkS_15 : Cond.fieldLink RJ0 15 "java/lang/String" "coder" "B" ∈ TB := tb_in 2042 rfl rfl
set_option maxRecDepth 100000 in
theorem lkS_38 : Cond.fieldLink RJ0 38 "java/lang/String" "COMPACT_STRINGS" "Z" ∈ TB := tb_in 745 rfl rfl
set_option maxRecDepth 100000 in
theorem lkS_1053 : Cond.fieldLink RJ0 1053 "jdk/internal/util/Preconditions" "SIOOBE_FORMATTER" "Ljava/util/function/BiFunction;" ∈ TB := tb_in 761 rfl rfl
theorem VS {E : Ev} {ct : Nat} {ex : Bool} {M : Mem} {H : Heap} {s : State} {locs : List Loc} (ho : Old E s.heap) (hW : Wd E ct ex M H) (hs : s.heap.size ≤ H.size) (hL : ∀ q ∈ locs, AE E q.base) : va_S (AE E) s.heap H locs :=
  ⟨hs, fun q hq hA => by rw [hW.2.1.2 q (Nat.not_le.mp hA), ho.2 q (Nat.not_le.mp hA)], hL⟩
theorem Old.kq {E : Ev} {H : Heap} (h : Old E H) : ∀ a : Nat, a < (eH E).size → ¬ AE E a → H[a]? = (eH E)[a]? := fun a ha _ => h.2 a ha
section AWJ
variable {ρ : Type} {l : Launch} {E : Ev} {f : Fr} {R : ρ → Room} {PQ : ρ → Mem → Array Value → State → List Frame → State → Prop} {ct : Nat} {ex : Bool} {ce sl : Nat} {pc : Nat} {lv : List (Nat × Value)} {st stk : List Value} {M : Mem} {F : Option (ρ × Mem)}
theorem AW.getCS (hf : f.1 = RJ0) (d : decode f.2.1 pc = .ok (.getstatic 38, 3)) (k : AW l E f R PQ ct ex ce sl (pc + 3) lv (.int 1 :: st) M F) : AW l E f R PQ ct ex ce sl pc lv st M F := by
  intro r M9 hF p e s m args below meth c H locs ls X hl hW hs hL
  exact va_gets X.1 X.2.1 (X.kv.2.2.2.2.2.2.2.2.1.kept X.old.kq) (VS X.old hW hs hL) X.own (by rw [hf]; exact X.ts _ lkS_38) (fun x h => h) d (k r M9 hF p e s m args below meth c H locs ls X hl hW hs hL)
theorem AW.getSF (hf : f.1 = RJ0) (d : decode f.2.1 pc = .ok (.getstatic 1053, 3)) (k : ∀ v : Value, v.category = 1 → AW l E f R PQ ct ex ce sl (pc + 3) lv (v :: st) M F) : AW l E f R PQ ct ex ce sl pc lv st M F := by
  intro r M9 hF p e s m args below meth c H locs ls X hl hW hs hL
  rcases X.kv.2.2.2.2.2.2.2.2.2 with h | ⟨t, h⟩
  · exact va_gets X.1 X.2.1 (h.kept X.old.kq) (VS X.old hW hs hL) X.own (by rw [hf]; exact X.ts _ lkS_1053) (fun x h => h) d (k .null rfl r M9 hF p e s m args below meth c H locs ls X hl hW hs hL)
  · exact va_gets X.1 X.2.1 (h.kept X.old.kq) (VS X.old hW hs hL) X.own (by rw [hf]; exact X.ts _ lkS_1053) (fun x h => h) d (k (.ref t) rfl r M9 hF p e s m args below meth c H locs ls X hl hW hs hL)
theorem AW.getSV {i : Nat} (hi : i < 36) (hf : f.1 = RJ0) (d : decode f.2.1 pc = .ok (.getfield 9, 3)) (k : AW l E f R PQ ct ex ce sl (pc + 3) lv (.ref (eV E i) :: st) M F) : AW l E f R PQ ct ex ce sl pc lv (.ref (eS E i) :: st) M F := by
  intro r M9 hF p e s m args below meth c H locs ls X hl hW hs hL
  exact vk_getf X.1 X.2.1 ((X.kv.2.2.1 i hi).2.2.1.kept X.old.kq) (VS X.old hW hs hL) X.own (by rw [hf]; exact X.ts _ lkS_9) (fun x h => h) d (k r M9 hF p e s m args below meth c H locs ls X hl hW hs hL)
theorem AW.getSC {i : Nat} (hi : i < 36) (hf : f.1 = RJ0) (d : decode f.2.1 pc = .ok (.getfield 15, 3)) (k : AW l E f R PQ ct ex ce sl (pc + 3) lv (.int 0 :: st) M F) : AW l E f R PQ ct ex ce sl pc lv (.ref (eS E i) :: st) M F := by
  intro r M9 hF p e s m args below meth c H locs ls X hl hW hs hL
  exact vk_getf X.1 X.2.1 ((X.kv.2.2.1 i hi).2.1.kept X.old.kq) (VS X.old hW hs hL) X.own (by rw [hf]; exact X.ts _ lkS_15) (fun x h => h) d (k r M9 hF p e s m args below meth c H locs ls X hl hW hs hL)
theorem AW.salen {i : Nat} (hi : i < 36) (d : decode f.2.1 pc = .ok (.arraylength, 1)) (k : AW l E f R PQ ct ex ce sl (pc + 1) lv (.int (Int32.ofNat (slen.getD i 0)) :: st) M F) : AW l E f R PQ ct ex ce sl pc lv (.ref (eV E i) :: st) M F := by
  intro r M9 hF p e s m args below meth c H locs ls X hl hW hs hL
  exact va_tlen X.1 X.2.1 ((X.kv.2.2.1 i hi).2.2.2.kept X.old.kq) (VS X.old hW hs hL) rfl d (k r M9 hF p e s m args below meth c H locs ls X hl hW hs hL)
theorem AW.sbald {i : Nat} {j : Int32} (hi : i < 36) (d : decode f.2.1 pc = .ok (.baload, 1)) (hj : inb j (slen.getD i 0) = true) (k : AW l E f R PQ ct ex ce sl (pc + 1) lv (.int ((sbyt.getD i []).getD j.toNatClampNeg 0) :: st) M F) : AW l E f R PQ ct ex ce sl pc lv (.int j :: .ref (eV E i) :: st) M F := by
  intro r M9 hF p e s m args below meth c H locs ls X hl hW hs hL
  exact va_tb X.1 X.2.1 ((X.kv.2.2.1 i hi).2.2.2.kept X.old.kq) (VS X.old hW hs hL) (inb_vp hj) rfl d (k r M9 hF p e s m args below meth c H locs ls X hl hW hs hL)
theorem AW.pop {v : Value} (hv : v.category = 1) (d : decode f.2.1 pc = .ok (.pop, 1)) (k : AW l E f R PQ ct ex ce sl (pc + 1) lv st M F) : AW l E f R PQ ct ex ce sl pc lv (v :: st) M F := by
  intro r M9 hF p e s m args below meth c H locs ls X hl hW hs hL
  exact lv_pop X.1 X.2.1 d hv (k r M9 hF p e s m args below meth c H locs ls X hl hW hs hL)
theorem AW.i2c {x v : Int32} (d : decode f.2.1 pc = .ok (.i2c, 1)) (hv : (x.toUInt32 % 65536).toInt32 = v) (k : AW l E f R PQ ct ex ce sl (pc + 1) lv (.int v :: st) M F) : AW l E f R PQ ct ex ce sl pc lv (.int x :: st) M F := by
  intro r M9 hF p e s m args below meth c H locs ls X hl hW hs hL
  subst hv
  exact lv_i2c X.1 X.2.1 d rfl (k r M9 hF p e s m args below meth c H locs ls X hl hW hs hL)
theorem AW.nret {r0 : ρ} {v : Int32} {ty : FieldType} {mc ms : Nat} (d : decode f.2.1 pc = .ok (.ireturn, 1)) (hr : f.2.2.2.1 = some ty) (hn : narrow ty (.int v) = .int v) (hPQ : ∀ args s below, PQ r0 M args s below = MQ below (QcW E ct ex (some (.int v)) M) args s mc ms (AE E)) (hc : ce ≤ mc) (hsl : sl ≤ ms) : AW l E f R PQ ct ex ce sl pc lv [.int v] M (some (r0, M)) := by
  intro r M9 hF p e s m args below meth c' H locs ls X hl9 hW hs hL
  cases hF
  rw [hPQ]
  refine W.widen hc hsl ?_
  exact W.zret X.1 X.2.1 (X.2.2.1.trans hr) hn (fun t ht _ => ⟨rfl, by rw [ht]; exact hW, F_of X.old hW.2.1 hs ht⟩) hL d X.locks
theorem AW.callG {α : Type} {en : α → Option Value} {F1 : Option (α × Mem)} {F2 : α → Mem → Option (ρ × Mem)} {y : MethodName} {g : Fr} {n idx b : Nat} {As : List Value} (d : decode f.2.1 pc = .ok (.invokevirtual idx, 3)) (hl : Cond.methodLink f.1 idx y ∈ TB) (hy : MBV y g As.length) (hrecv : ∀ (s : State) (H : Heap), KV E s → Old E H → ∃ cell : Cell, H[b]? = some cell ∧ cell.vm.isStatics = false ∧ s.vm.findClass y.cls = some cell.cls) (hR : ∀ r, okR (R r) n ce sl)
    (hc : AM l E n ct ex y g en (.ref b :: As) M F1) (hst : stk = As.reverse ++ .ref b :: st) (hW8 : (st.map fun v => v.category).sum ≤ 8)
    (k : ∀ x M1, F1 = some (x, M1) → AW l E f R PQ ct ex ce sl (pc + 3) lv ((en x).toList ++ st) M1 (F2 x M1)) : AW l E f R PQ ct ex ce sl pc lv stk M (bnd F1 F2) := by
  intro r M9 hF p e s m args below meth c' H locs ls X hl9 hW hs hL
  cases hF1 : F1 with
  | none => rw [hF1] at hF; cases hF
  | some q =>
    obtain ⟨x, M1⟩ := q
    rw [hF1] at hF
    have hcb := mkCB (R := R r) (n := n) (mc := 0) (ms := 0) X.ts hy.1 hl ⟨(hR r).1, (hR r).2.1⟩
    refine W.afterRun (va_runV (C := y.cls) (As := As) (rest := st) X.fix (hc x M1 hF1) ⟨hcb, X.ts _ hy.2.1, X.ts _ hy.2.2⟩ ⟨PcW_blind, hrecv s H X.kv hW.2.1, fun U hU hWm => ⟨rfl, by rw [hU]; exact hW, KV.warm hWm X.kv⟩⟩ rfl rfl hl9.1 hst (lv_room hW8) d ⟨(hR r).2.2.1, (hR r).2.2.2⟩) hL fun H1 locs1 w1 w2 w3 => ?_
    exact k x M1 hF1 r M9 hF p e s m args below meth c' H1 locs1 ls X hl9 w1 (Nat.le_trans hs w2) w3
theorem AW.callSe {α : Type} {en : α → Option Value} {F1 : Option (α × Mem)} {F2 : α → Mem → Option (ρ × Mem)} {y : MethodName} {g : Fr} {n idx : Nat} {As : List Value} (d : decode f.2.1 pc = .ok (.invokestatic idx, 3)) (hl : Cond.methodLink f.1 idx y ∈ TB) (hy : MBS y g As.length) (hR : ∀ r, okR (R r) n ce sl)
    (hc : AM l E n ct ex y g en As M F1) (hst : stk = As.reverse ++ st) (hW8 : (st.map fun v => v.category).sum ≤ 8)
    (k : ∀ x M1, F1 = some (x, M1) → AW l E f R PQ ct ex ce sl (pc + 3) lv ((en x).toList ++ st) M1 (F2 x M1)) : AW l E f R PQ ct ex ce sl pc lv stk M (bnd F1 F2) := by
  intro r M9 hF p e s m args below meth c' H locs ls X hl9 hW hs hL
  cases hF1 : F1 with
  | none => rw [hF1] at hF; cases hF
  | some q =>
    obtain ⟨x, M1⟩ := q
    rw [hF1] at hF
    have hcb := mkCB (R := R r) (n := n) (mc := 0) (ms := 0) X.ts hy.1 hl ⟨(hR r).1, (hR r).2.1⟩
    refine W.afterRun (va_runS (As := As) (rest := st) X.fix (hc x M1 hF1) ⟨hcb, X.ts _ hy.2⟩ ⟨PcW_blind, fun U hU hWm => ⟨rfl, by rw [hU]; exact hW, KV.warm hWm X.kv⟩⟩ rfl rfl hl9.1 hst (lv_room hW8) d ⟨(hR r).2.2.1, (hR r).2.2.2⟩) hL fun H1 locs1 w1 w2 w3 => ?_
    exact k x M1 hF1 r M9 hF p e s m args below meth c' H1 locs1 ls X hl9 w1 (Nat.le_trans hs w2) w3
theorem str_recv {i : Nat} (hi : i < 36) : ∀ (s : State) (H : Heap), KV E s → Old E H → ∃ cell : Cell, H[eS E i]? = some cell ∧ cell.vm.isStatics = false ∧ s.vm.findClass "java/lang/String" = some cell.cls := by
  intro s H hKV hO
  obtain ⟨cell, h1, h2, h3, h4⟩ := (hKV.2.2.1 i hi).1
  exact ⟨cell, by rw [hO.kq _ (Array.getElem?_eq_some_iff.mp h1).1 h4]; exact h1, h2, h3⟩
end AWJ
section JC
variable (l : Launch) (E : Ev) (ct : Nat) (ex : Bool) (M : Mem)
theorem kJ_coder {i : Nat} (hi : i < 36) (n : Nat) (hn : 1 ≤ n) : AM l E n ct ex yJ0_coder_7d493 fJ0_coder_7d493 enI [.ref (eS E i)] M (some (0, M)) := by
  refine AM.of (by decide +kernel) ⟨rfl, rfl, rfl⟩ (Nat.le_of_ble_eq_true rfl) ?_
  refine AW.getCS (pc := 0) rfl dJ0_coder_7d493_0 ?_
  refine AW.eqF (F' := if (1 : Int32) = 0 then none else some (0, M)) (by rw [if_neg (by decide)]) ?_
  refine AW.if_eq (pc := 3) 13 dJ0_coder_7d493_3 (by decide) (fun h => absurd h (by decide)) (fun _ => ?_)
  refine AW.aload_n (pc := 6) dJ0_coder_7d493_6 rfl 0 rfl ?_
  refine AW.getSC (pc := 7) hi rfl dJ0_coder_7d493_7 ?_
  refine AW.goto (pc := 10) 14 dJ0_coder_7d493_10 (by decide) ?_
  exact AW.nret (pc := 14) dJ0_coder_7d493_14 rfl (by decide) (fun _ _ _ => rfl) (Nat.le_refl _) (Nat.le_refl _)
theorem kJ_isLatin1 {i : Nat} (hi : i < 36) (n : Nat) (hn : 1 ≤ n) : AM l E n ct ex yJ0_isLatin1_aae02 fJ0_isLatin1_aae02 enI [.ref (eS E i)] M (some (1, M)) := by
  refine AM.of (by decide +kernel) ⟨rfl, rfl, rfl⟩ (Nat.le_of_ble_eq_true rfl) ?_
  refine AW.getCS (pc := 0) rfl dJ0_isLatin1_aae02_0 ?_
  refine AW.eqF (F' := if (1 : Int32) = 0 then none else some (1, M)) (by rw [if_neg (by decide)]) ?_
  refine AW.if_eq (pc := 3) 17 dJ0_isLatin1_aae02_3 (by decide) (fun h => absurd h (by decide)) (fun _ => ?_)
  refine AW.aload_n (pc := 6) dJ0_isLatin1_aae02_6 rfl 0 rfl ?_
  refine AW.getSC (pc := 7) hi rfl dJ0_isLatin1_aae02_7 ?_
  refine AW.eqF (F' := if (0 : Int32) = 0 then some (1, M) else none) (by rw [if_pos rfl]) ?_
  refine AW.if_ne (pc := 10) 17 dJ0_isLatin1_aae02_10 (by decide) (fun _ => ?_) (fun h => absurd rfl h)
  refine AW.iconst (pc := 13) dJ0_isLatin1_aae02_13 (v := 1) (by decide) ?_
  refine AW.goto (pc := 14) 18 dJ0_isLatin1_aae02_14 (by decide) ?_
  exact AW.nret (pc := 18) dJ0_isLatin1_aae02_18 rfl (by decide) (fun _ _ _ => rfl) (Nat.le_refl _) (Nat.le_refl _)
theorem slen_all : ∀ i, i < 36 → slen.getD i 0 < 2 ^ 31 ∧ ∀ b ∈ sbyt.getD i [], b &&& 255 = b ∧ (b.toUInt32 % 65536).toInt32 = b ∧ narrow .char (.int b) = .int b := by decide +kernel
theorem kJ_length {i : Nat} (hi : i < 36) (n : Nat) (hn : 2 ≤ n) : AM l E n ct ex yJ0_length_8abf5 fJ0_length_8abf5 enI [.ref (eS E i)] M (some (Int32.ofNat (slen.getD i 0), M)) := by
  refine AM.of (by decide +kernel) ⟨rfl, rfl, rfl⟩ (Nat.le_of_ble_eq_true rfl) ?_
  refine AW.aload_n (pc := 0) dJ0_length_8abf5_0 rfl 0 rfl ?_
  refine AW.getSV (pc := 1) hi rfl dJ0_length_8abf5_1 ?_
  refine AW.salen (pc := 4) hi dJ0_length_8abf5_4 ?_
  refine AW.aload_n (pc := 5) dJ0_length_8abf5_5 rfl 0 rfl ?_
  refine AW.eqF (F' := bnd (some ((0 : Int32), M)) (fun _ M => some (Int32.ofNat (slen.getD i 0), M))) rfl ?_
  refine AW.callG (As := []) (pc := 6) dJ0_length_8abf5_6 mlJ0_335 mbJ0_coder_7d493 (str_recv hi) (fun _ => okR_N (by omega)) (kJ_coder l E ct ex M hi (n - 1) (by omega)) rfl (Nat.le_of_ble_eq_true rfl) (fun x M1 h => ?_)
  cases h
  refine AW.ishr (pc := 9) dJ0_length_8abf5_9 ?_
  have e : Int32.ofNat (slen.getD i 0) >>> ((0 : Int32) &&& 31) = Int32.ofNat (slen.getD i 0) := sb_shr0 _
  rw [e]
  exact AW.iret (pc := 10) dJ0_length_8abf5_10 rfl (fun _ _ _ => rfl) (Nat.le_refl _) (Nat.le_refl _)
theorem kJ_pcheck {i k : Int32} {v : Value} (hv : v.category = 1) (h1 : ¬ i < 0) (h2 : i < k) (n : Nat) (hn : 1 ≤ n) : AM l E n ct ex yJ3_checkIndex_8e157 fJ3_checkIndex_8e157 enI [.int i, .int k, v] M (some (i, M)) := by
  have hlg : lv_args 0 [.int i, .int k, v] = [(0, .int i), (1, .int k), (2, v)] := rfl
  refine AM.of (by decide +kernel) ⟨rfl, rfl, rfl⟩ (by simp [lg_sl, hv, fJ3_checkIndex_8e157, show ∀ z, (Value.int z).category = 1 from fun _ => rfl]) ?_
  rw [hlg]
  refine AW.iload_n (pc := 0) dJ3_checkIndex_8e157_0 rfl 0 rfl ?_
  refine AW.eqF (F' := if i < 0 then none else some (i, M)) (by rw [if_neg h1]) ?_
  refine AW.if_lt (pc := 1) 9 dJ3_checkIndex_8e157_1 (by decide) (fun h => absurd h h1) (fun _ => ?_)
  refine AW.iload_n (pc := 4) dJ3_checkIndex_8e157_4 rfl 0 rfl ?_
  refine AW.iload_n (pc := 5) dJ3_checkIndex_8e157_5 rfl 1 rfl ?_
  refine AW.eqF (F' := if i < k then some (i, M) else none) (by rw [if_pos h2]) ?_
  refine AW.icmp_lt (pc := 6) 16 dJ3_checkIndex_8e157_6 (by decide) (fun _ => ?_) (fun h => absurd h2 h)
  refine AW.iload_n (pc := 16) dJ3_checkIndex_8e157_16 rfl 0 rfl ?_
  exact AW.iret (pc := 17) dJ3_checkIndex_8e157_17 rfl (fun _ _ _ => rfl) (Nat.le_refl _) (Nat.le_refl _)
theorem kJ_scheck {i k : Int32} (h1 : ¬ i < 0) (h2 : i < k) (n : Nat) (hn : 2 ≤ n) : AM l E n ct ex yJ0_checkIndex_df160 fJ0_checkIndex_df160 enU [.int i, .int k] M (some ((), M)) := by
  refine AM.of (by decide +kernel) ⟨rfl, rfl, rfl⟩ (Nat.le_of_ble_eq_true rfl) ?_
  refine AW.iload_n (pc := 0) dJ0_checkIndex_df160_0 rfl 0 rfl ?_
  refine AW.iload_n (pc := 1) dJ0_checkIndex_df160_1 rfl 1 rfl ?_
  refine AW.getSF (pc := 2) rfl dJ0_checkIndex_df160_2 (fun v hv => ?_)
  refine AW.eqF (F' := bnd (some (i, M)) (fun _ M => some ((), M))) rfl ?_
  refine AW.cS3i (pc := 5) dJ0_checkIndex_df160_5 mlJ0_1059 mbJ3_checkIndex_8e157 (fun _ => okR_N (by omega)) (kJ_pcheck l E ct ex M hv h1 h2 (n - 1) (by omega)) (Nat.le_of_ble_eq_true rfl) (fun x M1 => ?_)
  refine AW.pop (pc := 8) rfl dJ0_checkIndex_df160_8 ?_
  exact AW.vret (pc := 9) dJ0_checkIndex_df160_9 rfl (fun _ _ _ => rfl) (Nat.le_refl _) (Nat.le_refl _)
theorem inb_lt {i : Int32} {k : Nat} (h : inb i k = true) (hk : k < 2 ^ 31) : ¬ i < 0 ∧ i < Int32.ofNat k := by
  have h1 : ¬ (i < 0 ∨ k ≤ i.toNatClampNeg) := of_decide_eq_true h
  have h2 : ¬ i < 0 := fun q => h1 (Or.inl q)
  refine ⟨h2, ?_⟩
  obtain ⟨j, hj, rfl⟩ := nI_of h2
  have h3 : ¬ k ≤ j := fun q => h1 (Or.inr (by rw [nI_clamp hj]; exact q))
  exact nI_lt (by omega) hk
theorem getD_mem {b : List Int32} {k : Nat} (h : k < b.length) : b.getD k 0 ∈ b := by
  rw [List.getD_eq_getElem?_getD, List.getElem?_eq_getElem h]
  exact List.getElem_mem h
theorem sbyt_len : ∀ i, i < 36 → (sbyt.getD i []).length = slen.getD i 0 := by decide +kernel
theorem ch_ok {i : Nat} {k : Int32} (hi : i < 36) (hk : inb k (slen.getD i 0) = true) : ((sbyt.getD i []).getD k.toNatClampNeg 0 &&& 255 = (sbyt.getD i []).getD k.toNatClampNeg 0) ∧ (((sbyt.getD i []).getD k.toNatClampNeg 0).toUInt32 % 65536).toInt32 = (sbyt.getD i []).getD k.toNatClampNeg 0 ∧ narrow .char (.int ((sbyt.getD i []).getD k.toNatClampNeg 0)) = .int ((sbyt.getD i []).getD k.toNatClampNeg 0) := by
  have h1 : ¬ (k < 0 ∨ slen.getD i 0 ≤ k.toNatClampNeg) := of_decide_eq_true hk
  exact (slen_all i hi).2 _ (getD_mem (by rw [sbyt_len i hi]; exact Nat.not_le.mp fun q => h1 (Or.inr q)))
theorem kJ_lcharAt {i : Nat} {k : Int32} (hi : i < 36) (hk : inb k (slen.getD i 0) = true) (n : Nat) (hn : 3 ≤ n) : AM l E n ct ex yJ1_charAt_3b067 fJ1_charAt_3b067 enI [.ref (eV E i), .int k] M (some ((sbyt.getD i []).getD k.toNatClampNeg 0, M)) := by
  obtain ⟨h1, h2⟩ := inb_lt hk (slen_all i hi).1
  obtain ⟨c1, c2, c3⟩ := ch_ok hi hk
  refine AM.of (by decide +kernel) ⟨rfl, rfl, rfl⟩ (Nat.le_of_ble_eq_true rfl) ?_
  refine AW.iload_n (pc := 0) dJ1_charAt_3b067_0 rfl 1 rfl ?_
  refine AW.aload_n (pc := 1) dJ1_charAt_3b067_1 rfl 0 rfl ?_
  refine AW.salen (pc := 2) hi dJ1_charAt_3b067_2 ?_
  refine AW.eqF (F' := bnd (some ((), M)) (fun _ M => some ((sbyt.getD i []).getD k.toNatClampNeg 0, M))) rfl ?_
  refine AW.cS2v (pc := 3) dJ1_charAt_3b067_3 mlJ1_9 mbJ0_checkIndex_df160 (fun _ => okR_N (by omega)) (kJ_scheck l E ct ex M h1 h2 (n - 1) (by omega)) (Nat.le_of_ble_eq_true rfl) (fun _ M1 => ?_)
  refine AW.aload_n (pc := 6) dJ1_charAt_3b067_6 rfl 0 rfl ?_
  refine AW.iload_n (pc := 7) dJ1_charAt_3b067_7 rfl 1 rfl ?_
  refine AW.sbald (pc := 8) hi dJ1_charAt_3b067_8 hk ?_
  refine AW.sipush (pc := 9) dJ1_charAt_3b067_9 (v := 255) (by decide) ?_
  refine AW.iand (pc := 12) dJ1_charAt_3b067_12 ?_
  rw [c1]
  refine AW.i2c (pc := 13) dJ1_charAt_3b067_13 c2 ?_
  exact AW.nret (pc := 14) dJ1_charAt_3b067_14 rfl c3 (fun _ _ _ => rfl) (Nat.le_refl _) (Nat.le_refl _)
theorem kJ_charAt {i : Nat} {k : Int32} (hi : i < 36) (hk : inb k (slen.getD i 0) = true) (n : Nat) (hn : 4 ≤ n) : AM l E n ct ex yJ0_charAt_5068e fJ0_charAt_5068e enI [.ref (eS E i), .int k] M (some ((sbyt.getD i []).getD k.toNatClampNeg 0, M)) := by
  obtain ⟨c1, c2, c3⟩ := ch_ok hi hk
  refine AM.of (by decide +kernel) ⟨rfl, rfl, rfl⟩ (Nat.le_of_ble_eq_true rfl) ?_
  refine AW.aload_n (pc := 0) dJ0_charAt_5068e_0 rfl 0 rfl ?_
  refine AW.eqF (F' := bnd (some ((1 : Int32), M)) (fun _ M => some ((sbyt.getD i []).getD k.toNatClampNeg 0, M))) rfl ?_
  refine AW.callG (As := []) (pc := 1) dJ0_charAt_5068e_1 mlJ0_492 mbJ0_isLatin1_aae02 (str_recv hi) (fun _ => okR_N (by omega)) (kJ_isLatin1 l E ct ex M hi (n - 1) (by omega)) rfl (Nat.le_of_ble_eq_true rfl) (fun x M1 h => ?_)
  cases h
  refine AW.eqF (F' := if (1 : Int32) = 0 then none else bnd (some ((sbyt.getD i []).getD k.toNatClampNeg 0, M)) (fun x M => some (x, M))) (by rw [if_neg (by decide)]; rfl) ?_
  refine AW.if_eq (pc := 4) 16 dJ0_charAt_5068e_4 (by decide) (fun h => absurd h (by decide)) (fun _ => ?_)
  refine AW.aload_n (pc := 7) dJ0_charAt_5068e_7 rfl 0 rfl ?_
  refine AW.getSV (pc := 8) hi rfl dJ0_charAt_5068e_8 ?_
  refine AW.iload_n (pc := 11) dJ0_charAt_5068e_11 rfl 1 rfl ?_
  refine AW.callSe (As := [.ref (eV E i), .int k]) (pc := 12) dJ0_charAt_5068e_12 mlJ0_495 mbJ1_charAt_3b067 (fun _ => okR_N (by omega)) (kJ_lcharAt l E ct ex M hi hk (n - 1) (by omega)) rfl (Nat.le_of_ble_eq_true rfl) (fun x M1 h => ?_)
  cases h
  exact AW.nret (pc := 15) dJ0_charAt_5068e_15 rfl c3 (fun _ _ _ => rfl) (Nat.le_refl _) (Nat.le_refl _)
end JC
section AWSt2
variable {ρ : Type} {l : Launch} {E : Ev} {f : Fr} {R : ρ → Room} {PQ : ρ → Mem → Array Value → State → List Frame → State → Prop} {ct : Nat} {ex : Bool} {ce sl : Nat} {pc : Nat} {lv : List (Nat × Value)} {st : List Value} {M : Mem} {F2 : Int32 → Mem → Option (ρ × Mem)} {n idx q : Nat}
theorem ad_str {q : Nat} (h : 1000 ≤ q) : ad E q = eS E (q - 1000) := by
  unfold ad
  rw [if_neg (by omega)]
theorem AW.str_length (d : decode f.2.1 pc = .ok (.invokevirtual idx, 3)) (hl : Cond.methodLink f.1 idx yJ0_length_8abf5 ∈ TB) (hn : 5 ≤ n) (hR : ∀ r, okR (R r) n ce sl) (hW8 : (st.map fun v => v.category).sum ≤ 8) (k : ∀ x M1, AW l E f R PQ ct ex ce sl (pc + 3) lv (.int x :: st) M1 (F2 x M1)) : AW l E f R PQ ct ex ce sl pc lv (.ref (ad E q) :: st) M (bnd (zS_length q M) F2) := by
  unfold zS_length
  by_cases h : 1000 ≤ q ∧ q < 1036
  · rw [if_pos h, ad_str h.1]
    exact AW.callG (As := []) d hl mbJ0_length_8abf5 (str_recv (by omega)) hR (kJ_length l E ct ex M (by omega) n (by omega)) rfl hW8 (fun x M1 _ => k x M1)
  · rw [if_neg h]
    exact AW.none
theorem AW.str_charAt {i : Int32} (d : decode f.2.1 pc = .ok (.invokevirtual idx, 3)) (hl : Cond.methodLink f.1 idx yJ0_charAt_5068e ∈ TB) (hn : 5 ≤ n) (hR : ∀ r, okR (R r) n ce sl) (hW8 : (st.map fun v => v.category).sum ≤ 8) (k : ∀ x M1, AW l E f R PQ ct ex ce sl (pc + 3) lv (.int x :: st) M1 (F2 x M1)) : AW l E f R PQ ct ex ce sl pc lv (.int i :: .ref (ad E q) :: st) M (bnd (zS_charAt q i M) F2) := by
  unfold zS_charAt
  by_cases h : (1000 ≤ q ∧ q < 1036) ∧ inb i (slen.getD (q - 1000) 0) = true
  · rw [if_pos h, ad_str h.1.1]
    exact AW.callG (As := [.int i]) d hl mbJ0_charAt_5068e (str_recv (by omega)) hR (kJ_charAt l E ct ex M (by omega) h.2 n (by omega)) rfl hW8 (fun x M1 _ => k x M1)
  · rw [if_neg h]
    exact AW.none
end AWSt2
