/-! ===== the start: what the tables and the premises give ===== -/
def SC (q : String × Nat × String) : List Cond :=
  [.exactly (.string q.1 q.2.1) "java/lang/String", .eq (.field (.string q.1 q.2.1) "java/lang/String" "coder" "B") (.int 0), .arrayOf (.field (.string q.1 q.2.1) "java/lang/String" "value" "[B") .byte,
   .eq (.length (.field (.string q.1 q.2.1) "java/lang/String" "value" "[B")) (.int (Int32.ofNat q.2.2.length))] ++
  (List.range q.2.2.length).map (fun j => .eq (.elem (.field (.string q.1 q.2.1) "java/lang/String" "value" "[B") (.int (Int32.ofNat j))) (.int ((q.2.2.toList.map (fun ch => Int32.ofNat ch.toNat)).getD j 0)))
def FLC : List Cond := flatC (Jvm.Cond.and given_1 narrow_1)
def scP : List (List Nat) := [[39, 40, 41, 42, 43, 44, 45, 46, 47, 48, 49, 50, 51, 52, 53, 54, 55, 56, 57, 58, 59, 60, 61, 62, 63, 64], [65, 66, 67, 68, 69, 70, 71, 72, 73, 74, 75, 76, 77, 78, 79], [80, 81, 82, 83, 84, 85, 86, 87], [88, 89, 90, 91, 92, 93, 94, 95, 96], [97, 98, 99, 100, 101, 102, 103, 104, 105], [106, 107, 108, 109, 110, 111, 112, 113, 114], [115, 116, 117, 118, 119, 120, 121], [122, 123, 124, 125, 126, 127, 128, 129], [130, 131, 132, 133, 134, 135, 136, 137], [138, 139, 140, 141, 142, 143, 144, 145], [146, 147, 148, 149, 150, 151, 152, 153], [154, 155, 156, 157, 158, 159, 160, 161, 162, 163], [164, 165, 166, 167, 168, 169, 170, 171, 172], [173, 174, 175, 176, 177, 178, 179, 180, 181], [182, 183, 184, 185, 186, 187, 188], [189, 190, 191, 192, 193, 194], [195, 196, 197, 198, 199, 200, 201, 202, 203], [204, 205, 206, 207, 208, 209, 210, 211, 212], [213, 214, 215, 216, 217, 218, 219, 220, 221, 222, 223, 224, 225, 226, 227, 228], [229, 230, 231, 232, 233, 234, 235, 236, 237, 238, 239, 240], [241, 242, 243, 244, 245, 246, 247, 248], [250, 251, 252, 253, 254, 255, 256, 257, 258], [260, 261, 262, 263, 264, 265, 266, 267], [269, 270, 271, 272, 273, 274, 275, 276, 277, 278], [280, 281, 282, 283, 284, 285, 286, 287, 288], [290, 291, 292, 293, 294, 295, 296, 297, 298], [300, 301, 302, 303, 304, 305, 306, 307, 308], [310, 311, 312, 313, 314, 315, 316, 317, 318], [320, 321, 322, 323, 324, 325, 326, 327, 328], [330, 331, 332, 333, 334, 335, 336, 337], [339, 340, 341, 342, 343, 344, 345, 346], [348, 349, 350, 351, 352, 353, 354, 355], [357, 358, 359, 360, 361, 362, 363, 364, 365], [367, 368, 369, 370, 371, 372, 373], [375, 376, 377, 378, 379, 380, 381], [383, 384, 385, 386, 387, 388]]
set_option maxRecDepth 100000 in
theorem scp_eq : srL.map SC = scP.map (fun ps => ps.filterMap (fun i => FLC[i]?)) := by decide +kernel
theorem sc_in : ∀ q ∈ srL, ∀ w ∈ SC q, w ∈ flatC (Jvm.Cond.and given_1 narrow_1) := by
  intro q hq w hw
  have h1 : SC q ∈ srL.map SC := List.mem_map.mpr ⟨q, hq, rfl⟩
  rw [scp_eq] at h1
  obtain ⟨ps, -, h2⟩ := List.mem_map.mp h1
  rw [← h2] at hw
  obtain ⟨i, -, hi⟩ := List.mem_filterMap.mp hw
  exact List.mem_of_getElem? hi
set_option maxRecDepth 100000 in
theorem sref_in : ∀ q ∈ srL, Cond.stringRef q.1 q.2.1 q.2.2 ∈ lw_tbl := by decide +kernel
theorem slen_lt : ∀ q ∈ srL, q.2.2.length < 100 := by decide +kernel
set_option maxRecDepth 100000 in
theorem nst_in : ∀ w ∈ nstL, w ∈ lw_tbl := by decide +kernel
set_option maxRecDepth 100000 in
theorem xw_in : ∀ w ∈ xwL, w ∈ lw_tbl := by decide +kernel
theorem str_one {args : Array Value} {s : State} (hfl : ∀ w ∈ flatC (Jvm.Cond.and given_1 narrow_1), w.before args s = true) {A : Nat → Prop} (hA : ∀ a : Nat, a < s.heap.size → ¬ A a) {q : String × Nat × String} (hq : q ∈ srL) :
    ∃ a v : Nat, (Term.string q.1 q.2.1).eval args s none [] s = some (.ref a) ∧ va_O "java/lang/String" a A s s.heap ∧ va_OF "java/lang/String" "coder" "B" (.int 0) a A s s.heap ∧ va_OF "java/lang/String" "value" "[B" (.ref v) a A s s.heap ∧ va_T .byte v q.2.2.length (fun j => .int ((q.2.2.toList.map (fun ch => Int32.ofNat ch.toNat)).getD j 0)) A s s.heap := by
  have h : ∀ w ∈ SC q, w.before args s = true := fun w hw => hfl w (sc_in q hq w hw)
  have hex := h _ (List.mem_append_left _ (List.mem_cons_self))
  have hco := h _ (List.mem_append_left _ (List.mem_cons_of_mem _ List.mem_cons_self))
  have har := h _ (List.mem_append_left _ (List.mem_cons_of_mem _ (List.mem_cons_of_mem _ List.mem_cons_self)))
  have hle := h _ (List.mem_append_left _ (List.mem_cons_of_mem _ (List.mem_cons_of_mem _ (List.mem_cons_of_mem _ List.mem_cons_self))))
  have hel : ∀ j : Nat, j < q.2.2.length → (Cond.eq (.elem (.field (.string q.1 q.2.1) "java/lang/String" "value" "[B") (.int (Int32.ofNat j))) (.int ((q.2.2.toList.map (fun ch => Int32.ofNat ch.toNat)).getD j 0))).before args s = true :=
    fun j hj => h _ (List.mem_append_right _ (List.mem_map.mpr ⟨j, List.mem_range.mpr hj, rfl⟩))
  obtain ⟨a, c9, cA, kA, q1, -⟩ := Cond.exactly_spec (args := args) (first := s) (o := none) (s := s) (idx := []) hex
  have hN : q.2.2.length < 2 ^ 31 := Nat.lt_trans (slen_lt q hq) (by decide)
  obtain ⟨v, hv, hT⟩ := va_Tof (f := fun j => Value.int ((q.2.2.toList.map (fun ch => Int32.ofNat ch.toNat)).getD j 0)) hN har (va_eqt hle) (fun j hj => va_eqt (hel j hj)) hA
  exact ⟨a, v, q1, va_Oof hex q1 hA, vk_OFof q1 (va_eqt hco) hA, vk_OFof q1 hv hA, hT⟩

set_option maxRecDepth 100000 in
theorem inst_0 : Cond.instantiable RX0 7 ∈ TB := tb_in 300 rfl rfl
set_option maxRecDepth 100000 in
theorem inst_1 : Cond.instantiable RX1 3 ∈ TB := tb_in 388 rfl rfl
set_option maxRecDepth 100000 in
theorem inst_2 : Cond.instantiable RX2 6 ∈ TB := tb_in 482 rfl rfl
set_option maxRecDepth 100000 in
theorem inst_3 : Cond.instantiable RX3 7 ∈ TB := tb_in 424 rfl rfl
set_option maxRecDepth 100000 in
theorem inst_4 : Cond.instantiable RX4 4 ∈ TB := tb_in 292 rfl rfl
set_option maxRecDepth 100000 in
theorem inst_5 : Cond.instantiable RX5 5 ∈ TB := tb_in 356 rfl rfl
set_option maxRecDepth 100000 in
theorem inst_6 : Cond.instantiable RX6 12 ∈ TB := tb_in 138 rfl rfl
set_option maxRecDepth 100000 in
theorem inst_7 : Cond.instantiable RX7 5 ∈ TB := tb_in 459 rfl rfl
set_option maxRecDepth 100000 in
theorem inst_8 : Cond.instantiable RX8 13 ∈ TB := tb_in 144 rfl rfl
set_option maxRecDepth 100000 in
theorem inst_9 : Cond.instantiable RX9 4 ∈ TB := tb_in 150 rfl rfl
set_option maxRecDepth 100000 in
theorem inst_10 : Cond.instantiable RX10 5 ∈ TB := tb_in 382 rfl rfl
set_option maxRecDepth 100000 in
theorem inst_11 : Cond.instantiable RX11 15 ∈ TB := tb_in 130 rfl rfl
set_option maxRecDepth 100000 in
theorem inst_12 : Cond.instantiable RX12 58 ∈ TB := tb_in 1433 rfl rfl
theorem inst_all : ∀ (c : Nat) (q : vw_C), clsL[c]? = some q → Cond.instantiable q.1 q.2.2 ∈ TB := by
  intro c q h
  match c, h with
  | 0, h => cases h; exact inst_0
  | 1, h => cases h; exact inst_1
  | 2, h => cases h; exact inst_2
  | 3, h => cases h; exact inst_3
  | 4, h => cases h; exact inst_4
  | 5, h => cases h; exact inst_5
  | 6, h => cases h; exact inst_6
  | 7, h => cases h; exact inst_7
  | 8, h => cases h; exact inst_8
  | 9, h => cases h; exact inst_9
  | 10, h => cases h; exact inst_10
  | 11, h => cases h; exact inst_11
  | 12, h => cases h; exact inst_12
  | k + 13, h => simp [clsL] at h
theorem cls_known {args : Array Value} {s : State} (hts : ∀ w ∈ TB, w.before args s = true) (c : Nat) : ∃ (cC : ClassId) (iS : Nat → Nat), ∀ q : vw_C, clsL[c]? = some q → u_Kn s q.1 q.2.1 q.2.2 cC iS := by
  cases hq : clsL[c]? with
  | none => exact ⟨default, fun _ => 0, fun q h => by cases h⟩
  | some q =>
    obtain ⟨cC, iS, h⟩ := u_known hts (cls_ws hq) (hts _ (inst_all c q hq))
    exact ⟨cC, iS, fun q9 h9 => by cases h9; exact h⟩
theorem arr_known {args : Array Value} {s : State} {ty : FieldType} (h : (Cond.arrayClass ty).before args s = true) (ht : ∀ cA : ClassId, s.vm.findClass ("[" ++ ty.toString) = some cA → va_RA s cA ty) : ∃ cA : ClassId, ArrOfT s cA ty ∧ va_RA s cA ty := by
  obtain ⟨cA, kA, comp, h1, h2, h3⟩ := Cond.arrayClass_spec h
  exact ⟨cA, fun n z => ⟨fun k h => (by cases h), kA, h2, comp, h3⟩, ht cA h1⟩
theorem sarr_known {args : Array Value} {s : State} {C : String} (h : (Cond.arrayOver (.object C)).before args s = true) : ∃ cA : ClassId, ArrOfT s cA (.object C) ∧ va_RA s cA (.object C) := by
  obtain ⟨comp, cA, kA, h1, h2, h3, h4, h5⟩ := Cond.arrayOver_spec h
  exact ⟨cA, fun n z => ⟨fun k h => (by cases h), kA, h3, comp, h4⟩, kA, comp, h3, h4, h1, h5⟩
theorem pick2 {α β : Type} {P : Nat → α → β → Prop} (h : ∀ i, ∃ a b, P i a b) : ∃ (f : Nat → α) (g : Nat → β), ∀ i, P i (f i) (g i) :=
  ⟨fun i => (h i).choose, fun i => (h i).choose_spec.choose, fun i => (h i).choose_spec.choose_spec⟩
/-- the memory before anything is made -/
def M00 : Mem := (fun _ _ => 0, fun _ _ => 0, fun _ _ => 0)
set_option maxRecDepth 100000 in
theorem zq1_in : Cond.laysStatic Bundle.tN "UNASSIGNED_STACK" Bundle.steD ∈ lw_tbl ∧ Cond.laysStatic Bundle.tN "SUPPRESSED_SENTINEL" Bundle.listD ∈ lw_tbl ∧ Cond.initialized Bundle.tN ∈ lw_tbl ∧ Cond.laysStatic "java/lang/String" "COMPACT_STRINGS" "Z" ∈ lw_tbl ∧ Cond.initialized "java/lang/String" ∈ lw_tbl ∧ Cond.laysStatic "jdk/internal/util/Preconditions" "SIOOBE_FORMATTER" "Ljava/util/function/BiFunction;" ∈ lw_tbl ∧ Cond.initialized "jdk/internal/util/Preconditions" ∈ lw_tbl ∧ Cond.arrayOver (.object "java/lang/String") ∈ lw_tbl ∧ Cond.arrayClass .int ∈ lw_tbl ∧ Cond.arrayClass .long ∈ lw_tbl ∧ Cond.arrayClass .boolean ∈ lw_tbl := by decide +kernel
set_option maxRecDepth 100000 in
theorem fl_in : Cond.isRef (.static Bundle.tN "UNASSIGNED_STACK" Bundle.steD) ∈ flatC (Jvm.Cond.and given_1 narrow_1) ∧ Cond.isRef (.static Bundle.tN "SUPPRESSED_SENTINEL" Bundle.listD) ∈ flatC (Jvm.Cond.and given_1 narrow_1) ∧ Cond.eq (.static "java/lang/String" "COMPACT_STRINGS" "Z") (.int 1) ∈ flatC (Jvm.Cond.and given_1 narrow_1) ∧ Cond.isRef (.static "jdk/internal/util/Preconditions" "SIOOBE_FORMATTER" "Ljava/util/function/BiFunction;") ∈ flatC (Jvm.Cond.and given_1 narrow_1) ∧ Cond.not (.castable xiae xnse) ∈ flatC (Jvm.Cond.and given_1 narrow_1) := by decide +kernel
theorem kv_known {b : Nat} {s : State} (hts : ∀ w ∈ lw_tbl, w.before #[Value.ref b] s = true) (hgv : (Jvm.Cond.and given_1 narrow_1).before #[Value.ref b] s = true) : ∃ E : Ev, eH E = s.heap ∧ KV E s := by
  have hfl := flat_of_before _ hgv
  have hTB : ∀ w ∈ TB, w.before #[Value.ref b] s = true := fun w hw => hts w (List.mem_filter.mp hw).1
  obtain ⟨fC, fI, hCI⟩ := pick2 (cls_known hTB)
  obtain ⟨z1, z2, z3, z4, z5, z6, z7, z8, z9, z10, z11⟩ := zq1_in
  obtain ⟨y1, y2, y3, y4, y5⟩ := fl_in
  obtain ⟨a1, ha1⟩ := arr_known (hts _ z9) (fun _ h => h)
  obtain ⟨a2, ha2⟩ := arr_known (hts _ z10) (fun _ h => h)
  obtain ⟨a3, ha3⟩ := arr_known (hts _ z11) (fun _ h => h)
  obtain ⟨a4, ha4⟩ := sarr_known (hts _ z8)
  have hA : ∀ a : Nat, a < s.heap.size → ¬ s.heap.size ≤ a := fun a h => Nat.not_le.mpr h
  have hstr : ∀ i : Nat, ∃ a v : Nat, ∀ q : String × Nat × String, srL[i]? = some q → (Term.string q.1 q.2.1).eval #[Value.ref b] s none [] s = some (.ref a) ∧ va_O "java/lang/String" a (fun x => s.heap.size ≤ x) s s.heap ∧ va_OF "java/lang/String" "coder" "B" (.int 0) a (fun x => s.heap.size ≤ x) s s.heap ∧ va_OF "java/lang/String" "value" "[B" (.ref v) a (fun x => s.heap.size ≤ x) s s.heap ∧ va_T .byte v q.2.2.length (fun j => .int ((q.2.2.toList.map (fun ch => Int32.ofNat ch.toNat)).getD j 0)) (fun x => s.heap.size ≤ x) s s.heap := by
    intro i
    cases hq : srL[i]? with
    | none => exact ⟨0, 0, fun q h => by cases h⟩
    | some q =>
      obtain ⟨a, v, h⟩ := str_one hfl hA (List.mem_of_getElem? hq)
      exact ⟨a, v, fun q9 h9 => by cases h9; exact h⟩
  obtain ⟨fS, fV, hSV⟩ := pick2 hstr
  let E : Ev := (fS, fV, fC, fI, (fun t => if t = 1 then a1 else if t = 2 then a2 else if t = 3 then a3 else a4), s.heap)
  refine ⟨E, rfl, ⟨fun c q hq => hCI c q hq, ?_⟩, fun i q hq => vk_R.of (hts _ (sref_in q (List.mem_of_getElem? hq))) (hSV i q hq).1, ?_, fun w hw => va_tabs (w_nest_on (nst_ok w hw)) rfl (hts w (nst_in w hw)), fun w hw => va_tabs (w_nest_on (xw_ok w hw)) rfl (hts w (xw_in w hw)),
    vx_Zqof (hts _ z1) (hts _ z3) (hfl _ y1) hA, vx_Zqof (hts _ z2) (hts _ z3) (hfl _ y2) hA, ⟨va_Nc.of (hfl _ y5), va_AO.of (hts _ z8)⟩, va_Zof (hts _ z4) (hts _ z5) (va_eqi (hfl _ y3)) hA, va_Zqof (hts _ z6) (hts _ z7) (hfl _ y4) hA⟩
  · intro k q hk
    match k, hk with
    | 0, hk => cases hk; exact ha1
    | 1, hk => cases hk; exact ha2
    | 2, hk => cases hk; exact ha3
    | 3, hk => cases hk; exact ha4
    | k + 4, hk => simp [tysL] at hk
  · intro i hi
    have hlen : srL.length = 36 := rfl
    have hq : srL[i]? = some srL[i] := List.getElem?_eq_getElem (by omega)
    obtain ⟨-, h2, h3, h4, h5⟩ := hSV i _ hq
    refine ⟨h2, h3, h4, ?_⟩
    have e1 : slen.getD i 0 = srL[i].2.2.length := by simp only [slen, List.getD_eq_getElem?_getD, List.getElem?_map, hq, Option.map_some, Option.getD_some]
    have e2 : sbyt.getD i [] = srL[i].2.2.toList.map (fun ch => Int32.ofNat ch.toNat) := by simp only [sbyt, List.getD_eq_getElem?_getD, List.getElem?_map, hq, Option.map_some, Option.getD_some]
    rw [e1, e2]
    exact h5
theorem trc_off {l : Launch} (h : l.flags = flags0) : l.stackTraces = false := by
  show (!l.flags.contains noTraceFlag) = false
  rw [h]
  simp [flags0]
/-- from the entry to the end, if the function says 1 -/
theorem law_W {Z : List Frame → Array Value → State → State → Prop} {p : Program} {e : Env} {s : State} {m : MethodId} {below : List Frame} {meth : Method} {c : Code} (l : Launch) (hflags : l.flags = flags0) {b L : Nat} {xs : Nat → Int32} (hZ : LEnd l Z) {M9 : Mem} (hz : zL_law L xs M00 = some (1, M9))
    (h1 : p.tables.exec = Jvm.exec) (h2 : c.code = code) (h3 : meth.sig.returnType = ret) (h4 : c.maxLocals = 7) (h5 : s.vm.findClass RL = some m.cls) (hts : ∀ w ∈ lw_tbl, w.before #[Value.ref b] s = true) (hX : va_X b L xs s s.heap) (hbl : b < s.heap.size) (hlk : meth.locks = false) (hgv : (Jvm.Cond.and given_1 narrow_1).before #[Value.ref b] s = true) :
    W p l e room_1 s m #[Value.ref b] below meth c s.heap [] 0 0 (Z below #[Value.ref b] s) (entryFrame m ([Value.ref b] : List Value).toArray 7) := by
  obtain ⟨E, hE, hKV⟩ := kv_known hts hgv
  have hold : Old E s.heap := by rw [← hE]; exact ⟨Nat.le_refl _, fun _ _ => rfl⟩
  rw [lg_entry_eq]
  have K := kL_law l E (trc_off hflags) Z hZ b L xs M00 1 M9 hz p e s m #[Value.ref b] below meth c s.heap [] _ ⟨h1, h2, h3, h4, h5, fun w hw => hts w (List.mem_filter.mp hw).1, hlk, Or.inr rfl, Or.inr rfl, hKV, hold⟩ (lv_entry [Value.ref b] (Nat.le_of_ble_eq_true rfl)) ⟨fun k q hk => by simp [wsO] at hk, hold, fun _ => by rw [hE]; rfl⟩ (Nat.le_refl _) (fun _ h => by cases h)
  intro T hT X
  obtain ⟨t, q1, q2⟩ := K T hT X
  exact ⟨t, q1, q2 ⟨rfl, hX, hbl, hE.symm⟩ rfl⟩
