/-! ===== functions over the memory and their contracts: printed by wip/whole/lay.py ===== -/
-- java/util/Arrays.fill([II)V
def zJ7_fill_53178_B5 (KK5 : Nat → Int32 → Int32 → Int32 → Mem → Option (Unit × Mem)) (x0 : Nat) (x1 : Int32) (x2 : Int32) (x3 : Int32) (M : Mem) : Option (Unit × Mem) :=
  if x3 ≤ x2 then
    some ((), M)
  else
    if (K0 x0).1 = 1 ∧ inb x2 (K0 x0).2 = true then
    lt (sI M x0 (Int32.toNatClampNeg x2) x1) fun M3 =>
    KK5 x0 x1 (x2 + 1) x3 M3
    else none
def zJ7_fill_53178_L5 : Nat → Nat → Int32 → Int32 → Int32 → Mem → Option (Unit × Mem)
  | 0 => fun _ _ _ _ _ => none
  | k + 1 => zJ7_fill_53178_B5 (zJ7_fill_53178_L5 k)
def zJ7_fill_53178 (x0 : Nat) (x1 : Int32) (M : Mem) : Option (Unit × Mem) :=
  if (K0 x0).1 = 1 then
  lt (Int32.ofNat (K0 x0).2) fun v2 =>
  zJ7_fill_53178_L5 FU x0 x1 0 v2 M
  else none
set_option maxRecDepth 20000 in
set_option maxHeartbeats 4000000 in
theorem kJ7_fill_53178_B5 (l : Launch) (E : Ev) (n : Nat) (hn : 1 ≤ n) (ct : Nat) (hct : 111 ≤ ct) (ex : Bool) (KK5 : Nat → Int32 → Int32 → Int32 → Mem → Option (Unit × Mem)) (hKK5 : ∀ (x0 : Nat) (x1 : Int32) (x2 : Int32) (x3 : Int32) (M : Mem), AW l E fJ7_fill_53178 (fun _ => rmN n 0 0) (PQr E 0 0 ct ex enU) ct ex 0 0 5 [(0, .ref (ad E x0)), (1, .int x1), (2, .int x2), (3, .int x3)] [] M (KK5 x0 x1 x2 x3 M)) (x0 : Nat) (x1 : Int32) (x2 : Int32) (x3 : Int32) (M : Mem) : AW l E fJ7_fill_53178 (fun _ => rmN n 0 0) (PQr E 0 0 ct ex enU) ct ex 0 0 5 [(0, .ref (ad E x0)), (1, .int x1), (2, .int x2), (3, .int x3)] [] M (zJ7_fill_53178_B5 KK5 x0 x1 x2 x3 M) := by
  unfold zJ7_fill_53178_B5
  refine AW.iload_n (pc := 5) dJ7_fill_53178_5 rfl 2 rfl ?_
  refine AW.iload_n (pc := 6) dJ7_fill_53178_6 rfl 3 rfl ?_
  refine AW.icmp_ge (pc := 7) 20 dJ7_fill_53178_7 (by decide) (fun h1 => ?_) (fun h1 => ?_)
  · exact AW.vret (pc := 20) dJ7_fill_53178_20 rfl (fun _ _ _ => rfl) (Nat.le_refl _) (Nat.le_refl _)
  · refine AW.aload_n (pc := 10) dJ7_fill_53178_10 rfl 0 rfl ?_
    refine AW.iload_n (pc := 11) dJ7_fill_53178_11 rfl 2 rfl ?_
    refine AW.iload_n (pc := 12) dJ7_fill_53178_12 rfl 1 rfl ?_
    refine AW.chk (fun g2 => ?_)
    refine AW.iast (pc := 13) dJ7_fill_53178_13 (k0e g2.1) (kct (k0e g2.1) rfl hct) g2.2 ?_
    refine AW.genM (fun M3 => ?_)
    refine AW.iinc (pc := 14) (w := 2) [1, 2, 0, 3] [(0, .ref (ad E x0)), (1, .int x1), (2, .int (x2 + 1)), (3, .int x3)] dJ7_fill_53178_14 rfl (inc_1 _) (by decide) rfl ?_
    refine AW.goto (pc := 17) 5 dJ7_fill_53178_17 (by decide) ?_
    exact hKK5 x0 x1 (x2 + 1) x3 M3
set_option maxRecDepth 20000 in
set_option maxHeartbeats 4000000 in
theorem kJ7_fill_53178_L5 (l : Launch) (E : Ev) (n : Nat) (hn : 1 ≤ n) (ct : Nat) (hct : 111 ≤ ct) (ex : Bool) (k : Nat) : ∀ (x0 : Nat) (x1 : Int32) (x2 : Int32) (x3 : Int32) (M : Mem), AW l E fJ7_fill_53178 (fun _ => rmN n 0 0) (PQr E 0 0 ct ex enU) ct ex 0 0 5 [(0, .ref (ad E x0)), (1, .int x1), (2, .int x2), (3, .int x3)] [] M (zJ7_fill_53178_L5 k x0 x1 x2 x3 M) := by
  induction k with
  | zero => intro x0 x1 x2 x3 M; exact AW.none
  | succ k ih =>
    intro x0 x1 x2 x3 M
    exact kJ7_fill_53178_B5 l E n hn ct hct ex (zJ7_fill_53178_L5 k) ih x0 x1 x2 x3 M
set_option maxRecDepth 20000 in
set_option maxHeartbeats 4000000 in
theorem kJ7_fill_53178 (l : Launch) (E : Ev) (n : Nat) (hn : 1 ≤ n) (ct : Nat) (hct : 111 ≤ ct) (ex : Bool) (x0 : Nat) (x1 : Int32) (M : Mem) : AM l E n ct ex yJ7_fill_53178 fJ7_fill_53178 enU [.ref (ad E x0), .int x1] M (zJ7_fill_53178 x0 x1 M) := by
  unfold zJ7_fill_53178
  refine AM.of (by decide +kernel) ⟨rfl, rfl, rfl⟩ (Nat.le_of_ble_eq_true rfl) ?_
  refine AW.iconst (pc := 0) dJ7_fill_53178_0 ci_0 ?_
  refine AW.istore_n (pc := 1) [1, 2, 0] [(0, .ref (ad E x0)), (1, .int x1), (2, .int 0)] dJ7_fill_53178_1 rfl (by decide) rfl ?_
  refine AW.aload_n (pc := 2) dJ7_fill_53178_2 rfl 0 rfl ?_
  refine AW.chk (fun g1 => ?_)
  refine AW.alen (pc := 3) dJ7_fill_53178_3 (k0e g1) (by decide) (kct (k0e g1) rfl hct) rfl ?_
  refine AW.genI (fun v2 => ?_)
  refine AW.istore_n (pc := 4) [1, 2, 3, 0] [(0, .ref (ad E x0)), (1, .int x1), (2, .int 0), (3, .int v2)] dJ7_fill_53178_4 rfl (by decide) rfl ?_
  exact kJ7_fill_53178_L5 l E n hn ct hct ex FU x0 x1 0 v2 M
-- java/lang/Integer.bitCount(I)I
def zJ6_bitCount_0f7a4 (x0 : Int32) (M : Mem) : Option (Int32 × Mem) :=
  lt (x0 - ((iushr x0 1) &&& 1431655765)) fun v1 =>
  lt ((v1 &&& 858993459) + ((iushr v1 2) &&& 858993459)) fun v2 =>
  lt ((v2 + (iushr v2 4)) &&& 252645135) fun v3 =>
  lt (v3 + (iushr v3 8)) fun v4 =>
  lt (v4 + (iushr v4 16)) fun v5 =>
  some (v5 &&& 63, M)
set_option maxRecDepth 20000 in
set_option maxHeartbeats 4000000 in
theorem kJ6_bitCount_0f7a4 (l : Launch) (E : Ev) (n : Nat) (hn : 1 ≤ n) (ct : Nat) (hct : 111 ≤ ct) (ex : Bool) (x0 : Int32) (M : Mem) : AM l E n ct ex yJ6_bitCount_0f7a4 fJ6_bitCount_0f7a4 enI [.int x0] M (zJ6_bitCount_0f7a4 x0 M) := by
  unfold zJ6_bitCount_0f7a4
  refine AM.of (by decide +kernel) ⟨rfl, rfl, rfl⟩ (Nat.le_of_ble_eq_true rfl) ?_
  refine AW.iload_n (pc := 0) dJ6_bitCount_0f7a4_0 rfl 0 rfl ?_
  refine AW.iload_n (pc := 1) dJ6_bitCount_0f7a4_1 rfl 0 rfl ?_
  refine AW.iconst (pc := 2) dJ6_bitCount_0f7a4_2 ci_1 ?_
  refine AW.iushr (pc := 3) dJ6_bitCount_0f7a4_3 ?_
  refine AW.ldcw (pc := 4) dJ6_bitCount_0f7a4_4 ccJ6_265 ?_
  refine AW.iand (pc := 7) dJ6_bitCount_0f7a4_7 ?_
  refine AW.isub (pc := 8) dJ6_bitCount_0f7a4_8 ?_
  refine AW.genI (fun v1 => ?_)
  refine AW.istore_n (pc := 9) [0] [(0, .int v1)] dJ6_bitCount_0f7a4_9 rfl (by decide) rfl ?_
  refine AW.iload_n (pc := 10) dJ6_bitCount_0f7a4_10 rfl 0 rfl ?_
  refine AW.ldcw (pc := 11) dJ6_bitCount_0f7a4_11 ccJ6_266 ?_
  refine AW.iand (pc := 14) dJ6_bitCount_0f7a4_14 ?_
  refine AW.iload_n (pc := 15) dJ6_bitCount_0f7a4_15 rfl 0 rfl ?_
  refine AW.iconst (pc := 16) dJ6_bitCount_0f7a4_16 ci_2 ?_
  refine AW.iushr (pc := 17) dJ6_bitCount_0f7a4_17 ?_
  refine AW.ldcw (pc := 18) dJ6_bitCount_0f7a4_18 ccJ6_266 ?_
  refine AW.iand (pc := 21) dJ6_bitCount_0f7a4_21 ?_
  refine AW.iadd (pc := 22) dJ6_bitCount_0f7a4_22 ?_
  refine AW.genI (fun v2 => ?_)
  refine AW.istore_n (pc := 23) [0] [(0, .int v2)] dJ6_bitCount_0f7a4_23 rfl (by decide) rfl ?_
  refine AW.iload_n (pc := 24) dJ6_bitCount_0f7a4_24 rfl 0 rfl ?_
  refine AW.iload_n (pc := 25) dJ6_bitCount_0f7a4_25 rfl 0 rfl ?_
  refine AW.iconst (pc := 26) dJ6_bitCount_0f7a4_26 ci_4 ?_
  refine AW.iushr (pc := 27) dJ6_bitCount_0f7a4_27 ?_
  refine AW.iadd (pc := 28) dJ6_bitCount_0f7a4_28 ?_
  refine AW.ldcw (pc := 29) dJ6_bitCount_0f7a4_29 ccJ6_267 ?_
  refine AW.iand (pc := 32) dJ6_bitCount_0f7a4_32 ?_
  refine AW.genI (fun v3 => ?_)
  refine AW.istore_n (pc := 33) [0] [(0, .int v3)] dJ6_bitCount_0f7a4_33 rfl (by decide) rfl ?_
  refine AW.iload_n (pc := 34) dJ6_bitCount_0f7a4_34 rfl 0 rfl ?_
  refine AW.iload_n (pc := 35) dJ6_bitCount_0f7a4_35 rfl 0 rfl ?_
  refine AW.bipush (pc := 36) dJ6_bitCount_0f7a4_36 cb_8 ?_
  refine AW.iushr (pc := 38) dJ6_bitCount_0f7a4_38 ?_
  refine AW.iadd (pc := 39) dJ6_bitCount_0f7a4_39 ?_
  refine AW.genI (fun v4 => ?_)
  refine AW.istore_n (pc := 40) [0] [(0, .int v4)] dJ6_bitCount_0f7a4_40 rfl (by decide) rfl ?_
  refine AW.iload_n (pc := 41) dJ6_bitCount_0f7a4_41 rfl 0 rfl ?_
  refine AW.iload_n (pc := 42) dJ6_bitCount_0f7a4_42 rfl 0 rfl ?_
  refine AW.bipush (pc := 43) dJ6_bitCount_0f7a4_43 cb_16 ?_
  refine AW.iushr (pc := 45) dJ6_bitCount_0f7a4_45 ?_
  refine AW.iadd (pc := 46) dJ6_bitCount_0f7a4_46 ?_
  refine AW.genI (fun v5 => ?_)
  refine AW.istore_n (pc := 47) [0] [(0, .int v5)] dJ6_bitCount_0f7a4_47 rfl (by decide) rfl ?_
  refine AW.iload_n (pc := 48) dJ6_bitCount_0f7a4_48 rfl 0 rfl ?_
  refine AW.bipush (pc := 49) dJ6_bitCount_0f7a4_49 cb_63 ?_
  refine AW.iand (pc := 51) dJ6_bitCount_0f7a4_51 ?_
  exact AW.iret (pc := 52) dJ6_bitCount_0f7a4_52 rfl (fun _ _ _ => rfl) (Nat.le_refl _) (Nat.le_refl _)
