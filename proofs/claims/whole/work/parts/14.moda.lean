/-! ===== functions over the memory and their contracts: printed by wip/whole/lay.py ===== -/
-- GateBoxModel.atFirst(I)V
def zX12_atFirst_B31 (KK31 : Nat → Int32 → Int32 → Mem → Option (Unit × Mem)) (this : Nat) (x1 : Int32) (x2 : Int32) (M : Mem) : Option (Unit × Mem) :=
  if 6 ≤ x2 then
    if mR M this 4 ≠ 0 then
    if (K0 (mR M this 4)).1 = 1 ∧ inb ((7 * x1) + 6) (K0 (mR M this 4)).2 = true then
    lt (sI M (mR M this 4) (Int32.toNatClampNeg ((7 * x1) + 6)) 100) fun M4 =>
    some ((), M4)
    else none
    else none
  else
    if mR M this 4 ≠ 0 then
    if (K0 (mR M this 4)).1 = 1 ∧ inb ((7 * x1) + x2) (K0 (mR M this 4)).2 = true then
    lt (sI M (mR M this 4) (Int32.toNatClampNeg ((7 * x1) + x2)) 0) fun M7 =>
    KK31 this x1 (x2 + 1) M7
    else none
    else none
def zX12_atFirst_L31 : Nat → Nat → Int32 → Int32 → Mem → Option (Unit × Mem)
  | 0 => fun _ _ _ _ => none
  | k + 1 => zX12_atFirst_B31 (zX12_atFirst_L31 k)
def zX12_atFirst (this : Nat) (x1 : Int32) (M : Mem) : Option (Unit × Mem) :=
  if K0 this = (0, 12) then
  if mR M this 3 ≠ 0 then
  if (K0 (mR M this 3)).1 = 1 ∧ inb x1 (K0 (mR M this 3)).2 = true then
  lt (sI M (mR M this 3) (Int32.toNatClampNeg x1) 0) fun M3 =>
  if mR M3 this 4 ≠ 0 then
  if (K0 (mR M3 this 4)).1 = 1 ∧ inb (7 * x1) (K0 (mR M3 this 4)).2 = true then
  lt (sI M3 (mR M3 this 4) (Int32.toNatClampNeg (7 * x1)) 1) fun M6 =>
  if mR M6 this 4 ≠ 0 then
  if (K0 (mR M6 this 4)).1 = 1 ∧ inb ((7 * x1) + 1) (K0 (mR M6 this 4)).2 = true then
  lt (sI M6 (mR M6 this 4) (Int32.toNatClampNeg ((7 * x1) + 1)) (-1)) fun M9 =>
  zX12_atFirst_L31 FU this x1 2 M9
  else none
  else none
  else none
  else none
  else none
  else none
  else none
set_option maxRecDepth 20000 in
set_option maxHeartbeats 4000000 in
theorem kX12_atFirst_B31 (l : Launch) (E : Ev) (n : Nat) (hn : 1 ≤ n) (ct : Nat) (hct : 110 ≤ ct) (ex : Bool) (KK31 : Nat → Int32 → Int32 → Mem → Option (Unit × Mem)) (hKK31 : ∀ (this : Nat) (x1 : Int32) (x2 : Int32) (M : Mem) (_ : K0 this = (0, 12)), AW l E fX12_atFirst (fun _ => rmN n 0 0) (PQr E 0 0 ct ex enU) ct ex 0 0 31 [(0, .ref (ad E this)), (1, .int x1), (2, .int x2)] [] M (KK31 this x1 x2 M)) (this : Nat) (x1 : Int32) (x2 : Int32) (M : Mem) (hthis : K0 this = (0, 12)) : AW l E fX12_atFirst (fun _ => rmN n 0 0) (PQr E 0 0 ct ex enU) ct ex 0 0 31 [(0, .ref (ad E this)), (1, .int x1), (2, .int x2)] [] M (zX12_atFirst_B31 KK31 this x1 x2 M) := by
  unfold zX12_atFirst_B31
  refine AW.iload_n (pc := 31) dX12_atFirst_31 rfl 2 rfl ?_
  refine AW.bipush (pc := 32) dX12_atFirst_32 cb_6 ?_
  refine AW.icmp_ge (pc := 34) 55 dX12_atFirst_34 (by decide) (fun h1 => ?_) (fun h1 => ?_)
  · refine AW.aload_n (pc := 55) dX12_atFirst_55 rfl 0 rfl ?_
    refine AW.chk (fun g2 => ?_)
    refine AW.getR (pc := 56) dX12_atFirst_56 flX12_46 hthis (kct0 hthis rfl hct) g2 ?_
    refine AW.bipush (pc := 59) dX12_atFirst_59 cb_7 ?_
    refine AW.iload_n (pc := 61) dX12_atFirst_61 rfl 1 rfl ?_
    refine AW.imul (pc := 62) dX12_atFirst_62 ?_
    refine AW.bipush (pc := 63) dX12_atFirst_63 cb_6 ?_
    refine AW.iadd (pc := 65) dX12_atFirst_65 ?_
    refine AW.bipush (pc := 66) dX12_atFirst_66 cb_100 ?_
    refine AW.chk (fun g3 => ?_)
    refine AW.iast (pc := 68) dX12_atFirst_68 (k0e g3.1) (kct0 (k0e g3.1) rfl hct) g3.2 ?_
    refine AW.genM (fun M4 => ?_)
    exact AW.vret (pc := 69) dX12_atFirst_69 rfl (fun _ _ _ => rfl) (Nat.le_refl _) (Nat.le_refl _)
  · refine AW.aload_n (pc := 37) dX12_atFirst_37 rfl 0 rfl ?_
    refine AW.chk (fun g5 => ?_)
    refine AW.getR (pc := 38) dX12_atFirst_38 flX12_46 hthis (kct0 hthis rfl hct) g5 ?_
    refine AW.bipush (pc := 41) dX12_atFirst_41 cb_7 ?_
    refine AW.iload_n (pc := 43) dX12_atFirst_43 rfl 1 rfl ?_
    refine AW.imul (pc := 44) dX12_atFirst_44 ?_
    refine AW.iload_n (pc := 45) dX12_atFirst_45 rfl 2 rfl ?_
    refine AW.iadd (pc := 46) dX12_atFirst_46 ?_
    refine AW.iconst (pc := 47) dX12_atFirst_47 ci_0 ?_
    refine AW.chk (fun g6 => ?_)
    refine AW.iast (pc := 48) dX12_atFirst_48 (k0e g6.1) (kct0 (k0e g6.1) rfl hct) g6.2 ?_
    refine AW.genM (fun M7 => ?_)
    refine AW.iinc (pc := 49) (w := 2) [1, 2, 0] [(0, .ref (ad E this)), (1, .int x1), (2, .int (x2 + 1))] dX12_atFirst_49 rfl (inc_1 _) (by decide) rfl ?_
    refine AW.goto (pc := 52) 31 dX12_atFirst_52 (by decide) ?_
    exact hKK31 this x1 (x2 + 1) M7 hthis
set_option maxRecDepth 20000 in
set_option maxHeartbeats 4000000 in
theorem kX12_atFirst_L31 (l : Launch) (E : Ev) (n : Nat) (hn : 1 ≤ n) (ct : Nat) (hct : 110 ≤ ct) (ex : Bool) (k : Nat) : ∀ (this : Nat) (x1 : Int32) (x2 : Int32) (M : Mem) (_ : K0 this = (0, 12)), AW l E fX12_atFirst (fun _ => rmN n 0 0) (PQr E 0 0 ct ex enU) ct ex 0 0 31 [(0, .ref (ad E this)), (1, .int x1), (2, .int x2)] [] M (zX12_atFirst_L31 k this x1 x2 M) := by
  induction k with
  | zero => intro this x1 x2 M _; exact AW.none
  | succ k ih =>
    intro this x1 x2 M hthis
    exact kX12_atFirst_B31 l E n hn ct hct ex (zX12_atFirst_L31 k) ih this x1 x2 M hthis
set_option maxRecDepth 20000 in
set_option maxHeartbeats 4000000 in
theorem kX12_atFirst (l : Launch) (E : Ev) (n : Nat) (hn : 1 ≤ n) (ct : Nat) (hct : 110 ≤ ct) (ex : Bool) (this : Nat) (x1 : Int32) (M : Mem) : AM l E n ct ex yX12_atFirst fX12_atFirst enU [.ref (ad E this), .int x1] M (zX12_atFirst this x1 M) := by
  unfold zX12_atFirst
  refine AM.of (by decide +kernel) ⟨rfl, rfl, rfl⟩ (Nat.le_of_ble_eq_true rfl) ?_
  refine AW.chk (fun hthis => ?_)
  refine AW.aload_n (pc := 0) dX12_atFirst_0 rfl 0 rfl ?_
  refine AW.chk (fun g1 => ?_)
  refine AW.getR (pc := 1) dX12_atFirst_1 flX12_42 hthis (kct0 hthis rfl hct) g1 ?_
  refine AW.iload_n (pc := 4) dX12_atFirst_4 rfl 1 rfl ?_
  refine AW.iconst (pc := 5) dX12_atFirst_5 ci_0 ?_
  refine AW.chk (fun g2 => ?_)
  refine AW.iast (pc := 6) dX12_atFirst_6 (k0e g2.1) (kct0 (k0e g2.1) rfl hct) g2.2 ?_
  refine AW.genM (fun M3 => ?_)
  refine AW.aload_n (pc := 7) dX12_atFirst_7 rfl 0 rfl ?_
  refine AW.chk (fun g4 => ?_)
  refine AW.getR (pc := 8) dX12_atFirst_8 flX12_46 hthis (kct0 hthis rfl hct) g4 ?_
  refine AW.bipush (pc := 11) dX12_atFirst_11 cb_7 ?_
  refine AW.iload_n (pc := 13) dX12_atFirst_13 rfl 1 rfl ?_
  refine AW.imul (pc := 14) dX12_atFirst_14 ?_
  refine AW.iconst (pc := 15) dX12_atFirst_15 ci_1 ?_
  refine AW.chk (fun g5 => ?_)
  refine AW.iast (pc := 16) dX12_atFirst_16 (k0e g5.1) (kct0 (k0e g5.1) rfl hct) g5.2 ?_
  refine AW.genM (fun M6 => ?_)
  refine AW.aload_n (pc := 17) dX12_atFirst_17 rfl 0 rfl ?_
  refine AW.chk (fun g7 => ?_)
  refine AW.getR (pc := 18) dX12_atFirst_18 flX12_46 hthis (kct0 hthis rfl hct) g7 ?_
  refine AW.bipush (pc := 21) dX12_atFirst_21 cb_7 ?_
  refine AW.iload_n (pc := 23) dX12_atFirst_23 rfl 1 rfl ?_
  refine AW.imul (pc := 24) dX12_atFirst_24 ?_
  refine AW.iconst (pc := 25) dX12_atFirst_25 ci_1 ?_
  refine AW.iadd (pc := 26) dX12_atFirst_26 ?_
  refine AW.iconst (pc := 27) dX12_atFirst_27 ci_m1 ?_
  refine AW.chk (fun g8 => ?_)
  refine AW.iast (pc := 28) dX12_atFirst_28 (k0e g8.1) (kct0 (k0e g8.1) rfl hct) g8.2 ?_
  refine AW.genM (fun M9 => ?_)
  refine AW.iconst (pc := 29) dX12_atFirst_29 ci_2 ?_
  refine AW.istore_n (pc := 30) [1, 2, 0] [(0, .ref (ad E this)), (1, .int x1), (2, .int 2)] dX12_atFirst_30 rfl (by decide) rfl ?_
  exact kX12_atFirst_L31 l E n hn ct hct ex FU this x1 2 M9 hthis
-- GateBoxModel.thrown()I
def zX12_thrown (this : Nat) (M : Mem) : Option (Int32 × Mem) :=
  if K0 this = (0, 12) then
  some (mI M this 2, M)
  else none
set_option maxRecDepth 20000 in
set_option maxHeartbeats 4000000 in
theorem kX12_thrown (l : Launch) (E : Ev) (n : Nat) (hn : 1 ≤ n) (ct : Nat) (hct : 111 ≤ ct) (ex : Bool) (this : Nat) (M : Mem) : AM l E n ct ex yX12_thrown fX12_thrown enI [.ref (ad E this)] M (zX12_thrown this M) := by
  unfold zX12_thrown
  refine AM.of (by decide +kernel) ⟨rfl, rfl, rfl⟩ (Nat.le_of_ble_eq_true rfl) ?_
  refine AW.chk (fun hthis => ?_)
  refine AW.aload_n (pc := 0) dX12_thrown_0 rfl 0 rfl ?_
  refine AW.getI (pc := 1) dX12_thrown_1 flX12_159 hthis (kct hthis rfl hct) ?_
  exact AW.iret (pc := 4) dX12_thrown_4 rfl (fun _ _ _ => rfl) (Nat.le_refl _) (Nat.le_refl _)
-- GateBoxModel.fail(I)I
def zX12_fail (this : Nat) (x1 : Int32) (M : Mem) : Option (Int32 × Mem) :=
  if K0 this = (0, 12) then
  lt (sI M this 2 x1) fun M1 =>
  some (0, M1)
  else none
set_option maxRecDepth 20000 in
set_option maxHeartbeats 4000000 in
theorem kX12_fail (l : Launch) (E : Ev) (n : Nat) (hn : 1 ≤ n) (ct : Nat) (hct : 111 ≤ ct) (ex : Bool) (this : Nat) (x1 : Int32) (M : Mem) : AM l E n ct ex yX12_fail fX12_fail enI [.ref (ad E this), .int x1] M (zX12_fail this x1 M) := by
  unfold zX12_fail
  refine AM.of (by decide +kernel) ⟨rfl, rfl, rfl⟩ (Nat.le_of_ble_eq_true rfl) ?_
  refine AW.chk (fun hthis => ?_)
  refine AW.aload_n (pc := 0) dX12_fail_0 rfl 0 rfl ?_
  refine AW.iload_n (pc := 1) dX12_fail_1 rfl 1 rfl ?_
  refine AW.putI (pc := 2) dX12_fail_2 flX12_159 hthis (kct hthis rfl hct) ?_
  refine AW.genM (fun M1 => ?_)
  refine AW.iconst (pc := 5) dX12_fail_5 ci_0 ?_
  exact AW.iret (pc := 6) dX12_fail_6 rfl (fun _ _ _ => rfl) (Nat.le_refl _) (Nat.le_refl _)
-- GateBoxModel.isIn(III)Z
def zX12_isIn (x0 : Int32) (x1 : Int32) (x2 : Int32) (M : Mem) : Option (Int32 × Mem) :=
  if x0 < x1 then
    some (0, M)
  else
    if x2 < x0 then
      some (0, M)
    else
      some (1, M)
set_option maxRecDepth 20000 in
set_option maxHeartbeats 4000000 in
theorem kX12_isIn (l : Launch) (E : Ev) (n : Nat) (hn : 1 ≤ n) (ct : Nat) (hct : 111 ≤ ct) (ex : Bool) (x0 : Int32) (x1 : Int32) (x2 : Int32) (M : Mem) : AM l E n ct ex yX12_isIn fX12_isIn enI [.int x0, .int x1, .int x2] M (zX12_isIn x0 x1 x2 M) := by
  unfold zX12_isIn
  refine AM.of (by decide +kernel) ⟨rfl, rfl, rfl⟩ (Nat.le_of_ble_eq_true rfl) ?_
  refine AW.iload_n (pc := 0) dX12_isIn_0 rfl 0 rfl ?_
  refine AW.iload_n (pc := 1) dX12_isIn_1 rfl 1 rfl ?_
  refine AW.icmp_lt (pc := 2) 14 dX12_isIn_2 (by decide) (fun h1 => ?_) (fun h1 => ?_)
  · refine AW.iconst (pc := 14) dX12_isIn_14 ci_0 ?_
    exact AW.zret (pc := 15) dX12_isIn_15 rfl (Or.inl rfl) (fun _ _ _ => rfl) (Nat.le_refl _) (Nat.le_refl _)
  · refine AW.iload_n (pc := 5) dX12_isIn_5 rfl 0 rfl ?_
    refine AW.iload_n (pc := 6) dX12_isIn_6 rfl 2 rfl ?_
    refine AW.icmp_gt (pc := 7) 14 dX12_isIn_7 (by decide) (fun h2 => ?_) (fun h2 => ?_)
    · refine AW.iconst (pc := 14) dX12_isIn_14 ci_0 ?_
      exact AW.zret (pc := 15) dX12_isIn_15 rfl (Or.inl rfl) (fun _ _ _ => rfl) (Nat.le_refl _) (Nat.le_refl _)
    · refine AW.iconst (pc := 10) dX12_isIn_10 ci_1 ?_
      refine AW.goto (pc := 11) 15 dX12_isIn_11 (by decide) ?_
      exact AW.zret (pc := 15) dX12_isIn_15 rfl (Or.inr rfl) (fun _ _ _ => rfl) (Nat.le_refl _) (Nat.le_refl _)
-- GateBoxModel.isGate(I)Z
def zX12_isGate (x0 : Int32) (M : Mem) : Option (Int32 × Mem) :=
  bnd (zX12_isIn x0 0 1 M) fun v1 M2 =>
  if v1 = 0 ∨ v1 = 1 then
  some (v1, M2)
  else none
set_option maxRecDepth 20000 in
set_option maxHeartbeats 4000000 in
theorem kX12_isGate (l : Launch) (E : Ev) (n : Nat) (hn : 2 ≤ n) (ct : Nat) (hct : 111 ≤ ct) (ex : Bool) (x0 : Int32) (M : Mem) : AM l E n ct ex yX12_isGate fX12_isGate enI [.int x0] M (zX12_isGate x0 M) := by
  unfold zX12_isGate
  refine AM.of (by decide +kernel) ⟨rfl, rfl, rfl⟩ (Nat.le_of_ble_eq_true rfl) ?_
  refine AW.iload_n (pc := 0) dX12_isGate_0 rfl 0 rfl ?_
  refine AW.iconst (pc := 1) dX12_isGate_1 ci_0 ?_
  refine AW.iconst (pc := 2) dX12_isGate_2 ci_1 ?_
  refine AW.cS3i (pc := 3) dX12_isGate_3 mlX12_162 mbX12_isIn (fun _ => okR_N (by omega)) (kX12_isIn l E (n - 1) (by omega) ct hct ex x0 0 1 M) (Nat.le_of_ble_eq_true rfl) (fun v1 M2 => ?_)
  refine AW.chk (fun g3 => ?_)
  exact AW.zret (pc := 6) dX12_isGate_6 rfl g3 (fun _ _ _ => rfl) (Nat.le_refl _) (Nat.le_refl _)
-- GateBoxModel.isSort(II)Z
def zX12_isSort (this : Nat) (x1 : Int32) (x2 : Int32) (M : Mem) : Option (Int32 × Mem) :=
  if K0 this = (0, 12) then
  bnd (zX12_isGate x1 M) fun v1 M2 =>
  if v1 = 0 then
    some (0, M2)
  else
    if mR M2 this 3 ≠ 0 then
    if (K0 (mR M2 this 3)).1 = 1 ∧ inb x1 (K0 (mR M2 this 3)).2 = true then
    bnd (zX12_isIn x2 0 ((mI M2 (mR M2 this 3) (Int32.toNatClampNeg x1)) - 1) M2) fun v6 M7 =>
    if v6 = 0 then
      some (0, M7)
    else
      some (1, M7)
    else none
    else none
  else none
set_option maxRecDepth 20000 in
set_option maxHeartbeats 4000000 in
theorem kX12_isSort (l : Launch) (E : Ev) (n : Nat) (hn : 3 ≤ n) (ct : Nat) (hct : 111 ≤ ct) (ex : Bool) (this : Nat) (x1 : Int32) (x2 : Int32) (M : Mem) : AM l E n ct ex yX12_isSort fX12_isSort enI [.ref (ad E this), .int x1, .int x2] M (zX12_isSort this x1 x2 M) := by
  unfold zX12_isSort
  refine AM.of (by decide +kernel) ⟨rfl, rfl, rfl⟩ (Nat.le_of_ble_eq_true rfl) ?_
  refine AW.chk (fun hthis => ?_)
  refine AW.iload_n (pc := 0) dX12_isSort_0 rfl 1 rfl ?_
  refine AW.cS1i (pc := 1) dX12_isSort_1 mlX12_166 mbX12_isGate (fun _ => okR_N (by omega)) (kX12_isGate l E (n - 1) (by omega) ct hct ex x1 M) (Nat.le_of_ble_eq_true rfl) (fun v1 M2 => ?_)
  refine AW.if_eq (pc := 4) 27 dX12_isSort_4 (by decide) (fun h3 => ?_) (fun h3 => ?_)
  · refine AW.iconst (pc := 27) dX12_isSort_27 ci_0 ?_
    exact AW.zret (pc := 28) dX12_isSort_28 rfl (Or.inl rfl) (fun _ _ _ => rfl) (Nat.le_refl _) (Nat.le_refl _)
  · refine AW.iload_n (pc := 7) dX12_isSort_7 rfl 2 rfl ?_
    refine AW.iconst (pc := 8) dX12_isSort_8 ci_0 ?_
    refine AW.aload_n (pc := 9) dX12_isSort_9 rfl 0 rfl ?_
    refine AW.chk (fun g4 => ?_)
    refine AW.getR (pc := 10) dX12_isSort_10 flX12_42 hthis (kct hthis rfl hct) g4 ?_
    refine AW.iload_n (pc := 13) dX12_isSort_13 rfl 1 rfl ?_
    refine AW.chk (fun g5 => ?_)
    refine AW.iald (pc := 14) dX12_isSort_14 (k0e g5.1) (kct (k0e g5.1) rfl hct) g5.2 ?_
    refine AW.iconst (pc := 15) dX12_isSort_15 ci_1 ?_
    refine AW.isub (pc := 16) dX12_isSort_16 ?_
    refine AW.cS3i (pc := 17) dX12_isSort_17 mlX12_162 mbX12_isIn (fun _ => okR_N (by omega)) (kX12_isIn l E (n - 1) (by omega) ct hct ex x2 0 ((mI M2 (mR M2 this 3) (Int32.toNatClampNeg x1)) - 1) M2) (Nat.le_of_ble_eq_true rfl) (fun v6 M7 => ?_)
    refine AW.if_eq (pc := 20) 27 dX12_isSort_20 (by decide) (fun h8 => ?_) (fun h8 => ?_)
    · refine AW.iconst (pc := 27) dX12_isSort_27 ci_0 ?_
      exact AW.zret (pc := 28) dX12_isSort_28 rfl (Or.inl rfl) (fun _ _ _ => rfl) (Nat.le_refl _) (Nat.le_refl _)
    · refine AW.iconst (pc := 23) dX12_isSort_23 ci_1 ?_
      refine AW.goto (pc := 24) 28 dX12_isSort_24 (by decide) ?_
      exact AW.zret (pc := 28) dX12_isSort_28 rfl (Or.inr rfl) (fun _ _ _ => rfl) (Nat.le_refl _) (Nat.le_refl _)
-- GateBoxModel.statesOf(I)I
def zX12_statesOf (this : Nat) (x1 : Int32) (M : Mem) : Option (Int32 × Mem) :=
  if K0 this = (0, 12) then
  if mR M this 4 ≠ 0 then
  if (K0 (mR M this 4)).1 = 1 ∧ inb (7 * x1) (K0 (mR M this 4)).2 = true then
  if (mI M (mR M this 4) (Int32.toNatClampNeg (7 * x1))) = 0 then
    some (1, M)
  else
    if inb (7 * x1) (K0 (mR M this 4)).2 = true then
    if (mI M (mR M this 4) (Int32.toNatClampNeg (7 * x1))) = 1 then
      some (10, M)
    else
      some (100, M)
    else none
  else none
  else none
  else none
set_option maxRecDepth 20000 in
set_option maxHeartbeats 4000000 in
theorem kX12_statesOf (l : Launch) (E : Ev) (n : Nat) (hn : 1 ≤ n) (ct : Nat) (hct : 111 ≤ ct) (ex : Bool) (this : Nat) (x1 : Int32) (M : Mem) : AM l E n ct ex yX12_statesOf fX12_statesOf enI [.ref (ad E this), .int x1] M (zX12_statesOf this x1 M) := by
  unfold zX12_statesOf
  refine AM.of (by decide +kernel) ⟨rfl, rfl, rfl⟩ (Nat.le_of_ble_eq_true rfl) ?_
  refine AW.chk (fun hthis => ?_)
  refine AW.aload_n (pc := 0) dX12_statesOf_0 rfl 0 rfl ?_
  refine AW.chk (fun g1 => ?_)
  refine AW.getR (pc := 1) dX12_statesOf_1 flX12_46 hthis (kct hthis rfl hct) g1 ?_
  refine AW.bipush (pc := 4) dX12_statesOf_4 cb_7 ?_
  refine AW.iload_n (pc := 6) dX12_statesOf_6 rfl 1 rfl ?_
  refine AW.imul (pc := 7) dX12_statesOf_7 ?_
  refine AW.chk (fun g2 => ?_)
  refine AW.iald (pc := 8) dX12_statesOf_8 (k0e g2.1) (kct (k0e g2.1) rfl hct) g2.2 ?_
  refine AW.if_ne (pc := 9) 16 dX12_statesOf_9 (by decide) (fun h3 => ?_) (fun h3 => ?_)
  · refine AW.iconst (pc := 12) dX12_statesOf_12 ci_1 ?_
    refine AW.goto (pc := 13) 36 dX12_statesOf_13 (by decide) ?_
    exact AW.iret (pc := 36) dX12_statesOf_36 rfl (fun _ _ _ => rfl) (Nat.le_refl _) (Nat.le_refl _)
  · refine AW.aload_n (pc := 16) dX12_statesOf_16 rfl 0 rfl ?_
    refine AW.getR (pc := 17) dX12_statesOf_17 flX12_46 hthis (kct hthis rfl hct) g1 ?_
    refine AW.bipush (pc := 20) dX12_statesOf_20 cb_7 ?_
    refine AW.iload_n (pc := 22) dX12_statesOf_22 rfl 1 rfl ?_
    refine AW.imul (pc := 23) dX12_statesOf_23 ?_
    refine AW.chk (fun g4 => ?_)
    refine AW.iald (pc := 24) dX12_statesOf_24 (k0e g2.1) (kct (k0e g2.1) rfl hct) g4 ?_
    refine AW.iconst (pc := 25) dX12_statesOf_25 ci_1 ?_
    refine AW.icmp_ne (pc := 26) 34 dX12_statesOf_26 (by decide) (fun h5 => ?_) (fun h5 => ?_)
    · refine AW.bipush (pc := 29) dX12_statesOf_29 cb_10 ?_
      refine AW.goto (pc := 31) 36 dX12_statesOf_31 (by decide) ?_
      exact AW.iret (pc := 36) dX12_statesOf_36 rfl (fun _ _ _ => rfl) (Nat.le_refl _) (Nat.le_refl _)
    · refine AW.bipush (pc := 34) dX12_statesOf_34 cb_100 ?_
      exact AW.iret (pc := 36) dX12_statesOf_36 rfl (fun _ _ _ => rfl) (Nat.le_refl _) (Nat.le_refl _)
-- GateBoxModel.isState(II)Z
def zX12_isState (this : Nat) (x1 : Int32) (x2 : Int32) (M : Mem) : Option (Int32 × Mem) :=
  if K0 this = (0, 12) then
  bnd (zX12_statesOf this x1 M) fun v1 M2 =>
  bnd (zX12_isIn x2 0 (v1 - 1) M2) fun v3 M4 =>
  if v3 = 0 ∨ v3 = 1 then
  some (v3, M4)
  else none
  else none
set_option maxRecDepth 20000 in
set_option maxHeartbeats 4000000 in
theorem kX12_isState (l : Launch) (E : Ev) (n : Nat) (hn : 2 ≤ n) (ct : Nat) (hct : 111 ≤ ct) (ex : Bool) (this : Nat) (x1 : Int32) (x2 : Int32) (M : Mem) : AM l E n ct ex yX12_isState fX12_isState enI [.ref (ad E this), .int x1, .int x2] M (zX12_isState this x1 x2 M) := by
  unfold zX12_isState
  refine AM.of (by decide +kernel) ⟨rfl, rfl, rfl⟩ (Nat.le_of_ble_eq_true rfl) ?_
  refine AW.chk (fun hthis => ?_)
  refine AW.iload_n (pc := 0) dX12_isState_0 rfl 2 rfl ?_
  refine AW.iconst (pc := 1) dX12_isState_1 ci_0 ?_
  refine AW.aload_n (pc := 2) dX12_isState_2 rfl 0 rfl ?_
  refine AW.iload_n (pc := 3) dX12_isState_3 rfl 1 rfl ?_
  refine AW.cV1i (pc := 4) dX12_isState_4 mlX12_170 mbX12_statesOf rfl hthis (kct hthis rfl hct) (fun _ => okR_N (by omega)) (kX12_statesOf l E (n - 1) (by omega) ct hct ex this x1 M) (Nat.le_of_ble_eq_true rfl) (fun v1 M2 => ?_)
  refine AW.iconst (pc := 7) dX12_isState_7 ci_1 ?_
  refine AW.isub (pc := 8) dX12_isState_8 ?_
  refine AW.cS3i (pc := 9) dX12_isState_9 mlX12_162 mbX12_isIn (fun _ => okR_N (by omega)) (kX12_isIn l E (n - 1) (by omega) ct hct ex x2 0 (v1 - 1) M2) (Nat.le_of_ble_eq_true rfl) (fun v3 M4 => ?_)
  refine AW.chk (fun g5 => ?_)
  exact AW.zret (pc := 12) dX12_isState_12 rfl g5 (fun _ _ _ => rfl) (Nat.le_refl _) (Nat.le_refl _)
-- GateBoxModel.feed(IIIII)I
def zX12_feed_B76 (KK23 : Nat → Int32 → Int32 → Int32 → Int32 → Int32 → Int32 → Mem → Option (Int32 × Mem)) (this : Nat) (x1 : Int32) (x2 : Int32) (x3 : Int32) (x4 : Int32) (x5 : Int32) (x6 : Int32) (s0 : Int32) (M : Mem) : Option (Int32 × Mem) :=
  if mR M this 19 ≠ 0 then
  if (K0 (mR M this 19)).1 = 1 ∧ inb (mI M this 20) (K0 (mR M this 19)).2 = true then
  lt (sI M (mR M this 19) (Int32.toNatClampNeg (mI M this 20)) ((s0 >>> ((24 - (8 * (x6 % 4))) &&& 31)) &&& 255)) fun M3 =>
  lt (sI M3 this 20 ((mI M3 this 20) + 1)) fun M4 =>
  KK23 this x1 x2 x3 x4 x5 (x6 + 1) M4
  else none
  else none
def zX12_feed_B23 (KK23 : Nat → Int32 → Int32 → Int32 → Int32 → Int32 → Int32 → Mem → Option (Int32 × Mem)) (this : Nat) (x1 : Int32) (x2 : Int32) (x3 : Int32) (x4 : Int32) (x5 : Int32) (x6 : Int32) (M : Mem) : Option (Int32 × Mem) :=
  if 20 ≤ x6 then
    some (mI M this 20, M)
  else
    if 4 ≤ x6 then
      if 8 ≤ x6 then
        if 12 ≤ x6 then
          if 16 ≤ x6 then
            zX12_feed_B76 KK23 this x1 x2 x3 x4 x5 x6 x5 M
          else
            zX12_feed_B76 KK23 this x1 x2 x3 x4 x5 x6 x4 M
        else
          zX12_feed_B76 KK23 this x1 x2 x3 x4 x5 x6 x3 M
      else
        zX12_feed_B76 KK23 this x1 x2 x3 x4 x5 x6 x2 M
    else
      zX12_feed_B76 KK23 this x1 x2 x3 x4 x5 x6 x1 M
def zX12_feed_L23 : Nat → Nat → Int32 → Int32 → Int32 → Int32 → Int32 → Int32 → Mem → Option (Int32 × Mem)
  | 0 => fun _ _ _ _ _ _ _ _ => none
  | k + 1 => zX12_feed_B23 (zX12_feed_L23 k)
def zX12_feed (this : Nat) (x1 : Int32) (x2 : Int32) (x3 : Int32) (x4 : Int32) (x5 : Int32) (M : Mem) : Option (Int32 × Mem) :=
  if K0 this = (0, 12) then
  lt (sI M this 2 0) fun M1 =>
  if ((mI M1 this 20) + 20) ≤ 700 then
    zX12_feed_L23 FU this x1 x2 x3 x4 x5 0 M1
  else
    some ((-1), M1)
  else none
set_option maxRecDepth 20000 in
set_option maxHeartbeats 4000000 in
theorem kX12_feed_B76 (l : Launch) (E : Ev) (n : Nat) (hn : 1 ≤ n) (ct : Nat) (hct : 111 ≤ ct) (ex : Bool) (KK23 : Nat → Int32 → Int32 → Int32 → Int32 → Int32 → Int32 → Mem → Option (Int32 × Mem)) (hKK23 : ∀ (this : Nat) (x1 : Int32) (x2 : Int32) (x3 : Int32) (x4 : Int32) (x5 : Int32) (x6 : Int32) (M : Mem) (_ : K0 this = (0, 12)), AW l E fX12_feed (fun _ => rmN n 0 0) (PQr E 0 0 ct ex enI) ct ex 0 0 23 [(0, .ref (ad E this)), (1, .int x1), (2, .int x2), (3, .int x3), (4, .int x4), (5, .int x5), (6, .int x6)] [] M (KK23 this x1 x2 x3 x4 x5 x6 M)) (this : Nat) (x1 : Int32) (x2 : Int32) (x3 : Int32) (x4 : Int32) (x5 : Int32) (x6 : Int32) (s0 : Int32) (M : Mem) (hthis : K0 this = (0, 12)) : AW l E fX12_feed (fun _ => rmN n 0 0) (PQr E 0 0 ct ex enI) ct ex 0 0 76 [(0, .ref (ad E this)), (1, .int x1), (2, .int x2), (3, .int x3), (4, .int x4), (5, .int x5), (6, .int x6)] [.int s0] M (zX12_feed_B76 KK23 this x1 x2 x3 x4 x5 x6 s0 M) := by
  unfold zX12_feed_B76
  refine AW.istore (pc := 76) [1, 2, 3, 4, 5, 6, 7, 0] [(0, .ref (ad E this)), (1, .int x1), (2, .int x2), (3, .int x3), (4, .int x4), (5, .int x5), (6, .int x6), (7, .int s0)] dX12_feed_76 (by decide) rfl ?_
  refine AW.aload_n (pc := 78) dX12_feed_78 rfl 0 rfl ?_
  refine AW.chk (fun g1 => ?_)
  refine AW.getR (pc := 79) dX12_feed_79 flX12_89 hthis (kct hthis rfl hct) g1 ?_
  refine AW.aload_n (pc := 82) dX12_feed_82 rfl 0 rfl ?_
  refine AW.getI (pc := 83) dX12_feed_83 flX12_174 hthis (kct hthis rfl hct) ?_
  refine AW.iload (pc := 86) dX12_feed_86 7 rfl ?_
  refine AW.bipush (pc := 88) dX12_feed_88 cb_24 ?_
  refine AW.bipush (pc := 90) dX12_feed_90 cb_8 ?_
  refine AW.iload (pc := 92) dX12_feed_92 6 rfl ?_
  refine AW.iconst (pc := 94) dX12_feed_94 ci_4 ?_
  refine AW.irem (pc := 95) dX12_feed_95 (by decide) ?_
  refine AW.imul (pc := 96) dX12_feed_96 ?_
  refine AW.isub (pc := 97) dX12_feed_97 ?_
  refine AW.ishr (pc := 98) dX12_feed_98 ?_
  refine AW.sipush (pc := 99) dX12_feed_99 cs_255 ?_
  refine AW.iand (pc := 102) dX12_feed_102 ?_
  refine AW.chk (fun g2 => ?_)
  refine AW.iast (pc := 103) dX12_feed_103 (k0e g2.1) (kct (k0e g2.1) rfl hct) g2.2 ?_
  refine AW.genM (fun M3 => ?_)
  refine AW.aload_n (pc := 104) dX12_feed_104 rfl 0 rfl ?_
  refine AW.dup (pc := 105) dX12_feed_105 rfl ?_
  refine AW.getI (pc := 106) dX12_feed_106 flX12_174 hthis (kct hthis rfl hct) ?_
  refine AW.iconst (pc := 109) dX12_feed_109 ci_1 ?_
  refine AW.iadd (pc := 110) dX12_feed_110 ?_
  refine AW.putI (pc := 111) dX12_feed_111 flX12_174 hthis (kct hthis rfl hct) ?_
  refine AW.genM (fun M4 => ?_)
  refine AW.iinc (pc := 114) (w := 6) [1, 2, 3, 4, 5, 6, 0] [(0, .ref (ad E this)), (1, .int x1), (2, .int x2), (3, .int x3), (4, .int x4), (5, .int x5), (6, .int (x6 + 1))] dX12_feed_114 rfl (inc_1 _) (by decide) rfl ?_
  refine AW.goto (pc := 117) 23 dX12_feed_117 (by decide) ?_
  exact hKK23 this x1 x2 x3 x4 x5 (x6 + 1) M4 hthis
set_option maxRecDepth 20000 in
set_option maxHeartbeats 4000000 in
theorem kX12_feed_B23 (l : Launch) (E : Ev) (n : Nat) (hn : 1 ≤ n) (ct : Nat) (hct : 111 ≤ ct) (ex : Bool) (KK23 : Nat → Int32 → Int32 → Int32 → Int32 → Int32 → Int32 → Mem → Option (Int32 × Mem)) (hKK23 : ∀ (this : Nat) (x1 : Int32) (x2 : Int32) (x3 : Int32) (x4 : Int32) (x5 : Int32) (x6 : Int32) (M : Mem) (_ : K0 this = (0, 12)), AW l E fX12_feed (fun _ => rmN n 0 0) (PQr E 0 0 ct ex enI) ct ex 0 0 23 [(0, .ref (ad E this)), (1, .int x1), (2, .int x2), (3, .int x3), (4, .int x4), (5, .int x5), (6, .int x6)] [] M (KK23 this x1 x2 x3 x4 x5 x6 M)) (this : Nat) (x1 : Int32) (x2 : Int32) (x3 : Int32) (x4 : Int32) (x5 : Int32) (x6 : Int32) (M : Mem) (hthis : K0 this = (0, 12)) : AW l E fX12_feed (fun _ => rmN n 0 0) (PQr E 0 0 ct ex enI) ct ex 0 0 23 [(0, .ref (ad E this)), (1, .int x1), (2, .int x2), (3, .int x3), (4, .int x4), (5, .int x5), (6, .int x6)] [] M (zX12_feed_B23 KK23 this x1 x2 x3 x4 x5 x6 M) := by
  unfold zX12_feed_B23
  refine AW.iload (pc := 23) dX12_feed_23 6 rfl ?_
  refine AW.bipush (pc := 25) dX12_feed_25 cb_20 ?_
  refine AW.icmp_ge (pc := 27) 120 dX12_feed_27 (by decide) (fun h1 => ?_) (fun h1 => ?_)
  · refine AW.aload_n (pc := 120) dX12_feed_120 rfl 0 rfl ?_
    refine AW.getI (pc := 121) dX12_feed_121 flX12_174 hthis (kct hthis rfl hct) ?_
    exact AW.iret (pc := 124) dX12_feed_124 rfl (fun _ _ _ => rfl) (Nat.le_refl _) (Nat.le_refl _)
  · refine AW.iload (pc := 30) dX12_feed_30 6 rfl ?_
    refine AW.iconst (pc := 32) dX12_feed_32 ci_4 ?_
    refine AW.icmp_ge (pc := 33) 40 dX12_feed_33 (by decide) (fun h2 => ?_) (fun h2 => ?_)
    · refine AW.iload (pc := 40) dX12_feed_40 6 rfl ?_
      refine AW.bipush (pc := 42) dX12_feed_42 cb_8 ?_
      refine AW.icmp_ge (pc := 44) 51 dX12_feed_44 (by decide) (fun h3 => ?_) (fun h3 => ?_)
      · refine AW.iload (pc := 51) dX12_feed_51 6 rfl ?_
        refine AW.bipush (pc := 53) dX12_feed_53 cb_12 ?_
        refine AW.icmp_ge (pc := 55) 62 dX12_feed_55 (by decide) (fun h4 => ?_) (fun h4 => ?_)
        · refine AW.iload (pc := 62) dX12_feed_62 6 rfl ?_
          refine AW.bipush (pc := 64) dX12_feed_64 cb_16 ?_
          refine AW.icmp_ge (pc := 66) 74 dX12_feed_66 (by decide) (fun h5 => ?_) (fun h5 => ?_)
          · refine AW.iload (pc := 74) dX12_feed_74 5 rfl ?_
            exact kX12_feed_B76 l E n hn ct hct ex KK23 hKK23 this x1 x2 x3 x4 x5 x6 x5 M hthis
          · refine AW.iload (pc := 69) dX12_feed_69 4 rfl ?_
            refine AW.goto (pc := 71) 76 dX12_feed_71 (by decide) ?_
            exact kX12_feed_B76 l E n hn ct hct ex KK23 hKK23 this x1 x2 x3 x4 x5 x6 x4 M hthis
        · refine AW.iload_n (pc := 58) dX12_feed_58 rfl 3 rfl ?_
          refine AW.goto (pc := 59) 76 dX12_feed_59 (by decide) ?_
          exact kX12_feed_B76 l E n hn ct hct ex KK23 hKK23 this x1 x2 x3 x4 x5 x6 x3 M hthis
      · refine AW.iload_n (pc := 47) dX12_feed_47 rfl 2 rfl ?_
        refine AW.goto (pc := 48) 76 dX12_feed_48 (by decide) ?_
        exact kX12_feed_B76 l E n hn ct hct ex KK23 hKK23 this x1 x2 x3 x4 x5 x6 x2 M hthis
    · refine AW.iload_n (pc := 36) dX12_feed_36 rfl 1 rfl ?_
      refine AW.goto (pc := 37) 76 dX12_feed_37 (by decide) ?_
      exact kX12_feed_B76 l E n hn ct hct ex KK23 hKK23 this x1 x2 x3 x4 x5 x6 x1 M hthis
set_option maxRecDepth 20000 in
set_option maxHeartbeats 4000000 in
theorem kX12_feed_L23 (l : Launch) (E : Ev) (n : Nat) (hn : 1 ≤ n) (ct : Nat) (hct : 111 ≤ ct) (ex : Bool) (k : Nat) : ∀ (this : Nat) (x1 : Int32) (x2 : Int32) (x3 : Int32) (x4 : Int32) (x5 : Int32) (x6 : Int32) (M : Mem) (_ : K0 this = (0, 12)), AW l E fX12_feed (fun _ => rmN n 0 0) (PQr E 0 0 ct ex enI) ct ex 0 0 23 [(0, .ref (ad E this)), (1, .int x1), (2, .int x2), (3, .int x3), (4, .int x4), (5, .int x5), (6, .int x6)] [] M (zX12_feed_L23 k this x1 x2 x3 x4 x5 x6 M) := by
  induction k with
  | zero => intro this x1 x2 x3 x4 x5 x6 M _; exact AW.none
  | succ k ih =>
    intro this x1 x2 x3 x4 x5 x6 M hthis
    exact kX12_feed_B23 l E n hn ct hct ex (zX12_feed_L23 k) ih this x1 x2 x3 x4 x5 x6 M hthis
set_option maxRecDepth 20000 in
set_option maxHeartbeats 4000000 in
theorem kX12_feed (l : Launch) (E : Ev) (n : Nat) (hn : 1 ≤ n) (ct : Nat) (hct : 111 ≤ ct) (ex : Bool) (this : Nat) (x1 : Int32) (x2 : Int32) (x3 : Int32) (x4 : Int32) (x5 : Int32) (M : Mem) : AM l E n ct ex yX12_feed fX12_feed enI [.ref (ad E this), .int x1, .int x2, .int x3, .int x4, .int x5] M (zX12_feed this x1 x2 x3 x4 x5 M) := by
  unfold zX12_feed
  refine AM.of (by decide +kernel) ⟨rfl, rfl, rfl⟩ (Nat.le_of_ble_eq_true rfl) ?_
  refine AW.chk (fun hthis => ?_)
  refine AW.aload_n (pc := 0) dX12_feed_0 rfl 0 rfl ?_
  refine AW.iconst (pc := 1) dX12_feed_1 ci_0 ?_
  refine AW.putI (pc := 2) dX12_feed_2 flX12_159 hthis (kct hthis rfl hct) ?_
  refine AW.genM (fun M1 => ?_)
  refine AW.aload_n (pc := 5) dX12_feed_5 rfl 0 rfl ?_
  refine AW.getI (pc := 6) dX12_feed_6 flX12_174 hthis (kct hthis rfl hct) ?_
  refine AW.bipush (pc := 9) dX12_feed_9 cb_20 ?_
  refine AW.iadd (pc := 11) dX12_feed_11 ?_
  refine AW.sipush (pc := 12) dX12_feed_12 cs_700 ?_
  refine AW.icmp_le (pc := 15) 20 dX12_feed_15 (by decide) (fun h2 => ?_) (fun h2 => ?_)
  · refine AW.iconst (pc := 20) dX12_feed_20 ci_0 ?_
    refine AW.istore (pc := 21) [1, 2, 3, 4, 5, 6, 0] [(0, .ref (ad E this)), (1, .int x1), (2, .int x2), (3, .int x3), (4, .int x4), (5, .int x5), (6, .int 0)] dX12_feed_21 (by decide) rfl ?_
    exact kX12_feed_L23 l E n hn ct hct ex FU this x1 x2 x3 x4 x5 0 M1 hthis
  · refine AW.iconst (pc := 18) dX12_feed_18 ci_m1 ?_
    exact AW.iret (pc := 19) dX12_feed_19 rfl (fun _ _ _ => rfl) (Nat.le_refl _) (Nat.le_refl _)
-- GateBoxModel.byteAt(I)I
def zX12_byteAt (this : Nat) (x1 : Int32) (M : Mem) : Option (Int32 × Mem) :=
  if K0 this = (0, 12) then
  if (mI M this 22) ≤ x1 then
    some ((-1), M)
  else
    if mR M this 19 ≠ 0 then
    if (K0 (mR M this 19)).1 = 1 ∧ inb x1 (K0 (mR M this 19)).2 = true then
    some (mI M (mR M this 19) (Int32.toNatClampNeg x1), M)
    else none
    else none
  else none
set_option maxRecDepth 20000 in
set_option maxHeartbeats 4000000 in
theorem kX12_byteAt (l : Launch) (E : Ev) (n : Nat) (hn : 1 ≤ n) (ct : Nat) (hct : 111 ≤ ct) (ex : Bool) (this : Nat) (x1 : Int32) (M : Mem) : AM l E n ct ex yX12_byteAt fX12_byteAt enI [.ref (ad E this), .int x1] M (zX12_byteAt this x1 M) := by
  unfold zX12_byteAt
  refine AM.of (by decide +kernel) ⟨rfl, rfl, rfl⟩ (Nat.le_of_ble_eq_true rfl) ?_
  refine AW.chk (fun hthis => ?_)
  refine AW.iload_n (pc := 0) dX12_byteAt_0 rfl 1 rfl ?_
  refine AW.aload_n (pc := 1) dX12_byteAt_1 rfl 0 rfl ?_
  refine AW.getI (pc := 2) dX12_byteAt_2 flX12_177 hthis (kct hthis rfl hct) ?_
  refine AW.icmp_ge (pc := 5) 17 dX12_byteAt_5 (by decide) (fun h1 => ?_) (fun h1 => ?_)
  · refine AW.iconst (pc := 17) dX12_byteAt_17 ci_m1 ?_
    exact AW.iret (pc := 18) dX12_byteAt_18 rfl (fun _ _ _ => rfl) (Nat.le_refl _) (Nat.le_refl _)
  · refine AW.aload_n (pc := 8) dX12_byteAt_8 rfl 0 rfl ?_
    refine AW.chk (fun g2 => ?_)
    refine AW.getR (pc := 9) dX12_byteAt_9 flX12_89 hthis (kct hthis rfl hct) g2 ?_
    refine AW.iload_n (pc := 12) dX12_byteAt_12 rfl 1 rfl ?_
    refine AW.chk (fun g3 => ?_)
    refine AW.iald (pc := 13) dX12_byteAt_13 (k0e g3.1) (kct (k0e g3.1) rfl hct) g3.2 ?_
    refine AW.goto (pc := 14) 18 dX12_byteAt_14 (by decide) ?_
    exact AW.iret (pc := 18) dX12_byteAt_18 rfl (fun _ _ _ => rfl) (Nat.le_refl _) (Nat.le_refl _)
-- GateBoxModel.isLetter(I)Z
def zX12_isLetter (x0 : Int32) (M : Mem) : Option (Int32 × Mem) :=
  if x0 < 97 then
    some (0, M)
  else
    if 122 < x0 then
      some (0, M)
    else
      some (1, M)
set_option maxRecDepth 20000 in
set_option maxHeartbeats 4000000 in
theorem kX12_isLetter (l : Launch) (E : Ev) (n : Nat) (hn : 1 ≤ n) (ct : Nat) (hct : 111 ≤ ct) (ex : Bool) (x0 : Int32) (M : Mem) : AM l E n ct ex yX12_isLetter fX12_isLetter enI [.int x0] M (zX12_isLetter x0 M) := by
  unfold zX12_isLetter
  refine AM.of (by decide +kernel) ⟨rfl, rfl, rfl⟩ (Nat.le_of_ble_eq_true rfl) ?_
  refine AW.iload_n (pc := 0) dX12_isLetter_0 rfl 0 rfl ?_
  refine AW.bipush (pc := 1) dX12_isLetter_1 cb_97 ?_
  refine AW.icmp_lt (pc := 3) 16 dX12_isLetter_3 (by decide) (fun h1 => ?_) (fun h1 => ?_)
  · refine AW.iconst (pc := 16) dX12_isLetter_16 ci_0 ?_
    exact AW.zret (pc := 17) dX12_isLetter_17 rfl (Or.inl rfl) (fun _ _ _ => rfl) (Nat.le_refl _) (Nat.le_refl _)
  · refine AW.iload_n (pc := 6) dX12_isLetter_6 rfl 0 rfl ?_
    refine AW.bipush (pc := 7) dX12_isLetter_7 cb_122 ?_
    refine AW.icmp_gt (pc := 9) 16 dX12_isLetter_9 (by decide) (fun h2 => ?_) (fun h2 => ?_)
    · refine AW.iconst (pc := 16) dX12_isLetter_16 ci_0 ?_
      exact AW.zret (pc := 17) dX12_isLetter_17 rfl (Or.inl rfl) (fun _ _ _ => rfl) (Nat.le_refl _) (Nat.le_refl _)
    · refine AW.iconst (pc := 12) dX12_isLetter_12 ci_1 ?_
      refine AW.goto (pc := 13) 17 dX12_isLetter_13 (by decide) ?_
      exact AW.zret (pc := 17) dX12_isLetter_17 rfl (Or.inr rfl) (fun _ _ _ => rfl) (Nat.le_refl _) (Nat.le_refl _)
-- GateBoxModel.isDigit(I)Z
def zX12_isDigit (x0 : Int32) (M : Mem) : Option (Int32 × Mem) :=
  if x0 < 48 then
    some (0, M)
  else
    if 57 < x0 then
      some (0, M)
    else
      some (1, M)
set_option maxRecDepth 20000 in
set_option maxHeartbeats 4000000 in
theorem kX12_isDigit (l : Launch) (E : Ev) (n : Nat) (hn : 1 ≤ n) (ct : Nat) (hct : 111 ≤ ct) (ex : Bool) (x0 : Int32) (M : Mem) : AM l E n ct ex yX12_isDigit fX12_isDigit enI [.int x0] M (zX12_isDigit x0 M) := by
  unfold zX12_isDigit
  refine AM.of (by decide +kernel) ⟨rfl, rfl, rfl⟩ (Nat.le_of_ble_eq_true rfl) ?_
  refine AW.iload_n (pc := 0) dX12_isDigit_0 rfl 0 rfl ?_
  refine AW.bipush (pc := 1) dX12_isDigit_1 cb_48 ?_
  refine AW.icmp_lt (pc := 3) 16 dX12_isDigit_3 (by decide) (fun h1 => ?_) (fun h1 => ?_)
  · refine AW.iconst (pc := 16) dX12_isDigit_16 ci_0 ?_
    exact AW.zret (pc := 17) dX12_isDigit_17 rfl (Or.inl rfl) (fun _ _ _ => rfl) (Nat.le_refl _) (Nat.le_refl _)
  · refine AW.iload_n (pc := 6) dX12_isDigit_6 rfl 0 rfl ?_
    refine AW.bipush (pc := 7) dX12_isDigit_7 cb_57 ?_
    refine AW.icmp_gt (pc := 9) 16 dX12_isDigit_9 (by decide) (fun h2 => ?_) (fun h2 => ?_)
    · refine AW.iconst (pc := 16) dX12_isDigit_16 ci_0 ?_
      exact AW.zret (pc := 17) dX12_isDigit_17 rfl (Or.inl rfl) (fun _ _ _ => rfl) (Nat.le_refl _) (Nat.le_refl _)
    · refine AW.iconst (pc := 12) dX12_isDigit_12 ci_1 ?_
      refine AW.goto (pc := 13) 17 dX12_isDigit_13 (by decide) ?_
      exact AW.zret (pc := 17) dX12_isDigit_17 rfl (Or.inr rfl) (fun _ _ _ => rfl) (Nat.le_refl _) (Nat.le_refl _)
-- GateBoxModel.isMark(I)Z
def zX12_isMark_B54  (M : Mem) : Option (Int32 × Mem) :=
  some (1, M)
def zX12_isMark (x0 : Int32) (M : Mem) : Option (Int32 × Mem) :=
  if x0 = 59 then
    zX12_isMark_B54 M
  else
    if x0 = 40 then
      zX12_isMark_B54 M
    else
      if x0 = 41 then
        zX12_isMark_B54 M
      else
        if x0 = 43 then
          zX12_isMark_B54 M
        else
          if x0 = 45 then
            zX12_isMark_B54 M
          else
            if x0 = 42 then
              zX12_isMark_B54 M
            else
              if x0 = 47 then
                zX12_isMark_B54 M
              else
                if x0 = 60 then
                  zX12_isMark_B54 M
                else
                  if x0 = 61 then
                    zX12_isMark_B54 M
                  else
                    some (0, M)
set_option maxRecDepth 20000 in
set_option maxHeartbeats 4000000 in
theorem kX12_isMark_B54 (l : Launch) (E : Ev) (n : Nat) (hn : 1 ≤ n) (ct : Nat) (hct : 111 ≤ ct) (ex : Bool)  (M : Mem) : AW l E fX12_isMark (fun _ => rmN n 0 0) (PQr E 0 0 ct ex enI) ct ex 0 0 54 [] [] M (zX12_isMark_B54  M) := by
  unfold zX12_isMark_B54
  refine AW.iconst (pc := 54) dX12_isMark_54 ci_1 ?_
  refine AW.goto (pc := 55) 59 dX12_isMark_55 (by decide) ?_
  exact AW.zret (pc := 59) dX12_isMark_59 rfl (Or.inr rfl) (fun _ _ _ => rfl) (Nat.le_refl _) (Nat.le_refl _)
set_option maxRecDepth 20000 in
set_option maxHeartbeats 4000000 in
theorem kX12_isMark (l : Launch) (E : Ev) (n : Nat) (hn : 1 ≤ n) (ct : Nat) (hct : 111 ≤ ct) (ex : Bool) (x0 : Int32) (M : Mem) : AM l E n ct ex yX12_isMark fX12_isMark enI [.int x0] M (zX12_isMark x0 M) := by
  unfold zX12_isMark
  refine AM.of (by decide +kernel) ⟨rfl, rfl, rfl⟩ (Nat.le_of_ble_eq_true rfl) ?_
  refine AW.iload_n (pc := 0) dX12_isMark_0 rfl 0 rfl ?_
  refine AW.bipush (pc := 1) dX12_isMark_1 cb_59 ?_
  refine AW.icmp_eq (pc := 3) 54 dX12_isMark_3 (by decide) (fun h1 => ?_) (fun h1 => ?_)
  · exact AW.sub [] rfl (kX12_isMark_B54 l E n hn ct hct ex M)
  · refine AW.iload_n (pc := 6) dX12_isMark_6 rfl 0 rfl ?_
    refine AW.bipush (pc := 7) dX12_isMark_7 cb_40 ?_
    refine AW.icmp_eq (pc := 9) 54 dX12_isMark_9 (by decide) (fun h2 => ?_) (fun h2 => ?_)
    · exact AW.sub [] rfl (kX12_isMark_B54 l E n hn ct hct ex M)
    · refine AW.iload_n (pc := 12) dX12_isMark_12 rfl 0 rfl ?_
      refine AW.bipush (pc := 13) dX12_isMark_13 cb_41 ?_
      refine AW.icmp_eq (pc := 15) 54 dX12_isMark_15 (by decide) (fun h3 => ?_) (fun h3 => ?_)
      · exact AW.sub [] rfl (kX12_isMark_B54 l E n hn ct hct ex M)
      · refine AW.iload_n (pc := 18) dX12_isMark_18 rfl 0 rfl ?_
        refine AW.bipush (pc := 19) dX12_isMark_19 cb_43 ?_
        refine AW.icmp_eq (pc := 21) 54 dX12_isMark_21 (by decide) (fun h4 => ?_) (fun h4 => ?_)
        · exact AW.sub [] rfl (kX12_isMark_B54 l E n hn ct hct ex M)
        · refine AW.iload_n (pc := 24) dX12_isMark_24 rfl 0 rfl ?_
          refine AW.bipush (pc := 25) dX12_isMark_25 cb_45 ?_
          refine AW.icmp_eq (pc := 27) 54 dX12_isMark_27 (by decide) (fun h5 => ?_) (fun h5 => ?_)
          · exact AW.sub [] rfl (kX12_isMark_B54 l E n hn ct hct ex M)
          · refine AW.iload_n (pc := 30) dX12_isMark_30 rfl 0 rfl ?_
            refine AW.bipush (pc := 31) dX12_isMark_31 cb_42 ?_
            refine AW.icmp_eq (pc := 33) 54 dX12_isMark_33 (by decide) (fun h6 => ?_) (fun h6 => ?_)
            · exact AW.sub [] rfl (kX12_isMark_B54 l E n hn ct hct ex M)
            · refine AW.iload_n (pc := 36) dX12_isMark_36 rfl 0 rfl ?_
              refine AW.bipush (pc := 37) dX12_isMark_37 cb_47 ?_
              refine AW.icmp_eq (pc := 39) 54 dX12_isMark_39 (by decide) (fun h7 => ?_) (fun h7 => ?_)
              · exact AW.sub [] rfl (kX12_isMark_B54 l E n hn ct hct ex M)
              · refine AW.iload_n (pc := 42) dX12_isMark_42 rfl 0 rfl ?_
                refine AW.bipush (pc := 43) dX12_isMark_43 cb_60 ?_
                refine AW.icmp_eq (pc := 45) 54 dX12_isMark_45 (by decide) (fun h8 => ?_) (fun h8 => ?_)
                · exact AW.sub [] rfl (kX12_isMark_B54 l E n hn ct hct ex M)
                · refine AW.iload_n (pc := 48) dX12_isMark_48 rfl 0 rfl ?_
                  refine AW.bipush (pc := 49) dX12_isMark_49 cb_61 ?_
                  refine AW.icmp_ne (pc := 51) 58 dX12_isMark_51 (by decide) (fun h9 => ?_) (fun h9 => ?_)
                  · exact AW.sub [] rfl (kX12_isMark_B54 l E n hn ct hct ex M)
                  · refine AW.iconst (pc := 58) dX12_isMark_58 ci_0 ?_
                    exact AW.zret (pc := 59) dX12_isMark_59 rfl (Or.inl rfl) (fun _ _ _ => rfl) (Nat.le_refl _) (Nat.le_refl _)
-- GateBoxModel.stepOn()V
def zX12_stepOn_B213 (this : Nat) (M : Mem) : Option (Unit × Mem) :=
  lt (sI M this 26 (mI M this 21)) fun M1 =>
  some ((), M1)
def zX12_stepOn_B210 (this : Nat) (s0 : Nat) (s1 : Int32) (M : Mem) : Option (Unit × Mem) :=
  if K0 s0 = (0, 12) then
  lt (sI M s0 23 s1) fun M2 =>
  zX12_stepOn_B213 this M2
  else none
def zX12_stepOn_B123 (KK123 : Nat → Mem → Option (Unit × Mem)) (this : Nat) (M : Mem) : Option (Unit × Mem) :=
  bnd (zX12_byteAt this (mI M this 21) M) fun v1 M2 =>
  bnd (zX12_isDigit v1 M2) fun v3 M4 =>
  if v3 = 0 then
    lt (sI M4 this 23 2) fun M6 =>
    zX12_stepOn_B213 this M6
  else
    bnd (zX12_byteAt this (mI M4 this 21) M4) fun v7 M8 =>
    lt (sI M8 this 24 (imin 10000 (((10 * (mI M4 this 24)) + v7) - 48))) fun M9 =>
    lt (sI M9 this 21 ((mI M9 this 21) + 1)) fun M10 =>
    KK123 this M10
def zX12_stepOn_L123 : Nat → Nat → Mem → Option (Unit × Mem)
  | 0 => fun _ _ => none
  | k + 1 => zX12_stepOn_B123 (zX12_stepOn_L123 k)
def zX12_stepOn_B76 (KK76 : Nat → Mem → Option (Unit × Mem)) (this : Nat) (M : Mem) : Option (Unit × Mem) :=
  bnd (zX12_byteAt this (mI M this 21) M) fun v1 M2 =>
  bnd (zX12_isLetter v1 M2) fun v3 M4 =>
  if v3 = 0 then
    lt (sI M4 this 23 1) fun M6 =>
    zX12_stepOn_B213 this M6
  else
    lt (sI M4 this 21 ((mI M4 this 21) + 1)) fun M7 =>
    KK76 this M7
def zX12_stepOn_L76 : Nat → Nat → Mem → Option (Unit × Mem)
  | 0 => fun _ _ => none
  | k + 1 => zX12_stepOn_B76 (zX12_stepOn_L76 k)
def zX12_stepOn_B26 (KK0 : Nat → Mem → Option (Unit × Mem)) (this : Nat) (M : Mem) : Option (Unit × Mem) :=
  lt (sI M this 21 ((mI M this 21) + 1)) fun M1 =>
  KK0 this M1
def zX12_stepOn_B0 (KK0 : Nat → Mem → Option (Unit × Mem)) (this : Nat) (M : Mem) : Option (Unit × Mem) :=
  bnd (zX12_byteAt this (mI M this 21) M) fun v1 M2 =>
  if v1 = 32 then
    zX12_stepOn_B26 KK0 this M2
  else
    bnd (zX12_byteAt this (mI M2 this 21) M2) fun v4 M5 =>
    if v4 = 10 then
      zX12_stepOn_B26 KK0 this M5
    else
      lt (sI M5 this 25 (mI M5 this 21)) fun M7 =>
      bnd (zX12_byteAt this (mI M7 this 21) M7) fun v8 M9 =>
      if v8 = (-1) then
        lt (sI M9 this 23 0) fun M11 =>
        zX12_stepOn_B213 this M11
      else
        bnd (zX12_isLetter v8 M9) fun v12 M13 =>
        if v12 = 0 then
          bnd (zX12_isDigit v8 M13) fun v15 M16 =>
          if v15 = 0 then
            lt (sI M16 this 21 ((mI M16 this 21) + 1)) fun M18 =>
            bnd (zX12_isMark v8 M18) fun v19 M20 =>
            if v19 = 0 then
              zX12_stepOn_B210 this this 4 M20
            else
              zX12_stepOn_B210 this this 3 M20
          else
            lt (sI M16 this 24 0) fun M22 =>
            zX12_stepOn_L123 FU this M22
        else
          zX12_stepOn_L76 FU this M13
def zX12_stepOn_L0 : Nat → Nat → Mem → Option (Unit × Mem)
  | 0 => fun _ _ => none
  | k + 1 => zX12_stepOn_B0 (zX12_stepOn_L0 k)
def zX12_stepOn (this : Nat) (M : Mem) : Option (Unit × Mem) :=
  if K0 this = (0, 12) then
  zX12_stepOn_L0 FU this M
  else none
set_option maxRecDepth 20000 in
set_option maxHeartbeats 4000000 in
theorem kX12_stepOn_B213 (l : Launch) (E : Ev) (n : Nat) (hn : 6 ≤ n) (ct : Nat) (hct : 111 ≤ ct) (ex : Bool) (this : Nat) (M : Mem) (hthis : K0 this = (0, 12)) : AW l E fX12_stepOn (fun _ => rmN n 0 0) (PQr E 0 0 ct ex enU) ct ex 0 0 213 [(0, .ref (ad E this))] [] M (zX12_stepOn_B213 this M) := by
  unfold zX12_stepOn_B213
  refine AW.aload_n (pc := 213) dX12_stepOn_213 rfl 0 rfl ?_
  refine AW.aload_n (pc := 214) dX12_stepOn_214 rfl 0 rfl ?_
  refine AW.getI (pc := 215) dX12_stepOn_215 flX12_180 hthis (kct hthis rfl hct) ?_
  refine AW.putI (pc := 218) dX12_stepOn_218 flX12_210 hthis (kct hthis rfl hct) ?_
  refine AW.genM (fun M1 => ?_)
  exact AW.vret (pc := 221) dX12_stepOn_221 rfl (fun _ _ _ => rfl) (Nat.le_refl _) (Nat.le_refl _)
set_option maxRecDepth 20000 in
set_option maxHeartbeats 4000000 in
theorem kX12_stepOn_B210 (l : Launch) (E : Ev) (n : Nat) (hn : 6 ≤ n) (ct : Nat) (hct : 111 ≤ ct) (ex : Bool) (this : Nat) (s0 : Nat) (s1 : Int32) (M : Mem) (hthis : K0 this = (0, 12)) : AW l E fX12_stepOn (fun _ => rmN n 0 0) (PQr E 0 0 ct ex enU) ct ex 0 0 210 [(0, .ref (ad E this))] [.int s1, .ref (ad E s0)] M (zX12_stepOn_B210 this s0 s1 M) := by
  unfold zX12_stepOn_B210
  refine AW.chk (fun g1 => ?_)
  refine AW.putI (pc := 210) dX12_stepOn_210 flX12_189 g1 (kct g1 rfl hct) ?_
  refine AW.genM (fun M2 => ?_)
  exact kX12_stepOn_B213 l E n hn ct hct ex this M2 hthis
set_option maxRecDepth 20000 in
set_option maxHeartbeats 4000000 in
theorem kX12_stepOn_B123 (l : Launch) (E : Ev) (n : Nat) (hn : 6 ≤ n) (ct : Nat) (hct : 111 ≤ ct) (ex : Bool) (KK123 : Nat → Mem → Option (Unit × Mem)) (hKK123 : ∀ (this : Nat) (M : Mem) (_ : K0 this = (0, 12)), AW l E fX12_stepOn (fun _ => rmN n 0 0) (PQr E 0 0 ct ex enU) ct ex 0 0 123 [(0, .ref (ad E this))] [] M (KK123 this M)) (this : Nat) (M : Mem) (hthis : K0 this = (0, 12)) : AW l E fX12_stepOn (fun _ => rmN n 0 0) (PQr E 0 0 ct ex enU) ct ex 0 0 123 [(0, .ref (ad E this))] [] M (zX12_stepOn_B123 KK123 this M) := by
  unfold zX12_stepOn_B123
  refine AW.aload_n (pc := 123) dX12_stepOn_123 rfl 0 rfl ?_
  refine AW.aload_n (pc := 124) dX12_stepOn_124 rfl 0 rfl ?_
  refine AW.getI (pc := 125) dX12_stepOn_125 flX12_180 hthis (kct hthis rfl hct) ?_
  refine AW.cV1i (pc := 128) dX12_stepOn_128 mlX12_183 mbX12_byteAt rfl hthis (kct hthis rfl hct) (fun _ => okR_N (by omega)) (kX12_byteAt l E (n - 1) (by omega) ct hct ex this (mI M this 21) M) (Nat.le_of_ble_eq_true rfl) (fun v1 M2 => ?_)
  refine AW.cS1i (pc := 131) dX12_stepOn_131 mlX12_195 mbX12_isDigit (fun _ => okR_N (by omega)) (kX12_isDigit l E (n - 1) (by omega) ct hct ex v1 M2) (Nat.le_of_ble_eq_true rfl) (fun v3 M4 => ?_)
  refine AW.if_eq (pc := 134) 179 dX12_stepOn_134 (by decide) (fun h5 => ?_) (fun h5 => ?_)
  · refine AW.aload_n (pc := 179) dX12_stepOn_179 rfl 0 rfl ?_
    refine AW.iconst (pc := 180) dX12_stepOn_180 ci_2 ?_
    refine AW.putI (pc := 181) dX12_stepOn_181 flX12_189 hthis (kct hthis rfl hct) ?_
    refine AW.genM (fun M6 => ?_)
    refine AW.goto (pc := 184) 213 dX12_stepOn_184 (by decide) ?_
    exact kX12_stepOn_B213 l E n hn ct hct ex this M6 hthis
  · refine AW.aload_n (pc := 137) dX12_stepOn_137 rfl 0 rfl ?_
    refine AW.sipush (pc := 138) dX12_stepOn_138 cs_10000 ?_
    refine AW.bipush (pc := 141) dX12_stepOn_141 cb_10 ?_
    refine AW.aload_n (pc := 143) dX12_stepOn_143 rfl 0 rfl ?_
    refine AW.getI (pc := 144) dX12_stepOn_144 flX12_198 hthis (kct hthis rfl hct) ?_
    refine AW.imul (pc := 147) dX12_stepOn_147 ?_
    refine AW.aload_n (pc := 148) dX12_stepOn_148 rfl 0 rfl ?_
    refine AW.aload_n (pc := 149) dX12_stepOn_149 rfl 0 rfl ?_
    refine AW.getI (pc := 150) dX12_stepOn_150 flX12_180 hthis (kct hthis rfl hct) ?_
    refine AW.cV1i (pc := 153) dX12_stepOn_153 mlX12_183 mbX12_byteAt rfl hthis (kct hthis rfl hct) (fun _ => okR_N (by omega)) (kX12_byteAt l E (n - 1) (by omega) ct hct ex this (mI M4 this 21) M4) (Nat.le_of_ble_eq_true rfl) (fun v7 M8 => ?_)
    refine AW.iadd (pc := 156) dX12_stepOn_156 ?_
    refine AW.bipush (pc := 157) dX12_stepOn_157 cb_48 ?_
    refine AW.isub (pc := 159) dX12_stepOn_159 ?_
    refine AW.mmin (pc := 160) dX12_stepOn_160 mlX12_201 mb_min (fun _ => okR_N (by omega)) (Nat.le_of_ble_eq_true rfl) ?_
    refine AW.putI (pc := 163) dX12_stepOn_163 flX12_198 hthis (kct hthis rfl hct) ?_
    refine AW.genM (fun M9 => ?_)
    refine AW.aload_n (pc := 166) dX12_stepOn_166 rfl 0 rfl ?_
    refine AW.dup (pc := 167) dX12_stepOn_167 rfl ?_
    refine AW.getI (pc := 168) dX12_stepOn_168 flX12_180 hthis (kct hthis rfl hct) ?_
    refine AW.iconst (pc := 171) dX12_stepOn_171 ci_1 ?_
    refine AW.iadd (pc := 172) dX12_stepOn_172 ?_
    refine AW.putI (pc := 173) dX12_stepOn_173 flX12_180 hthis (kct hthis rfl hct) ?_
    refine AW.genM (fun M10 => ?_)
    refine AW.goto (pc := 176) 123 dX12_stepOn_176 (by decide) ?_
    exact hKK123 this M10 hthis
set_option maxRecDepth 20000 in
set_option maxHeartbeats 4000000 in
theorem kX12_stepOn_L123 (l : Launch) (E : Ev) (n : Nat) (hn : 6 ≤ n) (ct : Nat) (hct : 111 ≤ ct) (ex : Bool) (k : Nat) : ∀ (this : Nat) (M : Mem) (_ : K0 this = (0, 12)), AW l E fX12_stepOn (fun _ => rmN n 0 0) (PQr E 0 0 ct ex enU) ct ex 0 0 123 [(0, .ref (ad E this))] [] M (zX12_stepOn_L123 k this M) := by
  induction k with
  | zero => intro this M _; exact AW.none
  | succ k ih =>
    intro this M hthis
    exact kX12_stepOn_B123 l E n hn ct hct ex (zX12_stepOn_L123 k) ih this M hthis
set_option maxRecDepth 20000 in
set_option maxHeartbeats 4000000 in
theorem kX12_stepOn_B76 (l : Launch) (E : Ev) (n : Nat) (hn : 6 ≤ n) (ct : Nat) (hct : 111 ≤ ct) (ex : Bool) (KK76 : Nat → Mem → Option (Unit × Mem)) (hKK76 : ∀ (this : Nat) (M : Mem) (_ : K0 this = (0, 12)), AW l E fX12_stepOn (fun _ => rmN n 0 0) (PQr E 0 0 ct ex enU) ct ex 0 0 76 [(0, .ref (ad E this))] [] M (KK76 this M)) (this : Nat) (M : Mem) (hthis : K0 this = (0, 12)) : AW l E fX12_stepOn (fun _ => rmN n 0 0) (PQr E 0 0 ct ex enU) ct ex 0 0 76 [(0, .ref (ad E this))] [] M (zX12_stepOn_B76 KK76 this M) := by
  unfold zX12_stepOn_B76
  refine AW.aload_n (pc := 76) dX12_stepOn_76 rfl 0 rfl ?_
  refine AW.aload_n (pc := 77) dX12_stepOn_77 rfl 0 rfl ?_
  refine AW.getI (pc := 78) dX12_stepOn_78 flX12_180 hthis (kct hthis rfl hct) ?_
  refine AW.cV1i (pc := 81) dX12_stepOn_81 mlX12_183 mbX12_byteAt rfl hthis (kct hthis rfl hct) (fun _ => okR_N (by omega)) (kX12_byteAt l E (n - 1) (by omega) ct hct ex this (mI M this 21) M) (Nat.le_of_ble_eq_true rfl) (fun v1 M2 => ?_)
  refine AW.cS1i (pc := 84) dX12_stepOn_84 mlX12_192 mbX12_isLetter (fun _ => okR_N (by omega)) (kX12_isLetter l E (n - 1) (by omega) ct hct ex v1 M2) (Nat.le_of_ble_eq_true rfl) (fun v3 M4 => ?_)
  refine AW.if_eq (pc := 87) 103 dX12_stepOn_87 (by decide) (fun h5 => ?_) (fun h5 => ?_)
  · refine AW.aload_n (pc := 103) dX12_stepOn_103 rfl 0 rfl ?_
    refine AW.iconst (pc := 104) dX12_stepOn_104 ci_1 ?_
    refine AW.putI (pc := 105) dX12_stepOn_105 flX12_189 hthis (kct hthis rfl hct) ?_
    refine AW.genM (fun M6 => ?_)
    refine AW.goto (pc := 108) 213 dX12_stepOn_108 (by decide) ?_
    exact kX12_stepOn_B213 l E n hn ct hct ex this M6 hthis
  · refine AW.aload_n (pc := 90) dX12_stepOn_90 rfl 0 rfl ?_
    refine AW.dup (pc := 91) dX12_stepOn_91 rfl ?_
    refine AW.getI (pc := 92) dX12_stepOn_92 flX12_180 hthis (kct hthis rfl hct) ?_
    refine AW.iconst (pc := 95) dX12_stepOn_95 ci_1 ?_
    refine AW.iadd (pc := 96) dX12_stepOn_96 ?_
    refine AW.putI (pc := 97) dX12_stepOn_97 flX12_180 hthis (kct hthis rfl hct) ?_
    refine AW.genM (fun M7 => ?_)
    refine AW.goto (pc := 100) 76 dX12_stepOn_100 (by decide) ?_
    exact hKK76 this M7 hthis
set_option maxRecDepth 20000 in
set_option maxHeartbeats 4000000 in
theorem kX12_stepOn_L76 (l : Launch) (E : Ev) (n : Nat) (hn : 6 ≤ n) (ct : Nat) (hct : 111 ≤ ct) (ex : Bool) (k : Nat) : ∀ (this : Nat) (M : Mem) (_ : K0 this = (0, 12)), AW l E fX12_stepOn (fun _ => rmN n 0 0) (PQr E 0 0 ct ex enU) ct ex 0 0 76 [(0, .ref (ad E this))] [] M (zX12_stepOn_L76 k this M) := by
  induction k with
  | zero => intro this M _; exact AW.none
  | succ k ih =>
    intro this M hthis
    exact kX12_stepOn_B76 l E n hn ct hct ex (zX12_stepOn_L76 k) ih this M hthis
set_option maxRecDepth 20000 in
set_option maxHeartbeats 4000000 in
theorem kX12_stepOn_B26 (l : Launch) (E : Ev) (n : Nat) (hn : 6 ≤ n) (ct : Nat) (hct : 111 ≤ ct) (ex : Bool) (KK0 : Nat → Mem → Option (Unit × Mem)) (hKK0 : ∀ (this : Nat) (M : Mem) (_ : K0 this = (0, 12)), AW l E fX12_stepOn (fun _ => rmN n 0 0) (PQr E 0 0 ct ex enU) ct ex 0 0 0 [(0, .ref (ad E this))] [] M (KK0 this M)) (this : Nat) (M : Mem) (hthis : K0 this = (0, 12)) : AW l E fX12_stepOn (fun _ => rmN n 0 0) (PQr E 0 0 ct ex enU) ct ex 0 0 26 [(0, .ref (ad E this))] [] M (zX12_stepOn_B26 KK0 this M) := by
  unfold zX12_stepOn_B26
  refine AW.aload_n (pc := 26) dX12_stepOn_26 rfl 0 rfl ?_
  refine AW.dup (pc := 27) dX12_stepOn_27 rfl ?_
  refine AW.getI (pc := 28) dX12_stepOn_28 flX12_180 hthis (kct hthis rfl hct) ?_
  refine AW.iconst (pc := 31) dX12_stepOn_31 ci_1 ?_
  refine AW.iadd (pc := 32) dX12_stepOn_32 ?_
  refine AW.putI (pc := 33) dX12_stepOn_33 flX12_180 hthis (kct hthis rfl hct) ?_
  refine AW.genM (fun M1 => ?_)
  refine AW.goto (pc := 36) 0 dX12_stepOn_36 (by decide) ?_
  exact hKK0 this M1 hthis
set_option maxRecDepth 20000 in
set_option maxHeartbeats 4000000 in
theorem kX12_stepOn_B0 (l : Launch) (E : Ev) (n : Nat) (hn : 6 ≤ n) (ct : Nat) (hct : 111 ≤ ct) (ex : Bool) (KK0 : Nat → Mem → Option (Unit × Mem)) (hKK0 : ∀ (this : Nat) (M : Mem) (_ : K0 this = (0, 12)), AW l E fX12_stepOn (fun _ => rmN n 0 0) (PQr E 0 0 ct ex enU) ct ex 0 0 0 [(0, .ref (ad E this))] [] M (KK0 this M)) (this : Nat) (M : Mem) (hthis : K0 this = (0, 12)) : AW l E fX12_stepOn (fun _ => rmN n 0 0) (PQr E 0 0 ct ex enU) ct ex 0 0 0 [(0, .ref (ad E this))] [] M (zX12_stepOn_B0 KK0 this M) := by
  unfold zX12_stepOn_B0
  refine AW.aload_n (pc := 0) dX12_stepOn_0 rfl 0 rfl ?_
  refine AW.aload_n (pc := 1) dX12_stepOn_1 rfl 0 rfl ?_
  refine AW.getI (pc := 2) dX12_stepOn_2 flX12_180 hthis (kct hthis rfl hct) ?_
  refine AW.cV1i (pc := 5) dX12_stepOn_5 mlX12_183 mbX12_byteAt rfl hthis (kct hthis rfl hct) (fun _ => okR_N (by omega)) (kX12_byteAt l E (n - 1) (by omega) ct hct ex this (mI M this 21) M) (Nat.le_of_ble_eq_true rfl) (fun v1 M2 => ?_)
  refine AW.bipush (pc := 8) dX12_stepOn_8 cb_32 ?_
  refine AW.icmp_eq (pc := 10) 26 dX12_stepOn_10 (by decide) (fun h3 => ?_) (fun h3 => ?_)
  · exact kX12_stepOn_B26 l E n hn ct hct ex KK0 hKK0 this M2 hthis
  · refine AW.aload_n (pc := 13) dX12_stepOn_13 rfl 0 rfl ?_
    refine AW.aload_n (pc := 14) dX12_stepOn_14 rfl 0 rfl ?_
    refine AW.getI (pc := 15) dX12_stepOn_15 flX12_180 hthis (kct hthis rfl hct) ?_
    refine AW.cV1i (pc := 18) dX12_stepOn_18 mlX12_183 mbX12_byteAt rfl hthis (kct hthis rfl hct) (fun _ => okR_N (by omega)) (kX12_byteAt l E (n - 1) (by omega) ct hct ex this (mI M2 this 21) M2) (Nat.le_of_ble_eq_true rfl) (fun v4 M5 => ?_)
    refine AW.bipush (pc := 21) dX12_stepOn_21 cb_10 ?_
    refine AW.icmp_ne (pc := 23) 39 dX12_stepOn_23 (by decide) (fun h6 => ?_) (fun h6 => ?_)
    · exact kX12_stepOn_B26 l E n hn ct hct ex KK0 hKK0 this M5 hthis
    · refine AW.aload_n (pc := 39) dX12_stepOn_39 rfl 0 rfl ?_
      refine AW.aload_n (pc := 40) dX12_stepOn_40 rfl 0 rfl ?_
      refine AW.getI (pc := 41) dX12_stepOn_41 flX12_180 hthis (kct hthis rfl hct) ?_
      refine AW.putI (pc := 44) dX12_stepOn_44 flX12_186 hthis (kct hthis rfl hct) ?_
      refine AW.genM (fun M7 => ?_)
      refine AW.aload_n (pc := 47) dX12_stepOn_47 rfl 0 rfl ?_
      refine AW.aload_n (pc := 48) dX12_stepOn_48 rfl 0 rfl ?_
      refine AW.getI (pc := 49) dX12_stepOn_49 flX12_180 hthis (kct hthis rfl hct) ?_
      refine AW.cV1i (pc := 52) dX12_stepOn_52 mlX12_183 mbX12_byteAt rfl hthis (kct hthis rfl hct) (fun _ => okR_N (by omega)) (kX12_byteAt l E (n - 1) (by omega) ct hct ex this (mI M7 this 21) M7) (Nat.le_of_ble_eq_true rfl) (fun v8 M9 => ?_)
      refine AW.istore_n (pc := 55) [1, 0] [(0, .ref (ad E this)), (1, .int v8)] dX12_stepOn_55 rfl (by decide) rfl ?_
      refine AW.iload_n (pc := 56) dX12_stepOn_56 rfl 1 rfl ?_
      refine AW.iconst (pc := 57) dX12_stepOn_57 ci_m1 ?_
      refine AW.icmp_ne (pc := 58) 69 dX12_stepOn_58 (by decide) (fun h10 => ?_) (fun h10 => ?_)
      · refine AW.aload_n (pc := 61) dX12_stepOn_61 rfl 0 rfl ?_
        refine AW.iconst (pc := 62) dX12_stepOn_62 ci_0 ?_
        refine AW.putI (pc := 63) dX12_stepOn_63 flX12_189 hthis (kct hthis rfl hct) ?_
        refine AW.genM (fun M11 => ?_)
        refine AW.goto (pc := 66) 213 dX12_stepOn_66 (by decide) ?_
        exact AW.sub [0] rfl (kX12_stepOn_B213 l E n hn ct hct ex this M11 hthis)
      · refine AW.iload_n (pc := 69) dX12_stepOn_69 rfl 1 rfl ?_
        refine AW.cS1i (pc := 70) dX12_stepOn_70 mlX12_192 mbX12_isLetter (fun _ => okR_N (by omega)) (kX12_isLetter l E (n - 1) (by omega) ct hct ex v8 M9) (Nat.le_of_ble_eq_true rfl) (fun v12 M13 => ?_)
        refine AW.if_eq (pc := 73) 111 dX12_stepOn_73 (by decide) (fun h14 => ?_) (fun h14 => ?_)
        · refine AW.iload_n (pc := 111) dX12_stepOn_111 rfl 1 rfl ?_
          refine AW.cS1i (pc := 112) dX12_stepOn_112 mlX12_195 mbX12_isDigit (fun _ => okR_N (by omega)) (kX12_isDigit l E (n - 1) (by omega) ct hct ex v8 M13) (Nat.le_of_ble_eq_true rfl) (fun v15 M16 => ?_)
          refine AW.if_eq (pc := 115) 187 dX12_stepOn_115 (by decide) (fun h17 => ?_) (fun h17 => ?_)
          · refine AW.aload_n (pc := 187) dX12_stepOn_187 rfl 0 rfl ?_
            refine AW.dup (pc := 188) dX12_stepOn_188 rfl ?_
            refine AW.getI (pc := 189) dX12_stepOn_189 flX12_180 hthis (kct hthis rfl hct) ?_
            refine AW.iconst (pc := 192) dX12_stepOn_192 ci_1 ?_
            refine AW.iadd (pc := 193) dX12_stepOn_193 ?_
            refine AW.putI (pc := 194) dX12_stepOn_194 flX12_180 hthis (kct hthis rfl hct) ?_
            refine AW.genM (fun M18 => ?_)
            refine AW.aload_n (pc := 197) dX12_stepOn_197 rfl 0 rfl ?_
            refine AW.iload_n (pc := 198) dX12_stepOn_198 rfl 1 rfl ?_
            refine AW.cS1i (pc := 199) dX12_stepOn_199 mlX12_207 mbX12_isMark (fun _ => okR_N (by omega)) (kX12_isMark l E (n - 1) (by omega) ct hct ex v8 M18) (Nat.le_of_ble_eq_true rfl) (fun v19 M20 => ?_)
            refine AW.if_eq (pc := 202) 209 dX12_stepOn_202 (by decide) (fun h21 => ?_) (fun h21 => ?_)
            · refine AW.iconst (pc := 209) dX12_stepOn_209 ci_4 ?_
              exact AW.sub [0] rfl (kX12_stepOn_B210 l E n hn ct hct ex this this 4 M20 hthis)
            · refine AW.iconst (pc := 205) dX12_stepOn_205 ci_3 ?_
              refine AW.goto (pc := 206) 210 dX12_stepOn_206 (by decide) ?_
              exact AW.sub [0] rfl (kX12_stepOn_B210 l E n hn ct hct ex this this 3 M20 hthis)
          · refine AW.aload_n (pc := 118) dX12_stepOn_118 rfl 0 rfl ?_
            refine AW.iconst (pc := 119) dX12_stepOn_119 ci_0 ?_
            refine AW.putI (pc := 120) dX12_stepOn_120 flX12_198 hthis (kct hthis rfl hct) ?_
            refine AW.genM (fun M22 => ?_)
            exact AW.sub [0] rfl (kX12_stepOn_L123 l E n hn ct hct ex FU this M22 hthis)
        · exact AW.sub [0] rfl (kX12_stepOn_L76 l E n hn ct hct ex FU this M13 hthis)
set_option maxRecDepth 20000 in
set_option maxHeartbeats 4000000 in
theorem kX12_stepOn_L0 (l : Launch) (E : Ev) (n : Nat) (hn : 6 ≤ n) (ct : Nat) (hct : 111 ≤ ct) (ex : Bool) (k : Nat) : ∀ (this : Nat) (M : Mem) (_ : K0 this = (0, 12)), AW l E fX12_stepOn (fun _ => rmN n 0 0) (PQr E 0 0 ct ex enU) ct ex 0 0 0 [(0, .ref (ad E this))] [] M (zX12_stepOn_L0 k this M) := by
  induction k with
  | zero => intro this M _; exact AW.none
  | succ k ih =>
    intro this M hthis
    exact kX12_stepOn_B0 l E n hn ct hct ex (zX12_stepOn_L0 k) ih this M hthis
set_option maxRecDepth 20000 in
set_option maxHeartbeats 4000000 in
theorem kX12_stepOn (l : Launch) (E : Ev) (n : Nat) (hn : 6 ≤ n) (ct : Nat) (hct : 111 ≤ ct) (ex : Bool) (this : Nat) (M : Mem) : AM l E n ct ex yX12_stepOn fX12_stepOn enU [.ref (ad E this)] M (zX12_stepOn this M) := by
  unfold zX12_stepOn
  refine AM.of (by decide +kernel) ⟨rfl, rfl, rfl⟩ (Nat.le_of_ble_eq_true rfl) ?_
  refine AW.chk (fun hthis => ?_)
  exact kX12_stepOn_L0 l E n hn ct hct ex FU this M hthis
-- GateBoxModel.wrong(I)V
def zX12_wrong (this : Nat) (x1 : Int32) (M : Mem) : Option (Unit × Mem) :=
  if K0 this = (0, 12) then
  if (mI M this 27) = 0 then
    lt (sI M this 27 x1) fun M2 =>
    lt (sI M2 this 28 (mI M2 this 25)) fun M3 =>
    some ((), M3)
  else
    some ((), M)
  else none
set_option maxRecDepth 20000 in
set_option maxHeartbeats 4000000 in
theorem kX12_wrong (l : Launch) (E : Ev) (n : Nat) (hn : 1 ≤ n) (ct : Nat) (hct : 111 ≤ ct) (ex : Bool) (this : Nat) (x1 : Int32) (M : Mem) : AM l E n ct ex yX12_wrong fX12_wrong enU [.ref (ad E this), .int x1] M (zX12_wrong this x1 M) := by
  unfold zX12_wrong
  refine AM.of (by decide +kernel) ⟨rfl, rfl, rfl⟩ (Nat.le_of_ble_eq_true rfl) ?_
  refine AW.chk (fun hthis => ?_)
  refine AW.aload_n (pc := 0) dX12_wrong_0 rfl 0 rfl ?_
  refine AW.getI (pc := 1) dX12_wrong_1 flX12_213 hthis (kct hthis rfl hct) ?_
  refine AW.if_eq (pc := 4) 8 dX12_wrong_4 (by decide) (fun h1 => ?_) (fun h1 => ?_)
  · refine AW.aload_n (pc := 8) dX12_wrong_8 rfl 0 rfl ?_
    refine AW.iload_n (pc := 9) dX12_wrong_9 rfl 1 rfl ?_
    refine AW.putI (pc := 10) dX12_wrong_10 flX12_213 hthis (kct hthis rfl hct) ?_
    refine AW.genM (fun M2 => ?_)
    refine AW.aload_n (pc := 13) dX12_wrong_13 rfl 0 rfl ?_
    refine AW.aload_n (pc := 14) dX12_wrong_14 rfl 0 rfl ?_
    refine AW.getI (pc := 15) dX12_wrong_15 flX12_186 hthis (kct hthis rfl hct) ?_
    refine AW.putI (pc := 18) dX12_wrong_18 flX12_216 hthis (kct hthis rfl hct) ?_
    refine AW.genM (fun M3 => ?_)
    exact AW.vret (pc := 21) dX12_wrong_21 rfl (fun _ _ _ => rfl) (Nat.le_refl _) (Nat.le_refl _)
  · exact AW.vret (pc := 7) dX12_wrong_7 rfl (fun _ _ _ => rfl) (Nat.le_refl _) (Nat.le_refl _)
-- GateBoxModel.is(Ljava/lang/String;)Z
def zX12_is_B75 (KK39 : Nat → Nat → Int32 → Int32 → Mem → Option (Int32 × Mem)) (this : Nat) (x1 : Nat) (x3 : Int32) (s0 : Int32) (M : Mem) : Option (Int32 × Mem) :=
  KK39 this x1 s0 (x3 + 1) M
def zX12_is_B39 (KK39 : Nat → Nat → Int32 → Int32 → Mem → Option (Int32 × Mem)) (this : Nat) (x1 : Nat) (x2 : Int32) (x3 : Int32) (M : Mem) : Option (Int32 × Mem) :=
  if x2 = 0 then
    if x2 = 0 ∨ x2 = 1 then
    some (x2, M)
    else none
  else
    bnd (zS_length x1 M) fun v3 M4 =>
    if v3 ≤ x3 then
      if x2 = 0 ∨ x2 = 1 then
      some (x2, M4)
      else none
    else
      bnd (zS_charAt x1 x3 M4) fun v7 M8 =>
      if mR M8 this 19 ≠ 0 then
      if (K0 (mR M8 this 19)).1 = 1 ∧ inb ((mI M8 this 25) + x3) (K0 (mR M8 this 19)).2 = true then
      if v7 = (mI M8 (mR M8 this 19) (Int32.toNatClampNeg ((mI M8 this 25) + x3))) then
        zX12_is_B75 KK39 this x1 x3 1 M8
      else
        zX12_is_B75 KK39 this x1 x3 0 M8
      else none
      else none
def zX12_is_L39 : Nat → Nat → Nat → Int32 → Int32 → Mem → Option (Int32 × Mem)
  | 0 => fun _ _ _ _ _ => none
  | k + 1 => zX12_is_B39 (zX12_is_L39 k)
def zX12_is_B36 (this : Nat) (x1 : Nat) (s0 : Int32) (M : Mem) : Option (Int32 × Mem) :=
  zX12_is_L39 FU this x1 s0 0 M
def zX12_is_B35 (this : Nat) (x1 : Nat) (M : Mem) : Option (Int32 × Mem) :=
  zX12_is_B36 this x1 0 M
def zX12_is (this : Nat) (x1 : Nat) (M : Mem) : Option (Int32 × Mem) :=
  if K0 this = (0, 12) then
  if (mI M this 27) = 0 then
    if (mI M this 23) = 1 then
      bnd (zS_length x1 M) fun v3 M4 =>
      if v3 = ((mI M4 this 26) - (mI M4 this 25)) then
        zX12_is_B36 this x1 1 M4
      else
        zX12_is_B35 this x1 M4
    else
      zX12_is_B35 this x1 M
  else
    zX12_is_B35 this x1 M
  else none
set_option maxRecDepth 20000 in
set_option maxHeartbeats 4000000 in
theorem kX12_is_B75 (l : Launch) (E : Ev) (n : Nat) (hn : 6 ≤ n) (ct : Nat) (hct : 111 ≤ ct) (ex : Bool) (KK39 : Nat → Nat → Int32 → Int32 → Mem → Option (Int32 × Mem)) (hKK39 : ∀ (this : Nat) (x1 : Nat) (x2 : Int32) (x3 : Int32) (M : Mem) (_ : K0 this = (0, 12)), AW l E fX12_is (fun _ => rmN n 0 0) (PQr E 0 0 ct ex enI) ct ex 0 0 39 [(0, .ref (ad E this)), (1, .ref (ad E x1)), (2, .int x2), (3, .int x3)] [] M (KK39 this x1 x2 x3 M)) (this : Nat) (x1 : Nat) (x3 : Int32) (s0 : Int32) (M : Mem) (hthis : K0 this = (0, 12)) : AW l E fX12_is (fun _ => rmN n 0 0) (PQr E 0 0 ct ex enI) ct ex 0 0 75 [(0, .ref (ad E this)), (1, .ref (ad E x1)), (3, .int x3)] [.int s0] M (zX12_is_B75 KK39 this x1 x3 s0 M) := by
  unfold zX12_is_B75
  refine AW.istore_n (pc := 75) [1, 2, 0, 3] [(0, .ref (ad E this)), (1, .ref (ad E x1)), (2, .int s0), (3, .int x3)] dX12_is_75 rfl (by decide) rfl ?_
  refine AW.iinc (pc := 76) (w := 3) [1, 2, 3, 0] [(0, .ref (ad E this)), (1, .ref (ad E x1)), (2, .int s0), (3, .int (x3 + 1))] dX12_is_76 rfl (inc_1 _) (by decide) rfl ?_
  refine AW.goto (pc := 79) 39 dX12_is_79 (by decide) ?_
  exact hKK39 this x1 s0 (x3 + 1) M hthis
set_option maxRecDepth 20000 in
set_option maxHeartbeats 4000000 in
theorem kX12_is_B39 (l : Launch) (E : Ev) (n : Nat) (hn : 6 ≤ n) (ct : Nat) (hct : 111 ≤ ct) (ex : Bool) (KK39 : Nat → Nat → Int32 → Int32 → Mem → Option (Int32 × Mem)) (hKK39 : ∀ (this : Nat) (x1 : Nat) (x2 : Int32) (x3 : Int32) (M : Mem) (_ : K0 this = (0, 12)), AW l E fX12_is (fun _ => rmN n 0 0) (PQr E 0 0 ct ex enI) ct ex 0 0 39 [(0, .ref (ad E this)), (1, .ref (ad E x1)), (2, .int x2), (3, .int x3)] [] M (KK39 this x1 x2 x3 M)) (this : Nat) (x1 : Nat) (x2 : Int32) (x3 : Int32) (M : Mem) (hthis : K0 this = (0, 12)) : AW l E fX12_is (fun _ => rmN n 0 0) (PQr E 0 0 ct ex enI) ct ex 0 0 39 [(0, .ref (ad E this)), (1, .ref (ad E x1)), (2, .int x2), (3, .int x3)] [] M (zX12_is_B39 KK39 this x1 x2 x3 M) := by
  unfold zX12_is_B39
  refine AW.iload_n (pc := 39) dX12_is_39 rfl 2 rfl ?_
  refine AW.if_eq (pc := 40) 82 dX12_is_40 (by decide) (fun h1 => ?_) (fun h1 => ?_)
  · refine AW.iload_n (pc := 82) dX12_is_82 rfl 2 rfl ?_
    refine AW.chk (fun g2 => ?_)
    exact AW.zret (pc := 83) dX12_is_83 rfl g2 (fun _ _ _ => rfl) (Nat.le_refl _) (Nat.le_refl _)
  · refine AW.iload_n (pc := 43) dX12_is_43 rfl 3 rfl ?_
    refine AW.aload_n (pc := 44) dX12_is_44 rfl 1 rfl ?_
    refine AW.str_length (n := n - 1) (pc := 45) dX12_is_45 mlX12_219 (by omega) (fun _ => okR_N (by omega)) (Nat.le_of_ble_eq_true rfl) (fun v3 M4 => ?_)
    refine AW.icmp_ge (pc := 48) 82 dX12_is_48 (by decide) (fun h5 => ?_) (fun h5 => ?_)
    · refine AW.iload_n (pc := 82) dX12_is_82 rfl 2 rfl ?_
      refine AW.chk (fun g6 => ?_)
      exact AW.zret (pc := 83) dX12_is_83 rfl g6 (fun _ _ _ => rfl) (Nat.le_refl _) (Nat.le_refl _)
    · refine AW.aload_n (pc := 51) dX12_is_51 rfl 1 rfl ?_
      refine AW.iload_n (pc := 52) dX12_is_52 rfl 3 rfl ?_
      refine AW.str_charAt (n := n - 1) (pc := 53) dX12_is_53 mlX12_223 (by omega) (fun _ => okR_N (by omega)) (Nat.le_of_ble_eq_true rfl) (fun v7 M8 => ?_)
      refine AW.aload_n (pc := 56) dX12_is_56 rfl 0 rfl ?_
      refine AW.chk (fun g9 => ?_)
      refine AW.getR (pc := 57) dX12_is_57 flX12_89 hthis (kct hthis rfl hct) g9 ?_
      refine AW.aload_n (pc := 60) dX12_is_60 rfl 0 rfl ?_
      refine AW.getI (pc := 61) dX12_is_61 flX12_186 hthis (kct hthis rfl hct) ?_
      refine AW.iload_n (pc := 64) dX12_is_64 rfl 3 rfl ?_
      refine AW.iadd (pc := 65) dX12_is_65 ?_
      refine AW.chk (fun g10 => ?_)
      refine AW.iald (pc := 66) dX12_is_66 (k0e g10.1) (kct (k0e g10.1) rfl hct) g10.2 ?_
      refine AW.icmp_ne (pc := 67) 74 dX12_is_67 (by decide) (fun h11 => ?_) (fun h11 => ?_)
      · refine AW.iconst (pc := 70) dX12_is_70 ci_1 ?_
        refine AW.goto (pc := 71) 75 dX12_is_71 (by decide) ?_
        exact AW.sub [0, 1, 3] rfl (kX12_is_B75 l E n hn ct hct ex KK39 hKK39 this x1 x3 1 M8 hthis)
      · refine AW.iconst (pc := 74) dX12_is_74 ci_0 ?_
        exact AW.sub [0, 1, 3] rfl (kX12_is_B75 l E n hn ct hct ex KK39 hKK39 this x1 x3 0 M8 hthis)
set_option maxRecDepth 20000 in
set_option maxHeartbeats 4000000 in
theorem kX12_is_L39 (l : Launch) (E : Ev) (n : Nat) (hn : 6 ≤ n) (ct : Nat) (hct : 111 ≤ ct) (ex : Bool) (k : Nat) : ∀ (this : Nat) (x1 : Nat) (x2 : Int32) (x3 : Int32) (M : Mem) (_ : K0 this = (0, 12)), AW l E fX12_is (fun _ => rmN n 0 0) (PQr E 0 0 ct ex enI) ct ex 0 0 39 [(0, .ref (ad E this)), (1, .ref (ad E x1)), (2, .int x2), (3, .int x3)] [] M (zX12_is_L39 k this x1 x2 x3 M) := by
  induction k with
  | zero => intro this x1 x2 x3 M _; exact AW.none
  | succ k ih =>
    intro this x1 x2 x3 M hthis
    exact kX12_is_B39 l E n hn ct hct ex (zX12_is_L39 k) ih this x1 x2 x3 M hthis
set_option maxRecDepth 20000 in
set_option maxHeartbeats 4000000 in
theorem kX12_is_B36 (l : Launch) (E : Ev) (n : Nat) (hn : 6 ≤ n) (ct : Nat) (hct : 111 ≤ ct) (ex : Bool) (this : Nat) (x1 : Nat) (s0 : Int32) (M : Mem) (hthis : K0 this = (0, 12)) : AW l E fX12_is (fun _ => rmN n 0 0) (PQr E 0 0 ct ex enI) ct ex 0 0 36 [(0, .ref (ad E this)), (1, .ref (ad E x1))] [.int s0] M (zX12_is_B36 this x1 s0 M) := by
  unfold zX12_is_B36
  refine AW.istore_n (pc := 36) [1, 2, 0] [(0, .ref (ad E this)), (1, .ref (ad E x1)), (2, .int s0)] dX12_is_36 rfl (by decide) rfl ?_
  refine AW.iconst (pc := 37) dX12_is_37 ci_0 ?_
  refine AW.istore_n (pc := 38) [1, 2, 3, 0] [(0, .ref (ad E this)), (1, .ref (ad E x1)), (2, .int s0), (3, .int 0)] dX12_is_38 rfl (by decide) rfl ?_
  exact kX12_is_L39 l E n hn ct hct ex FU this x1 s0 0 M hthis
set_option maxRecDepth 20000 in
set_option maxHeartbeats 4000000 in
theorem kX12_is_B35 (l : Launch) (E : Ev) (n : Nat) (hn : 6 ≤ n) (ct : Nat) (hct : 111 ≤ ct) (ex : Bool) (this : Nat) (x1 : Nat) (M : Mem) (hthis : K0 this = (0, 12)) : AW l E fX12_is (fun _ => rmN n 0 0) (PQr E 0 0 ct ex enI) ct ex 0 0 35 [(0, .ref (ad E this)), (1, .ref (ad E x1))] [] M (zX12_is_B35 this x1 M) := by
  unfold zX12_is_B35
  refine AW.iconst (pc := 35) dX12_is_35 ci_0 ?_
  exact kX12_is_B36 l E n hn ct hct ex this x1 0 M hthis
set_option maxRecDepth 20000 in
set_option maxHeartbeats 4000000 in
theorem kX12_is (l : Launch) (E : Ev) (n : Nat) (hn : 6 ≤ n) (ct : Nat) (hct : 111 ≤ ct) (ex : Bool) (this : Nat) (x1 : Nat) (M : Mem) : AM l E n ct ex yX12_is fX12_is enI [.ref (ad E this), .ref (ad E x1)] M (zX12_is this x1 M) := by
  unfold zX12_is
  refine AM.of (by decide +kernel) ⟨rfl, rfl, rfl⟩ (Nat.le_of_ble_eq_true rfl) ?_
  refine AW.chk (fun hthis => ?_)
  refine AW.aload_n (pc := 0) dX12_is_0 rfl 0 rfl ?_
  refine AW.getI (pc := 1) dX12_is_1 flX12_213 hthis (kct hthis rfl hct) ?_
  refine AW.if_ne (pc := 4) 35 dX12_is_4 (by decide) (fun h1 => ?_) (fun h1 => ?_)
  · refine AW.aload_n (pc := 7) dX12_is_7 rfl 0 rfl ?_
    refine AW.getI (pc := 8) dX12_is_8 flX12_189 hthis (kct hthis rfl hct) ?_
    refine AW.iconst (pc := 11) dX12_is_11 ci_1 ?_
    refine AW.icmp_ne (pc := 12) 35 dX12_is_12 (by decide) (fun h2 => ?_) (fun h2 => ?_)
    · refine AW.aload_n (pc := 15) dX12_is_15 rfl 1 rfl ?_
      refine AW.str_length (n := n - 1) (pc := 16) dX12_is_16 mlX12_219 (by omega) (fun _ => okR_N (by omega)) (Nat.le_of_ble_eq_true rfl) (fun v3 M4 => ?_)
      refine AW.aload_n (pc := 19) dX12_is_19 rfl 0 rfl ?_
      refine AW.getI (pc := 20) dX12_is_20 flX12_210 hthis (kct hthis rfl hct) ?_
      refine AW.aload_n (pc := 23) dX12_is_23 rfl 0 rfl ?_
      refine AW.getI (pc := 24) dX12_is_24 flX12_186 hthis (kct hthis rfl hct) ?_
      refine AW.isub (pc := 27) dX12_is_27 ?_
      refine AW.icmp_ne (pc := 28) 35 dX12_is_28 (by decide) (fun h5 => ?_) (fun h5 => ?_)
      · refine AW.iconst (pc := 31) dX12_is_31 ci_1 ?_
        refine AW.goto (pc := 32) 36 dX12_is_32 (by decide) ?_
        exact kX12_is_B36 l E n hn ct hct ex this x1 1 M4 hthis
      · exact kX12_is_B35 l E n hn ct hct ex this x1 M4 hthis
    · exact kX12_is_B35 l E n hn ct hct ex this x1 M hthis
  · exact kX12_is_B35 l E n hn ct hct ex this x1 M hthis
-- GateBoxModel.isMarked(I)Z
def zX12_isMarked (this : Nat) (x1 : Int32) (M : Mem) : Option (Int32 × Mem) :=
  if K0 this = (0, 12) then
  if (mI M this 27) = 0 then
    if (mI M this 23) = 3 then
      if mR M this 19 ≠ 0 then
      if (K0 (mR M this 19)).1 = 1 ∧ inb (mI M this 25) (K0 (mR M this 19)).2 = true then
      if (mI M (mR M this 19) (Int32.toNatClampNeg (mI M this 25))) = x1 then
        some (1, M)
      else
        some (0, M)
      else none
      else none
    else
      some (0, M)
  else
    some (0, M)
  else none
set_option maxRecDepth 20000 in
set_option maxHeartbeats 4000000 in
theorem kX12_isMarked (l : Launch) (E : Ev) (n : Nat) (hn : 1 ≤ n) (ct : Nat) (hct : 111 ≤ ct) (ex : Bool) (this : Nat) (x1 : Int32) (M : Mem) : AM l E n ct ex yX12_isMarked fX12_isMarked enI [.ref (ad E this), .int x1] M (zX12_isMarked this x1 M) := by
  unfold zX12_isMarked
  refine AM.of (by decide +kernel) ⟨rfl, rfl, rfl⟩ (Nat.le_of_ble_eq_true rfl) ?_
  refine AW.chk (fun hthis => ?_)
  refine AW.aload_n (pc := 0) dX12_isMarked_0 rfl 0 rfl ?_
  refine AW.getI (pc := 1) dX12_isMarked_1 flX12_213 hthis (kct hthis rfl hct) ?_
  refine AW.if_ne (pc := 4) 32 dX12_isMarked_4 (by decide) (fun h1 => ?_) (fun h1 => ?_)
  · refine AW.aload_n (pc := 7) dX12_isMarked_7 rfl 0 rfl ?_
    refine AW.getI (pc := 8) dX12_isMarked_8 flX12_189 hthis (kct hthis rfl hct) ?_
    refine AW.iconst (pc := 11) dX12_isMarked_11 ci_3 ?_
    refine AW.icmp_ne (pc := 12) 32 dX12_isMarked_12 (by decide) (fun h2 => ?_) (fun h2 => ?_)
    · refine AW.aload_n (pc := 15) dX12_isMarked_15 rfl 0 rfl ?_
      refine AW.chk (fun g3 => ?_)
      refine AW.getR (pc := 16) dX12_isMarked_16 flX12_89 hthis (kct hthis rfl hct) g3 ?_
      refine AW.aload_n (pc := 19) dX12_isMarked_19 rfl 0 rfl ?_
      refine AW.getI (pc := 20) dX12_isMarked_20 flX12_186 hthis (kct hthis rfl hct) ?_
      refine AW.chk (fun g4 => ?_)
      refine AW.iald (pc := 23) dX12_isMarked_23 (k0e g4.1) (kct (k0e g4.1) rfl hct) g4.2 ?_
      refine AW.iload_n (pc := 24) dX12_isMarked_24 rfl 1 rfl ?_
      refine AW.icmp_ne (pc := 25) 32 dX12_isMarked_25 (by decide) (fun h5 => ?_) (fun h5 => ?_)
      · refine AW.iconst (pc := 28) dX12_isMarked_28 ci_1 ?_
        refine AW.goto (pc := 29) 33 dX12_isMarked_29 (by decide) ?_
        exact AW.zret (pc := 33) dX12_isMarked_33 rfl (Or.inr rfl) (fun _ _ _ => rfl) (Nat.le_refl _) (Nat.le_refl _)
      · refine AW.iconst (pc := 32) dX12_isMarked_32 ci_0 ?_
        exact AW.zret (pc := 33) dX12_isMarked_33 rfl (Or.inl rfl) (fun _ _ _ => rfl) (Nat.le_refl _) (Nat.le_refl _)
    · refine AW.iconst (pc := 32) dX12_isMarked_32 ci_0 ?_
      exact AW.zret (pc := 33) dX12_isMarked_33 rfl (Or.inl rfl) (fun _ _ _ => rfl) (Nat.le_refl _) (Nat.le_refl _)
  · refine AW.iconst (pc := 32) dX12_isMarked_32 ci_0 ?_
    exact AW.zret (pc := 33) dX12_isMarked_33 rfl (Or.inl rfl) (fun _ _ _ => rfl) (Nat.le_refl _) (Nat.le_refl _)
-- GateBoxModel.which([Ljava/lang/String;)I
def zX12_which_B2 (KK2 : Nat → Nat → Int32 → Mem → Option (Int32 × Mem)) (this : Nat) (x1 : Nat) (x2 : Int32) (M : Mem) : Option (Int32 × Mem) :=
  if (K0 x1).1 = 4 then
  if (Int32.ofNat (K0 x1).2) ≤ x2 then
    some ((-1), M)
  else
    if inb x2 (K0 x1).2 = true then
    if mR M x1 (Int32.toNatClampNeg x2) ≠ 0 then
    bnd (zX12_is this (mR M x1 (Int32.toNatClampNeg x2)) M) fun v5 M6 =>
    if v5 = 0 then
      KK2 this x1 (x2 + 1) M6
    else
      some (x2, M6)
    else none
    else none
  else none
def zX12_which_L2 : Nat → Nat → Nat → Int32 → Mem → Option (Int32 × Mem)
  | 0 => fun _ _ _ _ => none
  | k + 1 => zX12_which_B2 (zX12_which_L2 k)
def zX12_which (this : Nat) (x1 : Nat) (M : Mem) : Option (Int32 × Mem) :=
  if K0 this = (0, 12) then
  zX12_which_L2 FU this x1 0 M
  else none
set_option maxRecDepth 20000 in
set_option maxHeartbeats 4000000 in
theorem kX12_which_B2 (l : Launch) (E : Ev) (n : Nat) (hn : 7 ≤ n) (ct : Nat) (hct : 111 ≤ ct) (ex : Bool) (KK2 : Nat → Nat → Int32 → Mem → Option (Int32 × Mem)) (hKK2 : ∀ (this : Nat) (x1 : Nat) (x2 : Int32) (M : Mem) (_ : K0 this = (0, 12)), AW l E fX12_which (fun _ => rmN n 0 0) (PQr E 0 0 ct ex enI) ct ex 0 0 2 [(0, .ref (ad E this)), (1, .ref (ad E x1)), (2, .int x2)] [] M (KK2 this x1 x2 M)) (this : Nat) (x1 : Nat) (x2 : Int32) (M : Mem) (hthis : K0 this = (0, 12)) : AW l E fX12_which (fun _ => rmN n 0 0) (PQr E 0 0 ct ex enI) ct ex 0 0 2 [(0, .ref (ad E this)), (1, .ref (ad E x1)), (2, .int x2)] [] M (zX12_which_B2 KK2 this x1 x2 M) := by
  unfold zX12_which_B2
  refine AW.iload_n (pc := 2) dX12_which_2 rfl 2 rfl ?_
  refine AW.aload_n (pc := 3) dX12_which_3 rfl 1 rfl ?_
  refine AW.chk (fun g1 => ?_)
  refine AW.alen (pc := 4) dX12_which_4 (k0e g1) (by decide) (kct (k0e g1) rfl hct) rfl ?_
  refine AW.icmp_ge (pc := 5) 26 dX12_which_5 (by decide) (fun h2 => ?_) (fun h2 => ?_)
  · refine AW.iconst (pc := 26) dX12_which_26 ci_m1 ?_
    exact AW.iret (pc := 27) dX12_which_27 rfl (fun _ _ _ => rfl) (Nat.le_refl _) (Nat.le_refl _)
  · refine AW.aload_n (pc := 8) dX12_which_8 rfl 0 rfl ?_
    refine AW.aload_n (pc := 9) dX12_which_9 rfl 1 rfl ?_
    refine AW.iload_n (pc := 10) dX12_which_10 rfl 2 rfl ?_
    refine AW.chk (fun g3 => ?_)
    refine AW.chk (fun g4 => ?_)
    refine AW.aald (pc := 11) dX12_which_11 (k0e g1) (kct (k0e g1) rfl hct) g3 g4 ?_
    refine AW.cV1i (pc := 12) dX12_which_12 mlX12_227 mbX12_is rfl hthis (kct hthis rfl hct) (fun _ => okR_N (by omega)) (kX12_is l E (n - 1) (by omega) ct hct ex this (mR M x1 (Int32.toNatClampNeg x2)) M) (Nat.le_of_ble_eq_true rfl) (fun v5 M6 => ?_)
    refine AW.if_eq (pc := 15) 20 dX12_which_15 (by decide) (fun h7 => ?_) (fun h7 => ?_)
    · refine AW.iinc (pc := 20) (w := 2) [1, 2, 0] [(0, .ref (ad E this)), (1, .ref (ad E x1)), (2, .int (x2 + 1))] dX12_which_20 rfl (inc_1 _) (by decide) rfl ?_
      refine AW.goto (pc := 23) 2 dX12_which_23 (by decide) ?_
      exact hKK2 this x1 (x2 + 1) M6 hthis
    · refine AW.iload_n (pc := 18) dX12_which_18 rfl 2 rfl ?_
      exact AW.iret (pc := 19) dX12_which_19 rfl (fun _ _ _ => rfl) (Nat.le_refl _) (Nat.le_refl _)
set_option maxRecDepth 20000 in
set_option maxHeartbeats 4000000 in
theorem kX12_which_L2 (l : Launch) (E : Ev) (n : Nat) (hn : 7 ≤ n) (ct : Nat) (hct : 111 ≤ ct) (ex : Bool) (k : Nat) : ∀ (this : Nat) (x1 : Nat) (x2 : Int32) (M : Mem) (_ : K0 this = (0, 12)), AW l E fX12_which (fun _ => rmN n 0 0) (PQr E 0 0 ct ex enI) ct ex 0 0 2 [(0, .ref (ad E this)), (1, .ref (ad E x1)), (2, .int x2)] [] M (zX12_which_L2 k this x1 x2 M) := by
  induction k with
  | zero => intro this x1 x2 M _; exact AW.none
  | succ k ih =>
    intro this x1 x2 M hthis
    exact kX12_which_B2 l E n hn ct hct ex (zX12_which_L2 k) ih this x1 x2 M hthis
set_option maxRecDepth 20000 in
set_option maxHeartbeats 4000000 in
theorem kX12_which (l : Launch) (E : Ev) (n : Nat) (hn : 7 ≤ n) (ct : Nat) (hct : 111 ≤ ct) (ex : Bool) (this : Nat) (x1 : Nat) (M : Mem) : AM l E n ct ex yX12_which fX12_which enI [.ref (ad E this), .ref (ad E x1)] M (zX12_which this x1 M) := by
  unfold zX12_which
  refine AM.of (by decide +kernel) ⟨rfl, rfl, rfl⟩ (Nat.le_of_ble_eq_true rfl) ?_
  refine AW.chk (fun hthis => ?_)
  refine AW.iconst (pc := 0) dX12_which_0 ci_0 ?_
  refine AW.istore_n (pc := 1) [1, 2, 0] [(0, .ref (ad E this)), (1, .ref (ad E x1)), (2, .int 0)] dX12_which_1 rfl (by decide) rfl ?_
  exact kX12_which_L2 l E n hn ct hct ex FU this x1 0 M hthis
-- GateBoxModel.word(Ljava/lang/String;)V
def zX12_word_B20 (this : Nat) (M : Mem) : Option (Unit × Mem) :=
  if (mI M this 27) = 0 then
    bnd (zX12_stepOn this M) fun _ M2 =>
    some ((), M2)
  else
    some ((), M)
def zX12_word (this : Nat) (x1 : Nat) (M : Mem) : Option (Unit × Mem) :=
  if K0 this = (0, 12) then
  if (mI M this 27) = 0 then
    bnd (zX12_is this x1 M) fun v2 M3 =>
    if v2 = 0 then
      bnd (zX12_wrong this 1 M3) fun _ M5 =>
      zX12_word_B20 this M5
    else
      zX12_word_B20 this M3
  else
    zX12_word_B20 this M
  else none
set_option maxRecDepth 20000 in
set_option maxHeartbeats 4000000 in
theorem kX12_word_B20 (l : Launch) (E : Ev) (n : Nat) (hn : 7 ≤ n) (ct : Nat) (hct : 111 ≤ ct) (ex : Bool) (this : Nat) (M : Mem) (hthis : K0 this = (0, 12)) : AW l E fX12_word (fun _ => rmN n 0 0) (PQr E 0 0 ct ex enU) ct ex 0 0 20 [(0, .ref (ad E this))] [] M (zX12_word_B20 this M) := by
  unfold zX12_word_B20
  refine AW.aload_n (pc := 20) dX12_word_20 rfl 0 rfl ?_
  refine AW.getI (pc := 21) dX12_word_21 flX12_213 hthis (kct hthis rfl hct) ?_
  refine AW.if_ne (pc := 24) 31 dX12_word_24 (by decide) (fun h1 => ?_) (fun h1 => ?_)
  · refine AW.aload_n (pc := 27) dX12_word_27 rfl 0 rfl ?_
    refine AW.cV0v (pc := 28) dX12_word_28 mlX12_234 mbX12_stepOn rfl hthis (kct hthis rfl hct) (fun _ => okR_N (by omega)) (kX12_stepOn l E (n - 1) (by omega) ct hct ex this M) (Nat.le_of_ble_eq_true rfl) (fun _ M2 => ?_)
    exact AW.vret (pc := 31) dX12_word_31 rfl (fun _ _ _ => rfl) (Nat.le_refl _) (Nat.le_refl _)
  · exact AW.vret (pc := 31) dX12_word_31 rfl (fun _ _ _ => rfl) (Nat.le_refl _) (Nat.le_refl _)
set_option maxRecDepth 20000 in
set_option maxHeartbeats 4000000 in
theorem kX12_word (l : Launch) (E : Ev) (n : Nat) (hn : 7 ≤ n) (ct : Nat) (hct : 111 ≤ ct) (ex : Bool) (this : Nat) (x1 : Nat) (M : Mem) : AM l E n ct ex yX12_word fX12_word enU [.ref (ad E this), .ref (ad E x1)] M (zX12_word this x1 M) := by
  unfold zX12_word
  refine AM.of (by decide +kernel) ⟨rfl, rfl, rfl⟩ (Nat.le_of_ble_eq_true rfl) ?_
  refine AW.chk (fun hthis => ?_)
  refine AW.aload_n (pc := 0) dX12_word_0 rfl 0 rfl ?_
  refine AW.getI (pc := 1) dX12_word_1 flX12_213 hthis (kct hthis rfl hct) ?_
  refine AW.if_ne (pc := 4) 20 dX12_word_4 (by decide) (fun h1 => ?_) (fun h1 => ?_)
  · refine AW.aload_n (pc := 7) dX12_word_7 rfl 0 rfl ?_
    refine AW.aload_n (pc := 8) dX12_word_8 rfl 1 rfl ?_
    refine AW.cV1i (pc := 9) dX12_word_9 mlX12_227 mbX12_is rfl hthis (kct hthis rfl hct) (fun _ => okR_N (by omega)) (kX12_is l E (n - 1) (by omega) ct hct ex this x1 M) (Nat.le_of_ble_eq_true rfl) (fun v2 M3 => ?_)
    refine AW.if_ne (pc := 12) 20 dX12_word_12 (by decide) (fun h4 => ?_) (fun h4 => ?_)
    · refine AW.aload_n (pc := 15) dX12_word_15 rfl 0 rfl ?_
      refine AW.iconst (pc := 16) dX12_word_16 ci_1 ?_
      refine AW.cV1v (pc := 17) dX12_word_17 mlX12_231 mbX12_wrong rfl hthis (kct hthis rfl hct) (fun _ => okR_N (by omega)) (kX12_wrong l E (n - 1) (by omega) ct hct ex this 1 M3) (Nat.le_of_ble_eq_true rfl) (fun _ M5 => ?_)
      exact AW.sub [0] rfl (kX12_word_B20 l E n hn ct hct ex this M5 hthis)
    · exact AW.sub [0] rfl (kX12_word_B20 l E n hn ct hct ex this M3 hthis)
  · exact AW.sub [0] rfl (kX12_word_B20 l E n hn ct hct ex this M hthis)
-- GateBoxModel.mark(I)V
def zX12_mark_B20 (this : Nat) (M : Mem) : Option (Unit × Mem) :=
  if (mI M this 27) = 0 then
    bnd (zX12_stepOn this M) fun _ M2 =>
    some ((), M2)
  else
    some ((), M)
def zX12_mark (this : Nat) (x1 : Int32) (M : Mem) : Option (Unit × Mem) :=
  if K0 this = (0, 12) then
  if (mI M this 27) = 0 then
    bnd (zX12_isMarked this x1 M) fun v2 M3 =>
    if v2 = 0 then
      bnd (zX12_wrong this 1 M3) fun _ M5 =>
      zX12_mark_B20 this M5
    else
      zX12_mark_B20 this M3
  else
    zX12_mark_B20 this M
  else none
set_option maxRecDepth 20000 in
set_option maxHeartbeats 4000000 in
theorem kX12_mark_B20 (l : Launch) (E : Ev) (n : Nat) (hn : 7 ≤ n) (ct : Nat) (hct : 111 ≤ ct) (ex : Bool) (this : Nat) (M : Mem) (hthis : K0 this = (0, 12)) : AW l E fX12_mark (fun _ => rmN n 0 0) (PQr E 0 0 ct ex enU) ct ex 0 0 20 [(0, .ref (ad E this))] [] M (zX12_mark_B20 this M) := by
  unfold zX12_mark_B20
  refine AW.aload_n (pc := 20) dX12_mark_20 rfl 0 rfl ?_
  refine AW.getI (pc := 21) dX12_mark_21 flX12_213 hthis (kct hthis rfl hct) ?_
  refine AW.if_ne (pc := 24) 31 dX12_mark_24 (by decide) (fun h1 => ?_) (fun h1 => ?_)
  · refine AW.aload_n (pc := 27) dX12_mark_27 rfl 0 rfl ?_
    refine AW.cV0v (pc := 28) dX12_mark_28 mlX12_234 mbX12_stepOn rfl hthis (kct hthis rfl hct) (fun _ => okR_N (by omega)) (kX12_stepOn l E (n - 1) (by omega) ct hct ex this M) (Nat.le_of_ble_eq_true rfl) (fun _ M2 => ?_)
    exact AW.vret (pc := 31) dX12_mark_31 rfl (fun _ _ _ => rfl) (Nat.le_refl _) (Nat.le_refl _)
  · exact AW.vret (pc := 31) dX12_mark_31 rfl (fun _ _ _ => rfl) (Nat.le_refl _) (Nat.le_refl _)
set_option maxRecDepth 20000 in
set_option maxHeartbeats 4000000 in
theorem kX12_mark (l : Launch) (E : Ev) (n : Nat) (hn : 7 ≤ n) (ct : Nat) (hct : 111 ≤ ct) (ex : Bool) (this : Nat) (x1 : Int32) (M : Mem) : AM l E n ct ex yX12_mark fX12_mark enU [.ref (ad E this), .int x1] M (zX12_mark this x1 M) := by
  unfold zX12_mark
  refine AM.of (by decide +kernel) ⟨rfl, rfl, rfl⟩ (Nat.le_of_ble_eq_true rfl) ?_
  refine AW.chk (fun hthis => ?_)
  refine AW.aload_n (pc := 0) dX12_mark_0 rfl 0 rfl ?_
  refine AW.getI (pc := 1) dX12_mark_1 flX12_213 hthis (kct hthis rfl hct) ?_
  refine AW.if_ne (pc := 4) 20 dX12_mark_4 (by decide) (fun h1 => ?_) (fun h1 => ?_)
  · refine AW.aload_n (pc := 7) dX12_mark_7 rfl 0 rfl ?_
    refine AW.iload_n (pc := 8) dX12_mark_8 rfl 1 rfl ?_
    refine AW.cV1i (pc := 9) dX12_mark_9 mlX12_237 mbX12_isMarked rfl hthis (kct hthis rfl hct) (fun _ => okR_N (by omega)) (kX12_isMarked l E (n - 1) (by omega) ct hct ex this x1 M) (Nat.le_of_ble_eq_true rfl) (fun v2 M3 => ?_)
    refine AW.if_ne (pc := 12) 20 dX12_mark_12 (by decide) (fun h4 => ?_) (fun h4 => ?_)
    · refine AW.aload_n (pc := 15) dX12_mark_15 rfl 0 rfl ?_
      refine AW.iconst (pc := 16) dX12_mark_16 ci_1 ?_
      refine AW.cV1v (pc := 17) dX12_mark_17 mlX12_231 mbX12_wrong rfl hthis (kct hthis rfl hct) (fun _ => okR_N (by omega)) (kX12_wrong l E (n - 1) (by omega) ct hct ex this 1 M3) (Nat.le_of_ble_eq_true rfl) (fun _ M5 => ?_)
      exact AW.sub [0] rfl (kX12_mark_B20 l E n hn ct hct ex this M5 hthis)
    · exact AW.sub [0] rfl (kX12_mark_B20 l E n hn ct hct ex this M3 hthis)
  · exact AW.sub [0] rfl (kX12_mark_B20 l E n hn ct hct ex this M hthis)
-- GateBoxModel.readNumber(II)I
def zX12_readNumber_B59 (this : Nat) (M : Mem) : Option (Int32 × Mem) :=
  lt (mI M this 24) fun v1 =>
  if (mI M this 27) = 0 then
    bnd (zX12_stepOn this M) fun _ M3 =>
    some (v1, M3)
  else
    some (v1, M)
def zX12_readNumber_B54 (this : Nat) (M : Mem) : Option (Int32 × Mem) :=
  bnd (zX12_wrong this 2 M) fun _ M1 =>
  zX12_readNumber_B59 this M1
def zX12_readNumber (this : Nat) (x1 : Int32) (x2 : Int32) (M : Mem) : Option (Int32 × Mem) :=
  if K0 this = (0, 12) then
  if (mI M this 27) = 0 then
    if (mI M this 23) = 2 then
      if 3 < ((mI M this 26) - (mI M this 25)) then
        zX12_readNumber_B54 this M
      else
        if (mI M this 24) < x1 then
          zX12_readNumber_B54 this M
        else
          if (mI M this 24) ≤ x2 then
            zX12_readNumber_B59 this M
          else
            zX12_readNumber_B54 this M
    else
      bnd (zX12_wrong this 1 M) fun _ M6 =>
      zX12_readNumber_B59 this M6
  else
    some (0, M)
  else none
set_option maxRecDepth 20000 in
set_option maxHeartbeats 4000000 in
theorem kX12_readNumber_B59 (l : Launch) (E : Ev) (n : Nat) (hn : 7 ≤ n) (ct : Nat) (hct : 111 ≤ ct) (ex : Bool) (this : Nat) (M : Mem) (hthis : K0 this = (0, 12)) : AW l E fX12_readNumber (fun _ => rmN n 0 0) (PQr E 0 0 ct ex enI) ct ex 0 0 59 [(0, .ref (ad E this))] [] M (zX12_readNumber_B59 this M) := by
  unfold zX12_readNumber_B59
  refine AW.aload_n (pc := 59) dX12_readNumber_59 rfl 0 rfl ?_
  refine AW.getI (pc := 60) dX12_readNumber_60 flX12_198 hthis (kct hthis rfl hct) ?_
  refine AW.genI (fun v1 => ?_)
  refine AW.istore_n (pc := 63) [1, 0] [(0, .ref (ad E this)), (3, .int v1)] dX12_readNumber_63 rfl (by decide) rfl ?_
  refine AW.aload_n (pc := 64) dX12_readNumber_64 rfl 0 rfl ?_
  refine AW.getI (pc := 65) dX12_readNumber_65 flX12_213 hthis (kct hthis rfl hct) ?_
  refine AW.if_ne (pc := 68) 75 dX12_readNumber_68 (by decide) (fun h2 => ?_) (fun h2 => ?_)
  · refine AW.aload_n (pc := 71) dX12_readNumber_71 rfl 0 rfl ?_
    refine AW.cV0v (pc := 72) dX12_readNumber_72 mlX12_234 mbX12_stepOn rfl hthis (kct hthis rfl hct) (fun _ => okR_N (by omega)) (kX12_stepOn l E (n - 1) (by omega) ct hct ex this M) (Nat.le_of_ble_eq_true rfl) (fun _ M3 => ?_)
    refine AW.iload_n (pc := 75) dX12_readNumber_75 rfl 1 rfl ?_
    exact AW.iret (pc := 76) dX12_readNumber_76 rfl (fun _ _ _ => rfl) (Nat.le_refl _) (Nat.le_refl _)
  · refine AW.iload_n (pc := 75) dX12_readNumber_75 rfl 1 rfl ?_
    exact AW.iret (pc := 76) dX12_readNumber_76 rfl (fun _ _ _ => rfl) (Nat.le_refl _) (Nat.le_refl _)
set_option maxRecDepth 20000 in
set_option maxHeartbeats 4000000 in
theorem kX12_readNumber_B54 (l : Launch) (E : Ev) (n : Nat) (hn : 7 ≤ n) (ct : Nat) (hct : 111 ≤ ct) (ex : Bool) (this : Nat) (M : Mem) (hthis : K0 this = (0, 12)) : AW l E fX12_readNumber (fun _ => rmN n 0 0) (PQr E 0 0 ct ex enI) ct ex 0 0 54 [(0, .ref (ad E this))] [] M (zX12_readNumber_B54 this M) := by
  unfold zX12_readNumber_B54
  refine AW.aload_n (pc := 54) dX12_readNumber_54 rfl 0 rfl ?_
  refine AW.iconst (pc := 55) dX12_readNumber_55 ci_2 ?_
  refine AW.cV1v (pc := 56) dX12_readNumber_56 mlX12_231 mbX12_wrong rfl hthis (kct hthis rfl hct) (fun _ => okR_N (by omega)) (kX12_wrong l E (n - 1) (by omega) ct hct ex this 2 M) (Nat.le_of_ble_eq_true rfl) (fun _ M1 => ?_)
  exact kX12_readNumber_B59 l E n hn ct hct ex this M1 hthis
set_option maxRecDepth 20000 in
set_option maxHeartbeats 4000000 in
theorem kX12_readNumber (l : Launch) (E : Ev) (n : Nat) (hn : 7 ≤ n) (ct : Nat) (hct : 111 ≤ ct) (ex : Bool) (this : Nat) (x1 : Int32) (x2 : Int32) (M : Mem) : AM l E n ct ex yX12_readNumber fX12_readNumber enI [.ref (ad E this), .int x1, .int x2] M (zX12_readNumber this x1 x2 M) := by
  unfold zX12_readNumber
  refine AM.of (by decide +kernel) ⟨rfl, rfl, rfl⟩ (Nat.le_of_ble_eq_true rfl) ?_
  refine AW.chk (fun hthis => ?_)
  refine AW.aload_n (pc := 0) dX12_readNumber_0 rfl 0 rfl ?_
  refine AW.getI (pc := 1) dX12_readNumber_1 flX12_213 hthis (kct hthis rfl hct) ?_
  refine AW.if_eq (pc := 4) 9 dX12_readNumber_4 (by decide) (fun h1 => ?_) (fun h1 => ?_)
  · refine AW.aload_n (pc := 9) dX12_readNumber_9 rfl 0 rfl ?_
    refine AW.getI (pc := 10) dX12_readNumber_10 flX12_189 hthis (kct hthis rfl hct) ?_
    refine AW.iconst (pc := 13) dX12_readNumber_13 ci_2 ?_
    refine AW.icmp_eq (pc := 14) 25 dX12_readNumber_14 (by decide) (fun h2 => ?_) (fun h2 => ?_)
    · refine AW.aload_n (pc := 25) dX12_readNumber_25 rfl 0 rfl ?_
      refine AW.getI (pc := 26) dX12_readNumber_26 flX12_210 hthis (kct hthis rfl hct) ?_
      refine AW.aload_n (pc := 29) dX12_readNumber_29 rfl 0 rfl ?_
      refine AW.getI (pc := 30) dX12_readNumber_30 flX12_186 hthis (kct hthis rfl hct) ?_
      refine AW.isub (pc := 33) dX12_readNumber_33 ?_
      refine AW.iconst (pc := 34) dX12_readNumber_34 ci_3 ?_
      refine AW.icmp_gt (pc := 35) 54 dX12_readNumber_35 (by decide) (fun h3 => ?_) (fun h3 => ?_)
      · exact AW.sub [0] rfl (kX12_readNumber_B54 l E n hn ct hct ex this M hthis)
      · refine AW.aload_n (pc := 38) dX12_readNumber_38 rfl 0 rfl ?_
        refine AW.getI (pc := 39) dX12_readNumber_39 flX12_198 hthis (kct hthis rfl hct) ?_
        refine AW.iload_n (pc := 42) dX12_readNumber_42 rfl 1 rfl ?_
        refine AW.icmp_lt (pc := 43) 54 dX12_readNumber_43 (by decide) (fun h4 => ?_) (fun h4 => ?_)
        · exact AW.sub [0] rfl (kX12_readNumber_B54 l E n hn ct hct ex this M hthis)
        · refine AW.aload_n (pc := 46) dX12_readNumber_46 rfl 0 rfl ?_
          refine AW.getI (pc := 47) dX12_readNumber_47 flX12_198 hthis (kct hthis rfl hct) ?_
          refine AW.iload_n (pc := 50) dX12_readNumber_50 rfl 2 rfl ?_
          refine AW.icmp_le (pc := 51) 59 dX12_readNumber_51 (by decide) (fun h5 => ?_) (fun h5 => ?_)
          · exact AW.sub [0] rfl (kX12_readNumber_B59 l E n hn ct hct ex this M hthis)
          · exact AW.sub [0] rfl (kX12_readNumber_B54 l E n hn ct hct ex this M hthis)
    · refine AW.aload_n (pc := 17) dX12_readNumber_17 rfl 0 rfl ?_
      refine AW.iconst (pc := 18) dX12_readNumber_18 ci_1 ?_
      refine AW.cV1v (pc := 19) dX12_readNumber_19 mlX12_231 mbX12_wrong rfl hthis (kct hthis rfl hct) (fun _ => okR_N (by omega)) (kX12_wrong l E (n - 1) (by omega) ct hct ex this 1 M) (Nat.le_of_ble_eq_true rfl) (fun _ M6 => ?_)
      refine AW.goto (pc := 22) 59 dX12_readNumber_22 (by decide) ?_
      exact AW.sub [0] rfl (kX12_readNumber_B59 l E n hn ct hct ex this M6 hthis)
  · refine AW.iconst (pc := 7) dX12_readNumber_7 ci_0 ?_
    exact AW.iret (pc := 8) dX12_readNumber_8 rfl (fun _ _ _ => rfl) (Nat.le_refl _) (Nat.le_refl _)
-- GateBoxModel.lay(I)V
def zX12_lay (this : Nat) (x1 : Int32) (M : Mem) : Option (Unit × Mem) :=
  if K0 this = (0, 12) then
  if (mI M this 27) = 0 then
    if mR M this 10 ≠ 0 then
    if (K0 (mR M this 10)).1 = 1 ∧ inb (1400 + (mI M this 30)) (K0 (mR M this 10)).2 = true then
    lt (sI M (mR M this 10) (Int32.toNatClampNeg (1400 + (mI M this 30))) x1) fun M4 =>
    lt (sI M4 this 30 ((mI M4 this 30) + 1)) fun M5 =>
    some ((), M5)
    else none
    else none
  else
    some ((), M)
  else none
set_option maxRecDepth 20000 in
set_option maxHeartbeats 4000000 in
theorem kX12_lay (l : Launch) (E : Ev) (n : Nat) (hn : 1 ≤ n) (ct : Nat) (hct : 111 ≤ ct) (ex : Bool) (this : Nat) (x1 : Int32) (M : Mem) : AM l E n ct ex yX12_lay fX12_lay enU [.ref (ad E this), .int x1] M (zX12_lay this x1 M) := by
  unfold zX12_lay
  refine AM.of (by decide +kernel) ⟨rfl, rfl, rfl⟩ (Nat.le_of_ble_eq_true rfl) ?_
  refine AW.chk (fun hthis => ?_)
  refine AW.aload_n (pc := 0) dX12_lay_0 rfl 0 rfl ?_
  refine AW.getI (pc := 1) dX12_lay_1 flX12_213 hthis (kct hthis rfl hct) ?_
  refine AW.if_eq (pc := 4) 8 dX12_lay_4 (by decide) (fun h1 => ?_) (fun h1 => ?_)
  · refine AW.aload_n (pc := 8) dX12_lay_8 rfl 0 rfl ?_
    refine AW.chk (fun g2 => ?_)
    refine AW.getR (pc := 9) dX12_lay_9 flX12_62 hthis (kct hthis rfl hct) g2 ?_
    refine AW.sipush (pc := 12) dX12_lay_12 cs_1400 ?_
    refine AW.aload_n (pc := 15) dX12_lay_15 rfl 0 rfl ?_
    refine AW.getI (pc := 16) dX12_lay_16 flX12_240 hthis (kct hthis rfl hct) ?_
    refine AW.iadd (pc := 19) dX12_lay_19 ?_
    refine AW.iload_n (pc := 20) dX12_lay_20 rfl 1 rfl ?_
    refine AW.chk (fun g3 => ?_)
    refine AW.iast (pc := 21) dX12_lay_21 (k0e g3.1) (kct (k0e g3.1) rfl hct) g3.2 ?_
    refine AW.genM (fun M4 => ?_)
    refine AW.aload_n (pc := 22) dX12_lay_22 rfl 0 rfl ?_
    refine AW.dup (pc := 23) dX12_lay_23 rfl ?_
    refine AW.getI (pc := 24) dX12_lay_24 flX12_240 hthis (kct hthis rfl hct) ?_
    refine AW.iconst (pc := 27) dX12_lay_27 ci_1 ?_
    refine AW.iadd (pc := 28) dX12_lay_28 ?_
    refine AW.putI (pc := 29) dX12_lay_29 flX12_240 hthis (kct hthis rfl hct) ?_
    refine AW.genM (fun M5 => ?_)
    exact AW.vret (pc := 32) dX12_lay_32 rfl (fun _ _ _ => rfl) (Nat.le_refl _) (Nat.le_refl _)
  · exact AW.vret (pc := 7) dX12_lay_7 rfl (fun _ _ _ => rfl) (Nat.le_refl _) (Nat.le_refl _)
-- GateBoxModel.readPart(I)V
def zX12_readPart_B56 (rec : Nat → Int32 → Mem → Option (Unit × Mem)) (this : Nat) (x2 : Int32) (M : Mem) : Option (Unit × Mem) :=
  bnd (zX12_lay this ((-1) - x2) M) fun _ M1 =>
  if (mI M1 this 27) = 0 then
    bnd (zX12_stepOn this M1) fun _ M3 =>
    some ((), M3)
  else
    some ((), M1)
def zX12_readPart (rec : Nat → Int32 → Mem → Option (Unit × Mem)) (this : Nat) (x1 : Int32) (M : Mem) : Option (Unit × Mem) :=
  if K0 this = (0, 12) then
  if (mI M this 27) = 0 then
    if (mI M this 23) = 2 then
      bnd (zX12_readNumber this 0 999 M) fun v3 M4 =>
      bnd (zX12_lay this v3 M4) fun _ M5 =>
      some ((), M5)
    else
      if (mI M this 23) = 1 then
        if mR M this 1 ≠ 0 then
        bnd (zX12_which this (mR M this 1) M) fun v8 M9 =>
        if v8 = (-1) then
          bnd (zX12_wrong this 3 M9) fun _ M11 =>
          zX12_readPart_B56 rec this v8 M11
        else
          zX12_readPart_B56 rec this v8 M9
        else none
      else
        bnd (zX12_mark this 40 M) fun _ M12 =>
        bnd (rec this (x1 + 1) M12) fun _ M13 =>
        bnd (zX12_mark this 41 M13) fun _ M14 =>
        some ((), M14)
  else
    some ((), M)
  else none
set_option maxRecDepth 20000 in
set_option maxHeartbeats 4000000 in
theorem kX12_readPart_B56 (l : Launch) (E : Ev) (n : Nat) (nr : Nat) (hn : nr + 1 ≤ n) (ct : Nat) (hct : 111 ≤ ct) (ex : Bool) (rec : Nat → Int32 → Mem → Option (Unit × Mem)) (hnr : 10 ≤ nr) (hrec : ∀ n, nr ≤ n → ∀ ct, 111 ≤ ct → ∀ ex (this : Nat) (y0 : Int32) M, AM l E n ct ex yX12_readExpression fX12_readExpression enU [.ref (ad E this), .int y0] M (rec this y0 M)) (this : Nat) (x2 : Int32) (M : Mem) (hthis : K0 this = (0, 12)) : AW l E fX12_readPart (fun _ => rmN n 0 0) (PQr E 0 0 ct ex enU) ct ex 0 0 56 [(0, .ref (ad E this)), (2, .int x2)] [] M (zX12_readPart_B56 rec this x2 M) := by
  unfold zX12_readPart_B56
  refine AW.aload_n (pc := 56) dX12_readPart_56 rfl 0 rfl ?_
  refine AW.iconst (pc := 57) dX12_readPart_57 ci_m1 ?_
  refine AW.iload_n (pc := 58) dX12_readPart_58 rfl 1 rfl ?_
  refine AW.isub (pc := 59) dX12_readPart_59 ?_
  refine AW.cV1v (pc := 60) dX12_readPart_60 mlX12_246 mbX12_lay rfl hthis (kct hthis rfl hct) (fun _ => okR_N (by omega)) (kX12_lay l E (n - 1) (by omega) ct hct ex this ((-1) - x2) M) (Nat.le_of_ble_eq_true rfl) (fun _ M1 => ?_)
  refine AW.aload_n (pc := 63) dX12_readPart_63 rfl 0 rfl ?_
  refine AW.getI (pc := 64) dX12_readPart_64 flX12_213 hthis (kct hthis rfl hct) ?_
  refine AW.if_ne (pc := 67) 74 dX12_readPart_67 (by decide) (fun h2 => ?_) (fun h2 => ?_)
  · refine AW.aload_n (pc := 70) dX12_readPart_70 rfl 0 rfl ?_
    refine AW.cV0v (pc := 71) dX12_readPart_71 mlX12_234 mbX12_stepOn rfl hthis (kct hthis rfl hct) (fun _ => okR_N (by omega)) (kX12_stepOn l E (n - 1) (by omega) ct hct ex this M1) (Nat.le_of_ble_eq_true rfl) (fun _ M3 => ?_)
    exact AW.vret (pc := 74) dX12_readPart_74 rfl (fun _ _ _ => rfl) (Nat.le_refl _) (Nat.le_refl _)
  · exact AW.vret (pc := 74) dX12_readPart_74 rfl (fun _ _ _ => rfl) (Nat.le_refl _) (Nat.le_refl _)
set_option maxRecDepth 20000 in
set_option maxHeartbeats 4000000 in
theorem kX12_readPart (l : Launch) (E : Ev) (n : Nat) (nr : Nat) (rec : Nat → Int32 → Mem → Option (Unit × Mem)) (hnr : 10 ≤ nr) (hrec : ∀ n, nr ≤ n → ∀ ct, 111 ≤ ct → ∀ ex (this : Nat) (y0 : Int32) M, AM l E n ct ex yX12_readExpression fX12_readExpression enU [.ref (ad E this), .int y0] M (rec this y0 M)) (hn : nr + 1 ≤ n) (ct : Nat) (hct : 111 ≤ ct) (ex : Bool) (this : Nat) (x1 : Int32) (M : Mem) : AM l E n ct ex yX12_readPart fX12_readPart enU [.ref (ad E this), .int x1] M (zX12_readPart rec this x1 M) := by
  unfold zX12_readPart
  refine AM.of (by decide +kernel) ⟨rfl, rfl, rfl⟩ (Nat.le_of_ble_eq_true rfl) ?_
  refine AW.chk (fun hthis => ?_)
  refine AW.aload_n (pc := 0) dX12_readPart_0 rfl 0 rfl ?_
  refine AW.getI (pc := 1) dX12_readPart_1 flX12_213 hthis (kct hthis rfl hct) ?_
  refine AW.if_eq (pc := 4) 8 dX12_readPart_4 (by decide) (fun h1 => ?_) (fun h1 => ?_)
  · refine AW.aload_n (pc := 8) dX12_readPart_8 rfl 0 rfl ?_
    refine AW.getI (pc := 9) dX12_readPart_9 flX12_189 hthis (kct hthis rfl hct) ?_
    refine AW.iconst (pc := 12) dX12_readPart_12 ci_2 ?_
    refine AW.icmp_ne (pc := 13) 29 dX12_readPart_13 (by decide) (fun h2 => ?_) (fun h2 => ?_)
    · refine AW.aload_n (pc := 16) dX12_readPart_16 rfl 0 rfl ?_
      refine AW.aload_n (pc := 17) dX12_readPart_17 rfl 0 rfl ?_
      refine AW.iconst (pc := 18) dX12_readPart_18 ci_0 ?_
      refine AW.sipush (pc := 19) dX12_readPart_19 cs_999 ?_
      refine AW.cV2i (pc := 22) dX12_readPart_22 mlX12_243 mbX12_readNumber rfl hthis (kct hthis rfl hct) (fun _ => okR_N (by omega)) (kX12_readNumber l E (n - 1) (by omega) ct hct ex this 0 999 M) (Nat.le_of_ble_eq_true rfl) (fun v3 M4 => ?_)
      refine AW.cV1v (pc := 25) dX12_readPart_25 mlX12_246 mbX12_lay rfl hthis (kct hthis rfl hct) (fun _ => okR_N (by omega)) (kX12_lay l E (n - 1) (by omega) ct hct ex this v3 M4) (Nat.le_of_ble_eq_true rfl) (fun _ M5 => ?_)
      exact AW.vret (pc := 28) dX12_readPart_28 rfl (fun _ _ _ => rfl) (Nat.le_refl _) (Nat.le_refl _)
    · refine AW.aload_n (pc := 29) dX12_readPart_29 rfl 0 rfl ?_
      refine AW.getI (pc := 30) dX12_readPart_30 flX12_189 hthis (kct hthis rfl hct) ?_
      refine AW.iconst (pc := 33) dX12_readPart_33 ci_1 ?_
      refine AW.icmp_ne (pc := 34) 75 dX12_readPart_34 (by decide) (fun h6 => ?_) (fun h6 => ?_)
      · refine AW.aload_n (pc := 37) dX12_readPart_37 rfl 0 rfl ?_
        refine AW.aload_n (pc := 38) dX12_readPart_38 rfl 0 rfl ?_
        refine AW.chk (fun g7 => ?_)
        refine AW.getR (pc := 39) dX12_readPart_39 flX12_39 hthis (kct hthis rfl hct) g7 ?_
        refine AW.cV1i (pc := 42) dX12_readPart_42 mlX12_249 mbX12_which rfl hthis (kct hthis rfl hct) (fun _ => okR_N (by omega)) (kX12_which l E (n - 1) (by omega) ct hct ex this (mR M this 1) M) (Nat.le_of_ble_eq_true rfl) (fun v8 M9 => ?_)
        refine AW.istore_n (pc := 45) [1, 0] [(0, .ref (ad E this)), (2, .int v8)] dX12_readPart_45 rfl (by decide) rfl ?_
        refine AW.iload_n (pc := 46) dX12_readPart_46 rfl 1 rfl ?_
        refine AW.iconst (pc := 47) dX12_readPart_47 ci_m1 ?_
        refine AW.icmp_ne (pc := 48) 56 dX12_readPart_48 (by decide) (fun h10 => ?_) (fun h10 => ?_)
        · refine AW.aload_n (pc := 51) dX12_readPart_51 rfl 0 rfl ?_
          refine AW.iconst (pc := 52) dX12_readPart_52 ci_3 ?_
          refine AW.cV1v (pc := 53) dX12_readPart_53 mlX12_231 mbX12_wrong rfl hthis (kct hthis rfl hct) (fun _ => okR_N (by omega)) (kX12_wrong l E (n - 1) (by omega) ct hct ex this 3 M9) (Nat.le_of_ble_eq_true rfl) (fun _ M11 => ?_)
          exact kX12_readPart_B56 l E n nr hn ct hct ex rec hnr hrec this v8 M11 hthis
        · exact kX12_readPart_B56 l E n nr hn ct hct ex rec hnr hrec this v8 M9 hthis
      · refine AW.aload_n (pc := 75) dX12_readPart_75 rfl 0 rfl ?_
        refine AW.bipush (pc := 76) dX12_readPart_76 cb_40 ?_
        refine AW.cV1v (pc := 78) dX12_readPart_78 mlX12_253 mbX12_mark rfl hthis (kct hthis rfl hct) (fun _ => okR_N (by omega)) (kX12_mark l E (n - 1) (by omega) ct hct ex this 40 M) (Nat.le_of_ble_eq_true rfl) (fun _ M12 => ?_)
        refine AW.aload_n (pc := 81) dX12_readPart_81 rfl 0 rfl ?_
        refine AW.iload_n (pc := 82) dX12_readPart_82 rfl 1 rfl ?_
        refine AW.iconst (pc := 83) dX12_readPart_83 ci_1 ?_
        refine AW.iadd (pc := 84) dX12_readPart_84 ?_
        refine AW.cV1v (pc := 85) dX12_readPart_85 mlX12_256 mbX12_readExpression rfl hthis (kct hthis rfl hct) (fun _ => okR_N (by omega)) (hrec (n - 1) (by omega) ct hct ex this (x1 + 1) M12) (Nat.le_of_ble_eq_true rfl) (fun _ M13 => ?_)
        refine AW.aload_n (pc := 88) dX12_readPart_88 rfl 0 rfl ?_
        refine AW.bipush (pc := 89) dX12_readPart_89 cb_41 ?_
        refine AW.cV1v (pc := 91) dX12_readPart_91 mlX12_253 mbX12_mark rfl hthis (kct hthis rfl hct) (fun _ => okR_N (by omega)) (kX12_mark l E (n - 1) (by omega) ct hct ex this 41 M13) (Nat.le_of_ble_eq_true rfl) (fun _ M14 => ?_)
        exact AW.vret (pc := 94) dX12_readPart_94 rfl (fun _ _ _ => rfl) (Nat.le_refl _) (Nat.le_refl _)
  · exact AW.vret (pc := 7) dX12_readPart_7 rfl (fun _ _ _ => rfl) (Nat.le_refl _) (Nat.le_refl _)
-- GateBoxModel.readProduct(I)V
def zX12_readProduct_B39 (rec : Nat → Int32 → Mem → Option (Unit × Mem)) (KK5 : Nat → Int32 → Mem → Option (Unit × Mem)) (this : Nat) (x1 : Int32) (s0 : Int32) (M : Mem) : Option (Unit × Mem) :=
  bnd (zX12_stepOn this M) fun _ M1 =>
  bnd (zX12_readPart rec this x1 M1) fun _ M2 =>
  bnd (zX12_lay this s0 M2) fun _ M3 =>
  KK5 this x1 M3
def zX12_readProduct_B23 (rec : Nat → Int32 → Mem → Option (Unit × Mem)) (KK5 : Nat → Int32 → Mem → Option (Unit × Mem)) (this : Nat) (x1 : Int32) (M : Mem) : Option (Unit × Mem) :=
  bnd (zX12_isMarked this 42 M) fun v1 M2 =>
  if v1 = 0 then
    zX12_readProduct_B39 rec KK5 this x1 (-23) M2
  else
    zX12_readProduct_B39 rec KK5 this x1 (-22) M2
def zX12_readProduct_B5 (rec : Nat → Int32 → Mem → Option (Unit × Mem)) (KK5 : Nat → Int32 → Mem → Option (Unit × Mem)) (this : Nat) (x1 : Int32) (M : Mem) : Option (Unit × Mem) :=
  bnd (zX12_isMarked this 42 M) fun v1 M2 =>
  if v1 = 0 then
    bnd (zX12_isMarked this 47 M2) fun v4 M5 =>
    if v4 = 0 then
      some ((), M5)
    else
      zX12_readProduct_B23 rec KK5 this x1 M5
  else
    zX12_readProduct_B23 rec KK5 this x1 M2
def zX12_readProduct_L5 (rec : Nat → Int32 → Mem → Option (Unit × Mem)) : Nat → Nat → Int32 → Mem → Option (Unit × Mem)
  | 0 => fun _ _ _ => none
  | k + 1 => zX12_readProduct_B5 rec (zX12_readProduct_L5 rec k)
def zX12_readProduct (rec : Nat → Int32 → Mem → Option (Unit × Mem)) (this : Nat) (x1 : Int32) (M : Mem) : Option (Unit × Mem) :=
  if K0 this = (0, 12) then
  bnd (zX12_readPart rec this x1 M) fun _ M1 =>
  zX12_readProduct_L5 rec FU this x1 M1
  else none
set_option maxRecDepth 20000 in
set_option maxHeartbeats 4000000 in
theorem kX12_readProduct_B39 (l : Launch) (E : Ev) (n : Nat) (nr : Nat) (hn : nr + 2 ≤ n) (ct : Nat) (hct : 111 ≤ ct) (ex : Bool) (rec : Nat → Int32 → Mem → Option (Unit × Mem)) (hnr : 10 ≤ nr) (hrec : ∀ n, nr ≤ n → ∀ ct, 111 ≤ ct → ∀ ex (this : Nat) (y0 : Int32) M, AM l E n ct ex yX12_readExpression fX12_readExpression enU [.ref (ad E this), .int y0] M (rec this y0 M)) (KK5 : Nat → Int32 → Mem → Option (Unit × Mem)) (hKK5 : ∀ (this : Nat) (x1 : Int32) (M : Mem) (_ : K0 this = (0, 12)), AW l E fX12_readProduct (fun _ => rmN n 0 0) (PQr E 0 0 ct ex enU) ct ex 0 0 5 [(0, .ref (ad E this)), (1, .int x1)] [] M (KK5 this x1 M)) (this : Nat) (x1 : Int32) (s0 : Int32) (M : Mem) (hthis : K0 this = (0, 12)) : AW l E fX12_readProduct (fun _ => rmN n 0 0) (PQr E 0 0 ct ex enU) ct ex 0 0 39 [(0, .ref (ad E this)), (1, .int x1)] [.int s0] M (zX12_readProduct_B39 rec KK5 this x1 s0 M) := by
  unfold zX12_readProduct_B39
  refine AW.istore_n (pc := 39) [1, 2, 0] [(0, .ref (ad E this)), (1, .int x1), (2, .int s0)] dX12_readProduct_39 rfl (by decide) rfl ?_
  refine AW.aload_n (pc := 40) dX12_readProduct_40 rfl 0 rfl ?_
  refine AW.cV0v (pc := 41) dX12_readProduct_41 mlX12_234 mbX12_stepOn rfl hthis (kct hthis rfl hct) (fun _ => okR_N (by omega)) (kX12_stepOn l E (n - 1) (by omega) ct hct ex this M) (Nat.le_of_ble_eq_true rfl) (fun _ M1 => ?_)
  refine AW.aload_n (pc := 44) dX12_readProduct_44 rfl 0 rfl ?_
  refine AW.iload_n (pc := 45) dX12_readProduct_45 rfl 1 rfl ?_
  refine AW.cV1v (pc := 46) dX12_readProduct_46 mlX12_259 mbX12_readPart rfl hthis (kct hthis rfl hct) (fun _ => okR_N (by omega)) (kX12_readPart l E (n - 1) nr rec hnr hrec (by omega) ct hct ex this x1 M1) (Nat.le_of_ble_eq_true rfl) (fun _ M2 => ?_)
  refine AW.aload_n (pc := 49) dX12_readProduct_49 rfl 0 rfl ?_
  refine AW.iload_n (pc := 50) dX12_readProduct_50 rfl 2 rfl ?_
  refine AW.cV1v (pc := 51) dX12_readProduct_51 mlX12_246 mbX12_lay rfl hthis (kct hthis rfl hct) (fun _ => okR_N (by omega)) (kX12_lay l E (n - 1) (by omega) ct hct ex this s0 M2) (Nat.le_of_ble_eq_true rfl) (fun _ M3 => ?_)
  refine AW.goto (pc := 54) 5 dX12_readProduct_54 (by decide) ?_
  exact AW.sub [0, 1] rfl (hKK5 this x1 M3 hthis)
set_option maxRecDepth 20000 in
set_option maxHeartbeats 4000000 in
theorem kX12_readProduct_B23 (l : Launch) (E : Ev) (n : Nat) (nr : Nat) (hn : nr + 2 ≤ n) (ct : Nat) (hct : 111 ≤ ct) (ex : Bool) (rec : Nat → Int32 → Mem → Option (Unit × Mem)) (hnr : 10 ≤ nr) (hrec : ∀ n, nr ≤ n → ∀ ct, 111 ≤ ct → ∀ ex (this : Nat) (y0 : Int32) M, AM l E n ct ex yX12_readExpression fX12_readExpression enU [.ref (ad E this), .int y0] M (rec this y0 M)) (KK5 : Nat → Int32 → Mem → Option (Unit × Mem)) (hKK5 : ∀ (this : Nat) (x1 : Int32) (M : Mem) (_ : K0 this = (0, 12)), AW l E fX12_readProduct (fun _ => rmN n 0 0) (PQr E 0 0 ct ex enU) ct ex 0 0 5 [(0, .ref (ad E this)), (1, .int x1)] [] M (KK5 this x1 M)) (this : Nat) (x1 : Int32) (M : Mem) (hthis : K0 this = (0, 12)) : AW l E fX12_readProduct (fun _ => rmN n 0 0) (PQr E 0 0 ct ex enU) ct ex 0 0 23 [(0, .ref (ad E this)), (1, .int x1)] [] M (zX12_readProduct_B23 rec KK5 this x1 M) := by
  unfold zX12_readProduct_B23
  refine AW.aload_n (pc := 23) dX12_readProduct_23 rfl 0 rfl ?_
  refine AW.bipush (pc := 24) dX12_readProduct_24 cb_42 ?_
  refine AW.cV1i (pc := 26) dX12_readProduct_26 mlX12_237 mbX12_isMarked rfl hthis (kct hthis rfl hct) (fun _ => okR_N (by omega)) (kX12_isMarked l E (n - 1) (by omega) ct hct ex this 42 M) (Nat.le_of_ble_eq_true rfl) (fun v1 M2 => ?_)
  refine AW.if_eq (pc := 29) 37 dX12_readProduct_29 (by decide) (fun h3 => ?_) (fun h3 => ?_)
  · refine AW.bipush (pc := 37) dX12_readProduct_37 cb_m23 ?_
    exact kX12_readProduct_B39 l E n nr hn ct hct ex rec hnr hrec KK5 hKK5 this x1 (-23) M2 hthis
  · refine AW.bipush (pc := 32) dX12_readProduct_32 cb_m22 ?_
    refine AW.goto (pc := 34) 39 dX12_readProduct_34 (by decide) ?_
    exact kX12_readProduct_B39 l E n nr hn ct hct ex rec hnr hrec KK5 hKK5 this x1 (-22) M2 hthis
set_option maxRecDepth 20000 in
set_option maxHeartbeats 4000000 in
theorem kX12_readProduct_B5 (l : Launch) (E : Ev) (n : Nat) (nr : Nat) (hn : nr + 2 ≤ n) (ct : Nat) (hct : 111 ≤ ct) (ex : Bool) (rec : Nat → Int32 → Mem → Option (Unit × Mem)) (hnr : 10 ≤ nr) (hrec : ∀ n, nr ≤ n → ∀ ct, 111 ≤ ct → ∀ ex (this : Nat) (y0 : Int32) M, AM l E n ct ex yX12_readExpression fX12_readExpression enU [.ref (ad E this), .int y0] M (rec this y0 M)) (KK5 : Nat → Int32 → Mem → Option (Unit × Mem)) (hKK5 : ∀ (this : Nat) (x1 : Int32) (M : Mem) (_ : K0 this = (0, 12)), AW l E fX12_readProduct (fun _ => rmN n 0 0) (PQr E 0 0 ct ex enU) ct ex 0 0 5 [(0, .ref (ad E this)), (1, .int x1)] [] M (KK5 this x1 M)) (this : Nat) (x1 : Int32) (M : Mem) (hthis : K0 this = (0, 12)) : AW l E fX12_readProduct (fun _ => rmN n 0 0) (PQr E 0 0 ct ex enU) ct ex 0 0 5 [(0, .ref (ad E this)), (1, .int x1)] [] M (zX12_readProduct_B5 rec KK5 this x1 M) := by
  unfold zX12_readProduct_B5
  refine AW.aload_n (pc := 5) dX12_readProduct_5 rfl 0 rfl ?_
  refine AW.bipush (pc := 6) dX12_readProduct_6 cb_42 ?_
  refine AW.cV1i (pc := 8) dX12_readProduct_8 mlX12_237 mbX12_isMarked rfl hthis (kct hthis rfl hct) (fun _ => okR_N (by omega)) (kX12_isMarked l E (n - 1) (by omega) ct hct ex this 42 M) (Nat.le_of_ble_eq_true rfl) (fun v1 M2 => ?_)
  refine AW.if_ne (pc := 11) 23 dX12_readProduct_11 (by decide) (fun h3 => ?_) (fun h3 => ?_)
  · refine AW.aload_n (pc := 14) dX12_readProduct_14 rfl 0 rfl ?_
    refine AW.bipush (pc := 15) dX12_readProduct_15 cb_47 ?_
    refine AW.cV1i (pc := 17) dX12_readProduct_17 mlX12_237 mbX12_isMarked rfl hthis (kct hthis rfl hct) (fun _ => okR_N (by omega)) (kX12_isMarked l E (n - 1) (by omega) ct hct ex this 47 M2) (Nat.le_of_ble_eq_true rfl) (fun v4 M5 => ?_)
    refine AW.if_eq (pc := 20) 57 dX12_readProduct_20 (by decide) (fun h6 => ?_) (fun h6 => ?_)
    · exact AW.vret (pc := 57) dX12_readProduct_57 rfl (fun _ _ _ => rfl) (Nat.le_refl _) (Nat.le_refl _)
    · exact kX12_readProduct_B23 l E n nr hn ct hct ex rec hnr hrec KK5 hKK5 this x1 M5 hthis
  · exact kX12_readProduct_B23 l E n nr hn ct hct ex rec hnr hrec KK5 hKK5 this x1 M2 hthis
set_option maxRecDepth 20000 in
set_option maxHeartbeats 4000000 in
theorem kX12_readProduct_L5 (l : Launch) (E : Ev) (n : Nat) (nr : Nat) (hn : nr + 2 ≤ n) (ct : Nat) (hct : 111 ≤ ct) (ex : Bool) (rec : Nat → Int32 → Mem → Option (Unit × Mem)) (hnr : 10 ≤ nr) (hrec : ∀ n, nr ≤ n → ∀ ct, 111 ≤ ct → ∀ ex (this : Nat) (y0 : Int32) M, AM l E n ct ex yX12_readExpression fX12_readExpression enU [.ref (ad E this), .int y0] M (rec this y0 M)) (k : Nat) : ∀ (this : Nat) (x1 : Int32) (M : Mem) (_ : K0 this = (0, 12)), AW l E fX12_readProduct (fun _ => rmN n 0 0) (PQr E 0 0 ct ex enU) ct ex 0 0 5 [(0, .ref (ad E this)), (1, .int x1)] [] M (zX12_readProduct_L5 rec k this x1 M) := by
  induction k with
  | zero => intro this x1 M _; exact AW.none
  | succ k ih =>
    intro this x1 M hthis
    exact kX12_readProduct_B5 l E n nr hn ct hct ex rec hnr hrec (zX12_readProduct_L5 rec k) ih this x1 M hthis
set_option maxRecDepth 20000 in
set_option maxHeartbeats 4000000 in
theorem kX12_readProduct (l : Launch) (E : Ev) (n : Nat) (nr : Nat) (rec : Nat → Int32 → Mem → Option (Unit × Mem)) (hnr : 10 ≤ nr) (hrec : ∀ n, nr ≤ n → ∀ ct, 111 ≤ ct → ∀ ex (this : Nat) (y0 : Int32) M, AM l E n ct ex yX12_readExpression fX12_readExpression enU [.ref (ad E this), .int y0] M (rec this y0 M)) (hn : nr + 2 ≤ n) (ct : Nat) (hct : 111 ≤ ct) (ex : Bool) (this : Nat) (x1 : Int32) (M : Mem) : AM l E n ct ex yX12_readProduct fX12_readProduct enU [.ref (ad E this), .int x1] M (zX12_readProduct rec this x1 M) := by
  unfold zX12_readProduct
  refine AM.of (by decide +kernel) ⟨rfl, rfl, rfl⟩ (Nat.le_of_ble_eq_true rfl) ?_
  refine AW.chk (fun hthis => ?_)
  refine AW.aload_n (pc := 0) dX12_readProduct_0 rfl 0 rfl ?_
  refine AW.iload_n (pc := 1) dX12_readProduct_1 rfl 1 rfl ?_
  refine AW.cV1v (pc := 2) dX12_readProduct_2 mlX12_259 mbX12_readPart rfl hthis (kct hthis rfl hct) (fun _ => okR_N (by omega)) (kX12_readPart l E (n - 1) nr rec hnr hrec (by omega) ct hct ex this x1 M) (Nat.le_of_ble_eq_true rfl) (fun _ M1 => ?_)
  exact kX12_readProduct_L5 l E n nr hn ct hct ex rec hnr hrec FU this x1 M1 hthis
-- GateBoxModel.readSum(I)V
def zX12_readSum_B39 (rec : Nat → Int32 → Mem → Option (Unit × Mem)) (KK5 : Nat → Int32 → Mem → Option (Unit × Mem)) (this : Nat) (x1 : Int32) (s0 : Int32) (M : Mem) : Option (Unit × Mem) :=
  bnd (zX12_stepOn this M) fun _ M1 =>
  bnd (zX12_readProduct rec this x1 M1) fun _ M2 =>
  bnd (zX12_lay this s0 M2) fun _ M3 =>
  KK5 this x1 M3
def zX12_readSum_B23 (rec : Nat → Int32 → Mem → Option (Unit × Mem)) (KK5 : Nat → Int32 → Mem → Option (Unit × Mem)) (this : Nat) (x1 : Int32) (M : Mem) : Option (Unit × Mem) :=
  bnd (zX12_isMarked this 43 M) fun v1 M2 =>
  if v1 = 0 then
    zX12_readSum_B39 rec KK5 this x1 (-21) M2
  else
    zX12_readSum_B39 rec KK5 this x1 (-20) M2
def zX12_readSum_B5 (rec : Nat → Int32 → Mem → Option (Unit × Mem)) (KK5 : Nat → Int32 → Mem → Option (Unit × Mem)) (this : Nat) (x1 : Int32) (M : Mem) : Option (Unit × Mem) :=
  bnd (zX12_isMarked this 43 M) fun v1 M2 =>
  if v1 = 0 then
    bnd (zX12_isMarked this 45 M2) fun v4 M5 =>
    if v4 = 0 then
      some ((), M5)
    else
      zX12_readSum_B23 rec KK5 this x1 M5
  else
    zX12_readSum_B23 rec KK5 this x1 M2
def zX12_readSum_L5 (rec : Nat → Int32 → Mem → Option (Unit × Mem)) : Nat → Nat → Int32 → Mem → Option (Unit × Mem)
  | 0 => fun _ _ _ => none
  | k + 1 => zX12_readSum_B5 rec (zX12_readSum_L5 rec k)
def zX12_readSum (rec : Nat → Int32 → Mem → Option (Unit × Mem)) (this : Nat) (x1 : Int32) (M : Mem) : Option (Unit × Mem) :=
  if K0 this = (0, 12) then
  bnd (zX12_readProduct rec this x1 M) fun _ M1 =>
  zX12_readSum_L5 rec FU this x1 M1
  else none
set_option maxRecDepth 20000 in
set_option maxHeartbeats 4000000 in
theorem kX12_readSum_B39 (l : Launch) (E : Ev) (n : Nat) (nr : Nat) (hn : nr + 3 ≤ n) (ct : Nat) (hct : 111 ≤ ct) (ex : Bool) (rec : Nat → Int32 → Mem → Option (Unit × Mem)) (hnr : 10 ≤ nr) (hrec : ∀ n, nr ≤ n → ∀ ct, 111 ≤ ct → ∀ ex (this : Nat) (y0 : Int32) M, AM l E n ct ex yX12_readExpression fX12_readExpression enU [.ref (ad E this), .int y0] M (rec this y0 M)) (KK5 : Nat → Int32 → Mem → Option (Unit × Mem)) (hKK5 : ∀ (this : Nat) (x1 : Int32) (M : Mem) (_ : K0 this = (0, 12)), AW l E fX12_readSum (fun _ => rmN n 0 0) (PQr E 0 0 ct ex enU) ct ex 0 0 5 [(0, .ref (ad E this)), (1, .int x1)] [] M (KK5 this x1 M)) (this : Nat) (x1 : Int32) (s0 : Int32) (M : Mem) (hthis : K0 this = (0, 12)) : AW l E fX12_readSum (fun _ => rmN n 0 0) (PQr E 0 0 ct ex enU) ct ex 0 0 39 [(0, .ref (ad E this)), (1, .int x1)] [.int s0] M (zX12_readSum_B39 rec KK5 this x1 s0 M) := by
  unfold zX12_readSum_B39
  refine AW.istore_n (pc := 39) [1, 2, 0] [(0, .ref (ad E this)), (1, .int x1), (2, .int s0)] dX12_readSum_39 rfl (by decide) rfl ?_
  refine AW.aload_n (pc := 40) dX12_readSum_40 rfl 0 rfl ?_
  refine AW.cV0v (pc := 41) dX12_readSum_41 mlX12_234 mbX12_stepOn rfl hthis (kct hthis rfl hct) (fun _ => okR_N (by omega)) (kX12_stepOn l E (n - 1) (by omega) ct hct ex this M) (Nat.le_of_ble_eq_true rfl) (fun _ M1 => ?_)
  refine AW.aload_n (pc := 44) dX12_readSum_44 rfl 0 rfl ?_
  refine AW.iload_n (pc := 45) dX12_readSum_45 rfl 1 rfl ?_
  refine AW.cV1v (pc := 46) dX12_readSum_46 mlX12_262 mbX12_readProduct rfl hthis (kct hthis rfl hct) (fun _ => okR_N (by omega)) (kX12_readProduct l E (n - 1) nr rec hnr hrec (by omega) ct hct ex this x1 M1) (Nat.le_of_ble_eq_true rfl) (fun _ M2 => ?_)
  refine AW.aload_n (pc := 49) dX12_readSum_49 rfl 0 rfl ?_
  refine AW.iload_n (pc := 50) dX12_readSum_50 rfl 2 rfl ?_
  refine AW.cV1v (pc := 51) dX12_readSum_51 mlX12_246 mbX12_lay rfl hthis (kct hthis rfl hct) (fun _ => okR_N (by omega)) (kX12_lay l E (n - 1) (by omega) ct hct ex this s0 M2) (Nat.le_of_ble_eq_true rfl) (fun _ M3 => ?_)
  refine AW.goto (pc := 54) 5 dX12_readSum_54 (by decide) ?_
  exact AW.sub [0, 1] rfl (hKK5 this x1 M3 hthis)
set_option maxRecDepth 20000 in
set_option maxHeartbeats 4000000 in
theorem kX12_readSum_B23 (l : Launch) (E : Ev) (n : Nat) (nr : Nat) (hn : nr + 3 ≤ n) (ct : Nat) (hct : 111 ≤ ct) (ex : Bool) (rec : Nat → Int32 → Mem → Option (Unit × Mem)) (hnr : 10 ≤ nr) (hrec : ∀ n, nr ≤ n → ∀ ct, 111 ≤ ct → ∀ ex (this : Nat) (y0 : Int32) M, AM l E n ct ex yX12_readExpression fX12_readExpression enU [.ref (ad E this), .int y0] M (rec this y0 M)) (KK5 : Nat → Int32 → Mem → Option (Unit × Mem)) (hKK5 : ∀ (this : Nat) (x1 : Int32) (M : Mem) (_ : K0 this = (0, 12)), AW l E fX12_readSum (fun _ => rmN n 0 0) (PQr E 0 0 ct ex enU) ct ex 0 0 5 [(0, .ref (ad E this)), (1, .int x1)] [] M (KK5 this x1 M)) (this : Nat) (x1 : Int32) (M : Mem) (hthis : K0 this = (0, 12)) : AW l E fX12_readSum (fun _ => rmN n 0 0) (PQr E 0 0 ct ex enU) ct ex 0 0 23 [(0, .ref (ad E this)), (1, .int x1)] [] M (zX12_readSum_B23 rec KK5 this x1 M) := by
  unfold zX12_readSum_B23
  refine AW.aload_n (pc := 23) dX12_readSum_23 rfl 0 rfl ?_
  refine AW.bipush (pc := 24) dX12_readSum_24 cb_43 ?_
  refine AW.cV1i (pc := 26) dX12_readSum_26 mlX12_237 mbX12_isMarked rfl hthis (kct hthis rfl hct) (fun _ => okR_N (by omega)) (kX12_isMarked l E (n - 1) (by omega) ct hct ex this 43 M) (Nat.le_of_ble_eq_true rfl) (fun v1 M2 => ?_)
  refine AW.if_eq (pc := 29) 37 dX12_readSum_29 (by decide) (fun h3 => ?_) (fun h3 => ?_)
  · refine AW.bipush (pc := 37) dX12_readSum_37 cb_m21 ?_
    exact kX12_readSum_B39 l E n nr hn ct hct ex rec hnr hrec KK5 hKK5 this x1 (-21) M2 hthis
  · refine AW.bipush (pc := 32) dX12_readSum_32 cb_m20 ?_
    refine AW.goto (pc := 34) 39 dX12_readSum_34 (by decide) ?_
    exact kX12_readSum_B39 l E n nr hn ct hct ex rec hnr hrec KK5 hKK5 this x1 (-20) M2 hthis
set_option maxRecDepth 20000 in
set_option maxHeartbeats 4000000 in
theorem kX12_readSum_B5 (l : Launch) (E : Ev) (n : Nat) (nr : Nat) (hn : nr + 3 ≤ n) (ct : Nat) (hct : 111 ≤ ct) (ex : Bool) (rec : Nat → Int32 → Mem → Option (Unit × Mem)) (hnr : 10 ≤ nr) (hrec : ∀ n, nr ≤ n → ∀ ct, 111 ≤ ct → ∀ ex (this : Nat) (y0 : Int32) M, AM l E n ct ex yX12_readExpression fX12_readExpression enU [.ref (ad E this), .int y0] M (rec this y0 M)) (KK5 : Nat → Int32 → Mem → Option (Unit × Mem)) (hKK5 : ∀ (this : Nat) (x1 : Int32) (M : Mem) (_ : K0 this = (0, 12)), AW l E fX12_readSum (fun _ => rmN n 0 0) (PQr E 0 0 ct ex enU) ct ex 0 0 5 [(0, .ref (ad E this)), (1, .int x1)] [] M (KK5 this x1 M)) (this : Nat) (x1 : Int32) (M : Mem) (hthis : K0 this = (0, 12)) : AW l E fX12_readSum (fun _ => rmN n 0 0) (PQr E 0 0 ct ex enU) ct ex 0 0 5 [(0, .ref (ad E this)), (1, .int x1)] [] M (zX12_readSum_B5 rec KK5 this x1 M) := by
  unfold zX12_readSum_B5
  refine AW.aload_n (pc := 5) dX12_readSum_5 rfl 0 rfl ?_
  refine AW.bipush (pc := 6) dX12_readSum_6 cb_43 ?_
  refine AW.cV1i (pc := 8) dX12_readSum_8 mlX12_237 mbX12_isMarked rfl hthis (kct hthis rfl hct) (fun _ => okR_N (by omega)) (kX12_isMarked l E (n - 1) (by omega) ct hct ex this 43 M) (Nat.le_of_ble_eq_true rfl) (fun v1 M2 => ?_)
  refine AW.if_ne (pc := 11) 23 dX12_readSum_11 (by decide) (fun h3 => ?_) (fun h3 => ?_)
  · refine AW.aload_n (pc := 14) dX12_readSum_14 rfl 0 rfl ?_
    refine AW.bipush (pc := 15) dX12_readSum_15 cb_45 ?_
    refine AW.cV1i (pc := 17) dX12_readSum_17 mlX12_237 mbX12_isMarked rfl hthis (kct hthis rfl hct) (fun _ => okR_N (by omega)) (kX12_isMarked l E (n - 1) (by omega) ct hct ex this 45 M2) (Nat.le_of_ble_eq_true rfl) (fun v4 M5 => ?_)
    refine AW.if_eq (pc := 20) 57 dX12_readSum_20 (by decide) (fun h6 => ?_) (fun h6 => ?_)
    · exact AW.vret (pc := 57) dX12_readSum_57 rfl (fun _ _ _ => rfl) (Nat.le_refl _) (Nat.le_refl _)
    · exact kX12_readSum_B23 l E n nr hn ct hct ex rec hnr hrec KK5 hKK5 this x1 M5 hthis
  · exact kX12_readSum_B23 l E n nr hn ct hct ex rec hnr hrec KK5 hKK5 this x1 M2 hthis
set_option maxRecDepth 20000 in
set_option maxHeartbeats 4000000 in
theorem kX12_readSum_L5 (l : Launch) (E : Ev) (n : Nat) (nr : Nat) (hn : nr + 3 ≤ n) (ct : Nat) (hct : 111 ≤ ct) (ex : Bool) (rec : Nat → Int32 → Mem → Option (Unit × Mem)) (hnr : 10 ≤ nr) (hrec : ∀ n, nr ≤ n → ∀ ct, 111 ≤ ct → ∀ ex (this : Nat) (y0 : Int32) M, AM l E n ct ex yX12_readExpression fX12_readExpression enU [.ref (ad E this), .int y0] M (rec this y0 M)) (k : Nat) : ∀ (this : Nat) (x1 : Int32) (M : Mem) (_ : K0 this = (0, 12)), AW l E fX12_readSum (fun _ => rmN n 0 0) (PQr E 0 0 ct ex enU) ct ex 0 0 5 [(0, .ref (ad E this)), (1, .int x1)] [] M (zX12_readSum_L5 rec k this x1 M) := by
  induction k with
  | zero => intro this x1 M _; exact AW.none
  | succ k ih =>
    intro this x1 M hthis
    exact kX12_readSum_B5 l E n nr hn ct hct ex rec hnr hrec (zX12_readSum_L5 rec k) ih this x1 M hthis
set_option maxRecDepth 20000 in
set_option maxHeartbeats 4000000 in
theorem kX12_readSum (l : Launch) (E : Ev) (n : Nat) (nr : Nat) (rec : Nat → Int32 → Mem → Option (Unit × Mem)) (hnr : 10 ≤ nr) (hrec : ∀ n, nr ≤ n → ∀ ct, 111 ≤ ct → ∀ ex (this : Nat) (y0 : Int32) M, AM l E n ct ex yX12_readExpression fX12_readExpression enU [.ref (ad E this), .int y0] M (rec this y0 M)) (hn : nr + 3 ≤ n) (ct : Nat) (hct : 111 ≤ ct) (ex : Bool) (this : Nat) (x1 : Int32) (M : Mem) : AM l E n ct ex yX12_readSum fX12_readSum enU [.ref (ad E this), .int x1] M (zX12_readSum rec this x1 M) := by
  unfold zX12_readSum
  refine AM.of (by decide +kernel) ⟨rfl, rfl, rfl⟩ (Nat.le_of_ble_eq_true rfl) ?_
  refine AW.chk (fun hthis => ?_)
  refine AW.aload_n (pc := 0) dX12_readSum_0 rfl 0 rfl ?_
  refine AW.iload_n (pc := 1) dX12_readSum_1 rfl 1 rfl ?_
  refine AW.cV1v (pc := 2) dX12_readSum_2 mlX12_262 mbX12_readProduct rfl hthis (kct hthis rfl hct) (fun _ => okR_N (by omega)) (kX12_readProduct l E (n - 1) nr rec hnr hrec (by omega) ct hct ex this x1 M) (Nat.le_of_ble_eq_true rfl) (fun _ M1 => ?_)
  exact kX12_readSum_L5 l E n nr hn ct hct ex rec hnr hrec FU this x1 M1 hthis
-- GateBoxModel.readNot(I)V
def zX12_readNot_B96 (rec : Nat → Int32 → Mem → Option (Unit × Mem)) (KK96 : Nat → Int32 → Int32 → Mem → Option (Unit × Mem)) (this : Nat) (x2 : Int32) (x3 : Int32) (M : Mem) : Option (Unit × Mem) :=
  if x2 ≤ x3 then
    some ((), M)
  else
    bnd (zX12_lay this (-28) M) fun _ M2 =>
    KK96 this x2 (x3 + 1) M2
def zX12_readNot_L96 (rec : Nat → Int32 → Mem → Option (Unit × Mem)) : Nat → Nat → Int32 → Int32 → Mem → Option (Unit × Mem)
  | 0 => fun _ _ _ _ => none
  | k + 1 => zX12_readNot_B96 rec (zX12_readNot_L96 rec k)
def zX12_readNot_B94 (rec : Nat → Int32 → Mem → Option (Unit × Mem)) (this : Nat) (x2 : Int32) (M : Mem) : Option (Unit × Mem) :=
  zX12_readNot_L96 rec FU this x2 0 M
def zX12_readNot_B79 (rec : Nat → Int32 → Mem → Option (Unit × Mem)) (this : Nat) (x1 : Int32) (x2 : Int32) (s0 : Int32) (M : Mem) : Option (Unit × Mem) :=
  bnd (zX12_stepOn this M) fun _ M1 =>
  bnd (zX12_readSum rec this x1 M1) fun _ M2 =>
  bnd (zX12_lay this s0 M2) fun _ M3 =>
  zX12_readNot_B94 rec this x2 M3
def zX12_readNot_B63 (rec : Nat → Int32 → Mem → Option (Unit × Mem)) (this : Nat) (x1 : Int32) (x2 : Int32) (M : Mem) : Option (Unit × Mem) :=
  bnd (zX12_isMarked this 60 M) fun v1 M2 =>
  if v1 = 0 then
    zX12_readNot_B79 rec this x1 x2 (-25) M2
  else
    zX12_readNot_B79 rec this x1 x2 (-24) M2
def zX12_readNot_B23 (rec : Nat → Int32 → Mem → Option (Unit × Mem)) (KK2 : Nat → Int32 → Int32 → Mem → Option (Unit × Mem)) (this : Nat) (x1 : Int32) (x2 : Int32) (M : Mem) : Option (Unit × Mem) :=
  if (mI M this 27) = 0 then
    bnd (zX12_stepOn this M) fun _ M2 =>
    KK2 this x1 (x2 + 1) M2
  else
    KK2 this x1 (x2 + 1) M
def zX12_readNot_B2 (rec : Nat → Int32 → Mem → Option (Unit × Mem)) (KK2 : Nat → Int32 → Int32 → Mem → Option (Unit × Mem)) (this : Nat) (x1 : Int32) (x2 : Int32) (M : Mem) : Option (Unit × Mem) :=
  bnd (zX12_is this 1033 M) fun v1 M2 =>
  if v1 = 0 then
    bnd (zX12_readSum rec this x1 M2) fun _ M4 =>
    bnd (zX12_isMarked this 60 M4) fun v5 M6 =>
    if v5 = 0 then
      bnd (zX12_isMarked this 61 M6) fun v8 M9 =>
      if v8 = 0 then
        zX12_readNot_B94 rec this x2 M9
      else
        zX12_readNot_B63 rec this x1 x2 M9
    else
      zX12_readNot_B63 rec this x1 x2 M6
  else
    if x2 = 6 then
      bnd (zX12_wrong this 2 M2) fun _ M12 =>
      zX12_readNot_B23 rec KK2 this x1 x2 M12
    else
      zX12_readNot_B23 rec KK2 this x1 x2 M2
def zX12_readNot_L2 (rec : Nat → Int32 → Mem → Option (Unit × Mem)) : Nat → Nat → Int32 → Int32 → Mem → Option (Unit × Mem)
  | 0 => fun _ _ _ _ => none
  | k + 1 => zX12_readNot_B2 rec (zX12_readNot_L2 rec k)
def zX12_readNot (rec : Nat → Int32 → Mem → Option (Unit × Mem)) (this : Nat) (x1 : Int32) (M : Mem) : Option (Unit × Mem) :=
  if K0 this = (0, 12) then
  zX12_readNot_L2 rec FU this x1 0 M
  else none
set_option maxRecDepth 20000 in
set_option maxHeartbeats 4000000 in
theorem kX12_readNot_B96 (l : Launch) (E : Ev) (n : Nat) (nr : Nat) (hn : nr + 4 ≤ n) (ct : Nat) (hct : 111 ≤ ct) (ex : Bool) (rec : Nat → Int32 → Mem → Option (Unit × Mem)) (hnr : 10 ≤ nr) (hrec : ∀ n, nr ≤ n → ∀ ct, 111 ≤ ct → ∀ ex (this : Nat) (y0 : Int32) M, AM l E n ct ex yX12_readExpression fX12_readExpression enU [.ref (ad E this), .int y0] M (rec this y0 M)) (KK96 : Nat → Int32 → Int32 → Mem → Option (Unit × Mem)) (hKK96 : ∀ (this : Nat) (x2 : Int32) (x3 : Int32) (M : Mem) (_ : K0 this = (0, 12)), AW l E fX12_readNot (fun _ => rmN n 0 0) (PQr E 0 0 ct ex enU) ct ex 0 0 96 [(0, .ref (ad E this)), (2, .int x2), (3, .int x3)] [] M (KK96 this x2 x3 M)) (this : Nat) (x2 : Int32) (x3 : Int32) (M : Mem) (hthis : K0 this = (0, 12)) : AW l E fX12_readNot (fun _ => rmN n 0 0) (PQr E 0 0 ct ex enU) ct ex 0 0 96 [(0, .ref (ad E this)), (2, .int x2), (3, .int x3)] [] M (zX12_readNot_B96 rec KK96 this x2 x3 M) := by
  unfold zX12_readNot_B96
  refine AW.iload_n (pc := 96) dX12_readNot_96 rfl 2 rfl ?_
  refine AW.iload_n (pc := 97) dX12_readNot_97 rfl 1 rfl ?_
  refine AW.icmp_ge (pc := 98) 113 dX12_readNot_98 (by decide) (fun h1 => ?_) (fun h1 => ?_)
  · exact AW.vret (pc := 113) dX12_readNot_113 rfl (fun _ _ _ => rfl) (Nat.le_refl _) (Nat.le_refl _)
  · refine AW.aload_n (pc := 101) dX12_readNot_101 rfl 0 rfl ?_
    refine AW.bipush (pc := 102) dX12_readNot_102 cb_m28 ?_
    refine AW.cV1v (pc := 104) dX12_readNot_104 mlX12_246 mbX12_lay rfl hthis (kct hthis rfl hct) (fun _ => okR_N (by omega)) (kX12_lay l E (n - 1) (by omega) ct hct ex this (-28) M) (Nat.le_of_ble_eq_true rfl) (fun _ M2 => ?_)
    refine AW.iinc (pc := 107) (w := 2) [1, 2, 0] [(0, .ref (ad E this)), (2, .int x2), (3, .int (x3 + 1))] dX12_readNot_107 rfl (inc_1 _) (by decide) rfl ?_
    refine AW.goto (pc := 110) 96 dX12_readNot_110 (by decide) ?_
    exact hKK96 this x2 (x3 + 1) M2 hthis
set_option maxRecDepth 20000 in
set_option maxHeartbeats 4000000 in
theorem kX12_readNot_L96 (l : Launch) (E : Ev) (n : Nat) (nr : Nat) (hn : nr + 4 ≤ n) (ct : Nat) (hct : 111 ≤ ct) (ex : Bool) (rec : Nat → Int32 → Mem → Option (Unit × Mem)) (hnr : 10 ≤ nr) (hrec : ∀ n, nr ≤ n → ∀ ct, 111 ≤ ct → ∀ ex (this : Nat) (y0 : Int32) M, AM l E n ct ex yX12_readExpression fX12_readExpression enU [.ref (ad E this), .int y0] M (rec this y0 M)) (k : Nat) : ∀ (this : Nat) (x2 : Int32) (x3 : Int32) (M : Mem) (_ : K0 this = (0, 12)), AW l E fX12_readNot (fun _ => rmN n 0 0) (PQr E 0 0 ct ex enU) ct ex 0 0 96 [(0, .ref (ad E this)), (2, .int x2), (3, .int x3)] [] M (zX12_readNot_L96 rec k this x2 x3 M) := by
  induction k with
  | zero => intro this x2 x3 M _; exact AW.none
  | succ k ih =>
    intro this x2 x3 M hthis
    exact kX12_readNot_B96 l E n nr hn ct hct ex rec hnr hrec (zX12_readNot_L96 rec k) ih this x2 x3 M hthis
set_option maxRecDepth 20000 in
set_option maxHeartbeats 4000000 in
theorem kX12_readNot_B94 (l : Launch) (E : Ev) (n : Nat) (nr : Nat) (hn : nr + 4 ≤ n) (ct : Nat) (hct : 111 ≤ ct) (ex : Bool) (rec : Nat → Int32 → Mem → Option (Unit × Mem)) (hnr : 10 ≤ nr) (hrec : ∀ n, nr ≤ n → ∀ ct, 111 ≤ ct → ∀ ex (this : Nat) (y0 : Int32) M, AM l E n ct ex yX12_readExpression fX12_readExpression enU [.ref (ad E this), .int y0] M (rec this y0 M)) (this : Nat) (x2 : Int32) (M : Mem) (hthis : K0 this = (0, 12)) : AW l E fX12_readNot (fun _ => rmN n 0 0) (PQr E 0 0 ct ex enU) ct ex 0 0 94 [(0, .ref (ad E this)), (2, .int x2)] [] M (zX12_readNot_B94 rec this x2 M) := by
  unfold zX12_readNot_B94
  refine AW.iconst (pc := 94) dX12_readNot_94 ci_0 ?_
  refine AW.istore_n (pc := 95) [1, 2, 0] [(0, .ref (ad E this)), (2, .int x2), (3, .int 0)] dX12_readNot_95 rfl (by decide) rfl ?_
  exact kX12_readNot_L96 l E n nr hn ct hct ex rec hnr hrec FU this x2 0 M hthis
set_option maxRecDepth 20000 in
set_option maxHeartbeats 4000000 in
theorem kX12_readNot_B79 (l : Launch) (E : Ev) (n : Nat) (nr : Nat) (hn : nr + 4 ≤ n) (ct : Nat) (hct : 111 ≤ ct) (ex : Bool) (rec : Nat → Int32 → Mem → Option (Unit × Mem)) (hnr : 10 ≤ nr) (hrec : ∀ n, nr ≤ n → ∀ ct, 111 ≤ ct → ∀ ex (this : Nat) (y0 : Int32) M, AM l E n ct ex yX12_readExpression fX12_readExpression enU [.ref (ad E this), .int y0] M (rec this y0 M)) (this : Nat) (x1 : Int32) (x2 : Int32) (s0 : Int32) (M : Mem) (hthis : K0 this = (0, 12)) : AW l E fX12_readNot (fun _ => rmN n 0 0) (PQr E 0 0 ct ex enU) ct ex 0 0 79 [(0, .ref (ad E this)), (1, .int x1), (2, .int x2)] [.int s0] M (zX12_readNot_B79 rec this x1 x2 s0 M) := by
  unfold zX12_readNot_B79
  refine AW.istore_n (pc := 79) [1, 2, 3, 0] [(0, .ref (ad E this)), (1, .int x1), (2, .int x2), (3, .int s0)] dX12_readNot_79 rfl (by decide) rfl ?_
  refine AW.aload_n (pc := 80) dX12_readNot_80 rfl 0 rfl ?_
  refine AW.cV0v (pc := 81) dX12_readNot_81 mlX12_234 mbX12_stepOn rfl hthis (kct hthis rfl hct) (fun _ => okR_N (by omega)) (kX12_stepOn l E (n - 1) (by omega) ct hct ex this M) (Nat.le_of_ble_eq_true rfl) (fun _ M1 => ?_)
  refine AW.aload_n (pc := 84) dX12_readNot_84 rfl 0 rfl ?_
  refine AW.iload_n (pc := 85) dX12_readNot_85 rfl 1 rfl ?_
  refine AW.cV1v (pc := 86) dX12_readNot_86 mlX12_267 mbX12_readSum rfl hthis (kct hthis rfl hct) (fun _ => okR_N (by omega)) (kX12_readSum l E (n - 1) nr rec hnr hrec (by omega) ct hct ex this x1 M1) (Nat.le_of_ble_eq_true rfl) (fun _ M2 => ?_)
  refine AW.aload_n (pc := 89) dX12_readNot_89 rfl 0 rfl ?_
  refine AW.iload_n (pc := 90) dX12_readNot_90 rfl 3 rfl ?_
  refine AW.cV1v (pc := 91) dX12_readNot_91 mlX12_246 mbX12_lay rfl hthis (kct hthis rfl hct) (fun _ => okR_N (by omega)) (kX12_lay l E (n - 1) (by omega) ct hct ex this s0 M2) (Nat.le_of_ble_eq_true rfl) (fun _ M3 => ?_)
  exact AW.sub [0, 2] rfl (kX12_readNot_B94 l E n nr hn ct hct ex rec hnr hrec this x2 M3 hthis)
set_option maxRecDepth 20000 in
set_option maxHeartbeats 4000000 in
theorem kX12_readNot_B63 (l : Launch) (E : Ev) (n : Nat) (nr : Nat) (hn : nr + 4 ≤ n) (ct : Nat) (hct : 111 ≤ ct) (ex : Bool) (rec : Nat → Int32 → Mem → Option (Unit × Mem)) (hnr : 10 ≤ nr) (hrec : ∀ n, nr ≤ n → ∀ ct, 111 ≤ ct → ∀ ex (this : Nat) (y0 : Int32) M, AM l E n ct ex yX12_readExpression fX12_readExpression enU [.ref (ad E this), .int y0] M (rec this y0 M)) (this : Nat) (x1 : Int32) (x2 : Int32) (M : Mem) (hthis : K0 this = (0, 12)) : AW l E fX12_readNot (fun _ => rmN n 0 0) (PQr E 0 0 ct ex enU) ct ex 0 0 63 [(0, .ref (ad E this)), (1, .int x1), (2, .int x2)] [] M (zX12_readNot_B63 rec this x1 x2 M) := by
  unfold zX12_readNot_B63
  refine AW.aload_n (pc := 63) dX12_readNot_63 rfl 0 rfl ?_
  refine AW.bipush (pc := 64) dX12_readNot_64 cb_60 ?_
  refine AW.cV1i (pc := 66) dX12_readNot_66 mlX12_237 mbX12_isMarked rfl hthis (kct hthis rfl hct) (fun _ => okR_N (by omega)) (kX12_isMarked l E (n - 1) (by omega) ct hct ex this 60 M) (Nat.le_of_ble_eq_true rfl) (fun v1 M2 => ?_)
  refine AW.if_eq (pc := 69) 77 dX12_readNot_69 (by decide) (fun h3 => ?_) (fun h3 => ?_)
  · refine AW.bipush (pc := 77) dX12_readNot_77 cb_m25 ?_
    exact kX12_readNot_B79 l E n nr hn ct hct ex rec hnr hrec this x1 x2 (-25) M2 hthis
  · refine AW.bipush (pc := 72) dX12_readNot_72 cb_m24 ?_
    refine AW.goto (pc := 74) 79 dX12_readNot_74 (by decide) ?_
    exact kX12_readNot_B79 l E n nr hn ct hct ex rec hnr hrec this x1 x2 (-24) M2 hthis
set_option maxRecDepth 20000 in
set_option maxHeartbeats 4000000 in
theorem kX12_readNot_B23 (l : Launch) (E : Ev) (n : Nat) (nr : Nat) (hn : nr + 4 ≤ n) (ct : Nat) (hct : 111 ≤ ct) (ex : Bool) (rec : Nat → Int32 → Mem → Option (Unit × Mem)) (hnr : 10 ≤ nr) (hrec : ∀ n, nr ≤ n → ∀ ct, 111 ≤ ct → ∀ ex (this : Nat) (y0 : Int32) M, AM l E n ct ex yX12_readExpression fX12_readExpression enU [.ref (ad E this), .int y0] M (rec this y0 M)) (KK2 : Nat → Int32 → Int32 → Mem → Option (Unit × Mem)) (hKK2 : ∀ (this : Nat) (x1 : Int32) (x2 : Int32) (M : Mem) (_ : K0 this = (0, 12)), AW l E fX12_readNot (fun _ => rmN n 0 0) (PQr E 0 0 ct ex enU) ct ex 0 0 2 [(0, .ref (ad E this)), (1, .int x1), (2, .int x2)] [] M (KK2 this x1 x2 M)) (this : Nat) (x1 : Int32) (x2 : Int32) (M : Mem) (hthis : K0 this = (0, 12)) : AW l E fX12_readNot (fun _ => rmN n 0 0) (PQr E 0 0 ct ex enU) ct ex 0 0 23 [(0, .ref (ad E this)), (1, .int x1), (2, .int x2)] [] M (zX12_readNot_B23 rec KK2 this x1 x2 M) := by
  unfold zX12_readNot_B23
  refine AW.iinc (pc := 23) (w := 2) [1, 2, 0] [(0, .ref (ad E this)), (1, .int x1), (2, .int (x2 + 1))] dX12_readNot_23 rfl (inc_1 _) (by decide) rfl ?_
  refine AW.aload_n (pc := 26) dX12_readNot_26 rfl 0 rfl ?_
  refine AW.getI (pc := 27) dX12_readNot_27 flX12_213 hthis (kct hthis rfl hct) ?_
  refine AW.if_ne (pc := 30) 2 dX12_readNot_30 (by decide) (fun h1 => ?_) (fun h1 => ?_)
  · refine AW.aload_n (pc := 33) dX12_readNot_33 rfl 0 rfl ?_
    refine AW.cV0v (pc := 34) dX12_readNot_34 mlX12_234 mbX12_stepOn rfl hthis (kct hthis rfl hct) (fun _ => okR_N (by omega)) (kX12_stepOn l E (n - 1) (by omega) ct hct ex this M) (Nat.le_of_ble_eq_true rfl) (fun _ M2 => ?_)
    refine AW.goto (pc := 37) 2 dX12_readNot_37 (by decide) ?_
    exact hKK2 this x1 (x2 + 1) M2 hthis
  · exact hKK2 this x1 (x2 + 1) M hthis
set_option maxRecDepth 20000 in
set_option maxHeartbeats 4000000 in
theorem kX12_readNot_B2 (l : Launch) (E : Ev) (n : Nat) (nr : Nat) (hn : nr + 4 ≤ n) (ct : Nat) (hct : 111 ≤ ct) (ex : Bool) (rec : Nat → Int32 → Mem → Option (Unit × Mem)) (hnr : 10 ≤ nr) (hrec : ∀ n, nr ≤ n → ∀ ct, 111 ≤ ct → ∀ ex (this : Nat) (y0 : Int32) M, AM l E n ct ex yX12_readExpression fX12_readExpression enU [.ref (ad E this), .int y0] M (rec this y0 M)) (KK2 : Nat → Int32 → Int32 → Mem → Option (Unit × Mem)) (hKK2 : ∀ (this : Nat) (x1 : Int32) (x2 : Int32) (M : Mem) (_ : K0 this = (0, 12)), AW l E fX12_readNot (fun _ => rmN n 0 0) (PQr E 0 0 ct ex enU) ct ex 0 0 2 [(0, .ref (ad E this)), (1, .int x1), (2, .int x2)] [] M (KK2 this x1 x2 M)) (this : Nat) (x1 : Int32) (x2 : Int32) (M : Mem) (hthis : K0 this = (0, 12)) : AW l E fX12_readNot (fun _ => rmN n 0 0) (PQr E 0 0 ct ex enU) ct ex 0 0 2 [(0, .ref (ad E this)), (1, .int x1), (2, .int x2)] [] M (zX12_readNot_B2 rec KK2 this x1 x2 M) := by
  unfold zX12_readNot_B2
  refine AW.aload_n (pc := 2) dX12_readNot_2 rfl 0 rfl ?_
  refine AW.ldcSW (pc := 3) (i := 33) dX12_readNot_3 rfl ?_
  refine AW.cV1i (pc := 6) dX12_readNot_6 mlX12_227 mbX12_is rfl hthis (kct hthis rfl hct) (fun _ => okR_N (by omega)) (kX12_is l E (n - 1) (by omega) ct hct ex this 1033 M) (Nat.le_of_ble_eq_true rfl) (fun v1 M2 => ?_)
  refine AW.if_eq (pc := 9) 40 dX12_readNot_9 (by decide) (fun h3 => ?_) (fun h3 => ?_)
  · refine AW.aload_n (pc := 40) dX12_readNot_40 rfl 0 rfl ?_
    refine AW.iload_n (pc := 41) dX12_readNot_41 rfl 1 rfl ?_
    refine AW.cV1v (pc := 42) dX12_readNot_42 mlX12_267 mbX12_readSum rfl hthis (kct hthis rfl hct) (fun _ => okR_N (by omega)) (kX12_readSum l E (n - 1) nr rec hnr hrec (by omega) ct hct ex this x1 M2) (Nat.le_of_ble_eq_true rfl) (fun _ M4 => ?_)
    refine AW.aload_n (pc := 45) dX12_readNot_45 rfl 0 rfl ?_
    refine AW.bipush (pc := 46) dX12_readNot_46 cb_60 ?_
    refine AW.cV1i (pc := 48) dX12_readNot_48 mlX12_237 mbX12_isMarked rfl hthis (kct hthis rfl hct) (fun _ => okR_N (by omega)) (kX12_isMarked l E (n - 1) (by omega) ct hct ex this 60 M4) (Nat.le_of_ble_eq_true rfl) (fun v5 M6 => ?_)
    refine AW.if_ne (pc := 51) 63 dX12_readNot_51 (by decide) (fun h7 => ?_) (fun h7 => ?_)
    · refine AW.aload_n (pc := 54) dX12_readNot_54 rfl 0 rfl ?_
      refine AW.bipush (pc := 55) dX12_readNot_55 cb_61 ?_
      refine AW.cV1i (pc := 57) dX12_readNot_57 mlX12_237 mbX12_isMarked rfl hthis (kct hthis rfl hct) (fun _ => okR_N (by omega)) (kX12_isMarked l E (n - 1) (by omega) ct hct ex this 61 M6) (Nat.le_of_ble_eq_true rfl) (fun v8 M9 => ?_)
      refine AW.if_eq (pc := 60) 94 dX12_readNot_60 (by decide) (fun h10 => ?_) (fun h10 => ?_)
      · exact AW.sub [0, 2] rfl (kX12_readNot_B94 l E n nr hn ct hct ex rec hnr hrec this x2 M9 hthis)
      · exact kX12_readNot_B63 l E n nr hn ct hct ex rec hnr hrec this x1 x2 M9 hthis
    · exact kX12_readNot_B63 l E n nr hn ct hct ex rec hnr hrec this x1 x2 M6 hthis
  · refine AW.iload_n (pc := 12) dX12_readNot_12 rfl 2 rfl ?_
    refine AW.bipush (pc := 13) dX12_readNot_13 cb_6 ?_
    refine AW.icmp_ne (pc := 15) 23 dX12_readNot_15 (by decide) (fun h11 => ?_) (fun h11 => ?_)
    · refine AW.aload_n (pc := 18) dX12_readNot_18 rfl 0 rfl ?_
      refine AW.iconst (pc := 19) dX12_readNot_19 ci_2 ?_
      refine AW.cV1v (pc := 20) dX12_readNot_20 mlX12_231 mbX12_wrong rfl hthis (kct hthis rfl hct) (fun _ => okR_N (by omega)) (kX12_wrong l E (n - 1) (by omega) ct hct ex this 2 M2) (Nat.le_of_ble_eq_true rfl) (fun _ M12 => ?_)
      exact kX12_readNot_B23 l E n nr hn ct hct ex rec hnr hrec KK2 hKK2 this x1 x2 M12 hthis
    · exact kX12_readNot_B23 l E n nr hn ct hct ex rec hnr hrec KK2 hKK2 this x1 x2 M2 hthis
set_option maxRecDepth 20000 in
set_option maxHeartbeats 4000000 in
theorem kX12_readNot_L2 (l : Launch) (E : Ev) (n : Nat) (nr : Nat) (hn : nr + 4 ≤ n) (ct : Nat) (hct : 111 ≤ ct) (ex : Bool) (rec : Nat → Int32 → Mem → Option (Unit × Mem)) (hnr : 10 ≤ nr) (hrec : ∀ n, nr ≤ n → ∀ ct, 111 ≤ ct → ∀ ex (this : Nat) (y0 : Int32) M, AM l E n ct ex yX12_readExpression fX12_readExpression enU [.ref (ad E this), .int y0] M (rec this y0 M)) (k : Nat) : ∀ (this : Nat) (x1 : Int32) (x2 : Int32) (M : Mem) (_ : K0 this = (0, 12)), AW l E fX12_readNot (fun _ => rmN n 0 0) (PQr E 0 0 ct ex enU) ct ex 0 0 2 [(0, .ref (ad E this)), (1, .int x1), (2, .int x2)] [] M (zX12_readNot_L2 rec k this x1 x2 M) := by
  induction k with
  | zero => intro this x1 x2 M _; exact AW.none
  | succ k ih =>
    intro this x1 x2 M hthis
    exact kX12_readNot_B2 l E n nr hn ct hct ex rec hnr hrec (zX12_readNot_L2 rec k) ih this x1 x2 M hthis
set_option maxRecDepth 20000 in
set_option maxHeartbeats 4000000 in
theorem kX12_readNot (l : Launch) (E : Ev) (n : Nat) (nr : Nat) (rec : Nat → Int32 → Mem → Option (Unit × Mem)) (hnr : 10 ≤ nr) (hrec : ∀ n, nr ≤ n → ∀ ct, 111 ≤ ct → ∀ ex (this : Nat) (y0 : Int32) M, AM l E n ct ex yX12_readExpression fX12_readExpression enU [.ref (ad E this), .int y0] M (rec this y0 M)) (hn : nr + 4 ≤ n) (ct : Nat) (hct : 111 ≤ ct) (ex : Bool) (this : Nat) (x1 : Int32) (M : Mem) : AM l E n ct ex yX12_readNot fX12_readNot enU [.ref (ad E this), .int x1] M (zX12_readNot rec this x1 M) := by
  unfold zX12_readNot
  refine AM.of (by decide +kernel) ⟨rfl, rfl, rfl⟩ (Nat.le_of_ble_eq_true rfl) ?_
  refine AW.chk (fun hthis => ?_)
  refine AW.iconst (pc := 0) dX12_readNot_0 ci_0 ?_
  refine AW.istore_n (pc := 1) [1, 2, 0] [(0, .ref (ad E this)), (1, .int x1), (2, .int 0)] dX12_readNot_1 rfl (by decide) rfl ?_
  exact kX12_readNot_L2 l E n nr hn ct hct ex rec hnr hrec FU this x1 0 M hthis
-- GateBoxModel.readAnd(I)V
def zX12_readAnd_B5 (rec : Nat → Int32 → Mem → Option (Unit × Mem)) (KK5 : Nat → Int32 → Mem → Option (Unit × Mem)) (this : Nat) (x1 : Int32) (M : Mem) : Option (Unit × Mem) :=
  bnd (zX12_is this 1034 M) fun v1 M2 =>
  if v1 = 0 then
    some ((), M2)
  else
    bnd (zX12_stepOn this M2) fun _ M4 =>
    bnd (zX12_readNot rec this x1 M4) fun _ M5 =>
    bnd (zX12_lay this (-26) M5) fun _ M6 =>
    KK5 this x1 M6
def zX12_readAnd_L5 (rec : Nat → Int32 → Mem → Option (Unit × Mem)) : Nat → Nat → Int32 → Mem → Option (Unit × Mem)
  | 0 => fun _ _ _ => none
  | k + 1 => zX12_readAnd_B5 rec (zX12_readAnd_L5 rec k)
def zX12_readAnd (rec : Nat → Int32 → Mem → Option (Unit × Mem)) (this : Nat) (x1 : Int32) (M : Mem) : Option (Unit × Mem) :=
  if K0 this = (0, 12) then
  bnd (zX12_readNot rec this x1 M) fun _ M1 =>
  zX12_readAnd_L5 rec FU this x1 M1
  else none
set_option maxRecDepth 20000 in
set_option maxHeartbeats 4000000 in
theorem kX12_readAnd_B5 (l : Launch) (E : Ev) (n : Nat) (nr : Nat) (hn : nr + 5 ≤ n) (ct : Nat) (hct : 111 ≤ ct) (ex : Bool) (rec : Nat → Int32 → Mem → Option (Unit × Mem)) (hnr : 10 ≤ nr) (hrec : ∀ n, nr ≤ n → ∀ ct, 111 ≤ ct → ∀ ex (this : Nat) (y0 : Int32) M, AM l E n ct ex yX12_readExpression fX12_readExpression enU [.ref (ad E this), .int y0] M (rec this y0 M)) (KK5 : Nat → Int32 → Mem → Option (Unit × Mem)) (hKK5 : ∀ (this : Nat) (x1 : Int32) (M : Mem) (_ : K0 this = (0, 12)), AW l E fX12_readAnd (fun _ => rmN n 0 0) (PQr E 0 0 ct ex enU) ct ex 0 0 5 [(0, .ref (ad E this)), (1, .int x1)] [] M (KK5 this x1 M)) (this : Nat) (x1 : Int32) (M : Mem) (hthis : K0 this = (0, 12)) : AW l E fX12_readAnd (fun _ => rmN n 0 0) (PQr E 0 0 ct ex enU) ct ex 0 0 5 [(0, .ref (ad E this)), (1, .int x1)] [] M (zX12_readAnd_B5 rec KK5 this x1 M) := by
  unfold zX12_readAnd_B5
  refine AW.aload_n (pc := 5) dX12_readAnd_5 rfl 0 rfl ?_
  refine AW.ldcSW (pc := 6) (i := 34) dX12_readAnd_6 rfl ?_
  refine AW.cV1i (pc := 9) dX12_readAnd_9 mlX12_227 mbX12_is rfl hthis (kct hthis rfl hct) (fun _ => okR_N (by omega)) (kX12_is l E (n - 1) (by omega) ct hct ex this 1034 M) (Nat.le_of_ble_eq_true rfl) (fun v1 M2 => ?_)
  refine AW.if_eq (pc := 12) 33 dX12_readAnd_12 (by decide) (fun h3 => ?_) (fun h3 => ?_)
  · exact AW.vret (pc := 33) dX12_readAnd_33 rfl (fun _ _ _ => rfl) (Nat.le_refl _) (Nat.le_refl _)
  · refine AW.aload_n (pc := 15) dX12_readAnd_15 rfl 0 rfl ?_
    refine AW.cV0v (pc := 16) dX12_readAnd_16 mlX12_234 mbX12_stepOn rfl hthis (kct hthis rfl hct) (fun _ => okR_N (by omega)) (kX12_stepOn l E (n - 1) (by omega) ct hct ex this M2) (Nat.le_of_ble_eq_true rfl) (fun _ M4 => ?_)
    refine AW.aload_n (pc := 19) dX12_readAnd_19 rfl 0 rfl ?_
    refine AW.iload_n (pc := 20) dX12_readAnd_20 rfl 1 rfl ?_
    refine AW.cV1v (pc := 21) dX12_readAnd_21 mlX12_270 mbX12_readNot rfl hthis (kct hthis rfl hct) (fun _ => okR_N (by omega)) (kX12_readNot l E (n - 1) nr rec hnr hrec (by omega) ct hct ex this x1 M4) (Nat.le_of_ble_eq_true rfl) (fun _ M5 => ?_)
    refine AW.aload_n (pc := 24) dX12_readAnd_24 rfl 0 rfl ?_
    refine AW.bipush (pc := 25) dX12_readAnd_25 cb_m26 ?_
    refine AW.cV1v (pc := 27) dX12_readAnd_27 mlX12_246 mbX12_lay rfl hthis (kct hthis rfl hct) (fun _ => okR_N (by omega)) (kX12_lay l E (n - 1) (by omega) ct hct ex this (-26) M5) (Nat.le_of_ble_eq_true rfl) (fun _ M6 => ?_)
    refine AW.goto (pc := 30) 5 dX12_readAnd_30 (by decide) ?_
    exact hKK5 this x1 M6 hthis
set_option maxRecDepth 20000 in
set_option maxHeartbeats 4000000 in
theorem kX12_readAnd_L5 (l : Launch) (E : Ev) (n : Nat) (nr : Nat) (hn : nr + 5 ≤ n) (ct : Nat) (hct : 111 ≤ ct) (ex : Bool) (rec : Nat → Int32 → Mem → Option (Unit × Mem)) (hnr : 10 ≤ nr) (hrec : ∀ n, nr ≤ n → ∀ ct, 111 ≤ ct → ∀ ex (this : Nat) (y0 : Int32) M, AM l E n ct ex yX12_readExpression fX12_readExpression enU [.ref (ad E this), .int y0] M (rec this y0 M)) (k : Nat) : ∀ (this : Nat) (x1 : Int32) (M : Mem) (_ : K0 this = (0, 12)), AW l E fX12_readAnd (fun _ => rmN n 0 0) (PQr E 0 0 ct ex enU) ct ex 0 0 5 [(0, .ref (ad E this)), (1, .int x1)] [] M (zX12_readAnd_L5 rec k this x1 M) := by
  induction k with
  | zero => intro this x1 M _; exact AW.none
  | succ k ih =>
    intro this x1 M hthis
    exact kX12_readAnd_B5 l E n nr hn ct hct ex rec hnr hrec (zX12_readAnd_L5 rec k) ih this x1 M hthis
set_option maxRecDepth 20000 in
set_option maxHeartbeats 4000000 in
theorem kX12_readAnd (l : Launch) (E : Ev) (n : Nat) (nr : Nat) (rec : Nat → Int32 → Mem → Option (Unit × Mem)) (hnr : 10 ≤ nr) (hrec : ∀ n, nr ≤ n → ∀ ct, 111 ≤ ct → ∀ ex (this : Nat) (y0 : Int32) M, AM l E n ct ex yX12_readExpression fX12_readExpression enU [.ref (ad E this), .int y0] M (rec this y0 M)) (hn : nr + 5 ≤ n) (ct : Nat) (hct : 111 ≤ ct) (ex : Bool) (this : Nat) (x1 : Int32) (M : Mem) : AM l E n ct ex yX12_readAnd fX12_readAnd enU [.ref (ad E this), .int x1] M (zX12_readAnd rec this x1 M) := by
  unfold zX12_readAnd
  refine AM.of (by decide +kernel) ⟨rfl, rfl, rfl⟩ (Nat.le_of_ble_eq_true rfl) ?_
  refine AW.chk (fun hthis => ?_)
  refine AW.aload_n (pc := 0) dX12_readAnd_0 rfl 0 rfl ?_
  refine AW.iload_n (pc := 1) dX12_readAnd_1 rfl 1 rfl ?_
  refine AW.cV1v (pc := 2) dX12_readAnd_2 mlX12_270 mbX12_readNot rfl hthis (kct hthis rfl hct) (fun _ => okR_N (by omega)) (kX12_readNot l E (n - 1) nr rec hnr hrec (by omega) ct hct ex this x1 M) (Nat.le_of_ble_eq_true rfl) (fun _ M1 => ?_)
  exact kX12_readAnd_L5 l E n nr hn ct hct ex rec hnr hrec FU this x1 M1 hthis
-- GateBoxModel.readExpression(I)V
def zX12_readExpression_B67 (rec : Nat → Int32 → Mem → Option (Unit × Mem)) (KK67 : Nat → Int32 → Mem → Option (Unit × Mem)) (this : Nat) (x1 : Int32) (M : Mem) : Option (Unit × Mem) :=
  bnd (zX12_is this 1035 M) fun v1 M2 =>
  if v1 = 0 then
    some ((), M2)
  else
    bnd (zX12_stepOn this M2) fun _ M4 =>
    bnd (zX12_readAnd rec this x1 M4) fun _ M5 =>
    bnd (zX12_lay this (-27) M5) fun _ M6 =>
    KK67 this x1 M6
def zX12_readExpression_L67 (rec : Nat → Int32 → Mem → Option (Unit × Mem)) : Nat → Nat → Int32 → Mem → Option (Unit × Mem)
  | 0 => fun _ _ _ => none
  | k + 1 => zX12_readExpression_B67 rec (zX12_readExpression_L67 rec k)
def zX12_readExpression_B62 (rec : Nat → Int32 → Mem → Option (Unit × Mem)) (this : Nat) (x1 : Int32) (M : Mem) : Option (Unit × Mem) :=
  bnd (zX12_readAnd rec this x1 M) fun _ M1 =>
  zX12_readExpression_L67 rec FU this x1 M1
def zX12_readExpression_B38 (rec : Nat → Int32 → Mem → Option (Unit × Mem)) (this : Nat) (x1 : Int32) (s0 : Int32) (M : Mem) : Option (Unit × Mem) :=
  if s0 = 0 then
    bnd (zX12_wrong this 1 M) fun _ M2 =>
    zX12_readExpression_B62 rec this x1 M2
  else
    if x1 = 6 then
      bnd (zX12_wrong this 2 M) fun _ M4 =>
      zX12_readExpression_B62 rec this x1 M4
    else
      zX12_readExpression_B62 rec this x1 M
def zX12_readExpression_B33 (rec : Nat → Int32 → Mem → Option (Unit × Mem)) (this : Nat) (x1 : Int32) (M : Mem) : Option (Unit × Mem) :=
  zX12_readExpression_B38 rec this x1 1 M
def zX12_readExpression_R (rec : Nat → Int32 → Mem → Option (Unit × Mem)) (this : Nat) (x1 : Int32) (M : Mem) : Option (Unit × Mem) :=
  if K0 this = (0, 12) then
  if (mI M this 27) = 0 then
    if (mI M this 23) = 2 then
      zX12_readExpression_B33 rec this x1 M
    else
      if (mI M this 23) = 1 then
        zX12_readExpression_B33 rec this x1 M
      else
        bnd (zX12_isMarked this 40 M) fun v4 M5 =>
        if v4 = 0 then
          zX12_readExpression_B38 rec this x1 0 M5
        else
          zX12_readExpression_B33 rec this x1 M5
  else
    some ((), M)
  else none
def zX12_readExpression : Nat → Nat → Int32 → Mem → Option (Unit × Mem)
  | 0 => fun _ _ _ => none
  | k + 1 => zX12_readExpression_R (zX12_readExpression k)
set_option maxRecDepth 20000 in
set_option maxHeartbeats 4000000 in
theorem kX12_readExpression_B67 (l : Launch) (E : Ev) (n : Nat) (nr : Nat) (hn : nr + 6 ≤ n) (ct : Nat) (hct : 111 ≤ ct) (ex : Bool) (rec : Nat → Int32 → Mem → Option (Unit × Mem)) (hnr : 10 ≤ nr) (hrec : ∀ n, nr ≤ n → ∀ ct, 111 ≤ ct → ∀ ex (this : Nat) (y0 : Int32) M, AM l E n ct ex yX12_readExpression fX12_readExpression enU [.ref (ad E this), .int y0] M (rec this y0 M)) (KK67 : Nat → Int32 → Mem → Option (Unit × Mem)) (hKK67 : ∀ (this : Nat) (x1 : Int32) (M : Mem) (_ : K0 this = (0, 12)), AW l E fX12_readExpression (fun _ => rmN n 0 0) (PQr E 0 0 ct ex enU) ct ex 0 0 67 [(0, .ref (ad E this)), (1, .int x1)] [] M (KK67 this x1 M)) (this : Nat) (x1 : Int32) (M : Mem) (hthis : K0 this = (0, 12)) : AW l E fX12_readExpression (fun _ => rmN n 0 0) (PQr E 0 0 ct ex enU) ct ex 0 0 67 [(0, .ref (ad E this)), (1, .int x1)] [] M (zX12_readExpression_B67 rec KK67 this x1 M) := by
  unfold zX12_readExpression_B67
  refine AW.aload_n (pc := 67) dX12_readExpression_67 rfl 0 rfl ?_
  refine AW.ldcSW (pc := 68) (i := 35) dX12_readExpression_68 rfl ?_
  refine AW.cV1i (pc := 71) dX12_readExpression_71 mlX12_227 mbX12_is rfl hthis (kct hthis rfl hct) (fun _ => okR_N (by omega)) (kX12_is l E (n - 1) (by omega) ct hct ex this 1035 M) (Nat.le_of_ble_eq_true rfl) (fun v1 M2 => ?_)
  refine AW.if_eq (pc := 74) 95 dX12_readExpression_74 (by decide) (fun h3 => ?_) (fun h3 => ?_)
  · exact AW.vret (pc := 95) dX12_readExpression_95 rfl (fun _ _ _ => rfl) (Nat.le_refl _) (Nat.le_refl _)
  · refine AW.aload_n (pc := 77) dX12_readExpression_77 rfl 0 rfl ?_
    refine AW.cV0v (pc := 78) dX12_readExpression_78 mlX12_234 mbX12_stepOn rfl hthis (kct hthis rfl hct) (fun _ => okR_N (by omega)) (kX12_stepOn l E (n - 1) (by omega) ct hct ex this M2) (Nat.le_of_ble_eq_true rfl) (fun _ M4 => ?_)
    refine AW.aload_n (pc := 81) dX12_readExpression_81 rfl 0 rfl ?_
    refine AW.iload_n (pc := 82) dX12_readExpression_82 rfl 1 rfl ?_
    refine AW.cV1v (pc := 83) dX12_readExpression_83 mlX12_275 mbX12_readAnd rfl hthis (kct hthis rfl hct) (fun _ => okR_N (by omega)) (kX12_readAnd l E (n - 1) nr rec hnr hrec (by omega) ct hct ex this x1 M4) (Nat.le_of_ble_eq_true rfl) (fun _ M5 => ?_)
    refine AW.aload_n (pc := 86) dX12_readExpression_86 rfl 0 rfl ?_
    refine AW.bipush (pc := 87) dX12_readExpression_87 cb_m27 ?_
    refine AW.cV1v (pc := 89) dX12_readExpression_89 mlX12_246 mbX12_lay rfl hthis (kct hthis rfl hct) (fun _ => okR_N (by omega)) (kX12_lay l E (n - 1) (by omega) ct hct ex this (-27) M5) (Nat.le_of_ble_eq_true rfl) (fun _ M6 => ?_)
    refine AW.goto (pc := 92) 67 dX12_readExpression_92 (by decide) ?_
    exact hKK67 this x1 M6 hthis
set_option maxRecDepth 20000 in
set_option maxHeartbeats 4000000 in
theorem kX12_readExpression_L67 (l : Launch) (E : Ev) (n : Nat) (nr : Nat) (hn : nr + 6 ≤ n) (ct : Nat) (hct : 111 ≤ ct) (ex : Bool) (rec : Nat → Int32 → Mem → Option (Unit × Mem)) (hnr : 10 ≤ nr) (hrec : ∀ n, nr ≤ n → ∀ ct, 111 ≤ ct → ∀ ex (this : Nat) (y0 : Int32) M, AM l E n ct ex yX12_readExpression fX12_readExpression enU [.ref (ad E this), .int y0] M (rec this y0 M)) (k : Nat) : ∀ (this : Nat) (x1 : Int32) (M : Mem) (_ : K0 this = (0, 12)), AW l E fX12_readExpression (fun _ => rmN n 0 0) (PQr E 0 0 ct ex enU) ct ex 0 0 67 [(0, .ref (ad E this)), (1, .int x1)] [] M (zX12_readExpression_L67 rec k this x1 M) := by
  induction k with
  | zero => intro this x1 M _; exact AW.none
  | succ k ih =>
    intro this x1 M hthis
    exact kX12_readExpression_B67 l E n nr hn ct hct ex rec hnr hrec (zX12_readExpression_L67 rec k) ih this x1 M hthis
set_option maxRecDepth 20000 in
set_option maxHeartbeats 4000000 in
theorem kX12_readExpression_B62 (l : Launch) (E : Ev) (n : Nat) (nr : Nat) (hn : nr + 6 ≤ n) (ct : Nat) (hct : 111 ≤ ct) (ex : Bool) (rec : Nat → Int32 → Mem → Option (Unit × Mem)) (hnr : 10 ≤ nr) (hrec : ∀ n, nr ≤ n → ∀ ct, 111 ≤ ct → ∀ ex (this : Nat) (y0 : Int32) M, AM l E n ct ex yX12_readExpression fX12_readExpression enU [.ref (ad E this), .int y0] M (rec this y0 M)) (this : Nat) (x1 : Int32) (M : Mem) (hthis : K0 this = (0, 12)) : AW l E fX12_readExpression (fun _ => rmN n 0 0) (PQr E 0 0 ct ex enU) ct ex 0 0 62 [(0, .ref (ad E this)), (1, .int x1)] [] M (zX12_readExpression_B62 rec this x1 M) := by
  unfold zX12_readExpression_B62
  refine AW.aload_n (pc := 62) dX12_readExpression_62 rfl 0 rfl ?_
  refine AW.iload_n (pc := 63) dX12_readExpression_63 rfl 1 rfl ?_
  refine AW.cV1v (pc := 64) dX12_readExpression_64 mlX12_275 mbX12_readAnd rfl hthis (kct hthis rfl hct) (fun _ => okR_N (by omega)) (kX12_readAnd l E (n - 1) nr rec hnr hrec (by omega) ct hct ex this x1 M) (Nat.le_of_ble_eq_true rfl) (fun _ M1 => ?_)
  exact kX12_readExpression_L67 l E n nr hn ct hct ex rec hnr hrec FU this x1 M1 hthis
set_option maxRecDepth 20000 in
set_option maxHeartbeats 4000000 in
theorem kX12_readExpression_B38 (l : Launch) (E : Ev) (n : Nat) (nr : Nat) (hn : nr + 6 ≤ n) (ct : Nat) (hct : 111 ≤ ct) (ex : Bool) (rec : Nat → Int32 → Mem → Option (Unit × Mem)) (hnr : 10 ≤ nr) (hrec : ∀ n, nr ≤ n → ∀ ct, 111 ≤ ct → ∀ ex (this : Nat) (y0 : Int32) M, AM l E n ct ex yX12_readExpression fX12_readExpression enU [.ref (ad E this), .int y0] M (rec this y0 M)) (this : Nat) (x1 : Int32) (s0 : Int32) (M : Mem) (hthis : K0 this = (0, 12)) : AW l E fX12_readExpression (fun _ => rmN n 0 0) (PQr E 0 0 ct ex enU) ct ex 0 0 38 [(0, .ref (ad E this)), (1, .int x1)] [.int s0] M (zX12_readExpression_B38 rec this x1 s0 M) := by
  unfold zX12_readExpression_B38
  refine AW.istore_n (pc := 38) [1, 2, 0] [(0, .ref (ad E this)), (1, .int x1), (2, .int s0)] dX12_readExpression_38 rfl (by decide) rfl ?_
  refine AW.iload_n (pc := 39) dX12_readExpression_39 rfl 2 rfl ?_
  refine AW.if_ne (pc := 40) 51 dX12_readExpression_40 (by decide) (fun h1 => ?_) (fun h1 => ?_)
  · refine AW.aload_n (pc := 43) dX12_readExpression_43 rfl 0 rfl ?_
    refine AW.iconst (pc := 44) dX12_readExpression_44 ci_1 ?_
    refine AW.cV1v (pc := 45) dX12_readExpression_45 mlX12_231 mbX12_wrong rfl hthis (kct hthis rfl hct) (fun _ => okR_N (by omega)) (kX12_wrong l E (n - 1) (by omega) ct hct ex this 1 M) (Nat.le_of_ble_eq_true rfl) (fun _ M2 => ?_)
    refine AW.goto (pc := 48) 62 dX12_readExpression_48 (by decide) ?_
    exact AW.sub [0, 1] rfl (kX12_readExpression_B62 l E n nr hn ct hct ex rec hnr hrec this x1 M2 hthis)
  · refine AW.iload_n (pc := 51) dX12_readExpression_51 rfl 1 rfl ?_
    refine AW.bipush (pc := 52) dX12_readExpression_52 cb_6 ?_
    refine AW.icmp_ne (pc := 54) 62 dX12_readExpression_54 (by decide) (fun h3 => ?_) (fun h3 => ?_)
    · refine AW.aload_n (pc := 57) dX12_readExpression_57 rfl 0 rfl ?_
      refine AW.iconst (pc := 58) dX12_readExpression_58 ci_2 ?_
      refine AW.cV1v (pc := 59) dX12_readExpression_59 mlX12_231 mbX12_wrong rfl hthis (kct hthis rfl hct) (fun _ => okR_N (by omega)) (kX12_wrong l E (n - 1) (by omega) ct hct ex this 2 M) (Nat.le_of_ble_eq_true rfl) (fun _ M4 => ?_)
      exact AW.sub [0, 1] rfl (kX12_readExpression_B62 l E n nr hn ct hct ex rec hnr hrec this x1 M4 hthis)
    · exact AW.sub [0, 1] rfl (kX12_readExpression_B62 l E n nr hn ct hct ex rec hnr hrec this x1 M hthis)
set_option maxRecDepth 20000 in
set_option maxHeartbeats 4000000 in
theorem kX12_readExpression_B33 (l : Launch) (E : Ev) (n : Nat) (nr : Nat) (hn : nr + 6 ≤ n) (ct : Nat) (hct : 111 ≤ ct) (ex : Bool) (rec : Nat → Int32 → Mem → Option (Unit × Mem)) (hnr : 10 ≤ nr) (hrec : ∀ n, nr ≤ n → ∀ ct, 111 ≤ ct → ∀ ex (this : Nat) (y0 : Int32) M, AM l E n ct ex yX12_readExpression fX12_readExpression enU [.ref (ad E this), .int y0] M (rec this y0 M)) (this : Nat) (x1 : Int32) (M : Mem) (hthis : K0 this = (0, 12)) : AW l E fX12_readExpression (fun _ => rmN n 0 0) (PQr E 0 0 ct ex enU) ct ex 0 0 33 [(0, .ref (ad E this)), (1, .int x1)] [] M (zX12_readExpression_B33 rec this x1 M) := by
  unfold zX12_readExpression_B33
  refine AW.iconst (pc := 33) dX12_readExpression_33 ci_1 ?_
  refine AW.goto (pc := 34) 38 dX12_readExpression_34 (by decide) ?_
  exact kX12_readExpression_B38 l E n nr hn ct hct ex rec hnr hrec this x1 1 M hthis
set_option maxRecDepth 20000 in
set_option maxHeartbeats 4000000 in
theorem kX12_readExpression_R (l : Launch) (E : Ev) (n : Nat) (nr : Nat) (rec : Nat → Int32 → Mem → Option (Unit × Mem)) (hnr : 10 ≤ nr) (hrec : ∀ n, nr ≤ n → ∀ ct, 111 ≤ ct → ∀ ex (this : Nat) (y0 : Int32) M, AM l E n ct ex yX12_readExpression fX12_readExpression enU [.ref (ad E this), .int y0] M (rec this y0 M)) (hn : nr + 6 ≤ n) (ct : Nat) (hct : 111 ≤ ct) (ex : Bool) (this : Nat) (x1 : Int32) (M : Mem) : AM l E n ct ex yX12_readExpression fX12_readExpression enU [.ref (ad E this), .int x1] M (zX12_readExpression_R rec this x1 M) := by
  unfold zX12_readExpression_R
  refine AM.of (by decide +kernel) ⟨rfl, rfl, rfl⟩ (Nat.le_of_ble_eq_true rfl) ?_
  refine AW.chk (fun hthis => ?_)
  refine AW.aload_n (pc := 0) dX12_readExpression_0 rfl 0 rfl ?_
  refine AW.getI (pc := 1) dX12_readExpression_1 flX12_213 hthis (kct hthis rfl hct) ?_
  refine AW.if_eq (pc := 4) 8 dX12_readExpression_4 (by decide) (fun h1 => ?_) (fun h1 => ?_)
  · refine AW.aload_n (pc := 8) dX12_readExpression_8 rfl 0 rfl ?_
    refine AW.getI (pc := 9) dX12_readExpression_9 flX12_189 hthis (kct hthis rfl hct) ?_
    refine AW.iconst (pc := 12) dX12_readExpression_12 ci_2 ?_
    refine AW.icmp_eq (pc := 13) 33 dX12_readExpression_13 (by decide) (fun h2 => ?_) (fun h2 => ?_)
    · exact kX12_readExpression_B33 l E n nr hn ct hct ex rec hnr hrec this x1 M hthis
    · refine AW.aload_n (pc := 16) dX12_readExpression_16 rfl 0 rfl ?_
      refine AW.getI (pc := 17) dX12_readExpression_17 flX12_189 hthis (kct hthis rfl hct) ?_
      refine AW.iconst (pc := 20) dX12_readExpression_20 ci_1 ?_
      refine AW.icmp_eq (pc := 21) 33 dX12_readExpression_21 (by decide) (fun h3 => ?_) (fun h3 => ?_)
      · exact kX12_readExpression_B33 l E n nr hn ct hct ex rec hnr hrec this x1 M hthis
      · refine AW.aload_n (pc := 24) dX12_readExpression_24 rfl 0 rfl ?_
        refine AW.bipush (pc := 25) dX12_readExpression_25 cb_40 ?_
        refine AW.cV1i (pc := 27) dX12_readExpression_27 mlX12_237 mbX12_isMarked rfl hthis (kct hthis rfl hct) (fun _ => okR_N (by omega)) (kX12_isMarked l E (n - 1) (by omega) ct hct ex this 40 M) (Nat.le_of_ble_eq_true rfl) (fun v4 M5 => ?_)
        refine AW.if_eq (pc := 30) 37 dX12_readExpression_30 (by decide) (fun h6 => ?_) (fun h6 => ?_)
        · refine AW.iconst (pc := 37) dX12_readExpression_37 ci_0 ?_
          exact kX12_readExpression_B38 l E n nr hn ct hct ex rec hnr hrec this x1 0 M5 hthis
        · exact kX12_readExpression_B33 l E n nr hn ct hct ex rec hnr hrec this x1 M5 hthis
  · exact AW.vret (pc := 7) dX12_readExpression_7 rfl (fun _ _ _ => rfl) (Nat.le_refl _) (Nat.le_refl _)
set_option maxRecDepth 20000 in
set_option maxHeartbeats 4000000 in
theorem kX12_readExpression (l : Launch) (E : Ev) (k : Nat) : ∀ (n : Nat) (_ : 10 + 6 * k ≤ n) (ct : Nat) (_ : 111 ≤ ct) (ex : Bool) (this : Nat) (x1 : Int32) (M : Mem), AM l E n ct ex yX12_readExpression fX12_readExpression enU [.ref (ad E this), .int x1] M (zX12_readExpression k this x1 M) := by
  induction k with
  | zero => intro n _ ct _ ex this x1 M x M9 hF; cases hF
  | succ k ih =>
    intro n hn ct hct ex this x1 M
    exact kX12_readExpression_R l E n (10 + 6 * k) (zX12_readExpression k) (by omega) (fun n9 h9 ct9 h8 ex9 this x1 M9 => ih n9 h9 ct9 h8 ex9 this x1 M9) (by omega) ct hct ex this x1 M
-- GateBoxModel.readSort()V
def zX12_readSort (this : Nat) (M : Mem) : Option (Unit × Mem) :=
  if K0 this = (0, 12) then
  if mR M this 3 ≠ 0 then
  if (K0 (mR M this 3)).1 = 1 ∧ inb 2 (K0 (mR M this 3)).2 = true then
  lt (16 + (mI M (mR M this 3) (Int32.toNatClampNeg 2))) fun v3 =>
  if mR M this 5 ≠ 0 then
  bnd (zX12_readNumber this 1 99 M) fun v5 M6 =>
  if (K0 (mR M this 5)).1 = 1 ∧ inb v3 (K0 (mR M this 5)).2 = true then
  lt (sI M6 (mR M this 5) (Int32.toNatClampNeg v3) v5) fun M8 =>
  bnd (zX12_word this 1027 M8) fun _ M9 =>
  if mR M9 this 6 ≠ 0 then
  bnd (zX12_readNumber this 0 99 M9) fun v11 M12 =>
  if (K0 (mR M9 this 6)).1 = 1 ∧ inb v3 (K0 (mR M9 this 6)).2 = true then
  lt (sI M12 (mR M9 this 6) (Int32.toNatClampNeg v3) v11) fun M14 =>
  bnd (zX12_word this 1028 M14) fun _ M15 =>
  if mR M15 this 7 ≠ 0 then
  bnd (zX12_readNumber this 0 9 M15) fun v17 M18 =>
  if (K0 (mR M15 this 7)).1 = 1 ∧ inb v3 (K0 (mR M15 this 7)).2 = true then
  lt (sI M18 (mR M15 this 7) (Int32.toNatClampNeg v3) v17) fun M20 =>
  bnd (zX12_word this 1032 M20) fun _ M21 =>
  if mR M21 this 8 ≠ 0 then
  if (K0 (mR M21 this 8)).1 = 1 ∧ inb v3 (K0 (mR M21 this 8)).2 = true then
  lt (sI M21 (mR M21 this 8) (Int32.toNatClampNeg v3) (mI M21 this 30)) fun M24 =>
  bnd (zX12_readExpression RD this 0 M24) fun _ M25 =>
  if mR M25 this 9 ≠ 0 then
  if (K0 (mR M25 this 9)).1 = 1 ∧ inb v3 (K0 (mR M25 this 9)).2 = true then
  lt (sI M25 (mR M25 this 9) (Int32.toNatClampNeg v3) (mI M25 this 30)) fun M28 =>
  if mR M28 this 3 ≠ 0 then
  if (K0 (mR M28 this 3)).1 = 1 ∧ inb 2 (K0 (mR M28 this 3)).2 = true then
  if inb 2 (K0 (mR M28 this 3)).2 = true then
  lt (sI M28 (mR M28 this 3) (Int32.toNatClampNeg 2) ((mI M28 (mR M28 this 3) (Int32.toNatClampNeg 2)) + 1)) fun M32 =>
  some ((), M32)
  else none
  else none
  else none
  else none
  else none
  else none
  else none
  else none
  else none
  else none
  else none
  else none
  else none
  else none
  else none
  else none
set_option maxRecDepth 20000 in
set_option maxHeartbeats 4000000 in
theorem kX12_readSort (l : Launch) (E : Ev) (n : Nat) (hn : 83 ≤ n) (ct : Nat) (hct : 111 ≤ ct) (ex : Bool) (this : Nat) (M : Mem) : AM l E n ct ex yX12_readSort fX12_readSort enU [.ref (ad E this)] M (zX12_readSort this M) := by
  unfold zX12_readSort
  refine AM.of (by decide +kernel) ⟨rfl, rfl, rfl⟩ (Nat.le_of_ble_eq_true rfl) ?_
  refine AW.chk (fun hthis => ?_)
  refine AW.bipush (pc := 0) dX12_readSort_0 cb_16 ?_
  refine AW.aload_n (pc := 2) dX12_readSort_2 rfl 0 rfl ?_
  refine AW.chk (fun g1 => ?_)
  refine AW.getR (pc := 3) dX12_readSort_3 flX12_42 hthis (kct hthis rfl hct) g1 ?_
  refine AW.iconst (pc := 6) dX12_readSort_6 ci_2 ?_
  refine AW.chk (fun g2 => ?_)
  refine AW.iald (pc := 7) dX12_readSort_7 (k0e g2.1) (kct (k0e g2.1) rfl hct) g2.2 ?_
  refine AW.iadd (pc := 8) dX12_readSort_8 ?_
  refine AW.genI (fun v3 => ?_)
  refine AW.istore_n (pc := 9) [1, 0] [(0, .ref (ad E this)), (1, .int v3)] dX12_readSort_9 rfl (by decide) rfl ?_
  refine AW.aload_n (pc := 10) dX12_readSort_10 rfl 0 rfl ?_
  refine AW.chk (fun g4 => ?_)
  refine AW.getR (pc := 11) dX12_readSort_11 flX12_49 hthis (kct hthis rfl hct) g4 ?_
  refine AW.iload_n (pc := 14) dX12_readSort_14 rfl 1 rfl ?_
  refine AW.aload_n (pc := 15) dX12_readSort_15 rfl 0 rfl ?_
  refine AW.iconst (pc := 16) dX12_readSort_16 ci_1 ?_
  refine AW.bipush (pc := 17) dX12_readSort_17 cb_99 ?_
  refine AW.cV2i (pc := 19) dX12_readSort_19 mlX12_243 mbX12_readNumber rfl hthis (kct hthis rfl hct) (fun _ => okR_N (by omega)) (kX12_readNumber l E (n - 1) (by omega) ct hct ex this 1 99 M) (Nat.le_of_ble_eq_true rfl) (fun v5 M6 => ?_)
  refine AW.chk (fun g7 => ?_)
  refine AW.iast (pc := 22) dX12_readSort_22 (k0e g7.1) (kct (k0e g7.1) rfl hct) g7.2 ?_
  refine AW.genM (fun M8 => ?_)
  refine AW.aload_n (pc := 23) dX12_readSort_23 rfl 0 rfl ?_
  refine AW.ldcS (pc := 24) (i := 27) dX12_readSort_24 rfl ?_
  refine AW.cV1v (pc := 26) dX12_readSort_26 mlX12_280 mbX12_word rfl hthis (kct hthis rfl hct) (fun _ => okR_N (by omega)) (kX12_word l E (n - 1) (by omega) ct hct ex this 1027 M8) (Nat.le_of_ble_eq_true rfl) (fun _ M9 => ?_)
  refine AW.aload_n (pc := 29) dX12_readSort_29 rfl 0 rfl ?_
  refine AW.chk (fun g10 => ?_)
  refine AW.getR (pc := 30) dX12_readSort_30 flX12_52 hthis (kct hthis rfl hct) g10 ?_
  refine AW.iload_n (pc := 33) dX12_readSort_33 rfl 1 rfl ?_
  refine AW.aload_n (pc := 34) dX12_readSort_34 rfl 0 rfl ?_
  refine AW.iconst (pc := 35) dX12_readSort_35 ci_0 ?_
  refine AW.bipush (pc := 36) dX12_readSort_36 cb_99 ?_
  refine AW.cV2i (pc := 38) dX12_readSort_38 mlX12_243 mbX12_readNumber rfl hthis (kct hthis rfl hct) (fun _ => okR_N (by omega)) (kX12_readNumber l E (n - 1) (by omega) ct hct ex this 0 99 M9) (Nat.le_of_ble_eq_true rfl) (fun v11 M12 => ?_)
  refine AW.chk (fun g13 => ?_)
  refine AW.iast (pc := 41) dX12_readSort_41 (k0e g13.1) (kct (k0e g13.1) rfl hct) g13.2 ?_
  refine AW.genM (fun M14 => ?_)
  refine AW.aload_n (pc := 42) dX12_readSort_42 rfl 0 rfl ?_
  refine AW.ldcS (pc := 43) (i := 28) dX12_readSort_43 rfl ?_
  refine AW.cV1v (pc := 45) dX12_readSort_45 mlX12_280 mbX12_word rfl hthis (kct hthis rfl hct) (fun _ => okR_N (by omega)) (kX12_word l E (n - 1) (by omega) ct hct ex this 1028 M14) (Nat.le_of_ble_eq_true rfl) (fun _ M15 => ?_)
  refine AW.aload_n (pc := 48) dX12_readSort_48 rfl 0 rfl ?_
  refine AW.chk (fun g16 => ?_)
  refine AW.getR (pc := 49) dX12_readSort_49 flX12_54 hthis (kct hthis rfl hct) g16 ?_
  refine AW.iload_n (pc := 52) dX12_readSort_52 rfl 1 rfl ?_
  refine AW.aload_n (pc := 53) dX12_readSort_53 rfl 0 rfl ?_
  refine AW.iconst (pc := 54) dX12_readSort_54 ci_0 ?_
  refine AW.bipush (pc := 55) dX12_readSort_55 cb_9 ?_
  refine AW.cV2i (pc := 57) dX12_readSort_57 mlX12_243 mbX12_readNumber rfl hthis (kct hthis rfl hct) (fun _ => okR_N (by omega)) (kX12_readNumber l E (n - 1) (by omega) ct hct ex this 0 9 M15) (Nat.le_of_ble_eq_true rfl) (fun v17 M18 => ?_)
  refine AW.chk (fun g19 => ?_)
  refine AW.iast (pc := 60) dX12_readSort_60 (k0e g19.1) (kct (k0e g19.1) rfl hct) g19.2 ?_
  refine AW.genM (fun M20 => ?_)
  refine AW.aload_n (pc := 61) dX12_readSort_61 rfl 0 rfl ?_
  refine AW.ldcSW (pc := 62) (i := 32) dX12_readSort_62 rfl ?_
  refine AW.cV1v (pc := 65) dX12_readSort_65 mlX12_280 mbX12_word rfl hthis (kct hthis rfl hct) (fun _ => okR_N (by omega)) (kX12_word l E (n - 1) (by omega) ct hct ex this 1032 M20) (Nat.le_of_ble_eq_true rfl) (fun _ M21 => ?_)
  refine AW.aload_n (pc := 68) dX12_readSort_68 rfl 0 rfl ?_
  refine AW.chk (fun g22 => ?_)
  refine AW.getR (pc := 69) dX12_readSort_69 flX12_56 hthis (kct hthis rfl hct) g22 ?_
  refine AW.iload_n (pc := 72) dX12_readSort_72 rfl 1 rfl ?_
  refine AW.aload_n (pc := 73) dX12_readSort_73 rfl 0 rfl ?_
  refine AW.getI (pc := 74) dX12_readSort_74 flX12_240 hthis (kct hthis rfl hct) ?_
  refine AW.chk (fun g23 => ?_)
  refine AW.iast (pc := 77) dX12_readSort_77 (k0e g23.1) (kct (k0e g23.1) rfl hct) g23.2 ?_
  refine AW.genM (fun M24 => ?_)
  refine AW.aload_n (pc := 78) dX12_readSort_78 rfl 0 rfl ?_
  refine AW.iconst (pc := 79) dX12_readSort_79 ci_0 ?_
  refine AW.cV1v (pc := 80) dX12_readSort_80 mlX12_256 mbX12_readExpression rfl hthis (kct hthis rfl hct) (fun _ => okR_N (by omega)) (kX12_readExpression l E RD (n - 1) (by unfold RD; omega) ct hct ex this 0 M24) (Nat.le_of_ble_eq_true rfl) (fun _ M25 => ?_)
  refine AW.aload_n (pc := 83) dX12_readSort_83 rfl 0 rfl ?_
  refine AW.chk (fun g26 => ?_)
  refine AW.getR (pc := 84) dX12_readSort_84 flX12_59 hthis (kct hthis rfl hct) g26 ?_
  refine AW.iload_n (pc := 87) dX12_readSort_87 rfl 1 rfl ?_
  refine AW.aload_n (pc := 88) dX12_readSort_88 rfl 0 rfl ?_
  refine AW.getI (pc := 89) dX12_readSort_89 flX12_240 hthis (kct hthis rfl hct) ?_
  refine AW.chk (fun g27 => ?_)
  refine AW.iast (pc := 92) dX12_readSort_92 (k0e g27.1) (kct (k0e g27.1) rfl hct) g27.2 ?_
  refine AW.genM (fun M28 => ?_)
  refine AW.aload_n (pc := 93) dX12_readSort_93 rfl 0 rfl ?_
  refine AW.chk (fun g29 => ?_)
  refine AW.getR (pc := 94) dX12_readSort_94 flX12_42 hthis (kct hthis rfl hct) g29 ?_
  refine AW.iconst (pc := 97) dX12_readSort_97 ci_2 ?_
  refine AW.dup2 (pc := 98) dX12_readSort_98 rfl rfl ?_
  refine AW.chk (fun g30 => ?_)
  refine AW.iald (pc := 99) dX12_readSort_99 (k0e g30.1) (kct (k0e g30.1) rfl hct) g30.2 ?_
  refine AW.iconst (pc := 100) dX12_readSort_100 ci_1 ?_
  refine AW.iadd (pc := 101) dX12_readSort_101 ?_
  refine AW.chk (fun g31 => ?_)
  refine AW.iast (pc := 102) dX12_readSort_102 (k0e g30.1) (kct (k0e g30.1) rfl hct) g31 ?_
  refine AW.genM (fun M32 => ?_)
  exact AW.vret (pc := 103) dX12_readSort_103 rfl (fun _ _ _ => rfl) (Nat.le_refl _) (Nat.le_refl _)
-- GateBoxModel.readClause(I)I
def zX12_readClause_B177 (this : Nat) (x1 : Int32) (x2 : Int32) (M : Mem) : Option (Int32 × Mem) :=
  bnd (zX12_mark this 59 M) fun _ M1 =>
  some (x1 ||| (1 <<< (x2 &&& 31)), M1)
def zX12_readClause_B173 (this : Nat) (x1 : Int32) (x2 : Int32) (s0 : Nat) (s1 : Int32) (s2 : Nat) (s3 : Int32) (s4 : Int32) (M : Mem) : Option (Int32 × Mem) :=
  if K0 s2 = (0, 12) then
  bnd (zX12_readNumber s2 s3 s4 M) fun v1 M2 =>
  if (K0 s0).1 = 1 ∧ inb s1 (K0 s0).2 = true then
  lt (sI M2 s0 (Int32.toNatClampNeg s1) v1) fun M5 =>
  zX12_readClause_B177 this x1 x2 M5
  else none
  else none
def zX12_readClause_B97 (this : Nat) (x1 : Int32) (x2 : Int32) (M : Mem) : Option (Int32 × Mem) :=
  if mR M this 4 ≠ 0 then
  if (K0 (mR M this 4)).1 = 1 ∧ inb ((14 + x2) - 1) (K0 (mR M this 4)).2 = true then
  lt (sI M (mR M this 4) (Int32.toNatClampNeg ((14 + x2) - 1)) 1) fun M3 =>
  zX12_readClause_B177 this x1 x2 M3
  else none
  else none
def zX12_readClause_B63 (this : Nat) (x1 : Int32) (x2 : Int32) (M : Mem) : Option (Int32 × Mem) :=
  if (mI M this 27) = 0 then
    bnd (zX12_stepOn this M) fun _ M2 =>
    if x2 = 0 then
      bnd (zX12_readSort this M2) fun _ M4 =>
      zX12_readClause_B177 this x1 x2 M4
    else
      if x2 = 3 then
        zX12_readClause_B97 this x1 x2 M2
      else
        if x2 = 4 then
          zX12_readClause_B97 this x1 x2 M2
        else
          if x2 = 6 then
            if mR M2 this 4 ≠ 0 then
            bnd (zX12_readNumber this 0 100 M2) fun v9 M10 =>
            if (K0 (mR M2 this 4)).1 = 1 ∧ inb 19 (K0 (mR M2 this 4)).2 = true then
            lt (sI M10 (mR M2 this 4) (Int32.toNatClampNeg 19) v9) fun M12 =>
            if mR M12 this 4 ≠ 0 then
            bnd (zX12_readNumber this 1 999 M12) fun v14 M15 =>
            if (K0 (mR M12 this 4)).1 = 1 ∧ inb 20 (K0 (mR M12 this 4)).2 = true then
            lt (sI M15 (mR M12 this 4) (Int32.toNatClampNeg 20) v14) fun M17 =>
            zX12_readClause_B177 this x1 x2 M17
            else none
            else none
            else none
            else none
          else
            if mR M2 this 4 ≠ 0 then
            if x2 = 1 then
              zX12_readClause_B173 this x1 x2 (mR M2 this 4) ((14 + x2) - 1) this 0 2 M2
            else
              zX12_readClause_B173 this x1 x2 (mR M2 this 4) ((14 + x2) - 1) this 0 9 M2
            else none
  else
    some (x1, M)
def zX12_readClause_B45 (this : Nat) (x1 : Int32) (x2 : Int32) (M : Mem) : Option (Int32 × Mem) :=
  if x2 ≤ 0 then
    zX12_readClause_B63 this x1 x2 M
  else
    if ((x1 >>> (x2 &&& 31)) &&& 1) = 1 then
      bnd (zX12_wrong this 4 M) fun _ M3 =>
      zX12_readClause_B63 this x1 x2 M3
    else
      zX12_readClause_B63 this x1 x2 M
def zX12_readClause (this : Nat) (x1 : Int32) (M : Mem) : Option (Int32 × Mem) :=
  if K0 this = (0, 12) then
  if mR M this 0 ≠ 0 then
  bnd (zX12_which this (mR M this 0) M) fun v2 M3 =>
  if v2 = (-1) then
    bnd (zX12_wrong this 1 M3) fun _ M5 =>
    zX12_readClause_B63 this x1 v2 M5
  else
    if v2 = 0 then
      if mR M3 this 3 ≠ 0 then
      if (K0 (mR M3 this 3)).1 = 1 ∧ inb 2 (K0 (mR M3 this 3)).2 = true then
      if (mI M3 (mR M3 this 3) (Int32.toNatClampNeg 2)) = 8 then
        bnd (zX12_wrong this 2 M3) fun _ M10 =>
        zX12_readClause_B63 this x1 v2 M10
      else
        zX12_readClause_B45 this x1 v2 M3
      else none
      else none
    else
      zX12_readClause_B45 this x1 v2 M3
  else none
  else none
set_option maxRecDepth 20000 in
set_option maxHeartbeats 4000000 in
theorem kX12_readClause_B177 (l : Launch) (E : Ev) (n : Nat) (hn : 84 ≤ n) (ct : Nat) (hct : 111 ≤ ct) (ex : Bool) (this : Nat) (x1 : Int32) (x2 : Int32) (M : Mem) (hthis : K0 this = (0, 12)) : AW l E fX12_readClause (fun _ => rmN n 0 0) (PQr E 0 0 ct ex enI) ct ex 0 0 177 [(0, .ref (ad E this)), (1, .int x1), (2, .int x2)] [] M (zX12_readClause_B177 this x1 x2 M) := by
  unfold zX12_readClause_B177
  refine AW.aload_n (pc := 177) dX12_readClause_177 rfl 0 rfl ?_
  refine AW.bipush (pc := 178) dX12_readClause_178 cb_59 ?_
  refine AW.cV1v (pc := 180) dX12_readClause_180 mlX12_253 mbX12_mark rfl hthis (kct hthis rfl hct) (fun _ => okR_N (by omega)) (kX12_mark l E (n - 1) (by omega) ct hct ex this 59 M) (Nat.le_of_ble_eq_true rfl) (fun _ M1 => ?_)
  refine AW.iload_n (pc := 183) dX12_readClause_183 rfl 1 rfl ?_
  refine AW.iconst (pc := 184) dX12_readClause_184 ci_1 ?_
  refine AW.iload_n (pc := 185) dX12_readClause_185 rfl 2 rfl ?_
  refine AW.ishl (pc := 186) dX12_readClause_186 ?_
  refine AW.ior (pc := 187) dX12_readClause_187 ?_
  exact AW.iret (pc := 188) dX12_readClause_188 rfl (fun _ _ _ => rfl) (Nat.le_refl _) (Nat.le_refl _)
set_option maxRecDepth 20000 in
set_option maxHeartbeats 4000000 in
theorem kX12_readClause_B173 (l : Launch) (E : Ev) (n : Nat) (hn : 84 ≤ n) (ct : Nat) (hct : 111 ≤ ct) (ex : Bool) (this : Nat) (x1 : Int32) (x2 : Int32) (s0 : Nat) (s1 : Int32) (s2 : Nat) (s3 : Int32) (s4 : Int32) (M : Mem) (hthis : K0 this = (0, 12)) : AW l E fX12_readClause (fun _ => rmN n 0 0) (PQr E 0 0 ct ex enI) ct ex 0 0 173 [(0, .ref (ad E this)), (1, .int x1), (2, .int x2)] [.int s4, .int s3, .ref (ad E s2), .int s1, .ref (ad E s0)] M (zX12_readClause_B173 this x1 x2 s0 s1 s2 s3 s4 M) := by
  unfold zX12_readClause_B173
  refine AW.chk (fun g3 => ?_)
  refine AW.cV2i (pc := 173) dX12_readClause_173 mlX12_243 mbX12_readNumber rfl g3 (kct g3 rfl hct) (fun _ => okR_N (by omega)) (kX12_readNumber l E (n - 1) (by omega) ct hct ex s2 s3 s4 M) (Nat.le_of_ble_eq_true rfl) (fun v1 M2 => ?_)
  refine AW.chk (fun g4 => ?_)
  refine AW.iast (pc := 176) dX12_readClause_176 (k0e g4.1) (kct (k0e g4.1) rfl hct) g4.2 ?_
  refine AW.genM (fun M5 => ?_)
  exact kX12_readClause_B177 l E n hn ct hct ex this x1 x2 M5 hthis
set_option maxRecDepth 20000 in
set_option maxHeartbeats 4000000 in
theorem kX12_readClause_B97 (l : Launch) (E : Ev) (n : Nat) (hn : 84 ≤ n) (ct : Nat) (hct : 111 ≤ ct) (ex : Bool) (this : Nat) (x1 : Int32) (x2 : Int32) (M : Mem) (hthis : K0 this = (0, 12)) : AW l E fX12_readClause (fun _ => rmN n 0 0) (PQr E 0 0 ct ex enI) ct ex 0 0 97 [(0, .ref (ad E this)), (1, .int x1), (2, .int x2)] [] M (zX12_readClause_B97 this x1 x2 M) := by
  unfold zX12_readClause_B97
  refine AW.aload_n (pc := 97) dX12_readClause_97 rfl 0 rfl ?_
  refine AW.chk (fun g1 => ?_)
  refine AW.getR (pc := 98) dX12_readClause_98 flX12_46 hthis (kct hthis rfl hct) g1 ?_
  refine AW.bipush (pc := 101) dX12_readClause_101 cb_14 ?_
  refine AW.iload_n (pc := 103) dX12_readClause_103 rfl 2 rfl ?_
  refine AW.iadd (pc := 104) dX12_readClause_104 ?_
  refine AW.iconst (pc := 105) dX12_readClause_105 ci_1 ?_
  refine AW.isub (pc := 106) dX12_readClause_106 ?_
  refine AW.iconst (pc := 107) dX12_readClause_107 ci_1 ?_
  refine AW.chk (fun g2 => ?_)
  refine AW.iast (pc := 108) dX12_readClause_108 (k0e g2.1) (kct (k0e g2.1) rfl hct) g2.2 ?_
  refine AW.genM (fun M3 => ?_)
  refine AW.goto (pc := 109) 177 dX12_readClause_109 (by decide) ?_
  exact kX12_readClause_B177 l E n hn ct hct ex this x1 x2 M3 hthis
set_option maxRecDepth 20000 in
set_option maxHeartbeats 4000000 in
theorem kX12_readClause_B63 (l : Launch) (E : Ev) (n : Nat) (hn : 84 ≤ n) (ct : Nat) (hct : 111 ≤ ct) (ex : Bool) (this : Nat) (x1 : Int32) (x2 : Int32) (M : Mem) (hthis : K0 this = (0, 12)) : AW l E fX12_readClause (fun _ => rmN n 0 0) (PQr E 0 0 ct ex enI) ct ex 0 0 63 [(0, .ref (ad E this)), (1, .int x1), (2, .int x2)] [] M (zX12_readClause_B63 this x1 x2 M) := by
  unfold zX12_readClause_B63
  refine AW.aload_n (pc := 63) dX12_readClause_63 rfl 0 rfl ?_
  refine AW.getI (pc := 64) dX12_readClause_64 flX12_213 hthis (kct hthis rfl hct) ?_
  refine AW.if_eq (pc := 67) 72 dX12_readClause_67 (by decide) (fun h1 => ?_) (fun h1 => ?_)
  · refine AW.aload_n (pc := 72) dX12_readClause_72 rfl 0 rfl ?_
    refine AW.cV0v (pc := 73) dX12_readClause_73 mlX12_234 mbX12_stepOn rfl hthis (kct hthis rfl hct) (fun _ => okR_N (by omega)) (kX12_stepOn l E (n - 1) (by omega) ct hct ex this M) (Nat.le_of_ble_eq_true rfl) (fun _ M2 => ?_)
    refine AW.iload_n (pc := 76) dX12_readClause_76 rfl 2 rfl ?_
    refine AW.if_ne (pc := 77) 87 dX12_readClause_77 (by decide) (fun h3 => ?_) (fun h3 => ?_)
    · refine AW.aload_n (pc := 80) dX12_readClause_80 rfl 0 rfl ?_
      refine AW.cV0v (pc := 81) dX12_readClause_81 mlX12_286 mbX12_readSort rfl hthis (kct hthis rfl hct) (fun _ => okR_N (by omega)) (kX12_readSort l E (n - 1) (by omega) ct hct ex this M2) (Nat.le_of_ble_eq_true rfl) (fun _ M4 => ?_)
      refine AW.goto (pc := 84) 177 dX12_readClause_84 (by decide) ?_
      exact kX12_readClause_B177 l E n hn ct hct ex this x1 x2 M4 hthis
    · refine AW.iload_n (pc := 87) dX12_readClause_87 rfl 2 rfl ?_
      refine AW.iconst (pc := 88) dX12_readClause_88 ci_3 ?_
      refine AW.icmp_eq (pc := 89) 97 dX12_readClause_89 (by decide) (fun h5 => ?_) (fun h5 => ?_)
      · exact kX12_readClause_B97 l E n hn ct hct ex this x1 x2 M2 hthis
      · refine AW.iload_n (pc := 92) dX12_readClause_92 rfl 2 rfl ?_
        refine AW.iconst (pc := 93) dX12_readClause_93 ci_4 ?_
        refine AW.icmp_ne (pc := 94) 112 dX12_readClause_94 (by decide) (fun h6 => ?_) (fun h6 => ?_)
        · exact kX12_readClause_B97 l E n hn ct hct ex this x1 x2 M2 hthis
        · refine AW.iload_n (pc := 112) dX12_readClause_112 rfl 2 rfl ?_
          refine AW.bipush (pc := 113) dX12_readClause_113 cb_6 ?_
          refine AW.icmp_ne (pc := 115) 150 dX12_readClause_115 (by decide) (fun h7 => ?_) (fun h7 => ?_)
          · refine AW.aload_n (pc := 118) dX12_readClause_118 rfl 0 rfl ?_
            refine AW.chk (fun g8 => ?_)
            refine AW.getR (pc := 119) dX12_readClause_119 flX12_46 hthis (kct hthis rfl hct) g8 ?_
            refine AW.bipush (pc := 122) dX12_readClause_122 cb_19 ?_
            refine AW.aload_n (pc := 124) dX12_readClause_124 rfl 0 rfl ?_
            refine AW.iconst (pc := 125) dX12_readClause_125 ci_0 ?_
            refine AW.bipush (pc := 126) dX12_readClause_126 cb_100 ?_
            refine AW.cV2i (pc := 128) dX12_readClause_128 mlX12_243 mbX12_readNumber rfl hthis (kct hthis rfl hct) (fun _ => okR_N (by omega)) (kX12_readNumber l E (n - 1) (by omega) ct hct ex this 0 100 M2) (Nat.le_of_ble_eq_true rfl) (fun v9 M10 => ?_)
            refine AW.chk (fun g11 => ?_)
            refine AW.iast (pc := 131) dX12_readClause_131 (k0e g11.1) (kct (k0e g11.1) rfl hct) g11.2 ?_
            refine AW.genM (fun M12 => ?_)
            refine AW.aload_n (pc := 132) dX12_readClause_132 rfl 0 rfl ?_
            refine AW.chk (fun g13 => ?_)
            refine AW.getR (pc := 133) dX12_readClause_133 flX12_46 hthis (kct hthis rfl hct) g13 ?_
            refine AW.bipush (pc := 136) dX12_readClause_136 cb_20 ?_
            refine AW.aload_n (pc := 138) dX12_readClause_138 rfl 0 rfl ?_
            refine AW.iconst (pc := 139) dX12_readClause_139 ci_1 ?_
            refine AW.sipush (pc := 140) dX12_readClause_140 cs_999 ?_
            refine AW.cV2i (pc := 143) dX12_readClause_143 mlX12_243 mbX12_readNumber rfl hthis (kct hthis rfl hct) (fun _ => okR_N (by omega)) (kX12_readNumber l E (n - 1) (by omega) ct hct ex this 1 999 M12) (Nat.le_of_ble_eq_true rfl) (fun v14 M15 => ?_)
            refine AW.chk (fun g16 => ?_)
            refine AW.iast (pc := 146) dX12_readClause_146 (k0e g16.1) (kct (k0e g16.1) rfl hct) g16.2 ?_
            refine AW.genM (fun M17 => ?_)
            refine AW.goto (pc := 147) 177 dX12_readClause_147 (by decide) ?_
            exact kX12_readClause_B177 l E n hn ct hct ex this x1 x2 M17 hthis
          · refine AW.aload_n (pc := 150) dX12_readClause_150 rfl 0 rfl ?_
            refine AW.chk (fun g18 => ?_)
            refine AW.getR (pc := 151) dX12_readClause_151 flX12_46 hthis (kct hthis rfl hct) g18 ?_
            refine AW.bipush (pc := 154) dX12_readClause_154 cb_14 ?_
            refine AW.iload_n (pc := 156) dX12_readClause_156 rfl 2 rfl ?_
            refine AW.iadd (pc := 157) dX12_readClause_157 ?_
            refine AW.iconst (pc := 158) dX12_readClause_158 ci_1 ?_
            refine AW.isub (pc := 159) dX12_readClause_159 ?_
            refine AW.aload_n (pc := 160) dX12_readClause_160 rfl 0 rfl ?_
            refine AW.iconst (pc := 161) dX12_readClause_161 ci_0 ?_
            refine AW.iload_n (pc := 162) dX12_readClause_162 rfl 2 rfl ?_
            refine AW.iconst (pc := 163) dX12_readClause_163 ci_1 ?_
            refine AW.icmp_ne (pc := 164) 171 dX12_readClause_164 (by decide) (fun h19 => ?_) (fun h19 => ?_)
            · refine AW.iconst (pc := 167) dX12_readClause_167 ci_2 ?_
              refine AW.goto (pc := 168) 173 dX12_readClause_168 (by decide) ?_
              exact kX12_readClause_B173 l E n hn ct hct ex this x1 x2 (mR M2 this 4) ((14 + x2) - 1) this 0 2 M2 hthis
            · refine AW.bipush (pc := 171) dX12_readClause_171 cb_9 ?_
              exact kX12_readClause_B173 l E n hn ct hct ex this x1 x2 (mR M2 this 4) ((14 + x2) - 1) this 0 9 M2 hthis
  · refine AW.iload_n (pc := 70) dX12_readClause_70 rfl 1 rfl ?_
    exact AW.iret (pc := 71) dX12_readClause_71 rfl (fun _ _ _ => rfl) (Nat.le_refl _) (Nat.le_refl _)
set_option maxRecDepth 20000 in
set_option maxHeartbeats 4000000 in
theorem kX12_readClause_B45 (l : Launch) (E : Ev) (n : Nat) (hn : 84 ≤ n) (ct : Nat) (hct : 111 ≤ ct) (ex : Bool) (this : Nat) (x1 : Int32) (x2 : Int32) (M : Mem) (hthis : K0 this = (0, 12)) : AW l E fX12_readClause (fun _ => rmN n 0 0) (PQr E 0 0 ct ex enI) ct ex 0 0 45 [(0, .ref (ad E this)), (1, .int x1), (2, .int x2)] [] M (zX12_readClause_B45 this x1 x2 M) := by
  unfold zX12_readClause_B45
  refine AW.iload_n (pc := 45) dX12_readClause_45 rfl 2 rfl ?_
  refine AW.if_le (pc := 46) 63 dX12_readClause_46 (by decide) (fun h1 => ?_) (fun h1 => ?_)
  · exact kX12_readClause_B63 l E n hn ct hct ex this x1 x2 M hthis
  · refine AW.iload_n (pc := 49) dX12_readClause_49 rfl 1 rfl ?_
    refine AW.iload_n (pc := 50) dX12_readClause_50 rfl 2 rfl ?_
    refine AW.ishr (pc := 51) dX12_readClause_51 ?_
    refine AW.iconst (pc := 52) dX12_readClause_52 ci_1 ?_
    refine AW.iand (pc := 53) dX12_readClause_53 ?_
    refine AW.iconst (pc := 54) dX12_readClause_54 ci_1 ?_
    refine AW.icmp_ne (pc := 55) 63 dX12_readClause_55 (by decide) (fun h2 => ?_) (fun h2 => ?_)
    · refine AW.aload_n (pc := 58) dX12_readClause_58 rfl 0 rfl ?_
      refine AW.iconst (pc := 59) dX12_readClause_59 ci_4 ?_
      refine AW.cV1v (pc := 60) dX12_readClause_60 mlX12_231 mbX12_wrong rfl hthis (kct hthis rfl hct) (fun _ => okR_N (by omega)) (kX12_wrong l E (n - 1) (by omega) ct hct ex this 4 M) (Nat.le_of_ble_eq_true rfl) (fun _ M3 => ?_)
      exact kX12_readClause_B63 l E n hn ct hct ex this x1 x2 M3 hthis
    · exact kX12_readClause_B63 l E n hn ct hct ex this x1 x2 M hthis
set_option maxRecDepth 20000 in
set_option maxHeartbeats 4000000 in
theorem kX12_readClause (l : Launch) (E : Ev) (n : Nat) (hn : 84 ≤ n) (ct : Nat) (hct : 111 ≤ ct) (ex : Bool) (this : Nat) (x1 : Int32) (M : Mem) : AM l E n ct ex yX12_readClause fX12_readClause enI [.ref (ad E this), .int x1] M (zX12_readClause this x1 M) := by
  unfold zX12_readClause
  refine AM.of (by decide +kernel) ⟨rfl, rfl, rfl⟩ (Nat.le_of_ble_eq_true rfl) ?_
  refine AW.chk (fun hthis => ?_)
  refine AW.aload_n (pc := 0) dX12_readClause_0 rfl 0 rfl ?_
  refine AW.aload_n (pc := 1) dX12_readClause_1 rfl 0 rfl ?_
  refine AW.chk (fun g1 => ?_)
  refine AW.getR (pc := 2) dX12_readClause_2 flX12_23 hthis (kct hthis rfl hct) g1 ?_
  refine AW.cV1i (pc := 5) dX12_readClause_5 mlX12_249 mbX12_which rfl hthis (kct hthis rfl hct) (fun _ => okR_N (by omega)) (kX12_which l E (n - 1) (by omega) ct hct ex this (mR M this 0) M) (Nat.le_of_ble_eq_true rfl) (fun v2 M3 => ?_)
  refine AW.istore_n (pc := 8) [1, 2, 0] [(0, .ref (ad E this)), (1, .int x1), (2, .int v2)] dX12_readClause_8 rfl (by decide) rfl ?_
  refine AW.iload_n (pc := 9) dX12_readClause_9 rfl 2 rfl ?_
  refine AW.iconst (pc := 10) dX12_readClause_10 ci_m1 ?_
  refine AW.icmp_ne (pc := 11) 22 dX12_readClause_11 (by decide) (fun h4 => ?_) (fun h4 => ?_)
  · refine AW.aload_n (pc := 14) dX12_readClause_14 rfl 0 rfl ?_
    refine AW.iconst (pc := 15) dX12_readClause_15 ci_1 ?_
    refine AW.cV1v (pc := 16) dX12_readClause_16 mlX12_231 mbX12_wrong rfl hthis (kct hthis rfl hct) (fun _ => okR_N (by omega)) (kX12_wrong l E (n - 1) (by omega) ct hct ex this 1 M3) (Nat.le_of_ble_eq_true rfl) (fun _ M5 => ?_)
    refine AW.goto (pc := 19) 63 dX12_readClause_19 (by decide) ?_
    exact kX12_readClause_B63 l E n hn ct hct ex this x1 v2 M5 hthis
  · refine AW.iload_n (pc := 22) dX12_readClause_22 rfl 2 rfl ?_
    refine AW.if_ne (pc := 23) 45 dX12_readClause_23 (by decide) (fun h6 => ?_) (fun h6 => ?_)
    · refine AW.aload_n (pc := 26) dX12_readClause_26 rfl 0 rfl ?_
      refine AW.chk (fun g7 => ?_)
      refine AW.getR (pc := 27) dX12_readClause_27 flX12_42 hthis (kct hthis rfl hct) g7 ?_
      refine AW.iconst (pc := 30) dX12_readClause_30 ci_2 ?_
      refine AW.chk (fun g8 => ?_)
      refine AW.iald (pc := 31) dX12_readClause_31 (k0e g8.1) (kct (k0e g8.1) rfl hct) g8.2 ?_
      refine AW.bipush (pc := 32) dX12_readClause_32 cb_8 ?_
      refine AW.icmp_ne (pc := 34) 45 dX12_readClause_34 (by decide) (fun h9 => ?_) (fun h9 => ?_)
      · refine AW.aload_n (pc := 37) dX12_readClause_37 rfl 0 rfl ?_
        refine AW.iconst (pc := 38) dX12_readClause_38 ci_2 ?_
        refine AW.cV1v (pc := 39) dX12_readClause_39 mlX12_231 mbX12_wrong rfl hthis (kct hthis rfl hct) (fun _ => okR_N (by omega)) (kX12_wrong l E (n - 1) (by omega) ct hct ex this 2 M3) (Nat.le_of_ble_eq_true rfl) (fun _ M10 => ?_)
        refine AW.goto (pc := 42) 63 dX12_readClause_42 (by decide) ?_
        exact kX12_readClause_B63 l E n hn ct hct ex this x1 v2 M10 hthis
      · exact kX12_readClause_B45 l E n hn ct hct ex this x1 v2 M3 hthis
    · exact kX12_readClause_B45 l E n hn ct hct ex this x1 v2 M3 hthis
-- GateBoxModel.take(I)V
def zX12_take_B235 (KK235 : Nat → Int32 → Int32 → Mem → Option (Unit × Mem)) (this : Nat) (x1 : Int32) (x2 : Int32) (M : Mem) : Option (Unit × Mem) :=
  if 32 ≤ x2 then
    lt (sI M this 49 0) fun M2 =>
    some ((), M2)
  else
    if mR M this 17 ≠ 0 then
    if (K0 (mR M this 17)).1 = 1 ∧ inb ((32 * x1) + x2) (K0 (mR M this 17)).2 = true then
    lt (sI M (mR M this 17) (Int32.toNatClampNeg ((32 * x1) + x2)) 0) fun M5 =>
    KK235 this x1 (x2 + 1) M5
    else none
    else none
def zX12_take_L235 : Nat → Nat → Int32 → Int32 → Mem → Option (Unit × Mem)
  | 0 => fun _ _ _ _ => none
  | k + 1 => zX12_take_B235 (zX12_take_L235 k)
def zX12_take_B162 (KK162 : Nat → Int32 → Int32 → Mem → Option (Unit × Mem)) (this : Nat) (x1 : Int32) (x2 : Int32) (M : Mem) : Option (Unit × Mem) :=
  if (mI M this 30) ≤ x2 then
    if mR M this 11 ≠ 0 then
    if (K0 (mR M this 11)).1 = 1 ∧ inb x1 (K0 (mR M this 11)).2 = true then
    lt (sI M (mR M this 11) (Int32.toNatClampNeg x1) 0) fun M4 =>
    if mR M4 this 12 ≠ 0 then
    if (K0 (mR M4 this 12)).1 = 1 ∧ inb x1 (K0 (mR M4 this 12)).2 = true then
    lt (sI M4 (mR M4 this 12) (Int32.toNatClampNeg x1) 0) fun M7 =>
    if mR M7 this 13 ≠ 0 then
    if (K0 (mR M7 this 13)).1 = 1 ∧ inb x1 (K0 (mR M7 this 13)).2 = true then
    lt (sI M7 (mR M7 this 13) (Int32.toNatClampNeg x1) 0) fun M10 =>
    if mR M10 this 15 ≠ 0 then
    if (K0 (mR M10 this 15)).1 = 1 ∧ inb x1 (K0 (mR M10 this 15)).2 = true then
    lt (sI M10 (mR M10 this 15) (Int32.toNatClampNeg x1) 0) fun M13 =>
    if mR M13 this 16 ≠ 0 then
    if (K0 (mR M13 this 16)).1 = 1 ∧ inb x1 (K0 (mR M13 this 16)).2 = true then
    lt (sI M13 (mR M13 this 16) (Int32.toNatClampNeg x1) 0) fun M16 =>
    zX12_take_L235 FU this x1 0 M16
    else none
    else none
    else none
    else none
    else none
    else none
    else none
    else none
    else none
    else none
  else
    if mR M this 10 ≠ 0 then
    if (K0 (mR M this 10)).1 = 1 ∧ inb (1400 + x2) (K0 (mR M this 10)).2 = true then
    if inb ((700 * x1) + x2) (K0 (mR M this 10)).2 = true then
    lt (sI M (mR M this 10) (Int32.toNatClampNeg ((700 * x1) + x2)) (mI M (mR M this 10) (Int32.toNatClampNeg (1400 + x2)))) fun M20 =>
    KK162 this x1 (x2 + 1) M20
    else none
    else none
    else none
def zX12_take_L162 : Nat → Nat → Int32 → Int32 → Mem → Option (Unit × Mem)
  | 0 => fun _ _ _ _ => none
  | k + 1 => zX12_take_B162 (zX12_take_L162 k)
def zX12_take_B48 (KK48 : Nat → Int32 → Int32 → Mem → Option (Unit × Mem)) (this : Nat) (x1 : Int32) (x2 : Int32) (M : Mem) : Option (Unit × Mem) :=
  if 8 ≤ x2 then
    zX12_take_L162 FU this x1 0 M
  else
    if mR M this 5 ≠ 0 then
    if (K0 (mR M this 5)).1 = 1 ∧ inb (16 + x2) (K0 (mR M this 5)).2 = true then
    if inb ((8 * x1) + x2) (K0 (mR M this 5)).2 = true then
    lt (sI M (mR M this 5) (Int32.toNatClampNeg ((8 * x1) + x2)) (mI M (mR M this 5) (Int32.toNatClampNeg (16 + x2)))) fun M5 =>
    if mR M5 this 6 ≠ 0 then
    if (K0 (mR M5 this 6)).1 = 1 ∧ inb (16 + x2) (K0 (mR M5 this 6)).2 = true then
    if inb ((8 * x1) + x2) (K0 (mR M5 this 6)).2 = true then
    lt (sI M5 (mR M5 this 6) (Int32.toNatClampNeg ((8 * x1) + x2)) (mI M5 (mR M5 this 6) (Int32.toNatClampNeg (16 + x2)))) fun M9 =>
    if mR M9 this 7 ≠ 0 then
    if (K0 (mR M9 this 7)).1 = 1 ∧ inb (16 + x2) (K0 (mR M9 this 7)).2 = true then
    if inb ((8 * x1) + x2) (K0 (mR M9 this 7)).2 = true then
    lt (sI M9 (mR M9 this 7) (Int32.toNatClampNeg ((8 * x1) + x2)) (mI M9 (mR M9 this 7) (Int32.toNatClampNeg (16 + x2)))) fun M13 =>
    if mR M13 this 8 ≠ 0 then
    if (K0 (mR M13 this 8)).1 = 1 ∧ inb (16 + x2) (K0 (mR M13 this 8)).2 = true then
    if inb ((8 * x1) + x2) (K0 (mR M13 this 8)).2 = true then
    lt (sI M13 (mR M13 this 8) (Int32.toNatClampNeg ((8 * x1) + x2)) (mI M13 (mR M13 this 8) (Int32.toNatClampNeg (16 + x2)))) fun M17 =>
    if mR M17 this 9 ≠ 0 then
    if (K0 (mR M17 this 9)).1 = 1 ∧ inb (16 + x2) (K0 (mR M17 this 9)).2 = true then
    if inb ((8 * x1) + x2) (K0 (mR M17 this 9)).2 = true then
    lt (sI M17 (mR M17 this 9) (Int32.toNatClampNeg ((8 * x1) + x2)) (mI M17 (mR M17 this 9) (Int32.toNatClampNeg (16 + x2)))) fun M21 =>
    KK48 this x1 (x2 + 1) M21
    else none
    else none
    else none
    else none
    else none
    else none
    else none
    else none
    else none
    else none
    else none
    else none
    else none
    else none
    else none
def zX12_take_L48 : Nat → Nat → Int32 → Int32 → Mem → Option (Unit × Mem)
  | 0 => fun _ _ _ _ => none
  | k + 1 => zX12_take_B48 (zX12_take_L48 k)
def zX12_take_B14 (KK14 : Nat → Int32 → Int32 → Mem → Option (Unit × Mem)) (this : Nat) (x1 : Int32) (x2 : Int32) (M : Mem) : Option (Unit × Mem) :=
  if 7 ≤ x2 then
    zX12_take_L48 FU this x1 0 M
  else
    if mR M this 4 ≠ 0 then
    if (K0 (mR M this 4)).1 = 1 ∧ inb (14 + x2) (K0 (mR M this 4)).2 = true then
    if inb ((7 * x1) + x2) (K0 (mR M this 4)).2 = true then
    lt (sI M (mR M this 4) (Int32.toNatClampNeg ((7 * x1) + x2)) (mI M (mR M this 4) (Int32.toNatClampNeg (14 + x2)))) fun M5 =>
    KK14 this x1 (x2 + 1) M5
    else none
    else none
    else none
def zX12_take_L14 : Nat → Nat → Int32 → Int32 → Mem → Option (Unit × Mem)
  | 0 => fun _ _ _ _ => none
  | k + 1 => zX12_take_B14 (zX12_take_L14 k)
def zX12_take (this : Nat) (x1 : Int32) (M : Mem) : Option (Unit × Mem) :=
  if K0 this = (0, 12) then
  if mR M this 3 ≠ 0 then
  if (K0 (mR M this 3)).1 = 1 ∧ inb 2 (K0 (mR M this 3)).2 = true then
  if inb x1 (K0 (mR M this 3)).2 = true then
  lt (sI M (mR M this 3) (Int32.toNatClampNeg x1) (mI M (mR M this 3) (Int32.toNatClampNeg 2))) fun M4 =>
  zX12_take_L14 FU this x1 0 M4
  else none
  else none
  else none
  else none
set_option maxRecDepth 20000 in
set_option maxHeartbeats 4000000 in
theorem kX12_take_B235 (l : Launch) (E : Ev) (n : Nat) (hn : 1 ≤ n) (ct : Nat) (hct : 111 ≤ ct) (ex : Bool) (KK235 : Nat → Int32 → Int32 → Mem → Option (Unit × Mem)) (hKK235 : ∀ (this : Nat) (x1 : Int32) (x2 : Int32) (M : Mem) (_ : K0 this = (0, 12)), AW l E fX12_take (fun _ => rmN n 0 0) (PQr E 0 0 ct ex enU) ct ex 0 0 235 [(0, .ref (ad E this)), (1, .int x1), (2, .int x2)] [] M (KK235 this x1 x2 M)) (this : Nat) (x1 : Int32) (x2 : Int32) (M : Mem) (hthis : K0 this = (0, 12)) : AW l E fX12_take (fun _ => rmN n 0 0) (PQr E 0 0 ct ex enU) ct ex 0 0 235 [(0, .ref (ad E this)), (1, .int x1), (2, .int x2)] [] M (zX12_take_B235 KK235 this x1 x2 M) := by
  unfold zX12_take_B235
  refine AW.iload_n (pc := 235) dX12_take_235 rfl 2 rfl ?_
  refine AW.bipush (pc := 236) dX12_take_236 cb_32 ?_
  refine AW.icmp_ge (pc := 238) 259 dX12_take_238 (by decide) (fun h1 => ?_) (fun h1 => ?_)
  · refine AW.aload_n (pc := 259) dX12_take_259 rfl 0 rfl ?_
    refine AW.iconst (pc := 260) dX12_take_260 ci_0 ?_
    refine AW.putZ (pc := 261) dX12_take_261 flX12_298 hthis (kct hthis rfl hct) (Or.inl rfl) ?_
    refine AW.genM (fun M2 => ?_)
    exact AW.vret (pc := 264) dX12_take_264 rfl (fun _ _ _ => rfl) (Nat.le_refl _) (Nat.le_refl _)
  · refine AW.aload_n (pc := 241) dX12_take_241 rfl 0 rfl ?_
    refine AW.chk (fun g3 => ?_)
    refine AW.getR (pc := 242) dX12_take_242 flX12_83 hthis (kct hthis rfl hct) g3 ?_
    refine AW.bipush (pc := 245) dX12_take_245 cb_32 ?_
    refine AW.iload_n (pc := 247) dX12_take_247 rfl 1 rfl ?_
    refine AW.imul (pc := 248) dX12_take_248 ?_
    refine AW.iload_n (pc := 249) dX12_take_249 rfl 2 rfl ?_
    refine AW.iadd (pc := 250) dX12_take_250 ?_
    refine AW.iconst (pc := 251) dX12_take_251 ci_0 ?_
    refine AW.chk (fun g4 => ?_)
    refine AW.iast (pc := 252) dX12_take_252 (k0e g4.1) (kct (k0e g4.1) rfl hct) g4.2 ?_
    refine AW.genM (fun M5 => ?_)
    refine AW.iinc (pc := 253) (w := 2) [1, 2, 0] [(0, .ref (ad E this)), (1, .int x1), (2, .int (x2 + 1))] dX12_take_253 rfl (inc_1 _) (by decide) rfl ?_
    refine AW.goto (pc := 256) 235 dX12_take_256 (by decide) ?_
    exact hKK235 this x1 (x2 + 1) M5 hthis
set_option maxRecDepth 20000 in
set_option maxHeartbeats 4000000 in
theorem kX12_take_L235 (l : Launch) (E : Ev) (n : Nat) (hn : 1 ≤ n) (ct : Nat) (hct : 111 ≤ ct) (ex : Bool) (k : Nat) : ∀ (this : Nat) (x1 : Int32) (x2 : Int32) (M : Mem) (_ : K0 this = (0, 12)), AW l E fX12_take (fun _ => rmN n 0 0) (PQr E 0 0 ct ex enU) ct ex 0 0 235 [(0, .ref (ad E this)), (1, .int x1), (2, .int x2)] [] M (zX12_take_L235 k this x1 x2 M) := by
  induction k with
  | zero => intro this x1 x2 M _; exact AW.none
  | succ k ih =>
    intro this x1 x2 M hthis
    exact kX12_take_B235 l E n hn ct hct ex (zX12_take_L235 k) ih this x1 x2 M hthis
set_option maxRecDepth 20000 in
set_option maxHeartbeats 4000000 in
theorem kX12_take_B162 (l : Launch) (E : Ev) (n : Nat) (hn : 1 ≤ n) (ct : Nat) (hct : 111 ≤ ct) (ex : Bool) (KK162 : Nat → Int32 → Int32 → Mem → Option (Unit × Mem)) (hKK162 : ∀ (this : Nat) (x1 : Int32) (x2 : Int32) (M : Mem) (_ : K0 this = (0, 12)), AW l E fX12_take (fun _ => rmN n 0 0) (PQr E 0 0 ct ex enU) ct ex 0 0 162 [(0, .ref (ad E this)), (1, .int x1), (2, .int x2)] [] M (KK162 this x1 x2 M)) (this : Nat) (x1 : Int32) (x2 : Int32) (M : Mem) (hthis : K0 this = (0, 12)) : AW l E fX12_take (fun _ => rmN n 0 0) (PQr E 0 0 ct ex enU) ct ex 0 0 162 [(0, .ref (ad E this)), (1, .int x1), (2, .int x2)] [] M (zX12_take_B162 KK162 this x1 x2 M) := by
  unfold zX12_take_B162
  refine AW.iload_n (pc := 162) dX12_take_162 rfl 2 rfl ?_
  refine AW.aload_n (pc := 163) dX12_take_163 rfl 0 rfl ?_
  refine AW.getI (pc := 164) dX12_take_164 flX12_240 hthis (kct hthis rfl hct) ?_
  refine AW.icmp_ge (pc := 167) 198 dX12_take_167 (by decide) (fun h1 => ?_) (fun h1 => ?_)
  · refine AW.aload_n (pc := 198) dX12_take_198 rfl 0 rfl ?_
    refine AW.chk (fun g2 => ?_)
    refine AW.getR (pc := 199) dX12_take_199 flX12_65 hthis (kct hthis rfl hct) g2 ?_
    refine AW.iload_n (pc := 202) dX12_take_202 rfl 1 rfl ?_
    refine AW.iconst (pc := 203) dX12_take_203 ci_0 ?_
    refine AW.chk (fun g3 => ?_)
    refine AW.iast (pc := 204) dX12_take_204 (k0e g3.1) (kct (k0e g3.1) rfl hct) g3.2 ?_
    refine AW.genM (fun M4 => ?_)
    refine AW.aload_n (pc := 205) dX12_take_205 rfl 0 rfl ?_
    refine AW.chk (fun g5 => ?_)
    refine AW.getR (pc := 206) dX12_take_206 flX12_68 hthis (kct hthis rfl hct) g5 ?_
    refine AW.iload_n (pc := 209) dX12_take_209 rfl 1 rfl ?_
    refine AW.iconst (pc := 210) dX12_take_210 ci_0 ?_
    refine AW.chk (fun g6 => ?_)
    refine AW.iast (pc := 211) dX12_take_211 (k0e g6.1) (kct (k0e g6.1) rfl hct) g6.2 ?_
    refine AW.genM (fun M7 => ?_)
    refine AW.aload_n (pc := 212) dX12_take_212 rfl 0 rfl ?_
    refine AW.chk (fun g8 => ?_)
    refine AW.getR (pc := 213) dX12_take_213 flX12_71 hthis (kct hthis rfl hct) g8 ?_
    refine AW.iload_n (pc := 216) dX12_take_216 rfl 1 rfl ?_
    refine AW.iconst (pc := 217) dX12_take_217 ci_0 ?_
    refine AW.chk (fun g9 => ?_)
    refine AW.iast (pc := 218) dX12_take_218 (k0e g9.1) (kct (k0e g9.1) rfl hct) g9.2 ?_
    refine AW.genM (fun M10 => ?_)
    refine AW.aload_n (pc := 219) dX12_take_219 rfl 0 rfl ?_
    refine AW.chk (fun g11 => ?_)
    refine AW.getR (pc := 220) dX12_take_220 flX12_77 hthis (kct hthis rfl hct) g11 ?_
    refine AW.iload_n (pc := 223) dX12_take_223 rfl 1 rfl ?_
    refine AW.iconst (pc := 224) dX12_take_224 ci_0 ?_
    refine AW.chk (fun g12 => ?_)
    refine AW.iast (pc := 225) dX12_take_225 (k0e g12.1) (kct (k0e g12.1) rfl hct) g12.2 ?_
    refine AW.genM (fun M13 => ?_)
    refine AW.aload_n (pc := 226) dX12_take_226 rfl 0 rfl ?_
    refine AW.chk (fun g14 => ?_)
    refine AW.getR (pc := 227) dX12_take_227 flX12_80 hthis (kct hthis rfl hct) g14 ?_
    refine AW.iload_n (pc := 230) dX12_take_230 rfl 1 rfl ?_
    refine AW.iconst (pc := 231) dX12_take_231 ci_0 ?_
    refine AW.chk (fun g15 => ?_)
    refine AW.iast (pc := 232) dX12_take_232 (k0e g15.1) (kct (k0e g15.1) rfl hct) g15.2 ?_
    refine AW.genM (fun M16 => ?_)
    refine AW.iconst (pc := 233) dX12_take_233 ci_0 ?_
    refine AW.istore_n (pc := 234) [1, 2, 0] [(0, .ref (ad E this)), (1, .int x1), (2, .int 0)] dX12_take_234 rfl (by decide) rfl ?_
    exact kX12_take_L235 l E n hn ct hct ex FU this x1 0 M16 hthis
  · refine AW.aload_n (pc := 170) dX12_take_170 rfl 0 rfl ?_
    refine AW.chk (fun g17 => ?_)
    refine AW.getR (pc := 171) dX12_take_171 flX12_62 hthis (kct hthis rfl hct) g17 ?_
    refine AW.sipush (pc := 174) dX12_take_174 cs_700 ?_
    refine AW.iload_n (pc := 177) dX12_take_177 rfl 1 rfl ?_
    refine AW.imul (pc := 178) dX12_take_178 ?_
    refine AW.iload_n (pc := 179) dX12_take_179 rfl 2 rfl ?_
    refine AW.iadd (pc := 180) dX12_take_180 ?_
    refine AW.aload_n (pc := 181) dX12_take_181 rfl 0 rfl ?_
    refine AW.getR (pc := 182) dX12_take_182 flX12_62 hthis (kct hthis rfl hct) g17 ?_
    refine AW.sipush (pc := 185) dX12_take_185 cs_1400 ?_
    refine AW.iload_n (pc := 188) dX12_take_188 rfl 2 rfl ?_
    refine AW.iadd (pc := 189) dX12_take_189 ?_
    refine AW.chk (fun g18 => ?_)
    refine AW.iald (pc := 190) dX12_take_190 (k0e g18.1) (kct (k0e g18.1) rfl hct) g18.2 ?_
    refine AW.chk (fun g19 => ?_)
    refine AW.iast (pc := 191) dX12_take_191 (k0e g18.1) (kct (k0e g18.1) rfl hct) g19 ?_
    refine AW.genM (fun M20 => ?_)
    refine AW.iinc (pc := 192) (w := 2) [1, 2, 0] [(0, .ref (ad E this)), (1, .int x1), (2, .int (x2 + 1))] dX12_take_192 rfl (inc_1 _) (by decide) rfl ?_
    refine AW.goto (pc := 195) 162 dX12_take_195 (by decide) ?_
    exact hKK162 this x1 (x2 + 1) M20 hthis
set_option maxRecDepth 20000 in
set_option maxHeartbeats 4000000 in
theorem kX12_take_L162 (l : Launch) (E : Ev) (n : Nat) (hn : 1 ≤ n) (ct : Nat) (hct : 111 ≤ ct) (ex : Bool) (k : Nat) : ∀ (this : Nat) (x1 : Int32) (x2 : Int32) (M : Mem) (_ : K0 this = (0, 12)), AW l E fX12_take (fun _ => rmN n 0 0) (PQr E 0 0 ct ex enU) ct ex 0 0 162 [(0, .ref (ad E this)), (1, .int x1), (2, .int x2)] [] M (zX12_take_L162 k this x1 x2 M) := by
  induction k with
  | zero => intro this x1 x2 M _; exact AW.none
  | succ k ih =>
    intro this x1 x2 M hthis
    exact kX12_take_B162 l E n hn ct hct ex (zX12_take_L162 k) ih this x1 x2 M hthis
set_option maxRecDepth 20000 in
set_option maxHeartbeats 4000000 in
theorem kX12_take_B48 (l : Launch) (E : Ev) (n : Nat) (hn : 1 ≤ n) (ct : Nat) (hct : 111 ≤ ct) (ex : Bool) (KK48 : Nat → Int32 → Int32 → Mem → Option (Unit × Mem)) (hKK48 : ∀ (this : Nat) (x1 : Int32) (x2 : Int32) (M : Mem) (_ : K0 this = (0, 12)), AW l E fX12_take (fun _ => rmN n 0 0) (PQr E 0 0 ct ex enU) ct ex 0 0 48 [(0, .ref (ad E this)), (1, .int x1), (2, .int x2)] [] M (KK48 this x1 x2 M)) (this : Nat) (x1 : Int32) (x2 : Int32) (M : Mem) (hthis : K0 this = (0, 12)) : AW l E fX12_take (fun _ => rmN n 0 0) (PQr E 0 0 ct ex enU) ct ex 0 0 48 [(0, .ref (ad E this)), (1, .int x1), (2, .int x2)] [] M (zX12_take_B48 KK48 this x1 x2 M) := by
  unfold zX12_take_B48
  refine AW.iload_n (pc := 48) dX12_take_48 rfl 2 rfl ?_
  refine AW.bipush (pc := 49) dX12_take_49 cb_8 ?_
  refine AW.icmp_ge (pc := 51) 160 dX12_take_51 (by decide) (fun h1 => ?_) (fun h1 => ?_)
  · refine AW.iconst (pc := 160) dX12_take_160 ci_0 ?_
    refine AW.istore_n (pc := 161) [1, 2, 0] [(0, .ref (ad E this)), (1, .int x1), (2, .int 0)] dX12_take_161 rfl (by decide) rfl ?_
    exact kX12_take_L162 l E n hn ct hct ex FU this x1 0 M hthis
  · refine AW.aload_n (pc := 54) dX12_take_54 rfl 0 rfl ?_
    refine AW.chk (fun g2 => ?_)
    refine AW.getR (pc := 55) dX12_take_55 flX12_49 hthis (kct hthis rfl hct) g2 ?_
    refine AW.bipush (pc := 58) dX12_take_58 cb_8 ?_
    refine AW.iload_n (pc := 60) dX12_take_60 rfl 1 rfl ?_
    refine AW.imul (pc := 61) dX12_take_61 ?_
    refine AW.iload_n (pc := 62) dX12_take_62 rfl 2 rfl ?_
    refine AW.iadd (pc := 63) dX12_take_63 ?_
    refine AW.aload_n (pc := 64) dX12_take_64 rfl 0 rfl ?_
    refine AW.getR (pc := 65) dX12_take_65 flX12_49 hthis (kct hthis rfl hct) g2 ?_
    refine AW.bipush (pc := 68) dX12_take_68 cb_16 ?_
    refine AW.iload_n (pc := 70) dX12_take_70 rfl 2 rfl ?_
    refine AW.iadd (pc := 71) dX12_take_71 ?_
    refine AW.chk (fun g3 => ?_)
    refine AW.iald (pc := 72) dX12_take_72 (k0e g3.1) (kct (k0e g3.1) rfl hct) g3.2 ?_
    refine AW.chk (fun g4 => ?_)
    refine AW.iast (pc := 73) dX12_take_73 (k0e g3.1) (kct (k0e g3.1) rfl hct) g4 ?_
    refine AW.genM (fun M5 => ?_)
    refine AW.aload_n (pc := 74) dX12_take_74 rfl 0 rfl ?_
    refine AW.chk (fun g6 => ?_)
    refine AW.getR (pc := 75) dX12_take_75 flX12_52 hthis (kct hthis rfl hct) g6 ?_
    refine AW.bipush (pc := 78) dX12_take_78 cb_8 ?_
    refine AW.iload_n (pc := 80) dX12_take_80 rfl 1 rfl ?_
    refine AW.imul (pc := 81) dX12_take_81 ?_
    refine AW.iload_n (pc := 82) dX12_take_82 rfl 2 rfl ?_
    refine AW.iadd (pc := 83) dX12_take_83 ?_
    refine AW.aload_n (pc := 84) dX12_take_84 rfl 0 rfl ?_
    refine AW.getR (pc := 85) dX12_take_85 flX12_52 hthis (kct hthis rfl hct) g6 ?_
    refine AW.bipush (pc := 88) dX12_take_88 cb_16 ?_
    refine AW.iload_n (pc := 90) dX12_take_90 rfl 2 rfl ?_
    refine AW.iadd (pc := 91) dX12_take_91 ?_
    refine AW.chk (fun g7 => ?_)
    refine AW.iald (pc := 92) dX12_take_92 (k0e g7.1) (kct (k0e g7.1) rfl hct) g7.2 ?_
    refine AW.chk (fun g8 => ?_)
    refine AW.iast (pc := 93) dX12_take_93 (k0e g7.1) (kct (k0e g7.1) rfl hct) g8 ?_
    refine AW.genM (fun M9 => ?_)
    refine AW.aload_n (pc := 94) dX12_take_94 rfl 0 rfl ?_
    refine AW.chk (fun g10 => ?_)
    refine AW.getR (pc := 95) dX12_take_95 flX12_54 hthis (kct hthis rfl hct) g10 ?_
    refine AW.bipush (pc := 98) dX12_take_98 cb_8 ?_
    refine AW.iload_n (pc := 100) dX12_take_100 rfl 1 rfl ?_
    refine AW.imul (pc := 101) dX12_take_101 ?_
    refine AW.iload_n (pc := 102) dX12_take_102 rfl 2 rfl ?_
    refine AW.iadd (pc := 103) dX12_take_103 ?_
    refine AW.aload_n (pc := 104) dX12_take_104 rfl 0 rfl ?_
    refine AW.getR (pc := 105) dX12_take_105 flX12_54 hthis (kct hthis rfl hct) g10 ?_
    refine AW.bipush (pc := 108) dX12_take_108 cb_16 ?_
    refine AW.iload_n (pc := 110) dX12_take_110 rfl 2 rfl ?_
    refine AW.iadd (pc := 111) dX12_take_111 ?_
    refine AW.chk (fun g11 => ?_)
    refine AW.iald (pc := 112) dX12_take_112 (k0e g11.1) (kct (k0e g11.1) rfl hct) g11.2 ?_
    refine AW.chk (fun g12 => ?_)
    refine AW.iast (pc := 113) dX12_take_113 (k0e g11.1) (kct (k0e g11.1) rfl hct) g12 ?_
    refine AW.genM (fun M13 => ?_)
    refine AW.aload_n (pc := 114) dX12_take_114 rfl 0 rfl ?_
    refine AW.chk (fun g14 => ?_)
    refine AW.getR (pc := 115) dX12_take_115 flX12_56 hthis (kct hthis rfl hct) g14 ?_
    refine AW.bipush (pc := 118) dX12_take_118 cb_8 ?_
    refine AW.iload_n (pc := 120) dX12_take_120 rfl 1 rfl ?_
    refine AW.imul (pc := 121) dX12_take_121 ?_
    refine AW.iload_n (pc := 122) dX12_take_122 rfl 2 rfl ?_
    refine AW.iadd (pc := 123) dX12_take_123 ?_
    refine AW.aload_n (pc := 124) dX12_take_124 rfl 0 rfl ?_
    refine AW.getR (pc := 125) dX12_take_125 flX12_56 hthis (kct hthis rfl hct) g14 ?_
    refine AW.bipush (pc := 128) dX12_take_128 cb_16 ?_
    refine AW.iload_n (pc := 130) dX12_take_130 rfl 2 rfl ?_
    refine AW.iadd (pc := 131) dX12_take_131 ?_
    refine AW.chk (fun g15 => ?_)
    refine AW.iald (pc := 132) dX12_take_132 (k0e g15.1) (kct (k0e g15.1) rfl hct) g15.2 ?_
    refine AW.chk (fun g16 => ?_)
    refine AW.iast (pc := 133) dX12_take_133 (k0e g15.1) (kct (k0e g15.1) rfl hct) g16 ?_
    refine AW.genM (fun M17 => ?_)
    refine AW.aload_n (pc := 134) dX12_take_134 rfl 0 rfl ?_
    refine AW.chk (fun g18 => ?_)
    refine AW.getR (pc := 135) dX12_take_135 flX12_59 hthis (kct hthis rfl hct) g18 ?_
    refine AW.bipush (pc := 138) dX12_take_138 cb_8 ?_
    refine AW.iload_n (pc := 140) dX12_take_140 rfl 1 rfl ?_
    refine AW.imul (pc := 141) dX12_take_141 ?_
    refine AW.iload_n (pc := 142) dX12_take_142 rfl 2 rfl ?_
    refine AW.iadd (pc := 143) dX12_take_143 ?_
    refine AW.aload_n (pc := 144) dX12_take_144 rfl 0 rfl ?_
    refine AW.getR (pc := 145) dX12_take_145 flX12_59 hthis (kct hthis rfl hct) g18 ?_
    refine AW.bipush (pc := 148) dX12_take_148 cb_16 ?_
    refine AW.iload_n (pc := 150) dX12_take_150 rfl 2 rfl ?_
    refine AW.iadd (pc := 151) dX12_take_151 ?_
    refine AW.chk (fun g19 => ?_)
    refine AW.iald (pc := 152) dX12_take_152 (k0e g19.1) (kct (k0e g19.1) rfl hct) g19.2 ?_
    refine AW.chk (fun g20 => ?_)
    refine AW.iast (pc := 153) dX12_take_153 (k0e g19.1) (kct (k0e g19.1) rfl hct) g20 ?_
    refine AW.genM (fun M21 => ?_)
    refine AW.iinc (pc := 154) (w := 2) [1, 2, 0] [(0, .ref (ad E this)), (1, .int x1), (2, .int (x2 + 1))] dX12_take_154 rfl (inc_1 _) (by decide) rfl ?_
    refine AW.goto (pc := 157) 48 dX12_take_157 (by decide) ?_
    exact hKK48 this x1 (x2 + 1) M21 hthis
set_option maxRecDepth 20000 in
set_option maxHeartbeats 4000000 in
theorem kX12_take_L48 (l : Launch) (E : Ev) (n : Nat) (hn : 1 ≤ n) (ct : Nat) (hct : 111 ≤ ct) (ex : Bool) (k : Nat) : ∀ (this : Nat) (x1 : Int32) (x2 : Int32) (M : Mem) (_ : K0 this = (0, 12)), AW l E fX12_take (fun _ => rmN n 0 0) (PQr E 0 0 ct ex enU) ct ex 0 0 48 [(0, .ref (ad E this)), (1, .int x1), (2, .int x2)] [] M (zX12_take_L48 k this x1 x2 M) := by
  induction k with
  | zero => intro this x1 x2 M _; exact AW.none
  | succ k ih =>
    intro this x1 x2 M hthis
    exact kX12_take_B48 l E n hn ct hct ex (zX12_take_L48 k) ih this x1 x2 M hthis
set_option maxRecDepth 20000 in
set_option maxHeartbeats 4000000 in
theorem kX12_take_B14 (l : Launch) (E : Ev) (n : Nat) (hn : 1 ≤ n) (ct : Nat) (hct : 111 ≤ ct) (ex : Bool) (KK14 : Nat → Int32 → Int32 → Mem → Option (Unit × Mem)) (hKK14 : ∀ (this : Nat) (x1 : Int32) (x2 : Int32) (M : Mem) (_ : K0 this = (0, 12)), AW l E fX12_take (fun _ => rmN n 0 0) (PQr E 0 0 ct ex enU) ct ex 0 0 14 [(0, .ref (ad E this)), (1, .int x1), (2, .int x2)] [] M (KK14 this x1 x2 M)) (this : Nat) (x1 : Int32) (x2 : Int32) (M : Mem) (hthis : K0 this = (0, 12)) : AW l E fX12_take (fun _ => rmN n 0 0) (PQr E 0 0 ct ex enU) ct ex 0 0 14 [(0, .ref (ad E this)), (1, .int x1), (2, .int x2)] [] M (zX12_take_B14 KK14 this x1 x2 M) := by
  unfold zX12_take_B14
  refine AW.iload_n (pc := 14) dX12_take_14 rfl 2 rfl ?_
  refine AW.bipush (pc := 15) dX12_take_15 cb_7 ?_
  refine AW.icmp_ge (pc := 17) 46 dX12_take_17 (by decide) (fun h1 => ?_) (fun h1 => ?_)
  · refine AW.iconst (pc := 46) dX12_take_46 ci_0 ?_
    refine AW.istore_n (pc := 47) [1, 2, 0] [(0, .ref (ad E this)), (1, .int x1), (2, .int 0)] dX12_take_47 rfl (by decide) rfl ?_
    exact kX12_take_L48 l E n hn ct hct ex FU this x1 0 M hthis
  · refine AW.aload_n (pc := 20) dX12_take_20 rfl 0 rfl ?_
    refine AW.chk (fun g2 => ?_)
    refine AW.getR (pc := 21) dX12_take_21 flX12_46 hthis (kct hthis rfl hct) g2 ?_
    refine AW.bipush (pc := 24) dX12_take_24 cb_7 ?_
    refine AW.iload_n (pc := 26) dX12_take_26 rfl 1 rfl ?_
    refine AW.imul (pc := 27) dX12_take_27 ?_
    refine AW.iload_n (pc := 28) dX12_take_28 rfl 2 rfl ?_
    refine AW.iadd (pc := 29) dX12_take_29 ?_
    refine AW.aload_n (pc := 30) dX12_take_30 rfl 0 rfl ?_
    refine AW.getR (pc := 31) dX12_take_31 flX12_46 hthis (kct hthis rfl hct) g2 ?_
    refine AW.bipush (pc := 34) dX12_take_34 cb_14 ?_
    refine AW.iload_n (pc := 36) dX12_take_36 rfl 2 rfl ?_
    refine AW.iadd (pc := 37) dX12_take_37 ?_
    refine AW.chk (fun g3 => ?_)
    refine AW.iald (pc := 38) dX12_take_38 (k0e g3.1) (kct (k0e g3.1) rfl hct) g3.2 ?_
    refine AW.chk (fun g4 => ?_)
    refine AW.iast (pc := 39) dX12_take_39 (k0e g3.1) (kct (k0e g3.1) rfl hct) g4 ?_
    refine AW.genM (fun M5 => ?_)
    refine AW.iinc (pc := 40) (w := 2) [1, 2, 0] [(0, .ref (ad E this)), (1, .int x1), (2, .int (x2 + 1))] dX12_take_40 rfl (inc_1 _) (by decide) rfl ?_
    refine AW.goto (pc := 43) 14 dX12_take_43 (by decide) ?_
    exact hKK14 this x1 (x2 + 1) M5 hthis
set_option maxRecDepth 20000 in
set_option maxHeartbeats 4000000 in
theorem kX12_take_L14 (l : Launch) (E : Ev) (n : Nat) (hn : 1 ≤ n) (ct : Nat) (hct : 111 ≤ ct) (ex : Bool) (k : Nat) : ∀ (this : Nat) (x1 : Int32) (x2 : Int32) (M : Mem) (_ : K0 this = (0, 12)), AW l E fX12_take (fun _ => rmN n 0 0) (PQr E 0 0 ct ex enU) ct ex 0 0 14 [(0, .ref (ad E this)), (1, .int x1), (2, .int x2)] [] M (zX12_take_L14 k this x1 x2 M) := by
  induction k with
  | zero => intro this x1 x2 M _; exact AW.none
  | succ k ih =>
    intro this x1 x2 M hthis
    exact kX12_take_B14 l E n hn ct hct ex (zX12_take_L14 k) ih this x1 x2 M hthis
set_option maxRecDepth 20000 in
set_option maxHeartbeats 4000000 in
theorem kX12_take (l : Launch) (E : Ev) (n : Nat) (hn : 1 ≤ n) (ct : Nat) (hct : 111 ≤ ct) (ex : Bool) (this : Nat) (x1 : Int32) (M : Mem) : AM l E n ct ex yX12_take fX12_take enU [.ref (ad E this), .int x1] M (zX12_take this x1 M) := by
  unfold zX12_take
  refine AM.of (by decide +kernel) ⟨rfl, rfl, rfl⟩ (Nat.le_of_ble_eq_true rfl) ?_
  refine AW.chk (fun hthis => ?_)
  refine AW.aload_n (pc := 0) dX12_take_0 rfl 0 rfl ?_
  refine AW.chk (fun g1 => ?_)
  refine AW.getR (pc := 1) dX12_take_1 flX12_42 hthis (kct hthis rfl hct) g1 ?_
  refine AW.iload_n (pc := 4) dX12_take_4 rfl 1 rfl ?_
  refine AW.aload_n (pc := 5) dX12_take_5 rfl 0 rfl ?_
  refine AW.getR (pc := 6) dX12_take_6 flX12_42 hthis (kct hthis rfl hct) g1 ?_
  refine AW.iconst (pc := 9) dX12_take_9 ci_2 ?_
  refine AW.chk (fun g2 => ?_)
  refine AW.iald (pc := 10) dX12_take_10 (k0e g2.1) (kct (k0e g2.1) rfl hct) g2.2 ?_
  refine AW.chk (fun g3 => ?_)
  refine AW.iast (pc := 11) dX12_take_11 (k0e g2.1) (kct (k0e g2.1) rfl hct) g3 ?_
  refine AW.genM (fun M4 => ?_)
  refine AW.iconst (pc := 12) dX12_take_12 ci_0 ?_
  refine AW.istore_n (pc := 13) [1, 2, 0] [(0, .ref (ad E this)), (1, .int x1), (2, .int 0)] dX12_take_13 rfl (by decide) rfl ?_
  exact kX12_take_L14 l E n hn ct hct ex FU this x1 0 M4 hthis
-- GateBoxModel.gate(II)I
def zX12_gate_B100 (this : Nat) (x1 : Int32) (M : Mem) : Option (Int32 × Mem) :=
  if (mI M this 27) = 0 then
    bnd (zX12_take this x1 M) fun _ M2 =>
    some (0, M2)
  else
    lt (sI M this 29 (mI M this 28)) fun M3 =>
    if mR M3 this 18 ≠ 0 then
    if (K0 (mR M3 this 18)).1 = 1 ∧ inb 0 (K0 (mR M3 this 18)).2 = true then
    if inb 0 (K0 (mR M3 this 18)).2 = true then
    lt (sI M3 (mR M3 this 18) (Int32.toNatClampNeg 0) ((mI M3 (mR M3 this 18) (Int32.toNatClampNeg 0)) + 1)) fun M7 =>
    some (mI M7 this 27, M7)
    else none
    else none
    else none
def zX12_gate_B77 (KK77 : Nat → Int32 → Int32 → Mem → Option (Int32 × Mem)) (this : Nat) (x1 : Int32) (x3 : Int32) (M : Mem) : Option (Int32 × Mem) :=
  if (mI M this 27) = 0 then
    if (mI M this 23) = 0 then
      zX12_gate_B100 this x1 M
    else
      bnd (zX12_readClause this x3 M) fun v3 M4 =>
      KK77 this x1 v3 M4
  else
    zX12_gate_B100 this x1 M
def zX12_gate_L77 : Nat → Nat → Int32 → Int32 → Mem → Option (Int32 × Mem)
  | 0 => fun _ _ _ _ => none
  | k + 1 => zX12_gate_B77 (zX12_gate_L77 k)
def zX12_gate_B30 (this : Nat) (M : Mem) : Option (Int32 × Mem) :=
  bnd (zX12_fail this 2 M) fun v1 M2 =>
  some (v1, M2)
def zX12_gate (this : Nat) (x1 : Int32) (x2 : Int32) (M : Mem) : Option (Int32 × Mem) :=
  if K0 this = (0, 12) then
  lt (sI M this 2 0) fun M1 =>
  bnd (zX12_isGate x1 M1) fun v2 M3 =>
  if v2 = 0 then
    bnd (zX12_fail this 1 M3) fun v5 M6 =>
    some (v5, M6)
  else
    if x2 < 0 then
      zX12_gate_B30 this M3
    else
      if x2 ≤ (mI M3 this 20) then
        lt (sI M3 this 20 0) fun M9 =>
        lt (sI M9 this 22 x2) fun M10 =>
        lt (sI M10 this 21 0) fun M11 =>
        lt (sI M11 this 27 0) fun M12 =>
        lt (sI M12 this 29 (-1)) fun M13 =>
        lt (sI M13 this 30 0) fun M14 =>
        bnd (zX12_atFirst this 2 M14) fun _ M15 =>
        bnd (zX12_stepOn this M15) fun _ M16 =>
        zX12_gate_L77 FU this x1 0 M16
      else
        zX12_gate_B30 this M3
  else none
set_option maxRecDepth 20000 in
set_option maxHeartbeats 4000000 in
theorem kX12_gate_B100 (l : Launch) (E : Ev) (n : Nat) (hn : 85 ≤ n) (ct : Nat) (hct : 111 ≤ ct) (ex : Bool) (this : Nat) (x1 : Int32) (M : Mem) (hthis : K0 this = (0, 12)) : AW l E fX12_gate (fun _ => rmN n 0 0) (PQr E 0 0 ct ex enI) ct ex 0 0 100 [(0, .ref (ad E this)), (1, .int x1)] [] M (zX12_gate_B100 this x1 M) := by
  unfold zX12_gate_B100
  refine AW.aload_n (pc := 100) dX12_gate_100 rfl 0 rfl ?_
  refine AW.getI (pc := 101) dX12_gate_101 flX12_213 hthis (kct hthis rfl hct) ?_
  refine AW.if_eq (pc := 104) 130 dX12_gate_104 (by decide) (fun h1 => ?_) (fun h1 => ?_)
  · refine AW.aload_n (pc := 130) dX12_gate_130 rfl 0 rfl ?_
    refine AW.iload_n (pc := 131) dX12_gate_131 rfl 1 rfl ?_
    refine AW.cV1v (pc := 132) dX12_gate_132 mlX12_295 mbX12_take rfl hthis (kct hthis rfl hct) (fun _ => okR_N (by omega)) (kX12_take l E (n - 1) (by omega) ct hct ex this x1 M) (Nat.le_of_ble_eq_true rfl) (fun _ M2 => ?_)
    refine AW.iconst (pc := 135) dX12_gate_135 ci_0 ?_
    exact AW.iret (pc := 136) dX12_gate_136 rfl (fun _ _ _ => rfl) (Nat.le_refl _) (Nat.le_refl _)
  · refine AW.aload_n (pc := 107) dX12_gate_107 rfl 0 rfl ?_
    refine AW.aload_n (pc := 108) dX12_gate_108 rfl 0 rfl ?_
    refine AW.getI (pc := 109) dX12_gate_109 flX12_216 hthis (kct hthis rfl hct) ?_
    refine AW.putI (pc := 112) dX12_gate_112 flX12_92 hthis (kct hthis rfl hct) ?_
    refine AW.genM (fun M3 => ?_)
    refine AW.aload_n (pc := 115) dX12_gate_115 rfl 0 rfl ?_
    refine AW.chk (fun g4 => ?_)
    refine AW.getR (pc := 116) dX12_gate_116 flX12_86 hthis (kct hthis rfl hct) g4 ?_
    refine AW.iconst (pc := 119) dX12_gate_119 ci_0 ?_
    refine AW.dup2 (pc := 120) dX12_gate_120 rfl rfl ?_
    refine AW.chk (fun g5 => ?_)
    refine AW.iald (pc := 121) dX12_gate_121 (k0e g5.1) (kct (k0e g5.1) rfl hct) g5.2 ?_
    refine AW.iconst (pc := 122) dX12_gate_122 ci_1 ?_
    refine AW.iadd (pc := 123) dX12_gate_123 ?_
    refine AW.chk (fun g6 => ?_)
    refine AW.iast (pc := 124) dX12_gate_124 (k0e g5.1) (kct (k0e g5.1) rfl hct) g6 ?_
    refine AW.genM (fun M7 => ?_)
    refine AW.aload_n (pc := 125) dX12_gate_125 rfl 0 rfl ?_
    refine AW.getI (pc := 126) dX12_gate_126 flX12_213 hthis (kct hthis rfl hct) ?_
    exact AW.iret (pc := 129) dX12_gate_129 rfl (fun _ _ _ => rfl) (Nat.le_refl _) (Nat.le_refl _)
set_option maxRecDepth 20000 in
set_option maxHeartbeats 4000000 in
theorem kX12_gate_B77 (l : Launch) (E : Ev) (n : Nat) (hn : 85 ≤ n) (ct : Nat) (hct : 111 ≤ ct) (ex : Bool) (KK77 : Nat → Int32 → Int32 → Mem → Option (Int32 × Mem)) (hKK77 : ∀ (this : Nat) (x1 : Int32) (x3 : Int32) (M : Mem) (_ : K0 this = (0, 12)), AW l E fX12_gate (fun _ => rmN n 0 0) (PQr E 0 0 ct ex enI) ct ex 0 0 77 [(0, .ref (ad E this)), (1, .int x1), (3, .int x3)] [] M (KK77 this x1 x3 M)) (this : Nat) (x1 : Int32) (x3 : Int32) (M : Mem) (hthis : K0 this = (0, 12)) : AW l E fX12_gate (fun _ => rmN n 0 0) (PQr E 0 0 ct ex enI) ct ex 0 0 77 [(0, .ref (ad E this)), (1, .int x1), (3, .int x3)] [] M (zX12_gate_B77 KK77 this x1 x3 M) := by
  unfold zX12_gate_B77
  refine AW.aload_n (pc := 77) dX12_gate_77 rfl 0 rfl ?_
  refine AW.getI (pc := 78) dX12_gate_78 flX12_213 hthis (kct hthis rfl hct) ?_
  refine AW.if_ne (pc := 81) 100 dX12_gate_81 (by decide) (fun h1 => ?_) (fun h1 => ?_)
  · refine AW.aload_n (pc := 84) dX12_gate_84 rfl 0 rfl ?_
    refine AW.getI (pc := 85) dX12_gate_85 flX12_189 hthis (kct hthis rfl hct) ?_
    refine AW.if_eq (pc := 88) 100 dX12_gate_88 (by decide) (fun h2 => ?_) (fun h2 => ?_)
    · exact AW.sub [0, 1] rfl (kX12_gate_B100 l E n hn ct hct ex this x1 M hthis)
    · refine AW.aload_n (pc := 91) dX12_gate_91 rfl 0 rfl ?_
      refine AW.iload_n (pc := 92) dX12_gate_92 rfl 2 rfl ?_
      refine AW.cV1i (pc := 93) dX12_gate_93 mlX12_292 mbX12_readClause rfl hthis (kct hthis rfl hct) (fun _ => okR_N (by omega)) (kX12_readClause l E (n - 1) (by omega) ct hct ex this x3 M) (Nat.le_of_ble_eq_true rfl) (fun v3 M4 => ?_)
      refine AW.istore_n (pc := 96) [1, 2, 0] [(0, .ref (ad E this)), (1, .int x1), (3, .int v3)] dX12_gate_96 rfl (by decide) rfl ?_
      refine AW.goto (pc := 97) 77 dX12_gate_97 (by decide) ?_
      exact hKK77 this x1 v3 M4 hthis
  · exact AW.sub [0, 1] rfl (kX12_gate_B100 l E n hn ct hct ex this x1 M hthis)
set_option maxRecDepth 20000 in
set_option maxHeartbeats 4000000 in
theorem kX12_gate_L77 (l : Launch) (E : Ev) (n : Nat) (hn : 85 ≤ n) (ct : Nat) (hct : 111 ≤ ct) (ex : Bool) (k : Nat) : ∀ (this : Nat) (x1 : Int32) (x3 : Int32) (M : Mem) (_ : K0 this = (0, 12)), AW l E fX12_gate (fun _ => rmN n 0 0) (PQr E 0 0 ct ex enI) ct ex 0 0 77 [(0, .ref (ad E this)), (1, .int x1), (3, .int x3)] [] M (zX12_gate_L77 k this x1 x3 M) := by
  induction k with
  | zero => intro this x1 x3 M _; exact AW.none
  | succ k ih =>
    intro this x1 x3 M hthis
    exact kX12_gate_B77 l E n hn ct hct ex (zX12_gate_L77 k) ih this x1 x3 M hthis
set_option maxRecDepth 20000 in
set_option maxHeartbeats 4000000 in
theorem kX12_gate_B30 (l : Launch) (E : Ev) (n : Nat) (hn : 85 ≤ n) (ct : Nat) (hct : 111 ≤ ct) (ex : Bool) (this : Nat) (M : Mem) (hthis : K0 this = (0, 12)) : AW l E fX12_gate (fun _ => rmN n 0 0) (PQr E 0 0 ct ex enI) ct ex 0 0 30 [(0, .ref (ad E this))] [] M (zX12_gate_B30 this M) := by
  unfold zX12_gate_B30
  refine AW.aload_n (pc := 30) dX12_gate_30 rfl 0 rfl ?_
  refine AW.iconst (pc := 31) dX12_gate_31 ci_2 ?_
  refine AW.cV1i (pc := 32) dX12_gate_32 mlX12_289 mbX12_fail rfl hthis (kct hthis rfl hct) (fun _ => okR_N (by omega)) (kX12_fail l E (n - 1) (by omega) ct hct ex this 2 M) (Nat.le_of_ble_eq_true rfl) (fun v1 M2 => ?_)
  exact AW.iret (pc := 35) dX12_gate_35 rfl (fun _ _ _ => rfl) (Nat.le_refl _) (Nat.le_refl _)
set_option maxRecDepth 20000 in
set_option maxHeartbeats 4000000 in
theorem kX12_gate (l : Launch) (E : Ev) (n : Nat) (hn : 85 ≤ n) (ct : Nat) (hct : 111 ≤ ct) (ex : Bool) (this : Nat) (x1 : Int32) (x2 : Int32) (M : Mem) : AM l E n ct ex yX12_gate fX12_gate enI [.ref (ad E this), .int x1, .int x2] M (zX12_gate this x1 x2 M) := by
  unfold zX12_gate
  refine AM.of (by decide +kernel) ⟨rfl, rfl, rfl⟩ (Nat.le_of_ble_eq_true rfl) ?_
  refine AW.chk (fun hthis => ?_)
  refine AW.aload_n (pc := 0) dX12_gate_0 rfl 0 rfl ?_
  refine AW.iconst (pc := 1) dX12_gate_1 ci_0 ?_
  refine AW.putI (pc := 2) dX12_gate_2 flX12_159 hthis (kct hthis rfl hct) ?_
  refine AW.genM (fun M1 => ?_)
  refine AW.iload_n (pc := 5) dX12_gate_5 rfl 1 rfl ?_
  refine AW.cS1i (pc := 6) dX12_gate_6 mlX12_166 mbX12_isGate (fun _ => okR_N (by omega)) (kX12_isGate l E (n - 1) (by omega) ct hct ex x1 M1) (Nat.le_of_ble_eq_true rfl) (fun v2 M3 => ?_)
  refine AW.if_ne (pc := 9) 18 dX12_gate_9 (by decide) (fun h4 => ?_) (fun h4 => ?_)
  · refine AW.aload_n (pc := 12) dX12_gate_12 rfl 0 rfl ?_
    refine AW.iconst (pc := 13) dX12_gate_13 ci_1 ?_
    refine AW.cV1i (pc := 14) dX12_gate_14 mlX12_289 mbX12_fail rfl hthis (kct hthis rfl hct) (fun _ => okR_N (by omega)) (kX12_fail l E (n - 1) (by omega) ct hct ex this 1 M3) (Nat.le_of_ble_eq_true rfl) (fun v5 M6 => ?_)
    exact AW.iret (pc := 17) dX12_gate_17 rfl (fun _ _ _ => rfl) (Nat.le_refl _) (Nat.le_refl _)
  · refine AW.iload_n (pc := 18) dX12_gate_18 rfl 2 rfl ?_
    refine AW.if_lt (pc := 19) 30 dX12_gate_19 (by decide) (fun h7 => ?_) (fun h7 => ?_)
    · exact AW.sub [0] rfl (kX12_gate_B30 l E n hn ct hct ex this M3 hthis)
    · refine AW.iload_n (pc := 22) dX12_gate_22 rfl 2 rfl ?_
      refine AW.aload_n (pc := 23) dX12_gate_23 rfl 0 rfl ?_
      refine AW.getI (pc := 24) dX12_gate_24 flX12_174 hthis (kct hthis rfl hct) ?_
      refine AW.icmp_le (pc := 27) 36 dX12_gate_27 (by decide) (fun h8 => ?_) (fun h8 => ?_)
      · refine AW.aload_n (pc := 36) dX12_gate_36 rfl 0 rfl ?_
        refine AW.iconst (pc := 37) dX12_gate_37 ci_0 ?_
        refine AW.putI (pc := 38) dX12_gate_38 flX12_174 hthis (kct hthis rfl hct) ?_
        refine AW.genM (fun M9 => ?_)
        refine AW.aload_n (pc := 41) dX12_gate_41 rfl 0 rfl ?_
        refine AW.iload_n (pc := 42) dX12_gate_42 rfl 2 rfl ?_
        refine AW.putI (pc := 43) dX12_gate_43 flX12_177 hthis (kct hthis rfl hct) ?_
        refine AW.genM (fun M10 => ?_)
        refine AW.aload_n (pc := 46) dX12_gate_46 rfl 0 rfl ?_
        refine AW.iconst (pc := 47) dX12_gate_47 ci_0 ?_
        refine AW.putI (pc := 48) dX12_gate_48 flX12_180 hthis (kct hthis rfl hct) ?_
        refine AW.genM (fun M11 => ?_)
        refine AW.aload_n (pc := 51) dX12_gate_51 rfl 0 rfl ?_
        refine AW.iconst (pc := 52) dX12_gate_52 ci_0 ?_
        refine AW.putI (pc := 53) dX12_gate_53 flX12_213 hthis (kct hthis rfl hct) ?_
        refine AW.genM (fun M12 => ?_)
        refine AW.aload_n (pc := 56) dX12_gate_56 rfl 0 rfl ?_
        refine AW.iconst (pc := 57) dX12_gate_57 ci_m1 ?_
        refine AW.putI (pc := 58) dX12_gate_58 flX12_92 hthis (kct hthis rfl hct) ?_
        refine AW.genM (fun M13 => ?_)
        refine AW.aload_n (pc := 61) dX12_gate_61 rfl 0 rfl ?_
        refine AW.iconst (pc := 62) dX12_gate_62 ci_0 ?_
        refine AW.putI (pc := 63) dX12_gate_63 flX12_240 hthis (kct hthis rfl hct) ?_
        refine AW.genM (fun M14 => ?_)
        refine AW.aload_n (pc := 66) dX12_gate_66 rfl 0 rfl ?_
        refine AW.iconst (pc := 67) dX12_gate_67 ci_2 ?_
        refine AW.cV1v (pc := 68) dX12_gate_68 mlX12_155 mbX12_atFirst rfl hthis (kct hthis rfl hct) (fun _ => okR_N (by omega)) (kX12_atFirst l E (n - 1) (by omega) ct (Nat.le_of_succ_le hct) ex this 2 M14) (Nat.le_of_ble_eq_true rfl) (fun _ M15 => ?_)
        refine AW.aload_n (pc := 71) dX12_gate_71 rfl 0 rfl ?_
        refine AW.cV0v (pc := 72) dX12_gate_72 mlX12_234 mbX12_stepOn rfl hthis (kct hthis rfl hct) (fun _ => okR_N (by omega)) (kX12_stepOn l E (n - 1) (by omega) ct hct ex this M15) (Nat.le_of_ble_eq_true rfl) (fun _ M16 => ?_)
        refine AW.iconst (pc := 75) dX12_gate_75 ci_0 ?_
        refine AW.istore_n (pc := 76) [1, 2, 0] [(0, .ref (ad E this)), (1, .int x1), (3, .int 0)] dX12_gate_76 rfl (by decide) rfl ?_
        exact kX12_gate_L77 l E n hn ct hct ex FU this x1 0 M16 hthis
      · exact AW.sub [0] rfl (kX12_gate_B30 l E n hn ct hct ex this M3 hthis)
-- GateBoxModel.fault()I
def zX12_fault (this : Nat) (M : Mem) : Option (Int32 × Mem) :=
  if K0 this = (0, 12) then
  lt (sI M this 2 0) fun M1 =>
  some (mI M1 this 29, M1)
  else none
set_option maxRecDepth 20000 in
set_option maxHeartbeats 4000000 in
theorem kX12_fault (l : Launch) (E : Ev) (n : Nat) (hn : 1 ≤ n) (ct : Nat) (hct : 111 ≤ ct) (ex : Bool) (this : Nat) (M : Mem) : AM l E n ct ex yX12_fault fX12_fault enI [.ref (ad E this)] M (zX12_fault this M) := by
  unfold zX12_fault
  refine AM.of (by decide +kernel) ⟨rfl, rfl, rfl⟩ (Nat.le_of_ble_eq_true rfl) ?_
  refine AW.chk (fun hthis => ?_)
  refine AW.aload_n (pc := 0) dX12_fault_0 rfl 0 rfl ?_
  refine AW.iconst (pc := 1) dX12_fault_1 ci_0 ?_
  refine AW.putI (pc := 2) dX12_fault_2 flX12_159 hthis (kct hthis rfl hct) ?_
  refine AW.genM (fun M1 => ?_)
  refine AW.aload_n (pc := 5) dX12_fault_5 rfl 0 rfl ?_
  refine AW.getI (pc := 6) dX12_fault_6 flX12_92 hthis (kct hthis rfl hct) ?_
  exact AW.iret (pc := 9) dX12_fault_9 rfl (fun _ _ _ => rfl) (Nat.le_refl _) (Nat.le_refl _)
-- GateBoxModel.count(I)I
def zX12_count (this : Nat) (x1 : Int32) (M : Mem) : Option (Int32 × Mem) :=
  if K0 this = (0, 12) then
  lt (sI M this 2 0) fun M1 =>
  if x1 = 0 then
    some (mI M1 this 20, M1)
  else
    bnd (zX12_isIn x1 1 3 M1) fun v3 M4 =>
    if v3 = 0 then
      bnd (zX12_fail this 1 M4) fun v6 M7 =>
      some (v6, M7)
    else
      if mR M4 this 18 ≠ 0 then
      if (K0 (mR M4 this 18)).1 = 1 ∧ inb (x1 - 1) (K0 (mR M4 this 18)).2 = true then
      some (mI M4 (mR M4 this 18) (Int32.toNatClampNeg (x1 - 1)), M4)
      else none
      else none
  else none
set_option maxRecDepth 20000 in
set_option maxHeartbeats 4000000 in
theorem kX12_count (l : Launch) (E : Ev) (n : Nat) (hn : 2 ≤ n) (ct : Nat) (hct : 111 ≤ ct) (ex : Bool) (this : Nat) (x1 : Int32) (M : Mem) : AM l E n ct ex yX12_count fX12_count enI [.ref (ad E this), .int x1] M (zX12_count this x1 M) := by
  unfold zX12_count
  refine AM.of (by decide +kernel) ⟨rfl, rfl, rfl⟩ (Nat.le_of_ble_eq_true rfl) ?_
  refine AW.chk (fun hthis => ?_)
  refine AW.aload_n (pc := 0) dX12_count_0 rfl 0 rfl ?_
  refine AW.iconst (pc := 1) dX12_count_1 ci_0 ?_
  refine AW.putI (pc := 2) dX12_count_2 flX12_159 hthis (kct hthis rfl hct) ?_
  refine AW.genM (fun M1 => ?_)
  refine AW.iload_n (pc := 5) dX12_count_5 rfl 1 rfl ?_
  refine AW.if_ne (pc := 6) 16 dX12_count_6 (by decide) (fun h2 => ?_) (fun h2 => ?_)
  · refine AW.aload_n (pc := 9) dX12_count_9 rfl 0 rfl ?_
    refine AW.getI (pc := 10) dX12_count_10 flX12_174 hthis (kct hthis rfl hct) ?_
    refine AW.goto (pc := 13) 41 dX12_count_13 (by decide) ?_
    exact AW.iret (pc := 41) dX12_count_41 rfl (fun _ _ _ => rfl) (Nat.le_refl _) (Nat.le_refl _)
  · refine AW.iload_n (pc := 16) dX12_count_16 rfl 1 rfl ?_
    refine AW.iconst (pc := 17) dX12_count_17 ci_1 ?_
    refine AW.iconst (pc := 18) dX12_count_18 ci_3 ?_
    refine AW.cS3i (pc := 19) dX12_count_19 mlX12_162 mbX12_isIn (fun _ => okR_N (by omega)) (kX12_isIn l E (n - 1) (by omega) ct hct ex x1 1 3 M1) (Nat.le_of_ble_eq_true rfl) (fun v3 M4 => ?_)
    refine AW.if_eq (pc := 22) 36 dX12_count_22 (by decide) (fun h5 => ?_) (fun h5 => ?_)
    · refine AW.aload_n (pc := 36) dX12_count_36 rfl 0 rfl ?_
      refine AW.iconst (pc := 37) dX12_count_37 ci_1 ?_
      refine AW.cV1i (pc := 38) dX12_count_38 mlX12_289 mbX12_fail rfl hthis (kct hthis rfl hct) (fun _ => okR_N (by omega)) (kX12_fail l E (n - 1) (by omega) ct hct ex this 1 M4) (Nat.le_of_ble_eq_true rfl) (fun v6 M7 => ?_)
      exact AW.iret (pc := 41) dX12_count_41 rfl (fun _ _ _ => rfl) (Nat.le_refl _) (Nat.le_refl _)
    · refine AW.aload_n (pc := 25) dX12_count_25 rfl 0 rfl ?_
      refine AW.chk (fun g8 => ?_)
      refine AW.getR (pc := 26) dX12_count_26 flX12_86 hthis (kct hthis rfl hct) g8 ?_
      refine AW.iload_n (pc := 29) dX12_count_29 rfl 1 rfl ?_
      refine AW.iconst (pc := 30) dX12_count_30 ci_1 ?_
      refine AW.isub (pc := 31) dX12_count_31 ?_
      refine AW.chk (fun g9 => ?_)
      refine AW.iald (pc := 32) dX12_count_32 (k0e g9.1) (kct (k0e g9.1) rfl hct) g9.2 ?_
      refine AW.goto (pc := 33) 41 dX12_count_33 (by decide) ?_
      exact AW.iret (pc := 41) dX12_count_41 rfl (fun _ _ _ => rfl) (Nat.le_refl _) (Nat.le_refl _)
-- GateBoxModel.oddsOf(I)I
def zX12_oddsOf_B4 (KK4 : Nat → Int32 → Int32 → Int32 → Mem → Option (Int32 × Mem)) (this : Nat) (x1 : Int32) (x2 : Int32) (x3 : Int32) (M : Mem) : Option (Int32 × Mem) :=
  if mR M this 3 ≠ 0 then
  if (K0 (mR M this 3)).1 = 1 ∧ inb x1 (K0 (mR M this 3)).2 = true then
  if (mI M (mR M this 3) (Int32.toNatClampNeg x1)) ≤ x3 then
    some (x2, M)
  else
    if mR M this 5 ≠ 0 then
    if (K0 (mR M this 5)).1 = 1 ∧ inb ((8 * x1) + x3) (K0 (mR M this 5)).2 = true then
    lt (x2 + (mI M (mR M this 5) (Int32.toNatClampNeg ((8 * x1) + x3)))) fun v6 =>
    KK4 this x1 v6 (x3 + 1) M
    else none
    else none
  else none
  else none
def zX12_oddsOf_L4 : Nat → Nat → Int32 → Int32 → Int32 → Mem → Option (Int32 × Mem)
  | 0 => fun _ _ _ _ _ => none
  | k + 1 => zX12_oddsOf_B4 (zX12_oddsOf_L4 k)
def zX12_oddsOf (this : Nat) (x1 : Int32) (M : Mem) : Option (Int32 × Mem) :=
  if K0 this = (0, 12) then
  zX12_oddsOf_L4 FU this x1 0 0 M
  else none
set_option maxRecDepth 20000 in
set_option maxHeartbeats 4000000 in
theorem kX12_oddsOf_B4 (l : Launch) (E : Ev) (n : Nat) (hn : 1 ≤ n) (ct : Nat) (hct : 111 ≤ ct) (ex : Bool) (KK4 : Nat → Int32 → Int32 → Int32 → Mem → Option (Int32 × Mem)) (hKK4 : ∀ (this : Nat) (x1 : Int32) (x2 : Int32) (x3 : Int32) (M : Mem) (_ : K0 this = (0, 12)), AW l E fX12_oddsOf (fun _ => rmN n 0 0) (PQr E 0 0 ct ex enI) ct ex 0 0 4 [(0, .ref (ad E this)), (1, .int x1), (2, .int x2), (3, .int x3)] [] M (KK4 this x1 x2 x3 M)) (this : Nat) (x1 : Int32) (x2 : Int32) (x3 : Int32) (M : Mem) (hthis : K0 this = (0, 12)) : AW l E fX12_oddsOf (fun _ => rmN n 0 0) (PQr E 0 0 ct ex enI) ct ex 0 0 4 [(0, .ref (ad E this)), (1, .int x1), (2, .int x2), (3, .int x3)] [] M (zX12_oddsOf_B4 KK4 this x1 x2 x3 M) := by
  unfold zX12_oddsOf_B4
  refine AW.iload_n (pc := 4) dX12_oddsOf_4 rfl 3 rfl ?_
  refine AW.aload_n (pc := 5) dX12_oddsOf_5 rfl 0 rfl ?_
  refine AW.chk (fun g1 => ?_)
  refine AW.getR (pc := 6) dX12_oddsOf_6 flX12_42 hthis (kct hthis rfl hct) g1 ?_
  refine AW.iload_n (pc := 9) dX12_oddsOf_9 rfl 1 rfl ?_
  refine AW.chk (fun g2 => ?_)
  refine AW.iald (pc := 10) dX12_oddsOf_10 (k0e g2.1) (kct (k0e g2.1) rfl hct) g2.2 ?_
  refine AW.icmp_ge (pc := 11) 34 dX12_oddsOf_11 (by decide) (fun h3 => ?_) (fun h3 => ?_)
  · refine AW.iload_n (pc := 34) dX12_oddsOf_34 rfl 2 rfl ?_
    exact AW.iret (pc := 35) dX12_oddsOf_35 rfl (fun _ _ _ => rfl) (Nat.le_refl _) (Nat.le_refl _)
  · refine AW.iload_n (pc := 14) dX12_oddsOf_14 rfl 2 rfl ?_
    refine AW.aload_n (pc := 15) dX12_oddsOf_15 rfl 0 rfl ?_
    refine AW.chk (fun g4 => ?_)
    refine AW.getR (pc := 16) dX12_oddsOf_16 flX12_49 hthis (kct hthis rfl hct) g4 ?_
    refine AW.bipush (pc := 19) dX12_oddsOf_19 cb_8 ?_
    refine AW.iload_n (pc := 21) dX12_oddsOf_21 rfl 1 rfl ?_
    refine AW.imul (pc := 22) dX12_oddsOf_22 ?_
    refine AW.iload_n (pc := 23) dX12_oddsOf_23 rfl 3 rfl ?_
    refine AW.iadd (pc := 24) dX12_oddsOf_24 ?_
    refine AW.chk (fun g5 => ?_)
    refine AW.iald (pc := 25) dX12_oddsOf_25 (k0e g5.1) (kct (k0e g5.1) rfl hct) g5.2 ?_
    refine AW.iadd (pc := 26) dX12_oddsOf_26 ?_
    refine AW.genI (fun v6 => ?_)
    refine AW.istore_n (pc := 27) [1, 2, 0, 3] [(0, .ref (ad E this)), (1, .int x1), (2, .int v6), (3, .int x3)] dX12_oddsOf_27 rfl (by decide) rfl ?_
    refine AW.iinc (pc := 28) (w := 3) [1, 2, 3, 0] [(0, .ref (ad E this)), (1, .int x1), (2, .int v6), (3, .int (x3 + 1))] dX12_oddsOf_28 rfl (inc_1 _) (by decide) rfl ?_
    refine AW.goto (pc := 31) 4 dX12_oddsOf_31 (by decide) ?_
    exact hKK4 this x1 v6 (x3 + 1) M hthis
set_option maxRecDepth 20000 in
set_option maxHeartbeats 4000000 in
theorem kX12_oddsOf_L4 (l : Launch) (E : Ev) (n : Nat) (hn : 1 ≤ n) (ct : Nat) (hct : 111 ≤ ct) (ex : Bool) (k : Nat) : ∀ (this : Nat) (x1 : Int32) (x2 : Int32) (x3 : Int32) (M : Mem) (_ : K0 this = (0, 12)), AW l E fX12_oddsOf (fun _ => rmN n 0 0) (PQr E 0 0 ct ex enI) ct ex 0 0 4 [(0, .ref (ad E this)), (1, .int x1), (2, .int x2), (3, .int x3)] [] M (zX12_oddsOf_L4 k this x1 x2 x3 M) := by
  induction k with
  | zero => intro this x1 x2 x3 M _; exact AW.none
  | succ k ih =>
    intro this x1 x2 x3 M hthis
    exact kX12_oddsOf_B4 l E n hn ct hct ex (zX12_oddsOf_L4 k) ih this x1 x2 x3 M hthis
set_option maxRecDepth 20000 in
set_option maxHeartbeats 4000000 in
theorem kX12_oddsOf (l : Launch) (E : Ev) (n : Nat) (hn : 1 ≤ n) (ct : Nat) (hct : 111 ≤ ct) (ex : Bool) (this : Nat) (x1 : Int32) (M : Mem) : AM l E n ct ex yX12_oddsOf fX12_oddsOf enI [.ref (ad E this), .int x1] M (zX12_oddsOf this x1 M) := by
  unfold zX12_oddsOf
  refine AM.of (by decide +kernel) ⟨rfl, rfl, rfl⟩ (Nat.le_of_ble_eq_true rfl) ?_
  refine AW.chk (fun hthis => ?_)
  refine AW.iconst (pc := 0) dX12_oddsOf_0 ci_0 ?_
  refine AW.istore_n (pc := 1) [1, 2, 0] [(0, .ref (ad E this)), (1, .int x1), (2, .int 0)] dX12_oddsOf_1 rfl (by decide) rfl ?_
  refine AW.iconst (pc := 2) dX12_oddsOf_2 ci_0 ?_
  refine AW.istore_n (pc := 3) [1, 2, 3, 0] [(0, .ref (ad E this)), (1, .int x1), (2, .int 0), (3, .int 0)] dX12_oddsOf_3 rfl (by decide) rfl ?_
  exact kX12_oddsOf_L4 l E n hn ct hct ex FU this x1 0 0 M hthis
-- GateBoxModel.about(II)I
def zX12_about (this : Nat) (x1 : Int32) (x2 : Int32) (M : Mem) : Option (Int32 × Mem) :=
  if K0 this = (0, 12) then
  lt (sI M this 2 0) fun M1 =>
  bnd (zX12_isGate x1 M1) fun v2 M3 =>
  if v2 = 0 then
    bnd (zX12_fail this 1 M3) fun v5 M6 =>
    some (v5, M6)
  else
    bnd (zX12_isIn x2 1 7 M3) fun v7 M8 =>
    if v7 = 0 then
      if x2 = 0 then
        if mR M8 this 3 ≠ 0 then
        if (K0 (mR M8 this 3)).1 = 1 ∧ inb x1 (K0 (mR M8 this 3)).2 = true then
        some (mI M8 (mR M8 this 3) (Int32.toNatClampNeg x1), M8)
        else none
        else none
      else
      if x2 = 1 then
        bnd (zX12_fail this 1 M8) fun v14 M15 =>
        some (v14, M15)
      else
      if x2 = 2 then
        bnd (zX12_fail this 1 M8) fun v17 M18 =>
        some (v17, M18)
      else
      if x2 = 3 then
        bnd (zX12_fail this 1 M8) fun v20 M21 =>
        some (v20, M21)
      else
      if x2 = 4 then
        bnd (zX12_fail this 1 M8) fun v23 M24 =>
        some (v23, M24)
      else
      if x2 = 5 then
        bnd (zX12_fail this 1 M8) fun v26 M27 =>
        some (v26, M27)
      else
      if x2 = 6 then
        bnd (zX12_fail this 1 M8) fun v29 M30 =>
        some (v29, M30)
      else
      if x2 = 7 then
        bnd (zX12_fail this 1 M8) fun v32 M33 =>
        some (v32, M33)
      else
      if x2 = 8 then
        bnd (zX12_oddsOf this x1 M8) fun v35 M36 =>
        some (v35, M36)
      else
      if x2 = 9 then
        if mR M8 this 11 ≠ 0 then
        if (K0 (mR M8 this 11)).1 = 1 ∧ inb x1 (K0 (mR M8 this 11)).2 = true then
        some (mI M8 (mR M8 this 11) (Int32.toNatClampNeg x1), M8)
        else none
        else none
      else
      if x2 = 10 then
        if mR M8 this 13 ≠ 0 then
        if (K0 (mR M8 this 13)).1 = 1 ∧ inb x1 (K0 (mR M8 this 13)).2 = true then
        some (mI M8 (mR M8 this 13) (Int32.toNatClampNeg x1), M8)
        else none
        else none
      else
      if x2 = 11 then
        if mR M8 this 15 ≠ 0 then
        if (K0 (mR M8 this 15)).1 = 1 ∧ inb x1 (K0 (mR M8 this 15)).2 = true then
        some (mI M8 (mR M8 this 15) (Int32.toNatClampNeg x1), M8)
        else none
        else none
      else
      if x2 = 12 then
        if mR M8 this 16 ≠ 0 then
        if (K0 (mR M8 this 16)).1 = 1 ∧ inb x1 (K0 (mR M8 this 16)).2 = true then
        some (mI M8 (mR M8 this 16) (Int32.toNatClampNeg x1), M8)
        else none
        else none
      else
      if x2 = 13 then
        if mR M8 this 12 ≠ 0 then
        if (K0 (mR M8 this 12)).1 = 1 ∧ inb x1 (K0 (mR M8 this 12)).2 = true then
        some (mI M8 (mR M8 this 12) (Int32.toNatClampNeg x1), M8)
        else none
        else none
      else
      bnd (zX12_fail this 1 M8) fun v52 M53 =>
      some (v52, M53)
    else
      if mR M8 this 4 ≠ 0 then
      if (K0 (mR M8 this 4)).1 = 1 ∧ inb (((7 * x1) + x2) - 1) (K0 (mR M8 this 4)).2 = true then
      some (mI M8 (mR M8 this 4) (Int32.toNatClampNeg (((7 * x1) + x2) - 1)), M8)
      else none
      else none
  else none
set_option maxRecDepth 20000 in
set_option maxHeartbeats 4000000 in
theorem kX12_about (l : Launch) (E : Ev) (n : Nat) (hn : 3 ≤ n) (ct : Nat) (hct : 111 ≤ ct) (ex : Bool) (this : Nat) (x1 : Int32) (x2 : Int32) (M : Mem) : AM l E n ct ex yX12_about fX12_about enI [.ref (ad E this), .int x1, .int x2] M (zX12_about this x1 x2 M) := by
  unfold zX12_about
  refine AM.of (by decide +kernel) ⟨rfl, rfl, rfl⟩ (Nat.le_of_ble_eq_true rfl) ?_
  refine AW.chk (fun hthis => ?_)
  refine AW.aload_n (pc := 0) dX12_about_0 rfl 0 rfl ?_
  refine AW.iconst (pc := 1) dX12_about_1 ci_0 ?_
  refine AW.putI (pc := 2) dX12_about_2 flX12_159 hthis (kct hthis rfl hct) ?_
  refine AW.genM (fun M1 => ?_)
  refine AW.iload_n (pc := 5) dX12_about_5 rfl 1 rfl ?_
  refine AW.cS1i (pc := 6) dX12_about_6 mlX12_166 mbX12_isGate (fun _ => okR_N (by omega)) (kX12_isGate l E (n - 1) (by omega) ct hct ex x1 M1) (Nat.le_of_ble_eq_true rfl) (fun v2 M3 => ?_)
  refine AW.if_ne (pc := 9) 18 dX12_about_9 (by decide) (fun h4 => ?_) (fun h4 => ?_)
  · refine AW.aload_n (pc := 12) dX12_about_12 rfl 0 rfl ?_
    refine AW.iconst (pc := 13) dX12_about_13 ci_1 ?_
    refine AW.cV1i (pc := 14) dX12_about_14 mlX12_289 mbX12_fail rfl hthis (kct hthis rfl hct) (fun _ => okR_N (by omega)) (kX12_fail l E (n - 1) (by omega) ct hct ex this 1 M3) (Nat.le_of_ble_eq_true rfl) (fun v5 M6 => ?_)
    exact AW.iret (pc := 17) dX12_about_17 rfl (fun _ _ _ => rfl) (Nat.le_refl _) (Nat.le_refl _)
  · refine AW.iload_n (pc := 18) dX12_about_18 rfl 2 rfl ?_
    refine AW.iconst (pc := 19) dX12_about_19 ci_1 ?_
    refine AW.bipush (pc := 20) dX12_about_20 cb_7 ?_
    refine AW.cS3i (pc := 22) dX12_about_22 mlX12_162 mbX12_isIn (fun _ => okR_N (by omega)) (kX12_isIn l E (n - 1) (by omega) ct hct ex x2 1 7 M3) (Nat.le_of_ble_eq_true rfl) (fun v7 M8 => ?_)
    refine AW.if_eq (pc := 25) 42 dX12_about_25 (by decide) (fun h9 => ?_) (fun h9 => ?_)
    · refine AW.iload_n (pc := 42) dX12_about_42 rfl 2 rfl ?_
      refine AW.sw1 (fun h10 => ?_) (fun h10 => ?_)
      · refine AW.tswIn (pc := 43) (v := 0) (q := 0) 112 h10 dX12_about_43 (by decide) (by decide) (by decide) rfl (by decide) ?_
        refine AW.aload_n (pc := 112) dX12_about_112 rfl 0 rfl ?_
        refine AW.chk (fun g11 => ?_)
        refine AW.getR (pc := 113) dX12_about_113 flX12_42 hthis (kct hthis rfl hct) g11 ?_
        refine AW.iload_n (pc := 116) dX12_about_116 rfl 1 rfl ?_
        refine AW.chk (fun g12 => ?_)
        refine AW.iald (pc := 117) dX12_about_117 (k0e g12.1) (kct (k0e g12.1) rfl hct) g12.2 ?_
        exact AW.iret (pc := 118) dX12_about_118 rfl (fun _ _ _ => rfl) (Nat.le_refl _) (Nat.le_refl _)
      refine AW.sw1 (fun h13 => ?_) (fun h13 => ?_)
      · refine AW.tswIn (pc := 43) (v := 1) (q := 1) 160 h13 dX12_about_43 (by decide) (by decide) (by decide) rfl (by decide) ?_
        refine AW.aload_n (pc := 160) dX12_about_160 rfl 0 rfl ?_
        refine AW.iconst (pc := 161) dX12_about_161 ci_1 ?_
        refine AW.cV1i (pc := 162) dX12_about_162 mlX12_289 mbX12_fail rfl hthis (kct hthis rfl hct) (fun _ => okR_N (by omega)) (kX12_fail l E (n - 1) (by omega) ct hct ex this 1 M8) (Nat.le_of_ble_eq_true rfl) (fun v14 M15 => ?_)
        exact AW.iret (pc := 165) dX12_about_165 rfl (fun _ _ _ => rfl) (Nat.le_refl _) (Nat.le_refl _)
      refine AW.sw1 (fun h16 => ?_) (fun h16 => ?_)
      · refine AW.tswIn (pc := 43) (v := 2) (q := 2) 160 h16 dX12_about_43 (by decide) (by decide) (by decide) rfl (by decide) ?_
        refine AW.aload_n (pc := 160) dX12_about_160 rfl 0 rfl ?_
        refine AW.iconst (pc := 161) dX12_about_161 ci_1 ?_
        refine AW.cV1i (pc := 162) dX12_about_162 mlX12_289 mbX12_fail rfl hthis (kct hthis rfl hct) (fun _ => okR_N (by omega)) (kX12_fail l E (n - 1) (by omega) ct hct ex this 1 M8) (Nat.le_of_ble_eq_true rfl) (fun v17 M18 => ?_)
        exact AW.iret (pc := 165) dX12_about_165 rfl (fun _ _ _ => rfl) (Nat.le_refl _) (Nat.le_refl _)
      refine AW.sw1 (fun h19 => ?_) (fun h19 => ?_)
      · refine AW.tswIn (pc := 43) (v := 3) (q := 3) 160 h19 dX12_about_43 (by decide) (by decide) (by decide) rfl (by decide) ?_
        refine AW.aload_n (pc := 160) dX12_about_160 rfl 0 rfl ?_
        refine AW.iconst (pc := 161) dX12_about_161 ci_1 ?_
        refine AW.cV1i (pc := 162) dX12_about_162 mlX12_289 mbX12_fail rfl hthis (kct hthis rfl hct) (fun _ => okR_N (by omega)) (kX12_fail l E (n - 1) (by omega) ct hct ex this 1 M8) (Nat.le_of_ble_eq_true rfl) (fun v20 M21 => ?_)
        exact AW.iret (pc := 165) dX12_about_165 rfl (fun _ _ _ => rfl) (Nat.le_refl _) (Nat.le_refl _)
      refine AW.sw1 (fun h22 => ?_) (fun h22 => ?_)
      · refine AW.tswIn (pc := 43) (v := 4) (q := 4) 160 h22 dX12_about_43 (by decide) (by decide) (by decide) rfl (by decide) ?_
        refine AW.aload_n (pc := 160) dX12_about_160 rfl 0 rfl ?_
        refine AW.iconst (pc := 161) dX12_about_161 ci_1 ?_
        refine AW.cV1i (pc := 162) dX12_about_162 mlX12_289 mbX12_fail rfl hthis (kct hthis rfl hct) (fun _ => okR_N (by omega)) (kX12_fail l E (n - 1) (by omega) ct hct ex this 1 M8) (Nat.le_of_ble_eq_true rfl) (fun v23 M24 => ?_)
        exact AW.iret (pc := 165) dX12_about_165 rfl (fun _ _ _ => rfl) (Nat.le_refl _) (Nat.le_refl _)
      refine AW.sw1 (fun h25 => ?_) (fun h25 => ?_)
      · refine AW.tswIn (pc := 43) (v := 5) (q := 5) 160 h25 dX12_about_43 (by decide) (by decide) (by decide) rfl (by decide) ?_
        refine AW.aload_n (pc := 160) dX12_about_160 rfl 0 rfl ?_
        refine AW.iconst (pc := 161) dX12_about_161 ci_1 ?_
        refine AW.cV1i (pc := 162) dX12_about_162 mlX12_289 mbX12_fail rfl hthis (kct hthis rfl hct) (fun _ => okR_N (by omega)) (kX12_fail l E (n - 1) (by omega) ct hct ex this 1 M8) (Nat.le_of_ble_eq_true rfl) (fun v26 M27 => ?_)
        exact AW.iret (pc := 165) dX12_about_165 rfl (fun _ _ _ => rfl) (Nat.le_refl _) (Nat.le_refl _)
      refine AW.sw1 (fun h28 => ?_) (fun h28 => ?_)
      · refine AW.tswIn (pc := 43) (v := 6) (q := 6) 160 h28 dX12_about_43 (by decide) (by decide) (by decide) rfl (by decide) ?_
        refine AW.aload_n (pc := 160) dX12_about_160 rfl 0 rfl ?_
        refine AW.iconst (pc := 161) dX12_about_161 ci_1 ?_
        refine AW.cV1i (pc := 162) dX12_about_162 mlX12_289 mbX12_fail rfl hthis (kct hthis rfl hct) (fun _ => okR_N (by omega)) (kX12_fail l E (n - 1) (by omega) ct hct ex this 1 M8) (Nat.le_of_ble_eq_true rfl) (fun v29 M30 => ?_)
        exact AW.iret (pc := 165) dX12_about_165 rfl (fun _ _ _ => rfl) (Nat.le_refl _) (Nat.le_refl _)
      refine AW.sw1 (fun h31 => ?_) (fun h31 => ?_)
      · refine AW.tswIn (pc := 43) (v := 7) (q := 7) 160 h31 dX12_about_43 (by decide) (by decide) (by decide) rfl (by decide) ?_
        refine AW.aload_n (pc := 160) dX12_about_160 rfl 0 rfl ?_
        refine AW.iconst (pc := 161) dX12_about_161 ci_1 ?_
        refine AW.cV1i (pc := 162) dX12_about_162 mlX12_289 mbX12_fail rfl hthis (kct hthis rfl hct) (fun _ => okR_N (by omega)) (kX12_fail l E (n - 1) (by omega) ct hct ex this 1 M8) (Nat.le_of_ble_eq_true rfl) (fun v32 M33 => ?_)
        exact AW.iret (pc := 165) dX12_about_165 rfl (fun _ _ _ => rfl) (Nat.le_refl _) (Nat.le_refl _)
      refine AW.sw1 (fun h34 => ?_) (fun h34 => ?_)
      · refine AW.tswIn (pc := 43) (v := 8) (q := 8) 119 h34 dX12_about_43 (by decide) (by decide) (by decide) rfl (by decide) ?_
        refine AW.aload_n (pc := 119) dX12_about_119 rfl 0 rfl ?_
        refine AW.iload_n (pc := 120) dX12_about_120 rfl 1 rfl ?_
        refine AW.cV1i (pc := 121) dX12_about_121 mlX12_302 mbX12_oddsOf rfl hthis (kct hthis rfl hct) (fun _ => okR_N (by omega)) (kX12_oddsOf l E (n - 1) (by omega) ct hct ex this x1 M8) (Nat.le_of_ble_eq_true rfl) (fun v35 M36 => ?_)
        exact AW.iret (pc := 124) dX12_about_124 rfl (fun _ _ _ => rfl) (Nat.le_refl _) (Nat.le_refl _)
      refine AW.sw1 (fun h37 => ?_) (fun h37 => ?_)
      · refine AW.tswIn (pc := 43) (v := 9) (q := 9) 125 h37 dX12_about_43 (by decide) (by decide) (by decide) rfl (by decide) ?_
        refine AW.aload_n (pc := 125) dX12_about_125 rfl 0 rfl ?_
        refine AW.chk (fun g38 => ?_)
        refine AW.getR (pc := 126) dX12_about_126 flX12_65 hthis (kct hthis rfl hct) g38 ?_
        refine AW.iload_n (pc := 129) dX12_about_129 rfl 1 rfl ?_
        refine AW.chk (fun g39 => ?_)
        refine AW.iald (pc := 130) dX12_about_130 (k0e g39.1) (kct (k0e g39.1) rfl hct) g39.2 ?_
        exact AW.iret (pc := 131) dX12_about_131 rfl (fun _ _ _ => rfl) (Nat.le_refl _) (Nat.le_refl _)
      refine AW.sw1 (fun h40 => ?_) (fun h40 => ?_)
      · refine AW.tswIn (pc := 43) (v := 10) (q := 10) 132 h40 dX12_about_43 (by decide) (by decide) (by decide) rfl (by decide) ?_
        refine AW.aload_n (pc := 132) dX12_about_132 rfl 0 rfl ?_
        refine AW.chk (fun g41 => ?_)
        refine AW.getR (pc := 133) dX12_about_133 flX12_71 hthis (kct hthis rfl hct) g41 ?_
        refine AW.iload_n (pc := 136) dX12_about_136 rfl 1 rfl ?_
        refine AW.chk (fun g42 => ?_)
        refine AW.iald (pc := 137) dX12_about_137 (k0e g42.1) (kct (k0e g42.1) rfl hct) g42.2 ?_
        exact AW.iret (pc := 138) dX12_about_138 rfl (fun _ _ _ => rfl) (Nat.le_refl _) (Nat.le_refl _)
      refine AW.sw1 (fun h43 => ?_) (fun h43 => ?_)
      · refine AW.tswIn (pc := 43) (v := 11) (q := 11) 139 h43 dX12_about_43 (by decide) (by decide) (by decide) rfl (by decide) ?_
        refine AW.aload_n (pc := 139) dX12_about_139 rfl 0 rfl ?_
        refine AW.chk (fun g44 => ?_)
        refine AW.getR (pc := 140) dX12_about_140 flX12_77 hthis (kct hthis rfl hct) g44 ?_
        refine AW.iload_n (pc := 143) dX12_about_143 rfl 1 rfl ?_
        refine AW.chk (fun g45 => ?_)
        refine AW.iald (pc := 144) dX12_about_144 (k0e g45.1) (kct (k0e g45.1) rfl hct) g45.2 ?_
        exact AW.iret (pc := 145) dX12_about_145 rfl (fun _ _ _ => rfl) (Nat.le_refl _) (Nat.le_refl _)
      refine AW.sw1 (fun h46 => ?_) (fun h46 => ?_)
      · refine AW.tswIn (pc := 43) (v := 12) (q := 12) 146 h46 dX12_about_43 (by decide) (by decide) (by decide) rfl (by decide) ?_
        refine AW.aload_n (pc := 146) dX12_about_146 rfl 0 rfl ?_
        refine AW.chk (fun g47 => ?_)
        refine AW.getR (pc := 147) dX12_about_147 flX12_80 hthis (kct hthis rfl hct) g47 ?_
        refine AW.iload_n (pc := 150) dX12_about_150 rfl 1 rfl ?_
        refine AW.chk (fun g48 => ?_)
        refine AW.iald (pc := 151) dX12_about_151 (k0e g48.1) (kct (k0e g48.1) rfl hct) g48.2 ?_
        exact AW.iret (pc := 152) dX12_about_152 rfl (fun _ _ _ => rfl) (Nat.le_refl _) (Nat.le_refl _)
      refine AW.sw1 (fun h49 => ?_) (fun h49 => ?_)
      · refine AW.tswIn (pc := 43) (v := 13) (q := 13) 153 h49 dX12_about_43 (by decide) (by decide) (by decide) rfl (by decide) ?_
        refine AW.aload_n (pc := 153) dX12_about_153 rfl 0 rfl ?_
        refine AW.chk (fun g50 => ?_)
        refine AW.getR (pc := 154) dX12_about_154 flX12_68 hthis (kct hthis rfl hct) g50 ?_
        refine AW.iload_n (pc := 157) dX12_about_157 rfl 1 rfl ?_
        refine AW.chk (fun g51 => ?_)
        refine AW.iald (pc := 158) dX12_about_158 (k0e g51.1) (kct (k0e g51.1) rfl hct) g51.2 ?_
        exact AW.iret (pc := 159) dX12_about_159 rfl (fun _ _ _ => rfl) (Nat.le_refl _) (Nat.le_refl _)
      refine AW.tswOut (pc := 43) 160 dX12_about_43 (by have eh10 := tne_0 _ h10; have eh13 := tne_1 _ h13; have eh16 := tne_2 _ h16; have eh19 := tne_3 _ h19; have eh22 := tne_4 _ h22; have eh25 := tne_5 _ h25; have eh28 := tne_6 _ h28; have eh31 := tne_7 _ h31; have eh34 := tne_8 _ h34; have eh37 := tne_9 _ h37; have eh40 := tne_10 _ h40; have eh43 := tne_11 _ h43; have eh46 := tne_12 _ h46; have eh49 := tne_13 _ h49; omega) (by decide) ?_
      refine AW.aload_n (pc := 160) dX12_about_160 rfl 0 rfl ?_
      refine AW.iconst (pc := 161) dX12_about_161 ci_1 ?_
      refine AW.cV1i (pc := 162) dX12_about_162 mlX12_289 mbX12_fail rfl hthis (kct hthis rfl hct) (fun _ => okR_N (by omega)) (kX12_fail l E (n - 1) (by omega) ct hct ex this 1 M8) (Nat.le_of_ble_eq_true rfl) (fun v52 M53 => ?_)
      exact AW.iret (pc := 165) dX12_about_165 rfl (fun _ _ _ => rfl) (Nat.le_refl _) (Nat.le_refl _)
    · refine AW.aload_n (pc := 28) dX12_about_28 rfl 0 rfl ?_
      refine AW.chk (fun g54 => ?_)
      refine AW.getR (pc := 29) dX12_about_29 flX12_46 hthis (kct hthis rfl hct) g54 ?_
      refine AW.bipush (pc := 32) dX12_about_32 cb_7 ?_
      refine AW.iload_n (pc := 34) dX12_about_34 rfl 1 rfl ?_
      refine AW.imul (pc := 35) dX12_about_35 ?_
      refine AW.iload_n (pc := 36) dX12_about_36 rfl 2 rfl ?_
      refine AW.iadd (pc := 37) dX12_about_37 ?_
      refine AW.iconst (pc := 38) dX12_about_38 ci_1 ?_
      refine AW.isub (pc := 39) dX12_about_39 ?_
      refine AW.chk (fun g55 => ?_)
      refine AW.iald (pc := 40) dX12_about_40 (k0e g55.1) (kct (k0e g55.1) rfl hct) g55.2 ?_
      exact AW.iret (pc := 41) dX12_about_41 rfl (fun _ _ _ => rfl) (Nat.le_refl _) (Nat.le_refl _)
-- GateBoxModel.sort(III)I
def zX12_sort_B23 (this : Nat) (M : Mem) : Option (Int32 × Mem) :=
  bnd (zX12_fail this 1 M) fun v1 M2 =>
  some (v1, M2)
def zX12_sort (this : Nat) (x1 : Int32) (x2 : Int32) (x3 : Int32) (M : Mem) : Option (Int32 × Mem) :=
  if K0 this = (0, 12) then
  lt (sI M this 2 0) fun M1 =>
  bnd (zX12_isSort this x1 x2 M1) fun v2 M3 =>
  if v2 = 0 then
    zX12_sort_B23 this M3
  else
    bnd (zX12_isIn x3 0 2 M3) fun v5 M6 =>
    if v5 = 0 then
      zX12_sort_B23 this M6
    else
      if x3 = 0 then
        if mR M6 this 5 ≠ 0 then
        if (K0 (mR M6 this 5)).1 = 1 ∧ inb ((8 * x1) + x2) (K0 (mR M6 this 5)).2 = true then
        some (mI M6 (mR M6 this 5) (Int32.toNatClampNeg ((8 * x1) + x2)), M6)
        else none
        else none
      else
        if x3 = 1 then
          if mR M6 this 6 ≠ 0 then
          if (K0 (mR M6 this 6)).1 = 1 ∧ inb ((8 * x1) + x2) (K0 (mR M6 this 6)).2 = true then
          some (mI M6 (mR M6 this 6) (Int32.toNatClampNeg ((8 * x1) + x2)), M6)
          else none
          else none
        else
          if mR M6 this 7 ≠ 0 then
          if (K0 (mR M6 this 7)).1 = 1 ∧ inb ((8 * x1) + x2) (K0 (mR M6 this 7)).2 = true then
          some (mI M6 (mR M6 this 7) (Int32.toNatClampNeg ((8 * x1) + x2)), M6)
          else none
          else none
  else none
set_option maxRecDepth 20000 in
set_option maxHeartbeats 4000000 in
theorem kX12_sort_B23 (l : Launch) (E : Ev) (n : Nat) (hn : 4 ≤ n) (ct : Nat) (hct : 111 ≤ ct) (ex : Bool) (this : Nat) (M : Mem) (hthis : K0 this = (0, 12)) : AW l E fX12_sort (fun _ => rmN n 0 0) (PQr E 0 0 ct ex enI) ct ex 0 0 23 [(0, .ref (ad E this))] [] M (zX12_sort_B23 this M) := by
  unfold zX12_sort_B23
  refine AW.aload_n (pc := 23) dX12_sort_23 rfl 0 rfl ?_
  refine AW.iconst (pc := 24) dX12_sort_24 ci_1 ?_
  refine AW.cV1i (pc := 25) dX12_sort_25 mlX12_289 mbX12_fail rfl hthis (kct hthis rfl hct) (fun _ => okR_N (by omega)) (kX12_fail l E (n - 1) (by omega) ct hct ex this 1 M) (Nat.le_of_ble_eq_true rfl) (fun v1 M2 => ?_)
  exact AW.iret (pc := 28) dX12_sort_28 rfl (fun _ _ _ => rfl) (Nat.le_refl _) (Nat.le_refl _)
set_option maxRecDepth 20000 in
set_option maxHeartbeats 4000000 in
theorem kX12_sort (l : Launch) (E : Ev) (n : Nat) (hn : 4 ≤ n) (ct : Nat) (hct : 111 ≤ ct) (ex : Bool) (this : Nat) (x1 : Int32) (x2 : Int32) (x3 : Int32) (M : Mem) : AM l E n ct ex yX12_sort fX12_sort enI [.ref (ad E this), .int x1, .int x2, .int x3] M (zX12_sort this x1 x2 x3 M) := by
  unfold zX12_sort
  refine AM.of (by decide +kernel) ⟨rfl, rfl, rfl⟩ (Nat.le_of_ble_eq_true rfl) ?_
  refine AW.chk (fun hthis => ?_)
  refine AW.aload_n (pc := 0) dX12_sort_0 rfl 0 rfl ?_
  refine AW.iconst (pc := 1) dX12_sort_1 ci_0 ?_
  refine AW.putI (pc := 2) dX12_sort_2 flX12_159 hthis (kct hthis rfl hct) ?_
  refine AW.genM (fun M1 => ?_)
  refine AW.aload_n (pc := 5) dX12_sort_5 rfl 0 rfl ?_
  refine AW.iload_n (pc := 6) dX12_sort_6 rfl 1 rfl ?_
  refine AW.iload_n (pc := 7) dX12_sort_7 rfl 2 rfl ?_
  refine AW.cV2i (pc := 8) dX12_sort_8 mlX12_305 mbX12_isSort rfl hthis (kct hthis rfl hct) (fun _ => okR_N (by omega)) (kX12_isSort l E (n - 1) (by omega) ct hct ex this x1 x2 M1) (Nat.le_of_ble_eq_true rfl) (fun v2 M3 => ?_)
  refine AW.if_eq (pc := 11) 23 dX12_sort_11 (by decide) (fun h4 => ?_) (fun h4 => ?_)
  · exact AW.sub [0] rfl (kX12_sort_B23 l E n hn ct hct ex this M3 hthis)
  · refine AW.iload_n (pc := 14) dX12_sort_14 rfl 3 rfl ?_
    refine AW.iconst (pc := 15) dX12_sort_15 ci_0 ?_
    refine AW.iconst (pc := 16) dX12_sort_16 ci_2 ?_
    refine AW.cS3i (pc := 17) dX12_sort_17 mlX12_162 mbX12_isIn (fun _ => okR_N (by omega)) (kX12_isIn l E (n - 1) (by omega) ct hct ex x3 0 2 M3) (Nat.le_of_ble_eq_true rfl) (fun v5 M6 => ?_)
    refine AW.if_ne (pc := 20) 29 dX12_sort_20 (by decide) (fun h7 => ?_) (fun h7 => ?_)
    · exact AW.sub [0] rfl (kX12_sort_B23 l E n hn ct hct ex this M6 hthis)
    · refine AW.iload_n (pc := 29) dX12_sort_29 rfl 3 rfl ?_
      refine AW.if_ne (pc := 30) 47 dX12_sort_30 (by decide) (fun h8 => ?_) (fun h8 => ?_)
      · refine AW.aload_n (pc := 33) dX12_sort_33 rfl 0 rfl ?_
        refine AW.chk (fun g9 => ?_)
        refine AW.getR (pc := 34) dX12_sort_34 flX12_49 hthis (kct hthis rfl hct) g9 ?_
        refine AW.bipush (pc := 37) dX12_sort_37 cb_8 ?_
        refine AW.iload_n (pc := 39) dX12_sort_39 rfl 1 rfl ?_
        refine AW.imul (pc := 40) dX12_sort_40 ?_
        refine AW.iload_n (pc := 41) dX12_sort_41 rfl 2 rfl ?_
        refine AW.iadd (pc := 42) dX12_sort_42 ?_
        refine AW.chk (fun g10 => ?_)
        refine AW.iald (pc := 43) dX12_sort_43 (k0e g10.1) (kct (k0e g10.1) rfl hct) g10.2 ?_
        refine AW.goto (pc := 44) 77 dX12_sort_44 (by decide) ?_
        exact AW.iret (pc := 77) dX12_sort_77 rfl (fun _ _ _ => rfl) (Nat.le_refl _) (Nat.le_refl _)
      · refine AW.iload_n (pc := 47) dX12_sort_47 rfl 3 rfl ?_
        refine AW.iconst (pc := 48) dX12_sort_48 ci_1 ?_
        refine AW.icmp_ne (pc := 49) 66 dX12_sort_49 (by decide) (fun h11 => ?_) (fun h11 => ?_)
        · refine AW.aload_n (pc := 52) dX12_sort_52 rfl 0 rfl ?_
          refine AW.chk (fun g12 => ?_)
          refine AW.getR (pc := 53) dX12_sort_53 flX12_52 hthis (kct hthis rfl hct) g12 ?_
          refine AW.bipush (pc := 56) dX12_sort_56 cb_8 ?_
          refine AW.iload_n (pc := 58) dX12_sort_58 rfl 1 rfl ?_
          refine AW.imul (pc := 59) dX12_sort_59 ?_
          refine AW.iload_n (pc := 60) dX12_sort_60 rfl 2 rfl ?_
          refine AW.iadd (pc := 61) dX12_sort_61 ?_
          refine AW.chk (fun g13 => ?_)
          refine AW.iald (pc := 62) dX12_sort_62 (k0e g13.1) (kct (k0e g13.1) rfl hct) g13.2 ?_
          refine AW.goto (pc := 63) 77 dX12_sort_63 (by decide) ?_
          exact AW.iret (pc := 77) dX12_sort_77 rfl (fun _ _ _ => rfl) (Nat.le_refl _) (Nat.le_refl _)
        · refine AW.aload_n (pc := 66) dX12_sort_66 rfl 0 rfl ?_
          refine AW.chk (fun g14 => ?_)
          refine AW.getR (pc := 67) dX12_sort_67 flX12_54 hthis (kct hthis rfl hct) g14 ?_
          refine AW.bipush (pc := 70) dX12_sort_70 cb_8 ?_
          refine AW.iload_n (pc := 72) dX12_sort_72 rfl 1 rfl ?_
          refine AW.imul (pc := 73) dX12_sort_73 ?_
          refine AW.iload_n (pc := 74) dX12_sort_74 rfl 2 rfl ?_
          refine AW.iadd (pc := 75) dX12_sort_75 ?_
          refine AW.chk (fun g15 => ?_)
          refine AW.iald (pc := 76) dX12_sort_76 (k0e g15.1) (kct (k0e g15.1) rfl hct) g15.2 ?_
          exact AW.iret (pc := 77) dX12_sort_77 rfl (fun _ _ _ => rfl) (Nat.le_refl _) (Nat.le_refl _)
-- GateBoxModel.valueOf(IIIII)I
def zX12_valueOf_B32 (this : Nat) (x1 : Int32) (x2 : Int32) (x3 : Int32) (x4 : Int32) (x5 : Int32) (s0 : Int32) (M : Mem) : Option (Int32 × Mem) :=
  if x5 = 0 then
    if mR M this 6 ≠ 0 then
    if (K0 (mR M this 6)).1 = 1 ∧ inb ((8 * x1) + x2) (K0 (mR M this 6)).2 = true then
    some (mI M (mR M this 6) (Int32.toNatClampNeg ((8 * x1) + x2)), M)
    else none
    else none
  else
  if x5 = 1 then
    some (x4, M)
  else
  if x5 = 2 then
    if s0 = 0 then
      some (0, M)
    else
      some (x3 % 10, M)
  else
  if x5 = 3 then
    if s0 = 0 then
      some (0, M)
    else
      if mR M this 4 ≠ 0 then
      if (K0 (mR M this 4)).1 = 1 ∧ inb (7 * x1) (K0 (mR M this 4)).2 = true then
      if (mI M (mR M this 4) (Int32.toNatClampNeg (7 * x1))) = 1 then
        some (x3, M)
      else
        some (((x3 % 10) + (x3 / 10)) / 2, M)
      else none
      else none
  else
  if x5 = 4 then
    if mR M this 4 ≠ 0 then
    if (K0 (mR M this 4)).1 = 1 ∧ inb ((7 * x1) + 1) (K0 (mR M this 4)).2 = true then
    some (imax 0 (mI M (mR M this 4) (Int32.toNatClampNeg ((7 * x1) + 1))), M)
    else none
    else none
  else
  if x5 = 5 then
    if mR M this 4 ≠ 0 then
    if (K0 (mR M this 4)).1 = 1 ∧ inb ((7 * x1) + 1) (K0 (mR M this 4)).2 = true then
    if (mI M (mR M this 4) (Int32.toNatClampNeg ((7 * x1) + 1))) = (-1) then
      some (0, M)
    else
      some (1, M)
    else none
    else none
  else
  if x5 = 6 then
    if mR M this 4 ≠ 0 then
    if (K0 (mR M this 4)).1 = 1 ∧ inb ((7 * x1) + 2) (K0 (mR M this 4)).2 = true then
    some (mI M (mR M this 4) (Int32.toNatClampNeg ((7 * x1) + 2)), M)
    else none
    else none
  else
  if x5 = 7 then
    if mR M this 4 ≠ 0 then
    if (K0 (mR M this 4)).1 = 1 ∧ inb ((7 * x1) + 3) (K0 (mR M this 4)).2 = true then
    some (mI M (mR M this 4) (Int32.toNatClampNeg ((7 * x1) + 3)), M)
    else none
    else none
  else
  if mR M this 4 ≠ 0 then
  if (K0 (mR M this 4)).1 = 1 ∧ inb ((7 * x1) + 4) (K0 (mR M this 4)).2 = true then
  some (mI M (mR M this 4) (Int32.toNatClampNeg ((7 * x1) + 4)), M)
    else none
    else none
def zX12_valueOf_B31 (this : Nat) (x1 : Int32) (x2 : Int32) (x3 : Int32) (x4 : Int32) (x5 : Int32) (M : Mem) : Option (Int32 × Mem) :=
  zX12_valueOf_B32 this x1 x2 x3 x4 x5 0 M
def zX12_valueOf (this : Nat) (x1 : Int32) (x2 : Int32) (x3 : Int32) (x4 : Int32) (x5 : Int32) (M : Mem) : Option (Int32 × Mem) :=
  if K0 this = (0, 12) then
  if mR M this 4 ≠ 0 then
  if (K0 (mR M this 4)).1 = 1 ∧ inb ((7 * x1) + 3) (K0 (mR M this 4)).2 = true then
  if (mI M (mR M this 4) (Int32.toNatClampNeg ((7 * x1) + 3))) = 1 then
    if inb (7 * x1) (K0 (mR M this 4)).2 = true then
    if (mI M (mR M this 4) (Int32.toNatClampNeg (7 * x1))) ≤ 0 then
      zX12_valueOf_B31 this x1 x2 x3 x4 x5 M
    else
      zX12_valueOf_B32 this x1 x2 x3 x4 x5 1 M
    else none
  else
    zX12_valueOf_B31 this x1 x2 x3 x4 x5 M
  else none
  else none
  else none
set_option maxRecDepth 20000 in
set_option maxHeartbeats 4000000 in
theorem kX12_valueOf_B32 (l : Launch) (E : Ev) (n : Nat) (hn : 6 ≤ n) (ct : Nat) (hct : 111 ≤ ct) (ex : Bool) (this : Nat) (x1 : Int32) (x2 : Int32) (x3 : Int32) (x4 : Int32) (x5 : Int32) (s0 : Int32) (M : Mem) (hthis : K0 this = (0, 12)) : AW l E fX12_valueOf (fun _ => rmN n 0 0) (PQr E 0 0 ct ex enI) ct ex 0 0 32 [(0, .ref (ad E this)), (1, .int x1), (2, .int x2), (3, .int x3), (4, .int x4), (5, .int x5)] [.int s0] M (zX12_valueOf_B32 this x1 x2 x3 x4 x5 s0 M) := by
  unfold zX12_valueOf_B32
  refine AW.istore (pc := 32) [1, 2, 3, 4, 5, 6, 0] [(0, .ref (ad E this)), (1, .int x1), (2, .int x2), (3, .int x3), (4, .int x4), (5, .int x5), (6, .int s0)] dX12_valueOf_32 (by decide) rfl ?_
  refine AW.iload (pc := 34) dX12_valueOf_34 5 rfl ?_
  refine AW.sw1 (fun h1 => ?_) (fun h1 => ?_)
  · refine AW.tswIn (pc := 36) (v := 0) (q := 0) 84 h1 dX12_valueOf_36 (by decide) (by decide) (by decide) rfl (by decide) ?_
    refine AW.aload_n (pc := 84) dX12_valueOf_84 rfl 0 rfl ?_
    refine AW.chk (fun g2 => ?_)
    refine AW.getR (pc := 85) dX12_valueOf_85 flX12_52 hthis (kct hthis rfl hct) g2 ?_
    refine AW.bipush (pc := 88) dX12_valueOf_88 cb_8 ?_
    refine AW.iload_n (pc := 90) dX12_valueOf_90 rfl 1 rfl ?_
    refine AW.imul (pc := 91) dX12_valueOf_91 ?_
    refine AW.iload_n (pc := 92) dX12_valueOf_92 rfl 2 rfl ?_
    refine AW.iadd (pc := 93) dX12_valueOf_93 ?_
    refine AW.chk (fun g3 => ?_)
    refine AW.iald (pc := 94) dX12_valueOf_94 (k0e g3.1) (kct (k0e g3.1) rfl hct) g3.2 ?_
    exact AW.iret (pc := 95) dX12_valueOf_95 rfl (fun _ _ _ => rfl) (Nat.le_refl _) (Nat.le_refl _)
  refine AW.sw1 (fun h4 => ?_) (fun h4 => ?_)
  · refine AW.tswIn (pc := 36) (v := 1) (q := 1) 96 h4 dX12_valueOf_36 (by decide) (by decide) (by decide) rfl (by decide) ?_
    refine AW.iload (pc := 96) dX12_valueOf_96 4 rfl ?_
    exact AW.iret (pc := 98) dX12_valueOf_98 rfl (fun _ _ _ => rfl) (Nat.le_refl _) (Nat.le_refl _)
  refine AW.sw1 (fun h5 => ?_) (fun h5 => ?_)
  · refine AW.tswIn (pc := 36) (v := 2) (q := 2) 99 h5 dX12_valueOf_36 (by decide) (by decide) (by decide) rfl (by decide) ?_
    refine AW.iload (pc := 99) dX12_valueOf_99 6 rfl ?_
    refine AW.if_eq (pc := 101) 111 dX12_valueOf_101 (by decide) (fun h6 => ?_) (fun h6 => ?_)
    · refine AW.iconst (pc := 111) dX12_valueOf_111 ci_0 ?_
      exact AW.iret (pc := 112) dX12_valueOf_112 rfl (fun _ _ _ => rfl) (Nat.le_refl _) (Nat.le_refl _)
    · refine AW.iload_n (pc := 104) dX12_valueOf_104 rfl 3 rfl ?_
      refine AW.bipush (pc := 105) dX12_valueOf_105 cb_10 ?_
      refine AW.irem (pc := 107) dX12_valueOf_107 (by decide) ?_
      refine AW.goto (pc := 108) 112 dX12_valueOf_108 (by decide) ?_
      exact AW.iret (pc := 112) dX12_valueOf_112 rfl (fun _ _ _ => rfl) (Nat.le_refl _) (Nat.le_refl _)
  refine AW.sw1 (fun h7 => ?_) (fun h7 => ?_)
  · refine AW.tswIn (pc := 36) (v := 3) (q := 3) 113 h7 dX12_valueOf_36 (by decide) (by decide) (by decide) rfl (by decide) ?_
    refine AW.iload (pc := 113) dX12_valueOf_113 6 rfl ?_
    refine AW.if_ne (pc := 115) 122 dX12_valueOf_115 (by decide) (fun h8 => ?_) (fun h8 => ?_)
    · refine AW.iconst (pc := 118) dX12_valueOf_118 ci_0 ?_
      refine AW.goto (pc := 119) 150 dX12_valueOf_119 (by decide) ?_
      exact AW.iret (pc := 150) dX12_valueOf_150 rfl (fun _ _ _ => rfl) (Nat.le_refl _) (Nat.le_refl _)
    · refine AW.aload_n (pc := 122) dX12_valueOf_122 rfl 0 rfl ?_
      refine AW.chk (fun g9 => ?_)
      refine AW.getR (pc := 123) dX12_valueOf_123 flX12_46 hthis (kct hthis rfl hct) g9 ?_
      refine AW.bipush (pc := 126) dX12_valueOf_126 cb_7 ?_
      refine AW.iload_n (pc := 128) dX12_valueOf_128 rfl 1 rfl ?_
      refine AW.imul (pc := 129) dX12_valueOf_129 ?_
      refine AW.chk (fun g10 => ?_)
      refine AW.iald (pc := 130) dX12_valueOf_130 (k0e g10.1) (kct (k0e g10.1) rfl hct) g10.2 ?_
      refine AW.iconst (pc := 131) dX12_valueOf_131 ci_1 ?_
      refine AW.icmp_ne (pc := 132) 139 dX12_valueOf_132 (by decide) (fun h11 => ?_) (fun h11 => ?_)
      · refine AW.iload_n (pc := 135) dX12_valueOf_135 rfl 3 rfl ?_
        refine AW.goto (pc := 136) 150 dX12_valueOf_136 (by decide) ?_
        exact AW.iret (pc := 150) dX12_valueOf_150 rfl (fun _ _ _ => rfl) (Nat.le_refl _) (Nat.le_refl _)
      · refine AW.iload_n (pc := 139) dX12_valueOf_139 rfl 3 rfl ?_
        refine AW.bipush (pc := 140) dX12_valueOf_140 cb_10 ?_
        refine AW.irem (pc := 142) dX12_valueOf_142 (by decide) ?_
        refine AW.iload_n (pc := 143) dX12_valueOf_143 rfl 3 rfl ?_
        refine AW.bipush (pc := 144) dX12_valueOf_144 cb_10 ?_
        refine AW.idiv (pc := 146) dX12_valueOf_146 (by decide) ?_
        refine AW.iadd (pc := 147) dX12_valueOf_147 ?_
        refine AW.iconst (pc := 148) dX12_valueOf_148 ci_2 ?_
        refine AW.idiv (pc := 149) dX12_valueOf_149 (by decide) ?_
        exact AW.iret (pc := 150) dX12_valueOf_150 rfl (fun _ _ _ => rfl) (Nat.le_refl _) (Nat.le_refl _)
  refine AW.sw1 (fun h12 => ?_) (fun h12 => ?_)
  · refine AW.tswIn (pc := 36) (v := 4) (q := 4) 151 h12 dX12_valueOf_36 (by decide) (by decide) (by decide) rfl (by decide) ?_
    refine AW.iconst (pc := 151) dX12_valueOf_151 ci_0 ?_
    refine AW.aload_n (pc := 152) dX12_valueOf_152 rfl 0 rfl ?_
    refine AW.chk (fun g13 => ?_)
    refine AW.getR (pc := 153) dX12_valueOf_153 flX12_46 hthis (kct hthis rfl hct) g13 ?_
    refine AW.bipush (pc := 156) dX12_valueOf_156 cb_7 ?_
    refine AW.iload_n (pc := 158) dX12_valueOf_158 rfl 1 rfl ?_
    refine AW.imul (pc := 159) dX12_valueOf_159 ?_
    refine AW.iconst (pc := 160) dX12_valueOf_160 ci_1 ?_
    refine AW.iadd (pc := 161) dX12_valueOf_161 ?_
    refine AW.chk (fun g14 => ?_)
    refine AW.iald (pc := 162) dX12_valueOf_162 (k0e g14.1) (kct (k0e g14.1) rfl hct) g14.2 ?_
    refine AW.mmax (pc := 163) dX12_valueOf_163 mlX12_309 mb_max (fun _ => okR_N (by omega)) (Nat.le_of_ble_eq_true rfl) ?_
    exact AW.iret (pc := 166) dX12_valueOf_166 rfl (fun _ _ _ => rfl) (Nat.le_refl _) (Nat.le_refl _)
  refine AW.sw1 (fun h15 => ?_) (fun h15 => ?_)
  · refine AW.tswIn (pc := 36) (v := 5) (q := 5) 167 h15 dX12_valueOf_36 (by decide) (by decide) (by decide) rfl (by decide) ?_
    refine AW.aload_n (pc := 167) dX12_valueOf_167 rfl 0 rfl ?_
    refine AW.chk (fun g16 => ?_)
    refine AW.getR (pc := 168) dX12_valueOf_168 flX12_46 hthis (kct hthis rfl hct) g16 ?_
    refine AW.bipush (pc := 171) dX12_valueOf_171 cb_7 ?_
    refine AW.iload_n (pc := 173) dX12_valueOf_173 rfl 1 rfl ?_
    refine AW.imul (pc := 174) dX12_valueOf_174 ?_
    refine AW.iconst (pc := 175) dX12_valueOf_175 ci_1 ?_
    refine AW.iadd (pc := 176) dX12_valueOf_176 ?_
    refine AW.chk (fun g17 => ?_)
    refine AW.iald (pc := 177) dX12_valueOf_177 (k0e g17.1) (kct (k0e g17.1) rfl hct) g17.2 ?_
    refine AW.iconst (pc := 178) dX12_valueOf_178 ci_m1 ?_
    refine AW.icmp_ne (pc := 179) 186 dX12_valueOf_179 (by decide) (fun h18 => ?_) (fun h18 => ?_)
    · refine AW.iconst (pc := 182) dX12_valueOf_182 ci_0 ?_
      refine AW.goto (pc := 183) 187 dX12_valueOf_183 (by decide) ?_
      exact AW.iret (pc := 187) dX12_valueOf_187 rfl (fun _ _ _ => rfl) (Nat.le_refl _) (Nat.le_refl _)
    · refine AW.iconst (pc := 186) dX12_valueOf_186 ci_1 ?_
      exact AW.iret (pc := 187) dX12_valueOf_187 rfl (fun _ _ _ => rfl) (Nat.le_refl _) (Nat.le_refl _)
  refine AW.sw1 (fun h19 => ?_) (fun h19 => ?_)
  · refine AW.tswIn (pc := 36) (v := 6) (q := 6) 188 h19 dX12_valueOf_36 (by decide) (by decide) (by decide) rfl (by decide) ?_
    refine AW.aload_n (pc := 188) dX12_valueOf_188 rfl 0 rfl ?_
    refine AW.chk (fun g20 => ?_)
    refine AW.getR (pc := 189) dX12_valueOf_189 flX12_46 hthis (kct hthis rfl hct) g20 ?_
    refine AW.bipush (pc := 192) dX12_valueOf_192 cb_7 ?_
    refine AW.iload_n (pc := 194) dX12_valueOf_194 rfl 1 rfl ?_
    refine AW.imul (pc := 195) dX12_valueOf_195 ?_
    refine AW.iconst (pc := 196) dX12_valueOf_196 ci_2 ?_
    refine AW.iadd (pc := 197) dX12_valueOf_197 ?_
    refine AW.chk (fun g21 => ?_)
    refine AW.iald (pc := 198) dX12_valueOf_198 (k0e g21.1) (kct (k0e g21.1) rfl hct) g21.2 ?_
    exact AW.iret (pc := 199) dX12_valueOf_199 rfl (fun _ _ _ => rfl) (Nat.le_refl _) (Nat.le_refl _)
  refine AW.sw1 (fun h22 => ?_) (fun h22 => ?_)
  · refine AW.tswIn (pc := 36) (v := 7) (q := 7) 200 h22 dX12_valueOf_36 (by decide) (by decide) (by decide) rfl (by decide) ?_
    refine AW.aload_n (pc := 200) dX12_valueOf_200 rfl 0 rfl ?_
    refine AW.chk (fun g23 => ?_)
    refine AW.getR (pc := 201) dX12_valueOf_201 flX12_46 hthis (kct hthis rfl hct) g23 ?_
    refine AW.bipush (pc := 204) dX12_valueOf_204 cb_7 ?_
    refine AW.iload_n (pc := 206) dX12_valueOf_206 rfl 1 rfl ?_
    refine AW.imul (pc := 207) dX12_valueOf_207 ?_
    refine AW.iconst (pc := 208) dX12_valueOf_208 ci_3 ?_
    refine AW.iadd (pc := 209) dX12_valueOf_209 ?_
    refine AW.chk (fun g24 => ?_)
    refine AW.iald (pc := 210) dX12_valueOf_210 (k0e g24.1) (kct (k0e g24.1) rfl hct) g24.2 ?_
    exact AW.iret (pc := 211) dX12_valueOf_211 rfl (fun _ _ _ => rfl) (Nat.le_refl _) (Nat.le_refl _)
  refine AW.tswOut (pc := 36) 212 dX12_valueOf_36 (by have eh1 := tne_0 _ h1; have eh4 := tne_1 _ h4; have eh5 := tne_2 _ h5; have eh7 := tne_3 _ h7; have eh12 := tne_4 _ h12; have eh15 := tne_5 _ h15; have eh19 := tne_6 _ h19; have eh22 := tne_7 _ h22; omega) (by decide) ?_
  refine AW.aload_n (pc := 212) dX12_valueOf_212 rfl 0 rfl ?_
  refine AW.chk (fun g25 => ?_)
  refine AW.getR (pc := 213) dX12_valueOf_213 flX12_46 hthis (kct hthis rfl hct) g25 ?_
  refine AW.bipush (pc := 216) dX12_valueOf_216 cb_7 ?_
  refine AW.iload_n (pc := 218) dX12_valueOf_218 rfl 1 rfl ?_
  refine AW.imul (pc := 219) dX12_valueOf_219 ?_
  refine AW.iconst (pc := 220) dX12_valueOf_220 ci_4 ?_
  refine AW.iadd (pc := 221) dX12_valueOf_221 ?_
  refine AW.chk (fun g26 => ?_)
  refine AW.iald (pc := 222) dX12_valueOf_222 (k0e g26.1) (kct (k0e g26.1) rfl hct) g26.2 ?_
  exact AW.iret (pc := 223) dX12_valueOf_223 rfl (fun _ _ _ => rfl) (Nat.le_refl _) (Nat.le_refl _)
set_option maxRecDepth 20000 in
set_option maxHeartbeats 4000000 in
theorem kX12_valueOf_B31 (l : Launch) (E : Ev) (n : Nat) (hn : 6 ≤ n) (ct : Nat) (hct : 111 ≤ ct) (ex : Bool) (this : Nat) (x1 : Int32) (x2 : Int32) (x3 : Int32) (x4 : Int32) (x5 : Int32) (M : Mem) (hthis : K0 this = (0, 12)) : AW l E fX12_valueOf (fun _ => rmN n 0 0) (PQr E 0 0 ct ex enI) ct ex 0 0 31 [(0, .ref (ad E this)), (1, .int x1), (2, .int x2), (3, .int x3), (4, .int x4), (5, .int x5)] [] M (zX12_valueOf_B31 this x1 x2 x3 x4 x5 M) := by
  unfold zX12_valueOf_B31
  refine AW.iconst (pc := 31) dX12_valueOf_31 ci_0 ?_
  exact kX12_valueOf_B32 l E n hn ct hct ex this x1 x2 x3 x4 x5 0 M hthis
set_option maxRecDepth 20000 in
set_option maxHeartbeats 4000000 in
theorem kX12_valueOf (l : Launch) (E : Ev) (n : Nat) (hn : 6 ≤ n) (ct : Nat) (hct : 111 ≤ ct) (ex : Bool) (this : Nat) (x1 : Int32) (x2 : Int32) (x3 : Int32) (x4 : Int32) (x5 : Int32) (M : Mem) : AM l E n ct ex yX12_valueOf fX12_valueOf enI [.ref (ad E this), .int x1, .int x2, .int x3, .int x4, .int x5] M (zX12_valueOf this x1 x2 x3 x4 x5 M) := by
  unfold zX12_valueOf
  refine AM.of (by decide +kernel) ⟨rfl, rfl, rfl⟩ (Nat.le_of_ble_eq_true rfl) ?_
  refine AW.chk (fun hthis => ?_)
  refine AW.aload_n (pc := 0) dX12_valueOf_0 rfl 0 rfl ?_
  refine AW.chk (fun g1 => ?_)
  refine AW.getR (pc := 1) dX12_valueOf_1 flX12_46 hthis (kct hthis rfl hct) g1 ?_
  refine AW.bipush (pc := 4) dX12_valueOf_4 cb_7 ?_
  refine AW.iload_n (pc := 6) dX12_valueOf_6 rfl 1 rfl ?_
  refine AW.imul (pc := 7) dX12_valueOf_7 ?_
  refine AW.iconst (pc := 8) dX12_valueOf_8 ci_3 ?_
  refine AW.iadd (pc := 9) dX12_valueOf_9 ?_
  refine AW.chk (fun g2 => ?_)
  refine AW.iald (pc := 10) dX12_valueOf_10 (k0e g2.1) (kct (k0e g2.1) rfl hct) g2.2 ?_
  refine AW.iconst (pc := 11) dX12_valueOf_11 ci_1 ?_
  refine AW.icmp_ne (pc := 12) 31 dX12_valueOf_12 (by decide) (fun h3 => ?_) (fun h3 => ?_)
  · refine AW.aload_n (pc := 15) dX12_valueOf_15 rfl 0 rfl ?_
    refine AW.getR (pc := 16) dX12_valueOf_16 flX12_46 hthis (kct hthis rfl hct) g1 ?_
    refine AW.bipush (pc := 19) dX12_valueOf_19 cb_7 ?_
    refine AW.iload_n (pc := 21) dX12_valueOf_21 rfl 1 rfl ?_
    refine AW.imul (pc := 22) dX12_valueOf_22 ?_
    refine AW.chk (fun g4 => ?_)
    refine AW.iald (pc := 23) dX12_valueOf_23 (k0e g2.1) (kct (k0e g2.1) rfl hct) g4 ?_
    refine AW.if_le (pc := 24) 31 dX12_valueOf_24 (by decide) (fun h5 => ?_) (fun h5 => ?_)
    · exact kX12_valueOf_B31 l E n hn ct hct ex this x1 x2 x3 x4 x5 M hthis
    · refine AW.iconst (pc := 27) dX12_valueOf_27 ci_1 ?_
      refine AW.goto (pc := 28) 32 dX12_valueOf_28 (by decide) ?_
      exact kX12_valueOf_B32 l E n hn ct hct ex this x1 x2 x3 x4 x5 1 M hthis
  · exact kX12_valueOf_B31 l E n hn ct hct ex this x1 x2 x3 x4 x5 M hthis
-- GateBoxModel.reckon(III)I
def zX12_reckon_B112  (M : Mem) : Option (Int32 × Mem) :=
  some (1, M)
def zX12_reckon (x0 : Int32) (x1 : Int32) (x2 : Int32) (M : Mem) : Option (Int32 × Mem) :=
  if x0 = (-26) then
    if x1 = 0 then
      some (0, M)
    else
      if x2 = 0 then
        some (0, M)
      else
        some (1, M)
  else
  if x0 = (-25) then
    if x1 = x2 then
      some (1, M)
    else
      some (0, M)
  else
  if x0 = (-24) then
    if x2 ≤ x1 then
      some (0, M)
    else
      some (1, M)
  else
  if x0 = (-23) then
    if x2 = 0 then
      some (0, M)
    else
      if ¬ x2 = 0 then
      some (x1 / x2, M)
      else none
  else
  if x0 = (-22) then
    some (x1 * x2, M)
  else
  if x0 = (-21) then
    some (x1 - x2, M)
  else
  if x0 = (-20) then
    some (x1 + x2, M)
  else
  if x1 = 0 then
    if x2 = 0 then
      some (0, M)
    else
      zX12_reckon_B112 M
  else
    zX12_reckon_B112 M
set_option maxRecDepth 20000 in
set_option maxHeartbeats 4000000 in
theorem kX12_reckon_B112 (l : Launch) (E : Ev) (n : Nat) (hn : 1 ≤ n) (ct : Nat) (hct : 111 ≤ ct) (ex : Bool)  (M : Mem) : AW l E fX12_reckon (fun _ => rmN n 0 0) (PQr E 0 0 ct ex enI) ct ex 0 0 112 [] [] M (zX12_reckon_B112  M) := by
  unfold zX12_reckon_B112
  refine AW.iconst (pc := 112) dX12_reckon_112 ci_1 ?_
  refine AW.goto (pc := 113) 117 dX12_reckon_113 (by decide) ?_
  exact AW.iret (pc := 117) dX12_reckon_117 rfl (fun _ _ _ => rfl) (Nat.le_refl _) (Nat.le_refl _)
set_option maxRecDepth 20000 in
set_option maxHeartbeats 4000000 in
theorem kX12_reckon (l : Launch) (E : Ev) (n : Nat) (hn : 1 ≤ n) (ct : Nat) (hct : 111 ≤ ct) (ex : Bool) (x0 : Int32) (x1 : Int32) (x2 : Int32) (M : Mem) : AM l E n ct ex yX12_reckon fX12_reckon enI [.int x0, .int x1, .int x2] M (zX12_reckon x0 x1 x2 M) := by
  unfold zX12_reckon
  refine AM.of (by decide +kernel) ⟨rfl, rfl, rfl⟩ (Nat.le_of_ble_eq_true rfl) ?_
  refine AW.iload_n (pc := 0) dX12_reckon_0 rfl 0 rfl ?_
  refine AW.sw1 (fun h1 => ?_) (fun h1 => ?_)
  · refine AW.tswIn (pc := 1) (v := (-26)) (q := 0) 90 h1 dX12_reckon_1 (by decide) (by decide) (by decide) rfl (by decide) ?_
    refine AW.iload_n (pc := 90) dX12_reckon_90 rfl 1 rfl ?_
    refine AW.if_eq (pc := 91) 102 dX12_reckon_91 (by decide) (fun h2 => ?_) (fun h2 => ?_)
    · refine AW.iconst (pc := 102) dX12_reckon_102 ci_0 ?_
      exact AW.iret (pc := 103) dX12_reckon_103 rfl (fun _ _ _ => rfl) (Nat.le_refl _) (Nat.le_refl _)
    · refine AW.iload_n (pc := 94) dX12_reckon_94 rfl 2 rfl ?_
      refine AW.if_eq (pc := 95) 102 dX12_reckon_95 (by decide) (fun h3 => ?_) (fun h3 => ?_)
      · refine AW.iconst (pc := 102) dX12_reckon_102 ci_0 ?_
        exact AW.iret (pc := 103) dX12_reckon_103 rfl (fun _ _ _ => rfl) (Nat.le_refl _) (Nat.le_refl _)
      · refine AW.iconst (pc := 98) dX12_reckon_98 ci_1 ?_
        refine AW.goto (pc := 99) 103 dX12_reckon_99 (by decide) ?_
        exact AW.iret (pc := 103) dX12_reckon_103 rfl (fun _ _ _ => rfl) (Nat.le_refl _) (Nat.le_refl _)
  refine AW.sw1 (fun h4 => ?_) (fun h4 => ?_)
  · refine AW.tswIn (pc := 1) (v := (-25)) (q := 1) 79 h4 dX12_reckon_1 (by decide) (by decide) (by decide) rfl (by decide) ?_
    refine AW.iload_n (pc := 79) dX12_reckon_79 rfl 1 rfl ?_
    refine AW.iload_n (pc := 80) dX12_reckon_80 rfl 2 rfl ?_
    refine AW.icmp_ne (pc := 81) 88 dX12_reckon_81 (by decide) (fun h5 => ?_) (fun h5 => ?_)
    · refine AW.iconst (pc := 84) dX12_reckon_84 ci_1 ?_
      refine AW.goto (pc := 85) 89 dX12_reckon_85 (by decide) ?_
      exact AW.iret (pc := 89) dX12_reckon_89 rfl (fun _ _ _ => rfl) (Nat.le_refl _) (Nat.le_refl _)
    · refine AW.iconst (pc := 88) dX12_reckon_88 ci_0 ?_
      exact AW.iret (pc := 89) dX12_reckon_89 rfl (fun _ _ _ => rfl) (Nat.le_refl _) (Nat.le_refl _)
  refine AW.sw1 (fun h6 => ?_) (fun h6 => ?_)
  · refine AW.tswIn (pc := 1) (v := (-24)) (q := 2) 68 h6 dX12_reckon_1 (by decide) (by decide) (by decide) rfl (by decide) ?_
    refine AW.iload_n (pc := 68) dX12_reckon_68 rfl 1 rfl ?_
    refine AW.iload_n (pc := 69) dX12_reckon_69 rfl 2 rfl ?_
    refine AW.icmp_ge (pc := 70) 77 dX12_reckon_70 (by decide) (fun h7 => ?_) (fun h7 => ?_)
    · refine AW.iconst (pc := 77) dX12_reckon_77 ci_0 ?_
      exact AW.iret (pc := 78) dX12_reckon_78 rfl (fun _ _ _ => rfl) (Nat.le_refl _) (Nat.le_refl _)
    · refine AW.iconst (pc := 73) dX12_reckon_73 ci_1 ?_
      refine AW.goto (pc := 74) 78 dX12_reckon_74 (by decide) ?_
      exact AW.iret (pc := 78) dX12_reckon_78 rfl (fun _ _ _ => rfl) (Nat.le_refl _) (Nat.le_refl _)
  refine AW.sw1 (fun h8 => ?_) (fun h8 => ?_)
  · refine AW.tswIn (pc := 1) (v := (-23)) (q := 3) 56 h8 dX12_reckon_1 (by decide) (by decide) (by decide) rfl (by decide) ?_
    refine AW.iload_n (pc := 56) dX12_reckon_56 rfl 2 rfl ?_
    refine AW.if_ne (pc := 57) 64 dX12_reckon_57 (by decide) (fun h9 => ?_) (fun h9 => ?_)
    · refine AW.iconst (pc := 60) dX12_reckon_60 ci_0 ?_
      refine AW.goto (pc := 61) 67 dX12_reckon_61 (by decide) ?_
      exact AW.iret (pc := 67) dX12_reckon_67 rfl (fun _ _ _ => rfl) (Nat.le_refl _) (Nat.le_refl _)
    · refine AW.iload_n (pc := 64) dX12_reckon_64 rfl 1 rfl ?_
      refine AW.iload_n (pc := 65) dX12_reckon_65 rfl 2 rfl ?_
      refine AW.chk (fun g10 => ?_)
      refine AW.idiv (pc := 66) dX12_reckon_66 g10 ?_
      exact AW.iret (pc := 67) dX12_reckon_67 rfl (fun _ _ _ => rfl) (Nat.le_refl _) (Nat.le_refl _)
  refine AW.sw1 (fun h11 => ?_) (fun h11 => ?_)
  · refine AW.tswIn (pc := 1) (v := (-22)) (q := 4) 52 h11 dX12_reckon_1 (by decide) (by decide) (by decide) rfl (by decide) ?_
    refine AW.iload_n (pc := 52) dX12_reckon_52 rfl 1 rfl ?_
    refine AW.iload_n (pc := 53) dX12_reckon_53 rfl 2 rfl ?_
    refine AW.imul (pc := 54) dX12_reckon_54 ?_
    exact AW.iret (pc := 55) dX12_reckon_55 rfl (fun _ _ _ => rfl) (Nat.le_refl _) (Nat.le_refl _)
  refine AW.sw1 (fun h12 => ?_) (fun h12 => ?_)
  · refine AW.tswIn (pc := 1) (v := (-21)) (q := 5) 48 h12 dX12_reckon_1 (by decide) (by decide) (by decide) rfl (by decide) ?_
    refine AW.iload_n (pc := 48) dX12_reckon_48 rfl 1 rfl ?_
    refine AW.iload_n (pc := 49) dX12_reckon_49 rfl 2 rfl ?_
    refine AW.isub (pc := 50) dX12_reckon_50 ?_
    exact AW.iret (pc := 51) dX12_reckon_51 rfl (fun _ _ _ => rfl) (Nat.le_refl _) (Nat.le_refl _)
  refine AW.sw1 (fun h13 => ?_) (fun h13 => ?_)
  · refine AW.tswIn (pc := 1) (v := (-20)) (q := 6) 44 h13 dX12_reckon_1 (by decide) (by decide) (by decide) rfl (by decide) ?_
    refine AW.iload_n (pc := 44) dX12_reckon_44 rfl 1 rfl ?_
    refine AW.iload_n (pc := 45) dX12_reckon_45 rfl 2 rfl ?_
    refine AW.iadd (pc := 46) dX12_reckon_46 ?_
    exact AW.iret (pc := 47) dX12_reckon_47 rfl (fun _ _ _ => rfl) (Nat.le_refl _) (Nat.le_refl _)
  refine AW.tswOut (pc := 1) 104 dX12_reckon_1 (by have eh1 := tne_m26 _ h1; have eh4 := tne_m25 _ h4; have eh6 := tne_m24 _ h6; have eh8 := tne_m23 _ h8; have eh11 := tne_m22 _ h11; have eh12 := tne_m21 _ h12; have eh13 := tne_m20 _ h13; omega) (by decide) ?_
  refine AW.iload_n (pc := 104) dX12_reckon_104 rfl 1 rfl ?_
  refine AW.if_ne (pc := 105) 112 dX12_reckon_105 (by decide) (fun h14 => ?_) (fun h14 => ?_)
  · refine AW.iload_n (pc := 108) dX12_reckon_108 rfl 2 rfl ?_
    refine AW.if_eq (pc := 109) 116 dX12_reckon_109 (by decide) (fun h15 => ?_) (fun h15 => ?_)
    · refine AW.iconst (pc := 116) dX12_reckon_116 ci_0 ?_
      exact AW.iret (pc := 117) dX12_reckon_117 rfl (fun _ _ _ => rfl) (Nat.le_refl _) (Nat.le_refl _)
    · exact AW.sub [] rfl (kX12_reckon_B112 l E n hn ct hct ex M)
  · exact AW.sub [] rfl (kX12_reckon_B112 l E n hn ct hct ex M)
-- GateBoxModel.evaluate(IIII)I
def zX12_evaluate_B169 (KK16 : Nat → Int32 → Int32 → Int32 → Int32 → Int32 → Int32 → Mem → Option (Int32 × Mem)) (this : Nat) (x1 : Int32) (x2 : Int32) (x3 : Int32) (x4 : Int32) (x5 : Int32) (x6 : Int32) (M : Mem) : Option (Int32 × Mem) :=
  KK16 this x1 x2 x3 x4 x5 (x6 + 1) M
def zX12_evaluate_B132 (KK16 : Nat → Int32 → Int32 → Int32 → Int32 → Int32 → Int32 → Mem → Option (Int32 × Mem)) (this : Nat) (x1 : Int32) (x2 : Int32) (x3 : Int32) (x4 : Int32) (x5 : Int32) (x6 : Int32) (s0 : Nat) (s1 : Int32) (s2 : Int32) (M : Mem) : Option (Int32 × Mem) :=
  if (K0 s0).1 = 1 ∧ inb s1 (K0 s0).2 = true then
  lt (sI M s0 (Int32.toNatClampNeg s1) s2) fun M2 =>
  zX12_evaluate_B169 KK16 this x1 x2 x3 x4 x5 x6 M2
  else none
def zX12_evaluate_B16 (KK16 : Nat → Int32 → Int32 → Int32 → Int32 → Int32 → Int32 → Mem → Option (Int32 × Mem)) (this : Nat) (x1 : Int32) (x2 : Int32) (x3 : Int32) (x4 : Int32) (x5 : Int32) (x6 : Int32) (M : Mem) : Option (Int32 × Mem) :=
  if mR M this 9 ≠ 0 then
  if (K0 (mR M this 9)).1 = 1 ∧ inb ((8 * x1) + x2) (K0 (mR M this 9)).2 = true then
  if (mI M (mR M this 9) (Int32.toNatClampNeg ((8 * x1) + x2))) ≤ x6 then
    if mR M this 31 ≠ 0 then
    if (K0 (mR M this 31)).1 = 1 ∧ inb 0 (K0 (mR M this 31)).2 = true then
    some (mI M (mR M this 31) (Int32.toNatClampNeg 0), M)
    else none
    else none
  else
    if mR M this 10 ≠ 0 then
    if (K0 (mR M this 10)).1 = 1 ∧ inb ((700 * x1) + x6) (K0 (mR M this 10)).2 = true then
    lt (mI M (mR M this 10) (Int32.toNatClampNeg ((700 * x1) + x6))) fun v8 =>
    if v8 < 0 then
      if v8 ≤ (-20) then
        if v8 = (-28) then
          if mR M this 31 ≠ 0 then
          if (K0 (mR M this 31)).1 = 1 ∧ inb (x5 - 1) (K0 (mR M this 31)).2 = true then
          if (mI M (mR M this 31) (Int32.toNatClampNeg (x5 - 1))) = 0 then
            zX12_evaluate_B132 KK16 this x1 x2 x3 x4 x5 x6 (mR M this 31) (x5 - 1) 1 M
          else
            zX12_evaluate_B132 KK16 this x1 x2 x3 x4 x5 x6 (mR M this 31) (x5 - 1) 0 M
          else none
          else none
        else
          if mR M this 31 ≠ 0 then
          if (K0 (mR M this 31)).1 = 1 ∧ inb ((x5 + (-1)) - 1) (K0 (mR M this 31)).2 = true then
          if inb (x5 + (-1)) (K0 (mR M this 31)).2 = true then
          bnd (zX12_reckon v8 (mI M (mR M this 31) (Int32.toNatClampNeg ((x5 + (-1)) - 1))) (mI M (mR M this 31) (Int32.toNatClampNeg (x5 + (-1)))) M) fun v18 M19 =>
          if inb ((x5 + (-1)) - 1) (K0 (mR M this 31)).2 = true then
          lt (sI M19 (mR M this 31) (Int32.toNatClampNeg ((x5 + (-1)) - 1)) v18) fun M21 =>
          zX12_evaluate_B169 KK16 this x1 x2 x3 x4 (x5 + (-1)) x6 M21
          else none
          else none
          else none
          else none
      else
        if mR M this 31 ≠ 0 then
        bnd (zX12_valueOf this x1 x2 x3 x4 ((-1) - v8) M) fun v23 M24 =>
        if (K0 (mR M this 31)).1 = 1 ∧ inb x5 (K0 (mR M this 31)).2 = true then
        lt (sI M24 (mR M this 31) (Int32.toNatClampNeg x5) v23) fun M26 =>
        zX12_evaluate_B169 KK16 this x1 x2 x3 x4 (x5 + 1) x6 M26
        else none
        else none
    else
      if mR M this 31 ≠ 0 then
      if (K0 (mR M this 31)).1 = 1 ∧ inb x5 (K0 (mR M this 31)).2 = true then
      lt (sI M (mR M this 31) (Int32.toNatClampNeg x5) v8) fun M29 =>
      zX12_evaluate_B169 KK16 this x1 x2 x3 x4 (x5 + 1) x6 M29
      else none
      else none
    else none
    else none
  else none
  else none
def zX12_evaluate_L16 : Nat → Nat → Int32 → Int32 → Int32 → Int32 → Int32 → Int32 → Mem → Option (Int32 × Mem)
  | 0 => fun _ _ _ _ _ _ _ _ => none
  | k + 1 => zX12_evaluate_B16 (zX12_evaluate_L16 k)
def zX12_evaluate (this : Nat) (x1 : Int32) (x2 : Int32) (x3 : Int32) (x4 : Int32) (M : Mem) : Option (Int32 × Mem) :=
  if K0 this = (0, 12) then
  if mR M this 8 ≠ 0 then
  if (K0 (mR M this 8)).1 = 1 ∧ inb ((8 * x1) + x2) (K0 (mR M this 8)).2 = true then
  lt (mI M (mR M this 8) (Int32.toNatClampNeg ((8 * x1) + x2))) fun v3 =>
  zX12_evaluate_L16 FU this x1 x2 x3 x4 0 v3 M
  else none
  else none
  else none
set_option maxRecDepth 20000 in
set_option maxHeartbeats 4000000 in
theorem kX12_evaluate_B169 (l : Launch) (E : Ev) (n : Nat) (hn : 7 ≤ n) (ct : Nat) (hct : 111 ≤ ct) (ex : Bool) (KK16 : Nat → Int32 → Int32 → Int32 → Int32 → Int32 → Int32 → Mem → Option (Int32 × Mem)) (hKK16 : ∀ (this : Nat) (x1 : Int32) (x2 : Int32) (x3 : Int32) (x4 : Int32) (x5 : Int32) (x6 : Int32) (M : Mem) (_ : K0 this = (0, 12)), AW l E fX12_evaluate (fun _ => rmN n 0 0) (PQr E 0 0 ct ex enI) ct ex 0 0 16 [(0, .ref (ad E this)), (1, .int x1), (2, .int x2), (3, .int x3), (4, .int x4), (5, .int x5), (6, .int x6)] [] M (KK16 this x1 x2 x3 x4 x5 x6 M)) (this : Nat) (x1 : Int32) (x2 : Int32) (x3 : Int32) (x4 : Int32) (x5 : Int32) (x6 : Int32) (M : Mem) (hthis : K0 this = (0, 12)) : AW l E fX12_evaluate (fun _ => rmN n 0 0) (PQr E 0 0 ct ex enI) ct ex 0 0 169 [(0, .ref (ad E this)), (1, .int x1), (2, .int x2), (3, .int x3), (4, .int x4), (5, .int x5), (6, .int x6)] [] M (zX12_evaluate_B169 KK16 this x1 x2 x3 x4 x5 x6 M) := by
  unfold zX12_evaluate_B169
  refine AW.iinc (pc := 169) (w := 6) [1, 2, 3, 4, 5, 6, 0] [(0, .ref (ad E this)), (1, .int x1), (2, .int x2), (3, .int x3), (4, .int x4), (5, .int x5), (6, .int (x6 + 1))] dX12_evaluate_169 rfl (inc_1 _) (by decide) rfl ?_
  refine AW.goto (pc := 172) 16 dX12_evaluate_172 (by decide) ?_
  exact hKK16 this x1 x2 x3 x4 x5 (x6 + 1) M hthis
set_option maxRecDepth 20000 in
set_option maxHeartbeats 4000000 in
theorem kX12_evaluate_B132 (l : Launch) (E : Ev) (n : Nat) (hn : 7 ≤ n) (ct : Nat) (hct : 111 ≤ ct) (ex : Bool) (KK16 : Nat → Int32 → Int32 → Int32 → Int32 → Int32 → Int32 → Mem → Option (Int32 × Mem)) (hKK16 : ∀ (this : Nat) (x1 : Int32) (x2 : Int32) (x3 : Int32) (x4 : Int32) (x5 : Int32) (x6 : Int32) (M : Mem) (_ : K0 this = (0, 12)), AW l E fX12_evaluate (fun _ => rmN n 0 0) (PQr E 0 0 ct ex enI) ct ex 0 0 16 [(0, .ref (ad E this)), (1, .int x1), (2, .int x2), (3, .int x3), (4, .int x4), (5, .int x5), (6, .int x6)] [] M (KK16 this x1 x2 x3 x4 x5 x6 M)) (this : Nat) (x1 : Int32) (x2 : Int32) (x3 : Int32) (x4 : Int32) (x5 : Int32) (x6 : Int32) (s0 : Nat) (s1 : Int32) (s2 : Int32) (M : Mem) (hthis : K0 this = (0, 12)) : AW l E fX12_evaluate (fun _ => rmN n 0 0) (PQr E 0 0 ct ex enI) ct ex 0 0 132 [(0, .ref (ad E this)), (1, .int x1), (2, .int x2), (3, .int x3), (4, .int x4), (5, .int x5), (6, .int x6)] [.int s2, .int s1, .ref (ad E s0)] M (zX12_evaluate_B132 KK16 this x1 x2 x3 x4 x5 x6 s0 s1 s2 M) := by
  unfold zX12_evaluate_B132
  refine AW.chk (fun g1 => ?_)
  refine AW.iast (pc := 132) dX12_evaluate_132 (k0e g1.1) (kct (k0e g1.1) rfl hct) g1.2 ?_
  refine AW.genM (fun M2 => ?_)
  refine AW.goto (pc := 133) 169 dX12_evaluate_133 (by decide) ?_
  exact kX12_evaluate_B169 l E n hn ct hct ex KK16 hKK16 this x1 x2 x3 x4 x5 x6 M2 hthis
set_option maxRecDepth 20000 in
set_option maxHeartbeats 4000000 in
theorem kX12_evaluate_B16 (l : Launch) (E : Ev) (n : Nat) (hn : 7 ≤ n) (ct : Nat) (hct : 111 ≤ ct) (ex : Bool) (KK16 : Nat → Int32 → Int32 → Int32 → Int32 → Int32 → Int32 → Mem → Option (Int32 × Mem)) (hKK16 : ∀ (this : Nat) (x1 : Int32) (x2 : Int32) (x3 : Int32) (x4 : Int32) (x5 : Int32) (x6 : Int32) (M : Mem) (_ : K0 this = (0, 12)), AW l E fX12_evaluate (fun _ => rmN n 0 0) (PQr E 0 0 ct ex enI) ct ex 0 0 16 [(0, .ref (ad E this)), (1, .int x1), (2, .int x2), (3, .int x3), (4, .int x4), (5, .int x5), (6, .int x6)] [] M (KK16 this x1 x2 x3 x4 x5 x6 M)) (this : Nat) (x1 : Int32) (x2 : Int32) (x3 : Int32) (x4 : Int32) (x5 : Int32) (x6 : Int32) (M : Mem) (hthis : K0 this = (0, 12)) : AW l E fX12_evaluate (fun _ => rmN n 0 0) (PQr E 0 0 ct ex enI) ct ex 0 0 16 [(0, .ref (ad E this)), (1, .int x1), (2, .int x2), (3, .int x3), (4, .int x4), (5, .int x5), (6, .int x6)] [] M (zX12_evaluate_B16 KK16 this x1 x2 x3 x4 x5 x6 M) := by
  unfold zX12_evaluate_B16
  refine AW.iload (pc := 16) dX12_evaluate_16 6 rfl ?_
  refine AW.aload_n (pc := 18) dX12_evaluate_18 rfl 0 rfl ?_
  refine AW.chk (fun g1 => ?_)
  refine AW.getR (pc := 19) dX12_evaluate_19 flX12_59 hthis (kct hthis rfl hct) g1 ?_
  refine AW.bipush (pc := 22) dX12_evaluate_22 cb_8 ?_
  refine AW.iload_n (pc := 24) dX12_evaluate_24 rfl 1 rfl ?_
  refine AW.imul (pc := 25) dX12_evaluate_25 ?_
  refine AW.iload_n (pc := 26) dX12_evaluate_26 rfl 2 rfl ?_
  refine AW.iadd (pc := 27) dX12_evaluate_27 ?_
  refine AW.chk (fun g2 => ?_)
  refine AW.iald (pc := 28) dX12_evaluate_28 (k0e g2.1) (kct (k0e g2.1) rfl hct) g2.2 ?_
  refine AW.icmp_ge (pc := 29) 175 dX12_evaluate_29 (by decide) (fun h3 => ?_) (fun h3 => ?_)
  · refine AW.aload_n (pc := 175) dX12_evaluate_175 rfl 0 rfl ?_
    refine AW.chk (fun g4 => ?_)
    refine AW.getR (pc := 176) dX12_evaluate_176 flX12_96 hthis (kct hthis rfl hct) g4 ?_
    refine AW.iconst (pc := 179) dX12_evaluate_179 ci_0 ?_
    refine AW.chk (fun g5 => ?_)
    refine AW.iald (pc := 180) dX12_evaluate_180 (k0e g5.1) (kct (k0e g5.1) rfl hct) g5.2 ?_
    exact AW.iret (pc := 181) dX12_evaluate_181 rfl (fun _ _ _ => rfl) (Nat.le_refl _) (Nat.le_refl _)
  · refine AW.aload_n (pc := 32) dX12_evaluate_32 rfl 0 rfl ?_
    refine AW.chk (fun g6 => ?_)
    refine AW.getR (pc := 33) dX12_evaluate_33 flX12_62 hthis (kct hthis rfl hct) g6 ?_
    refine AW.sipush (pc := 36) dX12_evaluate_36 cs_700 ?_
    refine AW.iload_n (pc := 39) dX12_evaluate_39 rfl 1 rfl ?_
    refine AW.imul (pc := 40) dX12_evaluate_40 ?_
    refine AW.iload (pc := 41) dX12_evaluate_41 6 rfl ?_
    refine AW.iadd (pc := 43) dX12_evaluate_43 ?_
    refine AW.chk (fun g7 => ?_)
    refine AW.iald (pc := 44) dX12_evaluate_44 (k0e g7.1) (kct (k0e g7.1) rfl hct) g7.2 ?_
    refine AW.genI (fun v8 => ?_)
    refine AW.istore (pc := 45) [1, 2, 3, 4, 5, 6, 7, 0] [(0, .ref (ad E this)), (1, .int x1), (2, .int x2), (3, .int x3), (4, .int x4), (5, .int x5), (6, .int x6), (7, .int v8)] dX12_evaluate_45 (by decide) rfl ?_
    refine AW.iload (pc := 47) dX12_evaluate_47 7 rfl ?_
    refine AW.if_lt (pc := 49) 67 dX12_evaluate_49 (by decide) (fun h9 => ?_) (fun h9 => ?_)
    · refine AW.iload (pc := 67) dX12_evaluate_67 7 rfl ?_
      refine AW.bipush (pc := 69) dX12_evaluate_69 cb_m20 ?_
      refine AW.icmp_le (pc := 71) 100 dX12_evaluate_71 (by decide) (fun h10 => ?_) (fun h10 => ?_)
      · refine AW.iload (pc := 100) dX12_evaluate_100 7 rfl ?_
        refine AW.bipush (pc := 102) dX12_evaluate_102 cb_m28 ?_
        refine AW.icmp_ne (pc := 104) 136 dX12_evaluate_104 (by decide) (fun h11 => ?_) (fun h11 => ?_)
        · refine AW.aload_n (pc := 107) dX12_evaluate_107 rfl 0 rfl ?_
          refine AW.chk (fun g12 => ?_)
          refine AW.getR (pc := 108) dX12_evaluate_108 flX12_96 hthis (kct hthis rfl hct) g12 ?_
          refine AW.iload (pc := 111) dX12_evaluate_111 5 rfl ?_
          refine AW.iconst (pc := 113) dX12_evaluate_113 ci_1 ?_
          refine AW.isub (pc := 114) dX12_evaluate_114 ?_
          refine AW.aload_n (pc := 115) dX12_evaluate_115 rfl 0 rfl ?_
          refine AW.getR (pc := 116) dX12_evaluate_116 flX12_96 hthis (kct hthis rfl hct) g12 ?_
          refine AW.iload (pc := 119) dX12_evaluate_119 5 rfl ?_
          refine AW.iconst (pc := 121) dX12_evaluate_121 ci_1 ?_
          refine AW.isub (pc := 122) dX12_evaluate_122 ?_
          refine AW.chk (fun g13 => ?_)
          refine AW.iald (pc := 123) dX12_evaluate_123 (k0e g13.1) (kct (k0e g13.1) rfl hct) g13.2 ?_
          refine AW.if_eq (pc := 124) 131 dX12_evaluate_124 (by decide) (fun h14 => ?_) (fun h14 => ?_)
          · refine AW.iconst (pc := 131) dX12_evaluate_131 ci_1 ?_
            exact AW.sub [0, 1, 2, 3, 4, 5, 6] rfl (kX12_evaluate_B132 l E n hn ct hct ex KK16 hKK16 this x1 x2 x3 x4 x5 x6 (mR M this 31) (x5 - 1) 1 M hthis)
          · refine AW.iconst (pc := 127) dX12_evaluate_127 ci_0 ?_
            refine AW.goto (pc := 128) 132 dX12_evaluate_128 (by decide) ?_
            exact AW.sub [0, 1, 2, 3, 4, 5, 6] rfl (kX12_evaluate_B132 l E n hn ct hct ex KK16 hKK16 this x1 x2 x3 x4 x5 x6 (mR M this 31) (x5 - 1) 0 M hthis)
        · refine AW.iinc (pc := 136) (w := 5) [1, 2, 3, 4, 5, 0, 6, 7] [(0, .ref (ad E this)), (1, .int x1), (2, .int x2), (3, .int x3), (4, .int x4), (5, .int (x5 + (-1))), (6, .int x6), (7, .int v8)] dX12_evaluate_136 rfl (inc_m1 _) (by decide) rfl ?_
          refine AW.aload_n (pc := 139) dX12_evaluate_139 rfl 0 rfl ?_
          refine AW.chk (fun g15 => ?_)
          refine AW.getR (pc := 140) dX12_evaluate_140 flX12_96 hthis (kct hthis rfl hct) g15 ?_
          refine AW.iload (pc := 143) dX12_evaluate_143 5 rfl ?_
          refine AW.iconst (pc := 145) dX12_evaluate_145 ci_1 ?_
          refine AW.isub (pc := 146) dX12_evaluate_146 ?_
          refine AW.iload (pc := 147) dX12_evaluate_147 7 rfl ?_
          refine AW.aload_n (pc := 149) dX12_evaluate_149 rfl 0 rfl ?_
          refine AW.getR (pc := 150) dX12_evaluate_150 flX12_96 hthis (kct hthis rfl hct) g15 ?_
          refine AW.iload (pc := 153) dX12_evaluate_153 5 rfl ?_
          refine AW.iconst (pc := 155) dX12_evaluate_155 ci_1 ?_
          refine AW.isub (pc := 156) dX12_evaluate_156 ?_
          refine AW.chk (fun g16 => ?_)
          refine AW.iald (pc := 157) dX12_evaluate_157 (k0e g16.1) (kct (k0e g16.1) rfl hct) g16.2 ?_
          refine AW.aload_n (pc := 158) dX12_evaluate_158 rfl 0 rfl ?_
          refine AW.getR (pc := 159) dX12_evaluate_159 flX12_96 hthis (kct hthis rfl hct) g15 ?_
          refine AW.iload (pc := 162) dX12_evaluate_162 5 rfl ?_
          refine AW.chk (fun g17 => ?_)
          refine AW.iald (pc := 164) dX12_evaluate_164 (k0e g16.1) (kct (k0e g16.1) rfl hct) g17 ?_
          refine AW.cS3i (pc := 165) dX12_evaluate_165 mlX12_316 mbX12_reckon (fun _ => okR_N (by omega)) (kX12_reckon l E (n - 1) (by omega) ct hct ex v8 (mI M (mR M this 31) (Int32.toNatClampNeg ((x5 + (-1)) - 1))) (mI M (mR M this 31) (Int32.toNatClampNeg (x5 + (-1)))) M) (Nat.le_of_ble_eq_true rfl) (fun v18 M19 => ?_)
          refine AW.chk (fun g20 => ?_)
          refine AW.iast (pc := 168) dX12_evaluate_168 (k0e g16.1) (kct (k0e g16.1) rfl hct) g20 ?_
          refine AW.genM (fun M21 => ?_)
          exact AW.sub [0, 1, 2, 3, 4, 5, 6] rfl (kX12_evaluate_B169 l E n hn ct hct ex KK16 hKK16 this x1 x2 x3 x4 (x5 + (-1)) x6 M21 hthis)
      · refine AW.aload_n (pc := 74) dX12_evaluate_74 rfl 0 rfl ?_
        refine AW.chk (fun g22 => ?_)
        refine AW.getR (pc := 75) dX12_evaluate_75 flX12_96 hthis (kct hthis rfl hct) g22 ?_
        refine AW.iload (pc := 78) dX12_evaluate_78 5 rfl ?_
        refine AW.aload_n (pc := 80) dX12_evaluate_80 rfl 0 rfl ?_
        refine AW.iload_n (pc := 81) dX12_evaluate_81 rfl 1 rfl ?_
        refine AW.iload_n (pc := 82) dX12_evaluate_82 rfl 2 rfl ?_
        refine AW.iload_n (pc := 83) dX12_evaluate_83 rfl 3 rfl ?_
        refine AW.iload (pc := 84) dX12_evaluate_84 4 rfl ?_
        refine AW.iconst (pc := 86) dX12_evaluate_86 ci_m1 ?_
        refine AW.iload (pc := 87) dX12_evaluate_87 7 rfl ?_
        refine AW.isub (pc := 89) dX12_evaluate_89 ?_
        refine AW.cV5i (pc := 90) dX12_evaluate_90 mlX12_312 mbX12_valueOf rfl hthis (kct hthis rfl hct) (fun _ => okR_N (by omega)) (kX12_valueOf l E (n - 1) (by omega) ct hct ex this x1 x2 x3 x4 ((-1) - v8) M) (Nat.le_of_ble_eq_true rfl) (fun v23 M24 => ?_)
        refine AW.chk (fun g25 => ?_)
        refine AW.iast (pc := 93) dX12_evaluate_93 (k0e g25.1) (kct (k0e g25.1) rfl hct) g25.2 ?_
        refine AW.genM (fun M26 => ?_)
        refine AW.iinc (pc := 94) (w := 5) [1, 2, 3, 4, 5, 0, 6] [(0, .ref (ad E this)), (1, .int x1), (2, .int x2), (3, .int x3), (4, .int x4), (5, .int (x5 + 1)), (6, .int x6)] dX12_evaluate_94 rfl (inc_1 _) (by decide) rfl ?_
        refine AW.goto (pc := 97) 169 dX12_evaluate_97 (by decide) ?_
        exact kX12_evaluate_B169 l E n hn ct hct ex KK16 hKK16 this x1 x2 x3 x4 (x5 + 1) x6 M26 hthis
    · refine AW.aload_n (pc := 52) dX12_evaluate_52 rfl 0 rfl ?_
      refine AW.chk (fun g27 => ?_)
      refine AW.getR (pc := 53) dX12_evaluate_53 flX12_96 hthis (kct hthis rfl hct) g27 ?_
      refine AW.iload (pc := 56) dX12_evaluate_56 5 rfl ?_
      refine AW.iload (pc := 58) dX12_evaluate_58 7 rfl ?_
      refine AW.chk (fun g28 => ?_)
      refine AW.iast (pc := 60) dX12_evaluate_60 (k0e g28.1) (kct (k0e g28.1) rfl hct) g28.2 ?_
      refine AW.genM (fun M29 => ?_)
      refine AW.iinc (pc := 61) (w := 5) [1, 2, 3, 4, 5, 0, 6] [(0, .ref (ad E this)), (1, .int x1), (2, .int x2), (3, .int x3), (4, .int x4), (5, .int (x5 + 1)), (6, .int x6)] dX12_evaluate_61 rfl (inc_1 _) (by decide) rfl ?_
      refine AW.goto (pc := 64) 169 dX12_evaluate_64 (by decide) ?_
      exact kX12_evaluate_B169 l E n hn ct hct ex KK16 hKK16 this x1 x2 x3 x4 (x5 + 1) x6 M29 hthis
set_option maxRecDepth 20000 in
set_option maxHeartbeats 4000000 in
theorem kX12_evaluate_L16 (l : Launch) (E : Ev) (n : Nat) (hn : 7 ≤ n) (ct : Nat) (hct : 111 ≤ ct) (ex : Bool) (k : Nat) : ∀ (this : Nat) (x1 : Int32) (x2 : Int32) (x3 : Int32) (x4 : Int32) (x5 : Int32) (x6 : Int32) (M : Mem) (_ : K0 this = (0, 12)), AW l E fX12_evaluate (fun _ => rmN n 0 0) (PQr E 0 0 ct ex enI) ct ex 0 0 16 [(0, .ref (ad E this)), (1, .int x1), (2, .int x2), (3, .int x3), (4, .int x4), (5, .int x5), (6, .int x6)] [] M (zX12_evaluate_L16 k this x1 x2 x3 x4 x5 x6 M) := by
  induction k with
  | zero => intro this x1 x2 x3 x4 x5 x6 M _; exact AW.none
  | succ k ih =>
    intro this x1 x2 x3 x4 x5 x6 M hthis
    exact kX12_evaluate_B16 l E n hn ct hct ex (zX12_evaluate_L16 k) ih this x1 x2 x3 x4 x5 x6 M hthis
set_option maxRecDepth 20000 in
set_option maxHeartbeats 4000000 in
theorem kX12_evaluate (l : Launch) (E : Ev) (n : Nat) (hn : 7 ≤ n) (ct : Nat) (hct : 111 ≤ ct) (ex : Bool) (this : Nat) (x1 : Int32) (x2 : Int32) (x3 : Int32) (x4 : Int32) (M : Mem) : AM l E n ct ex yX12_evaluate fX12_evaluate enI [.ref (ad E this), .int x1, .int x2, .int x3, .int x4] M (zX12_evaluate this x1 x2 x3 x4 M) := by
  unfold zX12_evaluate
  refine AM.of (by decide +kernel) ⟨rfl, rfl, rfl⟩ (Nat.le_of_ble_eq_true rfl) ?_
  refine AW.chk (fun hthis => ?_)
  refine AW.iconst (pc := 0) dX12_evaluate_0 ci_0 ?_
  refine AW.istore (pc := 1) [1, 2, 3, 4, 5, 0] [(0, .ref (ad E this)), (1, .int x1), (2, .int x2), (3, .int x3), (4, .int x4), (5, .int 0)] dX12_evaluate_1 (by decide) rfl ?_
  refine AW.aload_n (pc := 3) dX12_evaluate_3 rfl 0 rfl ?_
  refine AW.chk (fun g1 => ?_)
  refine AW.getR (pc := 4) dX12_evaluate_4 flX12_56 hthis (kct hthis rfl hct) g1 ?_
  refine AW.bipush (pc := 7) dX12_evaluate_7 cb_8 ?_
  refine AW.iload_n (pc := 9) dX12_evaluate_9 rfl 1 rfl ?_
  refine AW.imul (pc := 10) dX12_evaluate_10 ?_
  refine AW.iload_n (pc := 11) dX12_evaluate_11 rfl 2 rfl ?_
  refine AW.iadd (pc := 12) dX12_evaluate_12 ?_
  refine AW.chk (fun g2 => ?_)
  refine AW.iald (pc := 13) dX12_evaluate_13 (k0e g2.1) (kct (k0e g2.1) rfl hct) g2.2 ?_
  refine AW.genI (fun v3 => ?_)
  refine AW.istore (pc := 14) [1, 2, 3, 4, 5, 6, 0] [(0, .ref (ad E this)), (1, .int x1), (2, .int x2), (3, .int x3), (4, .int x4), (5, .int 0), (6, .int v3)] dX12_evaluate_14 (by decide) rfl ?_
  exact kX12_evaluate_L16 l E n hn ct hct ex FU this x1 x2 x3 x4 0 v3 M hthis
