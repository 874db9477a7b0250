/-! ===== functions over the memory and their contracts: printed by wip/whole/lay.py ===== -/
-- GateBox.refused(I)V
def zX11_refused (this : Nat) (x1 : Int32) (M : Mem) : Option (Unit × Mem) :=
  if K0 this = (0, 11) then
  if mR M this 3 ≠ 0 then
  bnd (zX11_at (mR M this 3) x1 M) fun v2 M3 =>
  bnd (zX11_put (mR M this 3) x1 (v2 + 1) M3) fun _ M4 =>
  some ((), M4)
  else none
  else none
set_option maxRecDepth 20000 in
set_option maxHeartbeats 4000000 in
theorem kX11_refused (l : Launch) (E : Ev) (n : Nat) (hn : 2 ≤ n) (ct : Nat) (hct : 111 ≤ ct) (ex : Bool) (this : Nat) (x1 : Int32) (M : Mem) : AM l E n ct ex yX11_refused fX11_refused enU [.ref (ad E this), .int x1] M (zX11_refused this x1 M) := by
  unfold zX11_refused
  refine AM.of (by decide +kernel) ⟨rfl, rfl, rfl⟩ (Nat.le_of_ble_eq_true rfl) ?_
  refine AW.chk (fun hthis => ?_)
  refine AW.aload_n (pc := 0) dX11_refused_0 rfl 0 rfl ?_
  refine AW.chk (fun g1 => ?_)
  refine AW.getR (pc := 1) dX11_refused_1 flX11_26 hthis (kct hthis rfl hct) g1 ?_
  refine AW.iload_n (pc := 4) dX11_refused_4 rfl 1 rfl ?_
  refine AW.aload_n (pc := 5) dX11_refused_5 rfl 0 rfl ?_
  refine AW.getR (pc := 6) dX11_refused_6 flX11_26 hthis (kct hthis rfl hct) g1 ?_
  refine AW.iload_n (pc := 9) dX11_refused_9 rfl 1 rfl ?_
  refine AW.cS2i (pc := 10) dX11_refused_10 mlX11_138 mbX11_at (fun _ => okR_N (by omega)) (kX11_at l E (n - 1) (by omega) ct hct ex (mR M this 3) x1 M) (Nat.le_of_ble_eq_true rfl) (fun v2 M3 => ?_)
  refine AW.iconst (pc := 13) dX11_refused_13 ci_1 ?_
  refine AW.iadd (pc := 14) dX11_refused_14 ?_
  refine AW.cS3v (pc := 15) dX11_refused_15 mlX11_321 mbX11_put (fun _ => okR_N (by omega)) (kX11_put l E (n - 1) (by omega) ct hct ex (mR M this 3) x1 (v2 + 1) M3) (Nat.le_of_ble_eq_true rfl) (fun _ M4 => ?_)
  exact AW.vret (pc := 18) dX11_refused_18 rfl (fun _ _ _ => rfl) (Nat.le_refl _) (Nat.le_refl _)
-- GateBox$Book.beginAt(I)V
def zX0_beginAt (this : Nat) (x1 : Int32) (M : Mem) : Option (Unit × Mem) :=
  if K0 this = (0, 0) then
  lt (sI M this 0 x1) fun M1 =>
  lt (sI M1 this 1 x1) fun M2 =>
  lt (sI M2 this 2 0) fun M3 =>
  some ((), M3)
  else none
set_option maxRecDepth 20000 in
set_option maxHeartbeats 4000000 in
theorem kX0_beginAt (l : Launch) (E : Ev) (n : Nat) (hn : 1 ≤ n) (ct : Nat) (hct : 111 ≤ ct) (ex : Bool) (this : Nat) (x1 : Int32) (M : Mem) : AM l E n ct ex yX0_beginAt fX0_beginAt enU [.ref (ad E this), .int x1] M (zX0_beginAt this x1 M) := by
  unfold zX0_beginAt
  refine AM.of (by decide +kernel) ⟨rfl, rfl, rfl⟩ (Nat.le_of_ble_eq_true rfl) ?_
  refine AW.chk (fun hthis => ?_)
  refine AW.aload_n (pc := 0) dX0_beginAt_0 rfl 0 rfl ?_
  refine AW.iload_n (pc := 1) dX0_beginAt_1 rfl 1 rfl ?_
  refine AW.putI (pc := 2) dX0_beginAt_2 flX0_9 hthis (kct hthis rfl hct) ?_
  refine AW.genM (fun M1 => ?_)
  refine AW.aload_n (pc := 5) dX0_beginAt_5 rfl 0 rfl ?_
  refine AW.iload_n (pc := 6) dX0_beginAt_6 rfl 1 rfl ?_
  refine AW.putI (pc := 7) dX0_beginAt_7 flX0_15 hthis (kct hthis rfl hct) ?_
  refine AW.genM (fun M2 => ?_)
  refine AW.aload_n (pc := 10) dX0_beginAt_10 rfl 0 rfl ?_
  refine AW.iconst (pc := 11) dX0_beginAt_11 ci_0 ?_
  refine AW.putI (pc := 12) dX0_beginAt_12 flX0_18 hthis (kct hthis rfl hct) ?_
  refine AW.genM (fun M3 => ?_)
  exact AW.vret (pc := 15) dX0_beginAt_15 rfl (fun _ _ _ => rfl) (Nat.le_refl _) (Nat.le_refl _)
-- GateBox$Book.clear()V
def zX0_clear (this : Nat) (M : Mem) : Option (Unit × Mem) :=
  if K0 this = (0, 0) then
  bnd (zX0_beginAt this 0 M) fun _ M1 =>
  lt (sI M1 this 3 0) fun M2 =>
  lt (sI M2 this 4 0) fun M3 =>
  if mR M3 this 6 ≠ 0 then
  bnd (zJ7_fill_53178 (mR M3 this 6) 0 M3) fun _ M5 =>
  some ((), M5)
  else none
  else none
set_option maxRecDepth 20000 in
set_option maxHeartbeats 4000000 in
theorem kX0_clear (l : Launch) (E : Ev) (n : Nat) (hn : 2 ≤ n) (ct : Nat) (hct : 111 ≤ ct) (ex : Bool) (this : Nat) (M : Mem) : AM l E n ct ex yX0_clear fX0_clear enU [.ref (ad E this)] M (zX0_clear this M) := by
  unfold zX0_clear
  refine AM.of (by decide +kernel) ⟨rfl, rfl, rfl⟩ (Nat.le_of_ble_eq_true rfl) ?_
  refine AW.chk (fun hthis => ?_)
  refine AW.aload_n (pc := 0) dX0_clear_0 rfl 0 rfl ?_
  refine AW.iconst (pc := 1) dX0_clear_1 ci_0 ?_
  refine AW.cV1v (pc := 2) dX0_clear_2 mlX0_34 mbX0_beginAt rfl hthis (kct hthis rfl hct) (fun _ => okR_N (by omega)) (kX0_beginAt l E (n - 1) (by omega) ct hct ex this 0 M) (Nat.le_of_ble_eq_true rfl) (fun _ M1 => ?_)
  refine AW.aload_n (pc := 5) dX0_clear_5 rfl 0 rfl ?_
  refine AW.iconst (pc := 6) dX0_clear_6 ci_0 ?_
  refine AW.putI (pc := 7) dX0_clear_7 flX0_21 hthis (kct hthis rfl hct) ?_
  refine AW.genM (fun M2 => ?_)
  refine AW.aload_n (pc := 10) dX0_clear_10 rfl 0 rfl ?_
  refine AW.iconst (pc := 11) dX0_clear_11 ci_0 ?_
  refine AW.putI (pc := 12) dX0_clear_12 flX0_24 hthis (kct hthis rfl hct) ?_
  refine AW.genM (fun M3 => ?_)
  refine AW.aload_n (pc := 15) dX0_clear_15 rfl 0 rfl ?_
  refine AW.chk (fun g4 => ?_)
  refine AW.getR (pc := 16) dX0_clear_16 flX0_31 hthis (kct hthis rfl hct) g4 ?_
  refine AW.iconst (pc := 19) dX0_clear_19 ci_0 ?_
  refine AW.cS2v (pc := 20) dX0_clear_20 mlX0_38 mbJ7_fill_53178 (fun _ => okR_N (by omega)) (kJ7_fill_53178 l E (n - 1) (by omega) ct hct ex (mR M3 this 6) 0 M3) (Nat.le_of_ble_eq_true rfl) (fun _ M5 => ?_)
  exact AW.vret (pc := 23) dX0_clear_23 rfl (fun _ _ _ => rfl) (Nat.le_refl _) (Nat.le_refl _)
-- GateBox.gate(II)I
def zX11_gate_B45 (this : Nat) (x3 : Nat) (x4 : Int32) (s0 : Nat) (s1 : Int32) (M : Mem) : Option ((Int32 ⊕ Nat) × Mem) :=
  if K0 s0 = (0, 11) then
  lt (sI M s0 6 s1) fun M2 =>
  if x4 = 0 then
    if K0 x3 = (0, 4) then
    if mR M2 x3 0 ≠ 0 then
    if mR M2 this 0 ≠ 0 then
    if K0 (mR M2 this 0) = (0, 6) then
    if mR M2 (mR M2 this 0) 3 ≠ 0 then
    lt (sR M2 x3 0 (mR M2 (mR M2 this 0) 3)) fun M9 =>
    if mR M9 this 0 ≠ 0 then
    if K0 (mR M9 this 0) = (0, 6) then
    lt (sR M9 (mR M9 this 0) 3 (mR M2 x3 0)) fun M12 =>
    if mR M12 x3 1 ≠ 0 then
    if K0 (mR M12 x3 1) = (0, 0) then
    bnd (zX0_clear (mR M12 x3 1) M12) fun _ M14 =>
    lt (sI M14 this 5 0) fun M16 =>
    some (.inl 0, M16)
    else none
    else none
    else none
    else none
    else none
    else none
    else none
    else none
    else none
  else
    bnd (zX11_refused this 0 M2) fun _ M17 =>
    some (.inl x4, M17)
  else none
def zX11_gate (this : Nat) (x1 : Int32) (x2 : Int32) (M : Mem) : Option ((Int32 ⊕ Nat) × Mem) :=
  if K0 this = (0, 11) then
  bndX (zX11_gateOf this x1 M) fun v1 M2 =>
  if mR M2 this 0 ≠ 0 then
  if K0 (mR M2 this 0) = (0, 6) then
  bndX (zX11_askRange x2 0 (mI M2 (mR M2 this 0) 1) M2) fun _ M5 =>
  if mR M5 this 0 ≠ 0 then
  if K0 (mR M5 this 0) = (0, 6) then
  bnd (zX6_read (mR M5 this 0) x2 M5) fun v7 M8 =>
  if v7 = 0 then
    zX11_gate_B45 this v1 v7 this (-1) M8
  else
    if mR M8 this 0 ≠ 0 then
    if K0 (mR M8 this 0) = (0, 6) then
    zX11_gate_B45 this v1 v7 this (mI M8 (mR M8 this 0) 2) M8
    else none
    else none
  else none
  else none
  else none
  else none
  else none
set_option maxRecDepth 20000 in
set_option maxHeartbeats 4000000 in
theorem kX11_gate_B45 (l : Launch) (E : Ev) (hst : l.stackTraces = false) (n : Nat) (hn : 98 ≤ n) (ct : Nat) (hct : 111 ≤ ct) (ex : Bool) (this : Nat) (x3 : Nat) (x4 : Int32) (s0 : Nat) (s1 : Int32) (M : Mem) (hthis : K0 this = (0, 11)) : AW l E fX11_gate (RX n) (PQX E ct ex enI) ct ex 0 0 45 [(0, .ref (ad E this)), (3, .ref (ad E x3)), (4, .int x4)] [.int s1, .ref (ad E s0)] M (zX11_gate_B45 this x3 x4 s0 s1 M) := by
  unfold zX11_gate_B45
  refine AW.chk (fun g1 => ?_)
  refine AW.putI (pc := 45) dX11_gate_45 flX11_37 g1 (kct g1 rfl hct) ?_
  refine AW.genM (fun M2 => ?_)
  refine AW.iload (pc := 48) dX11_gate_48 2 rfl ?_
  refine AW.if_eq (pc := 50) 61 dX11_gate_50 (by decide) (fun h3 => ?_) (fun h3 => ?_)
  · refine AW.aload_n (pc := 61) dX11_gate_61 rfl 1 rfl ?_
    refine AW.chk (fun g4 => ?_)
    refine AW.chk (fun g5 => ?_)
    refine AW.getR (pc := 62) dX11_gate_62 flX11_43 g4 (kct g4 rfl hct) g5 ?_
    refine AW.astore (pc := 65) [1, 2, 0] [(0, .ref (ad E this)), (3, .ref (ad E x3)), (5, .ref (ad E (mR M2 x3 0)))] dX11_gate_65 (by decide) rfl ?_
    refine AW.aload_n (pc := 67) dX11_gate_67 rfl 1 rfl ?_
    refine AW.aload_n (pc := 68) dX11_gate_68 rfl 0 rfl ?_
    refine AW.chk (fun g6 => ?_)
    refine AW.getR (pc := 69) dX11_gate_69 flX11_12 hthis (kct hthis rfl hct) g6 ?_
    refine AW.chk (fun g7 => ?_)
    refine AW.chk (fun g8 => ?_)
    refine AW.getR (pc := 72) dX11_gate_72 flX11_124 g7 (kct g7 rfl hct) g8 ?_
    refine AW.putR (pc := 75) dX11_gate_75 flX11_43 (fun h => by cases h) g4 (kct g4 rfl hct) g8 ?_
    refine AW.genM (fun M9 => ?_)
    refine AW.aload_n (pc := 78) dX11_gate_78 rfl 0 rfl ?_
    refine AW.chk (fun g10 => ?_)
    refine AW.getR (pc := 79) dX11_gate_79 flX11_12 hthis (kct hthis rfl hct) g10 ?_
    refine AW.aload (pc := 82) dX11_gate_82 2 rfl ?_
    refine AW.chk (fun g11 => ?_)
    refine AW.putR (pc := 84) dX11_gate_84 flX11_124 (fun h => by cases h) g11 (kct g11 rfl hct) g5 ?_
    refine AW.genM (fun M12 => ?_)
    refine AW.aload_n (pc := 87) dX11_gate_87 rfl 1 rfl ?_
    refine AW.chk (fun g13 => ?_)
    refine AW.getR (pc := 88) dX11_gate_88 flX11_125 g4 (kct g4 rfl hct) g13 ?_
    refine AW.chk (fun g15 => ?_)
    refine AW.cV0v (pc := 91) dX11_gate_91 mlX11_129 mbX0_clear rfl g15 (kct g15 rfl hct) (fun r => okR_X (by omega) r) (kX0_clear l E (n - 1) (by omega) ct hct ex (mR M12 x3 1) M12) (Nat.le_of_ble_eq_true rfl) (fun _ M14 => ?_)
    refine AW.aload_n (pc := 94) dX11_gate_94 rfl 0 rfl ?_
    refine AW.iconst (pc := 95) dX11_gate_95 ci_0 ?_
    refine AW.putZ (pc := 96) dX11_gate_96 flX11_33 hthis (kct hthis rfl hct) (Or.inl rfl) ?_
    refine AW.genM (fun M16 => ?_)
    refine AW.iconst (pc := 99) dX11_gate_99 ci_0 ?_
    exact AW.iret (pc := 100) dX11_gate_100 rfl (fun _ _ _ => rfl) (Nat.le_refl _) (Nat.le_refl _)
  · refine AW.aload_n (pc := 53) dX11_gate_53 rfl 0 rfl ?_
    refine AW.iconst (pc := 54) dX11_gate_54 ci_0 ?_
    refine AW.cV1v (pc := 55) dX11_gate_55 mlX11_121 mbX11_refused rfl hthis (kct hthis rfl hct) (fun r => okR_X (by omega) r) (kX11_refused l E (n - 1) (by omega) ct hct ex this 0 M2) (Nat.le_of_ble_eq_true rfl) (fun _ M17 => ?_)
    refine AW.iload (pc := 58) dX11_gate_58 2 rfl ?_
    exact AW.iret (pc := 60) dX11_gate_60 rfl (fun _ _ _ => rfl) (Nat.le_refl _) (Nat.le_refl _)
set_option maxRecDepth 20000 in
set_option maxHeartbeats 4000000 in
theorem kX11_gate (l : Launch) (E : Ev) (hst : l.stackTraces = false) (n : Nat) (hn : 98 ≤ n) (ct : Nat) (hct : 111 ≤ ct) (ex : Bool) (this : Nat) (x1 : Int32) (x2 : Int32) (M : Mem) : AMX l E n ct ex yX11_gate fX11_gate enI [.ref (ad E this), .int x1, .int x2] M (zX11_gate this x1 x2 M) := by
  unfold zX11_gate
  refine AMX.of (by decide +kernel) ⟨rfl, rfl, rfl⟩ (Nat.le_of_ble_eq_true rfl) ?_
  refine AW.chk (fun hthis => ?_)
  refine AW.aload_n (pc := 0) dX11_gate_0 rfl 0 rfl ?_
  refine AW.iload_n (pc := 1) dX11_gate_1 rfl 1 rfl ?_
  refine AW.xV1r (pc := 2) rfl dX11_gate_2 mlX11_106 mbX11_gateOf rfl hthis (kct hthis rfl hct) (by omega) (kX11_gateOf l E hst (n - 1) (by omega) ct hct ex this x1 M) (Nat.le_of_ble_eq_true rfl) (fun v1 M2 => ?_)
  refine AW.astore_n (pc := 5) [1, 3, 0] [(0, .ref (ad E this)), (2, .int x2), (3, .ref (ad E v1))] dX11_gate_5 rfl (by decide) rfl ?_
  refine AW.iload_n (pc := 6) dX11_gate_6 rfl 1 rfl ?_
  refine AW.iconst (pc := 7) dX11_gate_7 ci_0 ?_
  refine AW.aload_n (pc := 8) dX11_gate_8 rfl 0 rfl ?_
  refine AW.chk (fun g3 => ?_)
  refine AW.getR (pc := 9) dX11_gate_9 flX11_12 hthis (kct hthis rfl hct) g3 ?_
  refine AW.chk (fun g4 => ?_)
  refine AW.getI (pc := 12) dX11_gate_12 flX11_99 g4 (kct g4 rfl hct) ?_
  refine AW.xS3v (pc := 15) rfl dX11_gate_15 mlX11_110 mbX11_askRange (by omega) (kX11_askRange l E hst (n - 1) (by omega) ct hct ex x2 0 (mI M2 (mR M2 this 0) 1) M2) (Nat.le_of_ble_eq_true rfl) (fun _ M5 => ?_)
  refine AW.aload_n (pc := 18) dX11_gate_18 rfl 0 rfl ?_
  refine AW.chk (fun g6 => ?_)
  refine AW.getR (pc := 19) dX11_gate_19 flX11_12 hthis (kct hthis rfl hct) g6 ?_
  refine AW.iload_n (pc := 22) dX11_gate_22 rfl 1 rfl ?_
  refine AW.chk (fun g9 => ?_)
  refine AW.cV1i (pc := 23) dX11_gate_23 mlX11_114 mbX6_read rfl g9 (kct g9 rfl hct) (fun r => okR_X (by omega) r) (kX6_read l E (n - 1) (by omega) ct hct ex (mR M5 this 0) x2 M5) (Nat.le_of_ble_eq_true rfl) (fun v7 M8 => ?_)
  refine AW.istore (pc := 26) [1, 3, 0] [(0, .ref (ad E this)), (3, .ref (ad E v1)), (4, .int v7)] dX11_gate_26 (by decide) rfl ?_
  refine AW.aload_n (pc := 28) dX11_gate_28 rfl 0 rfl ?_
  refine AW.iload (pc := 29) dX11_gate_29 2 rfl ?_
  refine AW.if_ne (pc := 31) 38 dX11_gate_31 (by decide) (fun h10 => ?_) (fun h10 => ?_)
  · refine AW.iconst (pc := 34) dX11_gate_34 ci_m1 ?_
    refine AW.goto (pc := 35) 45 dX11_gate_35 (by decide) ?_
    exact kX11_gate_B45 l E hst n hn ct hct ex this v1 v7 this (-1) M8 hthis
  · refine AW.aload_n (pc := 38) dX11_gate_38 rfl 0 rfl ?_
    refine AW.chk (fun g11 => ?_)
    refine AW.getR (pc := 39) dX11_gate_39 flX11_12 hthis (kct hthis rfl hct) g11 ?_
    refine AW.chk (fun g12 => ?_)
    refine AW.getI (pc := 42) dX11_gate_42 flX11_118 g12 (kct g12 rfl hct) ?_
    exact kX11_gate_B45 l E hst n hn ct hct ex this v1 v7 this (mI M8 (mR M8 this 0) 2) M8 hthis
-- GateBox.fault()I
def zX11_fault (this : Nat) (M : Mem) : Option (Int32 × Mem) :=
  if K0 this = (0, 11) then
  some (mI M this 6, M)
  else none
set_option maxRecDepth 20000 in
set_option maxHeartbeats 4000000 in
theorem kX11_fault (l : Launch) (E : Ev) (n : Nat) (hn : 1 ≤ n) (ct : Nat) (hct : 111 ≤ ct) (ex : Bool) (this : Nat) (M : Mem) : AM l E n ct ex yX11_fault fX11_fault enI [.ref (ad E this)] M (zX11_fault this M) := by
  unfold zX11_fault
  refine AM.of (by decide +kernel) ⟨rfl, rfl, rfl⟩ (Nat.le_of_ble_eq_true rfl) ?_
  refine AW.chk (fun hthis => ?_)
  refine AW.aload_n (pc := 0) dX11_fault_0 rfl 0 rfl ?_
  refine AW.getI (pc := 1) dX11_fault_1 flX11_37 hthis (kct hthis rfl hct) ?_
  exact AW.iret (pc := 4) dX11_fault_4 rfl (fun _ _ _ => rfl) (Nat.le_refl _) (Nat.le_refl _)
-- GateBox.count(I)I
def zX11_count (this : Nat) (x1 : Int32) (M : Mem) : Option ((Int32 ⊕ Nat) × Mem) :=
  if K0 this = (0, 11) then
  bndX (zX11_askKnown x1 3 M) fun _ M1 =>
  if x1 = 0 then
    if mR M1 this 0 ≠ 0 then
    if K0 (mR M1 this 0) = (0, 6) then
    some (.inl (mI M1 (mR M1 this 0) 1), M1)
    else none
    else none
  else
    if mR M1 this 3 ≠ 0 then
    bnd (zX11_at (mR M1 this 3) (x1 - 1) M1) fun v6 M7 =>
    some (.inl v6, M7)
    else none
  else none
set_option maxRecDepth 20000 in
set_option maxHeartbeats 4000000 in
theorem kX11_count (l : Launch) (E : Ev) (hst : l.stackTraces = false) (n : Nat) (hn : 7 ≤ n) (ct : Nat) (hct : 111 ≤ ct) (ex : Bool) (this : Nat) (x1 : Int32) (M : Mem) : AMX l E n ct ex yX11_count fX11_count enI [.ref (ad E this), .int x1] M (zX11_count this x1 M) := by
  unfold zX11_count
  refine AMX.of (by decide +kernel) ⟨rfl, rfl, rfl⟩ (Nat.le_of_ble_eq_true rfl) ?_
  refine AW.chk (fun hthis => ?_)
  refine AW.iload_n (pc := 0) dX11_count_0 rfl 1 rfl ?_
  refine AW.iconst (pc := 1) dX11_count_1 ci_3 ?_
  refine AW.xS2v (pc := 2) rfl dX11_count_2 mlX11_134 mbX11_askKnown (by omega) (kX11_askKnown l E hst (n - 1) (by omega) ct hct ex x1 3 M) (Nat.le_of_ble_eq_true rfl) (fun _ M1 => ?_)
  refine AW.iload_n (pc := 5) dX11_count_5 rfl 1 rfl ?_
  refine AW.if_ne (pc := 6) 19 dX11_count_6 (by decide) (fun h2 => ?_) (fun h2 => ?_)
  · refine AW.aload_n (pc := 9) dX11_count_9 rfl 0 rfl ?_
    refine AW.chk (fun g3 => ?_)
    refine AW.getR (pc := 10) dX11_count_10 flX11_12 hthis (kct hthis rfl hct) g3 ?_
    refine AW.chk (fun g4 => ?_)
    refine AW.getI (pc := 13) dX11_count_13 flX11_99 g4 (kct g4 rfl hct) ?_
    refine AW.goto (pc := 16) 29 dX11_count_16 (by decide) ?_
    exact AW.iret (pc := 29) dX11_count_29 rfl (fun _ _ _ => rfl) (Nat.le_refl _) (Nat.le_refl _)
  · refine AW.aload_n (pc := 19) dX11_count_19 rfl 0 rfl ?_
    refine AW.chk (fun g5 => ?_)
    refine AW.getR (pc := 20) dX11_count_20 flX11_26 hthis (kct hthis rfl hct) g5 ?_
    refine AW.iload_n (pc := 23) dX11_count_23 rfl 1 rfl ?_
    refine AW.iconst (pc := 24) dX11_count_24 ci_1 ?_
    refine AW.isub (pc := 25) dX11_count_25 ?_
    refine AW.cS2i (pc := 26) dX11_count_26 mlX11_138 mbX11_at (fun r => okR_X (by omega) r) (kX11_at l E (n - 1) (by omega) ct hct ex (mR M1 this 3) (x1 - 1) M1) (Nat.le_of_ble_eq_true rfl) (fun v6 M7 => ?_)
    exact AW.iret (pc := 29) dX11_count_29 rfl (fun _ _ _ => rfl) (Nat.le_refl _) (Nat.le_refl _)
-- GateBox$Rules.told(I)I
def zX8_told (this : Nat) (x1 : Int32) (M : Mem) : Option (Int32 × Mem) :=
  if K0 this = (0, 8) then
  if x1 = 0 then
    some (mI M this 0, M)
  else
  if x1 = 1 then
    some (mI M this 2, M)
  else
  if x1 = 2 then
    if mR M this 12 ≠ 0 then
    if K0 (mR M this 12) = (0, 9) then
    some (mI M (mR M this 12) 0, M)
    else none
    else none
  else
  if x1 = 3 then
    if mR M this 12 ≠ 0 then
    if K0 (mR M this 12) = (0, 9) then
    some (mI M (mR M this 12) 1, M)
    else none
    else none
  else
  if x1 = 4 then
    if mR M this 12 ≠ 0 then
    if K0 (mR M this 12) = (0, 9) then
    some (mI M (mR M this 12) 2, M)
    else none
    else none
  else
  if x1 = 5 then
    if mR M this 12 ≠ 0 then
    if K0 (mR M this 12) = (0, 9) then
    some (mI M (mR M this 12) 3, M)
    else none
    else none
  else
  if x1 = 6 then
    some (mI M this 3, M)
  else
  if x1 = 7 then
    some (mI M this 4, M)
  else
  some (mI M this 1, M)
  else none
set_option maxRecDepth 20000 in
set_option maxHeartbeats 4000000 in
theorem kX8_told (l : Launch) (E : Ev) (n : Nat) (hn : 1 ≤ n) (ct : Nat) (hct : 111 ≤ ct) (ex : Bool) (this : Nat) (x1 : Int32) (M : Mem) : AM l E n ct ex yX8_told fX8_told enI [.ref (ad E this), .int x1] M (zX8_told this x1 M) := by
  unfold zX8_told
  refine AM.of (by decide +kernel) ⟨rfl, rfl, rfl⟩ (Nat.le_of_ble_eq_true rfl) ?_
  refine AW.chk (fun hthis => ?_)
  refine AW.iload_n (pc := 0) dX8_told_0 rfl 1 rfl ?_
  refine AW.sw1 (fun h1 => ?_) (fun h1 => ?_)
  · refine AW.tswIn (pc := 1) (v := 0) (q := 0) 48 h1 dX8_told_1 (by decide) (by decide) (by decide) rfl (by decide) ?_
    refine AW.aload_n (pc := 48) dX8_told_48 rfl 0 rfl ?_
    refine AW.getI (pc := 49) dX8_told_49 flX8_9 hthis (kct hthis rfl hct) ?_
    exact AW.iret (pc := 52) dX8_told_52 rfl (fun _ _ _ => rfl) (Nat.le_refl _) (Nat.le_refl _)
  refine AW.sw1 (fun h2 => ?_) (fun h2 => ?_)
  · refine AW.tswIn (pc := 1) (v := 1) (q := 1) 53 h2 dX8_told_1 (by decide) (by decide) (by decide) rfl (by decide) ?_
    refine AW.aload_n (pc := 53) dX8_told_53 rfl 0 rfl ?_
    refine AW.getI (pc := 54) dX8_told_54 flX8_18 hthis (kct hthis rfl hct) ?_
    exact AW.iret (pc := 57) dX8_told_57 rfl (fun _ _ _ => rfl) (Nat.le_refl _) (Nat.le_refl _)
  refine AW.sw1 (fun h3 => ?_) (fun h3 => ?_)
  · refine AW.tswIn (pc := 1) (v := 2) (q := 2) 58 h3 dX8_told_1 (by decide) (by decide) (by decide) rfl (by decide) ?_
    refine AW.aload_n (pc := 58) dX8_told_58 rfl 0 rfl ?_
    refine AW.chk (fun g4 => ?_)
    refine AW.getR (pc := 59) dX8_told_59 flX8_52 hthis (kct hthis rfl hct) g4 ?_
    refine AW.chk (fun g5 => ?_)
    refine AW.getI (pc := 62) dX8_told_62 flX8_59 g5 (kct g5 rfl hct) ?_
    exact AW.iret (pc := 65) dX8_told_65 rfl (fun _ _ _ => rfl) (Nat.le_refl _) (Nat.le_refl _)
  refine AW.sw1 (fun h6 => ?_) (fun h6 => ?_)
  · refine AW.tswIn (pc := 1) (v := 3) (q := 3) 66 h6 dX8_told_1 (by decide) (by decide) (by decide) rfl (by decide) ?_
    refine AW.aload_n (pc := 66) dX8_told_66 rfl 0 rfl ?_
    refine AW.chk (fun g7 => ?_)
    refine AW.getR (pc := 67) dX8_told_67 flX8_52 hthis (kct hthis rfl hct) g7 ?_
    refine AW.chk (fun g8 => ?_)
    refine AW.getI (pc := 70) dX8_told_70 flX8_62 g8 (kct g8 rfl hct) ?_
    exact AW.iret (pc := 73) dX8_told_73 rfl (fun _ _ _ => rfl) (Nat.le_refl _) (Nat.le_refl _)
  refine AW.sw1 (fun h9 => ?_) (fun h9 => ?_)
  · refine AW.tswIn (pc := 1) (v := 4) (q := 4) 74 h9 dX8_told_1 (by decide) (by decide) (by decide) rfl (by decide) ?_
    refine AW.aload_n (pc := 74) dX8_told_74 rfl 0 rfl ?_
    refine AW.chk (fun g10 => ?_)
    refine AW.getR (pc := 75) dX8_told_75 flX8_52 hthis (kct hthis rfl hct) g10 ?_
    refine AW.chk (fun g11 => ?_)
    refine AW.getI (pc := 78) dX8_told_78 flX8_65 g11 (kct g11 rfl hct) ?_
    exact AW.iret (pc := 81) dX8_told_81 rfl (fun _ _ _ => rfl) (Nat.le_refl _) (Nat.le_refl _)
  refine AW.sw1 (fun h12 => ?_) (fun h12 => ?_)
  · refine AW.tswIn (pc := 1) (v := 5) (q := 5) 82 h12 dX8_told_1 (by decide) (by decide) (by decide) rfl (by decide) ?_
    refine AW.aload_n (pc := 82) dX8_told_82 rfl 0 rfl ?_
    refine AW.chk (fun g13 => ?_)
    refine AW.getR (pc := 83) dX8_told_83 flX8_52 hthis (kct hthis rfl hct) g13 ?_
    refine AW.chk (fun g14 => ?_)
    refine AW.getI (pc := 86) dX8_told_86 flX8_68 g14 (kct g14 rfl hct) ?_
    exact AW.iret (pc := 89) dX8_told_89 rfl (fun _ _ _ => rfl) (Nat.le_refl _) (Nat.le_refl _)
  refine AW.sw1 (fun h15 => ?_) (fun h15 => ?_)
  · refine AW.tswIn (pc := 1) (v := 6) (q := 6) 90 h15 dX8_told_1 (by decide) (by decide) (by decide) rfl (by decide) ?_
    refine AW.aload_n (pc := 90) dX8_told_90 rfl 0 rfl ?_
    refine AW.getI (pc := 91) dX8_told_91 flX8_21 hthis (kct hthis rfl hct) ?_
    exact AW.iret (pc := 94) dX8_told_94 rfl (fun _ _ _ => rfl) (Nat.le_refl _) (Nat.le_refl _)
  refine AW.sw1 (fun h16 => ?_) (fun h16 => ?_)
  · refine AW.tswIn (pc := 1) (v := 7) (q := 7) 95 h16 dX8_told_1 (by decide) (by decide) (by decide) rfl (by decide) ?_
    refine AW.aload_n (pc := 95) dX8_told_95 rfl 0 rfl ?_
    refine AW.getI (pc := 96) dX8_told_96 flX8_24 hthis (kct hthis rfl hct) ?_
    exact AW.iret (pc := 99) dX8_told_99 rfl (fun _ _ _ => rfl) (Nat.le_refl _) (Nat.le_refl _)
  refine AW.tswOut (pc := 1) 100 dX8_told_1 (by have eh1 := tne_0 _ h1; have eh2 := tne_1 _ h2; have eh3 := tne_2 _ h3; have eh6 := tne_3 _ h6; have eh9 := tne_4 _ h9; have eh12 := tne_5 _ h12; have eh15 := tne_6 _ h15; have eh16 := tne_7 _ h16; omega) (by decide) ?_
  refine AW.aload_n (pc := 100) dX8_told_100 rfl 0 rfl ?_
  refine AW.getI (pc := 101) dX8_told_101 flX8_15 hthis (kct hthis rfl hct) ?_
  exact AW.iret (pc := 104) dX8_told_104 rfl (fun _ _ _ => rfl) (Nat.le_refl _) (Nat.le_refl _)
-- GateBox$Book.told(I)I
def zX0_told (this : Nat) (x1 : Int32) (M : Mem) : Option (Int32 × Mem) :=
  if K0 this = (0, 0) then
  if x1 = 9 then
    some (mI M this 0, M)
  else
  if x1 = 10 then
    some (mI M this 2, M)
  else
  if x1 = 11 then
    some (mI M this 3, M)
  else
  if x1 = 12 then
    some (mI M this 4, M)
  else
  some (mI M this 1, M)
  else none
set_option maxRecDepth 20000 in
set_option maxHeartbeats 4000000 in
theorem kX0_told (l : Launch) (E : Ev) (n : Nat) (hn : 1 ≤ n) (ct : Nat) (hct : 111 ≤ ct) (ex : Bool) (this : Nat) (x1 : Int32) (M : Mem) : AM l E n ct ex yX0_told fX0_told enI [.ref (ad E this), .int x1] M (zX0_told this x1 M) := by
  unfold zX0_told
  refine AM.of (by decide +kernel) ⟨rfl, rfl, rfl⟩ (Nat.le_of_ble_eq_true rfl) ?_
  refine AW.chk (fun hthis => ?_)
  refine AW.iload_n (pc := 0) dX0_told_0 rfl 1 rfl ?_
  refine AW.sw1 (fun h1 => ?_) (fun h1 => ?_)
  · refine AW.tswIn (pc := 1) (v := 9) (q := 0) 32 h1 dX0_told_1 (by decide) (by decide) (by decide) rfl (by decide) ?_
    refine AW.aload_n (pc := 32) dX0_told_32 rfl 0 rfl ?_
    refine AW.getI (pc := 33) dX0_told_33 flX0_9 hthis (kct hthis rfl hct) ?_
    exact AW.iret (pc := 36) dX0_told_36 rfl (fun _ _ _ => rfl) (Nat.le_refl _) (Nat.le_refl _)
  refine AW.sw1 (fun h2 => ?_) (fun h2 => ?_)
  · refine AW.tswIn (pc := 1) (v := 10) (q := 1) 37 h2 dX0_told_1 (by decide) (by decide) (by decide) rfl (by decide) ?_
    refine AW.aload_n (pc := 37) dX0_told_37 rfl 0 rfl ?_
    refine AW.getI (pc := 38) dX0_told_38 flX0_18 hthis (kct hthis rfl hct) ?_
    exact AW.iret (pc := 41) dX0_told_41 rfl (fun _ _ _ => rfl) (Nat.le_refl _) (Nat.le_refl _)
  refine AW.sw1 (fun h3 => ?_) (fun h3 => ?_)
  · refine AW.tswIn (pc := 1) (v := 11) (q := 2) 42 h3 dX0_told_1 (by decide) (by decide) (by decide) rfl (by decide) ?_
    refine AW.aload_n (pc := 42) dX0_told_42 rfl 0 rfl ?_
    refine AW.getI (pc := 43) dX0_told_43 flX0_21 hthis (kct hthis rfl hct) ?_
    exact AW.iret (pc := 46) dX0_told_46 rfl (fun _ _ _ => rfl) (Nat.le_refl _) (Nat.le_refl _)
  refine AW.sw1 (fun h4 => ?_) (fun h4 => ?_)
  · refine AW.tswIn (pc := 1) (v := 12) (q := 3) 47 h4 dX0_told_1 (by decide) (by decide) (by decide) rfl (by decide) ?_
    refine AW.aload_n (pc := 47) dX0_told_47 rfl 0 rfl ?_
    refine AW.getI (pc := 48) dX0_told_48 flX0_24 hthis (kct hthis rfl hct) ?_
    exact AW.iret (pc := 51) dX0_told_51 rfl (fun _ _ _ => rfl) (Nat.le_refl _) (Nat.le_refl _)
  refine AW.tswOut (pc := 1) 52 dX0_told_1 (by have eh1 := tne_9 _ h1; have eh2 := tne_10 _ h2; have eh3 := tne_11 _ h3; have eh4 := tne_12 _ h4; omega) (by decide) ?_
  refine AW.aload_n (pc := 52) dX0_told_52 rfl 0 rfl ?_
  refine AW.getI (pc := 53) dX0_told_53 flX0_15 hthis (kct hthis rfl hct) ?_
  exact AW.iret (pc := 56) dX0_told_56 rfl (fun _ _ _ => rfl) (Nat.le_refl _) (Nat.le_refl _)
-- GateBox.about(II)I
def zX11_about (this : Nat) (x1 : Int32) (x2 : Int32) (M : Mem) : Option ((Int32 ⊕ Nat) × Mem) :=
  if K0 this = (0, 11) then
  bndX (zX11_gateOf this x1 M) fun v1 M2 =>
  bndX (zX11_askKnown x2 13 M2) fun _ M3 =>
  if 9 ≤ x2 then
    if K0 v1 = (0, 4) then
    if mR M3 v1 1 ≠ 0 then
    if K0 (mR M3 v1 1) = (0, 0) then
    bnd (zX0_told (mR M3 v1 1) x2 M3) fun v7 M8 =>
    some (.inl v7, M8)
    else none
    else none
    else none
  else
    if K0 v1 = (0, 4) then
    if mR M3 v1 0 ≠ 0 then
    if K0 (mR M3 v1 0) = (0, 8) then
    bnd (zX8_told (mR M3 v1 0) x2 M3) fun v12 M13 =>
    some (.inl v12, M13)
    else none
    else none
    else none
  else none
set_option maxRecDepth 20000 in
set_option maxHeartbeats 4000000 in
theorem kX11_about (l : Launch) (E : Ev) (hst : l.stackTraces = false) (n : Nat) (hn : 8 ≤ n) (ct : Nat) (hct : 111 ≤ ct) (ex : Bool) (this : Nat) (x1 : Int32) (x2 : Int32) (M : Mem) : AMX l E n ct ex yX11_about fX11_about enI [.ref (ad E this), .int x1, .int x2] M (zX11_about this x1 x2 M) := by
  unfold zX11_about
  refine AMX.of (by decide +kernel) ⟨rfl, rfl, rfl⟩ (Nat.le_of_ble_eq_true rfl) ?_
  refine AW.chk (fun hthis => ?_)
  refine AW.aload_n (pc := 0) dX11_about_0 rfl 0 rfl ?_
  refine AW.iload_n (pc := 1) dX11_about_1 rfl 1 rfl ?_
  refine AW.xV1r (pc := 2) rfl dX11_about_2 mlX11_106 mbX11_gateOf rfl hthis (kct hthis rfl hct) (by omega) (kX11_gateOf l E hst (n - 1) (by omega) ct hct ex this x1 M) (Nat.le_of_ble_eq_true rfl) (fun v1 M2 => ?_)
  refine AW.astore_n (pc := 5) [1, 3, 0] [(0, .ref (ad E this)), (2, .int x2), (3, .ref (ad E v1))] dX11_about_5 rfl (by decide) rfl ?_
  refine AW.iload_n (pc := 6) dX11_about_6 rfl 1 rfl ?_
  refine AW.bipush (pc := 7) dX11_about_7 cb_13 ?_
  refine AW.xS2v (pc := 9) rfl dX11_about_9 mlX11_134 mbX11_askKnown (by omega) (kX11_askKnown l E hst (n - 1) (by omega) ct hct ex x2 13 M2) (Nat.le_of_ble_eq_true rfl) (fun _ M3 => ?_)
  refine AW.iload_n (pc := 12) dX11_about_12 rfl 1 rfl ?_
  refine AW.bipush (pc := 13) dX11_about_13 cb_9 ?_
  refine AW.icmp_ge (pc := 15) 29 dX11_about_15 (by decide) (fun h4 => ?_) (fun h4 => ?_)
  · refine AW.aload_n (pc := 29) dX11_about_29 rfl 2 rfl ?_
    refine AW.chk (fun g5 => ?_)
    refine AW.chk (fun g6 => ?_)
    refine AW.getR (pc := 30) dX11_about_30 flX11_125 g5 (kct g5 rfl hct) g6 ?_
    refine AW.iload_n (pc := 33) dX11_about_33 rfl 1 rfl ?_
    refine AW.chk (fun g9 => ?_)
    refine AW.cV1i (pc := 34) dX11_about_34 mlX11_147 mbX0_told rfl g9 (kct g9 rfl hct) (fun r => okR_X (by omega) r) (kX0_told l E (n - 1) (by omega) ct hct ex (mR M3 v1 1) x2 M3) (Nat.le_of_ble_eq_true rfl) (fun v7 M8 => ?_)
    exact AW.iret (pc := 37) dX11_about_37 rfl (fun _ _ _ => rfl) (Nat.le_refl _) (Nat.le_refl _)
  · refine AW.aload_n (pc := 18) dX11_about_18 rfl 2 rfl ?_
    refine AW.chk (fun g10 => ?_)
    refine AW.chk (fun g11 => ?_)
    refine AW.getR (pc := 19) dX11_about_19 flX11_43 g10 (kct g10 rfl hct) g11 ?_
    refine AW.iload_n (pc := 22) dX11_about_22 rfl 1 rfl ?_
    refine AW.chk (fun g14 => ?_)
    refine AW.cV1i (pc := 23) dX11_about_23 mlX11_142 mbX8_told rfl g14 (kct g14 rfl hct) (fun r => okR_X (by omega) r) (kX8_told l E (n - 1) (by omega) ct hct ex (mR M3 v1 0) x2 M3) (Nat.le_of_ble_eq_true rfl) (fun v12 M13 => ?_)
    refine AW.goto (pc := 26) 37 dX11_about_26 (by decide) ?_
    exact AW.iret (pc := 37) dX11_about_37 rfl (fun _ _ _ => rfl) (Nat.le_refl _) (Nat.le_refl _)
-- GateBox.sort(III)I
def zX11_sort_B56 (x2 : Int32) (s0 : Nat) (M : Mem) : Option ((Int32 ⊕ Nat) × Mem) :=
  bnd (zX11_at s0 x2 M) fun v1 M2 =>
  some (.inl v1, M2)
def zX11_sort (this : Nat) (x1 : Int32) (x2 : Int32) (x3 : Int32) (M : Mem) : Option ((Int32 ⊕ Nat) × Mem) :=
  if K0 this = (0, 11) then
  bndX (zX11_gateOf this x1 M) fun v1 M2 =>
  if K0 v1 = (0, 4) then
  if mR M2 v1 0 ≠ 0 then
  if K0 (mR M2 v1 0) = (0, 8) then
  bndX (zX11_askKnown x2 ((mI M2 (mR M2 v1 0) 0) - 1) M2) fun _ M6 =>
  bndX (zX11_askKnown x3 2 M6) fun _ M7 =>
  if x3 = 0 then
    if mR M7 (mR M2 v1 0) 7 ≠ 0 then
    zX11_sort_B56 x2 (mR M7 (mR M2 v1 0) 7) M7
    else none
  else
    if x3 = 1 then
      if mR M7 (mR M2 v1 0) 8 ≠ 0 then
      zX11_sort_B56 x2 (mR M7 (mR M2 v1 0) 8) M7
      else none
    else
      if mR M7 (mR M2 v1 0) 9 ≠ 0 then
      zX11_sort_B56 x2 (mR M7 (mR M2 v1 0) 9) M7
      else none
  else none
  else none
  else none
  else none
set_option maxRecDepth 20000 in
set_option maxHeartbeats 4000000 in
theorem kX11_sort_B56 (l : Launch) (E : Ev) (hst : l.stackTraces = false) (n : Nat) (hn : 8 ≤ n) (ct : Nat) (hct : 111 ≤ ct) (ex : Bool) (x2 : Int32) (s0 : Nat) (M : Mem) : AW l E fX11_sort (RX n) (PQX E ct ex enI) ct ex 0 0 56 [(2, .int x2)] [.ref (ad E s0)] M (zX11_sort_B56 x2 s0 M) := by
  unfold zX11_sort_B56
  refine AW.iload_n (pc := 56) dX11_sort_56 rfl 0 rfl ?_
  refine AW.cS2i (pc := 57) dX11_sort_57 mlX11_138 mbX11_at (fun r => okR_X (by omega) r) (kX11_at l E (n - 1) (by omega) ct hct ex s0 x2 M) (Nat.le_of_ble_eq_true rfl) (fun v1 M2 => ?_)
  exact AW.iret (pc := 60) dX11_sort_60 rfl (fun _ _ _ => rfl) (Nat.le_refl _) (Nat.le_refl _)
set_option maxRecDepth 20000 in
set_option maxHeartbeats 4000000 in
theorem kX11_sort (l : Launch) (E : Ev) (hst : l.stackTraces = false) (n : Nat) (hn : 8 ≤ n) (ct : Nat) (hct : 111 ≤ ct) (ex : Bool) (this : Nat) (x1 : Int32) (x2 : Int32) (x3 : Int32) (M : Mem) : AMX l E n ct ex yX11_sort fX11_sort enI [.ref (ad E this), .int x1, .int x2, .int x3] M (zX11_sort this x1 x2 x3 M) := by
  unfold zX11_sort
  refine AMX.of (by decide +kernel) ⟨rfl, rfl, rfl⟩ (Nat.le_of_ble_eq_true rfl) ?_
  refine AW.chk (fun hthis => ?_)
  refine AW.aload_n (pc := 0) dX11_sort_0 rfl 0 rfl ?_
  refine AW.iload_n (pc := 1) dX11_sort_1 rfl 1 rfl ?_
  refine AW.xV1r (pc := 2) rfl dX11_sort_2 mlX11_106 mbX11_gateOf rfl hthis (kct hthis rfl hct) (by omega) (kX11_gateOf l E hst (n - 1) (by omega) ct hct ex this x1 M) (Nat.le_of_ble_eq_true rfl) (fun v1 M2 => ?_)
  refine AW.chk (fun g3 => ?_)
  refine AW.chk (fun g4 => ?_)
  refine AW.getR (pc := 5) dX11_sort_5 flX11_43 g3 (kct g3 rfl hct) g4 ?_
  refine AW.astore (pc := 8) [1, 3, 4, 0] [(0, .ref (ad E this)), (2, .int x2), (3, .int x3), (4, .ref (ad E (mR M2 v1 0)))] dX11_sort_8 (by decide) rfl ?_
  refine AW.iload_n (pc := 10) dX11_sort_10 rfl 1 rfl ?_
  refine AW.aload (pc := 11) dX11_sort_11 3 rfl ?_
  refine AW.chk (fun g5 => ?_)
  refine AW.getI (pc := 13) dX11_sort_13 flX11_148 g5 (kct g5 rfl hct) ?_
  refine AW.iconst (pc := 16) dX11_sort_16 ci_1 ?_
  refine AW.isub (pc := 17) dX11_sort_17 ?_
  refine AW.xS2v (pc := 18) rfl dX11_sort_18 mlX11_134 mbX11_askKnown (by omega) (kX11_askKnown l E hst (n - 1) (by omega) ct hct ex x2 ((mI M2 (mR M2 v1 0) 0) - 1) M2) (Nat.le_of_ble_eq_true rfl) (fun _ M6 => ?_)
  refine AW.iload_n (pc := 21) dX11_sort_21 rfl 2 rfl ?_
  refine AW.iconst (pc := 22) dX11_sort_22 ci_2 ?_
  refine AW.xS2v (pc := 23) rfl dX11_sort_23 mlX11_134 mbX11_askKnown (by omega) (kX11_askKnown l E hst (n - 1) (by omega) ct hct ex x3 2 M6) (Nat.le_of_ble_eq_true rfl) (fun _ M7 => ?_)
  refine AW.iload_n (pc := 26) dX11_sort_26 rfl 2 rfl ?_
  refine AW.if_ne (pc := 27) 38 dX11_sort_27 (by decide) (fun h8 => ?_) (fun h8 => ?_)
  · refine AW.aload (pc := 30) dX11_sort_30 3 rfl ?_
    refine AW.chk (fun g9 => ?_)
    refine AW.getR (pc := 32) dX11_sort_32 flX11_151 g5 (kct g5 rfl hct) g9 ?_
    refine AW.goto (pc := 35) 56 dX11_sort_35 (by decide) ?_
    exact AW.sub [1] rfl (kX11_sort_B56 l E hst n hn ct hct ex x2 (mR M7 (mR M2 v1 0) 7) M7)
  · refine AW.iload_n (pc := 38) dX11_sort_38 rfl 2 rfl ?_
    refine AW.iconst (pc := 39) dX11_sort_39 ci_1 ?_
    refine AW.icmp_ne (pc := 40) 51 dX11_sort_40 (by decide) (fun h10 => ?_) (fun h10 => ?_)
    · refine AW.aload (pc := 43) dX11_sort_43 3 rfl ?_
      refine AW.chk (fun g11 => ?_)
      refine AW.getR (pc := 45) dX11_sort_45 flX11_154 g5 (kct g5 rfl hct) g11 ?_
      refine AW.goto (pc := 48) 56 dX11_sort_48 (by decide) ?_
      exact AW.sub [1] rfl (kX11_sort_B56 l E hst n hn ct hct ex x2 (mR M7 (mR M2 v1 0) 8) M7)
    · refine AW.aload (pc := 51) dX11_sort_51 3 rfl ?_
      refine AW.chk (fun g12 => ?_)
      refine AW.getR (pc := 53) dX11_sort_53 flX11_157 g5 (kct g5 rfl hct) g12 ?_
      exact AW.sub [1] rfl (kX11_sort_B56 l E hst n hn ct hct ex x2 (mR M7 (mR M2 v1 0) 9) M7)
-- GateBox$Rules.states()I
def zX8_states (this : Nat) (M : Mem) : Option (Int32 × Mem) :=
  if K0 this = (0, 8) then
  if (mI M this 2) = 0 then
    some (1, M)
  else
    if (mI M this 2) = 1 then
      some (10, M)
    else
      some (100, M)
  else none
set_option maxRecDepth 20000 in
set_option maxHeartbeats 4000000 in
theorem kX8_states (l : Launch) (E : Ev) (n : Nat) (hn : 1 ≤ n) (ct : Nat) (hct : 111 ≤ ct) (ex : Bool) (this : Nat) (M : Mem) : AM l E n ct ex yX8_states fX8_states enI [.ref (ad E this)] M (zX8_states this M) := by
  unfold zX8_states
  refine AM.of (by decide +kernel) ⟨rfl, rfl, rfl⟩ (Nat.le_of_ble_eq_true rfl) ?_
  refine AW.chk (fun hthis => ?_)
  refine AW.aload_n (pc := 0) dX8_states_0 rfl 0 rfl ?_
  refine AW.getI (pc := 1) dX8_states_1 flX8_18 hthis (kct hthis rfl hct) ?_
  refine AW.if_ne (pc := 4) 11 dX8_states_4 (by decide) (fun h1 => ?_) (fun h1 => ?_)
  · refine AW.iconst (pc := 7) dX8_states_7 ci_1 ?_
    refine AW.goto (pc := 8) 26 dX8_states_8 (by decide) ?_
    exact AW.iret (pc := 26) dX8_states_26 rfl (fun _ _ _ => rfl) (Nat.le_refl _) (Nat.le_refl _)
  · refine AW.aload_n (pc := 11) dX8_states_11 rfl 0 rfl ?_
    refine AW.getI (pc := 12) dX8_states_12 flX8_18 hthis (kct hthis rfl hct) ?_
    refine AW.iconst (pc := 15) dX8_states_15 ci_1 ?_
    refine AW.icmp_ne (pc := 16) 24 dX8_states_16 (by decide) (fun h2 => ?_) (fun h2 => ?_)
    · refine AW.bipush (pc := 19) dX8_states_19 cb_10 ?_
      refine AW.goto (pc := 21) 26 dX8_states_21 (by decide) ?_
      exact AW.iret (pc := 26) dX8_states_26 rfl (fun _ _ _ => rfl) (Nat.le_refl _) (Nat.le_refl _)
    · refine AW.bipush (pc := 24) dX8_states_24 cb_100 ?_
      exact AW.iret (pc := 26) dX8_states_26 rfl (fun _ _ _ => rfl) (Nat.le_refl _) (Nat.le_refl _)
-- GateBox$Giver.begin(LGateBox$Rules;LGateBox$Setting;)V
def zX5_begin (this : Nat) (x1 : Nat) (x2 : Nat) (M : Mem) : Option (Unit × Mem) :=
  if K0 this = (0, 5) then
  if x1 ≠ 0 then
  lt (sR M this 0 x1) fun M1 =>
  if x2 ≠ 0 then
  lt (sR M1 this 1 x2) fun M3 =>
  if mR M3 this 2 ≠ 0 then
  bnd (zJ7_fill_53178 (mR M3 this 2) (-2) M3) fun _ M6 =>
  some ((), M6)
  else none
  else none
  else none
  else none
set_option maxRecDepth 20000 in
set_option maxHeartbeats 4000000 in
theorem kX5_begin (l : Launch) (E : Ev) (n : Nat) (hn : 2 ≤ n) (ct : Nat) (hct : 111 ≤ ct) (ex : Bool) (this : Nat) (x1 : Nat) (x2 : Nat) (M : Mem) : AM l E n ct ex yX5_begin fX5_begin enU [.ref (ad E this), .ref (ad E x1), .ref (ad E x2)] M (zX5_begin this x1 x2 M) := by
  unfold zX5_begin
  refine AM.of (by decide +kernel) ⟨rfl, rfl, rfl⟩ (Nat.le_of_ble_eq_true rfl) ?_
  refine AW.chk (fun hthis => ?_)
  refine AW.aload_n (pc := 0) dX5_begin_0 rfl 0 rfl ?_
  refine AW.aload_n (pc := 1) dX5_begin_1 rfl 1 rfl ?_
  refine AW.chk (fun g2 => ?_)
  refine AW.putR (pc := 2) dX5_begin_2 flX5_18 (fun h => by cases h) hthis (kct hthis rfl hct) g2 ?_
  refine AW.genM (fun M1 => ?_)
  refine AW.aload_n (pc := 5) dX5_begin_5 rfl 0 rfl ?_
  refine AW.aload_n (pc := 6) dX5_begin_6 rfl 2 rfl ?_
  refine AW.chk (fun g4 => ?_)
  refine AW.putR (pc := 7) dX5_begin_7 flX5_28 (fun h => by cases h) hthis (kct hthis rfl hct) g4 ?_
  refine AW.genM (fun M3 => ?_)
  refine AW.aload_n (pc := 10) dX5_begin_10 rfl 0 rfl ?_
  refine AW.chk (fun g5 => ?_)
  refine AW.getR (pc := 11) dX5_begin_11 flX5_29 hthis (kct hthis rfl hct) g5 ?_
  refine AW.bipush (pc := 14) dX5_begin_14 cb_m2 ?_
  refine AW.cS2v (pc := 16) dX5_begin_16 mlX5_32 mbJ7_fill_53178 (fun _ => okR_N (by omega)) (kJ7_fill_53178 l E (n - 1) (by omega) ct hct ex (mR M3 this 2) (-2) M3) (Nat.le_of_ble_eq_true rfl) (fun _ M6 => ?_)
  exact AW.vret (pc := 19) dX5_begin_19 rfl (fun _ _ _ => rfl) (Nat.le_refl _) (Nat.le_refl _)
-- GateBox$Rules.meanOf(I)I
def zX8_meanOf (this : Nat) (x1 : Int32) (M : Mem) : Option (Int32 × Mem) :=
  if K0 this = (0, 8) then
  if (mI M this 2) = 2 then
    some (((x1 / 10) + (x1 % 10)) / 2, M)
  else
    some (x1, M)
  else none
set_option maxRecDepth 20000 in
set_option maxHeartbeats 4000000 in
theorem kX8_meanOf (l : Launch) (E : Ev) (n : Nat) (hn : 1 ≤ n) (ct : Nat) (hct : 111 ≤ ct) (ex : Bool) (this : Nat) (x1 : Int32) (M : Mem) : AM l E n ct ex yX8_meanOf fX8_meanOf enI [.ref (ad E this), .int x1] M (zX8_meanOf this x1 M) := by
  unfold zX8_meanOf
  refine AM.of (by decide +kernel) ⟨rfl, rfl, rfl⟩ (Nat.le_of_ble_eq_true rfl) ?_
  refine AW.chk (fun hthis => ?_)
  refine AW.aload_n (pc := 0) dX8_meanOf_0 rfl 0 rfl ?_
  refine AW.getI (pc := 1) dX8_meanOf_1 flX8_18 hthis (kct hthis rfl hct) ?_
  refine AW.iconst (pc := 4) dX8_meanOf_4 ci_2 ?_
  refine AW.icmp_ne (pc := 5) 22 dX8_meanOf_5 (by decide) (fun h1 => ?_) (fun h1 => ?_)
  · refine AW.iload_n (pc := 8) dX8_meanOf_8 rfl 1 rfl ?_
    refine AW.bipush (pc := 9) dX8_meanOf_9 cb_10 ?_
    refine AW.idiv (pc := 11) dX8_meanOf_11 (by decide) ?_
    refine AW.iload_n (pc := 12) dX8_meanOf_12 rfl 1 rfl ?_
    refine AW.bipush (pc := 13) dX8_meanOf_13 cb_10 ?_
    refine AW.irem (pc := 15) dX8_meanOf_15 (by decide) ?_
    refine AW.iadd (pc := 16) dX8_meanOf_16 ?_
    refine AW.iconst (pc := 17) dX8_meanOf_17 ci_2 ?_
    refine AW.idiv (pc := 18) dX8_meanOf_18 (by decide) ?_
    refine AW.goto (pc := 19) 23 dX8_meanOf_19 (by decide) ?_
    exact AW.iret (pc := 23) dX8_meanOf_23 rfl (fun _ _ _ => rfl) (Nat.le_refl _) (Nat.le_refl _)
  · refine AW.iload_n (pc := 22) dX8_meanOf_22 rfl 1 rfl ?_
    exact AW.iret (pc := 23) dX8_meanOf_23 rfl (fun _ _ _ => rfl) (Nat.le_refl _) (Nat.le_refl _)
-- GateBox$Giver.look(III)V
def zX5_look_B132 (this : Nat) (s0 : Nat) (s1 : Int32) (s2 : Int32) (M : Mem) : Option (Unit × Mem) :=
  bnd (zX11_put s0 s1 s2 M) fun _ M1 =>
  if mR M1 this 3 ≠ 0 then
  if mR M1 this 1 ≠ 0 then
  if K0 (mR M1 this 1) = (0, 9) then
  bnd (zX11_put (mR M1 this 3) 6 (mI M1 (mR M1 this 1) 1) M1) fun _ M5 =>
  if mR M5 this 3 ≠ 0 then
  if mR M5 this 1 ≠ 0 then
  if K0 (mR M5 this 1) = (0, 9) then
  bnd (zX11_put (mR M5 this 3) 7 (mI M5 (mR M5 this 1) 2) M5) fun _ M9 =>
  if mR M9 this 3 ≠ 0 then
  if mR M9 this 1 ≠ 0 then
  if K0 (mR M9 this 1) = (0, 9) then
  bnd (zX11_put (mR M9 this 3) 8 (mI M9 (mR M9 this 1) 3) M9) fun _ M13 =>
  some ((), M13)
  else none
  else none
  else none
  else none
  else none
  else none
  else none
  else none
  else none
def zX5_look_B108 (this : Nat) (s0 : Nat) (s1 : Int32) (s2 : Int32) (M : Mem) : Option (Unit × Mem) :=
  bnd (zX11_put s0 s1 s2 M) fun _ M1 =>
  if mR M1 this 3 ≠ 0 then
  if mR M1 this 1 ≠ 0 then
  if K0 (mR M1 this 1) = (0, 9) then
  if (mI M1 (mR M1 this 1) 0) = (-1) then
    zX5_look_B132 this (mR M1 this 3) 5 0 M1
  else
    zX5_look_B132 this (mR M1 this 3) 5 1 M1
  else none
  else none
  else none
def zX5_look_B50 (this : Nat) (x2 : Int32) (s0 : Nat) (s1 : Int32) (s2 : Int32) (M : Mem) : Option (Unit × Mem) :=
  bnd (zX11_put s0 s1 s2 M) fun _ M1 =>
  if mR M1 this 3 ≠ 0 then
  bnd (zX11_put (mR M1 this 3) 2 (x2 % 10) M1) fun _ M3 =>
  if mR M3 this 3 ≠ 0 then
  if mR M3 this 0 ≠ 0 then
  if K0 (mR M3 this 0) = (0, 8) then
  bnd (zX8_meanOf (mR M3 this 0) x2 M3) fun v6 M7 =>
  bnd (zX11_put (mR M3 this 3) 3 v6 M7) fun _ M9 =>
  if mR M9 this 3 ≠ 0 then
  if mR M9 this 1 ≠ 0 then
  if K0 (mR M9 this 1) = (0, 9) then
  if (mI M9 (mR M9 this 1) 0) = (-1) then
    zX5_look_B108 this (mR M9 this 3) 4 0 M9
  else
    zX5_look_B108 this (mR M9 this 3) 4 (mI M9 (mR M9 this 1) 0) M9
  else none
  else none
  else none
  else none
  else none
  else none
  else none
def zX5_look (this : Nat) (x1 : Int32) (x2 : Int32) (x3 : Int32) (M : Mem) : Option (Unit × Mem) :=
  if K0 this = (0, 5) then
  if mR M this 0 ≠ 0 then
  if K0 (mR M this 0) = (0, 8) then
  if mR M (mR M this 0) 9 ≠ 0 then
  bnd (zX11_at (mR M (mR M this 0) 9) x1 M) fun v4 M5 =>
  lt (v4 - x3) fun v6 =>
  if mR M5 this 3 ≠ 0 then
  if mR M5 this 0 ≠ 0 then
  if K0 (mR M5 this 0) = (0, 8) then
  if mR M5 (mR M5 this 0) 8 ≠ 0 then
  bnd (zX11_at (mR M5 (mR M5 this 0) 8) x1 M5) fun v11 M12 =>
  bnd (zX11_put (mR M5 this 3) 0 v11 M12) fun _ M13 =>
  if mR M13 this 3 ≠ 0 then
  if 0 ≤ v6 then
    zX5_look_B50 this x2 (mR M13 this 3) 1 v6 M13
  else
    zX5_look_B50 this x2 (mR M13 this 3) 1 0 M13
  else none
  else none
  else none
  else none
  else none
  else none
  else none
  else none
  else none
set_option maxRecDepth 20000 in
set_option maxHeartbeats 4000000 in
theorem kX5_look_B132 (l : Launch) (E : Ev) (n : Nat) (hn : 2 ≤ n) (ct : Nat) (hct : 111 ≤ ct) (ex : Bool) (this : Nat) (s0 : Nat) (s1 : Int32) (s2 : Int32) (M : Mem) (hthis : K0 this = (0, 5)) : AW l E fX5_look (fun _ => rmN n 0 0) (PQr E 0 0 ct ex enU) ct ex 0 0 132 [(0, .ref (ad E this))] [.int s2, .int s1, .ref (ad E s0)] M (zX5_look_B132 this s0 s1 s2 M) := by
  unfold zX5_look_B132
  refine AW.cN3v (pc := 132) dX5_look_132 nlX5_63 mbX11_put (fun _ => okR_N (by omega)) (kX11_put l E (n - 1) (by omega) ct hct ex s0 s1 s2 M) (Nat.le_of_ble_eq_true rfl) (fun _ M1 => ?_)
  refine AW.aload_n (pc := 135) dX5_look_135 rfl 0 rfl ?_
  refine AW.chk (fun g2 => ?_)
  refine AW.getR (pc := 136) dX5_look_136 flX5_9 hthis (kct hthis rfl hct) g2 ?_
  refine AW.bipush (pc := 139) dX5_look_139 cb_6 ?_
  refine AW.aload_n (pc := 141) dX5_look_141 rfl 0 rfl ?_
  refine AW.chk (fun g3 => ?_)
  refine AW.getR (pc := 142) dX5_look_142 flX5_28 hthis (kct hthis rfl hct) g3 ?_
  refine AW.chk (fun g4 => ?_)
  refine AW.getI (pc := 145) dX5_look_145 flX5_79 g4 (kct g4 rfl hct) ?_
  refine AW.cN3v (pc := 148) dX5_look_148 nlX5_63 mbX11_put (fun _ => okR_N (by omega)) (kX11_put l E (n - 1) (by omega) ct hct ex (mR M1 this 3) 6 (mI M1 (mR M1 this 1) 1) M1) (Nat.le_of_ble_eq_true rfl) (fun _ M5 => ?_)
  refine AW.aload_n (pc := 151) dX5_look_151 rfl 0 rfl ?_
  refine AW.chk (fun g6 => ?_)
  refine AW.getR (pc := 152) dX5_look_152 flX5_9 hthis (kct hthis rfl hct) g6 ?_
  refine AW.bipush (pc := 155) dX5_look_155 cb_7 ?_
  refine AW.aload_n (pc := 157) dX5_look_157 rfl 0 rfl ?_
  refine AW.chk (fun g7 => ?_)
  refine AW.getR (pc := 158) dX5_look_158 flX5_28 hthis (kct hthis rfl hct) g7 ?_
  refine AW.chk (fun g8 => ?_)
  refine AW.getI (pc := 161) dX5_look_161 flX5_38 g8 (kct g8 rfl hct) ?_
  refine AW.cN3v (pc := 164) dX5_look_164 nlX5_63 mbX11_put (fun _ => okR_N (by omega)) (kX11_put l E (n - 1) (by omega) ct hct ex (mR M5 this 3) 7 (mI M5 (mR M5 this 1) 2) M5) (Nat.le_of_ble_eq_true rfl) (fun _ M9 => ?_)
  refine AW.aload_n (pc := 167) dX5_look_167 rfl 0 rfl ?_
  refine AW.chk (fun g10 => ?_)
  refine AW.getR (pc := 168) dX5_look_168 flX5_9 hthis (kct hthis rfl hct) g10 ?_
  refine AW.bipush (pc := 171) dX5_look_171 cb_8 ?_
  refine AW.aload_n (pc := 173) dX5_look_173 rfl 0 rfl ?_
  refine AW.chk (fun g11 => ?_)
  refine AW.getR (pc := 174) dX5_look_174 flX5_28 hthis (kct hthis rfl hct) g11 ?_
  refine AW.chk (fun g12 => ?_)
  refine AW.getI (pc := 177) dX5_look_177 flX5_82 g12 (kct g12 rfl hct) ?_
  refine AW.cN3v (pc := 180) dX5_look_180 nlX5_63 mbX11_put (fun _ => okR_N (by omega)) (kX11_put l E (n - 1) (by omega) ct hct ex (mR M9 this 3) 8 (mI M9 (mR M9 this 1) 3) M9) (Nat.le_of_ble_eq_true rfl) (fun _ M13 => ?_)
  exact AW.vret (pc := 183) dX5_look_183 rfl (fun _ _ _ => rfl) (Nat.le_refl _) (Nat.le_refl _)
set_option maxRecDepth 20000 in
set_option maxHeartbeats 4000000 in
theorem kX5_look_B108 (l : Launch) (E : Ev) (n : Nat) (hn : 2 ≤ n) (ct : Nat) (hct : 111 ≤ ct) (ex : Bool) (this : Nat) (s0 : Nat) (s1 : Int32) (s2 : Int32) (M : Mem) (hthis : K0 this = (0, 5)) : AW l E fX5_look (fun _ => rmN n 0 0) (PQr E 0 0 ct ex enU) ct ex 0 0 108 [(0, .ref (ad E this))] [.int s2, .int s1, .ref (ad E s0)] M (zX5_look_B108 this s0 s1 s2 M) := by
  unfold zX5_look_B108
  refine AW.cN3v (pc := 108) dX5_look_108 nlX5_63 mbX11_put (fun _ => okR_N (by omega)) (kX11_put l E (n - 1) (by omega) ct hct ex s0 s1 s2 M) (Nat.le_of_ble_eq_true rfl) (fun _ M1 => ?_)
  refine AW.aload_n (pc := 111) dX5_look_111 rfl 0 rfl ?_
  refine AW.chk (fun g2 => ?_)
  refine AW.getR (pc := 112) dX5_look_112 flX5_9 hthis (kct hthis rfl hct) g2 ?_
  refine AW.iconst (pc := 115) dX5_look_115 ci_5 ?_
  refine AW.aload_n (pc := 116) dX5_look_116 rfl 0 rfl ?_
  refine AW.chk (fun g3 => ?_)
  refine AW.getR (pc := 117) dX5_look_117 flX5_28 hthis (kct hthis rfl hct) g3 ?_
  refine AW.chk (fun g4 => ?_)
  refine AW.getI (pc := 120) dX5_look_120 flX5_76 g4 (kct g4 rfl hct) ?_
  refine AW.iconst (pc := 123) dX5_look_123 ci_m1 ?_
  refine AW.icmp_ne (pc := 124) 131 dX5_look_124 (by decide) (fun h5 => ?_) (fun h5 => ?_)
  · refine AW.iconst (pc := 127) dX5_look_127 ci_0 ?_
    refine AW.goto (pc := 128) 132 dX5_look_128 (by decide) ?_
    exact kX5_look_B132 l E n hn ct hct ex this (mR M1 this 3) 5 0 M1 hthis
  · refine AW.iconst (pc := 131) dX5_look_131 ci_1 ?_
    exact kX5_look_B132 l E n hn ct hct ex this (mR M1 this 3) 5 1 M1 hthis
set_option maxRecDepth 20000 in
set_option maxHeartbeats 4000000 in
theorem kX5_look_B50 (l : Launch) (E : Ev) (n : Nat) (hn : 2 ≤ n) (ct : Nat) (hct : 111 ≤ ct) (ex : Bool) (this : Nat) (x2 : Int32) (s0 : Nat) (s1 : Int32) (s2 : Int32) (M : Mem) (hthis : K0 this = (0, 5)) : AW l E fX5_look (fun _ => rmN n 0 0) (PQr E 0 0 ct ex enU) ct ex 0 0 50 [(0, .ref (ad E this)), (2, .int x2)] [.int s2, .int s1, .ref (ad E s0)] M (zX5_look_B50 this x2 s0 s1 s2 M) := by
  unfold zX5_look_B50
  refine AW.cN3v (pc := 50) dX5_look_50 nlX5_63 mbX11_put (fun _ => okR_N (by omega)) (kX11_put l E (n - 1) (by omega) ct hct ex s0 s1 s2 M) (Nat.le_of_ble_eq_true rfl) (fun _ M1 => ?_)
  refine AW.aload_n (pc := 53) dX5_look_53 rfl 0 rfl ?_
  refine AW.chk (fun g2 => ?_)
  refine AW.getR (pc := 54) dX5_look_54 flX5_9 hthis (kct hthis rfl hct) g2 ?_
  refine AW.iconst (pc := 57) dX5_look_57 ci_2 ?_
  refine AW.iload_n (pc := 58) dX5_look_58 rfl 1 rfl ?_
  refine AW.bipush (pc := 59) dX5_look_59 cb_10 ?_
  refine AW.irem (pc := 61) dX5_look_61 (by decide) ?_
  refine AW.cN3v (pc := 62) dX5_look_62 nlX5_63 mbX11_put (fun _ => okR_N (by omega)) (kX11_put l E (n - 1) (by omega) ct hct ex (mR M1 this 3) 2 (x2 % 10) M1) (Nat.le_of_ble_eq_true rfl) (fun _ M3 => ?_)
  refine AW.aload_n (pc := 65) dX5_look_65 rfl 0 rfl ?_
  refine AW.chk (fun g4 => ?_)
  refine AW.getR (pc := 66) dX5_look_66 flX5_9 hthis (kct hthis rfl hct) g4 ?_
  refine AW.iconst (pc := 69) dX5_look_69 ci_3 ?_
  refine AW.aload_n (pc := 70) dX5_look_70 rfl 0 rfl ?_
  refine AW.chk (fun g5 => ?_)
  refine AW.getR (pc := 71) dX5_look_71 flX5_18 hthis (kct hthis rfl hct) g5 ?_
  refine AW.iload_n (pc := 74) dX5_look_74 rfl 1 rfl ?_
  refine AW.chk (fun g8 => ?_)
  refine AW.cV1i (pc := 75) dX5_look_75 mlX5_73 mbX8_meanOf rfl g8 (kct g8 rfl hct) (fun _ => okR_N (by omega)) (kX8_meanOf l E (n - 1) (by omega) ct hct ex (mR M3 this 0) x2 M3) (Nat.le_of_ble_eq_true rfl) (fun v6 M7 => ?_)
  refine AW.cN3v (pc := 78) dX5_look_78 nlX5_63 mbX11_put (fun _ => okR_N (by omega)) (kX11_put l E (n - 1) (by omega) ct hct ex (mR M3 this 3) 3 v6 M7) (Nat.le_of_ble_eq_true rfl) (fun _ M9 => ?_)
  refine AW.aload_n (pc := 81) dX5_look_81 rfl 0 rfl ?_
  refine AW.chk (fun g10 => ?_)
  refine AW.getR (pc := 82) dX5_look_82 flX5_9 hthis (kct hthis rfl hct) g10 ?_
  refine AW.iconst (pc := 85) dX5_look_85 ci_4 ?_
  refine AW.aload_n (pc := 86) dX5_look_86 rfl 0 rfl ?_
  refine AW.chk (fun g11 => ?_)
  refine AW.getR (pc := 87) dX5_look_87 flX5_28 hthis (kct hthis rfl hct) g11 ?_
  refine AW.chk (fun g12 => ?_)
  refine AW.getI (pc := 90) dX5_look_90 flX5_76 g12 (kct g12 rfl hct) ?_
  refine AW.iconst (pc := 93) dX5_look_93 ci_m1 ?_
  refine AW.icmp_ne (pc := 94) 101 dX5_look_94 (by decide) (fun h13 => ?_) (fun h13 => ?_)
  · refine AW.iconst (pc := 97) dX5_look_97 ci_0 ?_
    refine AW.goto (pc := 98) 108 dX5_look_98 (by decide) ?_
    exact AW.sub [0] rfl (kX5_look_B108 l E n hn ct hct ex this (mR M9 this 3) 4 0 M9 hthis)
  · refine AW.aload_n (pc := 101) dX5_look_101 rfl 0 rfl ?_
    refine AW.getR (pc := 102) dX5_look_102 flX5_28 hthis (kct hthis rfl hct) g11 ?_
    refine AW.getI (pc := 105) dX5_look_105 flX5_76 g12 (kct g12 rfl hct) ?_
    exact AW.sub [0] rfl (kX5_look_B108 l E n hn ct hct ex this (mR M9 this 3) 4 (mI M9 (mR M9 this 1) 0) M9 hthis)
set_option maxRecDepth 20000 in
set_option maxHeartbeats 4000000 in
theorem kX5_look (l : Launch) (E : Ev) (n : Nat) (hn : 2 ≤ n) (ct : Nat) (hct : 111 ≤ ct) (ex : Bool) (this : Nat) (x1 : Int32) (x2 : Int32) (x3 : Int32) (M : Mem) : AM l E n ct ex yX5_look fX5_look enU [.ref (ad E this), .int x1, .int x2, .int x3] M (zX5_look this x1 x2 x3 M) := by
  unfold zX5_look
  refine AM.of (by decide +kernel) ⟨rfl, rfl, rfl⟩ (Nat.le_of_ble_eq_true rfl) ?_
  refine AW.chk (fun hthis => ?_)
  refine AW.aload_n (pc := 0) dX5_look_0 rfl 0 rfl ?_
  refine AW.chk (fun g1 => ?_)
  refine AW.getR (pc := 1) dX5_look_1 flX5_18 hthis (kct hthis rfl hct) g1 ?_
  refine AW.chk (fun g2 => ?_)
  refine AW.chk (fun g3 => ?_)
  refine AW.getR (pc := 4) dX5_look_4 flX5_67 g2 (kct g2 rfl hct) g3 ?_
  refine AW.iload_n (pc := 7) dX5_look_7 rfl 1 rfl ?_
  refine AW.cN2i (pc := 8) dX5_look_8 nlX5_44 mbX11_at (fun _ => okR_N (by omega)) (kX11_at l E (n - 1) (by omega) ct hct ex (mR M (mR M this 0) 9) x1 M) (Nat.le_of_ble_eq_true rfl) (fun v4 M5 => ?_)
  refine AW.iload_n (pc := 11) dX5_look_11 rfl 3 rfl ?_
  refine AW.isub (pc := 12) dX5_look_12 ?_
  refine AW.genI (fun v6 => ?_)
  refine AW.istore (pc := 13) [1, 2, 3, 0] [(0, .ref (ad E this)), (1, .int x1), (2, .int x2), (4, .int v6)] dX5_look_13 (by decide) rfl ?_
  refine AW.aload_n (pc := 15) dX5_look_15 rfl 0 rfl ?_
  refine AW.chk (fun g7 => ?_)
  refine AW.getR (pc := 16) dX5_look_16 flX5_9 hthis (kct hthis rfl hct) g7 ?_
  refine AW.iconst (pc := 19) dX5_look_19 ci_0 ?_
  refine AW.aload_n (pc := 20) dX5_look_20 rfl 0 rfl ?_
  refine AW.chk (fun g8 => ?_)
  refine AW.getR (pc := 21) dX5_look_21 flX5_18 hthis (kct hthis rfl hct) g8 ?_
  refine AW.chk (fun g9 => ?_)
  refine AW.chk (fun g10 => ?_)
  refine AW.getR (pc := 24) dX5_look_24 flX5_70 g9 (kct g9 rfl hct) g10 ?_
  refine AW.iload_n (pc := 27) dX5_look_27 rfl 1 rfl ?_
  refine AW.cN2i (pc := 28) dX5_look_28 nlX5_44 mbX11_at (fun _ => okR_N (by omega)) (kX11_at l E (n - 1) (by omega) ct hct ex (mR M5 (mR M5 this 0) 8) x1 M5) (Nat.le_of_ble_eq_true rfl) (fun v11 M12 => ?_)
  refine AW.cN3v (pc := 31) dX5_look_31 nlX5_63 mbX11_put (fun _ => okR_N (by omega)) (kX11_put l E (n - 1) (by omega) ct hct ex (mR M5 this 3) 0 v11 M12) (Nat.le_of_ble_eq_true rfl) (fun _ M13 => ?_)
  refine AW.aload_n (pc := 34) dX5_look_34 rfl 0 rfl ?_
  refine AW.chk (fun g14 => ?_)
  refine AW.getR (pc := 35) dX5_look_35 flX5_9 hthis (kct hthis rfl hct) g14 ?_
  refine AW.iconst (pc := 38) dX5_look_38 ci_1 ?_
  refine AW.iload (pc := 39) dX5_look_39 3 rfl ?_
  refine AW.if_ge (pc := 41) 48 dX5_look_41 (by decide) (fun h15 => ?_) (fun h15 => ?_)
  · refine AW.iload (pc := 48) dX5_look_48 3 rfl ?_
    exact AW.sub [0, 2] rfl (kX5_look_B50 l E n hn ct hct ex this x2 (mR M13 this 3) 1 v6 M13 hthis)
  · refine AW.iconst (pc := 44) dX5_look_44 ci_0 ?_
    refine AW.goto (pc := 45) 50 dX5_look_45 (by decide) ?_
    exact AW.sub [0, 2] rfl (kX5_look_B50 l E n hn ct hct ex this x2 (mR M13 this 3) 1 0 M13 hthis)
-- GateBox$Giver.joined(III)I
def zX5_joined_B184  (M : Mem) : Option (Int32 × Mem) :=
  some (1, M)
def zX5_joined (x0 : Int32) (x1 : Int32) (x2 : Int32) (M : Mem) : Option (Int32 × Mem) :=
  lt (x0 - 2000) fun v1 =>
  if v1 = 38 then
    if x1 = 0 then
      some (0, M)
    else
      if x2 = 0 then
        some (0, M)
      else
        some (1, M)
  else
  if v1 = 39 then
    if x1 = 0 then
      if x2 = 0 then
        some (0, M)
      else
        zX5_joined_B184 M
    else
      zX5_joined_B184 M
  else
  if v1 = 40 then
    if x1 = 0 then
      if x2 = 0 then
        some (0, M)
      else
        zX5_joined_B184 M
    else
      zX5_joined_B184 M
  else
  if v1 = 41 then
    if x1 = 0 then
      if x2 = 0 then
        some (0, M)
      else
        zX5_joined_B184 M
    else
      zX5_joined_B184 M
  else
  if v1 = 42 then
    some (x1 * x2, M)
  else
  if v1 = 43 then
    some (x1 + x2, M)
  else
  if v1 = 44 then
    if x1 = 0 then
      if x2 = 0 then
        some (0, M)
      else
        zX5_joined_B184 M
    else
      zX5_joined_B184 M
  else
  if v1 = 45 then
    some (x1 - x2, M)
  else
  if v1 = 46 then
    if x1 = 0 then
      if x2 = 0 then
        some (0, M)
      else
        zX5_joined_B184 M
    else
      zX5_joined_B184 M
  else
  if v1 = 47 then
    if x2 = 0 then
      some (0, M)
    else
      if ¬ x2 = 0 then
      some (x1 / x2, M)
      else none
  else
  if v1 = 48 then
    if x1 = 0 then
      if x2 = 0 then
        some (0, M)
      else
        zX5_joined_B184 M
    else
      zX5_joined_B184 M
  else
  if v1 = 49 then
    if x1 = 0 then
      if x2 = 0 then
        some (0, M)
      else
        zX5_joined_B184 M
    else
      zX5_joined_B184 M
  else
  if v1 = 50 then
    if x1 = 0 then
      if x2 = 0 then
        some (0, M)
      else
        zX5_joined_B184 M
    else
      zX5_joined_B184 M
  else
  if v1 = 51 then
    if x1 = 0 then
      if x2 = 0 then
        some (0, M)
      else
        zX5_joined_B184 M
    else
      zX5_joined_B184 M
  else
  if v1 = 52 then
    if x1 = 0 then
      if x2 = 0 then
        some (0, M)
      else
        zX5_joined_B184 M
    else
      zX5_joined_B184 M
  else
  if v1 = 53 then
    if x1 = 0 then
      if x2 = 0 then
        some (0, M)
      else
        zX5_joined_B184 M
    else
      zX5_joined_B184 M
  else
  if v1 = 54 then
    if x1 = 0 then
      if x2 = 0 then
        some (0, M)
      else
        zX5_joined_B184 M
    else
      zX5_joined_B184 M
  else
  if v1 = 55 then
    if x1 = 0 then
      if x2 = 0 then
        some (0, M)
      else
        zX5_joined_B184 M
    else
      zX5_joined_B184 M
  else
  if v1 = 56 then
    if x1 = 0 then
      if x2 = 0 then
        some (0, M)
      else
        zX5_joined_B184 M
    else
      zX5_joined_B184 M
  else
  if v1 = 57 then
    if x1 = 0 then
      if x2 = 0 then
        some (0, M)
      else
        zX5_joined_B184 M
    else
      zX5_joined_B184 M
  else
  if v1 = 58 then
    if x1 = 0 then
      if x2 = 0 then
        some (0, M)
      else
        zX5_joined_B184 M
    else
      zX5_joined_B184 M
  else
  if v1 = 59 then
    if x1 = 0 then
      if x2 = 0 then
        some (0, M)
      else
        zX5_joined_B184 M
    else
      zX5_joined_B184 M
  else
  if v1 = 60 then
    if x2 ≤ x1 then
      some (0, M)
    else
      some (1, M)
  else
  if v1 = 61 then
    if x1 = x2 then
      some (1, M)
    else
      some (0, M)
  else
  if x1 = 0 then
    if x2 = 0 then
      some (0, M)
    else
      zX5_joined_B184 M
  else
    zX5_joined_B184 M
set_option maxRecDepth 20000 in
set_option maxHeartbeats 4000000 in
theorem kX5_joined_B184 (l : Launch) (E : Ev) (n : Nat) (hn : 1 ≤ n) (ct : Nat) (hct : 111 ≤ ct) (ex : Bool)  (M : Mem) : AW l E fX5_joined (fun _ => rmN n 0 0) (PQr E 0 0 ct ex enI) ct ex 0 0 184 [] [] M (zX5_joined_B184  M) := by
  unfold zX5_joined_B184
  refine AW.iconst (pc := 184) dX5_joined_184 ci_1 ?_
  refine AW.goto (pc := 185) 189 dX5_joined_185 (by decide) ?_
  exact AW.iret (pc := 189) dX5_joined_189 rfl (fun _ _ _ => rfl) (Nat.le_refl _) (Nat.le_refl _)
set_option maxRecDepth 20000 in
set_option maxHeartbeats 4000000 in
theorem kX5_joined (l : Launch) (E : Ev) (n : Nat) (hn : 1 ≤ n) (ct : Nat) (hct : 111 ≤ ct) (ex : Bool) (x0 : Int32) (x1 : Int32) (x2 : Int32) (M : Mem) : AM l E n ct ex yX5_joined fX5_joined enI [.int x0, .int x1, .int x2] M (zX5_joined x0 x1 x2 M) := by
  unfold zX5_joined
  refine AM.of (by decide +kernel) ⟨rfl, rfl, rfl⟩ (Nat.le_of_ble_eq_true rfl) ?_
  refine AW.iload_n (pc := 0) dX5_joined_0 rfl 0 rfl ?_
  refine AW.sipush (pc := 1) dX5_joined_1 cs_2000 ?_
  refine AW.isub (pc := 4) dX5_joined_4 ?_
  refine AW.genI (fun v1 => ?_)
  refine AW.sw1 (fun h2 => ?_) (fun h2 => ?_)
  · refine AW.tswIn (pc := 5) (v := 38) (q := 0) 162 h2 dX5_joined_5 (by decide) (by decide) (by decide) rfl (by decide) ?_
    refine AW.iload_n (pc := 162) dX5_joined_162 rfl 1 rfl ?_
    refine AW.if_eq (pc := 163) 174 dX5_joined_163 (by decide) (fun h3 => ?_) (fun h3 => ?_)
    · refine AW.iconst (pc := 174) dX5_joined_174 ci_0 ?_
      exact AW.iret (pc := 175) dX5_joined_175 rfl (fun _ _ _ => rfl) (Nat.le_refl _) (Nat.le_refl _)
    · refine AW.iload_n (pc := 166) dX5_joined_166 rfl 2 rfl ?_
      refine AW.if_eq (pc := 167) 174 dX5_joined_167 (by decide) (fun h4 => ?_) (fun h4 => ?_)
      · refine AW.iconst (pc := 174) dX5_joined_174 ci_0 ?_
        exact AW.iret (pc := 175) dX5_joined_175 rfl (fun _ _ _ => rfl) (Nat.le_refl _) (Nat.le_refl _)
      · refine AW.iconst (pc := 170) dX5_joined_170 ci_1 ?_
        refine AW.goto (pc := 171) 175 dX5_joined_171 (by decide) ?_
        exact AW.iret (pc := 175) dX5_joined_175 rfl (fun _ _ _ => rfl) (Nat.le_refl _) (Nat.le_refl _)
  refine AW.sw1 (fun h5 => ?_) (fun h5 => ?_)
  · refine AW.tswIn (pc := 5) (v := 39) (q := 1) 176 h5 dX5_joined_5 (by decide) (by decide) (by decide) rfl (by decide) ?_
    refine AW.iload_n (pc := 176) dX5_joined_176 rfl 1 rfl ?_
    refine AW.if_ne (pc := 177) 184 dX5_joined_177 (by decide) (fun h6 => ?_) (fun h6 => ?_)
    · refine AW.iload_n (pc := 180) dX5_joined_180 rfl 2 rfl ?_
      refine AW.if_eq (pc := 181) 188 dX5_joined_181 (by decide) (fun h7 => ?_) (fun h7 => ?_)
      · refine AW.iconst (pc := 188) dX5_joined_188 ci_0 ?_
        exact AW.iret (pc := 189) dX5_joined_189 rfl (fun _ _ _ => rfl) (Nat.le_refl _) (Nat.le_refl _)
      · exact AW.sub [] rfl (kX5_joined_B184 l E n hn ct hct ex M)
    · exact AW.sub [] rfl (kX5_joined_B184 l E n hn ct hct ex M)
  refine AW.sw1 (fun h8 => ?_) (fun h8 => ?_)
  · refine AW.tswIn (pc := 5) (v := 40) (q := 2) 176 h8 dX5_joined_5 (by decide) (by decide) (by decide) rfl (by decide) ?_
    refine AW.iload_n (pc := 176) dX5_joined_176 rfl 1 rfl ?_
    refine AW.if_ne (pc := 177) 184 dX5_joined_177 (by decide) (fun h9 => ?_) (fun h9 => ?_)
    · refine AW.iload_n (pc := 180) dX5_joined_180 rfl 2 rfl ?_
      refine AW.if_eq (pc := 181) 188 dX5_joined_181 (by decide) (fun h10 => ?_) (fun h10 => ?_)
      · refine AW.iconst (pc := 188) dX5_joined_188 ci_0 ?_
        exact AW.iret (pc := 189) dX5_joined_189 rfl (fun _ _ _ => rfl) (Nat.le_refl _) (Nat.le_refl _)
      · exact AW.sub [] rfl (kX5_joined_B184 l E n hn ct hct ex M)
    · exact AW.sub [] rfl (kX5_joined_B184 l E n hn ct hct ex M)
  refine AW.sw1 (fun h11 => ?_) (fun h11 => ?_)
  · refine AW.tswIn (pc := 5) (v := 41) (q := 3) 176 h11 dX5_joined_5 (by decide) (by decide) (by decide) rfl (by decide) ?_
    refine AW.iload_n (pc := 176) dX5_joined_176 rfl 1 rfl ?_
    refine AW.if_ne (pc := 177) 184 dX5_joined_177 (by decide) (fun h12 => ?_) (fun h12 => ?_)
    · refine AW.iload_n (pc := 180) dX5_joined_180 rfl 2 rfl ?_
      refine AW.if_eq (pc := 181) 188 dX5_joined_181 (by decide) (fun h13 => ?_) (fun h13 => ?_)
      · refine AW.iconst (pc := 188) dX5_joined_188 ci_0 ?_
        exact AW.iret (pc := 189) dX5_joined_189 rfl (fun _ _ _ => rfl) (Nat.le_refl _) (Nat.le_refl _)
      · exact AW.sub [] rfl (kX5_joined_B184 l E n hn ct hct ex M)
    · exact AW.sub [] rfl (kX5_joined_B184 l E n hn ct hct ex M)
  refine AW.sw1 (fun h14 => ?_) (fun h14 => ?_)
  · refine AW.tswIn (pc := 5) (v := 42) (q := 4) 124 h14 dX5_joined_5 (by decide) (by decide) (by decide) rfl (by decide) ?_
    refine AW.iload_n (pc := 124) dX5_joined_124 rfl 1 rfl ?_
    refine AW.iload_n (pc := 125) dX5_joined_125 rfl 2 rfl ?_
    refine AW.imul (pc := 126) dX5_joined_126 ?_
    exact AW.iret (pc := 127) dX5_joined_127 rfl (fun _ _ _ => rfl) (Nat.le_refl _) (Nat.le_refl _)
  refine AW.sw1 (fun h15 => ?_) (fun h15 => ?_)
  · refine AW.tswIn (pc := 5) (v := 43) (q := 5) 116 h15 dX5_joined_5 (by decide) (by decide) (by decide) rfl (by decide) ?_
    refine AW.iload_n (pc := 116) dX5_joined_116 rfl 1 rfl ?_
    refine AW.iload_n (pc := 117) dX5_joined_117 rfl 2 rfl ?_
    refine AW.iadd (pc := 118) dX5_joined_118 ?_
    exact AW.iret (pc := 119) dX5_joined_119 rfl (fun _ _ _ => rfl) (Nat.le_refl _) (Nat.le_refl _)
  refine AW.sw1 (fun h16 => ?_) (fun h16 => ?_)
  · refine AW.tswIn (pc := 5) (v := 44) (q := 6) 176 h16 dX5_joined_5 (by decide) (by decide) (by decide) rfl (by decide) ?_
    refine AW.iload_n (pc := 176) dX5_joined_176 rfl 1 rfl ?_
    refine AW.if_ne (pc := 177) 184 dX5_joined_177 (by decide) (fun h17 => ?_) (fun h17 => ?_)
    · refine AW.iload_n (pc := 180) dX5_joined_180 rfl 2 rfl ?_
      refine AW.if_eq (pc := 181) 188 dX5_joined_181 (by decide) (fun h18 => ?_) (fun h18 => ?_)
      · refine AW.iconst (pc := 188) dX5_joined_188 ci_0 ?_
        exact AW.iret (pc := 189) dX5_joined_189 rfl (fun _ _ _ => rfl) (Nat.le_refl _) (Nat.le_refl _)
      · exact AW.sub [] rfl (kX5_joined_B184 l E n hn ct hct ex M)
    · exact AW.sub [] rfl (kX5_joined_B184 l E n hn ct hct ex M)
  refine AW.sw1 (fun h19 => ?_) (fun h19 => ?_)
  · refine AW.tswIn (pc := 5) (v := 45) (q := 7) 120 h19 dX5_joined_5 (by decide) (by decide) (by decide) rfl (by decide) ?_
    refine AW.iload_n (pc := 120) dX5_joined_120 rfl 1 rfl ?_
    refine AW.iload_n (pc := 121) dX5_joined_121 rfl 2 rfl ?_
    refine AW.isub (pc := 122) dX5_joined_122 ?_
    exact AW.iret (pc := 123) dX5_joined_123 rfl (fun _ _ _ => rfl) (Nat.le_refl _) (Nat.le_refl _)
  refine AW.sw1 (fun h20 => ?_) (fun h20 => ?_)
  · refine AW.tswIn (pc := 5) (v := 46) (q := 8) 176 h20 dX5_joined_5 (by decide) (by decide) (by decide) rfl (by decide) ?_
    refine AW.iload_n (pc := 176) dX5_joined_176 rfl 1 rfl ?_
    refine AW.if_ne (pc := 177) 184 dX5_joined_177 (by decide) (fun h21 => ?_) (fun h21 => ?_)
    · refine AW.iload_n (pc := 180) dX5_joined_180 rfl 2 rfl ?_
      refine AW.if_eq (pc := 181) 188 dX5_joined_181 (by decide) (fun h22 => ?_) (fun h22 => ?_)
      · refine AW.iconst (pc := 188) dX5_joined_188 ci_0 ?_
        exact AW.iret (pc := 189) dX5_joined_189 rfl (fun _ _ _ => rfl) (Nat.le_refl _) (Nat.le_refl _)
      · exact AW.sub [] rfl (kX5_joined_B184 l E n hn ct hct ex M)
    · exact AW.sub [] rfl (kX5_joined_B184 l E n hn ct hct ex M)
  refine AW.sw1 (fun h23 => ?_) (fun h23 => ?_)
  · refine AW.tswIn (pc := 5) (v := 47) (q := 9) 128 h23 dX5_joined_5 (by decide) (by decide) (by decide) rfl (by decide) ?_
    refine AW.iload_n (pc := 128) dX5_joined_128 rfl 2 rfl ?_
    refine AW.if_ne (pc := 129) 136 dX5_joined_129 (by decide) (fun h24 => ?_) (fun h24 => ?_)
    · refine AW.iconst (pc := 132) dX5_joined_132 ci_0 ?_
      refine AW.goto (pc := 133) 139 dX5_joined_133 (by decide) ?_
      exact AW.iret (pc := 139) dX5_joined_139 rfl (fun _ _ _ => rfl) (Nat.le_refl _) (Nat.le_refl _)
    · refine AW.iload_n (pc := 136) dX5_joined_136 rfl 1 rfl ?_
      refine AW.iload_n (pc := 137) dX5_joined_137 rfl 2 rfl ?_
      refine AW.chk (fun g25 => ?_)
      refine AW.idiv (pc := 138) dX5_joined_138 g25 ?_
      exact AW.iret (pc := 139) dX5_joined_139 rfl (fun _ _ _ => rfl) (Nat.le_refl _) (Nat.le_refl _)
  refine AW.sw1 (fun h26 => ?_) (fun h26 => ?_)
  · refine AW.tswIn (pc := 5) (v := 48) (q := 10) 176 h26 dX5_joined_5 (by decide) (by decide) (by decide) rfl (by decide) ?_
    refine AW.iload_n (pc := 176) dX5_joined_176 rfl 1 rfl ?_
    refine AW.if_ne (pc := 177) 184 dX5_joined_177 (by decide) (fun h27 => ?_) (fun h27 => ?_)
    · refine AW.iload_n (pc := 180) dX5_joined_180 rfl 2 rfl ?_
      refine AW.if_eq (pc := 181) 188 dX5_joined_181 (by decide) (fun h28 => ?_) (fun h28 => ?_)
      · refine AW.iconst (pc := 188) dX5_joined_188 ci_0 ?_
        exact AW.iret (pc := 189) dX5_joined_189 rfl (fun _ _ _ => rfl) (Nat.le_refl _) (Nat.le_refl _)
      · exact AW.sub [] rfl (kX5_joined_B184 l E n hn ct hct ex M)
    · exact AW.sub [] rfl (kX5_joined_B184 l E n hn ct hct ex M)
  refine AW.sw1 (fun h29 => ?_) (fun h29 => ?_)
  · refine AW.tswIn (pc := 5) (v := 49) (q := 11) 176 h29 dX5_joined_5 (by decide) (by decide) (by decide) rfl (by decide) ?_
    refine AW.iload_n (pc := 176) dX5_joined_176 rfl 1 rfl ?_
    refine AW.if_ne (pc := 177) 184 dX5_joined_177 (by decide) (fun h30 => ?_) (fun h30 => ?_)
    · refine AW.iload_n (pc := 180) dX5_joined_180 rfl 2 rfl ?_
      refine AW.if_eq (pc := 181) 188 dX5_joined_181 (by decide) (fun h31 => ?_) (fun h31 => ?_)
      · refine AW.iconst (pc := 188) dX5_joined_188 ci_0 ?_
        exact AW.iret (pc := 189) dX5_joined_189 rfl (fun _ _ _ => rfl) (Nat.le_refl _) (Nat.le_refl _)
      · exact AW.sub [] rfl (kX5_joined_B184 l E n hn ct hct ex M)
    · exact AW.sub [] rfl (kX5_joined_B184 l E n hn ct hct ex M)
  refine AW.sw1 (fun h32 => ?_) (fun h32 => ?_)
  · refine AW.tswIn (pc := 5) (v := 50) (q := 12) 176 h32 dX5_joined_5 (by decide) (by decide) (by decide) rfl (by decide) ?_
    refine AW.iload_n (pc := 176) dX5_joined_176 rfl 1 rfl ?_
    refine AW.if_ne (pc := 177) 184 dX5_joined_177 (by decide) (fun h33 => ?_) (fun h33 => ?_)
    · refine AW.iload_n (pc := 180) dX5_joined_180 rfl 2 rfl ?_
      refine AW.if_eq (pc := 181) 188 dX5_joined_181 (by decide) (fun h34 => ?_) (fun h34 => ?_)
      · refine AW.iconst (pc := 188) dX5_joined_188 ci_0 ?_
        exact AW.iret (pc := 189) dX5_joined_189 rfl (fun _ _ _ => rfl) (Nat.le_refl _) (Nat.le_refl _)
      · exact AW.sub [] rfl (kX5_joined_B184 l E n hn ct hct ex M)
    · exact AW.sub [] rfl (kX5_joined_B184 l E n hn ct hct ex M)
  refine AW.sw1 (fun h35 => ?_) (fun h35 => ?_)
  · refine AW.tswIn (pc := 5) (v := 51) (q := 13) 176 h35 dX5_joined_5 (by decide) (by decide) (by decide) rfl (by decide) ?_
    refine AW.iload_n (pc := 176) dX5_joined_176 rfl 1 rfl ?_
    refine AW.if_ne (pc := 177) 184 dX5_joined_177 (by decide) (fun h36 => ?_) (fun h36 => ?_)
    · refine AW.iload_n (pc := 180) dX5_joined_180 rfl 2 rfl ?_
      refine AW.if_eq (pc := 181) 188 dX5_joined_181 (by decide) (fun h37 => ?_) (fun h37 => ?_)
      · refine AW.iconst (pc := 188) dX5_joined_188 ci_0 ?_
        exact AW.iret (pc := 189) dX5_joined_189 rfl (fun _ _ _ => rfl) (Nat.le_refl _) (Nat.le_refl _)
      · exact AW.sub [] rfl (kX5_joined_B184 l E n hn ct hct ex M)
    · exact AW.sub [] rfl (kX5_joined_B184 l E n hn ct hct ex M)
  refine AW.sw1 (fun h38 => ?_) (fun h38 => ?_)
  · refine AW.tswIn (pc := 5) (v := 52) (q := 14) 176 h38 dX5_joined_5 (by decide) (by decide) (by decide) rfl (by decide) ?_
    refine AW.iload_n (pc := 176) dX5_joined_176 rfl 1 rfl ?_
    refine AW.if_ne (pc := 177) 184 dX5_joined_177 (by decide) (fun h39 => ?_) (fun h39 => ?_)
    · refine AW.iload_n (pc := 180) dX5_joined_180 rfl 2 rfl ?_
      refine AW.if_eq (pc := 181) 188 dX5_joined_181 (by decide) (fun h40 => ?_) (fun h40 => ?_)
      · refine AW.iconst (pc := 188) dX5_joined_188 ci_0 ?_
        exact AW.iret (pc := 189) dX5_joined_189 rfl (fun _ _ _ => rfl) (Nat.le_refl _) (Nat.le_refl _)
      · exact AW.sub [] rfl (kX5_joined_B184 l E n hn ct hct ex M)
    · exact AW.sub [] rfl (kX5_joined_B184 l E n hn ct hct ex M)
  refine AW.sw1 (fun h41 => ?_) (fun h41 => ?_)
  · refine AW.tswIn (pc := 5) (v := 53) (q := 15) 176 h41 dX5_joined_5 (by decide) (by decide) (by decide) rfl (by decide) ?_
    refine AW.iload_n (pc := 176) dX5_joined_176 rfl 1 rfl ?_
    refine AW.if_ne (pc := 177) 184 dX5_joined_177 (by decide) (fun h42 => ?_) (fun h42 => ?_)
    · refine AW.iload_n (pc := 180) dX5_joined_180 rfl 2 rfl ?_
      refine AW.if_eq (pc := 181) 188 dX5_joined_181 (by decide) (fun h43 => ?_) (fun h43 => ?_)
      · refine AW.iconst (pc := 188) dX5_joined_188 ci_0 ?_
        exact AW.iret (pc := 189) dX5_joined_189 rfl (fun _ _ _ => rfl) (Nat.le_refl _) (Nat.le_refl _)
      · exact AW.sub [] rfl (kX5_joined_B184 l E n hn ct hct ex M)
    · exact AW.sub [] rfl (kX5_joined_B184 l E n hn ct hct ex M)
  refine AW.sw1 (fun h44 => ?_) (fun h44 => ?_)
  · refine AW.tswIn (pc := 5) (v := 54) (q := 16) 176 h44 dX5_joined_5 (by decide) (by decide) (by decide) rfl (by decide) ?_
    refine AW.iload_n (pc := 176) dX5_joined_176 rfl 1 rfl ?_
    refine AW.if_ne (pc := 177) 184 dX5_joined_177 (by decide) (fun h45 => ?_) (fun h45 => ?_)
    · refine AW.iload_n (pc := 180) dX5_joined_180 rfl 2 rfl ?_
      refine AW.if_eq (pc := 181) 188 dX5_joined_181 (by decide) (fun h46 => ?_) (fun h46 => ?_)
      · refine AW.iconst (pc := 188) dX5_joined_188 ci_0 ?_
        exact AW.iret (pc := 189) dX5_joined_189 rfl (fun _ _ _ => rfl) (Nat.le_refl _) (Nat.le_refl _)
      · exact AW.sub [] rfl (kX5_joined_B184 l E n hn ct hct ex M)
    · exact AW.sub [] rfl (kX5_joined_B184 l E n hn ct hct ex M)
  refine AW.sw1 (fun h47 => ?_) (fun h47 => ?_)
  · refine AW.tswIn (pc := 5) (v := 55) (q := 17) 176 h47 dX5_joined_5 (by decide) (by decide) (by decide) rfl (by decide) ?_
    refine AW.iload_n (pc := 176) dX5_joined_176 rfl 1 rfl ?_
    refine AW.if_ne (pc := 177) 184 dX5_joined_177 (by decide) (fun h48 => ?_) (fun h48 => ?_)
    · refine AW.iload_n (pc := 180) dX5_joined_180 rfl 2 rfl ?_
      refine AW.if_eq (pc := 181) 188 dX5_joined_181 (by decide) (fun h49 => ?_) (fun h49 => ?_)
      · refine AW.iconst (pc := 188) dX5_joined_188 ci_0 ?_
        exact AW.iret (pc := 189) dX5_joined_189 rfl (fun _ _ _ => rfl) (Nat.le_refl _) (Nat.le_refl _)
      · exact AW.sub [] rfl (kX5_joined_B184 l E n hn ct hct ex M)
    · exact AW.sub [] rfl (kX5_joined_B184 l E n hn ct hct ex M)
  refine AW.sw1 (fun h50 => ?_) (fun h50 => ?_)
  · refine AW.tswIn (pc := 5) (v := 56) (q := 18) 176 h50 dX5_joined_5 (by decide) (by decide) (by decide) rfl (by decide) ?_
    refine AW.iload_n (pc := 176) dX5_joined_176 rfl 1 rfl ?_
    refine AW.if_ne (pc := 177) 184 dX5_joined_177 (by decide) (fun h51 => ?_) (fun h51 => ?_)
    · refine AW.iload_n (pc := 180) dX5_joined_180 rfl 2 rfl ?_
      refine AW.if_eq (pc := 181) 188 dX5_joined_181 (by decide) (fun h52 => ?_) (fun h52 => ?_)
      · refine AW.iconst (pc := 188) dX5_joined_188 ci_0 ?_
        exact AW.iret (pc := 189) dX5_joined_189 rfl (fun _ _ _ => rfl) (Nat.le_refl _) (Nat.le_refl _)
      · exact AW.sub [] rfl (kX5_joined_B184 l E n hn ct hct ex M)
    · exact AW.sub [] rfl (kX5_joined_B184 l E n hn ct hct ex M)
  refine AW.sw1 (fun h53 => ?_) (fun h53 => ?_)
  · refine AW.tswIn (pc := 5) (v := 57) (q := 19) 176 h53 dX5_joined_5 (by decide) (by decide) (by decide) rfl (by decide) ?_
    refine AW.iload_n (pc := 176) dX5_joined_176 rfl 1 rfl ?_
    refine AW.if_ne (pc := 177) 184 dX5_joined_177 (by decide) (fun h54 => ?_) (fun h54 => ?_)
    · refine AW.iload_n (pc := 180) dX5_joined_180 rfl 2 rfl ?_
      refine AW.if_eq (pc := 181) 188 dX5_joined_181 (by decide) (fun h55 => ?_) (fun h55 => ?_)
      · refine AW.iconst (pc := 188) dX5_joined_188 ci_0 ?_
        exact AW.iret (pc := 189) dX5_joined_189 rfl (fun _ _ _ => rfl) (Nat.le_refl _) (Nat.le_refl _)
      · exact AW.sub [] rfl (kX5_joined_B184 l E n hn ct hct ex M)
    · exact AW.sub [] rfl (kX5_joined_B184 l E n hn ct hct ex M)
  refine AW.sw1 (fun h56 => ?_) (fun h56 => ?_)
  · refine AW.tswIn (pc := 5) (v := 58) (q := 20) 176 h56 dX5_joined_5 (by decide) (by decide) (by decide) rfl (by decide) ?_
    refine AW.iload_n (pc := 176) dX5_joined_176 rfl 1 rfl ?_
    refine AW.if_ne (pc := 177) 184 dX5_joined_177 (by decide) (fun h57 => ?_) (fun h57 => ?_)
    · refine AW.iload_n (pc := 180) dX5_joined_180 rfl 2 rfl ?_
      refine AW.if_eq (pc := 181) 188 dX5_joined_181 (by decide) (fun h58 => ?_) (fun h58 => ?_)
      · refine AW.iconst (pc := 188) dX5_joined_188 ci_0 ?_
        exact AW.iret (pc := 189) dX5_joined_189 rfl (fun _ _ _ => rfl) (Nat.le_refl _) (Nat.le_refl _)
      · exact AW.sub [] rfl (kX5_joined_B184 l E n hn ct hct ex M)
    · exact AW.sub [] rfl (kX5_joined_B184 l E n hn ct hct ex M)
  refine AW.sw1 (fun h59 => ?_) (fun h59 => ?_)
  · refine AW.tswIn (pc := 5) (v := 59) (q := 21) 176 h59 dX5_joined_5 (by decide) (by decide) (by decide) rfl (by decide) ?_
    refine AW.iload_n (pc := 176) dX5_joined_176 rfl 1 rfl ?_
    refine AW.if_ne (pc := 177) 184 dX5_joined_177 (by decide) (fun h60 => ?_) (fun h60 => ?_)
    · refine AW.iload_n (pc := 180) dX5_joined_180 rfl 2 rfl ?_
      refine AW.if_eq (pc := 181) 188 dX5_joined_181 (by decide) (fun h61 => ?_) (fun h61 => ?_)
      · refine AW.iconst (pc := 188) dX5_joined_188 ci_0 ?_
        exact AW.iret (pc := 189) dX5_joined_189 rfl (fun _ _ _ => rfl) (Nat.le_refl _) (Nat.le_refl _)
      · exact AW.sub [] rfl (kX5_joined_B184 l E n hn ct hct ex M)
    · exact AW.sub [] rfl (kX5_joined_B184 l E n hn ct hct ex M)
  refine AW.sw1 (fun h62 => ?_) (fun h62 => ?_)
  · refine AW.tswIn (pc := 5) (v := 60) (q := 22) 140 h62 dX5_joined_5 (by decide) (by decide) (by decide) rfl (by decide) ?_
    refine AW.iload_n (pc := 140) dX5_joined_140 rfl 1 rfl ?_
    refine AW.iload_n (pc := 141) dX5_joined_141 rfl 2 rfl ?_
    refine AW.icmp_ge (pc := 142) 149 dX5_joined_142 (by decide) (fun h63 => ?_) (fun h63 => ?_)
    · refine AW.iconst (pc := 149) dX5_joined_149 ci_0 ?_
      exact AW.iret (pc := 150) dX5_joined_150 rfl (fun _ _ _ => rfl) (Nat.le_refl _) (Nat.le_refl _)
    · refine AW.iconst (pc := 145) dX5_joined_145 ci_1 ?_
      refine AW.goto (pc := 146) 150 dX5_joined_146 (by decide) ?_
      exact AW.iret (pc := 150) dX5_joined_150 rfl (fun _ _ _ => rfl) (Nat.le_refl _) (Nat.le_refl _)
  refine AW.sw1 (fun h64 => ?_) (fun h64 => ?_)
  · refine AW.tswIn (pc := 5) (v := 61) (q := 23) 151 h64 dX5_joined_5 (by decide) (by decide) (by decide) rfl (by decide) ?_
    refine AW.iload_n (pc := 151) dX5_joined_151 rfl 1 rfl ?_
    refine AW.iload_n (pc := 152) dX5_joined_152 rfl 2 rfl ?_
    refine AW.icmp_ne (pc := 153) 160 dX5_joined_153 (by decide) (fun h65 => ?_) (fun h65 => ?_)
    · refine AW.iconst (pc := 156) dX5_joined_156 ci_1 ?_
      refine AW.goto (pc := 157) 161 dX5_joined_157 (by decide) ?_
      exact AW.iret (pc := 161) dX5_joined_161 rfl (fun _ _ _ => rfl) (Nat.le_refl _) (Nat.le_refl _)
    · refine AW.iconst (pc := 160) dX5_joined_160 ci_0 ?_
      exact AW.iret (pc := 161) dX5_joined_161 rfl (fun _ _ _ => rfl) (Nat.le_refl _) (Nat.le_refl _)
  refine AW.tswOut (pc := 5) 176 dX5_joined_5 (by have eh2 := tne_38 _ h2; have eh5 := tne_39 _ h5; have eh8 := tne_40 _ h8; have eh11 := tne_41 _ h11; have eh14 := tne_42 _ h14; have eh15 := tne_43 _ h15; have eh16 := tne_44 _ h16; have eh19 := tne_45 _ h19; have eh20 := tne_46 _ h20; have eh23 := tne_47 _ h23; have eh26 := tne_48 _ h26; have eh29 := tne_49 _ h29; have eh32 := tne_50 _ h32; have eh35 := tne_51 _ h35; have eh38 := tne_52 _ h38; have eh41 := tne_53 _ h41; have eh44 := tne_54 _ h44; have eh47 := tne_55 _ h47; have eh50 := tne_56 _ h50; have eh53 := tne_57 _ h53; have eh56 := tne_58 _ h56; have eh59 := tne_59 _ h59; have eh62 := tne_60 _ h62; have eh64 := tne_61 _ h64; omega) (by decide) ?_
  refine AW.iload_n (pc := 176) dX5_joined_176 rfl 1 rfl ?_
  refine AW.if_ne (pc := 177) 184 dX5_joined_177 (by decide) (fun h66 => ?_) (fun h66 => ?_)
  · refine AW.iload_n (pc := 180) dX5_joined_180 rfl 2 rfl ?_
    refine AW.if_eq (pc := 181) 188 dX5_joined_181 (by decide) (fun h67 => ?_) (fun h67 => ?_)
    · refine AW.iconst (pc := 188) dX5_joined_188 ci_0 ?_
      exact AW.iret (pc := 189) dX5_joined_189 rfl (fun _ _ _ => rfl) (Nat.le_refl _) (Nat.le_refl _)
    · exact AW.sub [] rfl (kX5_joined_B184 l E n hn ct hct ex M)
  · exact AW.sub [] rfl (kX5_joined_B184 l E n hn ct hct ex M)
-- GateBox$Giver.worked(II)I
def zX5_worked_B148 (KK5 : Nat → Int32 → Int32 → Int32 → Mem → Option (Int32 × Mem)) (this : Nat) (x2 : Int32) (x3 : Int32) (x4 : Int32) (M : Mem) : Option (Int32 × Mem) :=
  KK5 this x2 x3 (x4 + 1) M
def zX5_worked_B106 (KK5 : Nat → Int32 → Int32 → Int32 → Mem → Option (Int32 × Mem)) (this : Nat) (x2 : Int32) (x3 : Int32) (x4 : Int32) (s0 : Nat) (s1 : Int32) (s2 : Int32) (M : Mem) : Option (Int32 × Mem) :=
  bnd (zX11_put s0 s1 s2 M) fun _ M1 =>
  zX5_worked_B148 KK5 this x2 x3 x4 M1
def zX5_worked_B64 (KK5 : Nat → Int32 → Int32 → Int32 → Mem → Option (Int32 × Mem)) (this : Nat) (x2 : Int32) (x3 : Int32) (x4 : Int32) (s0 : Nat) (s1 : Int32) (s2 : Int32) (M : Mem) : Option (Int32 × Mem) :=
  bnd (zX11_put s0 s1 s2 M) fun _ M1 =>
  zX5_worked_B148 KK5 this x2 (x3 + 1) x4 M1
def zX5_worked_B5 (KK5 : Nat → Int32 → Int32 → Int32 → Mem → Option (Int32 × Mem)) (this : Nat) (x2 : Int32) (x3 : Int32) (x4 : Int32) (M : Mem) : Option (Int32 × Mem) :=
  if x2 ≤ x4 then
    if mR M this 4 ≠ 0 then
    bnd (zX11_at (mR M this 4) 0 M) fun v3 M4 =>
    some (v3, M4)
    else none
  else
    if mR M this 0 ≠ 0 then
    if K0 (mR M this 0) = (0, 8) then
    if mR M (mR M this 0) 11 ≠ 0 then
    bnd (zX11_at (mR M (mR M this 0) 11) x4 M) fun v8 M9 =>
    if 2000 ≤ v8 then
      if v8 = 2033 then
        if mR M9 this 4 ≠ 0 then
        bnd (zX11_at (mR M9 this 4) (x3 - 1) M9) fun v13 M14 =>
        if v13 = 0 then
          zX5_worked_B106 KK5 this x2 x3 x4 (mR M9 this 4) (x3 - 1) 1 M14
        else
          zX5_worked_B106 KK5 this x2 x3 x4 (mR M9 this 4) (x3 - 1) 0 M14
        else none
      else
        if mR M9 this 4 ≠ 0 then
        bnd (zX11_at (mR M9 this 4) ((x3 + (-1)) - 1) M9) fun v17 M18 =>
        if mR M18 this 4 ≠ 0 then
        bnd (zX11_at (mR M18 this 4) (x3 + (-1)) M18) fun v20 M21 =>
        bnd (zX5_joined v8 v17 v20 M21) fun v22 M23 =>
        bnd (zX11_put (mR M9 this 4) ((x3 + (-1)) - 1) v22 M23) fun _ M24 =>
        zX5_worked_B148 KK5 this x2 (x3 + (-1)) x4 M24
        else none
        else none
    else
      if mR M9 this 4 ≠ 0 then
      if 1000 ≤ v8 then
        if mR M9 this 3 ≠ 0 then
        bnd (zX11_at (mR M9 this 3) (v8 - 1000) M9) fun v28 M29 =>
        zX5_worked_B64 KK5 this x2 x3 x4 (mR M9 this 4) x3 v28 M29
        else none
      else
        zX5_worked_B64 KK5 this x2 x3 x4 (mR M9 this 4) x3 v8 M9
      else none
    else none
    else none
    else none
def zX5_worked_L5 : Nat → Nat → Int32 → Int32 → Int32 → Mem → Option (Int32 × Mem)
  | 0 => fun _ _ _ _ _ => none
  | k + 1 => zX5_worked_B5 (zX5_worked_L5 k)
def zX5_worked (this : Nat) (x1 : Int32) (x2 : Int32) (M : Mem) : Option (Int32 × Mem) :=
  if K0 this = (0, 5) then
  zX5_worked_L5 FU this x2 0 x1 M
  else none
set_option maxRecDepth 20000 in
set_option maxHeartbeats 4000000 in
theorem kX5_worked_B148 (l : Launch) (E : Ev) (n : Nat) (hn : 2 ≤ n) (ct : Nat) (hct : 111 ≤ ct) (ex : Bool) (KK5 : Nat → Int32 → Int32 → Int32 → Mem → Option (Int32 × Mem)) (hKK5 : ∀ (this : Nat) (x2 : Int32) (x3 : Int32) (x4 : Int32) (M : Mem) (_ : K0 this = (0, 5)), AW l E fX5_worked (fun _ => rmN n 0 0) (PQr E 0 0 ct ex enI) ct ex 0 0 5 [(0, .ref (ad E this)), (2, .int x2), (3, .int x3), (4, .int x4)] [] M (KK5 this x2 x3 x4 M)) (this : Nat) (x2 : Int32) (x3 : Int32) (x4 : Int32) (M : Mem) (hthis : K0 this = (0, 5)) : AW l E fX5_worked (fun _ => rmN n 0 0) (PQr E 0 0 ct ex enI) ct ex 0 0 148 [(0, .ref (ad E this)), (2, .int x2), (3, .int x3), (4, .int x4)] [] M (zX5_worked_B148 KK5 this x2 x3 x4 M) := by
  unfold zX5_worked_B148
  refine AW.iinc (pc := 148) (w := 3) [1, 2, 3, 0] [(0, .ref (ad E this)), (2, .int x2), (3, .int x3), (4, .int (x4 + 1))] dX5_worked_148 rfl (inc_1 _) (by decide) rfl ?_
  refine AW.goto (pc := 151) 5 dX5_worked_151 (by decide) ?_
  exact hKK5 this x2 x3 (x4 + 1) M hthis
set_option maxRecDepth 20000 in
set_option maxHeartbeats 4000000 in
theorem kX5_worked_B106 (l : Launch) (E : Ev) (n : Nat) (hn : 2 ≤ n) (ct : Nat) (hct : 111 ≤ ct) (ex : Bool) (KK5 : Nat → Int32 → Int32 → Int32 → Mem → Option (Int32 × Mem)) (hKK5 : ∀ (this : Nat) (x2 : Int32) (x3 : Int32) (x4 : Int32) (M : Mem) (_ : K0 this = (0, 5)), AW l E fX5_worked (fun _ => rmN n 0 0) (PQr E 0 0 ct ex enI) ct ex 0 0 5 [(0, .ref (ad E this)), (2, .int x2), (3, .int x3), (4, .int x4)] [] M (KK5 this x2 x3 x4 M)) (this : Nat) (x2 : Int32) (x3 : Int32) (x4 : Int32) (s0 : Nat) (s1 : Int32) (s2 : Int32) (M : Mem) (hthis : K0 this = (0, 5)) : AW l E fX5_worked (fun _ => rmN n 0 0) (PQr E 0 0 ct ex enI) ct ex 0 0 106 [(0, .ref (ad E this)), (2, .int x2), (3, .int x3), (4, .int x4)] [.int s2, .int s1, .ref (ad E s0)] M (zX5_worked_B106 KK5 this x2 x3 x4 s0 s1 s2 M) := by
  unfold zX5_worked_B106
  refine AW.cN3v (pc := 106) dX5_worked_106 nlX5_63 mbX11_put (fun _ => okR_N (by omega)) (kX11_put l E (n - 1) (by omega) ct hct ex s0 s1 s2 M) (Nat.le_of_ble_eq_true rfl) (fun _ M1 => ?_)
  refine AW.goto (pc := 109) 148 dX5_worked_109 (by decide) ?_
  exact kX5_worked_B148 l E n hn ct hct ex KK5 hKK5 this x2 x3 x4 M1 hthis
set_option maxRecDepth 20000 in
set_option maxHeartbeats 4000000 in
theorem kX5_worked_B64 (l : Launch) (E : Ev) (n : Nat) (hn : 2 ≤ n) (ct : Nat) (hct : 111 ≤ ct) (ex : Bool) (KK5 : Nat → Int32 → Int32 → Int32 → Mem → Option (Int32 × Mem)) (hKK5 : ∀ (this : Nat) (x2 : Int32) (x3 : Int32) (x4 : Int32) (M : Mem) (_ : K0 this = (0, 5)), AW l E fX5_worked (fun _ => rmN n 0 0) (PQr E 0 0 ct ex enI) ct ex 0 0 5 [(0, .ref (ad E this)), (2, .int x2), (3, .int x3), (4, .int x4)] [] M (KK5 this x2 x3 x4 M)) (this : Nat) (x2 : Int32) (x3 : Int32) (x4 : Int32) (s0 : Nat) (s1 : Int32) (s2 : Int32) (M : Mem) (hthis : K0 this = (0, 5)) : AW l E fX5_worked (fun _ => rmN n 0 0) (PQr E 0 0 ct ex enI) ct ex 0 0 64 [(0, .ref (ad E this)), (2, .int x2), (3, .int x3), (4, .int x4)] [.int s2, .int s1, .ref (ad E s0)] M (zX5_worked_B64 KK5 this x2 x3 x4 s0 s1 s2 M) := by
  unfold zX5_worked_B64
  refine AW.cN3v (pc := 64) dX5_worked_64 nlX5_63 mbX11_put (fun _ => okR_N (by omega)) (kX11_put l E (n - 1) (by omega) ct hct ex s0 s1 s2 M) (Nat.le_of_ble_eq_true rfl) (fun _ M1 => ?_)
  refine AW.iinc (pc := 67) (w := 2) [1, 2, 0, 3] [(0, .ref (ad E this)), (2, .int x2), (3, .int (x3 + 1)), (4, .int x4)] dX5_worked_67 rfl (inc_1 _) (by decide) rfl ?_
  refine AW.goto (pc := 70) 148 dX5_worked_70 (by decide) ?_
  exact kX5_worked_B148 l E n hn ct hct ex KK5 hKK5 this x2 (x3 + 1) x4 M1 hthis
set_option maxRecDepth 20000 in
set_option maxHeartbeats 4000000 in
theorem kX5_worked_B5 (l : Launch) (E : Ev) (n : Nat) (hn : 2 ≤ n) (ct : Nat) (hct : 111 ≤ ct) (ex : Bool) (KK5 : Nat → Int32 → Int32 → Int32 → Mem → Option (Int32 × Mem)) (hKK5 : ∀ (this : Nat) (x2 : Int32) (x3 : Int32) (x4 : Int32) (M : Mem) (_ : K0 this = (0, 5)), AW l E fX5_worked (fun _ => rmN n 0 0) (PQr E 0 0 ct ex enI) ct ex 0 0 5 [(0, .ref (ad E this)), (2, .int x2), (3, .int x3), (4, .int x4)] [] M (KK5 this x2 x3 x4 M)) (this : Nat) (x2 : Int32) (x3 : Int32) (x4 : Int32) (M : Mem) (hthis : K0 this = (0, 5)) : AW l E fX5_worked (fun _ => rmN n 0 0) (PQr E 0 0 ct ex enI) ct ex 0 0 5 [(0, .ref (ad E this)), (2, .int x2), (3, .int x3), (4, .int x4)] [] M (zX5_worked_B5 KK5 this x2 x3 x4 M) := by
  unfold zX5_worked_B5
  refine AW.iload (pc := 5) dX5_worked_5 3 rfl ?_
  refine AW.iload_n (pc := 7) dX5_worked_7 rfl 1 rfl ?_
  refine AW.icmp_ge (pc := 8) 154 dX5_worked_8 (by decide) (fun h1 => ?_) (fun h1 => ?_)
  · refine AW.aload_n (pc := 154) dX5_worked_154 rfl 0 rfl ?_
    refine AW.chk (fun g2 => ?_)
    refine AW.getR (pc := 155) dX5_worked_155 flX5_15 hthis (kct hthis rfl hct) g2 ?_
    refine AW.iconst (pc := 158) dX5_worked_158 ci_0 ?_
    refine AW.cN2i (pc := 159) dX5_worked_159 nlX5_44 mbX11_at (fun _ => okR_N (by omega)) (kX11_at l E (n - 1) (by omega) ct hct ex (mR M this 4) 0 M) (Nat.le_of_ble_eq_true rfl) (fun v3 M4 => ?_)
    exact AW.iret (pc := 162) dX5_worked_162 rfl (fun _ _ _ => rfl) (Nat.le_refl _) (Nat.le_refl _)
  · refine AW.aload_n (pc := 11) dX5_worked_11 rfl 0 rfl ?_
    refine AW.chk (fun g5 => ?_)
    refine AW.getR (pc := 12) dX5_worked_12 flX5_18 hthis (kct hthis rfl hct) g5 ?_
    refine AW.chk (fun g6 => ?_)
    refine AW.chk (fun g7 => ?_)
    refine AW.getR (pc := 15) dX5_worked_15 flX5_85 g6 (kct g6 rfl hct) g7 ?_
    refine AW.iload (pc := 18) dX5_worked_18 3 rfl ?_
    refine AW.cN2i (pc := 20) dX5_worked_20 nlX5_44 mbX11_at (fun _ => okR_N (by omega)) (kX11_at l E (n - 1) (by omega) ct hct ex (mR M (mR M this 0) 11) x4 M) (Nat.le_of_ble_eq_true rfl) (fun v8 M9 => ?_)
    refine AW.istore (pc := 23) [1, 2, 3, 4, 0] [(0, .ref (ad E this)), (2, .int x2), (3, .int x3), (4, .int x4), (5, .int v8)] dX5_worked_23 (by decide) rfl ?_
    refine AW.iload (pc := 25) dX5_worked_25 4 rfl ?_
    refine AW.sipush (pc := 27) dX5_worked_27 cs_2000 ?_
    refine AW.icmp_ge (pc := 30) 73 dX5_worked_30 (by decide) (fun h10 => ?_) (fun h10 => ?_)
    · refine AW.iload (pc := 73) dX5_worked_73 4 rfl ?_
      refine AW.sipush (pc := 75) dX5_worked_75 cs_2033 ?_
      refine AW.icmp_ne (pc := 78) 112 dX5_worked_78 (by decide) (fun h11 => ?_) (fun h11 => ?_)
      · refine AW.aload_n (pc := 81) dX5_worked_81 rfl 0 rfl ?_
        refine AW.chk (fun g12 => ?_)
        refine AW.getR (pc := 82) dX5_worked_82 flX5_15 hthis (kct hthis rfl hct) g12 ?_
        refine AW.iload_n (pc := 85) dX5_worked_85 rfl 2 rfl ?_
        refine AW.iconst (pc := 86) dX5_worked_86 ci_1 ?_
        refine AW.isub (pc := 87) dX5_worked_87 ?_
        refine AW.aload_n (pc := 88) dX5_worked_88 rfl 0 rfl ?_
        refine AW.getR (pc := 89) dX5_worked_89 flX5_15 hthis (kct hthis rfl hct) g12 ?_
        refine AW.iload_n (pc := 92) dX5_worked_92 rfl 2 rfl ?_
        refine AW.iconst (pc := 93) dX5_worked_93 ci_1 ?_
        refine AW.isub (pc := 94) dX5_worked_94 ?_
        refine AW.cN2i (pc := 95) dX5_worked_95 nlX5_44 mbX11_at (fun _ => okR_N (by omega)) (kX11_at l E (n - 1) (by omega) ct hct ex (mR M9 this 4) (x3 - 1) M9) (Nat.le_of_ble_eq_true rfl) (fun v13 M14 => ?_)
        refine AW.if_ne (pc := 98) 105 dX5_worked_98 (by decide) (fun h15 => ?_) (fun h15 => ?_)
        · refine AW.iconst (pc := 101) dX5_worked_101 ci_1 ?_
          refine AW.goto (pc := 102) 106 dX5_worked_102 (by decide) ?_
          exact AW.sub [0, 1, 2, 3] rfl (kX5_worked_B106 l E n hn ct hct ex KK5 hKK5 this x2 x3 x4 (mR M9 this 4) (x3 - 1) 1 M14 hthis)
        · refine AW.iconst (pc := 105) dX5_worked_105 ci_0 ?_
          exact AW.sub [0, 1, 2, 3] rfl (kX5_worked_B106 l E n hn ct hct ex KK5 hKK5 this x2 x3 x4 (mR M9 this 4) (x3 - 1) 0 M14 hthis)
      · refine AW.iinc (pc := 112) (w := 2) [1, 2, 0, 3, 4] [(0, .ref (ad E this)), (2, .int x2), (3, .int (x3 + (-1))), (4, .int x4), (5, .int v8)] dX5_worked_112 rfl (inc_m1 _) (by decide) rfl ?_
        refine AW.aload_n (pc := 115) dX5_worked_115 rfl 0 rfl ?_
        refine AW.chk (fun g16 => ?_)
        refine AW.getR (pc := 116) dX5_worked_116 flX5_15 hthis (kct hthis rfl hct) g16 ?_
        refine AW.iload_n (pc := 119) dX5_worked_119 rfl 2 rfl ?_
        refine AW.iconst (pc := 120) dX5_worked_120 ci_1 ?_
        refine AW.isub (pc := 121) dX5_worked_121 ?_
        refine AW.iload (pc := 122) dX5_worked_122 4 rfl ?_
        refine AW.aload_n (pc := 124) dX5_worked_124 rfl 0 rfl ?_
        refine AW.getR (pc := 125) dX5_worked_125 flX5_15 hthis (kct hthis rfl hct) g16 ?_
        refine AW.iload_n (pc := 128) dX5_worked_128 rfl 2 rfl ?_
        refine AW.iconst (pc := 129) dX5_worked_129 ci_1 ?_
        refine AW.isub (pc := 130) dX5_worked_130 ?_
        refine AW.cN2i (pc := 131) dX5_worked_131 nlX5_44 mbX11_at (fun _ => okR_N (by omega)) (kX11_at l E (n - 1) (by omega) ct hct ex (mR M9 this 4) ((x3 + (-1)) - 1) M9) (Nat.le_of_ble_eq_true rfl) (fun v17 M18 => ?_)
        refine AW.aload_n (pc := 134) dX5_worked_134 rfl 0 rfl ?_
        refine AW.chk (fun g19 => ?_)
        refine AW.getR (pc := 135) dX5_worked_135 flX5_15 hthis (kct hthis rfl hct) g19 ?_
        refine AW.iload_n (pc := 138) dX5_worked_138 rfl 2 rfl ?_
        refine AW.cN2i (pc := 139) dX5_worked_139 nlX5_44 mbX11_at (fun _ => okR_N (by omega)) (kX11_at l E (n - 1) (by omega) ct hct ex (mR M18 this 4) (x3 + (-1)) M18) (Nat.le_of_ble_eq_true rfl) (fun v20 M21 => ?_)
        refine AW.cS3i (pc := 142) dX5_worked_142 mlX5_88 mbX5_joined (fun _ => okR_N (by omega)) (kX5_joined l E (n - 1) (by omega) ct hct ex v8 v17 v20 M21) (Nat.le_of_ble_eq_true rfl) (fun v22 M23 => ?_)
        refine AW.cN3v (pc := 145) dX5_worked_145 nlX5_63 mbX11_put (fun _ => okR_N (by omega)) (kX11_put l E (n - 1) (by omega) ct hct ex (mR M9 this 4) ((x3 + (-1)) - 1) v22 M23) (Nat.le_of_ble_eq_true rfl) (fun _ M24 => ?_)
        exact AW.sub [0, 1, 2, 3] rfl (kX5_worked_B148 l E n hn ct hct ex KK5 hKK5 this x2 (x3 + (-1)) x4 M24 hthis)
    · refine AW.aload_n (pc := 33) dX5_worked_33 rfl 0 rfl ?_
      refine AW.chk (fun g25 => ?_)
      refine AW.getR (pc := 34) dX5_worked_34 flX5_15 hthis (kct hthis rfl hct) g25 ?_
      refine AW.iload_n (pc := 37) dX5_worked_37 rfl 2 rfl ?_
      refine AW.iload (pc := 38) dX5_worked_38 4 rfl ?_
      refine AW.sipush (pc := 40) dX5_worked_40 cs_1000 ?_
      refine AW.icmp_ge (pc := 43) 51 dX5_worked_43 (by decide) (fun h26 => ?_) (fun h26 => ?_)
      · refine AW.aload_n (pc := 51) dX5_worked_51 rfl 0 rfl ?_
        refine AW.chk (fun g27 => ?_)
        refine AW.getR (pc := 52) dX5_worked_52 flX5_9 hthis (kct hthis rfl hct) g27 ?_
        refine AW.iload (pc := 55) dX5_worked_55 4 rfl ?_
        refine AW.sipush (pc := 57) dX5_worked_57 cs_1000 ?_
        refine AW.isub (pc := 60) dX5_worked_60 ?_
        refine AW.cN2i (pc := 61) dX5_worked_61 nlX5_44 mbX11_at (fun _ => okR_N (by omega)) (kX11_at l E (n - 1) (by omega) ct hct ex (mR M9 this 3) (v8 - 1000) M9) (Nat.le_of_ble_eq_true rfl) (fun v28 M29 => ?_)
        exact AW.sub [0, 1, 2, 3] rfl (kX5_worked_B64 l E n hn ct hct ex KK5 hKK5 this x2 x3 x4 (mR M9 this 4) x3 v28 M29 hthis)
      · refine AW.iload (pc := 46) dX5_worked_46 4 rfl ?_
        refine AW.goto (pc := 48) 64 dX5_worked_48 (by decide) ?_
        exact AW.sub [0, 1, 2, 3] rfl (kX5_worked_B64 l E n hn ct hct ex KK5 hKK5 this x2 x3 x4 (mR M9 this 4) x3 v8 M9 hthis)
set_option maxRecDepth 20000 in
set_option maxHeartbeats 4000000 in
theorem kX5_worked_L5 (l : Launch) (E : Ev) (n : Nat) (hn : 2 ≤ n) (ct : Nat) (hct : 111 ≤ ct) (ex : Bool) (k : Nat) : ∀ (this : Nat) (x2 : Int32) (x3 : Int32) (x4 : Int32) (M : Mem) (_ : K0 this = (0, 5)), AW l E fX5_worked (fun _ => rmN n 0 0) (PQr E 0 0 ct ex enI) ct ex 0 0 5 [(0, .ref (ad E this)), (2, .int x2), (3, .int x3), (4, .int x4)] [] M (zX5_worked_L5 k this x2 x3 x4 M) := by
  induction k with
  | zero => intro this x2 x3 x4 M _; exact AW.none
  | succ k ih =>
    intro this x2 x3 x4 M hthis
    exact kX5_worked_B5 l E n hn ct hct ex (zX5_worked_L5 k) ih this x2 x3 x4 M hthis
set_option maxRecDepth 20000 in
set_option maxHeartbeats 4000000 in
theorem kX5_worked (l : Launch) (E : Ev) (n : Nat) (hn : 2 ≤ n) (ct : Nat) (hct : 111 ≤ ct) (ex : Bool) (this : Nat) (x1 : Int32) (x2 : Int32) (M : Mem) : AM l E n ct ex yX5_worked fX5_worked enI [.ref (ad E this), .int x1, .int x2] M (zX5_worked this x1 x2 M) := by
  unfold zX5_worked
  refine AM.of (by decide +kernel) ⟨rfl, rfl, rfl⟩ (Nat.le_of_ble_eq_true rfl) ?_
  refine AW.chk (fun hthis => ?_)
  refine AW.iconst (pc := 0) dX5_worked_0 ci_0 ?_
  refine AW.istore_n (pc := 1) [1, 2, 3, 0] [(0, .ref (ad E this)), (1, .int x1), (2, .int x2), (3, .int 0)] dX5_worked_1 rfl (by decide) rfl ?_
  refine AW.iload_n (pc := 2) dX5_worked_2 rfl 1 rfl ?_
  refine AW.istore (pc := 3) [1, 3, 4, 0] [(0, .ref (ad E this)), (2, .int x2), (3, .int 0), (4, .int x1)] dX5_worked_3 (by decide) rfl ?_
  exact kX5_worked_L5 l E n hn ct hct ex FU this x2 0 x1 M hthis
-- GateBox$Giver.kept(I)I
def zX5_kept_B35 (this : Nat) (x2 : Int32) (x3 : Int32) (s0 : Int32) (M : Mem) : Option (Int32 × Mem) :=
  if s0 < x3 then
    if mR M this 3 ≠ 0 then
    bnd (zX11_at (mR M this 3) 0 M) fun v3 M4 =>
    if v3 < x3 then
      some ((-1), M4)
    else
      if x2 < x3 then
        some ((-1), M4)
      else
        some (x3, M4)
    else none
  else
    some (s0, M)
def zX5_kept (this : Nat) (x1 : Int32) (M : Mem) : Option (Int32 × Mem) :=
  if K0 this = (0, 5) then
  if mR M this 3 ≠ 0 then
  bnd (zX11_at (mR M this 3) 1 M) fun v2 M3 =>
  if mR M3 this 1 ≠ 0 then
  if K0 (mR M3 this 1) = (0, 9) then
  lt (mI M3 (mR M3 this 1) 3) fun v6 =>
  if 0 ≤ x1 then
    if x1 ≤ v2 then
      zX5_kept_B35 this v2 v6 x1 M3
    else
      zX5_kept_B35 this v2 v6 v2 M3
  else
    zX5_kept_B35 this v2 v6 0 M3
  else none
  else none
  else none
  else none
set_option maxRecDepth 20000 in
set_option maxHeartbeats 4000000 in
theorem kX5_kept_B35 (l : Launch) (E : Ev) (n : Nat) (hn : 2 ≤ n) (ct : Nat) (hct : 111 ≤ ct) (ex : Bool) (this : Nat) (x2 : Int32) (x3 : Int32) (s0 : Int32) (M : Mem) (hthis : K0 this = (0, 5)) : AW l E fX5_kept (fun _ => rmN n 0 0) (PQr E 0 0 ct ex enI) ct ex 0 0 35 [(0, .ref (ad E this)), (2, .int x2), (3, .int x3)] [.int s0] M (zX5_kept_B35 this x2 x3 s0 M) := by
  unfold zX5_kept_B35
  refine AW.istore (pc := 35) [1, 2, 3, 0] [(0, .ref (ad E this)), (2, .int x2), (3, .int x3), (4, .int s0)] dX5_kept_35 (by decide) rfl ?_
  refine AW.iload (pc := 37) dX5_kept_37 3 rfl ?_
  refine AW.iload_n (pc := 39) dX5_kept_39 rfl 2 rfl ?_
  refine AW.icmp_lt (pc := 40) 46 dX5_kept_40 (by decide) (fun h1 => ?_) (fun h1 => ?_)
  · refine AW.aload_n (pc := 46) dX5_kept_46 rfl 0 rfl ?_
    refine AW.chk (fun g2 => ?_)
    refine AW.getR (pc := 47) dX5_kept_47 flX5_9 hthis (kct hthis rfl hct) g2 ?_
    refine AW.iconst (pc := 50) dX5_kept_50 ci_0 ?_
    refine AW.cN2i (pc := 51) dX5_kept_51 nlX5_44 mbX11_at (fun _ => okR_N (by omega)) (kX11_at l E (n - 1) (by omega) ct hct ex (mR M this 3) 0 M) (Nat.le_of_ble_eq_true rfl) (fun v3 M4 => ?_)
    refine AW.iload_n (pc := 54) dX5_kept_54 rfl 2 rfl ?_
    refine AW.icmp_lt (pc := 55) 67 dX5_kept_55 (by decide) (fun h5 => ?_) (fun h5 => ?_)
    · refine AW.iconst (pc := 67) dX5_kept_67 ci_m1 ?_
      exact AW.iret (pc := 68) dX5_kept_68 rfl (fun _ _ _ => rfl) (Nat.le_refl _) (Nat.le_refl _)
    · refine AW.iload_n (pc := 58) dX5_kept_58 rfl 1 rfl ?_
      refine AW.iload_n (pc := 59) dX5_kept_59 rfl 2 rfl ?_
      refine AW.icmp_lt (pc := 60) 67 dX5_kept_60 (by decide) (fun h6 => ?_) (fun h6 => ?_)
      · refine AW.iconst (pc := 67) dX5_kept_67 ci_m1 ?_
        exact AW.iret (pc := 68) dX5_kept_68 rfl (fun _ _ _ => rfl) (Nat.le_refl _) (Nat.le_refl _)
      · refine AW.iload_n (pc := 63) dX5_kept_63 rfl 2 rfl ?_
        refine AW.goto (pc := 64) 68 dX5_kept_64 (by decide) ?_
        exact AW.iret (pc := 68) dX5_kept_68 rfl (fun _ _ _ => rfl) (Nat.le_refl _) (Nat.le_refl _)
  · refine AW.iload (pc := 43) dX5_kept_43 3 rfl ?_
    exact AW.iret (pc := 45) dX5_kept_45 rfl (fun _ _ _ => rfl) (Nat.le_refl _) (Nat.le_refl _)
set_option maxRecDepth 20000 in
set_option maxHeartbeats 4000000 in
theorem kX5_kept (l : Launch) (E : Ev) (n : Nat) (hn : 2 ≤ n) (ct : Nat) (hct : 111 ≤ ct) (ex : Bool) (this : Nat) (x1 : Int32) (M : Mem) : AM l E n ct ex yX5_kept fX5_kept enI [.ref (ad E this), .int x1] M (zX5_kept this x1 M) := by
  unfold zX5_kept
  refine AM.of (by decide +kernel) ⟨rfl, rfl, rfl⟩ (Nat.le_of_ble_eq_true rfl) ?_
  refine AW.chk (fun hthis => ?_)
  refine AW.aload_n (pc := 0) dX5_kept_0 rfl 0 rfl ?_
  refine AW.chk (fun g1 => ?_)
  refine AW.getR (pc := 1) dX5_kept_1 flX5_9 hthis (kct hthis rfl hct) g1 ?_
  refine AW.iconst (pc := 4) dX5_kept_4 ci_1 ?_
  refine AW.cN2i (pc := 5) dX5_kept_5 nlX5_44 mbX11_at (fun _ => okR_N (by omega)) (kX11_at l E (n - 1) (by omega) ct hct ex (mR M this 3) 1 M) (Nat.le_of_ble_eq_true rfl) (fun v2 M3 => ?_)
  refine AW.istore_n (pc := 8) [1, 2, 0] [(0, .ref (ad E this)), (1, .int x1), (2, .int v2)] dX5_kept_8 rfl (by decide) rfl ?_
  refine AW.aload_n (pc := 9) dX5_kept_9 rfl 0 rfl ?_
  refine AW.chk (fun g4 => ?_)
  refine AW.getR (pc := 10) dX5_kept_10 flX5_28 hthis (kct hthis rfl hct) g4 ?_
  refine AW.chk (fun g5 => ?_)
  refine AW.getI (pc := 13) dX5_kept_13 flX5_82 g5 (kct g5 rfl hct) ?_
  refine AW.genI (fun v6 => ?_)
  refine AW.istore_n (pc := 16) [1, 2, 3, 0] [(0, .ref (ad E this)), (1, .int x1), (2, .int v2), (3, .int v6)] dX5_kept_16 rfl (by decide) rfl ?_
  refine AW.iload_n (pc := 17) dX5_kept_17 rfl 1 rfl ?_
  refine AW.if_ge (pc := 18) 25 dX5_kept_18 (by decide) (fun h7 => ?_) (fun h7 => ?_)
  · refine AW.iload_n (pc := 25) dX5_kept_25 rfl 1 rfl ?_
    refine AW.iload_n (pc := 26) dX5_kept_26 rfl 2 rfl ?_
    refine AW.icmp_le (pc := 27) 34 dX5_kept_27 (by decide) (fun h8 => ?_) (fun h8 => ?_)
    · refine AW.iload_n (pc := 34) dX5_kept_34 rfl 1 rfl ?_
      exact AW.sub [0, 2, 3] rfl (kX5_kept_B35 l E n hn ct hct ex this v2 v6 x1 M3 hthis)
    · refine AW.iload_n (pc := 30) dX5_kept_30 rfl 2 rfl ?_
      refine AW.goto (pc := 31) 35 dX5_kept_31 (by decide) ?_
      exact AW.sub [0, 2, 3] rfl (kX5_kept_B35 l E n hn ct hct ex this v2 v6 v2 M3 hthis)
  · refine AW.iconst (pc := 21) dX5_kept_21 ci_0 ?_
    refine AW.goto (pc := 22) 35 dX5_kept_22 (by decide) ?_
    exact AW.sub [0, 2, 3] rfl (kX5_kept_B35 l E n hn ct hct ex this v2 v6 0 M3 hthis)
-- GateBox$Giver.giftAt(III)I
def zX5_giftAt_B16 (this : Nat) (x1 : Int32) (x3 : Int32) (s0 : Int32) (M : Mem) : Option (Int32 × Mem) :=
  lt ((((x3 * 8) + x1) * 100) + s0) fun v1 =>
  if mR M this 2 ≠ 0 then
  bnd (zX11_at (mR M this 2) v1 M) fun v3 M4 =>
  if v3 = (-2) then
    bnd (zX5_look this x1 s0 x3 M4) fun _ M6 =>
    if mR M6 this 0 ≠ 0 then
    if K0 (mR M6 this 0) = (0, 8) then
    if mR M6 (mR M6 this 0) 10 ≠ 0 then
    bnd (zX11_at (mR M6 (mR M6 this 0) 10) x1 M6) fun v10 M11 =>
    if mR M11 this 0 ≠ 0 then
    if K0 (mR M11 this 0) = (0, 8) then
    if mR M11 (mR M11 this 0) 10 ≠ 0 then
    bnd (zX11_at (mR M11 (mR M11 this 0) 10) (x1 + 1) M11) fun v15 M16 =>
    bnd (zX5_worked this v10 v15 M16) fun v17 M18 =>
    bnd (zX5_kept this v17 M18) fun v19 M20 =>
    if mR M20 this 2 ≠ 0 then
    bnd (zX11_put (mR M20 this 2) v1 v19 M20) fun _ M22 =>
    some (v19, M22)
    else none
    else none
    else none
    else none
    else none
    else none
    else none
  else
    some (v3, M4)
  else none
def zX5_giftAt (this : Nat) (x1 : Int32) (x2 : Int32) (x3 : Int32) (M : Mem) : Option (Int32 × Mem) :=
  if K0 this = (0, 5) then
  if mR M this 1 ≠ 0 then
  if K0 (mR M this 1) = (0, 9) then
  if (mI M (mR M this 1) 2) = 1 then
    zX5_giftAt_B16 this x1 x3 x2 M
  else
    zX5_giftAt_B16 this x1 x3 0 M
  else none
  else none
  else none
set_option maxRecDepth 20000 in
set_option maxHeartbeats 4000000 in
theorem kX5_giftAt_B16 (l : Launch) (E : Ev) (n : Nat) (hn : 3 ≤ n) (ct : Nat) (hct : 111 ≤ ct) (ex : Bool) (this : Nat) (x1 : Int32) (x3 : Int32) (s0 : Int32) (M : Mem) (hthis : K0 this = (0, 5)) : AW l E fX5_giftAt (fun _ => rmN n 0 0) (PQr E 0 0 ct ex enI) ct ex 0 0 16 [(0, .ref (ad E this)), (1, .int x1), (3, .int x3)] [.int s0] M (zX5_giftAt_B16 this x1 x3 s0 M) := by
  unfold zX5_giftAt_B16
  refine AW.istore (pc := 16) [1, 2, 3, 0] [(0, .ref (ad E this)), (1, .int x1), (3, .int x3), (4, .int s0)] dX5_giftAt_16 (by decide) rfl ?_
  refine AW.iload_n (pc := 18) dX5_giftAt_18 rfl 2 rfl ?_
  refine AW.bipush (pc := 19) dX5_giftAt_19 cb_8 ?_
  refine AW.imul (pc := 21) dX5_giftAt_21 ?_
  refine AW.iload_n (pc := 22) dX5_giftAt_22 rfl 1 rfl ?_
  refine AW.iadd (pc := 23) dX5_giftAt_23 ?_
  refine AW.bipush (pc := 24) dX5_giftAt_24 cb_100 ?_
  refine AW.imul (pc := 26) dX5_giftAt_26 ?_
  refine AW.iload (pc := 27) dX5_giftAt_27 3 rfl ?_
  refine AW.iadd (pc := 29) dX5_giftAt_29 ?_
  refine AW.genI (fun v1 => ?_)
  refine AW.istore (pc := 30) [1, 2, 3, 4, 0] [(0, .ref (ad E this)), (1, .int x1), (3, .int x3), (4, .int s0), (5, .int v1)] dX5_giftAt_30 (by decide) rfl ?_
  refine AW.aload_n (pc := 32) dX5_giftAt_32 rfl 0 rfl ?_
  refine AW.chk (fun g2 => ?_)
  refine AW.getR (pc := 33) dX5_giftAt_33 flX5_29 hthis (kct hthis rfl hct) g2 ?_
  refine AW.iload (pc := 36) dX5_giftAt_36 4 rfl ?_
  refine AW.cN2i (pc := 38) dX5_giftAt_38 nlX5_44 mbX11_at (fun _ => okR_N (by omega)) (kX11_at l E (n - 1) (by omega) ct hct ex (mR M this 2) v1 M) (Nat.le_of_ble_eq_true rfl) (fun v3 M4 => ?_)
  refine AW.istore (pc := 41) [1, 2, 3, 4, 5, 0] [(0, .ref (ad E this)), (1, .int x1), (3, .int x3), (4, .int s0), (5, .int v1), (6, .int v3)] dX5_giftAt_41 (by decide) rfl ?_
  refine AW.iload (pc := 43) dX5_giftAt_43 5 rfl ?_
  refine AW.bipush (pc := 45) dX5_giftAt_45 cb_m2 ?_
  refine AW.icmp_ne (pc := 47) 103 dX5_giftAt_47 (by decide) (fun h5 => ?_) (fun h5 => ?_)
  · refine AW.aload_n (pc := 50) dX5_giftAt_50 rfl 0 rfl ?_
    refine AW.iload_n (pc := 51) dX5_giftAt_51 rfl 1 rfl ?_
    refine AW.iload (pc := 52) dX5_giftAt_52 3 rfl ?_
    refine AW.iload_n (pc := 54) dX5_giftAt_54 rfl 2 rfl ?_
    refine AW.cV3v (pc := 55) dX5_giftAt_55 mlX5_48 mbX5_look rfl hthis (kct hthis rfl hct) (fun _ => okR_N (by omega)) (kX5_look l E (n - 1) (by omega) ct hct ex this x1 s0 x3 M4) (Nat.le_of_ble_eq_true rfl) (fun _ M6 => ?_)
    refine AW.aload_n (pc := 58) dX5_giftAt_58 rfl 0 rfl ?_
    refine AW.aload_n (pc := 59) dX5_giftAt_59 rfl 0 rfl ?_
    refine AW.aload_n (pc := 60) dX5_giftAt_60 rfl 0 rfl ?_
    refine AW.chk (fun g7 => ?_)
    refine AW.getR (pc := 61) dX5_giftAt_61 flX5_18 hthis (kct hthis rfl hct) g7 ?_
    refine AW.chk (fun g8 => ?_)
    refine AW.chk (fun g9 => ?_)
    refine AW.getR (pc := 64) dX5_giftAt_64 flX5_52 g8 (kct g8 rfl hct) g9 ?_
    refine AW.iload_n (pc := 67) dX5_giftAt_67 rfl 1 rfl ?_
    refine AW.cN2i (pc := 68) dX5_giftAt_68 nlX5_44 mbX11_at (fun _ => okR_N (by omega)) (kX11_at l E (n - 1) (by omega) ct hct ex (mR M6 (mR M6 this 0) 10) x1 M6) (Nat.le_of_ble_eq_true rfl) (fun v10 M11 => ?_)
    refine AW.aload_n (pc := 71) dX5_giftAt_71 rfl 0 rfl ?_
    refine AW.chk (fun g12 => ?_)
    refine AW.getR (pc := 72) dX5_giftAt_72 flX5_18 hthis (kct hthis rfl hct) g12 ?_
    refine AW.chk (fun g13 => ?_)
    refine AW.chk (fun g14 => ?_)
    refine AW.getR (pc := 75) dX5_giftAt_75 flX5_52 g13 (kct g13 rfl hct) g14 ?_
    refine AW.iload_n (pc := 78) dX5_giftAt_78 rfl 1 rfl ?_
    refine AW.iconst (pc := 79) dX5_giftAt_79 ci_1 ?_
    refine AW.iadd (pc := 80) dX5_giftAt_80 ?_
    refine AW.cN2i (pc := 81) dX5_giftAt_81 nlX5_44 mbX11_at (fun _ => okR_N (by omega)) (kX11_at l E (n - 1) (by omega) ct hct ex (mR M11 (mR M11 this 0) 10) (x1 + 1) M11) (Nat.le_of_ble_eq_true rfl) (fun v15 M16 => ?_)
    refine AW.cV2i (pc := 84) dX5_giftAt_84 mlX5_55 mbX5_worked rfl hthis (kct hthis rfl hct) (fun _ => okR_N (by omega)) (kX5_worked l E (n - 1) (by omega) ct hct ex this v10 v15 M16) (Nat.le_of_ble_eq_true rfl) (fun v17 M18 => ?_)
    refine AW.cV1i (pc := 87) dX5_giftAt_87 mlX5_59 mbX5_kept rfl hthis (kct hthis rfl hct) (fun _ => okR_N (by omega)) (kX5_kept l E (n - 1) (by omega) ct hct ex this v17 M18) (Nat.le_of_ble_eq_true rfl) (fun v19 M20 => ?_)
    refine AW.istore (pc := 90) [1, 5, 0] [(0, .ref (ad E this)), (5, .int v1), (6, .int v19)] dX5_giftAt_90 (by decide) rfl ?_
    refine AW.aload_n (pc := 92) dX5_giftAt_92 rfl 0 rfl ?_
    refine AW.chk (fun g21 => ?_)
    refine AW.getR (pc := 93) dX5_giftAt_93 flX5_29 hthis (kct hthis rfl hct) g21 ?_
    refine AW.iload (pc := 96) dX5_giftAt_96 1 rfl ?_
    refine AW.iload (pc := 98) dX5_giftAt_98 2 rfl ?_
    refine AW.cN3v (pc := 100) dX5_giftAt_100 nlX5_63 mbX11_put (fun _ => okR_N (by omega)) (kX11_put l E (n - 1) (by omega) ct hct ex (mR M20 this 2) v1 v19 M20) (Nat.le_of_ble_eq_true rfl) (fun _ M22 => ?_)
    refine AW.iload (pc := 103) dX5_giftAt_103 2 rfl ?_
    exact AW.iret (pc := 105) dX5_giftAt_105 rfl (fun _ _ _ => rfl) (Nat.le_refl _) (Nat.le_refl _)
  · refine AW.iload (pc := 103) dX5_giftAt_103 5 rfl ?_
    exact AW.iret (pc := 105) dX5_giftAt_105 rfl (fun _ _ _ => rfl) (Nat.le_refl _) (Nat.le_refl _)
set_option maxRecDepth 20000 in
set_option maxHeartbeats 4000000 in
theorem kX5_giftAt (l : Launch) (E : Ev) (n : Nat) (hn : 3 ≤ n) (ct : Nat) (hct : 111 ≤ ct) (ex : Bool) (this : Nat) (x1 : Int32) (x2 : Int32) (x3 : Int32) (M : Mem) : AM l E n ct ex yX5_giftAt fX5_giftAt enI [.ref (ad E this), .int x1, .int x2, .int x3] M (zX5_giftAt this x1 x2 x3 M) := by
  unfold zX5_giftAt
  refine AM.of (by decide +kernel) ⟨rfl, rfl, rfl⟩ (Nat.le_of_ble_eq_true rfl) ?_
  refine AW.chk (fun hthis => ?_)
  refine AW.aload_n (pc := 0) dX5_giftAt_0 rfl 0 rfl ?_
  refine AW.chk (fun g1 => ?_)
  refine AW.getR (pc := 1) dX5_giftAt_1 flX5_28 hthis (kct hthis rfl hct) g1 ?_
  refine AW.chk (fun g2 => ?_)
  refine AW.getI (pc := 4) dX5_giftAt_4 flX5_38 g2 (kct g2 rfl hct) ?_
  refine AW.iconst (pc := 7) dX5_giftAt_7 ci_1 ?_
  refine AW.icmp_ne (pc := 8) 15 dX5_giftAt_8 (by decide) (fun h3 => ?_) (fun h3 => ?_)
  · refine AW.iload_n (pc := 11) dX5_giftAt_11 rfl 2 rfl ?_
    refine AW.goto (pc := 12) 16 dX5_giftAt_12 (by decide) ?_
    exact AW.sub [0, 1, 3] rfl (kX5_giftAt_B16 l E n hn ct hct ex this x1 x3 x2 M hthis)
  · refine AW.iconst (pc := 15) dX5_giftAt_15 ci_0 ?_
    exact AW.sub [0, 1, 3] rfl (kX5_giftAt_B16 l E n hn ct hct ex this x1 x3 0 M hthis)
-- GateBox.gives(III)I
def zX11_gives (this : Nat) (x1 : Int32) (x2 : Int32) (x3 : Int32) (M : Mem) : Option ((Int32 ⊕ Nat) × Mem) :=
  if K0 this = (0, 11) then
  bndX (zX11_gateOf this x1 M) fun v1 M2 =>
  if K0 v1 = (0, 4) then
  if mR M2 v1 0 ≠ 0 then
  if K0 (mR M2 v1 0) = (0, 8) then
  bndX (zX11_askKnown x2 ((mI M2 (mR M2 v1 0) 0) - 1) M2) fun _ M6 =>
  bnd (zX8_states (mR M2 v1 0) M6) fun v7 M8 =>
  bndX (zX11_askKnown x3 (v7 - 1) M8) fun _ M9 =>
  if mR M9 this 7 ≠ 0 then
  if mR M9 (mR M2 v1 0) 12 ≠ 0 then
  if K0 (mR M9 this 7) = (0, 5) then
  bnd (zX5_begin (mR M9 this 7) (mR M2 v1 0) (mR M9 (mR M2 v1 0) 12) M9) fun _ M12 =>
  if mR M12 this 7 ≠ 0 then
  if K0 (mR M12 this 7) = (0, 5) then
  bnd (zX5_giftAt (mR M12 this 7) x2 x3 0 M12) fun v15 M16 =>
  some (.inl v15, M16)
  else none
  else none
  else none
  else none
  else none
  else none
  else none
  else none
  else none
set_option maxRecDepth 20000 in
set_option maxHeartbeats 4000000 in
theorem kX11_gives (l : Launch) (E : Ev) (hst : l.stackTraces = false) (n : Nat) (hn : 8 ≤ n) (ct : Nat) (hct : 111 ≤ ct) (ex : Bool) (this : Nat) (x1 : Int32) (x2 : Int32) (x3 : Int32) (M : Mem) : AMX l E n ct ex yX11_gives fX11_gives enI [.ref (ad E this), .int x1, .int x2, .int x3] M (zX11_gives this x1 x2 x3 M) := by
  unfold zX11_gives
  refine AMX.of (by decide +kernel) ⟨rfl, rfl, rfl⟩ (Nat.le_of_ble_eq_true rfl) ?_
  refine AW.chk (fun hthis => ?_)
  refine AW.aload_n (pc := 0) dX11_gives_0 rfl 0 rfl ?_
  refine AW.iload_n (pc := 1) dX11_gives_1 rfl 1 rfl ?_
  refine AW.xV1r (pc := 2) rfl dX11_gives_2 mlX11_106 mbX11_gateOf rfl hthis (kct hthis rfl hct) (by omega) (kX11_gateOf l E hst (n - 1) (by omega) ct hct ex this x1 M) (Nat.le_of_ble_eq_true rfl) (fun v1 M2 => ?_)
  refine AW.chk (fun g3 => ?_)
  refine AW.chk (fun g4 => ?_)
  refine AW.getR (pc := 5) dX11_gives_5 flX11_43 g3 (kct g3 rfl hct) g4 ?_
  refine AW.astore (pc := 8) [1, 3, 4, 0] [(0, .ref (ad E this)), (2, .int x2), (3, .int x3), (4, .ref (ad E (mR M2 v1 0)))] dX11_gives_8 (by decide) rfl ?_
  refine AW.iload_n (pc := 10) dX11_gives_10 rfl 1 rfl ?_
  refine AW.aload (pc := 11) dX11_gives_11 3 rfl ?_
  refine AW.chk (fun g5 => ?_)
  refine AW.getI (pc := 13) dX11_gives_13 flX11_148 g5 (kct g5 rfl hct) ?_
  refine AW.iconst (pc := 16) dX11_gives_16 ci_1 ?_
  refine AW.isub (pc := 17) dX11_gives_17 ?_
  refine AW.xS2v (pc := 18) rfl dX11_gives_18 mlX11_134 mbX11_askKnown (by omega) (kX11_askKnown l E hst (n - 1) (by omega) ct hct ex x2 ((mI M2 (mR M2 v1 0) 0) - 1) M2) (Nat.le_of_ble_eq_true rfl) (fun _ M6 => ?_)
  refine AW.iload_n (pc := 21) dX11_gives_21 rfl 2 rfl ?_
  refine AW.aload (pc := 22) dX11_gives_22 3 rfl ?_
  refine AW.cV0i (pc := 24) dX11_gives_24 mlX11_160 mbX8_states rfl g5 (kct g5 rfl hct) (fun r => okR_X (by omega) r) (kX8_states l E (n - 1) (by omega) ct hct ex (mR M2 v1 0) M6) (Nat.le_of_ble_eq_true rfl) (fun v7 M8 => ?_)
  refine AW.iconst (pc := 27) dX11_gives_27 ci_1 ?_
  refine AW.isub (pc := 28) dX11_gives_28 ?_
  refine AW.xS2v (pc := 29) rfl dX11_gives_29 mlX11_134 mbX11_askKnown (by omega) (kX11_askKnown l E hst (n - 1) (by omega) ct hct ex x3 (v7 - 1) M8) (Nat.le_of_ble_eq_true rfl) (fun _ M9 => ?_)
  refine AW.aload_n (pc := 32) dX11_gives_32 rfl 0 rfl ?_
  refine AW.chk (fun g10 => ?_)
  refine AW.getR (pc := 33) dX11_gives_33 flX11_50 hthis (kct hthis rfl hct) g10 ?_
  refine AW.aload (pc := 36) dX11_gives_36 3 rfl ?_
  refine AW.aload (pc := 38) dX11_gives_38 3 rfl ?_
  refine AW.chk (fun g11 => ?_)
  refine AW.getR (pc := 40) dX11_gives_40 flX11_164 g5 (kct g5 rfl hct) g11 ?_
  refine AW.chk (fun g13 => ?_)
  refine AW.cV2v (pc := 43) dX11_gives_43 mlX11_167 mbX5_begin rfl g13 (kct g13 rfl hct) (fun r => okR_X (by omega) r) (kX5_begin l E (n - 1) (by omega) ct hct ex (mR M9 this 7) (mR M2 v1 0) (mR M9 (mR M2 v1 0) 12) M9) (Nat.le_of_ble_eq_true rfl) (fun _ M12 => ?_)
  refine AW.aload_n (pc := 46) dX11_gives_46 rfl 0 rfl ?_
  refine AW.chk (fun g14 => ?_)
  refine AW.getR (pc := 47) dX11_gives_47 flX11_50 hthis (kct hthis rfl hct) g14 ?_
  refine AW.iload_n (pc := 50) dX11_gives_50 rfl 1 rfl ?_
  refine AW.iload_n (pc := 51) dX11_gives_51 rfl 2 rfl ?_
  refine AW.iconst (pc := 52) dX11_gives_52 ci_0 ?_
  refine AW.chk (fun g17 => ?_)
  refine AW.cV3i (pc := 53) dX11_gives_53 mlX11_171 mbX5_giftAt rfl g17 (kct g17 rfl hct) (fun r => okR_X (by omega) r) (kX5_giftAt l E (n - 1) (by omega) ct hct ex (mR M12 this 7) x2 x3 0 M12) (Nat.le_of_ble_eq_true rfl) (fun v15 M16 => ?_)
  exact AW.iret (pc := 56) dX11_gives_56 rfl (fun _ _ _ => rfl) (Nat.le_refl _) (Nat.le_refl _)
-- GateBox$Rules.stateBehind(II)I
def zX8_stateBehind (this : Nat) (x1 : Int32) (x2 : Int32) (M : Mem) : Option (Int32 × Mem) :=
  if K0 this = (0, 8) then
  if (mI M this 2) = 0 then
    some (0, M)
  else
    if (mI M this 2) = 1 then
      some (x2, M)
    else
      some (((x1 % 10) * 10) + x2, M)
  else none
set_option maxRecDepth 20000 in
set_option maxHeartbeats 4000000 in
theorem kX8_stateBehind (l : Launch) (E : Ev) (n : Nat) (hn : 1 ≤ n) (ct : Nat) (hct : 111 ≤ ct) (ex : Bool) (this : Nat) (x1 : Int32) (x2 : Int32) (M : Mem) : AM l E n ct ex yX8_stateBehind fX8_stateBehind enI [.ref (ad E this), .int x1, .int x2] M (zX8_stateBehind this x1 x2 M) := by
  unfold zX8_stateBehind
  refine AM.of (by decide +kernel) ⟨rfl, rfl, rfl⟩ (Nat.le_of_ble_eq_true rfl) ?_
  refine AW.chk (fun hthis => ?_)
  refine AW.aload_n (pc := 0) dX8_stateBehind_0 rfl 0 rfl ?_
  refine AW.getI (pc := 1) dX8_stateBehind_1 flX8_18 hthis (kct hthis rfl hct) ?_
  refine AW.if_ne (pc := 4) 11 dX8_stateBehind_4 (by decide) (fun h1 => ?_) (fun h1 => ?_)
  · refine AW.iconst (pc := 7) dX8_stateBehind_7 ci_0 ?_
    refine AW.goto (pc := 8) 32 dX8_stateBehind_8 (by decide) ?_
    exact AW.iret (pc := 32) dX8_stateBehind_32 rfl (fun _ _ _ => rfl) (Nat.le_refl _) (Nat.le_refl _)
  · refine AW.aload_n (pc := 11) dX8_stateBehind_11 rfl 0 rfl ?_
    refine AW.getI (pc := 12) dX8_stateBehind_12 flX8_18 hthis (kct hthis rfl hct) ?_
    refine AW.iconst (pc := 15) dX8_stateBehind_15 ci_1 ?_
    refine AW.icmp_ne (pc := 16) 23 dX8_stateBehind_16 (by decide) (fun h2 => ?_) (fun h2 => ?_)
    · refine AW.iload_n (pc := 19) dX8_stateBehind_19 rfl 2 rfl ?_
      refine AW.goto (pc := 20) 32 dX8_stateBehind_20 (by decide) ?_
      exact AW.iret (pc := 32) dX8_stateBehind_32 rfl (fun _ _ _ => rfl) (Nat.le_refl _) (Nat.le_refl _)
    · refine AW.iload_n (pc := 23) dX8_stateBehind_23 rfl 1 rfl ?_
      refine AW.bipush (pc := 24) dX8_stateBehind_24 cb_10 ?_
      refine AW.irem (pc := 26) dX8_stateBehind_26 (by decide) ?_
      refine AW.bipush (pc := 27) dX8_stateBehind_27 cb_10 ?_
      refine AW.imul (pc := 29) dX8_stateBehind_29 ?_
      refine AW.iload_n (pc := 30) dX8_stateBehind_30 rfl 2 rfl ?_
      refine AW.iadd (pc := 31) dX8_stateBehind_31 ?_
      exact AW.iret (pc := 32) dX8_stateBehind_32 rfl (fun _ _ _ => rfl) (Nat.le_refl _) (Nat.le_refl _)
-- GateBox.next(III)I
def zX11_next (this : Nat) (x1 : Int32) (x2 : Int32) (x3 : Int32) (M : Mem) : Option ((Int32 ⊕ Nat) × Mem) :=
  if K0 this = (0, 11) then
  bndX (zX11_gateOf this x1 M) fun v1 M2 =>
  if K0 v1 = (0, 4) then
  if mR M2 v1 0 ≠ 0 then
  if K0 (mR M2 v1 0) = (0, 8) then
  bnd (zX8_states (mR M2 v1 0) M2) fun v5 M6 =>
  bndX (zX11_askKnown x2 (v5 - 1) M6) fun _ M8 =>
  bndX (zX11_askKnown x3 9 M8) fun _ M9 =>
  bnd (zX8_stateBehind (mR M2 v1 0) x2 x3 M9) fun v10 M11 =>
  some (.inl v10, M11)
  else none
  else none
  else none
  else none
set_option maxRecDepth 20000 in
set_option maxHeartbeats 4000000 in
theorem kX11_next (l : Launch) (E : Ev) (hst : l.stackTraces = false) (n : Nat) (hn : 8 ≤ n) (ct : Nat) (hct : 111 ≤ ct) (ex : Bool) (this : Nat) (x1 : Int32) (x2 : Int32) (x3 : Int32) (M : Mem) : AMX l E n ct ex yX11_next fX11_next enI [.ref (ad E this), .int x1, .int x2, .int x3] M (zX11_next this x1 x2 x3 M) := by
  unfold zX11_next
  refine AMX.of (by decide +kernel) ⟨rfl, rfl, rfl⟩ (Nat.le_of_ble_eq_true rfl) ?_
  refine AW.chk (fun hthis => ?_)
  refine AW.aload_n (pc := 0) dX11_next_0 rfl 0 rfl ?_
  refine AW.iload_n (pc := 1) dX11_next_1 rfl 1 rfl ?_
  refine AW.xV1r (pc := 2) rfl dX11_next_2 mlX11_106 mbX11_gateOf rfl hthis (kct hthis rfl hct) (by omega) (kX11_gateOf l E hst (n - 1) (by omega) ct hct ex this x1 M) (Nat.le_of_ble_eq_true rfl) (fun v1 M2 => ?_)
  refine AW.chk (fun g3 => ?_)
  refine AW.chk (fun g4 => ?_)
  refine AW.getR (pc := 5) dX11_next_5 flX11_43 g3 (kct g3 rfl hct) g4 ?_
  refine AW.astore (pc := 8) [1, 3, 4, 0] [(0, .ref (ad E this)), (2, .int x2), (3, .int x3), (4, .ref (ad E (mR M2 v1 0)))] dX11_next_8 (by decide) rfl ?_
  refine AW.iload_n (pc := 10) dX11_next_10 rfl 1 rfl ?_
  refine AW.aload (pc := 11) dX11_next_11 3 rfl ?_
  refine AW.chk (fun g7 => ?_)
  refine AW.cV0i (pc := 13) dX11_next_13 mlX11_160 mbX8_states rfl g7 (kct g7 rfl hct) (fun r => okR_X (by omega) r) (kX8_states l E (n - 1) (by omega) ct hct ex (mR M2 v1 0) M2) (Nat.le_of_ble_eq_true rfl) (fun v5 M6 => ?_)
  refine AW.iconst (pc := 16) dX11_next_16 ci_1 ?_
  refine AW.isub (pc := 17) dX11_next_17 ?_
  refine AW.xS2v (pc := 18) rfl dX11_next_18 mlX11_134 mbX11_askKnown (by omega) (kX11_askKnown l E hst (n - 1) (by omega) ct hct ex x2 (v5 - 1) M6) (Nat.le_of_ble_eq_true rfl) (fun _ M8 => ?_)
  refine AW.iload_n (pc := 21) dX11_next_21 rfl 2 rfl ?_
  refine AW.bipush (pc := 22) dX11_next_22 cb_9 ?_
  refine AW.xS2v (pc := 24) rfl dX11_next_24 mlX11_134 mbX11_askKnown (by omega) (kX11_askKnown l E hst (n - 1) (by omega) ct hct ex x3 9 M8) (Nat.le_of_ble_eq_true rfl) (fun _ M9 => ?_)
  refine AW.aload (pc := 27) dX11_next_27 3 rfl ?_
  refine AW.iload_n (pc := 29) dX11_next_29 rfl 1 rfl ?_
  refine AW.iload_n (pc := 30) dX11_next_30 rfl 2 rfl ?_
  refine AW.cV2i (pc := 31) dX11_next_31 mlX11_175 mbX8_stateBehind rfl g7 (kct g7 rfl hct) (fun r => okR_X (by omega) r) (kX8_stateBehind l E (n - 1) (by omega) ct hct ex (mR M2 v1 0) x2 x3 M9) (Nat.le_of_ble_eq_true rfl) (fun v10 M11 => ?_)
  exact AW.iret (pc := 34) dX11_next_34 rfl (fun _ _ _ => rfl) (Nat.le_refl _) (Nat.le_refl _)
-- GateBox.seed(II)V
def zX11_seed (this : Nat) (x1 : Int32) (x2 : Int32) (M : Mem) : Option ((Unit ⊕ Nat) × Mem) :=
  if K0 this = (0, 11) then
  bndX (zX11_gateOf this x1 M) fun v1 M2 =>
  if K0 v1 = (0, 4) then
  if mR M2 v1 0 ≠ 0 then
  if K0 (mR M2 v1 0) = (0, 8) then
  bnd (zX8_states (mR M2 v1 0) M2) fun v5 M6 =>
  bndX (zX11_askKnown x2 (v5 - 1) M6) fun _ M8 =>
  if mR M8 v1 1 ≠ 0 then
  if K0 (mR M8 v1 1) = (0, 0) then
  bnd (zX0_beginAt (mR M8 v1 1) x2 M8) fun _ M10 =>
  some (.inl (), M10)
  else none
  else none
  else none
  else none
  else none
  else none
set_option maxRecDepth 20000 in
set_option maxHeartbeats 4000000 in
theorem kX11_seed (l : Launch) (E : Ev) (hst : l.stackTraces = false) (n : Nat) (hn : 8 ≤ n) (ct : Nat) (hct : 111 ≤ ct) (ex : Bool) (this : Nat) (x1 : Int32) (x2 : Int32) (M : Mem) : AMX l E n ct ex yX11_seed fX11_seed enU [.ref (ad E this), .int x1, .int x2] M (zX11_seed this x1 x2 M) := by
  unfold zX11_seed
  refine AMX.of (by decide +kernel) ⟨rfl, rfl, rfl⟩ (Nat.le_of_ble_eq_true rfl) ?_
  refine AW.chk (fun hthis => ?_)
  refine AW.aload_n (pc := 0) dX11_seed_0 rfl 0 rfl ?_
  refine AW.iload_n (pc := 1) dX11_seed_1 rfl 1 rfl ?_
  refine AW.xV1r (pc := 2) rfl dX11_seed_2 mlX11_106 mbX11_gateOf rfl hthis (kct hthis rfl hct) (by omega) (kX11_gateOf l E hst (n - 1) (by omega) ct hct ex this x1 M) (Nat.le_of_ble_eq_true rfl) (fun v1 M2 => ?_)
  refine AW.astore_n (pc := 5) [1, 3, 0] [(0, .ref (ad E this)), (2, .int x2), (3, .ref (ad E v1))] dX11_seed_5 rfl (by decide) rfl ?_
  refine AW.iload_n (pc := 6) dX11_seed_6 rfl 1 rfl ?_
  refine AW.aload_n (pc := 7) dX11_seed_7 rfl 2 rfl ?_
  refine AW.chk (fun g3 => ?_)
  refine AW.chk (fun g4 => ?_)
  refine AW.getR (pc := 8) dX11_seed_8 flX11_43 g3 (kct g3 rfl hct) g4 ?_
  refine AW.chk (fun g7 => ?_)
  refine AW.cV0i (pc := 11) dX11_seed_11 mlX11_160 mbX8_states rfl g7 (kct g7 rfl hct) (fun r => okR_X (by omega) r) (kX8_states l E (n - 1) (by omega) ct hct ex (mR M2 v1 0) M2) (Nat.le_of_ble_eq_true rfl) (fun v5 M6 => ?_)
  refine AW.iconst (pc := 14) dX11_seed_14 ci_1 ?_
  refine AW.isub (pc := 15) dX11_seed_15 ?_
  refine AW.xS2v (pc := 16) rfl dX11_seed_16 mlX11_134 mbX11_askKnown (by omega) (kX11_askKnown l E hst (n - 1) (by omega) ct hct ex x2 (v5 - 1) M6) (Nat.le_of_ble_eq_true rfl) (fun _ M8 => ?_)
  refine AW.aload_n (pc := 19) dX11_seed_19 rfl 2 rfl ?_
  refine AW.chk (fun g9 => ?_)
  refine AW.getR (pc := 20) dX11_seed_20 flX11_125 g3 (kct g3 rfl hct) g9 ?_
  refine AW.iload_n (pc := 23) dX11_seed_23 rfl 1 rfl ?_
  refine AW.chk (fun g11 => ?_)
  refine AW.cV1v (pc := 24) dX11_seed_24 mlX11_179 mbX0_beginAt rfl g11 (kct g11 rfl hct) (fun r => okR_X (by omega) r) (kX0_beginAt l E (n - 1) (by omega) ct hct ex (mR M8 v1 1) x2 M8) (Nat.le_of_ble_eq_true rfl) (fun _ M10 => ?_)
  exact AW.vret (pc := 27) dX11_seed_27 rfl (fun _ _ _ => rfl) (Nat.le_refl _) (Nat.le_refl _)
-- GateBox.set(II)Z
def zX11_set (this : Nat) (x1 : Int32) (x2 : Int32) (M : Mem) : Option ((Int32 ⊕ Nat) × Mem) :=
  if K0 this = (0, 11) then
  bndX (zX11_gateOf this x1 M) fun v1 M2 =>
  if K0 v1 = (0, 4) then
  if mR M2 v1 0 ≠ 0 then
  bndX (zX11_askKnown x2 175 M2) fun _ M5 =>
  if K0 (mR M2 v1 0) = (0, 8) then
  if mR M5 (mR M2 v1 0) 12 ≠ 0 then
  if K0 (mR M5 (mR M2 v1 0) 12) = (0, 9) then
  bnd (zX9_become (mR M5 (mR M2 v1 0) 12) x2 M5) fun _ M8 =>
  some (.inl 1, M8)
  else none
  else none
  else none
  else none
  else none
  else none
set_option maxRecDepth 20000 in
set_option maxHeartbeats 4000000 in
theorem kX11_set (l : Launch) (E : Ev) (hst : l.stackTraces = false) (n : Nat) (hn : 8 ≤ n) (ct : Nat) (hct : 111 ≤ ct) (ex : Bool) (this : Nat) (x1 : Int32) (x2 : Int32) (M : Mem) : AMX l E n ct ex yX11_set fX11_set enI [.ref (ad E this), .int x1, .int x2] M (zX11_set this x1 x2 M) := by
  unfold zX11_set
  refine AMX.of (by decide +kernel) ⟨rfl, rfl, rfl⟩ (Nat.le_of_ble_eq_true rfl) ?_
  refine AW.chk (fun hthis => ?_)
  refine AW.aload_n (pc := 0) dX11_set_0 rfl 0 rfl ?_
  refine AW.iload_n (pc := 1) dX11_set_1 rfl 1 rfl ?_
  refine AW.xV1r (pc := 2) rfl dX11_set_2 mlX11_106 mbX11_gateOf rfl hthis (kct hthis rfl hct) (by omega) (kX11_gateOf l E hst (n - 1) (by omega) ct hct ex this x1 M) (Nat.le_of_ble_eq_true rfl) (fun v1 M2 => ?_)
  refine AW.chk (fun g3 => ?_)
  refine AW.chk (fun g4 => ?_)
  refine AW.getR (pc := 5) dX11_set_5 flX11_43 g3 (kct g3 rfl hct) g4 ?_
  refine AW.astore_n (pc := 8) [1, 3, 0] [(0, .ref (ad E this)), (2, .int x2), (3, .ref (ad E (mR M2 v1 0)))] dX11_set_8 rfl (by decide) rfl ?_
  refine AW.iload_n (pc := 9) dX11_set_9 rfl 1 rfl ?_
  refine AW.sipush (pc := 10) dX11_set_10 cs_175 ?_
  refine AW.xS2v (pc := 13) rfl dX11_set_13 mlX11_134 mbX11_askKnown (by omega) (kX11_askKnown l E hst (n - 1) (by omega) ct hct ex x2 175 M2) (Nat.le_of_ble_eq_true rfl) (fun _ M5 => ?_)
  refine AW.aload_n (pc := 16) dX11_set_16 rfl 2 rfl ?_
  refine AW.chk (fun g6 => ?_)
  refine AW.chk (fun g7 => ?_)
  refine AW.getR (pc := 17) dX11_set_17 flX11_164 g6 (kct g6 rfl hct) g7 ?_
  refine AW.iload_n (pc := 20) dX11_set_20 rfl 1 rfl ?_
  refine AW.chk (fun g9 => ?_)
  refine AW.cV1v (pc := 21) dX11_set_21 mlX11_182 mbX9_become rfl g9 (kct g9 rfl hct) (fun r => okR_X (by omega) r) (kX9_become l E (n - 1) (by omega) ct hct ex (mR M5 (mR M2 v1 0) 12) x2 M5) (Nat.le_of_ble_eq_true rfl) (fun _ M8 => ?_)
  refine AW.iconst (pc := 24) dX11_set_24 ci_1 ?_
  exact AW.zret (pc := 25) dX11_set_25 rfl (Or.inr rfl) (fun _ _ _ => rfl) (Nat.le_refl _) (Nat.le_refl _)
-- GateBox$Cases.clear()V
def zX1_clear_B2 (KK2 : Nat → Int32 → Mem → Option (Unit × Mem)) (this : Nat) (x1 : Int32) (M : Mem) : Option (Unit × Mem) :=
  if (mI M this 2) ≤ x1 then
    lt (sI M this 2 0) fun M2 =>
    some ((), M2)
  else
    if mR M this 0 ≠ 0 then
    if mR M this 1 ≠ 0 then
    bnd (zX11_at (mR M this 1) x1 M) fun v5 M6 =>
    bnd (zX11_put (mR M this 0) v5 0 M6) fun _ M7 =>
    KK2 this (x1 + 1) M7
    else none
    else none
def zX1_clear_L2 : Nat → Nat → Int32 → Mem → Option (Unit × Mem)
  | 0 => fun _ _ _ => none
  | k + 1 => zX1_clear_B2 (zX1_clear_L2 k)
def zX1_clear (this : Nat) (M : Mem) : Option (Unit × Mem) :=
  if K0 this = (0, 1) then
  zX1_clear_L2 FU this 0 M
  else none
set_option maxRecDepth 20000 in
set_option maxHeartbeats 4000000 in
theorem kX1_clear_B2 (l : Launch) (E : Ev) (n : Nat) (hn : 2 ≤ n) (ct : Nat) (hct : 111 ≤ ct) (ex : Bool) (KK2 : Nat → Int32 → Mem → Option (Unit × Mem)) (hKK2 : ∀ (this : Nat) (x1 : Int32) (M : Mem) (_ : K0 this = (0, 1)), AW l E fX1_clear (fun _ => rmN n 0 0) (PQr E 0 0 ct ex enU) ct ex 0 0 2 [(0, .ref (ad E this)), (1, .int x1)] [] M (KK2 this x1 M)) (this : Nat) (x1 : Int32) (M : Mem) (hthis : K0 this = (0, 1)) : AW l E fX1_clear (fun _ => rmN n 0 0) (PQr E 0 0 ct ex enU) ct ex 0 0 2 [(0, .ref (ad E this)), (1, .int x1)] [] M (zX1_clear_B2 KK2 this x1 M) := by
  unfold zX1_clear_B2
  refine AW.iload_n (pc := 2) dX1_clear_2 rfl 1 rfl ?_
  refine AW.aload_n (pc := 3) dX1_clear_3 rfl 0 rfl ?_
  refine AW.getI (pc := 4) dX1_clear_4 flX1_7 hthis (kct hthis rfl hct) ?_
  refine AW.icmp_ge (pc := 7) 32 dX1_clear_7 (by decide) (fun h1 => ?_) (fun h1 => ?_)
  · refine AW.aload_n (pc := 32) dX1_clear_32 rfl 0 rfl ?_
    refine AW.iconst (pc := 33) dX1_clear_33 ci_0 ?_
    refine AW.putI (pc := 34) dX1_clear_34 flX1_7 hthis (kct hthis rfl hct) ?_
    refine AW.genM (fun M2 => ?_)
    exact AW.vret (pc := 37) dX1_clear_37 rfl (fun _ _ _ => rfl) (Nat.le_refl _) (Nat.le_refl _)
  · refine AW.aload_n (pc := 10) dX1_clear_10 rfl 0 rfl ?_
    refine AW.chk (fun g3 => ?_)
    refine AW.getR (pc := 11) dX1_clear_11 flX1_13 hthis (kct hthis rfl hct) g3 ?_
    refine AW.aload_n (pc := 14) dX1_clear_14 rfl 0 rfl ?_
    refine AW.chk (fun g4 => ?_)
    refine AW.getR (pc := 15) dX1_clear_15 flX1_17 hthis (kct hthis rfl hct) g4 ?_
    refine AW.iload_n (pc := 18) dX1_clear_18 rfl 1 rfl ?_
    refine AW.cN2i (pc := 19) dX1_clear_19 nlX1_20 mbX11_at (fun _ => okR_N (by omega)) (kX11_at l E (n - 1) (by omega) ct hct ex (mR M this 1) x1 M) (Nat.le_of_ble_eq_true rfl) (fun v5 M6 => ?_)
    refine AW.iconst (pc := 22) dX1_clear_22 ci_0 ?_
    refine AW.cN3v (pc := 23) dX1_clear_23 nlX1_26 mbX11_put (fun _ => okR_N (by omega)) (kX11_put l E (n - 1) (by omega) ct hct ex (mR M this 0) v5 0 M6) (Nat.le_of_ble_eq_true rfl) (fun _ M7 => ?_)
    refine AW.iinc (pc := 26) (w := 1) [1, 0] [(0, .ref (ad E this)), (1, .int (x1 + 1))] dX1_clear_26 rfl (inc_1 _) (by decide) rfl ?_
    refine AW.goto (pc := 29) 2 dX1_clear_29 (by decide) ?_
    exact hKK2 this (x1 + 1) M7 hthis
set_option maxRecDepth 20000 in
set_option maxHeartbeats 4000000 in
theorem kX1_clear_L2 (l : Launch) (E : Ev) (n : Nat) (hn : 2 ≤ n) (ct : Nat) (hct : 111 ≤ ct) (ex : Bool) (k : Nat) : ∀ (this : Nat) (x1 : Int32) (M : Mem) (_ : K0 this = (0, 1)), AW l E fX1_clear (fun _ => rmN n 0 0) (PQr E 0 0 ct ex enU) ct ex 0 0 2 [(0, .ref (ad E this)), (1, .int x1)] [] M (zX1_clear_L2 k this x1 M) := by
  induction k with
  | zero => intro this x1 M _; exact AW.none
  | succ k ih =>
    intro this x1 M hthis
    exact kX1_clear_B2 l E n hn ct hct ex (zX1_clear_L2 k) ih this x1 M hthis
set_option maxRecDepth 20000 in
set_option maxHeartbeats 4000000 in
theorem kX1_clear (l : Launch) (E : Ev) (n : Nat) (hn : 2 ≤ n) (ct : Nat) (hct : 111 ≤ ct) (ex : Bool) (this : Nat) (M : Mem) : AM l E n ct ex yX1_clear fX1_clear enU [.ref (ad E this)] M (zX1_clear this M) := by
  unfold zX1_clear
  refine AM.of (by decide +kernel) ⟨rfl, rfl, rfl⟩ (Nat.le_of_ble_eq_true rfl) ?_
  refine AW.chk (fun hthis => ?_)
  refine AW.iconst (pc := 0) dX1_clear_0 ci_0 ?_
  refine AW.istore_n (pc := 1) [1, 0] [(0, .ref (ad E this)), (1, .int 0)] dX1_clear_1 rfl (by decide) rfl ?_
  exact kX1_clear_L2 l E n hn ct hct ex FU this 0 M hthis
-- GateBox$Cases.add(II)V
def zX1_add_B40 (this : Nat) (x1 : Int32) (x2 : Int32) (x3 : Int32) (M : Mem) : Option (Unit × Mem) :=
  if mR M this 0 ≠ 0 then
  bnd (zX11_put (mR M this 0) x1 (x3 + x2) M) fun _ M2 =>
  some ((), M2)
  else none
def zX1_add (this : Nat) (x1 : Int32) (x2 : Int32) (M : Mem) : Option (Unit × Mem) :=
  if K0 this = (0, 1) then
  if x2 = 0 then
    some ((), M)
  else
    if mR M this 0 ≠ 0 then
    bnd (zX11_at (mR M this 0) x1 M) fun v3 M4 =>
    if v3 = 0 then
      if mR M4 this 1 ≠ 0 then
      bnd (zX11_put (mR M4 this 1) (mI M4 this 2) x1 M4) fun _ M7 =>
      lt (sI M7 this 2 ((mI M7 this 2) + 1)) fun M8 =>
      zX1_add_B40 this x1 x2 v3 M8
      else none
    else
      zX1_add_B40 this x1 x2 v3 M4
    else none
  else none
set_option maxRecDepth 20000 in
set_option maxHeartbeats 4000000 in
theorem kX1_add_B40 (l : Launch) (E : Ev) (n : Nat) (hn : 2 ≤ n) (ct : Nat) (hct : 111 ≤ ct) (ex : Bool) (this : Nat) (x1 : Int32) (x2 : Int32) (x3 : Int32) (M : Mem) (hthis : K0 this = (0, 1)) : AW l E fX1_add (fun _ => rmN n 0 0) (PQr E 0 0 ct ex enU) ct ex 0 0 40 [(0, .ref (ad E this)), (1, .int x1), (2, .int x2), (3, .int x3)] [] M (zX1_add_B40 this x1 x2 x3 M) := by
  unfold zX1_add_B40
  refine AW.aload_n (pc := 40) dX1_add_40 rfl 0 rfl ?_
  refine AW.chk (fun g1 => ?_)
  refine AW.getR (pc := 41) dX1_add_41 flX1_13 hthis (kct hthis rfl hct) g1 ?_
  refine AW.iload_n (pc := 44) dX1_add_44 rfl 1 rfl ?_
  refine AW.iload_n (pc := 45) dX1_add_45 rfl 3 rfl ?_
  refine AW.iload_n (pc := 46) dX1_add_46 rfl 2 rfl ?_
  refine AW.iadd (pc := 47) dX1_add_47 ?_
  refine AW.cN3v (pc := 48) dX1_add_48 nlX1_26 mbX11_put (fun _ => okR_N (by omega)) (kX11_put l E (n - 1) (by omega) ct hct ex (mR M this 0) x1 (x3 + x2) M) (Nat.le_of_ble_eq_true rfl) (fun _ M2 => ?_)
  exact AW.vret (pc := 51) dX1_add_51 rfl (fun _ _ _ => rfl) (Nat.le_refl _) (Nat.le_refl _)
set_option maxRecDepth 20000 in
set_option maxHeartbeats 4000000 in
theorem kX1_add (l : Launch) (E : Ev) (n : Nat) (hn : 2 ≤ n) (ct : Nat) (hct : 111 ≤ ct) (ex : Bool) (this : Nat) (x1 : Int32) (x2 : Int32) (M : Mem) : AM l E n ct ex yX1_add fX1_add enU [.ref (ad E this), .int x1, .int x2] M (zX1_add this x1 x2 M) := by
  unfold zX1_add
  refine AM.of (by decide +kernel) ⟨rfl, rfl, rfl⟩ (Nat.le_of_ble_eq_true rfl) ?_
  refine AW.chk (fun hthis => ?_)
  refine AW.iload_n (pc := 0) dX1_add_0 rfl 2 rfl ?_
  refine AW.if_ne (pc := 1) 5 dX1_add_1 (by decide) (fun h1 => ?_) (fun h1 => ?_)
  · exact AW.vret (pc := 4) dX1_add_4 rfl (fun _ _ _ => rfl) (Nat.le_refl _) (Nat.le_refl _)
  · refine AW.aload_n (pc := 5) dX1_add_5 rfl 0 rfl ?_
    refine AW.chk (fun g2 => ?_)
    refine AW.getR (pc := 6) dX1_add_6 flX1_13 hthis (kct hthis rfl hct) g2 ?_
    refine AW.iload_n (pc := 9) dX1_add_9 rfl 1 rfl ?_
    refine AW.cN2i (pc := 10) dX1_add_10 nlX1_20 mbX11_at (fun _ => okR_N (by omega)) (kX11_at l E (n - 1) (by omega) ct hct ex (mR M this 0) x1 M) (Nat.le_of_ble_eq_true rfl) (fun v3 M4 => ?_)
    refine AW.istore_n (pc := 13) [1, 2, 3, 0] [(0, .ref (ad E this)), (1, .int x1), (2, .int x2), (3, .int v3)] dX1_add_13 rfl (by decide) rfl ?_
    refine AW.iload_n (pc := 14) dX1_add_14 rfl 3 rfl ?_
    refine AW.if_ne (pc := 15) 40 dX1_add_15 (by decide) (fun h5 => ?_) (fun h5 => ?_)
    · refine AW.aload_n (pc := 18) dX1_add_18 rfl 0 rfl ?_
      refine AW.chk (fun g6 => ?_)
      refine AW.getR (pc := 19) dX1_add_19 flX1_17 hthis (kct hthis rfl hct) g6 ?_
      refine AW.aload_n (pc := 22) dX1_add_22 rfl 0 rfl ?_
      refine AW.getI (pc := 23) dX1_add_23 flX1_7 hthis (kct hthis rfl hct) ?_
      refine AW.iload_n (pc := 26) dX1_add_26 rfl 1 rfl ?_
      refine AW.cN3v (pc := 27) dX1_add_27 nlX1_26 mbX11_put (fun _ => okR_N (by omega)) (kX11_put l E (n - 1) (by omega) ct hct ex (mR M4 this 1) (mI M4 this 2) x1 M4) (Nat.le_of_ble_eq_true rfl) (fun _ M7 => ?_)
      refine AW.aload_n (pc := 30) dX1_add_30 rfl 0 rfl ?_
      refine AW.dup (pc := 31) dX1_add_31 rfl ?_
      refine AW.getI (pc := 32) dX1_add_32 flX1_7 hthis (kct hthis rfl hct) ?_
      refine AW.iconst (pc := 35) dX1_add_35 ci_1 ?_
      refine AW.iadd (pc := 36) dX1_add_36 ?_
      refine AW.putI (pc := 37) dX1_add_37 flX1_7 hthis (kct hthis rfl hct) ?_
      refine AW.genM (fun M8 => ?_)
      exact kX1_add_B40 l E n hn ct hct ex this x1 x2 v3 M8 hthis
    · exact kX1_add_B40 l E n hn ct hct ex this x1 x2 v3 M4 hthis
-- GateBox$Walk.begin(I)V
def zX10_begin (this : Nat) (x1 : Int32) (M : Mem) : Option (Unit × Mem) :=
  if K0 this = (0, 10) then
  lt (sL M this 3 0) fun M1 =>
  lt (sL M1 this 4 0) fun M2 =>
  if mR M2 this 1 ≠ 0 then
  if K0 (mR M2 this 1) = (0, 1) then
  bnd (zX1_clear (mR M2 this 1) M2) fun _ M4 =>
  if mR M4 this 1 ≠ 0 then
  if K0 (mR M4 this 1) = (0, 1) then
  bnd (zX1_add (mR M4 this 1) x1 1000000000 M4) fun _ M7 =>
  some ((), M7)
  else none
  else none
  else none
  else none
  else none
set_option maxRecDepth 20000 in
set_option maxHeartbeats 4000000 in
theorem kX10_begin (l : Launch) (E : Ev) (n : Nat) (hn : 3 ≤ n) (ct : Nat) (hct : 111 ≤ ct) (ex : Bool) (this : Nat) (x1 : Int32) (M : Mem) : AM l E n ct ex yX10_begin fX10_begin enU [.ref (ad E this), .int x1] M (zX10_begin this x1 M) := by
  unfold zX10_begin
  refine AM.of (by decide +kernel) ⟨rfl, rfl, rfl⟩ (Nat.le_of_ble_eq_true rfl) ?_
  refine AW.chk (fun hthis => ?_)
  refine AW.aload_n (pc := 0) dX10_begin_0 rfl 0 rfl ?_
  refine AW.lconst (pc := 1) dX10_begin_1 cl_0 ?_
  refine AW.putL (pc := 2) dX10_begin_2 flX10_23 hthis (kct hthis rfl hct) ?_
  refine AW.genM (fun M1 => ?_)
  refine AW.aload_n (pc := 5) dX10_begin_5 rfl 0 rfl ?_
  refine AW.lconst (pc := 6) dX10_begin_6 cl_0 ?_
  refine AW.putL (pc := 7) dX10_begin_7 flX10_27 hthis (kct hthis rfl hct) ?_
  refine AW.genM (fun M2 => ?_)
  refine AW.aload_n (pc := 10) dX10_begin_10 rfl 0 rfl ?_
  refine AW.chk (fun g3 => ?_)
  refine AW.getR (pc := 11) dX10_begin_11 flX10_14 hthis (kct hthis rfl hct) g3 ?_
  refine AW.chk (fun g5 => ?_)
  refine AW.cV0v (pc := 14) dX10_begin_14 mlX10_34 mbX1_clear rfl g5 (kct g5 rfl hct) (fun _ => okR_N (by omega)) (kX1_clear l E (n - 1) (by omega) ct hct ex (mR M2 this 1) M2) (Nat.le_of_ble_eq_true rfl) (fun _ M4 => ?_)
  refine AW.aload_n (pc := 17) dX10_begin_17 rfl 0 rfl ?_
  refine AW.chk (fun g6 => ?_)
  refine AW.getR (pc := 18) dX10_begin_18 flX10_14 hthis (kct hthis rfl hct) g6 ?_
  refine AW.iload_n (pc := 21) dX10_begin_21 rfl 1 rfl ?_
  refine AW.ldc (pc := 22) dX10_begin_22 ccX10_37 ?_
  refine AW.chk (fun g8 => ?_)
  refine AW.cV2v (pc := 24) dX10_begin_24 mlX10_38 mbX1_add rfl g8 (kct g8 rfl hct) (fun _ => okR_N (by omega)) (kX1_add l E (n - 1) (by omega) ct hct ex (mR M4 this 1) x1 1000000000 M4) (Nat.le_of_ble_eq_true rfl) (fun _ M7 => ?_)
  exact AW.vret (pc := 27) dX10_begin_27 rfl (fun _ _ _ => rfl) (Nat.le_refl _) (Nat.le_refl _)
-- GateBox$Cases.placeOf(I)I
def zX1_placeOf (this : Nat) (x1 : Int32) (M : Mem) : Option (Int32 × Mem) :=
  if K0 this = (0, 1) then
  if mR M this 1 ≠ 0 then
  bnd (zX11_at (mR M this 1) x1 M) fun v2 M3 =>
  some (v2, M3)
  else none
  else none
set_option maxRecDepth 20000 in
set_option maxHeartbeats 4000000 in
theorem kX1_placeOf (l : Launch) (E : Ev) (n : Nat) (hn : 2 ≤ n) (ct : Nat) (hct : 111 ≤ ct) (ex : Bool) (this : Nat) (x1 : Int32) (M : Mem) : AM l E n ct ex yX1_placeOf fX1_placeOf enI [.ref (ad E this), .int x1] M (zX1_placeOf this x1 M) := by
  unfold zX1_placeOf
  refine AM.of (by decide +kernel) ⟨rfl, rfl, rfl⟩ (Nat.le_of_ble_eq_true rfl) ?_
  refine AW.chk (fun hthis => ?_)
  refine AW.aload_n (pc := 0) dX1_placeOf_0 rfl 0 rfl ?_
  refine AW.chk (fun g1 => ?_)
  refine AW.getR (pc := 1) dX1_placeOf_1 flX1_17 hthis (kct hthis rfl hct) g1 ?_
  refine AW.iload_n (pc := 4) dX1_placeOf_4 rfl 1 rfl ?_
  refine AW.cN2i (pc := 5) dX1_placeOf_5 nlX1_20 mbX11_at (fun _ => okR_N (by omega)) (kX11_at l E (n - 1) (by omega) ct hct ex (mR M this 1) x1 M) (Nat.le_of_ble_eq_true rfl) (fun v2 M3 => ?_)
  exact AW.iret (pc := 8) dX1_placeOf_8 rfl (fun _ _ _ => rfl) (Nat.le_refl _) (Nat.le_refl _)
-- GateBox$Cases.amountOf(I)I
def zX1_amountOf (this : Nat) (x1 : Int32) (M : Mem) : Option (Int32 × Mem) :=
  if K0 this = (0, 1) then
  if mR M this 0 ≠ 0 then
  bnd (zX11_at (mR M this 0) x1 M) fun v2 M3 =>
  some (v2, M3)
  else none
  else none
set_option maxRecDepth 20000 in
set_option maxHeartbeats 4000000 in
theorem kX1_amountOf (l : Launch) (E : Ev) (n : Nat) (hn : 2 ≤ n) (ct : Nat) (hct : 111 ≤ ct) (ex : Bool) (this : Nat) (x1 : Int32) (M : Mem) : AM l E n ct ex yX1_amountOf fX1_amountOf enI [.ref (ad E this), .int x1] M (zX1_amountOf this x1 M) := by
  unfold zX1_amountOf
  refine AM.of (by decide +kernel) ⟨rfl, rfl, rfl⟩ (Nat.le_of_ble_eq_true rfl) ?_
  refine AW.chk (fun hthis => ?_)
  refine AW.aload_n (pc := 0) dX1_amountOf_0 rfl 0 rfl ?_
  refine AW.chk (fun g1 => ?_)
  refine AW.getR (pc := 1) dX1_amountOf_1 flX1_13 hthis (kct hthis rfl hct) g1 ?_
  refine AW.iload_n (pc := 4) dX1_amountOf_4 rfl 1 rfl ?_
  refine AW.cN2i (pc := 5) dX1_amountOf_5 nlX1_20 mbX11_at (fun _ => okR_N (by omega)) (kX11_at l E (n - 1) (by omega) ct hct ex (mR M this 0) x1 M) (Nat.le_of_ble_eq_true rfl) (fun v2 M3 => ?_)
  exact AW.iret (pc := 8) dX1_amountOf_8 rfl (fun _ _ _ => rfl) (Nat.le_refl _) (Nat.le_refl _)
-- GateBox$Rules.partOf(III)I
def zX8_partOf (this : Nat) (x1 : Int32) (x2 : Int32) (x3 : Int32) (M : Mem) : Option (Int32 × Mem) :=
  if K0 this = (0, 8) then
  if x1 = ((mI M this 0) - 1) then
    some (x3, M)
  else
    if 0 < (mI M this 1) then
      if mR M this 7 ≠ 0 then
      bnd (zX11_at (mR M this 7) x1 M) fun v4 M5 =>
      if ¬ (Int32.toInt64 (mI M5 this 1)) = 0 then
      some (Int64.toInt32 (((Int32.toInt64 v4) * (Int32.toInt64 x2)) / (Int32.toInt64 (mI M5 this 1))), M5)
      else none
      else none
    else
      some (x3, M)
  else none
set_option maxRecDepth 20000 in
set_option maxHeartbeats 4000000 in
theorem kX8_partOf (l : Launch) (E : Ev) (n : Nat) (hn : 2 ≤ n) (ct : Nat) (hct : 111 ≤ ct) (ex : Bool) (this : Nat) (x1 : Int32) (x2 : Int32) (x3 : Int32) (M : Mem) : AM l E n ct ex yX8_partOf fX8_partOf enI [.ref (ad E this), .int x1, .int x2, .int x3] M (zX8_partOf this x1 x2 x3 M) := by
  unfold zX8_partOf
  refine AM.of (by decide +kernel) ⟨rfl, rfl, rfl⟩ (Nat.le_of_ble_eq_true rfl) ?_
  refine AW.chk (fun hthis => ?_)
  refine AW.iload_n (pc := 0) dX8_partOf_0 rfl 1 rfl ?_
  refine AW.aload_n (pc := 1) dX8_partOf_1 rfl 0 rfl ?_
  refine AW.getI (pc := 2) dX8_partOf_2 flX8_9 hthis (kct hthis rfl hct) ?_
  refine AW.iconst (pc := 5) dX8_partOf_5 ci_1 ?_
  refine AW.isub (pc := 6) dX8_partOf_6 ?_
  refine AW.icmp_eq (pc := 7) 17 dX8_partOf_7 (by decide) (fun h1 => ?_) (fun h1 => ?_)
  · refine AW.iload_n (pc := 17) dX8_partOf_17 rfl 3 rfl ?_
    exact AW.iret (pc := 18) dX8_partOf_18 rfl (fun _ _ _ => rfl) (Nat.le_refl _) (Nat.le_refl _)
  · refine AW.aload_n (pc := 10) dX8_partOf_10 rfl 0 rfl ?_
    refine AW.getI (pc := 11) dX8_partOf_11 flX8_15 hthis (kct hthis rfl hct) ?_
    refine AW.if_gt (pc := 14) 19 dX8_partOf_14 (by decide) (fun h2 => ?_) (fun h2 => ?_)
    · refine AW.aload_n (pc := 19) dX8_partOf_19 rfl 0 rfl ?_
      refine AW.chk (fun g3 => ?_)
      refine AW.getR (pc := 20) dX8_partOf_20 flX8_33 hthis (kct hthis rfl hct) g3 ?_
      refine AW.iload_n (pc := 23) dX8_partOf_23 rfl 1 rfl ?_
      refine AW.cN2i (pc := 24) dX8_partOf_24 nlX8_79 mbX11_at (fun _ => okR_N (by omega)) (kX11_at l E (n - 1) (by omega) ct hct ex (mR M this 7) x1 M) (Nat.le_of_ble_eq_true rfl) (fun v4 M5 => ?_)
      refine AW.i2l (pc := 27) dX8_partOf_27 ?_
      refine AW.iload_n (pc := 28) dX8_partOf_28 rfl 2 rfl ?_
      refine AW.i2l (pc := 29) dX8_partOf_29 ?_
      refine AW.lmul (pc := 30) dX8_partOf_30 ?_
      refine AW.aload_n (pc := 31) dX8_partOf_31 rfl 0 rfl ?_
      refine AW.getI (pc := 32) dX8_partOf_32 flX8_15 hthis (kct hthis rfl hct) ?_
      refine AW.i2l (pc := 35) dX8_partOf_35 ?_
      refine AW.chk (fun g6 => ?_)
      refine AW.ldiv (pc := 36) dX8_partOf_36 g6 ?_
      refine AW.l2i (pc := 37) dX8_partOf_37 ?_
      exact AW.iret (pc := 38) dX8_partOf_38 rfl (fun _ _ _ => rfl) (Nat.le_refl _) (Nat.le_refl _)
    · refine AW.iload_n (pc := 17) dX8_partOf_17 rfl 3 rfl ?_
      exact AW.iret (pc := 18) dX8_partOf_18 rfl (fun _ _ _ => rfl) (Nat.le_refl _) (Nat.le_refl _)
-- GateBox$Walk.share(I)V
def zX10_share_B126 (KK23 : Nat → Int32 → Int32 → Nat → Int32 → Int32 → Mem → Option (Unit × Mem)) (this : Nat) (x1 : Int32) (x2 : Int32) (x3 : Nat) (x4 : Int32) (x5 : Int32) (M : Mem) : Option (Unit × Mem) :=
  KK23 this x1 x2 x3 x4 (x5 + 1) M
def zX10_share_B23 (KK23 : Nat → Int32 → Int32 → Nat → Int32 → Int32 → Mem → Option (Unit × Mem)) (this : Nat) (x1 : Int32) (x2 : Int32) (x3 : Nat) (x4 : Int32) (x5 : Int32) (M : Mem) : Option (Unit × Mem) :=
  if K0 x3 = (0, 8) then
  if (mI M x3 0) ≤ x5 then
    some ((), M)
  else
    bnd (zX8_partOf x3 x5 x2 x4 M) fun v3 M4 =>
    lt (x4 - v3) fun v5 =>
    if mR M4 this 0 ≠ 0 then
    if K0 (mR M4 this 0) = (0, 5) then
    bnd (zX5_giftAt (mR M4 this 0) x5 x1 0 M4) fun v7 M8 =>
    if v7 = (-1) then
      lt (sL M8 this 4 ((mL M8 this 4) + (Int32.toInt64 v3))) fun M11 =>
      if mR M11 this 2 ≠ 0 then
      if K0 (mR M11 this 2) = (0, 1) then
      bnd (zX1_add (mR M11 this 2) x1 v3 M11) fun _ M13 =>
      zX10_share_B126 KK23 this x1 x2 x3 v5 x5 M13
      else none
      else none
    else
      lt (sL M8 this 3 ((mL M8 this 3) + ((Int32.toInt64 v3) * (Int32.toInt64 v7)))) fun M15 =>
      if mR M15 this 2 ≠ 0 then
      bnd (zX8_stateBehind x3 x1 v7 M15) fun v17 M18 =>
      if K0 (mR M15 this 2) = (0, 1) then
      bnd (zX1_add (mR M15 this 2) v17 v3 M18) fun _ M19 =>
      zX10_share_B126 KK23 this x1 x2 x3 v5 x5 M19
      else none
      else none
    else none
    else none
  else none
def zX10_share_L23 : Nat → Nat → Int32 → Int32 → Nat → Int32 → Int32 → Mem → Option (Unit × Mem)
  | 0 => fun _ _ _ _ _ _ _ => none
  | k + 1 => zX10_share_B23 (zX10_share_L23 k)
def zX10_share (this : Nat) (x1 : Int32) (M : Mem) : Option (Unit × Mem) :=
  if K0 this = (0, 10) then
  if mR M this 1 ≠ 0 then
  if K0 (mR M this 1) = (0, 1) then
  bnd (zX1_amountOf (mR M this 1) x1 M) fun v2 M3 =>
  if mR M3 this 0 ≠ 0 then
  if K0 (mR M3 this 0) = (0, 5) then
  if mR M3 (mR M3 this 0) 0 ≠ 0 then
  zX10_share_L23 FU this x1 v2 (mR M3 (mR M3 this 0) 0) v2 0 M3
  else none
  else none
  else none
  else none
  else none
  else none
set_option maxRecDepth 20000 in
set_option maxHeartbeats 4000000 in
theorem kX10_share_B126 (l : Launch) (E : Ev) (n : Nat) (hn : 4 ≤ n) (ct : Nat) (hct : 111 ≤ ct) (ex : Bool) (KK23 : Nat → Int32 → Int32 → Nat → Int32 → Int32 → Mem → Option (Unit × Mem)) (hKK23 : ∀ (this : Nat) (x1 : Int32) (x2 : Int32) (x3 : Nat) (x4 : Int32) (x5 : Int32) (M : Mem) (_ : K0 this = (0, 10)), AW l E fX10_share (fun _ => rmN n 0 0) (PQr E 0 0 ct ex enU) ct ex 0 0 23 [(0, .ref (ad E this)), (1, .int x1), (2, .int x2), (3, .ref (ad E x3)), (4, .int x4), (5, .int x5)] [] M (KK23 this x1 x2 x3 x4 x5 M)) (this : Nat) (x1 : Int32) (x2 : Int32) (x3 : Nat) (x4 : Int32) (x5 : Int32) (M : Mem) (hthis : K0 this = (0, 10)) : AW l E fX10_share (fun _ => rmN n 0 0) (PQr E 0 0 ct ex enU) ct ex 0 0 126 [(0, .ref (ad E this)), (1, .int x1), (2, .int x2), (3, .ref (ad E x3)), (4, .int x4), (5, .int x5)] [] M (zX10_share_B126 KK23 this x1 x2 x3 x4 x5 M) := by
  unfold zX10_share_B126
  refine AW.iinc (pc := 126) (w := 5) [1, 2, 3, 4, 5, 0] [(0, .ref (ad E this)), (1, .int x1), (2, .int x2), (3, .ref (ad E x3)), (4, .int x4), (5, .int (x5 + 1))] dX10_share_126 rfl (inc_1 _) (by decide) rfl ?_
  refine AW.goto (pc := 129) 23 dX10_share_129 (by decide) ?_
  exact hKK23 this x1 x2 x3 x4 (x5 + 1) M hthis
set_option maxRecDepth 20000 in
set_option maxHeartbeats 4000000 in
theorem kX10_share_B23 (l : Launch) (E : Ev) (n : Nat) (hn : 4 ≤ n) (ct : Nat) (hct : 111 ≤ ct) (ex : Bool) (KK23 : Nat → Int32 → Int32 → Nat → Int32 → Int32 → Mem → Option (Unit × Mem)) (hKK23 : ∀ (this : Nat) (x1 : Int32) (x2 : Int32) (x3 : Nat) (x4 : Int32) (x5 : Int32) (M : Mem) (_ : K0 this = (0, 10)), AW l E fX10_share (fun _ => rmN n 0 0) (PQr E 0 0 ct ex enU) ct ex 0 0 23 [(0, .ref (ad E this)), (1, .int x1), (2, .int x2), (3, .ref (ad E x3)), (4, .int x4), (5, .int x5)] [] M (KK23 this x1 x2 x3 x4 x5 M)) (this : Nat) (x1 : Int32) (x2 : Int32) (x3 : Nat) (x4 : Int32) (x5 : Int32) (M : Mem) (hthis : K0 this = (0, 10)) : AW l E fX10_share (fun _ => rmN n 0 0) (PQr E 0 0 ct ex enU) ct ex 0 0 23 [(0, .ref (ad E this)), (1, .int x1), (2, .int x2), (3, .ref (ad E x3)), (4, .int x4), (5, .int x5)] [] M (zX10_share_B23 KK23 this x1 x2 x3 x4 x5 M) := by
  unfold zX10_share_B23
  refine AW.iload (pc := 23) dX10_share_23 5 rfl ?_
  refine AW.aload_n (pc := 25) dX10_share_25 rfl 3 rfl ?_
  refine AW.chk (fun g1 => ?_)
  refine AW.getI (pc := 26) dX10_share_26 flX10_48 g1 (kct g1 rfl hct) ?_
  refine AW.icmp_ge (pc := 29) 132 dX10_share_29 (by decide) (fun h2 => ?_) (fun h2 => ?_)
  · exact AW.vret (pc := 132) dX10_share_132 rfl (fun _ _ _ => rfl) (Nat.le_refl _) (Nat.le_refl _)
  · refine AW.aload_n (pc := 32) dX10_share_32 rfl 3 rfl ?_
    refine AW.iload (pc := 33) dX10_share_33 5 rfl ?_
    refine AW.iload_n (pc := 35) dX10_share_35 rfl 2 rfl ?_
    refine AW.iload (pc := 36) dX10_share_36 4 rfl ?_
    refine AW.cV3i (pc := 38) dX10_share_38 mlX10_80 mbX8_partOf rfl g1 (kct g1 rfl hct) (fun _ => okR_N (by omega)) (kX8_partOf l E (n - 1) (by omega) ct hct ex x3 x5 x2 x4 M) (Nat.le_of_ble_eq_true rfl) (fun v3 M4 => ?_)
    refine AW.istore (pc := 41) [1, 2, 3, 4, 5, 6, 0] [(0, .ref (ad E this)), (1, .int x1), (2, .int x2), (3, .ref (ad E x3)), (4, .int x4), (5, .int x5), (6, .int v3)] dX10_share_41 (by decide) rfl ?_
    refine AW.iload (pc := 43) dX10_share_43 4 rfl ?_
    refine AW.iload (pc := 45) dX10_share_45 6 rfl ?_
    refine AW.isub (pc := 47) dX10_share_47 ?_
    refine AW.genI (fun v5 => ?_)
    refine AW.istore (pc := 48) [1, 2, 3, 4, 0, 5, 6] [(0, .ref (ad E this)), (1, .int x1), (2, .int x2), (3, .ref (ad E x3)), (4, .int v5), (5, .int x5), (6, .int v3)] dX10_share_48 (by decide) rfl ?_
    refine AW.aload_n (pc := 50) dX10_share_50 rfl 0 rfl ?_
    refine AW.chk (fun g6 => ?_)
    refine AW.getR (pc := 51) dX10_share_51 flX10_30 hthis (kct hthis rfl hct) g6 ?_
    refine AW.iload (pc := 54) dX10_share_54 5 rfl ?_
    refine AW.iload_n (pc := 56) dX10_share_56 rfl 1 rfl ?_
    refine AW.iconst (pc := 57) dX10_share_57 ci_0 ?_
    refine AW.chk (fun g9 => ?_)
    refine AW.cV3i (pc := 58) dX10_share_58 mlX10_84 mbX5_giftAt rfl g9 (kct g9 rfl hct) (fun _ => okR_N (by omega)) (kX5_giftAt l E (n - 1) (by omega) ct hct ex (mR M4 this 0) x5 x1 0 M4) (Nat.le_of_ble_eq_true rfl) (fun v7 M8 => ?_)
    refine AW.istore (pc := 61) [1, 2, 3, 4, 5, 6, 7, 0] [(0, .ref (ad E this)), (1, .int x1), (2, .int x2), (3, .ref (ad E x3)), (4, .int v5), (5, .int x5), (6, .int v3), (7, .int v7)] dX10_share_61 (by decide) rfl ?_
    refine AW.iload (pc := 63) dX10_share_63 7 rfl ?_
    refine AW.iconst (pc := 65) dX10_share_65 ci_m1 ?_
    refine AW.icmp_ne (pc := 66) 94 dX10_share_66 (by decide) (fun h10 => ?_) (fun h10 => ?_)
    · refine AW.aload_n (pc := 69) dX10_share_69 rfl 0 rfl ?_
      refine AW.dup (pc := 70) dX10_share_70 rfl ?_
      refine AW.getL (pc := 71) dX10_share_71 flX10_27 hthis (kct hthis rfl hct) ?_
      refine AW.iload (pc := 74) dX10_share_74 6 rfl ?_
      refine AW.i2l (pc := 76) dX10_share_76 ?_
      refine AW.ladd (pc := 77) dX10_share_77 ?_
      refine AW.putL (pc := 78) dX10_share_78 flX10_27 hthis (kct hthis rfl hct) ?_
      refine AW.genM (fun M11 => ?_)
      refine AW.aload_n (pc := 81) dX10_share_81 rfl 0 rfl ?_
      refine AW.chk (fun g12 => ?_)
      refine AW.getR (pc := 82) dX10_share_82 flX10_20 hthis (kct hthis rfl hct) g12 ?_
      refine AW.iload_n (pc := 85) dX10_share_85 rfl 1 rfl ?_
      refine AW.iload (pc := 86) dX10_share_86 6 rfl ?_
      refine AW.chk (fun g14 => ?_)
      refine AW.cV2v (pc := 88) dX10_share_88 mlX10_38 mbX1_add rfl g14 (kct g14 rfl hct) (fun _ => okR_N (by omega)) (kX1_add l E (n - 1) (by omega) ct hct ex (mR M11 this 2) x1 v3 M11) (Nat.le_of_ble_eq_true rfl) (fun _ M13 => ?_)
      refine AW.goto (pc := 91) 126 dX10_share_91 (by decide) ?_
      exact AW.sub [0, 1, 2, 3, 4, 5] rfl (kX10_share_B126 l E n hn ct hct ex KK23 hKK23 this x1 x2 x3 v5 x5 M13 hthis)
    · refine AW.aload_n (pc := 94) dX10_share_94 rfl 0 rfl ?_
      refine AW.dup (pc := 95) dX10_share_95 rfl ?_
      refine AW.getL (pc := 96) dX10_share_96 flX10_23 hthis (kct hthis rfl hct) ?_
      refine AW.iload (pc := 99) dX10_share_99 6 rfl ?_
      refine AW.i2l (pc := 101) dX10_share_101 ?_
      refine AW.iload (pc := 102) dX10_share_102 7 rfl ?_
      refine AW.i2l (pc := 104) dX10_share_104 ?_
      refine AW.lmul (pc := 105) dX10_share_105 ?_
      refine AW.ladd (pc := 106) dX10_share_106 ?_
      refine AW.putL (pc := 107) dX10_share_107 flX10_23 hthis (kct hthis rfl hct) ?_
      refine AW.genM (fun M15 => ?_)
      refine AW.aload_n (pc := 110) dX10_share_110 rfl 0 rfl ?_
      refine AW.chk (fun g16 => ?_)
      refine AW.getR (pc := 111) dX10_share_111 flX10_20 hthis (kct hthis rfl hct) g16 ?_
      refine AW.aload_n (pc := 114) dX10_share_114 rfl 3 rfl ?_
      refine AW.iload_n (pc := 115) dX10_share_115 rfl 1 rfl ?_
      refine AW.iload (pc := 116) dX10_share_116 7 rfl ?_
      refine AW.cV2i (pc := 118) dX10_share_118 mlX10_87 mbX8_stateBehind rfl g1 (kct g1 rfl hct) (fun _ => okR_N (by omega)) (kX8_stateBehind l E (n - 1) (by omega) ct hct ex x3 x1 v7 M15) (Nat.le_of_ble_eq_true rfl) (fun v17 M18 => ?_)
      refine AW.iload (pc := 121) dX10_share_121 6 rfl ?_
      refine AW.chk (fun g20 => ?_)
      refine AW.cV2v (pc := 123) dX10_share_123 mlX10_38 mbX1_add rfl g20 (kct g20 rfl hct) (fun _ => okR_N (by omega)) (kX1_add l E (n - 1) (by omega) ct hct ex (mR M15 this 2) v17 v3 M18) (Nat.le_of_ble_eq_true rfl) (fun _ M19 => ?_)
      exact AW.sub [0, 1, 2, 3, 4, 5] rfl (kX10_share_B126 l E n hn ct hct ex KK23 hKK23 this x1 x2 x3 v5 x5 M19 hthis)
set_option maxRecDepth 20000 in
set_option maxHeartbeats 4000000 in
theorem kX10_share_L23 (l : Launch) (E : Ev) (n : Nat) (hn : 4 ≤ n) (ct : Nat) (hct : 111 ≤ ct) (ex : Bool) (k : Nat) : ∀ (this : Nat) (x1 : Int32) (x2 : Int32) (x3 : Nat) (x4 : Int32) (x5 : Int32) (M : Mem) (_ : K0 this = (0, 10)), AW l E fX10_share (fun _ => rmN n 0 0) (PQr E 0 0 ct ex enU) ct ex 0 0 23 [(0, .ref (ad E this)), (1, .int x1), (2, .int x2), (3, .ref (ad E x3)), (4, .int x4), (5, .int x5)] [] M (zX10_share_L23 k this x1 x2 x3 x4 x5 M) := by
  induction k with
  | zero => intro this x1 x2 x3 x4 x5 M _; exact AW.none
  | succ k ih =>
    intro this x1 x2 x3 x4 x5 M hthis
    exact kX10_share_B23 l E n hn ct hct ex (zX10_share_L23 k) ih this x1 x2 x3 x4 x5 M hthis
set_option maxRecDepth 20000 in
set_option maxHeartbeats 4000000 in
theorem kX10_share (l : Launch) (E : Ev) (n : Nat) (hn : 4 ≤ n) (ct : Nat) (hct : 111 ≤ ct) (ex : Bool) (this : Nat) (x1 : Int32) (M : Mem) : AM l E n ct ex yX10_share fX10_share enU [.ref (ad E this), .int x1] M (zX10_share this x1 M) := by
  unfold zX10_share
  refine AM.of (by decide +kernel) ⟨rfl, rfl, rfl⟩ (Nat.le_of_ble_eq_true rfl) ?_
  refine AW.chk (fun hthis => ?_)
  refine AW.aload_n (pc := 0) dX10_share_0 rfl 0 rfl ?_
  refine AW.chk (fun g1 => ?_)
  refine AW.getR (pc := 1) dX10_share_1 flX10_14 hthis (kct hthis rfl hct) g1 ?_
  refine AW.iload_n (pc := 4) dX10_share_4 rfl 1 rfl ?_
  refine AW.chk (fun g4 => ?_)
  refine AW.cV1i (pc := 5) dX10_share_5 mlX10_77 mbX1_amountOf rfl g4 (kct g4 rfl hct) (fun _ => okR_N (by omega)) (kX1_amountOf l E (n - 1) (by omega) ct hct ex (mR M this 1) x1 M) (Nat.le_of_ble_eq_true rfl) (fun v2 M3 => ?_)
  refine AW.istore_n (pc := 8) [1, 2, 0] [(0, .ref (ad E this)), (1, .int x1), (2, .int v2)] dX10_share_8 rfl (by decide) rfl ?_
  refine AW.aload_n (pc := 9) dX10_share_9 rfl 0 rfl ?_
  refine AW.chk (fun g5 => ?_)
  refine AW.getR (pc := 10) dX10_share_10 flX10_30 hthis (kct hthis rfl hct) g5 ?_
  refine AW.chk (fun g6 => ?_)
  refine AW.chk (fun g7 => ?_)
  refine AW.getR (pc := 13) dX10_share_13 flX10_42 g6 (kct g6 rfl hct) g7 ?_
  refine AW.astore_n (pc := 16) [1, 2, 3, 0] [(0, .ref (ad E this)), (1, .int x1), (2, .int v2), (3, .ref (ad E (mR M3 (mR M3 this 0) 0)))] dX10_share_16 rfl (by decide) rfl ?_
  refine AW.iload_n (pc := 17) dX10_share_17 rfl 2 rfl ?_
  refine AW.istore (pc := 18) [1, 2, 3, 4, 0] [(0, .ref (ad E this)), (1, .int x1), (2, .int v2), (3, .ref (ad E (mR M3 (mR M3 this 0) 0))), (4, .int v2)] dX10_share_18 (by decide) rfl ?_
  refine AW.iconst (pc := 20) dX10_share_20 ci_0 ?_
  refine AW.istore (pc := 21) [1, 2, 3, 4, 5, 0] [(0, .ref (ad E this)), (1, .int x1), (2, .int v2), (3, .ref (ad E (mR M3 (mR M3 this 0) 0))), (4, .int v2), (5, .int 0)] dX10_share_21 (by decide) rfl ?_
  exact kX10_share_L23 l E n hn ct hct ex FU this x1 v2 (mR M3 (mR M3 this 0) 0) v2 0 M3 hthis
-- GateBox$Walk.comesOne()V
def zX10_comesOne_B9 (KK9 : Nat → Int32 → Mem → Option (Unit × Mem)) (this : Nat) (x1 : Int32) (M : Mem) : Option (Unit × Mem) :=
  if mR M this 1 ≠ 0 then
  if K0 (mR M this 1) = (0, 1) then
  if (mI M (mR M this 1) 2) ≤ x1 then
    if mR M this 2 ≠ 0 then
    lt (sR M this 1 (mR M this 2)) fun M5 =>
    lt (sR M5 this 2 (mR M this 1)) fun M6 =>
    some ((), M6)
    else none
  else
    bnd (zX1_placeOf (mR M this 1) x1 M) fun v7 M8 =>
    bnd (zX10_share this v7 M8) fun _ M9 =>
    KK9 this (x1 + 1) M9
  else none
  else none
def zX10_comesOne_L9 : Nat → Nat → Int32 → Mem → Option (Unit × Mem)
  | 0 => fun _ _ _ => none
  | k + 1 => zX10_comesOne_B9 (zX10_comesOne_L9 k)
def zX10_comesOne (this : Nat) (M : Mem) : Option (Unit × Mem) :=
  if K0 this = (0, 10) then
  if mR M this 2 ≠ 0 then
  if K0 (mR M this 2) = (0, 1) then
  bnd (zX1_clear (mR M this 2) M) fun _ M2 =>
  zX10_comesOne_L9 FU this 0 M2
  else none
  else none
  else none
set_option maxRecDepth 20000 in
set_option maxHeartbeats 4000000 in
theorem kX10_comesOne_B9 (l : Launch) (E : Ev) (n : Nat) (hn : 5 ≤ n) (ct : Nat) (hct : 111 ≤ ct) (ex : Bool) (KK9 : Nat → Int32 → Mem → Option (Unit × Mem)) (hKK9 : ∀ (this : Nat) (x1 : Int32) (M : Mem) (_ : K0 this = (0, 10)), AW l E fX10_comesOne (fun _ => rmN n 0 0) (PQr E 0 0 ct ex enU) ct ex 0 0 9 [(0, .ref (ad E this)), (1, .int x1)] [] M (KK9 this x1 M)) (this : Nat) (x1 : Int32) (M : Mem) (hthis : K0 this = (0, 10)) : AW l E fX10_comesOne (fun _ => rmN n 0 0) (PQr E 0 0 ct ex enU) ct ex 0 0 9 [(0, .ref (ad E this)), (1, .int x1)] [] M (zX10_comesOne_B9 KK9 this x1 M) := by
  unfold zX10_comesOne_B9
  refine AW.iload_n (pc := 9) dX10_comesOne_9 rfl 1 rfl ?_
  refine AW.aload_n (pc := 10) dX10_comesOne_10 rfl 0 rfl ?_
  refine AW.chk (fun g1 => ?_)
  refine AW.getR (pc := 11) dX10_comesOne_11 flX10_14 hthis (kct hthis rfl hct) g1 ?_
  refine AW.chk (fun g2 => ?_)
  refine AW.getI (pc := 14) dX10_comesOne_14 flX10_67 g2 (kct g2 rfl hct) ?_
  refine AW.icmp_ge (pc := 17) 38 dX10_comesOne_17 (by decide) (fun h3 => ?_) (fun h3 => ?_)
  · refine AW.aload_n (pc := 38) dX10_comesOne_38 rfl 0 rfl ?_
    refine AW.getR (pc := 39) dX10_comesOne_39 flX10_14 hthis (kct hthis rfl hct) g1 ?_
    refine AW.astore_n (pc := 42) [1, 0] [(0, .ref (ad E this)), (1, .ref (ad E (mR M this 1)))] dX10_comesOne_42 rfl (by decide) rfl ?_
    refine AW.aload_n (pc := 43) dX10_comesOne_43 rfl 0 rfl ?_
    refine AW.aload_n (pc := 44) dX10_comesOne_44 rfl 0 rfl ?_
    refine AW.chk (fun g4 => ?_)
    refine AW.getR (pc := 45) dX10_comesOne_45 flX10_20 hthis (kct hthis rfl hct) g4 ?_
    refine AW.putR (pc := 48) dX10_comesOne_48 flX10_14 (fun h => by cases h) hthis (kct hthis rfl hct) g4 ?_
    refine AW.genM (fun M5 => ?_)
    refine AW.aload_n (pc := 51) dX10_comesOne_51 rfl 0 rfl ?_
    refine AW.aload_n (pc := 52) dX10_comesOne_52 rfl 1 rfl ?_
    refine AW.putR (pc := 53) dX10_comesOne_53 flX10_20 (fun h => by cases h) hthis (kct hthis rfl hct) g1 ?_
    refine AW.genM (fun M6 => ?_)
    exact AW.vret (pc := 56) dX10_comesOne_56 rfl (fun _ _ _ => rfl) (Nat.le_refl _) (Nat.le_refl _)
  · refine AW.aload_n (pc := 20) dX10_comesOne_20 rfl 0 rfl ?_
    refine AW.aload_n (pc := 21) dX10_comesOne_21 rfl 0 rfl ?_
    refine AW.getR (pc := 22) dX10_comesOne_22 flX10_14 hthis (kct hthis rfl hct) g1 ?_
    refine AW.iload_n (pc := 25) dX10_comesOne_25 rfl 1 rfl ?_
    refine AW.cV1i (pc := 26) dX10_comesOne_26 mlX10_70 mbX1_placeOf rfl g2 (kct g2 rfl hct) (fun _ => okR_N (by omega)) (kX1_placeOf l E (n - 1) (by omega) ct hct ex (mR M this 1) x1 M) (Nat.le_of_ble_eq_true rfl) (fun v7 M8 => ?_)
    refine AW.cV1v (pc := 29) dX10_comesOne_29 mlX10_74 mbX10_share rfl hthis (kct hthis rfl hct) (fun _ => okR_N (by omega)) (kX10_share l E (n - 1) (by omega) ct hct ex this v7 M8) (Nat.le_of_ble_eq_true rfl) (fun _ M9 => ?_)
    refine AW.iinc (pc := 32) (w := 1) [1, 0] [(0, .ref (ad E this)), (1, .int (x1 + 1))] dX10_comesOne_32 rfl (inc_1 _) (by decide) rfl ?_
    refine AW.goto (pc := 35) 9 dX10_comesOne_35 (by decide) ?_
    exact hKK9 this (x1 + 1) M9 hthis
set_option maxRecDepth 20000 in
set_option maxHeartbeats 4000000 in
theorem kX10_comesOne_L9 (l : Launch) (E : Ev) (n : Nat) (hn : 5 ≤ n) (ct : Nat) (hct : 111 ≤ ct) (ex : Bool) (k : Nat) : ∀ (this : Nat) (x1 : Int32) (M : Mem) (_ : K0 this = (0, 10)), AW l E fX10_comesOne (fun _ => rmN n 0 0) (PQr E 0 0 ct ex enU) ct ex 0 0 9 [(0, .ref (ad E this)), (1, .int x1)] [] M (zX10_comesOne_L9 k this x1 M) := by
  induction k with
  | zero => intro this x1 M _; exact AW.none
  | succ k ih =>
    intro this x1 M hthis
    exact kX10_comesOne_B9 l E n hn ct hct ex (zX10_comesOne_L9 k) ih this x1 M hthis
set_option maxRecDepth 20000 in
set_option maxHeartbeats 4000000 in
theorem kX10_comesOne (l : Launch) (E : Ev) (n : Nat) (hn : 5 ≤ n) (ct : Nat) (hct : 111 ≤ ct) (ex : Bool) (this : Nat) (M : Mem) : AM l E n ct ex yX10_comesOne fX10_comesOne enU [.ref (ad E this)] M (zX10_comesOne this M) := by
  unfold zX10_comesOne
  refine AM.of (by decide +kernel) ⟨rfl, rfl, rfl⟩ (Nat.le_of_ble_eq_true rfl) ?_
  refine AW.chk (fun hthis => ?_)
  refine AW.aload_n (pc := 0) dX10_comesOne_0 rfl 0 rfl ?_
  refine AW.chk (fun g1 => ?_)
  refine AW.getR (pc := 1) dX10_comesOne_1 flX10_20 hthis (kct hthis rfl hct) g1 ?_
  refine AW.chk (fun g3 => ?_)
  refine AW.cV0v (pc := 4) dX10_comesOne_4 mlX10_34 mbX1_clear rfl g3 (kct g3 rfl hct) (fun _ => okR_N (by omega)) (kX1_clear l E (n - 1) (by omega) ct hct ex (mR M this 2) M) (Nat.le_of_ble_eq_true rfl) (fun _ M2 => ?_)
  refine AW.iconst (pc := 7) dX10_comesOne_7 ci_0 ?_
  refine AW.istore_n (pc := 8) [1, 0] [(0, .ref (ad E this)), (1, .int 0)] dX10_comesOne_8 rfl (by decide) rfl ?_
  exact kX10_comesOne_L9 l E n hn ct hct ex FU this 0 M2 hthis
-- GateBox$Cases.isLike(LGateBox$Cases;)Z
def zX1_isLike_B15 (KK15 : Nat → Nat → Int32 → Mem → Option (Int32 × Mem)) (this : Nat) (x1 : Nat) (x2 : Int32) (M : Mem) : Option (Int32 × Mem) :=
  if (mI M this 2) ≤ x2 then
    some (1, M)
  else
    if mR M this 1 ≠ 0 then
    bnd (zX11_at (mR M this 1) x2 M) fun v3 M4 =>
    bnd (zX1_amountOf this v3 M4) fun v5 M6 =>
    if K0 x1 = (0, 1) then
    bnd (zX1_amountOf x1 v3 M6) fun v7 M8 =>
    if v5 = v7 then
      KK15 this x1 (x2 + 1) M8
    else
      some (0, M8)
    else none
    else none
def zX1_isLike_L15 : Nat → Nat → Nat → Int32 → Mem → Option (Int32 × Mem)
  | 0 => fun _ _ _ _ => none
  | k + 1 => zX1_isLike_B15 (zX1_isLike_L15 k)
def zX1_isLike (this : Nat) (x1 : Nat) (M : Mem) : Option (Int32 × Mem) :=
  if K0 this = (0, 1) then
  if K0 x1 = (0, 1) then
  if (mI M this 2) = (mI M x1 2) then
    zX1_isLike_L15 FU this x1 0 M
  else
    some (0, M)
  else none
  else none
set_option maxRecDepth 20000 in
set_option maxHeartbeats 4000000 in
theorem kX1_isLike_B15 (l : Launch) (E : Ev) (n : Nat) (hn : 3 ≤ n) (ct : Nat) (hct : 111 ≤ ct) (ex : Bool) (KK15 : Nat → Nat → Int32 → Mem → Option (Int32 × Mem)) (hKK15 : ∀ (this : Nat) (x1 : Nat) (x2 : Int32) (M : Mem) (_ : K0 this = (0, 1)), AW l E fX1_isLike (fun _ => rmN n 0 0) (PQr E 0 0 ct ex enI) ct ex 0 0 15 [(0, .ref (ad E this)), (1, .ref (ad E x1)), (2, .int x2)] [] M (KK15 this x1 x2 M)) (this : Nat) (x1 : Nat) (x2 : Int32) (M : Mem) (hthis : K0 this = (0, 1)) : AW l E fX1_isLike (fun _ => rmN n 0 0) (PQr E 0 0 ct ex enI) ct ex 0 0 15 [(0, .ref (ad E this)), (1, .ref (ad E x1)), (2, .int x2)] [] M (zX1_isLike_B15 KK15 this x1 x2 M) := by
  unfold zX1_isLike_B15
  refine AW.iload_n (pc := 15) dX1_isLike_15 rfl 2 rfl ?_
  refine AW.aload_n (pc := 16) dX1_isLike_16 rfl 0 rfl ?_
  refine AW.getI (pc := 17) dX1_isLike_17 flX1_7 hthis (kct hthis rfl hct) ?_
  refine AW.icmp_ge (pc := 20) 53 dX1_isLike_20 (by decide) (fun h1 => ?_) (fun h1 => ?_)
  · refine AW.iconst (pc := 53) dX1_isLike_53 ci_1 ?_
    exact AW.zret (pc := 54) dX1_isLike_54 rfl (Or.inr rfl) (fun _ _ _ => rfl) (Nat.le_refl _) (Nat.le_refl _)
  · refine AW.aload_n (pc := 23) dX1_isLike_23 rfl 0 rfl ?_
    refine AW.chk (fun g2 => ?_)
    refine AW.getR (pc := 24) dX1_isLike_24 flX1_17 hthis (kct hthis rfl hct) g2 ?_
    refine AW.iload_n (pc := 27) dX1_isLike_27 rfl 2 rfl ?_
    refine AW.cN2i (pc := 28) dX1_isLike_28 nlX1_20 mbX11_at (fun _ => okR_N (by omega)) (kX11_at l E (n - 1) (by omega) ct hct ex (mR M this 1) x2 M) (Nat.le_of_ble_eq_true rfl) (fun v3 M4 => ?_)
    refine AW.istore_n (pc := 31) [1, 2, 3, 0] [(0, .ref (ad E this)), (1, .ref (ad E x1)), (2, .int x2), (3, .int v3)] dX1_isLike_31 rfl (by decide) rfl ?_
    refine AW.aload_n (pc := 32) dX1_isLike_32 rfl 0 rfl ?_
    refine AW.iload_n (pc := 33) dX1_isLike_33 rfl 3 rfl ?_
    refine AW.cV1i (pc := 34) dX1_isLike_34 mlX1_30 mbX1_amountOf rfl hthis (kct hthis rfl hct) (fun _ => okR_N (by omega)) (kX1_amountOf l E (n - 1) (by omega) ct hct ex this v3 M4) (Nat.le_of_ble_eq_true rfl) (fun v5 M6 => ?_)
    refine AW.aload_n (pc := 37) dX1_isLike_37 rfl 1 rfl ?_
    refine AW.iload_n (pc := 38) dX1_isLike_38 rfl 3 rfl ?_
    refine AW.chk (fun g9 => ?_)
    refine AW.cV1i (pc := 39) dX1_isLike_39 mlX1_30 mbX1_amountOf rfl g9 (kct g9 rfl hct) (fun _ => okR_N (by omega)) (kX1_amountOf l E (n - 1) (by omega) ct hct ex x1 v3 M6) (Nat.le_of_ble_eq_true rfl) (fun v7 M8 => ?_)
    refine AW.icmp_eq (pc := 42) 47 dX1_isLike_42 (by decide) (fun h10 => ?_) (fun h10 => ?_)
    · refine AW.iinc (pc := 47) (w := 2) [1, 2, 0] [(0, .ref (ad E this)), (1, .ref (ad E x1)), (2, .int (x2 + 1))] dX1_isLike_47 rfl (inc_1 _) (by decide) rfl ?_
      refine AW.goto (pc := 50) 15 dX1_isLike_50 (by decide) ?_
      exact hKK15 this x1 (x2 + 1) M8 hthis
    · refine AW.iconst (pc := 45) dX1_isLike_45 ci_0 ?_
      exact AW.zret (pc := 46) dX1_isLike_46 rfl (Or.inl rfl) (fun _ _ _ => rfl) (Nat.le_refl _) (Nat.le_refl _)
set_option maxRecDepth 20000 in
set_option maxHeartbeats 4000000 in
theorem kX1_isLike_L15 (l : Launch) (E : Ev) (n : Nat) (hn : 3 ≤ n) (ct : Nat) (hct : 111 ≤ ct) (ex : Bool) (k : Nat) : ∀ (this : Nat) (x1 : Nat) (x2 : Int32) (M : Mem) (_ : K0 this = (0, 1)), AW l E fX1_isLike (fun _ => rmN n 0 0) (PQr E 0 0 ct ex enI) ct ex 0 0 15 [(0, .ref (ad E this)), (1, .ref (ad E x1)), (2, .int x2)] [] M (zX1_isLike_L15 k this x1 x2 M) := by
  induction k with
  | zero => intro this x1 x2 M _; exact AW.none
  | succ k ih =>
    intro this x1 x2 M hthis
    exact kX1_isLike_B15 l E n hn ct hct ex (zX1_isLike_L15 k) ih this x1 x2 M hthis
set_option maxRecDepth 20000 in
set_option maxHeartbeats 4000000 in
theorem kX1_isLike (l : Launch) (E : Ev) (n : Nat) (hn : 3 ≤ n) (ct : Nat) (hct : 111 ≤ ct) (ex : Bool) (this : Nat) (x1 : Nat) (M : Mem) : AM l E n ct ex yX1_isLike fX1_isLike enI [.ref (ad E this), .ref (ad E x1)] M (zX1_isLike this x1 M) := by
  unfold zX1_isLike
  refine AM.of (by decide +kernel) ⟨rfl, rfl, rfl⟩ (Nat.le_of_ble_eq_true rfl) ?_
  refine AW.chk (fun hthis => ?_)
  refine AW.aload_n (pc := 0) dX1_isLike_0 rfl 0 rfl ?_
  refine AW.getI (pc := 1) dX1_isLike_1 flX1_7 hthis (kct hthis rfl hct) ?_
  refine AW.aload_n (pc := 4) dX1_isLike_4 rfl 1 rfl ?_
  refine AW.chk (fun g1 => ?_)
  refine AW.getI (pc := 5) dX1_isLike_5 flX1_7 g1 (kct g1 rfl hct) ?_
  refine AW.icmp_eq (pc := 8) 13 dX1_isLike_8 (by decide) (fun h2 => ?_) (fun h2 => ?_)
  · refine AW.iconst (pc := 13) dX1_isLike_13 ci_0 ?_
    refine AW.istore_n (pc := 14) [1, 2, 0] [(0, .ref (ad E this)), (1, .ref (ad E x1)), (2, .int 0)] dX1_isLike_14 rfl (by decide) rfl ?_
    exact kX1_isLike_L15 l E n hn ct hct ex FU this x1 0 M hthis
  · refine AW.iconst (pc := 11) dX1_isLike_11 ci_0 ?_
    exact AW.zret (pc := 12) dX1_isLike_12 rfl (Or.inl rfl) (fun _ _ _ => rfl) (Nat.le_refl _) (Nat.le_refl _)
-- GateBox$Walk.go(I)V
def zX10_go_B2 (KK2 : Nat → Int32 → Int32 → Mem → Option (Unit × Mem)) (this : Nat) (x1 : Int32) (x2 : Int32) (M : Mem) : Option (Unit × Mem) :=
  if x1 < x2 then
    some ((), M)
  else
    if mR M this 0 ≠ 0 then
    if K0 (mR M this 0) = (0, 5) then
    if mR M (mR M this 0) 0 ≠ 0 then
    if K0 (mR M (mR M this 0) 0) = (0, 8) then
    if (mI M (mR M (mR M this 0) 0) 0) ≤ 0 then
      some ((), M)
    else
      lt (mL M this 3) fun v7 =>
      lt (mL M this 4) fun v8 =>
      bnd (zX10_comesOne this M) fun _ M9 =>
      if mR M9 this 1 ≠ 0 then
      if mR M9 this 2 ≠ 0 then
      if K0 (mR M9 this 1) = (0, 1) then
      bnd (zX1_isLike (mR M9 this 1) (mR M9 this 2) M9) fun v12 M13 =>
      if v12 = 0 then
        KK2 this x1 (x2 + 1) M13
      else
        lt (sL M13 this 3 ((mL M13 this 3) + ((Int32.toInt64 (x1 - x2)) * ((mL M13 this 3) - v7)))) fun M16 =>
        lt (sL M16 this 4 ((mL M16 this 4) + ((Int32.toInt64 (x1 - x2)) * ((mL M16 this 4) - v8)))) fun M17 =>
        some ((), M17)
      else none
      else none
      else none
    else none
    else none
    else none
    else none
def zX10_go_L2 : Nat → Nat → Int32 → Int32 → Mem → Option (Unit × Mem)
  | 0 => fun _ _ _ _ => none
  | k + 1 => zX10_go_B2 (zX10_go_L2 k)
def zX10_go (this : Nat) (x1 : Int32) (M : Mem) : Option (Unit × Mem) :=
  if K0 this = (0, 10) then
  zX10_go_L2 FU this x1 1 M
  else none
set_option maxRecDepth 20000 in
set_option maxHeartbeats 4000000 in
theorem kX10_go_B2 (l : Launch) (E : Ev) (n : Nat) (hn : 6 ≤ n) (ct : Nat) (hct : 111 ≤ ct) (ex : Bool) (KK2 : Nat → Int32 → Int32 → Mem → Option (Unit × Mem)) (hKK2 : ∀ (this : Nat) (x1 : Int32) (x2 : Int32) (M : Mem) (_ : K0 this = (0, 10)), AW l E fX10_go (fun _ => rmN n 0 0) (PQr E 0 0 ct ex enU) ct ex 0 0 2 [(0, .ref (ad E this)), (1, .int x1), (2, .int x2)] [] M (KK2 this x1 x2 M)) (this : Nat) (x1 : Int32) (x2 : Int32) (M : Mem) (hthis : K0 this = (0, 10)) : AW l E fX10_go (fun _ => rmN n 0 0) (PQr E 0 0 ct ex enU) ct ex 0 0 2 [(0, .ref (ad E this)), (1, .int x1), (2, .int x2)] [] M (zX10_go_B2 KK2 this x1 x2 M) := by
  unfold zX10_go_B2
  refine AW.iload_n (pc := 2) dX10_go_2 rfl 2 rfl ?_
  refine AW.iload_n (pc := 3) dX10_go_3 rfl 1 rfl ?_
  refine AW.icmp_gt (pc := 4) 97 dX10_go_4 (by decide) (fun h1 => ?_) (fun h1 => ?_)
  · exact AW.vret (pc := 97) dX10_go_97 rfl (fun _ _ _ => rfl) (Nat.le_refl _) (Nat.le_refl _)
  · refine AW.aload_n (pc := 7) dX10_go_7 rfl 0 rfl ?_
    refine AW.chk (fun g2 => ?_)
    refine AW.getR (pc := 8) dX10_go_8 flX10_30 hthis (kct hthis rfl hct) g2 ?_
    refine AW.chk (fun g3 => ?_)
    refine AW.chk (fun g4 => ?_)
    refine AW.getR (pc := 11) dX10_go_11 flX10_42 g3 (kct g3 rfl hct) g4 ?_
    refine AW.chk (fun g5 => ?_)
    refine AW.getI (pc := 14) dX10_go_14 flX10_48 g5 (kct g5 rfl hct) ?_
    refine AW.if_le (pc := 17) 97 dX10_go_17 (by decide) (fun h6 => ?_) (fun h6 => ?_)
    · exact AW.vret (pc := 97) dX10_go_97 rfl (fun _ _ _ => rfl) (Nat.le_refl _) (Nat.le_refl _)
    · refine AW.aload_n (pc := 20) dX10_go_20 rfl 0 rfl ?_
      refine AW.getL (pc := 21) dX10_go_21 flX10_23 hthis (kct hthis rfl hct) ?_
      refine AW.genL (fun v7 => ?_)
      refine AW.lstore_n (pc := 24) [1, 2, 3, 0] [(0, .ref (ad E this)), (1, .int x1), (2, .int x2), (3, .long v7)] dX10_go_24 rfl (by decide) rfl ?_
      refine AW.aload_n (pc := 25) dX10_go_25 rfl 0 rfl ?_
      refine AW.getL (pc := 26) dX10_go_26 flX10_27 hthis (kct hthis rfl hct) ?_
      refine AW.genL (fun v8 => ?_)
      refine AW.lstore (pc := 29) [1, 2, 3, 4, 0] [(0, .ref (ad E this)), (1, .int x1), (2, .int x2), (3, .long v7), (5, .long v8)] dX10_go_29 (by decide) rfl ?_
      refine AW.aload_n (pc := 31) dX10_go_31 rfl 0 rfl ?_
      refine AW.cV0v (pc := 32) dX10_go_32 mlX10_54 mbX10_comesOne rfl hthis (kct hthis rfl hct) (fun _ => okR_N (by omega)) (kX10_comesOne l E (n - 1) (by omega) ct hct ex this M) (Nat.le_of_ble_eq_true rfl) (fun _ M9 => ?_)
      refine AW.aload_n (pc := 35) dX10_go_35 rfl 0 rfl ?_
      refine AW.chk (fun g10 => ?_)
      refine AW.getR (pc := 36) dX10_go_36 flX10_14 hthis (kct hthis rfl hct) g10 ?_
      refine AW.aload_n (pc := 39) dX10_go_39 rfl 0 rfl ?_
      refine AW.chk (fun g11 => ?_)
      refine AW.getR (pc := 40) dX10_go_40 flX10_20 hthis (kct hthis rfl hct) g11 ?_
      refine AW.chk (fun g14 => ?_)
      refine AW.cV1i (pc := 43) dX10_go_43 mlX10_57 mbX1_isLike rfl g14 (kct g14 rfl hct) (fun _ => okR_N (by omega)) (kX1_isLike l E (n - 1) (by omega) ct hct ex (mR M9 this 1) (mR M9 this 2) M9) (Nat.le_of_ble_eq_true rfl) (fun v12 M13 => ?_)
      refine AW.if_eq (pc := 46) 91 dX10_go_46 (by decide) (fun h15 => ?_) (fun h15 => ?_)
      · refine AW.iinc (pc := 91) (w := 2) [1, 2, 0] [(0, .ref (ad E this)), (1, .int x1), (2, .int (x2 + 1))] dX10_go_91 rfl (inc_1 _) (by decide) rfl ?_
        refine AW.goto (pc := 94) 2 dX10_go_94 (by decide) ?_
        exact hKK2 this x1 (x2 + 1) M13 hthis
      · refine AW.aload_n (pc := 49) dX10_go_49 rfl 0 rfl ?_
        refine AW.dup (pc := 50) dX10_go_50 rfl ?_
        refine AW.getL (pc := 51) dX10_go_51 flX10_23 hthis (kct hthis rfl hct) ?_
        refine AW.iload_n (pc := 54) dX10_go_54 rfl 1 rfl ?_
        refine AW.iload_n (pc := 55) dX10_go_55 rfl 2 rfl ?_
        refine AW.isub (pc := 56) dX10_go_56 ?_
        refine AW.i2l (pc := 57) dX10_go_57 ?_
        refine AW.aload_n (pc := 58) dX10_go_58 rfl 0 rfl ?_
        refine AW.getL (pc := 59) dX10_go_59 flX10_23 hthis (kct hthis rfl hct) ?_
        refine AW.lload_n (pc := 62) dX10_go_62 rfl 3 rfl ?_
        refine AW.lsub (pc := 63) dX10_go_63 ?_
        refine AW.lmul (pc := 64) dX10_go_64 ?_
        refine AW.ladd (pc := 65) dX10_go_65 ?_
        refine AW.putL (pc := 66) dX10_go_66 flX10_23 hthis (kct hthis rfl hct) ?_
        refine AW.genM (fun M16 => ?_)
        refine AW.aload_n (pc := 69) dX10_go_69 rfl 0 rfl ?_
        refine AW.dup (pc := 70) dX10_go_70 rfl ?_
        refine AW.getL (pc := 71) dX10_go_71 flX10_27 hthis (kct hthis rfl hct) ?_
        refine AW.iload_n (pc := 74) dX10_go_74 rfl 1 rfl ?_
        refine AW.iload_n (pc := 75) dX10_go_75 rfl 2 rfl ?_
        refine AW.isub (pc := 76) dX10_go_76 ?_
        refine AW.i2l (pc := 77) dX10_go_77 ?_
        refine AW.aload_n (pc := 78) dX10_go_78 rfl 0 rfl ?_
        refine AW.getL (pc := 79) dX10_go_79 flX10_27 hthis (kct hthis rfl hct) ?_
        refine AW.lload (pc := 82) dX10_go_82 4 rfl ?_
        refine AW.lsub (pc := 84) dX10_go_84 ?_
        refine AW.lmul (pc := 85) dX10_go_85 ?_
        refine AW.ladd (pc := 86) dX10_go_86 ?_
        refine AW.putL (pc := 87) dX10_go_87 flX10_27 hthis (kct hthis rfl hct) ?_
        refine AW.genM (fun M17 => ?_)
        exact AW.vret (pc := 90) dX10_go_90 rfl (fun _ _ _ => rfl) (Nat.le_refl _) (Nat.le_refl _)
set_option maxRecDepth 20000 in
set_option maxHeartbeats 4000000 in
theorem kX10_go_L2 (l : Launch) (E : Ev) (n : Nat) (hn : 6 ≤ n) (ct : Nat) (hct : 111 ≤ ct) (ex : Bool) (k : Nat) : ∀ (this : Nat) (x1 : Int32) (x2 : Int32) (M : Mem) (_ : K0 this = (0, 10)), AW l E fX10_go (fun _ => rmN n 0 0) (PQr E 0 0 ct ex enU) ct ex 0 0 2 [(0, .ref (ad E this)), (1, .int x1), (2, .int x2)] [] M (zX10_go_L2 k this x1 x2 M) := by
  induction k with
  | zero => intro this x1 x2 M _; exact AW.none
  | succ k ih =>
    intro this x1 x2 M hthis
    exact kX10_go_B2 l E n hn ct hct ex (zX10_go_L2 k) ih this x1 x2 M hthis
set_option maxRecDepth 20000 in
set_option maxHeartbeats 4000000 in
theorem kX10_go (l : Launch) (E : Ev) (n : Nat) (hn : 6 ≤ n) (ct : Nat) (hct : 111 ≤ ct) (ex : Bool) (this : Nat) (x1 : Int32) (M : Mem) : AM l E n ct ex yX10_go fX10_go enU [.ref (ad E this), .int x1] M (zX10_go this x1 M) := by
  unfold zX10_go
  refine AM.of (by decide +kernel) ⟨rfl, rfl, rfl⟩ (Nat.le_of_ble_eq_true rfl) ?_
  refine AW.chk (fun hthis => ?_)
  refine AW.iconst (pc := 0) dX10_go_0 ci_1 ?_
  refine AW.istore_n (pc := 1) [1, 2, 0] [(0, .ref (ad E this)), (1, .int x1), (2, .int 1)] dX10_go_1 rfl (by decide) rfl ?_
  exact kX10_go_L2 l E n hn ct hct ex FU this x1 1 M hthis
-- GateBox.walkAlong(LGateBox$Gate;I)V
def zX11_walkAlong (this : Nat) (x1 : Nat) (x2 : Int32) (M : Mem) : Option (Unit × Mem) :=
  if K0 this = (0, 11) then
  if mR M this 7 ≠ 0 then
  if K0 x1 = (0, 4) then
  if mR M x1 0 ≠ 0 then
  if K0 (mR M x1 0) = (0, 8) then
  if mR M (mR M x1 0) 12 ≠ 0 then
  if K0 (mR M this 7) = (0, 5) then
  bnd (zX5_begin (mR M this 7) (mR M x1 0) (mR M (mR M x1 0) 12) M) fun _ M6 =>
  if mR M6 this 8 ≠ 0 then
  if mR M6 x1 1 ≠ 0 then
  if K0 (mR M6 x1 1) = (0, 0) then
  if K0 (mR M6 this 8) = (0, 10) then
  bnd (zX10_begin (mR M6 this 8) (mI M6 (mR M6 x1 1) 0) M6) fun _ M11 =>
  if mR M11 this 8 ≠ 0 then
  if K0 (mR M11 this 8) = (0, 10) then
  bnd (zX10_go (mR M11 this 8) x2 M11) fun _ M14 =>
  some ((), M14)
  else none
  else none
  else none
  else none
  else none
  else none
  else none
  else none
  else none
  else none
  else none
  else none
  else none
set_option maxRecDepth 20000 in
set_option maxHeartbeats 4000000 in
theorem kX11_walkAlong (l : Launch) (E : Ev) (n : Nat) (hn : 7 ≤ n) (ct : Nat) (hct : 111 ≤ ct) (ex : Bool) (this : Nat) (x1 : Nat) (x2 : Int32) (M : Mem) : AM l E n ct ex yX11_walkAlong fX11_walkAlong enU [.ref (ad E this), .ref (ad E x1), .int x2] M (zX11_walkAlong this x1 x2 M) := by
  unfold zX11_walkAlong
  refine AM.of (by decide +kernel) ⟨rfl, rfl, rfl⟩ (Nat.le_of_ble_eq_true rfl) ?_
  refine AW.chk (fun hthis => ?_)
  refine AW.aload_n (pc := 0) dX11_walkAlong_0 rfl 0 rfl ?_
  refine AW.chk (fun g1 => ?_)
  refine AW.getR (pc := 1) dX11_walkAlong_1 flX11_50 hthis (kct hthis rfl hct) g1 ?_
  refine AW.aload_n (pc := 4) dX11_walkAlong_4 rfl 1 rfl ?_
  refine AW.chk (fun g2 => ?_)
  refine AW.chk (fun g3 => ?_)
  refine AW.getR (pc := 5) dX11_walkAlong_5 flX11_43 g2 (kct g2 rfl hct) g3 ?_
  refine AW.aload_n (pc := 8) dX11_walkAlong_8 rfl 1 rfl ?_
  refine AW.getR (pc := 9) dX11_walkAlong_9 flX11_43 g2 (kct g2 rfl hct) g3 ?_
  refine AW.chk (fun g4 => ?_)
  refine AW.chk (fun g5 => ?_)
  refine AW.getR (pc := 12) dX11_walkAlong_12 flX11_164 g4 (kct g4 rfl hct) g5 ?_
  refine AW.chk (fun g7 => ?_)
  refine AW.cV2v (pc := 15) dX11_walkAlong_15 mlX11_167 mbX5_begin rfl g7 (kct g7 rfl hct) (fun _ => okR_N (by omega)) (kX5_begin l E (n - 1) (by omega) ct hct ex (mR M this 7) (mR M x1 0) (mR M (mR M x1 0) 12) M) (Nat.le_of_ble_eq_true rfl) (fun _ M6 => ?_)
  refine AW.aload_n (pc := 18) dX11_walkAlong_18 rfl 0 rfl ?_
  refine AW.chk (fun g8 => ?_)
  refine AW.getR (pc := 19) dX11_walkAlong_19 flX11_59 hthis (kct hthis rfl hct) g8 ?_
  refine AW.aload_n (pc := 22) dX11_walkAlong_22 rfl 1 rfl ?_
  refine AW.chk (fun g9 => ?_)
  refine AW.getR (pc := 23) dX11_walkAlong_23 flX11_125 g2 (kct g2 rfl hct) g9 ?_
  refine AW.chk (fun g10 => ?_)
  refine AW.getI (pc := 26) dX11_walkAlong_26 flX11_207 g10 (kct g10 rfl hct) ?_
  refine AW.chk (fun g12 => ?_)
  refine AW.cV1v (pc := 29) dX11_walkAlong_29 mlX11_236 mbX10_begin rfl g12 (kct g12 rfl hct) (fun _ => okR_N (by omega)) (kX10_begin l E (n - 1) (by omega) ct hct ex (mR M6 this 8) (mI M6 (mR M6 x1 1) 0) M6) (Nat.le_of_ble_eq_true rfl) (fun _ M11 => ?_)
  refine AW.aload_n (pc := 32) dX11_walkAlong_32 rfl 0 rfl ?_
  refine AW.chk (fun g13 => ?_)
  refine AW.getR (pc := 33) dX11_walkAlong_33 flX11_59 hthis (kct hthis rfl hct) g13 ?_
  refine AW.iload_n (pc := 36) dX11_walkAlong_36 rfl 2 rfl ?_
  refine AW.chk (fun g15 => ?_)
  refine AW.cV1v (pc := 37) dX11_walkAlong_37 mlX11_238 mbX10_go rfl g15 (kct g15 rfl hct) (fun _ => okR_N (by omega)) (kX10_go l E (n - 1) (by omega) ct hct ex (mR M11 this 8) x2 M11) (Nat.le_of_ble_eq_true rfl) (fun _ M14 => ?_)
  exact AW.vret (pc := 40) dX11_walkAlong_40 rfl (fun _ _ _ => rfl) (Nat.le_refl _) (Nat.le_refl _)
-- GateBox$Walk.thousandthsGiven()I
def zX10_thousandthsGiven (this : Nat) (M : Mem) : Option (Int32 × Mem) :=
  if K0 this = (0, 10) then
  some (Int64.toInt32 ((mL M this 3) / 1000000), M)
  else none
set_option maxRecDepth 20000 in
set_option maxHeartbeats 4000000 in
theorem kX10_thousandthsGiven (l : Launch) (E : Ev) (n : Nat) (hn : 1 ≤ n) (ct : Nat) (hct : 111 ≤ ct) (ex : Bool) (this : Nat) (M : Mem) : AM l E n ct ex yX10_thousandthsGiven fX10_thousandthsGiven enI [.ref (ad E this)] M (zX10_thousandthsGiven this M) := by
  unfold zX10_thousandthsGiven
  refine AM.of (by decide +kernel) ⟨rfl, rfl, rfl⟩ (Nat.le_of_ble_eq_true rfl) ?_
  refine AW.chk (fun hthis => ?_)
  refine AW.aload_n (pc := 0) dX10_thousandthsGiven_0 rfl 0 rfl ?_
  refine AW.getL (pc := 1) dX10_thousandthsGiven_1 flX10_23 hthis (kct hthis rfl hct) ?_
  refine AW.ldc2 (pc := 4) dX10_thousandthsGiven_4 ccX10_65 ?_
  refine AW.ldiv (pc := 7) dX10_thousandthsGiven_7 (by decide) ?_
  refine AW.l2i (pc := 8) dX10_thousandthsGiven_8 ?_
  exact AW.iret (pc := 9) dX10_thousandthsGiven_9 rfl (fun _ _ _ => rfl) (Nat.le_refl _) (Nat.le_refl _)
-- GateBox$Walk.thousandthsAway()I
def zX10_thousandthsAway (this : Nat) (M : Mem) : Option (Int32 × Mem) :=
  if K0 this = (0, 10) then
  some (Int64.toInt32 ((mL M this 4) / 1000000), M)
  else none
set_option maxRecDepth 20000 in
set_option maxHeartbeats 4000000 in
theorem kX10_thousandthsAway (l : Launch) (E : Ev) (n : Nat) (hn : 1 ≤ n) (ct : Nat) (hct : 111 ≤ ct) (ex : Bool) (this : Nat) (M : Mem) : AM l E n ct ex yX10_thousandthsAway fX10_thousandthsAway enI [.ref (ad E this)] M (zX10_thousandthsAway this M) := by
  unfold zX10_thousandthsAway
  refine AM.of (by decide +kernel) ⟨rfl, rfl, rfl⟩ (Nat.le_of_ble_eq_true rfl) ?_
  refine AW.chk (fun hthis => ?_)
  refine AW.aload_n (pc := 0) dX10_thousandthsAway_0 rfl 0 rfl ?_
  refine AW.getL (pc := 1) dX10_thousandthsAway_1 flX10_27 hthis (kct hthis rfl hct) ?_
  refine AW.ldc2 (pc := 4) dX10_thousandthsAway_4 ccX10_65 ?_
  refine AW.ldiv (pc := 7) dX10_thousandthsAway_7 (by decide) ?_
  refine AW.l2i (pc := 8) dX10_thousandthsAway_8 ?_
  exact AW.iret (pc := 9) dX10_thousandthsAway_9 rfl (fun _ _ _ => rfl) (Nat.le_refl _) (Nat.le_refl _)
-- GateBox.coin(III)I
def zX11_coin (this : Nat) (x1 : Int32) (x2 : Int32) (x3 : Int32) (M : Mem) : Option ((Int32 ⊕ Nat) × Mem) :=
  if K0 this = (0, 11) then
  bndX (zX11_gateOf this x1 M) fun v1 M2 =>
  bndX (zX11_askKnown x3 1 M2) fun _ M3 =>
  bndX (zX11_askRange x2 0 400 M3) fun _ M4 =>
  bnd (zX11_walkAlong this v1 x2 M4) fun _ M5 =>
  if x3 = 0 then
    if mR M5 this 8 ≠ 0 then
    if K0 (mR M5 this 8) = (0, 10) then
    bnd (zX10_thousandthsGiven (mR M5 this 8) M5) fun v8 M9 =>
    some (.inl v8, M9)
    else none
    else none
  else
    if mR M5 this 8 ≠ 0 then
    if K0 (mR M5 this 8) = (0, 10) then
    bnd (zX10_thousandthsAway (mR M5 this 8) M5) fun v12 M13 =>
    some (.inl v12, M13)
    else none
    else none
  else none
set_option maxRecDepth 20000 in
set_option maxHeartbeats 4000000 in
theorem kX11_coin (l : Launch) (E : Ev) (hst : l.stackTraces = false) (n : Nat) (hn : 8 ≤ n) (ct : Nat) (hct : 111 ≤ ct) (ex : Bool) (this : Nat) (x1 : Int32) (x2 : Int32) (x3 : Int32) (M : Mem) : AMX l E n ct ex yX11_coin fX11_coin enI [.ref (ad E this), .int x1, .int x2, .int x3] M (zX11_coin this x1 x2 x3 M) := by
  unfold zX11_coin
  refine AMX.of (by decide +kernel) ⟨rfl, rfl, rfl⟩ (Nat.le_of_ble_eq_true rfl) ?_
  refine AW.chk (fun hthis => ?_)
  refine AW.aload_n (pc := 0) dX11_coin_0 rfl 0 rfl ?_
  refine AW.iload_n (pc := 1) dX11_coin_1 rfl 1 rfl ?_
  refine AW.xV1r (pc := 2) rfl dX11_coin_2 mlX11_106 mbX11_gateOf rfl hthis (kct hthis rfl hct) (by omega) (kX11_gateOf l E hst (n - 1) (by omega) ct hct ex this x1 M) (Nat.le_of_ble_eq_true rfl) (fun v1 M2 => ?_)
  refine AW.astore (pc := 5) [1, 3, 4, 0] [(0, .ref (ad E this)), (2, .int x2), (3, .int x3), (4, .ref (ad E v1))] dX11_coin_5 (by decide) rfl ?_
  refine AW.iload_n (pc := 7) dX11_coin_7 rfl 2 rfl ?_
  refine AW.iconst (pc := 8) dX11_coin_8 ci_1 ?_
  refine AW.xS2v (pc := 9) rfl dX11_coin_9 mlX11_134 mbX11_askKnown (by omega) (kX11_askKnown l E hst (n - 1) (by omega) ct hct ex x3 1 M2) (Nat.le_of_ble_eq_true rfl) (fun _ M3 => ?_)
  refine AW.iload_n (pc := 12) dX11_coin_12 rfl 1 rfl ?_
  refine AW.iconst (pc := 13) dX11_coin_13 ci_0 ?_
  refine AW.sipush (pc := 14) dX11_coin_14 cs_400 ?_
  refine AW.xS3v (pc := 17) rfl dX11_coin_17 mlX11_110 mbX11_askRange (by omega) (kX11_askRange l E hst (n - 1) (by omega) ct hct ex x2 0 400 M3) (Nat.le_of_ble_eq_true rfl) (fun _ M4 => ?_)
  refine AW.aload_n (pc := 20) dX11_coin_20 rfl 0 rfl ?_
  refine AW.aload (pc := 21) dX11_coin_21 3 rfl ?_
  refine AW.iload_n (pc := 23) dX11_coin_23 rfl 1 rfl ?_
  refine AW.cV2v (pc := 24) dX11_coin_24 mlX11_185 mbX11_walkAlong rfl hthis (kct hthis rfl hct) (fun r => okR_X (by omega) r) (kX11_walkAlong l E (n - 1) (by omega) ct hct ex this v1 x2 M4) (Nat.le_of_ble_eq_true rfl) (fun _ M5 => ?_)
  refine AW.iload_n (pc := 27) dX11_coin_27 rfl 2 rfl ?_
  refine AW.if_ne (pc := 28) 41 dX11_coin_28 (by decide) (fun h6 => ?_) (fun h6 => ?_)
  · refine AW.aload_n (pc := 31) dX11_coin_31 rfl 0 rfl ?_
    refine AW.chk (fun g7 => ?_)
    refine AW.getR (pc := 32) dX11_coin_32 flX11_59 hthis (kct hthis rfl hct) g7 ?_
    refine AW.chk (fun g10 => ?_)
    refine AW.cV0i (pc := 35) dX11_coin_35 mlX11_189 mbX10_thousandthsGiven rfl g10 (kct g10 rfl hct) (fun r => okR_X (by omega) r) (kX10_thousandthsGiven l E (n - 1) (by omega) ct hct ex (mR M5 this 8) M5) (Nat.le_of_ble_eq_true rfl) (fun v8 M9 => ?_)
    refine AW.goto (pc := 38) 48 dX11_coin_38 (by decide) ?_
    exact AW.iret (pc := 48) dX11_coin_48 rfl (fun _ _ _ => rfl) (Nat.le_refl _) (Nat.le_refl _)
  · refine AW.aload_n (pc := 41) dX11_coin_41 rfl 0 rfl ?_
    refine AW.chk (fun g11 => ?_)
    refine AW.getR (pc := 42) dX11_coin_42 flX11_59 hthis (kct hthis rfl hct) g11 ?_
    refine AW.chk (fun g14 => ?_)
    refine AW.cV0i (pc := 45) dX11_coin_45 mlX11_192 mbX10_thousandthsAway rfl g14 (kct g14 rfl hct) (fun r => okR_X (by omega) r) (kX10_thousandthsAway l E (n - 1) (by omega) ct hct ex (mR M5 this 8) M5) (Nat.le_of_ble_eq_true rfl) (fun v12 M13 => ?_)
    exact AW.iret (pc := 48) dX11_coin_48 rfl (fun _ _ _ => rfl) (Nat.le_refl _) (Nat.le_refl _)
-- GateBox.cases(III)I
def zX11_cases (this : Nat) (x1 : Int32) (x2 : Int32) (x3 : Int32) (M : Mem) : Option ((Int32 ⊕ Nat) × Mem) :=
  if K0 this = (0, 11) then
  bndX (zX11_gateOf this x1 M) fun v1 M2 =>
  if K0 v1 = (0, 4) then
  if mR M2 v1 0 ≠ 0 then
  if K0 (mR M2 v1 0) = (0, 8) then
  bnd (zX8_states (mR M2 v1 0) M2) fun v5 M6 =>
  bndX (zX11_askKnown x3 (v5 - 1) M6) fun _ M8 =>
  bndX (zX11_askRange x2 0 400 M8) fun _ M9 =>
  bnd (zX11_walkAlong this v1 x2 M9) fun _ M10 =>
  if mR M10 this 8 ≠ 0 then
  if K0 (mR M10 this 8) = (0, 10) then
  if mR M10 (mR M10 this 8) 1 ≠ 0 then
  if K0 (mR M10 (mR M10 this 8) 1) = (0, 1) then
  bnd (zX1_amountOf (mR M10 (mR M10 this 8) 1) x3 M10) fun v14 M15 =>
  some (.inl v14, M15)
  else none
  else none
  else none
  else none
  else none
  else none
  else none
  else none
set_option maxRecDepth 20000 in
set_option maxHeartbeats 4000000 in
theorem kX11_cases (l : Launch) (E : Ev) (hst : l.stackTraces = false) (n : Nat) (hn : 8 ≤ n) (ct : Nat) (hct : 111 ≤ ct) (ex : Bool) (this : Nat) (x1 : Int32) (x2 : Int32) (x3 : Int32) (M : Mem) : AMX l E n ct ex yX11_cases fX11_cases enI [.ref (ad E this), .int x1, .int x2, .int x3] M (zX11_cases this x1 x2 x3 M) := by
  unfold zX11_cases
  refine AMX.of (by decide +kernel) ⟨rfl, rfl, rfl⟩ (Nat.le_of_ble_eq_true rfl) ?_
  refine AW.chk (fun hthis => ?_)
  refine AW.aload_n (pc := 0) dX11_cases_0 rfl 0 rfl ?_
  refine AW.iload_n (pc := 1) dX11_cases_1 rfl 1 rfl ?_
  refine AW.xV1r (pc := 2) rfl dX11_cases_2 mlX11_106 mbX11_gateOf rfl hthis (kct hthis rfl hct) (by omega) (kX11_gateOf l E hst (n - 1) (by omega) ct hct ex this x1 M) (Nat.le_of_ble_eq_true rfl) (fun v1 M2 => ?_)
  refine AW.astore (pc := 5) [1, 3, 4, 0] [(0, .ref (ad E this)), (2, .int x2), (3, .int x3), (4, .ref (ad E v1))] dX11_cases_5 (by decide) rfl ?_
  refine AW.iload_n (pc := 7) dX11_cases_7 rfl 2 rfl ?_
  refine AW.aload (pc := 8) dX11_cases_8 3 rfl ?_
  refine AW.chk (fun g3 => ?_)
  refine AW.chk (fun g4 => ?_)
  refine AW.getR (pc := 10) dX11_cases_10 flX11_43 g3 (kct g3 rfl hct) g4 ?_
  refine AW.chk (fun g7 => ?_)
  refine AW.cV0i (pc := 13) dX11_cases_13 mlX11_160 mbX8_states rfl g7 (kct g7 rfl hct) (fun r => okR_X (by omega) r) (kX8_states l E (n - 1) (by omega) ct hct ex (mR M2 v1 0) M2) (Nat.le_of_ble_eq_true rfl) (fun v5 M6 => ?_)
  refine AW.iconst (pc := 16) dX11_cases_16 ci_1 ?_
  refine AW.isub (pc := 17) dX11_cases_17 ?_
  refine AW.xS2v (pc := 18) rfl dX11_cases_18 mlX11_134 mbX11_askKnown (by omega) (kX11_askKnown l E hst (n - 1) (by omega) ct hct ex x3 (v5 - 1) M6) (Nat.le_of_ble_eq_true rfl) (fun _ M8 => ?_)
  refine AW.iload_n (pc := 21) dX11_cases_21 rfl 1 rfl ?_
  refine AW.iconst (pc := 22) dX11_cases_22 ci_0 ?_
  refine AW.sipush (pc := 23) dX11_cases_23 cs_400 ?_
  refine AW.xS3v (pc := 26) rfl dX11_cases_26 mlX11_110 mbX11_askRange (by omega) (kX11_askRange l E hst (n - 1) (by omega) ct hct ex x2 0 400 M8) (Nat.le_of_ble_eq_true rfl) (fun _ M9 => ?_)
  refine AW.aload_n (pc := 29) dX11_cases_29 rfl 0 rfl ?_
  refine AW.aload (pc := 30) dX11_cases_30 3 rfl ?_
  refine AW.iload_n (pc := 32) dX11_cases_32 rfl 1 rfl ?_
  refine AW.cV2v (pc := 33) dX11_cases_33 mlX11_185 mbX11_walkAlong rfl hthis (kct hthis rfl hct) (fun r => okR_X (by omega) r) (kX11_walkAlong l E (n - 1) (by omega) ct hct ex this v1 x2 M9) (Nat.le_of_ble_eq_true rfl) (fun _ M10 => ?_)
  refine AW.aload_n (pc := 36) dX11_cases_36 rfl 0 rfl ?_
  refine AW.chk (fun g11 => ?_)
  refine AW.getR (pc := 37) dX11_cases_37 flX11_59 hthis (kct hthis rfl hct) g11 ?_
  refine AW.chk (fun g12 => ?_)
  refine AW.chk (fun g13 => ?_)
  refine AW.getR (pc := 40) dX11_cases_40 flX11_195 g12 (kct g12 rfl hct) g13 ?_
  refine AW.iload_n (pc := 43) dX11_cases_43 rfl 2 rfl ?_
  refine AW.chk (fun g16 => ?_)
  refine AW.cV1i (pc := 44) dX11_cases_44 mlX11_199 mbX1_amountOf rfl g16 (kct g16 rfl hct) (fun r => okR_X (by omega) r) (kX1_amountOf l E (n - 1) (by omega) ct hct ex (mR M10 (mR M10 this 8) 1) x3 M10) (Nat.le_of_ble_eq_true rfl) (fun v14 M15 => ?_)
  exact AW.iret (pc := 47) dX11_cases_47 rfl (fun _ _ _ => rfl) (Nat.le_refl _) (Nat.le_refl _)
-- GateBox$Walk.driftOfOneMore()I
def zX10_driftOfOneMore (this : Nat) (M : Mem) : Option (Int32 × Mem) :=
  if K0 this = (0, 10) then
  lt (mL M this 3) fun v1 =>
  bnd (zX10_go this 1 M) fun _ M2 =>
  some (Int64.toInt32 (((mL M2 this 3) - v1) / 1000000), M2)
  else none
set_option maxRecDepth 20000 in
set_option maxHeartbeats 4000000 in
theorem kX10_driftOfOneMore (l : Launch) (E : Ev) (n : Nat) (hn : 7 ≤ n) (ct : Nat) (hct : 111 ≤ ct) (ex : Bool) (this : Nat) (M : Mem) : AM l E n ct ex yX10_driftOfOneMore fX10_driftOfOneMore enI [.ref (ad E this)] M (zX10_driftOfOneMore this M) := by
  unfold zX10_driftOfOneMore
  refine AM.of (by decide +kernel) ⟨rfl, rfl, rfl⟩ (Nat.le_of_ble_eq_true rfl) ?_
  refine AW.chk (fun hthis => ?_)
  refine AW.aload_n (pc := 0) dX10_driftOfOneMore_0 rfl 0 rfl ?_
  refine AW.getL (pc := 1) dX10_driftOfOneMore_1 flX10_23 hthis (kct hthis rfl hct) ?_
  refine AW.genL (fun v1 => ?_)
  refine AW.lstore_n (pc := 4) [1, 0] [(0, .ref (ad E this)), (1, .long v1)] dX10_driftOfOneMore_4 rfl (by decide) rfl ?_
  refine AW.aload_n (pc := 5) dX10_driftOfOneMore_5 rfl 0 rfl ?_
  refine AW.iconst (pc := 6) dX10_driftOfOneMore_6 ci_1 ?_
  refine AW.cV1v (pc := 7) dX10_driftOfOneMore_7 mlX10_61 mbX10_go rfl hthis (kct hthis rfl hct) (fun _ => okR_N (by omega)) (kX10_go l E (n - 1) (by omega) ct hct ex this 1 M) (Nat.le_of_ble_eq_true rfl) (fun _ M2 => ?_)
  refine AW.aload_n (pc := 10) dX10_driftOfOneMore_10 rfl 0 rfl ?_
  refine AW.getL (pc := 11) dX10_driftOfOneMore_11 flX10_23 hthis (kct hthis rfl hct) ?_
  refine AW.lload_n (pc := 14) dX10_driftOfOneMore_14 rfl 1 rfl ?_
  refine AW.lsub (pc := 15) dX10_driftOfOneMore_15 ?_
  refine AW.ldc2 (pc := 16) dX10_driftOfOneMore_16 ccX10_65 ?_
  refine AW.ldiv (pc := 19) dX10_driftOfOneMore_19 (by decide) ?_
  refine AW.l2i (pc := 20) dX10_driftOfOneMore_20 ?_
  exact AW.iret (pc := 21) dX10_driftOfOneMore_21 rfl (fun _ _ _ => rfl) (Nat.le_refl _) (Nat.le_refl _)
-- GateBox.drift(II)I
def zX11_drift (this : Nat) (x1 : Int32) (x2 : Int32) (M : Mem) : Option ((Int32 ⊕ Nat) × Mem) :=
  if K0 this = (0, 11) then
  bndX (zX11_gateOf this x1 M) fun v1 M2 =>
  bndX (zX11_askRange x2 1 400 M2) fun _ M3 =>
  bnd (zX11_walkAlong this v1 (x2 - 1) M3) fun _ M4 =>
  if mR M4 this 8 ≠ 0 then
  if K0 (mR M4 this 8) = (0, 10) then
  bnd (zX10_driftOfOneMore (mR M4 this 8) M4) fun v6 M7 =>
  some (.inl v6, M7)
  else none
  else none
  else none
set_option maxRecDepth 20000 in
set_option maxHeartbeats 4000000 in
theorem kX11_drift (l : Launch) (E : Ev) (hst : l.stackTraces = false) (n : Nat) (hn : 8 ≤ n) (ct : Nat) (hct : 111 ≤ ct) (ex : Bool) (this : Nat) (x1 : Int32) (x2 : Int32) (M : Mem) : AMX l E n ct ex yX11_drift fX11_drift enI [.ref (ad E this), .int x1, .int x2] M (zX11_drift this x1 x2 M) := by
  unfold zX11_drift
  refine AMX.of (by decide +kernel) ⟨rfl, rfl, rfl⟩ (Nat.le_of_ble_eq_true rfl) ?_
  refine AW.chk (fun hthis => ?_)
  refine AW.aload_n (pc := 0) dX11_drift_0 rfl 0 rfl ?_
  refine AW.iload_n (pc := 1) dX11_drift_1 rfl 1 rfl ?_
  refine AW.xV1r (pc := 2) rfl dX11_drift_2 mlX11_106 mbX11_gateOf rfl hthis (kct hthis rfl hct) (by omega) (kX11_gateOf l E hst (n - 1) (by omega) ct hct ex this x1 M) (Nat.le_of_ble_eq_true rfl) (fun v1 M2 => ?_)
  refine AW.astore_n (pc := 5) [1, 3, 0] [(0, .ref (ad E this)), (2, .int x2), (3, .ref (ad E v1))] dX11_drift_5 rfl (by decide) rfl ?_
  refine AW.iload_n (pc := 6) dX11_drift_6 rfl 1 rfl ?_
  refine AW.iconst (pc := 7) dX11_drift_7 ci_1 ?_
  refine AW.sipush (pc := 8) dX11_drift_8 cs_400 ?_
  refine AW.xS3v (pc := 11) rfl dX11_drift_11 mlX11_110 mbX11_askRange (by omega) (kX11_askRange l E hst (n - 1) (by omega) ct hct ex x2 1 400 M2) (Nat.le_of_ble_eq_true rfl) (fun _ M3 => ?_)
  refine AW.aload_n (pc := 14) dX11_drift_14 rfl 0 rfl ?_
  refine AW.aload_n (pc := 15) dX11_drift_15 rfl 2 rfl ?_
  refine AW.iload_n (pc := 16) dX11_drift_16 rfl 1 rfl ?_
  refine AW.iconst (pc := 17) dX11_drift_17 ci_1 ?_
  refine AW.isub (pc := 18) dX11_drift_18 ?_
  refine AW.cV2v (pc := 19) dX11_drift_19 mlX11_185 mbX11_walkAlong rfl hthis (kct hthis rfl hct) (fun r => okR_X (by omega) r) (kX11_walkAlong l E (n - 1) (by omega) ct hct ex this v1 (x2 - 1) M3) (Nat.le_of_ble_eq_true rfl) (fun _ M4 => ?_)
  refine AW.aload_n (pc := 22) dX11_drift_22 rfl 0 rfl ?_
  refine AW.chk (fun g5 => ?_)
  refine AW.getR (pc := 23) dX11_drift_23 flX11_59 hthis (kct hthis rfl hct) g5 ?_
  refine AW.chk (fun g8 => ?_)
  refine AW.cV0i (pc := 26) dX11_drift_26 mlX11_204 mbX10_driftOfOneMore rfl g8 (kct g8 rfl hct) (fun r => okR_X (by omega) r) (kX10_driftOfOneMore l E (n - 1) (by omega) ct hct ex (mR M4 this 8) M4) (Nat.le_of_ble_eq_true rfl) (fun v6 M7 => ?_)
  exact AW.iret (pc := 29) dX11_drift_29 rfl (fun _ _ _ => rfl) (Nat.le_refl _) (Nat.le_refl _)
