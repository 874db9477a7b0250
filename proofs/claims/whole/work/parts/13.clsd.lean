/-! ===== functions over the memory and their contracts: printed by wip/whole/lay.py ===== -/
-- GateBox$Clues.read(LGateBox$Book;)V
def zX2_read_B15 (KK15 : Nat → Nat → Int32 → Int32 → Mem → Option (Unit × Mem)) (this : Nat) (x1 : Nat) (x2 : Int32) (x3 : Int32) (M : Mem) : Option (Unit × Mem) :=
  if (mI M this 3) ≤ x3 then
    some ((), M)
  else
    if K0 x1 = (0, 0) then
    if mR M x1 5 ≠ 0 then
    bnd (zX11_at (mR M x1 5) x3 M) fun v4 M5 =>
    if mR M5 this 1 ≠ 0 then
    bnd (zX11_put (mR M5 this 1) x3 x2 M5) fun _ M7 =>
    if mR M7 this 2 ≠ 0 then
    bnd (zX2_whoGives this v4 x2 M7) fun v9 M10 =>
    bnd (zX11_put (mR M7 this 2) x3 v9 M10) fun _ M11 =>
    if mR M11 this 0 ≠ 0 then
    if K0 (mR M11 this 0) = (0, 5) then
    if mR M11 (mR M11 this 0) 0 ≠ 0 then
    if K0 (mR M11 (mR M11 this 0) 0) = (0, 8) then
    bnd (zX8_stateBehind (mR M11 (mR M11 this 0) 0) x2 v4 M11) fun v15 M16 =>
    KK15 this x1 v15 (x3 + 1) M16
    else none
    else none
    else none
    else none
    else none
    else none
    else none
    else none
def zX2_read_L15 : Nat → Nat → Nat → Int32 → Int32 → Mem → Option (Unit × Mem)
  | 0 => fun _ _ _ _ _ => none
  | k + 1 => zX2_read_B15 (zX2_read_L15 k)
def zX2_read (this : Nat) (x1 : Nat) (M : Mem) : Option (Unit × Mem) :=
  if K0 this = (0, 2) then
  if K0 x1 = (0, 0) then
  lt (sI M this 3 (mI M x1 2)) fun M2 =>
  lt (mI M2 x1 0) fun v3 =>
  zX2_read_L15 FU this x1 v3 0 M2
  else none
  else none
set_option maxRecDepth 20000 in
set_option maxHeartbeats 4000000 in
theorem kX2_read_B15 (l : Launch) (E : Ev) (n : Nat) (hn : 5 ≤ n) (ct : Nat) (hct : 111 ≤ ct) (ex : Bool) (KK15 : Nat → Nat → Int32 → Int32 → Mem → Option (Unit × Mem)) (hKK15 : ∀ (this : Nat) (x1 : Nat) (x2 : Int32) (x3 : Int32) (M : Mem) (_ : K0 this = (0, 2)), AW l E fX2_read (fun _ => rmN n 0 0) (PQr E 0 0 ct ex enU) ct ex 0 0 15 [(0, .ref (ad E this)), (1, .ref (ad E x1)), (2, .int x2), (3, .int x3)] [] M (KK15 this x1 x2 x3 M)) (this : Nat) (x1 : Nat) (x2 : Int32) (x3 : Int32) (M : Mem) (hthis : K0 this = (0, 2)) : AW l E fX2_read (fun _ => rmN n 0 0) (PQr E 0 0 ct ex enU) ct ex 0 0 15 [(0, .ref (ad E this)), (1, .ref (ad E x1)), (2, .int x2), (3, .int x3)] [] M (zX2_read_B15 KK15 this x1 x2 x3 M) := by
  unfold zX2_read_B15
  refine AW.iload_n (pc := 15) dX2_read_15 rfl 3 rfl ?_
  refine AW.aload_n (pc := 16) dX2_read_16 rfl 0 rfl ?_
  refine AW.getI (pc := 17) dX2_read_17 flX2_18 hthis (kct hthis rfl hct) ?_
  refine AW.icmp_ge (pc := 20) 77 dX2_read_20 (by decide) (fun h1 => ?_) (fun h1 => ?_)
  · exact AW.vret (pc := 77) dX2_read_77 rfl (fun _ _ _ => rfl) (Nat.le_refl _) (Nat.le_refl _)
  · refine AW.aload_n (pc := 23) dX2_read_23 rfl 1 rfl ?_
    refine AW.chk (fun g2 => ?_)
    refine AW.chk (fun g3 => ?_)
    refine AW.getR (pc := 24) dX2_read_24 flX2_38 g2 (kct g2 rfl hct) g3 ?_
    refine AW.iload_n (pc := 27) dX2_read_27 rfl 3 rfl ?_
    refine AW.cN2i (pc := 28) dX2_read_28 nlX2_41 mbX11_at (fun _ => okR_N (by omega)) (kX11_at l E (n - 1) (by omega) ct hct ex (mR M x1 5) x3 M) (Nat.le_of_ble_eq_true rfl) (fun v4 M5 => ?_)
    refine AW.istore (pc := 31) [1, 2, 3, 4, 0] [(0, .ref (ad E this)), (1, .ref (ad E x1)), (2, .int x2), (3, .int x3), (4, .int v4)] dX2_read_31 (by decide) rfl ?_
    refine AW.aload_n (pc := 33) dX2_read_33 rfl 0 rfl ?_
    refine AW.chk (fun g6 => ?_)
    refine AW.getR (pc := 34) dX2_read_34 flX2_9 hthis (kct hthis rfl hct) g6 ?_
    refine AW.iload_n (pc := 37) dX2_read_37 rfl 3 rfl ?_
    refine AW.iload_n (pc := 38) dX2_read_38 rfl 2 rfl ?_
    refine AW.cN3v (pc := 39) dX2_read_39 nlX2_45 mbX11_put (fun _ => okR_N (by omega)) (kX11_put l E (n - 1) (by omega) ct hct ex (mR M5 this 1) x3 x2 M5) (Nat.le_of_ble_eq_true rfl) (fun _ M7 => ?_)
    refine AW.aload_n (pc := 42) dX2_read_42 rfl 0 rfl ?_
    refine AW.chk (fun g8 => ?_)
    refine AW.getR (pc := 43) dX2_read_43 flX2_15 hthis (kct hthis rfl hct) g8 ?_
    refine AW.iload_n (pc := 46) dX2_read_46 rfl 3 rfl ?_
    refine AW.aload_n (pc := 47) dX2_read_47 rfl 0 rfl ?_
    refine AW.iload (pc := 48) dX2_read_48 4 rfl ?_
    refine AW.iload_n (pc := 50) dX2_read_50 rfl 2 rfl ?_
    refine AW.cV2i (pc := 51) dX2_read_51 mlX2_49 mbX2_whoGives rfl hthis (kct hthis rfl hct) (fun _ => okR_N (by omega)) (kX2_whoGives l E (n - 1) (by omega) ct hct ex this v4 x2 M7) (Nat.le_of_ble_eq_true rfl) (fun v9 M10 => ?_)
    refine AW.cN3v (pc := 54) dX2_read_54 nlX2_45 mbX11_put (fun _ => okR_N (by omega)) (kX11_put l E (n - 1) (by omega) ct hct ex (mR M7 this 2) x3 v9 M10) (Nat.le_of_ble_eq_true rfl) (fun _ M11 => ?_)
    refine AW.aload_n (pc := 57) dX2_read_57 rfl 0 rfl ?_
    refine AW.chk (fun g12 => ?_)
    refine AW.getR (pc := 58) dX2_read_58 flX2_28 hthis (kct hthis rfl hct) g12 ?_
    refine AW.chk (fun g13 => ?_)
    refine AW.chk (fun g14 => ?_)
    refine AW.getR (pc := 61) dX2_read_61 flX2_53 g13 (kct g13 rfl hct) g14 ?_
    refine AW.iload_n (pc := 64) dX2_read_64 rfl 2 rfl ?_
    refine AW.iload (pc := 65) dX2_read_65 4 rfl ?_
    refine AW.chk (fun g17 => ?_)
    refine AW.cV2i (pc := 67) dX2_read_67 mlX2_59 mbX8_stateBehind rfl g17 (kct g17 rfl hct) (fun _ => okR_N (by omega)) (kX8_stateBehind l E (n - 1) (by omega) ct hct ex (mR M11 (mR M11 this 0) 0) x2 v4 M11) (Nat.le_of_ble_eq_true rfl) (fun v15 M16 => ?_)
    refine AW.istore_n (pc := 70) [1, 2, 0, 3] [(0, .ref (ad E this)), (1, .ref (ad E x1)), (2, .int v15), (3, .int x3)] dX2_read_70 rfl (by decide) rfl ?_
    refine AW.iinc (pc := 71) (w := 3) [1, 2, 3, 0] [(0, .ref (ad E this)), (1, .ref (ad E x1)), (2, .int v15), (3, .int (x3 + 1))] dX2_read_71 rfl (inc_1 _) (by decide) rfl ?_
    refine AW.goto (pc := 74) 15 dX2_read_74 (by decide) ?_
    exact hKK15 this x1 v15 (x3 + 1) M16 hthis
set_option maxRecDepth 20000 in
set_option maxHeartbeats 4000000 in
theorem kX2_read_L15 (l : Launch) (E : Ev) (n : Nat) (hn : 5 ≤ n) (ct : Nat) (hct : 111 ≤ ct) (ex : Bool) (k : Nat) : ∀ (this : Nat) (x1 : Nat) (x2 : Int32) (x3 : Int32) (M : Mem) (_ : K0 this = (0, 2)), AW l E fX2_read (fun _ => rmN n 0 0) (PQr E 0 0 ct ex enU) ct ex 0 0 15 [(0, .ref (ad E this)), (1, .ref (ad E x1)), (2, .int x2), (3, .int x3)] [] M (zX2_read_L15 k this x1 x2 x3 M) := by
  induction k with
  | zero => intro this x1 x2 x3 M _; exact AW.none
  | succ k ih =>
    intro this x1 x2 x3 M hthis
    exact kX2_read_B15 l E n hn ct hct ex (zX2_read_L15 k) ih this x1 x2 x3 M hthis
set_option maxRecDepth 20000 in
set_option maxHeartbeats 4000000 in
theorem kX2_read (l : Launch) (E : Ev) (n : Nat) (hn : 5 ≤ n) (ct : Nat) (hct : 111 ≤ ct) (ex : Bool) (this : Nat) (x1 : Nat) (M : Mem) : AM l E n ct ex yX2_read fX2_read enU [.ref (ad E this), .ref (ad E x1)] M (zX2_read this x1 M) := by
  unfold zX2_read
  refine AM.of (by decide +kernel) ⟨rfl, rfl, rfl⟩ (Nat.le_of_ble_eq_true rfl) ?_
  refine AW.chk (fun hthis => ?_)
  refine AW.aload_n (pc := 0) dX2_read_0 rfl 0 rfl ?_
  refine AW.aload_n (pc := 1) dX2_read_1 rfl 1 rfl ?_
  refine AW.chk (fun g1 => ?_)
  refine AW.getI (pc := 2) dX2_read_2 flX2_32 g1 (kct g1 rfl hct) ?_
  refine AW.putI (pc := 5) dX2_read_5 flX2_18 hthis (kct hthis rfl hct) ?_
  refine AW.genM (fun M2 => ?_)
  refine AW.aload_n (pc := 8) dX2_read_8 rfl 1 rfl ?_
  refine AW.getI (pc := 9) dX2_read_9 flX2_35 g1 (kct g1 rfl hct) ?_
  refine AW.genI (fun v3 => ?_)
  refine AW.istore_n (pc := 12) [1, 2, 0] [(0, .ref (ad E this)), (1, .ref (ad E x1)), (2, .int v3)] dX2_read_12 rfl (by decide) rfl ?_
  refine AW.iconst (pc := 13) dX2_read_13 ci_0 ?_
  refine AW.istore_n (pc := 14) [1, 2, 3, 0] [(0, .ref (ad E this)), (1, .ref (ad E x1)), (2, .int v3), (3, .int 0)] dX2_read_14 rfl (by decide) rfl ?_
  exact kX2_read_L15 l E n hn ct hct ex FU this x1 v3 0 M2 hthis
-- GateBox.readClues(LGateBox$Gate;)V
def zX11_readClues (this : Nat) (x1 : Nat) (M : Mem) : Option (Unit × Mem) :=
  if K0 this = (0, 11) then
  if mR M this 7 ≠ 0 then
  if K0 x1 = (0, 4) then
  if mR M x1 0 ≠ 0 then
  if K0 (mR M x1 0) = (0, 8) then
  if mR M (mR M x1 0) 12 ≠ 0 then
  if K0 (mR M this 7) = (0, 5) then
  bnd (zX5_begin (mR M this 7) (mR M x1 0) (mR M (mR M x1 0) 12) M) fun _ M6 =>
  if mR M6 this 11 ≠ 0 then
  if mR M6 x1 1 ≠ 0 then
  if K0 (mR M6 this 11) = (0, 2) then
  bnd (zX2_read (mR M6 this 11) (mR M6 x1 1) M6) fun _ M10 =>
  some ((), M10)
  else none
  else none
  else none
  else none
  else none
  else none
  else none
  else none
  else none
  else none
set_option maxRecDepth 20000 in
set_option maxHeartbeats 4000000 in
theorem kX11_readClues (l : Launch) (E : Ev) (n : Nat) (hn : 6 ≤ n) (ct : Nat) (hct : 111 ≤ ct) (ex : Bool) (this : Nat) (x1 : Nat) (M : Mem) : AM l E n ct ex yX11_readClues fX11_readClues enU [.ref (ad E this), .ref (ad E x1)] M (zX11_readClues this x1 M) := by
  unfold zX11_readClues
  refine AM.of (by decide +kernel) ⟨rfl, rfl, rfl⟩ (Nat.le_of_ble_eq_true rfl) ?_
  refine AW.chk (fun hthis => ?_)
  refine AW.aload_n (pc := 0) dX11_readClues_0 rfl 0 rfl ?_
  refine AW.chk (fun g1 => ?_)
  refine AW.getR (pc := 1) dX11_readClues_1 flX11_50 hthis (kct hthis rfl hct) g1 ?_
  refine AW.aload_n (pc := 4) dX11_readClues_4 rfl 1 rfl ?_
  refine AW.chk (fun g2 => ?_)
  refine AW.chk (fun g3 => ?_)
  refine AW.getR (pc := 5) dX11_readClues_5 flX11_43 g2 (kct g2 rfl hct) g3 ?_
  refine AW.aload_n (pc := 8) dX11_readClues_8 rfl 1 rfl ?_
  refine AW.getR (pc := 9) dX11_readClues_9 flX11_43 g2 (kct g2 rfl hct) g3 ?_
  refine AW.chk (fun g4 => ?_)
  refine AW.chk (fun g5 => ?_)
  refine AW.getR (pc := 12) dX11_readClues_12 flX11_164 g4 (kct g4 rfl hct) g5 ?_
  refine AW.chk (fun g7 => ?_)
  refine AW.cV2v (pc := 15) dX11_readClues_15 mlX11_167 mbX5_begin rfl g7 (kct g7 rfl hct) (fun _ => okR_N (by omega)) (kX5_begin l E (n - 1) (by omega) ct hct ex (mR M this 7) (mR M x1 0) (mR M (mR M x1 0) 12) M) (Nat.le_of_ble_eq_true rfl) (fun _ M6 => ?_)
  refine AW.aload_n (pc := 18) dX11_readClues_18 rfl 0 rfl ?_
  refine AW.chk (fun g8 => ?_)
  refine AW.getR (pc := 19) dX11_readClues_19 flX11_82 hthis (kct hthis rfl hct) g8 ?_
  refine AW.aload_n (pc := 22) dX11_readClues_22 rfl 1 rfl ?_
  refine AW.chk (fun g9 => ?_)
  refine AW.getR (pc := 23) dX11_readClues_23 flX11_125 g2 (kct g2 rfl hct) g9 ?_
  refine AW.chk (fun g11 => ?_)
  refine AW.cV1v (pc := 26) dX11_readClues_26 mlX11_364 mbX2_read rfl g11 (kct g11 rfl hct) (fun _ => okR_N (by omega)) (kX2_read l E (n - 1) (by omega) ct hct ex (mR M6 this 11) (mR M6 x1 1) M6) (Nat.le_of_ble_eq_true rfl) (fun _ M10 => ?_)
  exact AW.vret (pc := 29) dX11_readClues_29 rfl (fun _ _ _ => rfl) (Nat.le_refl _) (Nat.le_refl _)
-- GateBox.given(III)I
def zX11_given_B69 (x2 : Int32) (s0 : Nat) (M : Mem) : Option ((Int32 ⊕ Nat) × Mem) :=
  bnd (zX11_at s0 x2 M) fun v1 M2 =>
  some (.inl v1, M2)
def zX11_given (this : Nat) (x1 : Int32) (x2 : Int32) (x3 : Int32) (M : Mem) : Option ((Int32 ⊕ Nat) × Mem) :=
  if K0 this = (0, 11) then
  bndX (zX11_gateOf this x1 M) fun v1 M2 =>
  bndX (zX11_askKnown x3 2 M2) fun _ M3 =>
  if K0 v1 = (0, 4) then
  if mR M3 v1 1 ≠ 0 then
  if K0 (mR M3 v1 1) = (0, 0) then
  bndX (zX11_askKnown x2 ((mI M3 (mR M3 v1 1) 2) - 1) M3) fun _ M7 =>
  bnd (zX11_readClues this v1 M7) fun _ M8 =>
  if x3 = 0 then
    if mR M8 v1 1 ≠ 0 then
    if K0 (mR M8 v1 1) = (0, 0) then
    if mR M8 (mR M8 v1 1) 5 ≠ 0 then
    zX11_given_B69 x2 (mR M8 (mR M8 v1 1) 5) M8
    else none
    else none
    else none
  else
    if x3 = 1 then
      if mR M8 this 11 ≠ 0 then
      if K0 (mR M8 this 11) = (0, 2) then
      if mR M8 (mR M8 this 11) 1 ≠ 0 then
      zX11_given_B69 x2 (mR M8 (mR M8 this 11) 1) M8
      else none
      else none
      else none
    else
      if mR M8 this 11 ≠ 0 then
      if K0 (mR M8 this 11) = (0, 2) then
      if mR M8 (mR M8 this 11) 2 ≠ 0 then
      zX11_given_B69 x2 (mR M8 (mR M8 this 11) 2) M8
      else none
      else none
      else none
  else none
  else none
  else none
  else none
set_option maxRecDepth 20000 in
set_option maxHeartbeats 4000000 in
theorem kX11_given_B69 (l : Launch) (E : Ev) (hst : l.stackTraces = false) (n : Nat) (hn : 8 ≤ n) (ct : Nat) (hct : 111 ≤ ct) (ex : Bool) (x2 : Int32) (s0 : Nat) (M : Mem) : AW l E fX11_given (RX n) (PQX E ct ex enI) ct ex 0 0 69 [(2, .int x2)] [.ref (ad E s0)] M (zX11_given_B69 x2 s0 M) := by
  unfold zX11_given_B69
  refine AW.iload_n (pc := 69) dX11_given_69 rfl 0 rfl ?_
  refine AW.cS2i (pc := 70) dX11_given_70 mlX11_138 mbX11_at (fun r => okR_X (by omega) r) (kX11_at l E (n - 1) (by omega) ct hct ex s0 x2 M) (Nat.le_of_ble_eq_true rfl) (fun v1 M2 => ?_)
  exact AW.iret (pc := 73) dX11_given_73 rfl (fun _ _ _ => rfl) (Nat.le_refl _) (Nat.le_refl _)
set_option maxRecDepth 20000 in
set_option maxHeartbeats 4000000 in
theorem kX11_given (l : Launch) (E : Ev) (hst : l.stackTraces = false) (n : Nat) (hn : 8 ≤ n) (ct : Nat) (hct : 111 ≤ ct) (ex : Bool) (this : Nat) (x1 : Int32) (x2 : Int32) (x3 : Int32) (M : Mem) : AMX l E n ct ex yX11_given fX11_given enI [.ref (ad E this), .int x1, .int x2, .int x3] M (zX11_given this x1 x2 x3 M) := by
  unfold zX11_given
  refine AMX.of (by decide +kernel) ⟨rfl, rfl, rfl⟩ (Nat.le_of_ble_eq_true rfl) ?_
  refine AW.chk (fun hthis => ?_)
  refine AW.aload_n (pc := 0) dX11_given_0 rfl 0 rfl ?_
  refine AW.iload_n (pc := 1) dX11_given_1 rfl 1 rfl ?_
  refine AW.xV1r (pc := 2) rfl dX11_given_2 mlX11_106 mbX11_gateOf rfl hthis (kct hthis rfl hct) (by omega) (kX11_gateOf l E hst (n - 1) (by omega) ct hct ex this x1 M) (Nat.le_of_ble_eq_true rfl) (fun v1 M2 => ?_)
  refine AW.astore (pc := 5) [1, 3, 4, 0] [(0, .ref (ad E this)), (2, .int x2), (3, .int x3), (4, .ref (ad E v1))] dX11_given_5 (by decide) rfl ?_
  refine AW.iload_n (pc := 7) dX11_given_7 rfl 2 rfl ?_
  refine AW.iconst (pc := 8) dX11_given_8 ci_2 ?_
  refine AW.xS2v (pc := 9) rfl dX11_given_9 mlX11_134 mbX11_askKnown (by omega) (kX11_askKnown l E hst (n - 1) (by omega) ct hct ex x3 2 M2) (Nat.le_of_ble_eq_true rfl) (fun _ M3 => ?_)
  refine AW.iload_n (pc := 12) dX11_given_12 rfl 1 rfl ?_
  refine AW.aload (pc := 13) dX11_given_13 3 rfl ?_
  refine AW.chk (fun g4 => ?_)
  refine AW.chk (fun g5 => ?_)
  refine AW.getR (pc := 15) dX11_given_15 flX11_125 g4 (kct g4 rfl hct) g5 ?_
  refine AW.chk (fun g6 => ?_)
  refine AW.getI (pc := 18) dX11_given_18 flX11_291 g6 (kct g6 rfl hct) ?_
  refine AW.iconst (pc := 21) dX11_given_21 ci_1 ?_
  refine AW.isub (pc := 22) dX11_given_22 ?_
  refine AW.xS2v (pc := 23) rfl dX11_given_23 mlX11_134 mbX11_askKnown (by omega) (kX11_askKnown l E hst (n - 1) (by omega) ct hct ex x2 ((mI M3 (mR M3 v1 1) 2) - 1) M3) (Nat.le_of_ble_eq_true rfl) (fun _ M7 => ?_)
  refine AW.aload_n (pc := 26) dX11_given_26 rfl 0 rfl ?_
  refine AW.aload (pc := 27) dX11_given_27 3 rfl ?_
  refine AW.cV1v (pc := 29) dX11_given_29 mlX11_297 mbX11_readClues rfl hthis (kct hthis rfl hct) (fun r => okR_X (by omega) r) (kX11_readClues l E (n - 1) (by omega) ct hct ex this v1 M7) (Nat.le_of_ble_eq_true rfl) (fun _ M8 => ?_)
  refine AW.iload_n (pc := 32) dX11_given_32 rfl 2 rfl ?_
  refine AW.if_ne (pc := 33) 47 dX11_given_33 (by decide) (fun h9 => ?_) (fun h9 => ?_)
  · refine AW.aload (pc := 36) dX11_given_36 3 rfl ?_
    refine AW.chk (fun g10 => ?_)
    refine AW.getR (pc := 38) dX11_given_38 flX11_125 g4 (kct g4 rfl hct) g10 ?_
    refine AW.chk (fun g11 => ?_)
    refine AW.chk (fun g12 => ?_)
    refine AW.getR (pc := 41) dX11_given_41 flX11_301 g11 (kct g11 rfl hct) g12 ?_
    refine AW.goto (pc := 44) 69 dX11_given_44 (by decide) ?_
    exact AW.sub [1] rfl (kX11_given_B69 l E hst n hn ct hct ex x2 (mR M8 (mR M8 v1 1) 5) M8)
  · refine AW.iload_n (pc := 47) dX11_given_47 rfl 2 rfl ?_
    refine AW.iconst (pc := 48) dX11_given_48 ci_1 ?_
    refine AW.icmp_ne (pc := 49) 62 dX11_given_49 (by decide) (fun h13 => ?_) (fun h13 => ?_)
    · refine AW.aload_n (pc := 52) dX11_given_52 rfl 0 rfl ?_
      refine AW.chk (fun g14 => ?_)
      refine AW.getR (pc := 53) dX11_given_53 flX11_82 hthis (kct hthis rfl hct) g14 ?_
      refine AW.chk (fun g15 => ?_)
      refine AW.chk (fun g16 => ?_)
      refine AW.getR (pc := 56) dX11_given_56 flX11_304 g15 (kct g15 rfl hct) g16 ?_
      refine AW.goto (pc := 59) 69 dX11_given_59 (by decide) ?_
      exact AW.sub [1] rfl (kX11_given_B69 l E hst n hn ct hct ex x2 (mR M8 (mR M8 this 11) 1) M8)
    · refine AW.aload_n (pc := 62) dX11_given_62 rfl 0 rfl ?_
      refine AW.chk (fun g17 => ?_)
      refine AW.getR (pc := 63) dX11_given_63 flX11_82 hthis (kct hthis rfl hct) g17 ?_
      refine AW.chk (fun g18 => ?_)
      refine AW.chk (fun g19 => ?_)
      refine AW.getR (pc := 66) dX11_given_66 flX11_306 g18 (kct g18 rfl hct) g19 ?_
      exact AW.sub [1] rfl (kX11_given_B69 l E hst n hn ct hct ex x2 (mR M8 (mR M8 this 11) 2) M8)
-- GateBox$Clues.howManyWith(I)I
def zX2_howManyWith_B30 (KK4 : Nat → Int32 → Int32 → Int32 → Mem → Option (Int32 × Mem)) (this : Nat) (x1 : Int32) (x3 : Int32) (s0 : Int32) (s1 : Int32) (M : Mem) : Option (Int32 × Mem) :=
  lt (s0 + s1) fun v1 =>
  KK4 this x1 v1 (x3 + 1) M
def zX2_howManyWith_B4 (KK4 : Nat → Int32 → Int32 → Int32 → Mem → Option (Int32 × Mem)) (this : Nat) (x1 : Int32) (x2 : Int32) (x3 : Int32) (M : Mem) : Option (Int32 × Mem) :=
  if (mI M this 3) ≤ x3 then
    some (x2, M)
  else
    if mR M this 2 ≠ 0 then
    bnd (zX11_at (mR M this 2) x3 M) fun v3 M4 =>
    if v3 = x1 then
      zX2_howManyWith_B30 KK4 this x1 x3 x2 1 M4
    else
      zX2_howManyWith_B30 KK4 this x1 x3 x2 0 M4
    else none
def zX2_howManyWith_L4 : Nat → Nat → Int32 → Int32 → Int32 → Mem → Option (Int32 × Mem)
  | 0 => fun _ _ _ _ _ => none
  | k + 1 => zX2_howManyWith_B4 (zX2_howManyWith_L4 k)
def zX2_howManyWith (this : Nat) (x1 : Int32) (M : Mem) : Option (Int32 × Mem) :=
  if K0 this = (0, 2) then
  zX2_howManyWith_L4 FU this x1 0 0 M
  else none
set_option maxRecDepth 20000 in
set_option maxHeartbeats 4000000 in
theorem kX2_howManyWith_B30 (l : Launch) (E : Ev) (n : Nat) (hn : 2 ≤ n) (ct : Nat) (hct : 111 ≤ ct) (ex : Bool) (KK4 : Nat → Int32 → Int32 → Int32 → Mem → Option (Int32 × Mem)) (hKK4 : ∀ (this : Nat) (x1 : Int32) (x2 : Int32) (x3 : Int32) (M : Mem) (_ : K0 this = (0, 2)), AW l E fX2_howManyWith (fun _ => rmN n 0 0) (PQr E 0 0 ct ex enI) ct ex 0 0 4 [(0, .ref (ad E this)), (1, .int x1), (2, .int x2), (3, .int x3)] [] M (KK4 this x1 x2 x3 M)) (this : Nat) (x1 : Int32) (x3 : Int32) (s0 : Int32) (s1 : Int32) (M : Mem) (hthis : K0 this = (0, 2)) : AW l E fX2_howManyWith (fun _ => rmN n 0 0) (PQr E 0 0 ct ex enI) ct ex 0 0 30 [(0, .ref (ad E this)), (1, .int x1), (3, .int x3)] [.int s1, .int s0] M (zX2_howManyWith_B30 KK4 this x1 x3 s0 s1 M) := by
  unfold zX2_howManyWith_B30
  refine AW.iadd (pc := 30) dX2_howManyWith_30 ?_
  refine AW.genI (fun v1 => ?_)
  refine AW.istore_n (pc := 31) [1, 2, 0, 3] [(0, .ref (ad E this)), (1, .int x1), (2, .int v1), (3, .int x3)] dX2_howManyWith_31 rfl (by decide) rfl ?_
  refine AW.iinc (pc := 32) (w := 3) [1, 2, 3, 0] [(0, .ref (ad E this)), (1, .int x1), (2, .int v1), (3, .int (x3 + 1))] dX2_howManyWith_32 rfl (inc_1 _) (by decide) rfl ?_
  refine AW.goto (pc := 35) 4 dX2_howManyWith_35 (by decide) ?_
  exact hKK4 this x1 v1 (x3 + 1) M hthis
set_option maxRecDepth 20000 in
set_option maxHeartbeats 4000000 in
theorem kX2_howManyWith_B4 (l : Launch) (E : Ev) (n : Nat) (hn : 2 ≤ n) (ct : Nat) (hct : 111 ≤ ct) (ex : Bool) (KK4 : Nat → Int32 → Int32 → Int32 → Mem → Option (Int32 × Mem)) (hKK4 : ∀ (this : Nat) (x1 : Int32) (x2 : Int32) (x3 : Int32) (M : Mem) (_ : K0 this = (0, 2)), AW l E fX2_howManyWith (fun _ => rmN n 0 0) (PQr E 0 0 ct ex enI) ct ex 0 0 4 [(0, .ref (ad E this)), (1, .int x1), (2, .int x2), (3, .int x3)] [] M (KK4 this x1 x2 x3 M)) (this : Nat) (x1 : Int32) (x2 : Int32) (x3 : Int32) (M : Mem) (hthis : K0 this = (0, 2)) : AW l E fX2_howManyWith (fun _ => rmN n 0 0) (PQr E 0 0 ct ex enI) ct ex 0 0 4 [(0, .ref (ad E this)), (1, .int x1), (2, .int x2), (3, .int x3)] [] M (zX2_howManyWith_B4 KK4 this x1 x2 x3 M) := by
  unfold zX2_howManyWith_B4
  refine AW.iload_n (pc := 4) dX2_howManyWith_4 rfl 3 rfl ?_
  refine AW.aload_n (pc := 5) dX2_howManyWith_5 rfl 0 rfl ?_
  refine AW.getI (pc := 6) dX2_howManyWith_6 flX2_18 hthis (kct hthis rfl hct) ?_
  refine AW.icmp_ge (pc := 9) 38 dX2_howManyWith_9 (by decide) (fun h1 => ?_) (fun h1 => ?_)
  · refine AW.iload_n (pc := 38) dX2_howManyWith_38 rfl 2 rfl ?_
    exact AW.iret (pc := 39) dX2_howManyWith_39 rfl (fun _ _ _ => rfl) (Nat.le_refl _) (Nat.le_refl _)
  · refine AW.iload_n (pc := 12) dX2_howManyWith_12 rfl 2 rfl ?_
    refine AW.aload_n (pc := 13) dX2_howManyWith_13 rfl 0 rfl ?_
    refine AW.chk (fun g2 => ?_)
    refine AW.getR (pc := 14) dX2_howManyWith_14 flX2_15 hthis (kct hthis rfl hct) g2 ?_
    refine AW.iload_n (pc := 17) dX2_howManyWith_17 rfl 3 rfl ?_
    refine AW.cN2i (pc := 18) dX2_howManyWith_18 nlX2_41 mbX11_at (fun _ => okR_N (by omega)) (kX11_at l E (n - 1) (by omega) ct hct ex (mR M this 2) x3 M) (Nat.le_of_ble_eq_true rfl) (fun v3 M4 => ?_)
    refine AW.iload_n (pc := 21) dX2_howManyWith_21 rfl 1 rfl ?_
    refine AW.icmp_ne (pc := 22) 29 dX2_howManyWith_22 (by decide) (fun h5 => ?_) (fun h5 => ?_)
    · refine AW.iconst (pc := 25) dX2_howManyWith_25 ci_1 ?_
      refine AW.goto (pc := 26) 30 dX2_howManyWith_26 (by decide) ?_
      exact AW.sub [0, 1, 3] rfl (kX2_howManyWith_B30 l E n hn ct hct ex KK4 hKK4 this x1 x3 x2 1 M4 hthis)
    · refine AW.iconst (pc := 29) dX2_howManyWith_29 ci_0 ?_
      exact AW.sub [0, 1, 3] rfl (kX2_howManyWith_B30 l E n hn ct hct ex KK4 hKK4 this x1 x3 x2 0 M4 hthis)
set_option maxRecDepth 20000 in
set_option maxHeartbeats 4000000 in
theorem kX2_howManyWith_L4 (l : Launch) (E : Ev) (n : Nat) (hn : 2 ≤ n) (ct : Nat) (hct : 111 ≤ ct) (ex : Bool) (k : Nat) : ∀ (this : Nat) (x1 : Int32) (x2 : Int32) (x3 : Int32) (M : Mem) (_ : K0 this = (0, 2)), AW l E fX2_howManyWith (fun _ => rmN n 0 0) (PQr E 0 0 ct ex enI) ct ex 0 0 4 [(0, .ref (ad E this)), (1, .int x1), (2, .int x2), (3, .int x3)] [] M (zX2_howManyWith_L4 k this x1 x2 x3 M) := by
  induction k with
  | zero => intro this x1 x2 x3 M _; exact AW.none
  | succ k ih =>
    intro this x1 x2 x3 M hthis
    exact kX2_howManyWith_B4 l E n hn ct hct ex (zX2_howManyWith_L4 k) ih this x1 x2 x3 M hthis
set_option maxRecDepth 20000 in
set_option maxHeartbeats 4000000 in
theorem kX2_howManyWith (l : Launch) (E : Ev) (n : Nat) (hn : 2 ≤ n) (ct : Nat) (hct : 111 ≤ ct) (ex : Bool) (this : Nat) (x1 : Int32) (M : Mem) : AM l E n ct ex yX2_howManyWith fX2_howManyWith enI [.ref (ad E this), .int x1] M (zX2_howManyWith this x1 M) := by
  unfold zX2_howManyWith
  refine AM.of (by decide +kernel) ⟨rfl, rfl, rfl⟩ (Nat.le_of_ble_eq_true rfl) ?_
  refine AW.chk (fun hthis => ?_)
  refine AW.iconst (pc := 0) dX2_howManyWith_0 ci_0 ?_
  refine AW.istore_n (pc := 1) [1, 2, 0] [(0, .ref (ad E this)), (1, .int x1), (2, .int 0)] dX2_howManyWith_1 rfl (by decide) rfl ?_
  refine AW.iconst (pc := 2) dX2_howManyWith_2 ci_0 ?_
  refine AW.istore_n (pc := 3) [1, 2, 3, 0] [(0, .ref (ad E this)), (1, .int x1), (2, .int 0), (3, .int 0)] dX2_howManyWith_3 rfl (by decide) rfl ?_
  exact kX2_howManyWith_L4 l E n hn ct hct ex FU this x1 0 0 M hthis
-- GateBox$Clues.howManyBy(I)I
def zX2_howManyBy_B31 (KK4 : Nat → Int32 → Int32 → Int32 → Mem → Option (Int32 × Mem)) (this : Nat) (x1 : Int32) (x3 : Int32) (s0 : Int32) (s1 : Int32) (M : Mem) : Option (Int32 × Mem) :=
  lt (s0 + s1) fun v1 =>
  KK4 this x1 v1 (x3 + 1) M
def zX2_howManyBy_B4 (KK4 : Nat → Int32 → Int32 → Int32 → Mem → Option (Int32 × Mem)) (this : Nat) (x1 : Int32) (x2 : Int32) (x3 : Int32) (M : Mem) : Option (Int32 × Mem) :=
  if (mI M this 3) ≤ x3 then
    some (x2, M)
  else
    if mR M this 2 ≠ 0 then
    bnd (zX11_at (mR M this 2) x3 M) fun v3 M4 =>
    if (v3 &&& x1) = 0 then
      zX2_howManyBy_B31 KK4 this x1 x3 x2 0 M4
    else
      zX2_howManyBy_B31 KK4 this x1 x3 x2 1 M4
    else none
def zX2_howManyBy_L4 : Nat → Nat → Int32 → Int32 → Int32 → Mem → Option (Int32 × Mem)
  | 0 => fun _ _ _ _ _ => none
  | k + 1 => zX2_howManyBy_B4 (zX2_howManyBy_L4 k)
def zX2_howManyBy (this : Nat) (x1 : Int32) (M : Mem) : Option (Int32 × Mem) :=
  if K0 this = (0, 2) then
  zX2_howManyBy_L4 FU this x1 0 0 M
  else none
set_option maxRecDepth 20000 in
set_option maxHeartbeats 4000000 in
theorem kX2_howManyBy_B31 (l : Launch) (E : Ev) (n : Nat) (hn : 2 ≤ n) (ct : Nat) (hct : 111 ≤ ct) (ex : Bool) (KK4 : Nat → Int32 → Int32 → Int32 → Mem → Option (Int32 × Mem)) (hKK4 : ∀ (this : Nat) (x1 : Int32) (x2 : Int32) (x3 : Int32) (M : Mem) (_ : K0 this = (0, 2)), AW l E fX2_howManyBy (fun _ => rmN n 0 0) (PQr E 0 0 ct ex enI) ct ex 0 0 4 [(0, .ref (ad E this)), (1, .int x1), (2, .int x2), (3, .int x3)] [] M (KK4 this x1 x2 x3 M)) (this : Nat) (x1 : Int32) (x3 : Int32) (s0 : Int32) (s1 : Int32) (M : Mem) (hthis : K0 this = (0, 2)) : AW l E fX2_howManyBy (fun _ => rmN n 0 0) (PQr E 0 0 ct ex enI) ct ex 0 0 31 [(0, .ref (ad E this)), (1, .int x1), (3, .int x3)] [.int s1, .int s0] M (zX2_howManyBy_B31 KK4 this x1 x3 s0 s1 M) := by
  unfold zX2_howManyBy_B31
  refine AW.iadd (pc := 31) dX2_howManyBy_31 ?_
  refine AW.genI (fun v1 => ?_)
  refine AW.istore_n (pc := 32) [1, 2, 0, 3] [(0, .ref (ad E this)), (1, .int x1), (2, .int v1), (3, .int x3)] dX2_howManyBy_32 rfl (by decide) rfl ?_
  refine AW.iinc (pc := 33) (w := 3) [1, 2, 3, 0] [(0, .ref (ad E this)), (1, .int x1), (2, .int v1), (3, .int (x3 + 1))] dX2_howManyBy_33 rfl (inc_1 _) (by decide) rfl ?_
  refine AW.goto (pc := 36) 4 dX2_howManyBy_36 (by decide) ?_
  exact hKK4 this x1 v1 (x3 + 1) M hthis
set_option maxRecDepth 20000 in
set_option maxHeartbeats 4000000 in
theorem kX2_howManyBy_B4 (l : Launch) (E : Ev) (n : Nat) (hn : 2 ≤ n) (ct : Nat) (hct : 111 ≤ ct) (ex : Bool) (KK4 : Nat → Int32 → Int32 → Int32 → Mem → Option (Int32 × Mem)) (hKK4 : ∀ (this : Nat) (x1 : Int32) (x2 : Int32) (x3 : Int32) (M : Mem) (_ : K0 this = (0, 2)), AW l E fX2_howManyBy (fun _ => rmN n 0 0) (PQr E 0 0 ct ex enI) ct ex 0 0 4 [(0, .ref (ad E this)), (1, .int x1), (2, .int x2), (3, .int x3)] [] M (KK4 this x1 x2 x3 M)) (this : Nat) (x1 : Int32) (x2 : Int32) (x3 : Int32) (M : Mem) (hthis : K0 this = (0, 2)) : AW l E fX2_howManyBy (fun _ => rmN n 0 0) (PQr E 0 0 ct ex enI) ct ex 0 0 4 [(0, .ref (ad E this)), (1, .int x1), (2, .int x2), (3, .int x3)] [] M (zX2_howManyBy_B4 KK4 this x1 x2 x3 M) := by
  unfold zX2_howManyBy_B4
  refine AW.iload_n (pc := 4) dX2_howManyBy_4 rfl 3 rfl ?_
  refine AW.aload_n (pc := 5) dX2_howManyBy_5 rfl 0 rfl ?_
  refine AW.getI (pc := 6) dX2_howManyBy_6 flX2_18 hthis (kct hthis rfl hct) ?_
  refine AW.icmp_ge (pc := 9) 39 dX2_howManyBy_9 (by decide) (fun h1 => ?_) (fun h1 => ?_)
  · refine AW.iload_n (pc := 39) dX2_howManyBy_39 rfl 2 rfl ?_
    exact AW.iret (pc := 40) dX2_howManyBy_40 rfl (fun _ _ _ => rfl) (Nat.le_refl _) (Nat.le_refl _)
  · refine AW.iload_n (pc := 12) dX2_howManyBy_12 rfl 2 rfl ?_
    refine AW.aload_n (pc := 13) dX2_howManyBy_13 rfl 0 rfl ?_
    refine AW.chk (fun g2 => ?_)
    refine AW.getR (pc := 14) dX2_howManyBy_14 flX2_15 hthis (kct hthis rfl hct) g2 ?_
    refine AW.iload_n (pc := 17) dX2_howManyBy_17 rfl 3 rfl ?_
    refine AW.cN2i (pc := 18) dX2_howManyBy_18 nlX2_41 mbX11_at (fun _ => okR_N (by omega)) (kX11_at l E (n - 1) (by omega) ct hct ex (mR M this 2) x3 M) (Nat.le_of_ble_eq_true rfl) (fun v3 M4 => ?_)
    refine AW.iload_n (pc := 21) dX2_howManyBy_21 rfl 1 rfl ?_
    refine AW.iand (pc := 22) dX2_howManyBy_22 ?_
    refine AW.if_eq (pc := 23) 30 dX2_howManyBy_23 (by decide) (fun h5 => ?_) (fun h5 => ?_)
    · refine AW.iconst (pc := 30) dX2_howManyBy_30 ci_0 ?_
      exact AW.sub [0, 1, 3] rfl (kX2_howManyBy_B31 l E n hn ct hct ex KK4 hKK4 this x1 x3 x2 0 M4 hthis)
    · refine AW.iconst (pc := 26) dX2_howManyBy_26 ci_1 ?_
      refine AW.goto (pc := 27) 31 dX2_howManyBy_27 (by decide) ?_
      exact AW.sub [0, 1, 3] rfl (kX2_howManyBy_B31 l E n hn ct hct ex KK4 hKK4 this x1 x3 x2 1 M4 hthis)
set_option maxRecDepth 20000 in
set_option maxHeartbeats 4000000 in
theorem kX2_howManyBy_L4 (l : Launch) (E : Ev) (n : Nat) (hn : 2 ≤ n) (ct : Nat) (hct : 111 ≤ ct) (ex : Bool) (k : Nat) : ∀ (this : Nat) (x1 : Int32) (x2 : Int32) (x3 : Int32) (M : Mem) (_ : K0 this = (0, 2)), AW l E fX2_howManyBy (fun _ => rmN n 0 0) (PQr E 0 0 ct ex enI) ct ex 0 0 4 [(0, .ref (ad E this)), (1, .int x1), (2, .int x2), (3, .int x3)] [] M (zX2_howManyBy_L4 k this x1 x2 x3 M) := by
  induction k with
  | zero => intro this x1 x2 x3 M _; exact AW.none
  | succ k ih =>
    intro this x1 x2 x3 M hthis
    exact kX2_howManyBy_B4 l E n hn ct hct ex (zX2_howManyBy_L4 k) ih this x1 x2 x3 M hthis
set_option maxRecDepth 20000 in
set_option maxHeartbeats 4000000 in
theorem kX2_howManyBy (l : Launch) (E : Ev) (n : Nat) (hn : 2 ≤ n) (ct : Nat) (hct : 111 ≤ ct) (ex : Bool) (this : Nat) (x1 : Int32) (M : Mem) : AM l E n ct ex yX2_howManyBy fX2_howManyBy enI [.ref (ad E this), .int x1] M (zX2_howManyBy this x1 M) := by
  unfold zX2_howManyBy
  refine AM.of (by decide +kernel) ⟨rfl, rfl, rfl⟩ (Nat.le_of_ble_eq_true rfl) ?_
  refine AW.chk (fun hthis => ?_)
  refine AW.iconst (pc := 0) dX2_howManyBy_0 ci_0 ?_
  refine AW.istore_n (pc := 1) [1, 2, 0] [(0, .ref (ad E this)), (1, .int x1), (2, .int 0)] dX2_howManyBy_1 rfl (by decide) rfl ?_
  refine AW.iconst (pc := 2) dX2_howManyBy_2 ci_0 ?_
  refine AW.istore_n (pc := 3) [1, 2, 3, 0] [(0, .ref (ad E this)), (1, .int x1), (2, .int 0), (3, .int 0)] dX2_howManyBy_3 rfl (by decide) rfl ?_
  exact kX2_howManyBy_L4 l E n hn ct hct ex FU this x1 0 0 M hthis
-- GateBox.who(III)I
def zX11_who (this : Nat) (x1 : Int32) (x2 : Int32) (x3 : Int32) (M : Mem) : Option ((Int32 ⊕ Nat) × Mem) :=
  if K0 this = (0, 11) then
  bndX (zX11_gateOf this x1 M) fun v1 M2 =>
  if K0 v1 = (0, 4) then
  if mR M2 v1 0 ≠ 0 then
  if K0 (mR M2 v1 0) = (0, 8) then
  bndX (zX11_askKnown x2 ((mI M2 (mR M2 v1 0) 0) - 1) M2) fun _ M6 =>
  bndX (zX11_askKnown x3 1 M6) fun _ M7 =>
  bnd (zX11_readClues this v1 M7) fun _ M8 =>
  if x3 = 0 then
    if mR M8 this 11 ≠ 0 then
    if K0 (mR M8 this 11) = (0, 2) then
    bnd (zX2_howManyWith (mR M8 this 11) (1 <<< (x2 &&& 31)) M8) fun v11 M12 =>
    some (.inl v11, M12)
    else none
    else none
  else
    if mR M8 this 11 ≠ 0 then
    if K0 (mR M8 this 11) = (0, 2) then
    bnd (zX2_howManyBy (mR M8 this 11) (1 <<< (x2 &&& 31)) M8) fun v15 M16 =>
    some (.inl v15, M16)
    else none
    else none
  else none
  else none
  else none
  else none
set_option maxRecDepth 20000 in
set_option maxHeartbeats 4000000 in
theorem kX11_who (l : Launch) (E : Ev) (hst : l.stackTraces = false) (n : Nat) (hn : 8 ≤ n) (ct : Nat) (hct : 111 ≤ ct) (ex : Bool) (this : Nat) (x1 : Int32) (x2 : Int32) (x3 : Int32) (M : Mem) : AMX l E n ct ex yX11_who fX11_who enI [.ref (ad E this), .int x1, .int x2, .int x3] M (zX11_who this x1 x2 x3 M) := by
  unfold zX11_who
  refine AMX.of (by decide +kernel) ⟨rfl, rfl, rfl⟩ (Nat.le_of_ble_eq_true rfl) ?_
  refine AW.chk (fun hthis => ?_)
  refine AW.aload_n (pc := 0) dX11_who_0 rfl 0 rfl ?_
  refine AW.iload_n (pc := 1) dX11_who_1 rfl 1 rfl ?_
  refine AW.xV1r (pc := 2) rfl dX11_who_2 mlX11_106 mbX11_gateOf rfl hthis (kct hthis rfl hct) (by omega) (kX11_gateOf l E hst (n - 1) (by omega) ct hct ex this x1 M) (Nat.le_of_ble_eq_true rfl) (fun v1 M2 => ?_)
  refine AW.astore (pc := 5) [1, 3, 4, 0] [(0, .ref (ad E this)), (2, .int x2), (3, .int x3), (4, .ref (ad E v1))] dX11_who_5 (by decide) rfl ?_
  refine AW.iload_n (pc := 7) dX11_who_7 rfl 1 rfl ?_
  refine AW.aload (pc := 8) dX11_who_8 3 rfl ?_
  refine AW.chk (fun g3 => ?_)
  refine AW.chk (fun g4 => ?_)
  refine AW.getR (pc := 10) dX11_who_10 flX11_43 g3 (kct g3 rfl hct) g4 ?_
  refine AW.chk (fun g5 => ?_)
  refine AW.getI (pc := 13) dX11_who_13 flX11_148 g5 (kct g5 rfl hct) ?_
  refine AW.iconst (pc := 16) dX11_who_16 ci_1 ?_
  refine AW.isub (pc := 17) dX11_who_17 ?_
  refine AW.xS2v (pc := 18) rfl dX11_who_18 mlX11_134 mbX11_askKnown (by omega) (kX11_askKnown l E hst (n - 1) (by omega) ct hct ex x2 ((mI M2 (mR M2 v1 0) 0) - 1) M2) (Nat.le_of_ble_eq_true rfl) (fun _ M6 => ?_)
  refine AW.iload_n (pc := 21) dX11_who_21 rfl 2 rfl ?_
  refine AW.iconst (pc := 22) dX11_who_22 ci_1 ?_
  refine AW.xS2v (pc := 23) rfl dX11_who_23 mlX11_134 mbX11_askKnown (by omega) (kX11_askKnown l E hst (n - 1) (by omega) ct hct ex x3 1 M6) (Nat.le_of_ble_eq_true rfl) (fun _ M7 => ?_)
  refine AW.aload_n (pc := 26) dX11_who_26 rfl 0 rfl ?_
  refine AW.aload (pc := 27) dX11_who_27 3 rfl ?_
  refine AW.cV1v (pc := 29) dX11_who_29 mlX11_297 mbX11_readClues rfl hthis (kct hthis rfl hct) (fun r => okR_X (by omega) r) (kX11_readClues l E (n - 1) (by omega) ct hct ex this v1 M7) (Nat.le_of_ble_eq_true rfl) (fun _ M8 => ?_)
  refine AW.iload_n (pc := 32) dX11_who_32 rfl 2 rfl ?_
  refine AW.if_ne (pc := 33) 49 dX11_who_33 (by decide) (fun h9 => ?_) (fun h9 => ?_)
  · refine AW.aload_n (pc := 36) dX11_who_36 rfl 0 rfl ?_
    refine AW.chk (fun g10 => ?_)
    refine AW.getR (pc := 37) dX11_who_37 flX11_82 hthis (kct hthis rfl hct) g10 ?_
    refine AW.iconst (pc := 40) dX11_who_40 ci_1 ?_
    refine AW.iload_n (pc := 41) dX11_who_41 rfl 1 rfl ?_
    refine AW.ishl (pc := 42) dX11_who_42 ?_
    refine AW.chk (fun g13 => ?_)
    refine AW.cV1i (pc := 43) dX11_who_43 mlX11_309 mbX2_howManyWith rfl g13 (kct g13 rfl hct) (fun r => okR_X (by omega) r) (kX2_howManyWith l E (n - 1) (by omega) ct hct ex (mR M8 this 11) (1 <<< (x2 &&& 31)) M8) (Nat.le_of_ble_eq_true rfl) (fun v11 M12 => ?_)
    refine AW.goto (pc := 46) 59 dX11_who_46 (by decide) ?_
    exact AW.iret (pc := 59) dX11_who_59 rfl (fun _ _ _ => rfl) (Nat.le_refl _) (Nat.le_refl _)
  · refine AW.aload_n (pc := 49) dX11_who_49 rfl 0 rfl ?_
    refine AW.chk (fun g14 => ?_)
    refine AW.getR (pc := 50) dX11_who_50 flX11_82 hthis (kct hthis rfl hct) g14 ?_
    refine AW.iconst (pc := 53) dX11_who_53 ci_1 ?_
    refine AW.iload_n (pc := 54) dX11_who_54 rfl 1 rfl ?_
    refine AW.ishl (pc := 55) dX11_who_55 ?_
    refine AW.chk (fun g17 => ?_)
    refine AW.cV1i (pc := 56) dX11_who_56 mlX11_312 mbX2_howManyBy rfl g17 (kct g17 rfl hct) (fun r => okR_X (by omega) r) (kX2_howManyBy l E (n - 1) (by omega) ct hct ex (mR M8 this 11) (1 <<< (x2 &&& 31)) M8) (Nat.le_of_ble_eq_true rfl) (fun v15 M16 => ?_)
    exact AW.iret (pc := 59) dX11_who_59 rfl (fun _ _ _ => rfl) (Nat.le_refl _) (Nat.le_refl _)
-- GateBox.strange(I)I
def zX11_strange (this : Nat) (x1 : Int32) (M : Mem) : Option ((Int32 ⊕ Nat) × Mem) :=
  if K0 this = (0, 11) then
  bndX (zX11_gateOf this x1 M) fun v1 M2 =>
  bnd (zX11_readClues this v1 M2) fun _ M3 =>
  if mR M3 this 11 ≠ 0 then
  if K0 (mR M3 this 11) = (0, 2) then
  bnd (zX2_howManyWith (mR M3 this 11) 0 M3) fun v5 M6 =>
  some (.inl v5, M6)
  else none
  else none
  else none
set_option maxRecDepth 20000 in
set_option maxHeartbeats 4000000 in
theorem kX11_strange (l : Launch) (E : Ev) (hst : l.stackTraces = false) (n : Nat) (hn : 8 ≤ n) (ct : Nat) (hct : 111 ≤ ct) (ex : Bool) (this : Nat) (x1 : Int32) (M : Mem) : AMX l E n ct ex yX11_strange fX11_strange enI [.ref (ad E this), .int x1] M (zX11_strange this x1 M) := by
  unfold zX11_strange
  refine AMX.of (by decide +kernel) ⟨rfl, rfl, rfl⟩ (Nat.le_of_ble_eq_true rfl) ?_
  refine AW.chk (fun hthis => ?_)
  refine AW.aload_n (pc := 0) dX11_strange_0 rfl 0 rfl ?_
  refine AW.aload_n (pc := 1) dX11_strange_1 rfl 0 rfl ?_
  refine AW.iload_n (pc := 2) dX11_strange_2 rfl 1 rfl ?_
  refine AW.xV1r (pc := 3) rfl dX11_strange_3 mlX11_106 mbX11_gateOf rfl hthis (kct hthis rfl hct) (by omega) (kX11_gateOf l E hst (n - 1) (by omega) ct hct ex this x1 M) (Nat.le_of_ble_eq_true rfl) (fun v1 M2 => ?_)
  refine AW.cV1v (pc := 6) dX11_strange_6 mlX11_297 mbX11_readClues rfl hthis (kct hthis rfl hct) (fun r => okR_X (by omega) r) (kX11_readClues l E (n - 1) (by omega) ct hct ex this v1 M2) (Nat.le_of_ble_eq_true rfl) (fun _ M3 => ?_)
  refine AW.aload_n (pc := 9) dX11_strange_9 rfl 0 rfl ?_
  refine AW.chk (fun g4 => ?_)
  refine AW.getR (pc := 10) dX11_strange_10 flX11_82 hthis (kct hthis rfl hct) g4 ?_
  refine AW.iconst (pc := 13) dX11_strange_13 ci_0 ?_
  refine AW.chk (fun g7 => ?_)
  refine AW.cV1i (pc := 14) dX11_strange_14 mlX11_309 mbX2_howManyWith rfl g7 (kct g7 rfl hct) (fun r => okR_X (by omega) r) (kX2_howManyWith l E (n - 1) (by omega) ct hct ex (mR M3 this 11) 0 M3) (Nat.le_of_ble_eq_true rfl) (fun v5 M6 => ?_)
  exact AW.iret (pc := 17) dX11_strange_17 rfl (fun _ _ _ => rfl) (Nat.le_refl _) (Nat.le_refl _)
-- GateBox$Clues.explainAll(I)Z
def zX2_explainAll_B31 (KK2 : Nat → Int32 → Int32 → Mem → Option (Int32 × Mem)) (this : Nat) (x1 : Int32) (x2 : Int32) (M : Mem) : Option (Int32 × Mem) :=
  KK2 this x1 (x2 + 1) M
def zX2_explainAll_B2 (KK2 : Nat → Int32 → Int32 → Mem → Option (Int32 × Mem)) (this : Nat) (x1 : Int32) (x2 : Int32) (M : Mem) : Option (Int32 × Mem) :=
  if (mI M this 3) ≤ x2 then
    some (1, M)
  else
    if mR M this 2 ≠ 0 then
    bnd (zX11_at (mR M this 2) x2 M) fun v3 M4 =>
    if v3 = 0 then
      zX2_explainAll_B31 KK2 this x1 x2 M4
    else
      if (v3 &&& x1) = 0 then
        some (0, M4)
      else
        zX2_explainAll_B31 KK2 this x1 x2 M4
    else none
def zX2_explainAll_L2 : Nat → Nat → Int32 → Int32 → Mem → Option (Int32 × Mem)
  | 0 => fun _ _ _ _ => none
  | k + 1 => zX2_explainAll_B2 (zX2_explainAll_L2 k)
def zX2_explainAll (this : Nat) (x1 : Int32) (M : Mem) : Option (Int32 × Mem) :=
  if K0 this = (0, 2) then
  zX2_explainAll_L2 FU this x1 0 M
  else none
set_option maxRecDepth 20000 in
set_option maxHeartbeats 4000000 in
theorem kX2_explainAll_B31 (l : Launch) (E : Ev) (n : Nat) (hn : 2 ≤ n) (ct : Nat) (hct : 111 ≤ ct) (ex : Bool) (KK2 : Nat → Int32 → Int32 → Mem → Option (Int32 × Mem)) (hKK2 : ∀ (this : Nat) (x1 : Int32) (x2 : Int32) (M : Mem) (_ : K0 this = (0, 2)), AW l E fX2_explainAll (fun _ => rmN n 0 0) (PQr E 0 0 ct ex enI) ct ex 0 0 2 [(0, .ref (ad E this)), (1, .int x1), (2, .int x2)] [] M (KK2 this x1 x2 M)) (this : Nat) (x1 : Int32) (x2 : Int32) (M : Mem) (hthis : K0 this = (0, 2)) : AW l E fX2_explainAll (fun _ => rmN n 0 0) (PQr E 0 0 ct ex enI) ct ex 0 0 31 [(0, .ref (ad E this)), (1, .int x1), (2, .int x2)] [] M (zX2_explainAll_B31 KK2 this x1 x2 M) := by
  unfold zX2_explainAll_B31
  refine AW.iinc (pc := 31) (w := 2) [1, 2, 0] [(0, .ref (ad E this)), (1, .int x1), (2, .int (x2 + 1))] dX2_explainAll_31 rfl (inc_1 _) (by decide) rfl ?_
  refine AW.goto (pc := 34) 2 dX2_explainAll_34 (by decide) ?_
  exact hKK2 this x1 (x2 + 1) M hthis
set_option maxRecDepth 20000 in
set_option maxHeartbeats 4000000 in
theorem kX2_explainAll_B2 (l : Launch) (E : Ev) (n : Nat) (hn : 2 ≤ n) (ct : Nat) (hct : 111 ≤ ct) (ex : Bool) (KK2 : Nat → Int32 → Int32 → Mem → Option (Int32 × Mem)) (hKK2 : ∀ (this : Nat) (x1 : Int32) (x2 : Int32) (M : Mem) (_ : K0 this = (0, 2)), AW l E fX2_explainAll (fun _ => rmN n 0 0) (PQr E 0 0 ct ex enI) ct ex 0 0 2 [(0, .ref (ad E this)), (1, .int x1), (2, .int x2)] [] M (KK2 this x1 x2 M)) (this : Nat) (x1 : Int32) (x2 : Int32) (M : Mem) (hthis : K0 this = (0, 2)) : AW l E fX2_explainAll (fun _ => rmN n 0 0) (PQr E 0 0 ct ex enI) ct ex 0 0 2 [(0, .ref (ad E this)), (1, .int x1), (2, .int x2)] [] M (zX2_explainAll_B2 KK2 this x1 x2 M) := by
  unfold zX2_explainAll_B2
  refine AW.iload_n (pc := 2) dX2_explainAll_2 rfl 2 rfl ?_
  refine AW.aload_n (pc := 3) dX2_explainAll_3 rfl 0 rfl ?_
  refine AW.getI (pc := 4) dX2_explainAll_4 flX2_18 hthis (kct hthis rfl hct) ?_
  refine AW.icmp_ge (pc := 7) 37 dX2_explainAll_7 (by decide) (fun h1 => ?_) (fun h1 => ?_)
  · refine AW.iconst (pc := 37) dX2_explainAll_37 ci_1 ?_
    exact AW.zret (pc := 38) dX2_explainAll_38 rfl (Or.inr rfl) (fun _ _ _ => rfl) (Nat.le_refl _) (Nat.le_refl _)
  · refine AW.aload_n (pc := 10) dX2_explainAll_10 rfl 0 rfl ?_
    refine AW.chk (fun g2 => ?_)
    refine AW.getR (pc := 11) dX2_explainAll_11 flX2_15 hthis (kct hthis rfl hct) g2 ?_
    refine AW.iload_n (pc := 14) dX2_explainAll_14 rfl 2 rfl ?_
    refine AW.cN2i (pc := 15) dX2_explainAll_15 nlX2_41 mbX11_at (fun _ => okR_N (by omega)) (kX11_at l E (n - 1) (by omega) ct hct ex (mR M this 2) x2 M) (Nat.le_of_ble_eq_true rfl) (fun v3 M4 => ?_)
    refine AW.istore_n (pc := 18) [1, 2, 3, 0] [(0, .ref (ad E this)), (1, .int x1), (2, .int x2), (3, .int v3)] dX2_explainAll_18 rfl (by decide) rfl ?_
    refine AW.iload_n (pc := 19) dX2_explainAll_19 rfl 3 rfl ?_
    refine AW.if_eq (pc := 20) 31 dX2_explainAll_20 (by decide) (fun h5 => ?_) (fun h5 => ?_)
    · exact AW.sub [0, 1, 2] rfl (kX2_explainAll_B31 l E n hn ct hct ex KK2 hKK2 this x1 x2 M4 hthis)
    · refine AW.iload_n (pc := 23) dX2_explainAll_23 rfl 3 rfl ?_
      refine AW.iload_n (pc := 24) dX2_explainAll_24 rfl 1 rfl ?_
      refine AW.iand (pc := 25) dX2_explainAll_25 ?_
      refine AW.if_ne (pc := 26) 31 dX2_explainAll_26 (by decide) (fun h6 => ?_) (fun h6 => ?_)
      · refine AW.iconst (pc := 29) dX2_explainAll_29 ci_0 ?_
        exact AW.zret (pc := 30) dX2_explainAll_30 rfl (Or.inl rfl) (fun _ _ _ => rfl) (Nat.le_refl _) (Nat.le_refl _)
      · exact AW.sub [0, 1, 2] rfl (kX2_explainAll_B31 l E n hn ct hct ex KK2 hKK2 this x1 x2 M4 hthis)
set_option maxRecDepth 20000 in
set_option maxHeartbeats 4000000 in
theorem kX2_explainAll_L2 (l : Launch) (E : Ev) (n : Nat) (hn : 2 ≤ n) (ct : Nat) (hct : 111 ≤ ct) (ex : Bool) (k : Nat) : ∀ (this : Nat) (x1 : Int32) (x2 : Int32) (M : Mem) (_ : K0 this = (0, 2)), AW l E fX2_explainAll (fun _ => rmN n 0 0) (PQr E 0 0 ct ex enI) ct ex 0 0 2 [(0, .ref (ad E this)), (1, .int x1), (2, .int x2)] [] M (zX2_explainAll_L2 k this x1 x2 M) := by
  induction k with
  | zero => intro this x1 x2 M _; exact AW.none
  | succ k ih =>
    intro this x1 x2 M hthis
    exact kX2_explainAll_B2 l E n hn ct hct ex (zX2_explainAll_L2 k) ih this x1 x2 M hthis
set_option maxRecDepth 20000 in
set_option maxHeartbeats 4000000 in
theorem kX2_explainAll (l : Launch) (E : Ev) (n : Nat) (hn : 2 ≤ n) (ct : Nat) (hct : 111 ≤ ct) (ex : Bool) (this : Nat) (x1 : Int32) (M : Mem) : AM l E n ct ex yX2_explainAll fX2_explainAll enI [.ref (ad E this), .int x1] M (zX2_explainAll this x1 M) := by
  unfold zX2_explainAll
  refine AM.of (by decide +kernel) ⟨rfl, rfl, rfl⟩ (Nat.le_of_ble_eq_true rfl) ?_
  refine AW.chk (fun hthis => ?_)
  refine AW.iconst (pc := 0) dX2_explainAll_0 ci_0 ?_
  refine AW.istore_n (pc := 1) [1, 2, 0] [(0, .ref (ad E this)), (1, .int x1), (2, .int 0)] dX2_explainAll_1 rfl (by decide) rfl ?_
  exact kX2_explainAll_L2 l E n hn ct hct ex FU this x1 0 M hthis
-- GateBox$Clues.fewestSorts()I
def zX2_fewestSorts_B33 (KK8 : Nat → Int32 → Int32 → Mem → Option (Int32 × Mem)) (this : Nat) (x1 : Int32) (x2 : Int32) (M : Mem) : Option (Int32 × Mem) :=
  KK8 this x1 (x2 + (-1)) M
def zX2_fewestSorts_B8 (KK8 : Nat → Int32 → Int32 → Mem → Option (Int32 × Mem)) (this : Nat) (x1 : Int32) (x2 : Int32) (M : Mem) : Option (Int32 × Mem) :=
  if x2 < 0 then
    some (x1, M)
  else
    bnd (zJ6_bitCount_0f7a4 x2 M) fun v2 M3 =>
    bnd (zJ6_bitCount_0f7a4 x1 M3) fun v4 M5 =>
    if v4 < v2 then
      zX2_fewestSorts_B33 KK8 this x1 x2 M5
    else
      bnd (zX2_explainAll this x2 M5) fun v7 M8 =>
      if v7 = 0 then
        zX2_fewestSorts_B33 KK8 this x1 x2 M8
      else
        zX2_fewestSorts_B33 KK8 this x2 x2 M8
def zX2_fewestSorts_L8 : Nat → Nat → Int32 → Int32 → Mem → Option (Int32 × Mem)
  | 0 => fun _ _ _ _ => none
  | k + 1 => zX2_fewestSorts_B8 (zX2_fewestSorts_L8 k)
def zX2_fewestSorts (this : Nat) (M : Mem) : Option (Int32 × Mem) :=
  if K0 this = (0, 2) then
  zX2_fewestSorts_L8 FU this 255 255 M
  else none
set_option maxRecDepth 20000 in
set_option maxHeartbeats 4000000 in
theorem kX2_fewestSorts_B33 (l : Launch) (E : Ev) (n : Nat) (hn : 3 ≤ n) (ct : Nat) (hct : 111 ≤ ct) (ex : Bool) (KK8 : Nat → Int32 → Int32 → Mem → Option (Int32 × Mem)) (hKK8 : ∀ (this : Nat) (x1 : Int32) (x2 : Int32) (M : Mem) (_ : K0 this = (0, 2)), AW l E fX2_fewestSorts (fun _ => rmN n 0 0) (PQr E 0 0 ct ex enI) ct ex 0 0 8 [(0, .ref (ad E this)), (1, .int x1), (2, .int x2)] [] M (KK8 this x1 x2 M)) (this : Nat) (x1 : Int32) (x2 : Int32) (M : Mem) (hthis : K0 this = (0, 2)) : AW l E fX2_fewestSorts (fun _ => rmN n 0 0) (PQr E 0 0 ct ex enI) ct ex 0 0 33 [(0, .ref (ad E this)), (1, .int x1), (2, .int x2)] [] M (zX2_fewestSorts_B33 KK8 this x1 x2 M) := by
  unfold zX2_fewestSorts_B33
  refine AW.iinc (pc := 33) (w := 2) [1, 2, 0] [(0, .ref (ad E this)), (1, .int x1), (2, .int (x2 + (-1)))] dX2_fewestSorts_33 rfl (inc_m1 _) (by decide) rfl ?_
  refine AW.goto (pc := 36) 8 dX2_fewestSorts_36 (by decide) ?_
  exact hKK8 this x1 (x2 + (-1)) M hthis
set_option maxRecDepth 20000 in
set_option maxHeartbeats 4000000 in
theorem kX2_fewestSorts_B8 (l : Launch) (E : Ev) (n : Nat) (hn : 3 ≤ n) (ct : Nat) (hct : 111 ≤ ct) (ex : Bool) (KK8 : Nat → Int32 → Int32 → Mem → Option (Int32 × Mem)) (hKK8 : ∀ (this : Nat) (x1 : Int32) (x2 : Int32) (M : Mem) (_ : K0 this = (0, 2)), AW l E fX2_fewestSorts (fun _ => rmN n 0 0) (PQr E 0 0 ct ex enI) ct ex 0 0 8 [(0, .ref (ad E this)), (1, .int x1), (2, .int x2)] [] M (KK8 this x1 x2 M)) (this : Nat) (x1 : Int32) (x2 : Int32) (M : Mem) (hthis : K0 this = (0, 2)) : AW l E fX2_fewestSorts (fun _ => rmN n 0 0) (PQr E 0 0 ct ex enI) ct ex 0 0 8 [(0, .ref (ad E this)), (1, .int x1), (2, .int x2)] [] M (zX2_fewestSorts_B8 KK8 this x1 x2 M) := by
  unfold zX2_fewestSorts_B8
  refine AW.iload_n (pc := 8) dX2_fewestSorts_8 rfl 2 rfl ?_
  refine AW.if_lt (pc := 9) 39 dX2_fewestSorts_9 (by decide) (fun h1 => ?_) (fun h1 => ?_)
  · refine AW.iload_n (pc := 39) dX2_fewestSorts_39 rfl 1 rfl ?_
    exact AW.iret (pc := 40) dX2_fewestSorts_40 rfl (fun _ _ _ => rfl) (Nat.le_refl _) (Nat.le_refl _)
  · refine AW.iload_n (pc := 12) dX2_fewestSorts_12 rfl 2 rfl ?_
    refine AW.cS1i (pc := 13) dX2_fewestSorts_13 mlX2_71 mbJ6_bitCount_0f7a4 (fun _ => okR_N (by omega)) (kJ6_bitCount_0f7a4 l E (n - 1) (by omega) ct hct ex x2 M) (Nat.le_of_ble_eq_true rfl) (fun v2 M3 => ?_)
    refine AW.iload_n (pc := 16) dX2_fewestSorts_16 rfl 1 rfl ?_
    refine AW.cS1i (pc := 17) dX2_fewestSorts_17 mlX2_71 mbJ6_bitCount_0f7a4 (fun _ => okR_N (by omega)) (kJ6_bitCount_0f7a4 l E (n - 1) (by omega) ct hct ex x1 M3) (Nat.le_of_ble_eq_true rfl) (fun v4 M5 => ?_)
    refine AW.icmp_gt (pc := 20) 33 dX2_fewestSorts_20 (by decide) (fun h6 => ?_) (fun h6 => ?_)
    · exact kX2_fewestSorts_B33 l E n hn ct hct ex KK8 hKK8 this x1 x2 M5 hthis
    · refine AW.aload_n (pc := 23) dX2_fewestSorts_23 rfl 0 rfl ?_
      refine AW.iload_n (pc := 24) dX2_fewestSorts_24 rfl 2 rfl ?_
      refine AW.cV1i (pc := 25) dX2_fewestSorts_25 mlX2_77 mbX2_explainAll rfl hthis (kct hthis rfl hct) (fun _ => okR_N (by omega)) (kX2_explainAll l E (n - 1) (by omega) ct hct ex this x2 M5) (Nat.le_of_ble_eq_true rfl) (fun v7 M8 => ?_)
      refine AW.if_eq (pc := 28) 33 dX2_fewestSorts_28 (by decide) (fun h9 => ?_) (fun h9 => ?_)
      · exact kX2_fewestSorts_B33 l E n hn ct hct ex KK8 hKK8 this x1 x2 M8 hthis
      · refine AW.iload_n (pc := 31) dX2_fewestSorts_31 rfl 2 rfl ?_
        refine AW.istore_n (pc := 32) [1, 0, 2] [(0, .ref (ad E this)), (1, .int x2), (2, .int x2)] dX2_fewestSorts_32 rfl (by decide) rfl ?_
        exact kX2_fewestSorts_B33 l E n hn ct hct ex KK8 hKK8 this x2 x2 M8 hthis
set_option maxRecDepth 20000 in
set_option maxHeartbeats 4000000 in
theorem kX2_fewestSorts_L8 (l : Launch) (E : Ev) (n : Nat) (hn : 3 ≤ n) (ct : Nat) (hct : 111 ≤ ct) (ex : Bool) (k : Nat) : ∀ (this : Nat) (x1 : Int32) (x2 : Int32) (M : Mem) (_ : K0 this = (0, 2)), AW l E fX2_fewestSorts (fun _ => rmN n 0 0) (PQr E 0 0 ct ex enI) ct ex 0 0 8 [(0, .ref (ad E this)), (1, .int x1), (2, .int x2)] [] M (zX2_fewestSorts_L8 k this x1 x2 M) := by
  induction k with
  | zero => intro this x1 x2 M _; exact AW.none
  | succ k ih =>
    intro this x1 x2 M hthis
    exact kX2_fewestSorts_B8 l E n hn ct hct ex (zX2_fewestSorts_L8 k) ih this x1 x2 M hthis
set_option maxRecDepth 20000 in
set_option maxHeartbeats 4000000 in
theorem kX2_fewestSorts (l : Launch) (E : Ev) (n : Nat) (hn : 3 ≤ n) (ct : Nat) (hct : 111 ≤ ct) (ex : Bool) (this : Nat) (M : Mem) : AM l E n ct ex yX2_fewestSorts fX2_fewestSorts enI [.ref (ad E this)] M (zX2_fewestSorts this M) := by
  unfold zX2_fewestSorts
  refine AM.of (by decide +kernel) ⟨rfl, rfl, rfl⟩ (Nat.le_of_ble_eq_true rfl) ?_
  refine AW.chk (fun hthis => ?_)
  refine AW.sipush (pc := 0) dX2_fewestSorts_0 cs_255 ?_
  refine AW.istore_n (pc := 3) [1, 0] [(0, .ref (ad E this)), (1, .int 255)] dX2_fewestSorts_3 rfl (by decide) rfl ?_
  refine AW.sipush (pc := 4) dX2_fewestSorts_4 cs_255 ?_
  refine AW.istore_n (pc := 7) [1, 2, 0] [(0, .ref (ad E this)), (1, .int 255), (2, .int 255)] dX2_fewestSorts_7 rfl (by decide) rfl ?_
  exact kX2_fewestSorts_L8 l E n hn ct hct ex FU this 255 255 M hthis
-- GateBox.fewest(I)I
def zX11_fewest (this : Nat) (x1 : Int32) (M : Mem) : Option ((Int32 ⊕ Nat) × Mem) :=
  if K0 this = (0, 11) then
  bndX (zX11_gateOf this x1 M) fun v1 M2 =>
  bnd (zX11_readClues this v1 M2) fun _ M3 =>
  if mR M3 this 11 ≠ 0 then
  if K0 (mR M3 this 11) = (0, 2) then
  bnd (zX2_fewestSorts (mR M3 this 11) M3) fun v5 M6 =>
  some (.inl v5, M6)
  else none
  else none
  else none
set_option maxRecDepth 20000 in
set_option maxHeartbeats 4000000 in
theorem kX11_fewest (l : Launch) (E : Ev) (hst : l.stackTraces = false) (n : Nat) (hn : 8 ≤ n) (ct : Nat) (hct : 111 ≤ ct) (ex : Bool) (this : Nat) (x1 : Int32) (M : Mem) : AMX l E n ct ex yX11_fewest fX11_fewest enI [.ref (ad E this), .int x1] M (zX11_fewest this x1 M) := by
  unfold zX11_fewest
  refine AMX.of (by decide +kernel) ⟨rfl, rfl, rfl⟩ (Nat.le_of_ble_eq_true rfl) ?_
  refine AW.chk (fun hthis => ?_)
  refine AW.aload_n (pc := 0) dX11_fewest_0 rfl 0 rfl ?_
  refine AW.aload_n (pc := 1) dX11_fewest_1 rfl 0 rfl ?_
  refine AW.iload_n (pc := 2) dX11_fewest_2 rfl 1 rfl ?_
  refine AW.xV1r (pc := 3) rfl dX11_fewest_3 mlX11_106 mbX11_gateOf rfl hthis (kct hthis rfl hct) (by omega) (kX11_gateOf l E hst (n - 1) (by omega) ct hct ex this x1 M) (Nat.le_of_ble_eq_true rfl) (fun v1 M2 => ?_)
  refine AW.cV1v (pc := 6) dX11_fewest_6 mlX11_297 mbX11_readClues rfl hthis (kct hthis rfl hct) (fun r => okR_X (by omega) r) (kX11_readClues l E (n - 1) (by omega) ct hct ex this v1 M2) (Nat.le_of_ble_eq_true rfl) (fun _ M3 => ?_)
  refine AW.aload_n (pc := 9) dX11_fewest_9 rfl 0 rfl ?_
  refine AW.chk (fun g4 => ?_)
  refine AW.getR (pc := 10) dX11_fewest_10 flX11_82 hthis (kct hthis rfl hct) g4 ?_
  refine AW.chk (fun g7 => ?_)
  refine AW.cV0i (pc := 13) dX11_fewest_13 mlX11_315 mbX2_fewestSorts rfl g7 (kct g7 rfl hct) (fun r => okR_X (by omega) r) (kX2_fewestSorts l E (n - 1) (by omega) ct hct ex (mR M3 this 11) M3) (Nat.le_of_ble_eq_true rfl) (fun v5 M6 => ?_)
  exact AW.iret (pc := 16) dX11_fewest_16 rfl (fun _ _ _ => rfl) (Nat.le_refl _) (Nat.le_refl _)
-- GateBox.guess(IIII)Z
def zX11_guess_B38 (this : Nat) (M : Mem) : Option ((Int32 ⊕ Nat) × Mem) :=
  bnd (zX11_refused this 2 M) fun _ M1 =>
  some (.inl 0, M1)
def zX11_guess (this : Nat) (x1 : Int32) (x2 : Int32) (x3 : Int32) (x4 : Int32) (M : Mem) : Option ((Int32 ⊕ Nat) × Mem) :=
  if K0 this = (0, 11) then
  bndX (zX11_gateOf this x1 M) fun v1 M2 =>
  bndX (zX11_askKnown x2 3 M2) fun _ M3 =>
  if K0 v1 = (0, 4) then
  if mR M3 v1 0 ≠ 0 then
  if K0 (mR M3 v1 0) = (0, 8) then
  bndX (zX11_askKnown x3 ((mI M3 (mR M3 v1 0) 0) - 1) M3) fun _ M7 =>
  if x4 < 0 then
    zX11_guess_B38 this M7
  else
    if x4 ≤ 99 then
      if mR M7 v1 1 ≠ 0 then
      if K0 (mR M7 v1 1) = (0, 0) then
      if mR M7 (mR M7 v1 1) 6 ≠ 0 then
      bnd (zX11_put (mR M7 (mR M7 v1 1) 6) ((x2 * 8) + x3) x4 M7) fun _ M13 =>
      some (.inl 1, M13)
      else none
      else none
      else none
    else
      zX11_guess_B38 this M7
  else none
  else none
  else none
  else none
set_option maxRecDepth 20000 in
set_option maxHeartbeats 4000000 in
theorem kX11_guess_B38 (l : Launch) (E : Ev) (hst : l.stackTraces = false) (n : Nat) (hn : 8 ≤ n) (ct : Nat) (hct : 111 ≤ ct) (ex : Bool) (this : Nat) (M : Mem) (hthis : K0 this = (0, 11)) : AW l E fX11_guess (RX n) (PQX E ct ex enI) ct ex 0 0 38 [(0, .ref (ad E this))] [] M (zX11_guess_B38 this M) := by
  unfold zX11_guess_B38
  refine AW.aload_n (pc := 38) dX11_guess_38 rfl 0 rfl ?_
  refine AW.iconst (pc := 39) dX11_guess_39 ci_2 ?_
  refine AW.cV1v (pc := 40) dX11_guess_40 mlX11_121 mbX11_refused rfl hthis (kct hthis rfl hct) (fun r => okR_X (by omega) r) (kX11_refused l E (n - 1) (by omega) ct hct ex this 2 M) (Nat.le_of_ble_eq_true rfl) (fun _ M1 => ?_)
  refine AW.iconst (pc := 43) dX11_guess_43 ci_0 ?_
  exact AW.zret (pc := 44) dX11_guess_44 rfl (Or.inl rfl) (fun _ _ _ => rfl) (Nat.le_refl _) (Nat.le_refl _)
set_option maxRecDepth 20000 in
set_option maxHeartbeats 4000000 in
theorem kX11_guess (l : Launch) (E : Ev) (hst : l.stackTraces = false) (n : Nat) (hn : 8 ≤ n) (ct : Nat) (hct : 111 ≤ ct) (ex : Bool) (this : Nat) (x1 : Int32) (x2 : Int32) (x3 : Int32) (x4 : Int32) (M : Mem) : AMX l E n ct ex yX11_guess fX11_guess enI [.ref (ad E this), .int x1, .int x2, .int x3, .int x4] M (zX11_guess this x1 x2 x3 x4 M) := by
  unfold zX11_guess
  refine AMX.of (by decide +kernel) ⟨rfl, rfl, rfl⟩ (Nat.le_of_ble_eq_true rfl) ?_
  refine AW.chk (fun hthis => ?_)
  refine AW.aload_n (pc := 0) dX11_guess_0 rfl 0 rfl ?_
  refine AW.iload_n (pc := 1) dX11_guess_1 rfl 1 rfl ?_
  refine AW.xV1r (pc := 2) rfl dX11_guess_2 mlX11_106 mbX11_gateOf rfl hthis (kct hthis rfl hct) (by omega) (kX11_gateOf l E hst (n - 1) (by omega) ct hct ex this x1 M) (Nat.le_of_ble_eq_true rfl) (fun v1 M2 => ?_)
  refine AW.astore (pc := 5) [1, 3, 4, 5, 0] [(0, .ref (ad E this)), (2, .int x2), (3, .int x3), (4, .int x4), (5, .ref (ad E v1))] dX11_guess_5 (by decide) rfl ?_
  refine AW.iload_n (pc := 7) dX11_guess_7 rfl 1 rfl ?_
  refine AW.iconst (pc := 8) dX11_guess_8 ci_3 ?_
  refine AW.xS2v (pc := 9) rfl dX11_guess_9 mlX11_134 mbX11_askKnown (by omega) (kX11_askKnown l E hst (n - 1) (by omega) ct hct ex x2 3 M2) (Nat.le_of_ble_eq_true rfl) (fun _ M3 => ?_)
  refine AW.iload_n (pc := 12) dX11_guess_12 rfl 2 rfl ?_
  refine AW.aload (pc := 13) dX11_guess_13 4 rfl ?_
  refine AW.chk (fun g4 => ?_)
  refine AW.chk (fun g5 => ?_)
  refine AW.getR (pc := 15) dX11_guess_15 flX11_43 g4 (kct g4 rfl hct) g5 ?_
  refine AW.chk (fun g6 => ?_)
  refine AW.getI (pc := 18) dX11_guess_18 flX11_148 g6 (kct g6 rfl hct) ?_
  refine AW.iconst (pc := 21) dX11_guess_21 ci_1 ?_
  refine AW.isub (pc := 22) dX11_guess_22 ?_
  refine AW.xS2v (pc := 23) rfl dX11_guess_23 mlX11_134 mbX11_askKnown (by omega) (kX11_askKnown l E hst (n - 1) (by omega) ct hct ex x3 ((mI M3 (mR M3 v1 0) 0) - 1) M3) (Nat.le_of_ble_eq_true rfl) (fun _ M7 => ?_)
  refine AW.iload (pc := 26) dX11_guess_26 3 rfl ?_
  refine AW.if_lt (pc := 28) 38 dX11_guess_28 (by decide) (fun h8 => ?_) (fun h8 => ?_)
  · exact AW.sub [0] rfl (kX11_guess_B38 l E hst n hn ct hct ex this M7 hthis)
  · refine AW.iload (pc := 31) dX11_guess_31 3 rfl ?_
    refine AW.bipush (pc := 33) dX11_guess_33 cb_99 ?_
    refine AW.icmp_le (pc := 35) 45 dX11_guess_35 (by decide) (fun h9 => ?_) (fun h9 => ?_)
    · refine AW.aload (pc := 45) dX11_guess_45 4 rfl ?_
      refine AW.chk (fun g10 => ?_)
      refine AW.getR (pc := 47) dX11_guess_47 flX11_125 g4 (kct g4 rfl hct) g10 ?_
      refine AW.chk (fun g11 => ?_)
      refine AW.chk (fun g12 => ?_)
      refine AW.getR (pc := 50) dX11_guess_50 flX11_318 g11 (kct g11 rfl hct) g12 ?_
      refine AW.iload_n (pc := 53) dX11_guess_53 rfl 1 rfl ?_
      refine AW.bipush (pc := 54) dX11_guess_54 cb_8 ?_
      refine AW.imul (pc := 56) dX11_guess_56 ?_
      refine AW.iload_n (pc := 57) dX11_guess_57 rfl 2 rfl ?_
      refine AW.iadd (pc := 58) dX11_guess_58 ?_
      refine AW.iload (pc := 59) dX11_guess_59 3 rfl ?_
      refine AW.cS3v (pc := 61) dX11_guess_61 mlX11_321 mbX11_put (fun r => okR_X (by omega) r) (kX11_put l E (n - 1) (by omega) ct hct ex (mR M7 (mR M7 v1 1) 6) ((x2 * 8) + x3) x4 M7) (Nat.le_of_ble_eq_true rfl) (fun _ M13 => ?_)
      refine AW.iconst (pc := 64) dX11_guess_64 ci_1 ?_
      exact AW.zret (pc := 65) dX11_guess_65 rfl (Or.inr rfl) (fun _ _ _ => rfl) (Nat.le_refl _) (Nat.le_refl _)
    · exact AW.sub [0] rfl (kX11_guess_B38 l E hst n hn ct hct ex this M7 hthis)
-- GateBox$Book.guessedOdds(II)I
def zX0_guessedOdds_B39 (KK5 : Nat → Int32 → Int32 → Int32 → Int32 → Mem → Option (Int32 × Mem)) (this : Nat) (x1 : Int32) (x2 : Int32) (x3 : Int32) (x4 : Int32) (M : Mem) : Option (Int32 × Mem) :=
  KK5 this x1 x2 x3 (x4 + 1) M
def zX0_guessedOdds_B5 (KK5 : Nat → Int32 → Int32 → Int32 → Int32 → Mem → Option (Int32 × Mem)) (this : Nat) (x1 : Int32) (x2 : Int32) (x3 : Int32) (x4 : Int32) (M : Mem) : Option (Int32 × Mem) :=
  if 8 ≤ x4 then
    some (x3, M)
  else
    if ((x2 >>> (x4 &&& 31)) &&& 1) = 1 then
      if mR M this 6 ≠ 0 then
      bnd (zX11_at (mR M this 6) ((x1 * 8) + x4) M) fun v4 M5 =>
      lt (x3 + v4) fun v6 =>
      zX0_guessedOdds_B39 KK5 this x1 x2 v6 x4 M5
      else none
    else
      zX0_guessedOdds_B39 KK5 this x1 x2 x3 x4 M
def zX0_guessedOdds_L5 : Nat → Nat → Int32 → Int32 → Int32 → Int32 → Mem → Option (Int32 × Mem)
  | 0 => fun _ _ _ _ _ _ => none
  | k + 1 => zX0_guessedOdds_B5 (zX0_guessedOdds_L5 k)
def zX0_guessedOdds (this : Nat) (x1 : Int32) (x2 : Int32) (M : Mem) : Option (Int32 × Mem) :=
  if K0 this = (0, 0) then
  zX0_guessedOdds_L5 FU this x1 x2 0 0 M
  else none
set_option maxRecDepth 20000 in
set_option maxHeartbeats 4000000 in
theorem kX0_guessedOdds_B39 (l : Launch) (E : Ev) (n : Nat) (hn : 2 ≤ n) (ct : Nat) (hct : 111 ≤ ct) (ex : Bool) (KK5 : Nat → Int32 → Int32 → Int32 → Int32 → Mem → Option (Int32 × Mem)) (hKK5 : ∀ (this : Nat) (x1 : Int32) (x2 : Int32) (x3 : Int32) (x4 : Int32) (M : Mem) (_ : K0 this = (0, 0)), AW l E fX0_guessedOdds (fun _ => rmN n 0 0) (PQr E 0 0 ct ex enI) ct ex 0 0 5 [(0, .ref (ad E this)), (1, .int x1), (2, .int x2), (3, .int x3), (4, .int x4)] [] M (KK5 this x1 x2 x3 x4 M)) (this : Nat) (x1 : Int32) (x2 : Int32) (x3 : Int32) (x4 : Int32) (M : Mem) (hthis : K0 this = (0, 0)) : AW l E fX0_guessedOdds (fun _ => rmN n 0 0) (PQr E 0 0 ct ex enI) ct ex 0 0 39 [(0, .ref (ad E this)), (1, .int x1), (2, .int x2), (3, .int x3), (4, .int x4)] [] M (zX0_guessedOdds_B39 KK5 this x1 x2 x3 x4 M) := by
  unfold zX0_guessedOdds_B39
  refine AW.iinc (pc := 39) (w := 4) [1, 2, 3, 4, 0] [(0, .ref (ad E this)), (1, .int x1), (2, .int x2), (3, .int x3), (4, .int (x4 + 1))] dX0_guessedOdds_39 rfl (inc_1 _) (by decide) rfl ?_
  refine AW.goto (pc := 42) 5 dX0_guessedOdds_42 (by decide) ?_
  exact hKK5 this x1 x2 x3 (x4 + 1) M hthis
set_option maxRecDepth 20000 in
set_option maxHeartbeats 4000000 in
theorem kX0_guessedOdds_B5 (l : Launch) (E : Ev) (n : Nat) (hn : 2 ≤ n) (ct : Nat) (hct : 111 ≤ ct) (ex : Bool) (KK5 : Nat → Int32 → Int32 → Int32 → Int32 → Mem → Option (Int32 × Mem)) (hKK5 : ∀ (this : Nat) (x1 : Int32) (x2 : Int32) (x3 : Int32) (x4 : Int32) (M : Mem) (_ : K0 this = (0, 0)), AW l E fX0_guessedOdds (fun _ => rmN n 0 0) (PQr E 0 0 ct ex enI) ct ex 0 0 5 [(0, .ref (ad E this)), (1, .int x1), (2, .int x2), (3, .int x3), (4, .int x4)] [] M (KK5 this x1 x2 x3 x4 M)) (this : Nat) (x1 : Int32) (x2 : Int32) (x3 : Int32) (x4 : Int32) (M : Mem) (hthis : K0 this = (0, 0)) : AW l E fX0_guessedOdds (fun _ => rmN n 0 0) (PQr E 0 0 ct ex enI) ct ex 0 0 5 [(0, .ref (ad E this)), (1, .int x1), (2, .int x2), (3, .int x3), (4, .int x4)] [] M (zX0_guessedOdds_B5 KK5 this x1 x2 x3 x4 M) := by
  unfold zX0_guessedOdds_B5
  refine AW.iload (pc := 5) dX0_guessedOdds_5 4 rfl ?_
  refine AW.bipush (pc := 7) dX0_guessedOdds_7 cb_8 ?_
  refine AW.icmp_ge (pc := 9) 45 dX0_guessedOdds_9 (by decide) (fun h1 => ?_) (fun h1 => ?_)
  · refine AW.iload_n (pc := 45) dX0_guessedOdds_45 rfl 3 rfl ?_
    exact AW.iret (pc := 46) dX0_guessedOdds_46 rfl (fun _ _ _ => rfl) (Nat.le_refl _) (Nat.le_refl _)
  · refine AW.iload_n (pc := 12) dX0_guessedOdds_12 rfl 2 rfl ?_
    refine AW.iload (pc := 13) dX0_guessedOdds_13 4 rfl ?_
    refine AW.ishr (pc := 15) dX0_guessedOdds_15 ?_
    refine AW.iconst (pc := 16) dX0_guessedOdds_16 ci_1 ?_
    refine AW.iand (pc := 17) dX0_guessedOdds_17 ?_
    refine AW.iconst (pc := 18) dX0_guessedOdds_18 ci_1 ?_
    refine AW.icmp_ne (pc := 19) 39 dX0_guessedOdds_19 (by decide) (fun h2 => ?_) (fun h2 => ?_)
    · refine AW.iload_n (pc := 22) dX0_guessedOdds_22 rfl 3 rfl ?_
      refine AW.aload_n (pc := 23) dX0_guessedOdds_23 rfl 0 rfl ?_
      refine AW.chk (fun g3 => ?_)
      refine AW.getR (pc := 24) dX0_guessedOdds_24 flX0_31 hthis (kct hthis rfl hct) g3 ?_
      refine AW.iload_n (pc := 27) dX0_guessedOdds_27 rfl 1 rfl ?_
      refine AW.bipush (pc := 28) dX0_guessedOdds_28 cb_8 ?_
      refine AW.imul (pc := 30) dX0_guessedOdds_30 ?_
      refine AW.iload (pc := 31) dX0_guessedOdds_31 4 rfl ?_
      refine AW.iadd (pc := 33) dX0_guessedOdds_33 ?_
      refine AW.cN2i (pc := 34) dX0_guessedOdds_34 nlX0_52 mbX11_at (fun _ => okR_N (by omega)) (kX11_at l E (n - 1) (by omega) ct hct ex (mR M this 6) ((x1 * 8) + x4) M) (Nat.le_of_ble_eq_true rfl) (fun v4 M5 => ?_)
      refine AW.iadd (pc := 37) dX0_guessedOdds_37 ?_
      refine AW.genI (fun v6 => ?_)
      refine AW.istore_n (pc := 38) [1, 2, 3, 0, 4] [(0, .ref (ad E this)), (1, .int x1), (2, .int x2), (3, .int v6), (4, .int x4)] dX0_guessedOdds_38 rfl (by decide) rfl ?_
      exact kX0_guessedOdds_B39 l E n hn ct hct ex KK5 hKK5 this x1 x2 v6 x4 M5 hthis
    · exact kX0_guessedOdds_B39 l E n hn ct hct ex KK5 hKK5 this x1 x2 x3 x4 M hthis
set_option maxRecDepth 20000 in
set_option maxHeartbeats 4000000 in
theorem kX0_guessedOdds_L5 (l : Launch) (E : Ev) (n : Nat) (hn : 2 ≤ n) (ct : Nat) (hct : 111 ≤ ct) (ex : Bool) (k : Nat) : ∀ (this : Nat) (x1 : Int32) (x2 : Int32) (x3 : Int32) (x4 : Int32) (M : Mem) (_ : K0 this = (0, 0)), AW l E fX0_guessedOdds (fun _ => rmN n 0 0) (PQr E 0 0 ct ex enI) ct ex 0 0 5 [(0, .ref (ad E this)), (1, .int x1), (2, .int x2), (3, .int x3), (4, .int x4)] [] M (zX0_guessedOdds_L5 k this x1 x2 x3 x4 M) := by
  induction k with
  | zero => intro this x1 x2 x3 x4 M _; exact AW.none
  | succ k ih =>
    intro this x1 x2 x3 x4 M hthis
    exact kX0_guessedOdds_B5 l E n hn ct hct ex (zX0_guessedOdds_L5 k) ih this x1 x2 x3 x4 M hthis
set_option maxRecDepth 20000 in
set_option maxHeartbeats 4000000 in
theorem kX0_guessedOdds (l : Launch) (E : Ev) (n : Nat) (hn : 2 ≤ n) (ct : Nat) (hct : 111 ≤ ct) (ex : Bool) (this : Nat) (x1 : Int32) (x2 : Int32) (M : Mem) : AM l E n ct ex yX0_guessedOdds fX0_guessedOdds enI [.ref (ad E this), .int x1, .int x2] M (zX0_guessedOdds this x1 x2 M) := by
  unfold zX0_guessedOdds
  refine AM.of (by decide +kernel) ⟨rfl, rfl, rfl⟩ (Nat.le_of_ble_eq_true rfl) ?_
  refine AW.chk (fun hthis => ?_)
  refine AW.iconst (pc := 0) dX0_guessedOdds_0 ci_0 ?_
  refine AW.istore_n (pc := 1) [1, 2, 3, 0] [(0, .ref (ad E this)), (1, .int x1), (2, .int x2), (3, .int 0)] dX0_guessedOdds_1 rfl (by decide) rfl ?_
  refine AW.iconst (pc := 2) dX0_guessedOdds_2 ci_0 ?_
  refine AW.istore (pc := 3) [1, 2, 3, 4, 0] [(0, .ref (ad E this)), (1, .int x1), (2, .int x2), (3, .int 0), (4, .int 0)] dX0_guessedOdds_3 (by decide) rfl ?_
  exact kX0_guessedOdds_L5 l E n hn ct hct ex FU this x1 x2 0 0 M hthis
-- GateBox$Clues.weight(IILGateBox$Book;)I
def zX2_weight_B30 (s0 : Int32) (M : Mem) : Option (Int32 × Mem) :=
  if 1 ≤ s0 then
    some (s0, M)
  else
    some (1, M)
def zX2_weight (this : Nat) (x1 : Int32) (x2 : Int32) (x3 : Nat) (M : Mem) : Option (Int32 × Mem) :=
  if K0 this = (0, 2) then
  if K0 x3 = (0, 0) then
  bnd (zX0_guessedOdds x3 x1 (-1) M) fun v1 M2 =>
  if v1 ≤ 0 then
    zX2_weight_B30 0 M2
  else
    bnd (zX0_guessedOdds x3 x1 x2 M2) fun v5 M6 =>
    if ¬ v1 = 0 then
    zX2_weight_B30 ((1000 * v5) / v1) M6
    else none
  else none
  else none
set_option maxRecDepth 20000 in
set_option maxHeartbeats 4000000 in
theorem kX2_weight_B30 (l : Launch) (E : Ev) (n : Nat) (hn : 3 ≤ n) (ct : Nat) (hct : 111 ≤ ct) (ex : Bool) (s0 : Int32) (M : Mem) : AW l E fX2_weight (fun _ => rmN n 0 0) (PQr E 0 0 ct ex enI) ct ex 0 0 30 [] [.int s0] M (zX2_weight_B30 s0 M) := by
  unfold zX2_weight_B30
  refine AW.istore (pc := 30) [0] [(5, .int s0)] dX2_weight_30 (by decide) rfl ?_
  refine AW.iload (pc := 32) dX2_weight_32 0 rfl ?_
  refine AW.iconst (pc := 34) dX2_weight_34 ci_1 ?_
  refine AW.icmp_ge (pc := 35) 42 dX2_weight_35 (by decide) (fun h1 => ?_) (fun h1 => ?_)
  · refine AW.iload (pc := 42) dX2_weight_42 0 rfl ?_
    exact AW.iret (pc := 44) dX2_weight_44 rfl (fun _ _ _ => rfl) (Nat.le_refl _) (Nat.le_refl _)
  · refine AW.iconst (pc := 38) dX2_weight_38 ci_1 ?_
    refine AW.goto (pc := 39) 44 dX2_weight_39 (by decide) ?_
    exact AW.iret (pc := 44) dX2_weight_44 rfl (fun _ _ _ => rfl) (Nat.le_refl _) (Nat.le_refl _)
set_option maxRecDepth 20000 in
set_option maxHeartbeats 4000000 in
theorem kX2_weight (l : Launch) (E : Ev) (n : Nat) (hn : 3 ≤ n) (ct : Nat) (hct : 111 ≤ ct) (ex : Bool) (this : Nat) (x1 : Int32) (x2 : Int32) (x3 : Nat) (M : Mem) : AM l E n ct ex yX2_weight fX2_weight enI [.ref (ad E this), .int x1, .int x2, .ref (ad E x3)] M (zX2_weight this x1 x2 x3 M) := by
  unfold zX2_weight
  refine AM.of (by decide +kernel) ⟨rfl, rfl, rfl⟩ (Nat.le_of_ble_eq_true rfl) ?_
  refine AW.chk (fun hthis => ?_)
  refine AW.aload_n (pc := 0) dX2_weight_0 rfl 3 rfl ?_
  refine AW.iload_n (pc := 1) dX2_weight_1 rfl 1 rfl ?_
  refine AW.iconst (pc := 2) dX2_weight_2 ci_m1 ?_
  refine AW.chk (fun g3 => ?_)
  refine AW.cV2i (pc := 3) dX2_weight_3 mlX2_81 mbX0_guessedOdds rfl g3 (kct g3 rfl hct) (fun _ => okR_N (by omega)) (kX0_guessedOdds l E (n - 1) (by omega) ct hct ex x3 x1 (-1) M) (Nat.le_of_ble_eq_true rfl) (fun v1 M2 => ?_)
  refine AW.istore (pc := 6) [1, 2, 3, 4, 0] [(0, .ref (ad E this)), (1, .int x1), (2, .int x2), (3, .ref (ad E x3)), (4, .int v1)] dX2_weight_6 (by decide) rfl ?_
  refine AW.iload (pc := 8) dX2_weight_8 4 rfl ?_
  refine AW.if_le (pc := 10) 29 dX2_weight_10 (by decide) (fun h4 => ?_) (fun h4 => ?_)
  · refine AW.iconst (pc := 29) dX2_weight_29 ci_0 ?_
    exact AW.sub [] rfl (kX2_weight_B30 l E n hn ct hct ex 0 M2)
  · refine AW.sipush (pc := 13) dX2_weight_13 cs_1000 ?_
    refine AW.aload_n (pc := 16) dX2_weight_16 rfl 3 rfl ?_
    refine AW.iload_n (pc := 17) dX2_weight_17 rfl 1 rfl ?_
    refine AW.iload_n (pc := 18) dX2_weight_18 rfl 2 rfl ?_
    refine AW.cV2i (pc := 19) dX2_weight_19 mlX2_81 mbX0_guessedOdds rfl g3 (kct g3 rfl hct) (fun _ => okR_N (by omega)) (kX0_guessedOdds l E (n - 1) (by omega) ct hct ex x3 x1 x2 M2) (Nat.le_of_ble_eq_true rfl) (fun v5 M6 => ?_)
    refine AW.imul (pc := 22) dX2_weight_22 ?_
    refine AW.iload (pc := 23) dX2_weight_23 4 rfl ?_
    refine AW.chk (fun g7 => ?_)
    refine AW.idiv (pc := 25) dX2_weight_25 g7 ?_
    refine AW.goto (pc := 26) 30 dX2_weight_26 (by decide) ?_
    exact AW.sub [] rfl (kX2_weight_B30 l E n hn ct hct ex ((1000 * v5) / v1) M6)
-- GateBox$Clues.weigh(ILGateBox$Book;)V
def zX2_weigh_B57 (KK57 : Nat → Int64 → Int32 → Mem → Option (Unit × Mem)) (this : Nat) (x3 : Int64) (x5 : Int32) (M : Mem) : Option (Unit × Mem) :=
  if 4 ≤ x5 then
    some ((), M)
  else
    if (lg_cmp x3 0) ≤ 0 then
      some ((), M)
    else
      if mR M this 4 ≠ 0 then
      if mR M this 5 ≠ 0 then
      bnd (zX11_at (mR M this 5) x5 M) fun v5 M6 =>
      if ¬ x3 = 0 then
      bnd (zX11_put (mR M this 4) x5 (Int64.toInt32 (((Int32.toInt64 v5) * 1000000) / x3)) M6) fun _ M8 =>
      KK57 this x3 (x5 + 1) M8
      else none
      else none
      else none
def zX2_weigh_L57 : Nat → Nat → Int64 → Int32 → Mem → Option (Unit × Mem)
  | 0 => fun _ _ _ _ => none
  | k + 1 => zX2_weigh_B57 (zX2_weigh_L57 k)
def zX2_weigh_B5 (KK5 : Nat → Int32 → Nat → Int64 → Int32 → Mem → Option (Unit × Mem)) (this : Nat) (x1 : Int32) (x2 : Nat) (x3 : Int64) (x5 : Int32) (M : Mem) : Option (Unit × Mem) :=
  if 4 ≤ x5 then
    zX2_weigh_L57 FU this x3 0 M
  else
    if mR M this 4 ≠ 0 then
    bnd (zX11_at (mR M this 4) x5 M) fun v3 M4 =>
    bnd (zX2_weight this x5 x1 x2 M4) fun v5 M6 =>
    lt (v3 * v5) fun v7 =>
    if mR M6 this 5 ≠ 0 then
    bnd (zX11_put (mR M6 this 5) x5 v7 M6) fun _ M9 =>
    lt (x3 + (Int32.toInt64 v7)) fun v10 =>
    KK5 this x1 x2 v10 (x5 + 1) M9
    else none
    else none
def zX2_weigh_L5 : Nat → Nat → Int32 → Nat → Int64 → Int32 → Mem → Option (Unit × Mem)
  | 0 => fun _ _ _ _ _ _ => none
  | k + 1 => zX2_weigh_B5 (zX2_weigh_L5 k)
def zX2_weigh (this : Nat) (x1 : Int32) (x2 : Nat) (M : Mem) : Option (Unit × Mem) :=
  if K0 this = (0, 2) then
  zX2_weigh_L5 FU this x1 x2 0 0 M
  else none
set_option maxRecDepth 20000 in
set_option maxHeartbeats 4000000 in
theorem kX2_weigh_B57 (l : Launch) (E : Ev) (n : Nat) (hn : 4 ≤ n) (ct : Nat) (hct : 111 ≤ ct) (ex : Bool) (KK57 : Nat → Int64 → Int32 → Mem → Option (Unit × Mem)) (hKK57 : ∀ (this : Nat) (x3 : Int64) (x5 : Int32) (M : Mem) (_ : K0 this = (0, 2)), AW l E fX2_weigh (fun _ => rmN n 0 0) (PQr E 0 0 ct ex enU) ct ex 0 0 57 [(0, .ref (ad E this)), (3, .long x3), (5, .int x5)] [] M (KK57 this x3 x5 M)) (this : Nat) (x3 : Int64) (x5 : Int32) (M : Mem) (hthis : K0 this = (0, 2)) : AW l E fX2_weigh (fun _ => rmN n 0 0) (PQr E 0 0 ct ex enU) ct ex 0 0 57 [(0, .ref (ad E this)), (3, .long x3), (5, .int x5)] [] M (zX2_weigh_B57 KK57 this x3 x5 M) := by
  unfold zX2_weigh_B57
  refine AW.iload (pc := 57) dX2_weigh_57 2 rfl ?_
  refine AW.iconst (pc := 59) dX2_weigh_59 ci_4 ?_
  refine AW.icmp_ge (pc := 60) 101 dX2_weigh_60 (by decide) (fun h1 => ?_) (fun h1 => ?_)
  · exact AW.vret (pc := 101) dX2_weigh_101 rfl (fun _ _ _ => rfl) (Nat.le_refl _) (Nat.le_refl _)
  · refine AW.lload_n (pc := 63) dX2_weigh_63 rfl 1 rfl ?_
    refine AW.lconst (pc := 64) dX2_weigh_64 cl_0 ?_
    refine AW.lcmp (pc := 65) dX2_weigh_65 ?_
    refine AW.if_le (pc := 66) 101 dX2_weigh_66 (by decide) (fun h2 => ?_) (fun h2 => ?_)
    · exact AW.vret (pc := 101) dX2_weigh_101 rfl (fun _ _ _ => rfl) (Nat.le_refl _) (Nat.le_refl _)
    · refine AW.aload_n (pc := 69) dX2_weigh_69 rfl 0 rfl ?_
      refine AW.chk (fun g3 => ?_)
      refine AW.getR (pc := 70) dX2_weigh_70 flX2_22 hthis (kct hthis rfl hct) g3 ?_
      refine AW.iload (pc := 73) dX2_weigh_73 2 rfl ?_
      refine AW.aload_n (pc := 75) dX2_weigh_75 rfl 0 rfl ?_
      refine AW.chk (fun g4 => ?_)
      refine AW.getR (pc := 76) dX2_weigh_76 flX2_25 hthis (kct hthis rfl hct) g4 ?_
      refine AW.iload (pc := 79) dX2_weigh_79 2 rfl ?_
      refine AW.cN2i (pc := 81) dX2_weigh_81 nlX2_41 mbX11_at (fun _ => okR_N (by omega)) (kX11_at l E (n - 1) (by omega) ct hct ex (mR M this 5) x5 M) (Nat.le_of_ble_eq_true rfl) (fun v5 M6 => ?_)
      refine AW.i2l (pc := 84) dX2_weigh_84 ?_
      refine AW.ldc2 (pc := 85) dX2_weigh_85 ccX2_93 ?_
      refine AW.lmul (pc := 88) dX2_weigh_88 ?_
      refine AW.lload_n (pc := 89) dX2_weigh_89 rfl 1 rfl ?_
      refine AW.chk (fun g7 => ?_)
      refine AW.ldiv (pc := 90) dX2_weigh_90 g7 ?_
      refine AW.l2i (pc := 91) dX2_weigh_91 ?_
      refine AW.cN3v (pc := 92) dX2_weigh_92 nlX2_45 mbX11_put (fun _ => okR_N (by omega)) (kX11_put l E (n - 1) (by omega) ct hct ex (mR M this 4) x5 (Int64.toInt32 (((Int32.toInt64 v5) * 1000000) / x3)) M6) (Nat.le_of_ble_eq_true rfl) (fun _ M8 => ?_)
      refine AW.iinc (pc := 95) (w := 2) [1, 2, 0] [(0, .ref (ad E this)), (3, .long x3), (5, .int (x5 + 1))] dX2_weigh_95 rfl (inc_1 _) (by decide) rfl ?_
      refine AW.goto (pc := 98) 57 dX2_weigh_98 (by decide) ?_
      exact hKK57 this x3 (x5 + 1) M8 hthis
set_option maxRecDepth 20000 in
set_option maxHeartbeats 4000000 in
theorem kX2_weigh_L57 (l : Launch) (E : Ev) (n : Nat) (hn : 4 ≤ n) (ct : Nat) (hct : 111 ≤ ct) (ex : Bool) (k : Nat) : ∀ (this : Nat) (x3 : Int64) (x5 : Int32) (M : Mem) (_ : K0 this = (0, 2)), AW l E fX2_weigh (fun _ => rmN n 0 0) (PQr E 0 0 ct ex enU) ct ex 0 0 57 [(0, .ref (ad E this)), (3, .long x3), (5, .int x5)] [] M (zX2_weigh_L57 k this x3 x5 M) := by
  induction k with
  | zero => intro this x3 x5 M _; exact AW.none
  | succ k ih =>
    intro this x3 x5 M hthis
    exact kX2_weigh_B57 l E n hn ct hct ex (zX2_weigh_L57 k) ih this x3 x5 M hthis
set_option maxRecDepth 20000 in
set_option maxHeartbeats 4000000 in
theorem kX2_weigh_B5 (l : Launch) (E : Ev) (n : Nat) (hn : 4 ≤ n) (ct : Nat) (hct : 111 ≤ ct) (ex : Bool) (KK5 : Nat → Int32 → Nat → Int64 → Int32 → Mem → Option (Unit × Mem)) (hKK5 : ∀ (this : Nat) (x1 : Int32) (x2 : Nat) (x3 : Int64) (x5 : Int32) (M : Mem) (_ : K0 this = (0, 2)), AW l E fX2_weigh (fun _ => rmN n 0 0) (PQr E 0 0 ct ex enU) ct ex 0 0 5 [(0, .ref (ad E this)), (1, .int x1), (2, .ref (ad E x2)), (3, .long x3), (5, .int x5)] [] M (KK5 this x1 x2 x3 x5 M)) (this : Nat) (x1 : Int32) (x2 : Nat) (x3 : Int64) (x5 : Int32) (M : Mem) (hthis : K0 this = (0, 2)) : AW l E fX2_weigh (fun _ => rmN n 0 0) (PQr E 0 0 ct ex enU) ct ex 0 0 5 [(0, .ref (ad E this)), (1, .int x1), (2, .ref (ad E x2)), (3, .long x3), (5, .int x5)] [] M (zX2_weigh_B5 KK5 this x1 x2 x3 x5 M) := by
  unfold zX2_weigh_B5
  refine AW.iload (pc := 5) dX2_weigh_5 4 rfl ?_
  refine AW.iconst (pc := 7) dX2_weigh_7 ci_4 ?_
  refine AW.icmp_ge (pc := 8) 54 dX2_weigh_8 (by decide) (fun h1 => ?_) (fun h1 => ?_)
  · refine AW.iconst (pc := 54) dX2_weigh_54 ci_0 ?_
    refine AW.istore (pc := 55) [1, 4, 0] [(0, .ref (ad E this)), (3, .long x3), (5, .int 0)] dX2_weigh_55 (by decide) rfl ?_
    exact kX2_weigh_L57 l E n hn ct hct ex FU this x3 0 M hthis
  · refine AW.aload_n (pc := 11) dX2_weigh_11 rfl 0 rfl ?_
    refine AW.chk (fun g2 => ?_)
    refine AW.getR (pc := 12) dX2_weigh_12 flX2_22 hthis (kct hthis rfl hct) g2 ?_
    refine AW.iload (pc := 15) dX2_weigh_15 4 rfl ?_
    refine AW.cN2i (pc := 17) dX2_weigh_17 nlX2_41 mbX11_at (fun _ => okR_N (by omega)) (kX11_at l E (n - 1) (by omega) ct hct ex (mR M this 4) x5 M) (Nat.le_of_ble_eq_true rfl) (fun v3 M4 => ?_)
    refine AW.aload_n (pc := 20) dX2_weigh_20 rfl 0 rfl ?_
    refine AW.iload (pc := 21) dX2_weigh_21 4 rfl ?_
    refine AW.iload_n (pc := 23) dX2_weigh_23 rfl 1 rfl ?_
    refine AW.aload_n (pc := 24) dX2_weigh_24 rfl 2 rfl ?_
    refine AW.cV3i (pc := 25) dX2_weigh_25 mlX2_89 mbX2_weight rfl hthis (kct hthis rfl hct) (fun _ => okR_N (by omega)) (kX2_weight l E (n - 1) (by omega) ct hct ex this x5 x1 x2 M4) (Nat.le_of_ble_eq_true rfl) (fun v5 M6 => ?_)
    refine AW.imul (pc := 28) dX2_weigh_28 ?_
    refine AW.genI (fun v7 => ?_)
    refine AW.istore (pc := 29) [1, 2, 3, 4, 5, 0] [(0, .ref (ad E this)), (1, .int x1), (2, .ref (ad E x2)), (3, .long x3), (5, .int x5), (6, .int v7)] dX2_weigh_29 (by decide) rfl ?_
    refine AW.aload_n (pc := 31) dX2_weigh_31 rfl 0 rfl ?_
    refine AW.chk (fun g8 => ?_)
    refine AW.getR (pc := 32) dX2_weigh_32 flX2_25 hthis (kct hthis rfl hct) g8 ?_
    refine AW.iload (pc := 35) dX2_weigh_35 4 rfl ?_
    refine AW.iload (pc := 37) dX2_weigh_37 5 rfl ?_
    refine AW.cN3v (pc := 39) dX2_weigh_39 nlX2_45 mbX11_put (fun _ => okR_N (by omega)) (kX11_put l E (n - 1) (by omega) ct hct ex (mR M6 this 5) x5 v7 M6) (Nat.le_of_ble_eq_true rfl) (fun _ M9 => ?_)
    refine AW.lload_n (pc := 42) dX2_weigh_42 rfl 3 rfl ?_
    refine AW.iload (pc := 43) dX2_weigh_43 5 rfl ?_
    refine AW.i2l (pc := 45) dX2_weigh_45 ?_
    refine AW.ladd (pc := 46) dX2_weigh_46 ?_
    refine AW.genL (fun v10 => ?_)
    refine AW.lstore_n (pc := 47) [1, 2, 3, 0, 4] [(0, .ref (ad E this)), (1, .int x1), (2, .ref (ad E x2)), (3, .long v10), (5, .int x5)] dX2_weigh_47 rfl (by decide) rfl ?_
    refine AW.iinc (pc := 48) (w := 4) [1, 2, 3, 4, 0] [(0, .ref (ad E this)), (1, .int x1), (2, .ref (ad E x2)), (3, .long v10), (5, .int (x5 + 1))] dX2_weigh_48 rfl (inc_1 _) (by decide) rfl ?_
    refine AW.goto (pc := 51) 5 dX2_weigh_51 (by decide) ?_
    exact hKK5 this x1 x2 v10 (x5 + 1) M9 hthis
set_option maxRecDepth 20000 in
set_option maxHeartbeats 4000000 in
theorem kX2_weigh_L5 (l : Launch) (E : Ev) (n : Nat) (hn : 4 ≤ n) (ct : Nat) (hct : 111 ≤ ct) (ex : Bool) (k : Nat) : ∀ (this : Nat) (x1 : Int32) (x2 : Nat) (x3 : Int64) (x5 : Int32) (M : Mem) (_ : K0 this = (0, 2)), AW l E fX2_weigh (fun _ => rmN n 0 0) (PQr E 0 0 ct ex enU) ct ex 0 0 5 [(0, .ref (ad E this)), (1, .int x1), (2, .ref (ad E x2)), (3, .long x3), (5, .int x5)] [] M (zX2_weigh_L5 k this x1 x2 x3 x5 M) := by
  induction k with
  | zero => intro this x1 x2 x3 x5 M _; exact AW.none
  | succ k ih =>
    intro this x1 x2 x3 x5 M hthis
    exact kX2_weigh_B5 l E n hn ct hct ex (zX2_weigh_L5 k) ih this x1 x2 x3 x5 M hthis
set_option maxRecDepth 20000 in
set_option maxHeartbeats 4000000 in
theorem kX2_weigh (l : Launch) (E : Ev) (n : Nat) (hn : 4 ≤ n) (ct : Nat) (hct : 111 ≤ ct) (ex : Bool) (this : Nat) (x1 : Int32) (x2 : Nat) (M : Mem) : AM l E n ct ex yX2_weigh fX2_weigh enU [.ref (ad E this), .int x1, .ref (ad E x2)] M (zX2_weigh this x1 x2 M) := by
  unfold zX2_weigh
  refine AM.of (by decide +kernel) ⟨rfl, rfl, rfl⟩ (Nat.le_of_ble_eq_true rfl) ?_
  refine AW.chk (fun hthis => ?_)
  refine AW.lconst (pc := 0) dX2_weigh_0 cl_0 ?_
  refine AW.lstore_n (pc := 1) [1, 2, 3, 0] [(0, .ref (ad E this)), (1, .int x1), (2, .ref (ad E x2)), (3, .long 0)] dX2_weigh_1 rfl (by decide) rfl ?_
  refine AW.iconst (pc := 2) dX2_weigh_2 ci_0 ?_
  refine AW.istore (pc := 3) [1, 2, 3, 4, 0] [(0, .ref (ad E this)), (1, .int x1), (2, .ref (ad E x2)), (3, .long 0), (5, .int 0)] dX2_weigh_3 (by decide) rfl ?_
  exact kX2_weigh_L5 l E n hn ct hct ex FU this x1 x2 0 0 M hthis
-- GateBox$Clues.creditOf(ILGateBox$Book;)I
def zX2_creditOf_B96 (KK96 : Nat → Int32 → Nat → Int32 → Mem → Option (Int32 × Mem)) (this : Nat) (x1 : Int32) (x2 : Nat) (x4 : Int32) (M : Mem) : Option (Int32 × Mem) :=
  if (mI M this 3) ≤ x4 then
    if mR M this 4 ≠ 0 then
    bnd (zX11_at (mR M this 4) x1 M) fun v3 M4 =>
    some (v3, M4)
    else none
  else
    if mR M this 2 ≠ 0 then
    bnd (zX11_at (mR M this 2) x4 M) fun v6 M7 =>
    bnd (zX2_weigh this v6 x2 M7) fun _ M8 =>
    KK96 this x1 x2 (x4 + 1) M8
    else none
def zX2_creditOf_L96 : Nat → Nat → Int32 → Nat → Int32 → Mem → Option (Int32 × Mem)
  | 0 => fun _ _ _ _ _ => none
  | k + 1 => zX2_creditOf_B96 (zX2_creditOf_L96 k)
def zX2_creditOf_B84 (KK38 : Nat → Int32 → Nat → Int32 → Int32 → Mem → Option (Int32 × Mem)) (this : Nat) (x1 : Int32) (x2 : Nat) (x3 : Int32) (x4 : Int32) (s0 : Nat) (s1 : Int32) (s2 : Int32) (M : Mem) : Option (Int32 × Mem) :=
  bnd (zX11_put s0 s1 s2 M) fun _ M1 =>
  KK38 this x1 x2 x3 (x4 + 1) M1
def zX2_creditOf_B63 (KK38 : Nat → Int32 → Nat → Int32 → Int32 → Mem → Option (Int32 × Mem)) (this : Nat) (x1 : Int32) (x2 : Nat) (x3 : Int32) (x4 : Int32) (s0 : Int32) (M : Mem) : Option (Int32 × Mem) :=
  if mR M this 4 ≠ 0 then
  if s0 = 0 then
    zX2_creditOf_B84 KK38 this x1 x2 x3 x4 (mR M this 4) x4 0 M
  else
    if ¬ x3 = 0 then
    zX2_creditOf_B84 KK38 this x1 x2 x3 x4 (mR M this 4) x4 (1000000 / x3) M
    else none
  else none
def zX2_creditOf_B62 (KK38 : Nat → Int32 → Nat → Int32 → Int32 → Mem → Option (Int32 × Mem)) (this : Nat) (x1 : Int32) (x2 : Nat) (x3 : Int32) (x4 : Int32) (M : Mem) : Option (Int32 × Mem) :=
  zX2_creditOf_B63 KK38 this x1 x2 x3 x4 0 M
def zX2_creditOf_B38 (KK38 : Nat → Int32 → Nat → Int32 → Int32 → Mem → Option (Int32 × Mem)) (this : Nat) (x1 : Int32) (x2 : Nat) (x3 : Int32) (x4 : Int32) (M : Mem) : Option (Int32 × Mem) :=
  if 4 ≤ x4 then
    zX2_creditOf_L96 FU this x1 x2 0 M
  else
    if x3 ≤ 0 then
      zX2_creditOf_B62 KK38 this x1 x2 x3 x4 M
    else
      if K0 x2 = (0, 0) then
      bnd (zX0_guessedOdds x2 x4 (-1) M) fun v3 M4 =>
      if v3 ≤ 0 then
        zX2_creditOf_B62 KK38 this x1 x2 x3 x4 M4
      else
        zX2_creditOf_B63 KK38 this x1 x2 x3 x4 1 M4
      else none
def zX2_creditOf_L38 : Nat → Nat → Int32 → Nat → Int32 → Int32 → Mem → Option (Int32 × Mem)
  | 0 => fun _ _ _ _ _ _ => none
  | k + 1 => zX2_creditOf_B38 (zX2_creditOf_L38 k)
def zX2_creditOf_B27 (KK5 : Nat → Int32 → Nat → Int32 → Int32 → Mem → Option (Int32 × Mem)) (this : Nat) (x1 : Int32) (x2 : Nat) (x4 : Int32) (s0 : Int32) (s1 : Int32) (M : Mem) : Option (Int32 × Mem) :=
  lt (s0 + s1) fun v1 =>
  KK5 this x1 x2 v1 (x4 + 1) M
def zX2_creditOf_B5 (KK5 : Nat → Int32 → Nat → Int32 → Int32 → Mem → Option (Int32 × Mem)) (this : Nat) (x1 : Int32) (x2 : Nat) (x3 : Int32) (x4 : Int32) (M : Mem) : Option (Int32 × Mem) :=
  if 4 ≤ x4 then
    zX2_creditOf_L38 FU this x1 x2 x3 0 M
  else
    if K0 x2 = (0, 0) then
    bnd (zX0_guessedOdds x2 x4 (-1) M) fun v2 M3 =>
    if v2 ≤ 0 then
      zX2_creditOf_B27 KK5 this x1 x2 x4 x3 0 M3
    else
      zX2_creditOf_B27 KK5 this x1 x2 x4 x3 1 M3
    else none
def zX2_creditOf_L5 : Nat → Nat → Int32 → Nat → Int32 → Int32 → Mem → Option (Int32 × Mem)
  | 0 => fun _ _ _ _ _ _ => none
  | k + 1 => zX2_creditOf_B5 (zX2_creditOf_L5 k)
def zX2_creditOf (this : Nat) (x1 : Int32) (x2 : Nat) (M : Mem) : Option (Int32 × Mem) :=
  if K0 this = (0, 2) then
  zX2_creditOf_L5 FU this x1 x2 0 0 M
  else none
set_option maxRecDepth 20000 in
set_option maxHeartbeats 4000000 in
theorem kX2_creditOf_B96 (l : Launch) (E : Ev) (n : Nat) (hn : 5 ≤ n) (ct : Nat) (hct : 111 ≤ ct) (ex : Bool) (KK96 : Nat → Int32 → Nat → Int32 → Mem → Option (Int32 × Mem)) (hKK96 : ∀ (this : Nat) (x1 : Int32) (x2 : Nat) (x4 : Int32) (M : Mem) (_ : K0 this = (0, 2)), AW l E fX2_creditOf (fun _ => rmN n 0 0) (PQr E 0 0 ct ex enI) ct ex 0 0 96 [(0, .ref (ad E this)), (1, .int x1), (2, .ref (ad E x2)), (4, .int x4)] [] M (KK96 this x1 x2 x4 M)) (this : Nat) (x1 : Int32) (x2 : Nat) (x4 : Int32) (M : Mem) (hthis : K0 this = (0, 2)) : AW l E fX2_creditOf (fun _ => rmN n 0 0) (PQr E 0 0 ct ex enI) ct ex 0 0 96 [(0, .ref (ad E this)), (1, .int x1), (2, .ref (ad E x2)), (4, .int x4)] [] M (zX2_creditOf_B96 KK96 this x1 x2 x4 M) := by
  unfold zX2_creditOf_B96
  refine AW.iload (pc := 96) dX2_creditOf_96 3 rfl ?_
  refine AW.aload_n (pc := 98) dX2_creditOf_98 rfl 0 rfl ?_
  refine AW.getI (pc := 99) dX2_creditOf_99 flX2_18 hthis (kct hthis rfl hct) ?_
  refine AW.icmp_ge (pc := 102) 125 dX2_creditOf_102 (by decide) (fun h1 => ?_) (fun h1 => ?_)
  · refine AW.aload_n (pc := 125) dX2_creditOf_125 rfl 0 rfl ?_
    refine AW.chk (fun g2 => ?_)
    refine AW.getR (pc := 126) dX2_creditOf_126 flX2_22 hthis (kct hthis rfl hct) g2 ?_
    refine AW.iload_n (pc := 129) dX2_creditOf_129 rfl 1 rfl ?_
    refine AW.cN2i (pc := 130) dX2_creditOf_130 nlX2_41 mbX11_at (fun _ => okR_N (by omega)) (kX11_at l E (n - 1) (by omega) ct hct ex (mR M this 4) x1 M) (Nat.le_of_ble_eq_true rfl) (fun v3 M4 => ?_)
    exact AW.iret (pc := 133) dX2_creditOf_133 rfl (fun _ _ _ => rfl) (Nat.le_refl _) (Nat.le_refl _)
  · refine AW.aload_n (pc := 105) dX2_creditOf_105 rfl 0 rfl ?_
    refine AW.aload_n (pc := 106) dX2_creditOf_106 rfl 0 rfl ?_
    refine AW.chk (fun g5 => ?_)
    refine AW.getR (pc := 107) dX2_creditOf_107 flX2_15 hthis (kct hthis rfl hct) g5 ?_
    refine AW.iload (pc := 110) dX2_creditOf_110 3 rfl ?_
    refine AW.cN2i (pc := 112) dX2_creditOf_112 nlX2_41 mbX11_at (fun _ => okR_N (by omega)) (kX11_at l E (n - 1) (by omega) ct hct ex (mR M this 2) x4 M) (Nat.le_of_ble_eq_true rfl) (fun v6 M7 => ?_)
    refine AW.aload_n (pc := 115) dX2_creditOf_115 rfl 2 rfl ?_
    refine AW.cV2v (pc := 116) dX2_creditOf_116 mlX2_85 mbX2_weigh rfl hthis (kct hthis rfl hct) (fun _ => okR_N (by omega)) (kX2_weigh l E (n - 1) (by omega) ct hct ex this v6 x2 M7) (Nat.le_of_ble_eq_true rfl) (fun _ M8 => ?_)
    refine AW.iinc (pc := 119) (w := 3) [1, 2, 3, 0] [(0, .ref (ad E this)), (1, .int x1), (2, .ref (ad E x2)), (4, .int (x4 + 1))] dX2_creditOf_119 rfl (inc_1 _) (by decide) rfl ?_
    refine AW.goto (pc := 122) 96 dX2_creditOf_122 (by decide) ?_
    exact hKK96 this x1 x2 (x4 + 1) M8 hthis
set_option maxRecDepth 20000 in
set_option maxHeartbeats 4000000 in
theorem kX2_creditOf_L96 (l : Launch) (E : Ev) (n : Nat) (hn : 5 ≤ n) (ct : Nat) (hct : 111 ≤ ct) (ex : Bool) (k : Nat) : ∀ (this : Nat) (x1 : Int32) (x2 : Nat) (x4 : Int32) (M : Mem) (_ : K0 this = (0, 2)), AW l E fX2_creditOf (fun _ => rmN n 0 0) (PQr E 0 0 ct ex enI) ct ex 0 0 96 [(0, .ref (ad E this)), (1, .int x1), (2, .ref (ad E x2)), (4, .int x4)] [] M (zX2_creditOf_L96 k this x1 x2 x4 M) := by
  induction k with
  | zero => intro this x1 x2 x4 M _; exact AW.none
  | succ k ih =>
    intro this x1 x2 x4 M hthis
    exact kX2_creditOf_B96 l E n hn ct hct ex (zX2_creditOf_L96 k) ih this x1 x2 x4 M hthis
set_option maxRecDepth 20000 in
set_option maxHeartbeats 4000000 in
theorem kX2_creditOf_B84 (l : Launch) (E : Ev) (n : Nat) (hn : 5 ≤ n) (ct : Nat) (hct : 111 ≤ ct) (ex : Bool) (KK38 : Nat → Int32 → Nat → Int32 → Int32 → Mem → Option (Int32 × Mem)) (hKK38 : ∀ (this : Nat) (x1 : Int32) (x2 : Nat) (x3 : Int32) (x4 : Int32) (M : Mem) (_ : K0 this = (0, 2)), AW l E fX2_creditOf (fun _ => rmN n 0 0) (PQr E 0 0 ct ex enI) ct ex 0 0 38 [(0, .ref (ad E this)), (1, .int x1), (2, .ref (ad E x2)), (3, .int x3), (4, .int x4)] [] M (KK38 this x1 x2 x3 x4 M)) (this : Nat) (x1 : Int32) (x2 : Nat) (x3 : Int32) (x4 : Int32) (s0 : Nat) (s1 : Int32) (s2 : Int32) (M : Mem) (hthis : K0 this = (0, 2)) : AW l E fX2_creditOf (fun _ => rmN n 0 0) (PQr E 0 0 ct ex enI) ct ex 0 0 84 [(0, .ref (ad E this)), (1, .int x1), (2, .ref (ad E x2)), (3, .int x3), (4, .int x4)] [.int s2, .int s1, .ref (ad E s0)] M (zX2_creditOf_B84 KK38 this x1 x2 x3 x4 s0 s1 s2 M) := by
  unfold zX2_creditOf_B84
  refine AW.cN3v (pc := 84) dX2_creditOf_84 nlX2_45 mbX11_put (fun _ => okR_N (by omega)) (kX11_put l E (n - 1) (by omega) ct hct ex s0 s1 s2 M) (Nat.le_of_ble_eq_true rfl) (fun _ M1 => ?_)
  refine AW.iinc (pc := 87) (w := 4) [1, 2, 3, 4, 0] [(0, .ref (ad E this)), (1, .int x1), (2, .ref (ad E x2)), (3, .int x3), (4, .int (x4 + 1))] dX2_creditOf_87 rfl (inc_1 _) (by decide) rfl ?_
  refine AW.goto (pc := 90) 38 dX2_creditOf_90 (by decide) ?_
  exact hKK38 this x1 x2 x3 (x4 + 1) M1 hthis
set_option maxRecDepth 20000 in
set_option maxHeartbeats 4000000 in
theorem kX2_creditOf_B63 (l : Launch) (E : Ev) (n : Nat) (hn : 5 ≤ n) (ct : Nat) (hct : 111 ≤ ct) (ex : Bool) (KK38 : Nat → Int32 → Nat → Int32 → Int32 → Mem → Option (Int32 × Mem)) (hKK38 : ∀ (this : Nat) (x1 : Int32) (x2 : Nat) (x3 : Int32) (x4 : Int32) (M : Mem) (_ : K0 this = (0, 2)), AW l E fX2_creditOf (fun _ => rmN n 0 0) (PQr E 0 0 ct ex enI) ct ex 0 0 38 [(0, .ref (ad E this)), (1, .int x1), (2, .ref (ad E x2)), (3, .int x3), (4, .int x4)] [] M (KK38 this x1 x2 x3 x4 M)) (this : Nat) (x1 : Int32) (x2 : Nat) (x3 : Int32) (x4 : Int32) (s0 : Int32) (M : Mem) (hthis : K0 this = (0, 2)) : AW l E fX2_creditOf (fun _ => rmN n 0 0) (PQr E 0 0 ct ex enI) ct ex 0 0 63 [(0, .ref (ad E this)), (1, .int x1), (2, .ref (ad E x2)), (3, .int x3), (4, .int x4)] [.int s0] M (zX2_creditOf_B63 KK38 this x1 x2 x3 x4 s0 M) := by
  unfold zX2_creditOf_B63
  refine AW.istore (pc := 63) [1, 2, 3, 4, 5, 0] [(0, .ref (ad E this)), (1, .int x1), (2, .ref (ad E x2)), (3, .int x3), (4, .int x4), (5, .int s0)] dX2_creditOf_63 (by decide) rfl ?_
  refine AW.aload_n (pc := 65) dX2_creditOf_65 rfl 0 rfl ?_
  refine AW.chk (fun g1 => ?_)
  refine AW.getR (pc := 66) dX2_creditOf_66 flX2_22 hthis (kct hthis rfl hct) g1 ?_
  refine AW.iload (pc := 69) dX2_creditOf_69 4 rfl ?_
  refine AW.iload (pc := 71) dX2_creditOf_71 5 rfl ?_
  refine AW.if_eq (pc := 73) 83 dX2_creditOf_73 (by decide) (fun h2 => ?_) (fun h2 => ?_)
  · refine AW.iconst (pc := 83) dX2_creditOf_83 ci_0 ?_
    exact AW.sub [0, 1, 2, 3, 4] rfl (kX2_creditOf_B84 l E n hn ct hct ex KK38 hKK38 this x1 x2 x3 x4 (mR M this 4) x4 0 M hthis)
  · refine AW.ldc (pc := 76) dX2_creditOf_76 ccX2_84 ?_
    refine AW.iload_n (pc := 78) dX2_creditOf_78 rfl 3 rfl ?_
    refine AW.chk (fun g3 => ?_)
    refine AW.idiv (pc := 79) dX2_creditOf_79 g3 ?_
    refine AW.goto (pc := 80) 84 dX2_creditOf_80 (by decide) ?_
    exact AW.sub [0, 1, 2, 3, 4] rfl (kX2_creditOf_B84 l E n hn ct hct ex KK38 hKK38 this x1 x2 x3 x4 (mR M this 4) x4 (1000000 / x3) M hthis)
set_option maxRecDepth 20000 in
set_option maxHeartbeats 4000000 in
theorem kX2_creditOf_B62 (l : Launch) (E : Ev) (n : Nat) (hn : 5 ≤ n) (ct : Nat) (hct : 111 ≤ ct) (ex : Bool) (KK38 : Nat → Int32 → Nat → Int32 → Int32 → Mem → Option (Int32 × Mem)) (hKK38 : ∀ (this : Nat) (x1 : Int32) (x2 : Nat) (x3 : Int32) (x4 : Int32) (M : Mem) (_ : K0 this = (0, 2)), AW l E fX2_creditOf (fun _ => rmN n 0 0) (PQr E 0 0 ct ex enI) ct ex 0 0 38 [(0, .ref (ad E this)), (1, .int x1), (2, .ref (ad E x2)), (3, .int x3), (4, .int x4)] [] M (KK38 this x1 x2 x3 x4 M)) (this : Nat) (x1 : Int32) (x2 : Nat) (x3 : Int32) (x4 : Int32) (M : Mem) (hthis : K0 this = (0, 2)) : AW l E fX2_creditOf (fun _ => rmN n 0 0) (PQr E 0 0 ct ex enI) ct ex 0 0 62 [(0, .ref (ad E this)), (1, .int x1), (2, .ref (ad E x2)), (3, .int x3), (4, .int x4)] [] M (zX2_creditOf_B62 KK38 this x1 x2 x3 x4 M) := by
  unfold zX2_creditOf_B62
  refine AW.iconst (pc := 62) dX2_creditOf_62 ci_0 ?_
  exact kX2_creditOf_B63 l E n hn ct hct ex KK38 hKK38 this x1 x2 x3 x4 0 M hthis
set_option maxRecDepth 20000 in
set_option maxHeartbeats 4000000 in
theorem kX2_creditOf_B38 (l : Launch) (E : Ev) (n : Nat) (hn : 5 ≤ n) (ct : Nat) (hct : 111 ≤ ct) (ex : Bool) (KK38 : Nat → Int32 → Nat → Int32 → Int32 → Mem → Option (Int32 × Mem)) (hKK38 : ∀ (this : Nat) (x1 : Int32) (x2 : Nat) (x3 : Int32) (x4 : Int32) (M : Mem) (_ : K0 this = (0, 2)), AW l E fX2_creditOf (fun _ => rmN n 0 0) (PQr E 0 0 ct ex enI) ct ex 0 0 38 [(0, .ref (ad E this)), (1, .int x1), (2, .ref (ad E x2)), (3, .int x3), (4, .int x4)] [] M (KK38 this x1 x2 x3 x4 M)) (this : Nat) (x1 : Int32) (x2 : Nat) (x3 : Int32) (x4 : Int32) (M : Mem) (hthis : K0 this = (0, 2)) : AW l E fX2_creditOf (fun _ => rmN n 0 0) (PQr E 0 0 ct ex enI) ct ex 0 0 38 [(0, .ref (ad E this)), (1, .int x1), (2, .ref (ad E x2)), (3, .int x3), (4, .int x4)] [] M (zX2_creditOf_B38 KK38 this x1 x2 x3 x4 M) := by
  unfold zX2_creditOf_B38
  refine AW.iload (pc := 38) dX2_creditOf_38 4 rfl ?_
  refine AW.iconst (pc := 40) dX2_creditOf_40 ci_4 ?_
  refine AW.icmp_ge (pc := 41) 93 dX2_creditOf_41 (by decide) (fun h1 => ?_) (fun h1 => ?_)
  · refine AW.iconst (pc := 93) dX2_creditOf_93 ci_0 ?_
    refine AW.istore (pc := 94) [1, 2, 3, 0] [(0, .ref (ad E this)), (1, .int x1), (2, .ref (ad E x2)), (4, .int 0)] dX2_creditOf_94 (by decide) rfl ?_
    exact kX2_creditOf_L96 l E n hn ct hct ex FU this x1 x2 0 M hthis
  · refine AW.iload_n (pc := 44) dX2_creditOf_44 rfl 3 rfl ?_
    refine AW.if_le (pc := 45) 62 dX2_creditOf_45 (by decide) (fun h2 => ?_) (fun h2 => ?_)
    · exact kX2_creditOf_B62 l E n hn ct hct ex KK38 hKK38 this x1 x2 x3 x4 M hthis
    · refine AW.aload_n (pc := 48) dX2_creditOf_48 rfl 2 rfl ?_
      refine AW.iload (pc := 49) dX2_creditOf_49 4 rfl ?_
      refine AW.iconst (pc := 51) dX2_creditOf_51 ci_m1 ?_
      refine AW.chk (fun g5 => ?_)
      refine AW.cV2i (pc := 52) dX2_creditOf_52 mlX2_81 mbX0_guessedOdds rfl g5 (kct g5 rfl hct) (fun _ => okR_N (by omega)) (kX0_guessedOdds l E (n - 1) (by omega) ct hct ex x2 x4 (-1) M) (Nat.le_of_ble_eq_true rfl) (fun v3 M4 => ?_)
      refine AW.if_le (pc := 55) 62 dX2_creditOf_55 (by decide) (fun h6 => ?_) (fun h6 => ?_)
      · exact kX2_creditOf_B62 l E n hn ct hct ex KK38 hKK38 this x1 x2 x3 x4 M4 hthis
      · refine AW.iconst (pc := 58) dX2_creditOf_58 ci_1 ?_
        refine AW.goto (pc := 59) 63 dX2_creditOf_59 (by decide) ?_
        exact kX2_creditOf_B63 l E n hn ct hct ex KK38 hKK38 this x1 x2 x3 x4 1 M4 hthis
set_option maxRecDepth 20000 in
set_option maxHeartbeats 4000000 in
theorem kX2_creditOf_L38 (l : Launch) (E : Ev) (n : Nat) (hn : 5 ≤ n) (ct : Nat) (hct : 111 ≤ ct) (ex : Bool) (k : Nat) : ∀ (this : Nat) (x1 : Int32) (x2 : Nat) (x3 : Int32) (x4 : Int32) (M : Mem) (_ : K0 this = (0, 2)), AW l E fX2_creditOf (fun _ => rmN n 0 0) (PQr E 0 0 ct ex enI) ct ex 0 0 38 [(0, .ref (ad E this)), (1, .int x1), (2, .ref (ad E x2)), (3, .int x3), (4, .int x4)] [] M (zX2_creditOf_L38 k this x1 x2 x3 x4 M) := by
  induction k with
  | zero => intro this x1 x2 x3 x4 M _; exact AW.none
  | succ k ih =>
    intro this x1 x2 x3 x4 M hthis
    exact kX2_creditOf_B38 l E n hn ct hct ex (zX2_creditOf_L38 k) ih this x1 x2 x3 x4 M hthis
set_option maxRecDepth 20000 in
set_option maxHeartbeats 4000000 in
theorem kX2_creditOf_B27 (l : Launch) (E : Ev) (n : Nat) (hn : 5 ≤ n) (ct : Nat) (hct : 111 ≤ ct) (ex : Bool) (KK5 : Nat → Int32 → Nat → Int32 → Int32 → Mem → Option (Int32 × Mem)) (hKK5 : ∀ (this : Nat) (x1 : Int32) (x2 : Nat) (x3 : Int32) (x4 : Int32) (M : Mem) (_ : K0 this = (0, 2)), AW l E fX2_creditOf (fun _ => rmN n 0 0) (PQr E 0 0 ct ex enI) ct ex 0 0 5 [(0, .ref (ad E this)), (1, .int x1), (2, .ref (ad E x2)), (3, .int x3), (4, .int x4)] [] M (KK5 this x1 x2 x3 x4 M)) (this : Nat) (x1 : Int32) (x2 : Nat) (x4 : Int32) (s0 : Int32) (s1 : Int32) (M : Mem) (hthis : K0 this = (0, 2)) : AW l E fX2_creditOf (fun _ => rmN n 0 0) (PQr E 0 0 ct ex enI) ct ex 0 0 27 [(0, .ref (ad E this)), (1, .int x1), (2, .ref (ad E x2)), (4, .int x4)] [.int s1, .int s0] M (zX2_creditOf_B27 KK5 this x1 x2 x4 s0 s1 M) := by
  unfold zX2_creditOf_B27
  refine AW.iadd (pc := 27) dX2_creditOf_27 ?_
  refine AW.genI (fun v1 => ?_)
  refine AW.istore_n (pc := 28) [1, 2, 3, 0, 4] [(0, .ref (ad E this)), (1, .int x1), (2, .ref (ad E x2)), (3, .int v1), (4, .int x4)] dX2_creditOf_28 rfl (by decide) rfl ?_
  refine AW.iinc (pc := 29) (w := 4) [1, 2, 3, 4, 0] [(0, .ref (ad E this)), (1, .int x1), (2, .ref (ad E x2)), (3, .int v1), (4, .int (x4 + 1))] dX2_creditOf_29 rfl (inc_1 _) (by decide) rfl ?_
  refine AW.goto (pc := 32) 5 dX2_creditOf_32 (by decide) ?_
  exact hKK5 this x1 x2 v1 (x4 + 1) M hthis
set_option maxRecDepth 20000 in
set_option maxHeartbeats 4000000 in
theorem kX2_creditOf_B5 (l : Launch) (E : Ev) (n : Nat) (hn : 5 ≤ n) (ct : Nat) (hct : 111 ≤ ct) (ex : Bool) (KK5 : Nat → Int32 → Nat → Int32 → Int32 → Mem → Option (Int32 × Mem)) (hKK5 : ∀ (this : Nat) (x1 : Int32) (x2 : Nat) (x3 : Int32) (x4 : Int32) (M : Mem) (_ : K0 this = (0, 2)), AW l E fX2_creditOf (fun _ => rmN n 0 0) (PQr E 0 0 ct ex enI) ct ex 0 0 5 [(0, .ref (ad E this)), (1, .int x1), (2, .ref (ad E x2)), (3, .int x3), (4, .int x4)] [] M (KK5 this x1 x2 x3 x4 M)) (this : Nat) (x1 : Int32) (x2 : Nat) (x3 : Int32) (x4 : Int32) (M : Mem) (hthis : K0 this = (0, 2)) : AW l E fX2_creditOf (fun _ => rmN n 0 0) (PQr E 0 0 ct ex enI) ct ex 0 0 5 [(0, .ref (ad E this)), (1, .int x1), (2, .ref (ad E x2)), (3, .int x3), (4, .int x4)] [] M (zX2_creditOf_B5 KK5 this x1 x2 x3 x4 M) := by
  unfold zX2_creditOf_B5
  refine AW.iload (pc := 5) dX2_creditOf_5 4 rfl ?_
  refine AW.iconst (pc := 7) dX2_creditOf_7 ci_4 ?_
  refine AW.icmp_ge (pc := 8) 35 dX2_creditOf_8 (by decide) (fun h1 => ?_) (fun h1 => ?_)
  · refine AW.iconst (pc := 35) dX2_creditOf_35 ci_0 ?_
    refine AW.istore (pc := 36) [1, 2, 3, 4, 0] [(0, .ref (ad E this)), (1, .int x1), (2, .ref (ad E x2)), (3, .int x3), (4, .int 0)] dX2_creditOf_36 (by decide) rfl ?_
    exact kX2_creditOf_L38 l E n hn ct hct ex FU this x1 x2 x3 0 M hthis
  · refine AW.iload_n (pc := 11) dX2_creditOf_11 rfl 3 rfl ?_
    refine AW.aload_n (pc := 12) dX2_creditOf_12 rfl 2 rfl ?_
    refine AW.iload (pc := 13) dX2_creditOf_13 4 rfl ?_
    refine AW.iconst (pc := 15) dX2_creditOf_15 ci_m1 ?_
    refine AW.chk (fun g4 => ?_)
    refine AW.cV2i (pc := 16) dX2_creditOf_16 mlX2_81 mbX0_guessedOdds rfl g4 (kct g4 rfl hct) (fun _ => okR_N (by omega)) (kX0_guessedOdds l E (n - 1) (by omega) ct hct ex x2 x4 (-1) M) (Nat.le_of_ble_eq_true rfl) (fun v2 M3 => ?_)
    refine AW.if_le (pc := 19) 26 dX2_creditOf_19 (by decide) (fun h5 => ?_) (fun h5 => ?_)
    · refine AW.iconst (pc := 26) dX2_creditOf_26 ci_0 ?_
      exact AW.sub [0, 1, 2, 4] rfl (kX2_creditOf_B27 l E n hn ct hct ex KK5 hKK5 this x1 x2 x4 x3 0 M3 hthis)
    · refine AW.iconst (pc := 22) dX2_creditOf_22 ci_1 ?_
      refine AW.goto (pc := 23) 27 dX2_creditOf_23 (by decide) ?_
      exact AW.sub [0, 1, 2, 4] rfl (kX2_creditOf_B27 l E n hn ct hct ex KK5 hKK5 this x1 x2 x4 x3 1 M3 hthis)
set_option maxRecDepth 20000 in
set_option maxHeartbeats 4000000 in
theorem kX2_creditOf_L5 (l : Launch) (E : Ev) (n : Nat) (hn : 5 ≤ n) (ct : Nat) (hct : 111 ≤ ct) (ex : Bool) (k : Nat) : ∀ (this : Nat) (x1 : Int32) (x2 : Nat) (x3 : Int32) (x4 : Int32) (M : Mem) (_ : K0 this = (0, 2)), AW l E fX2_creditOf (fun _ => rmN n 0 0) (PQr E 0 0 ct ex enI) ct ex 0 0 5 [(0, .ref (ad E this)), (1, .int x1), (2, .ref (ad E x2)), (3, .int x3), (4, .int x4)] [] M (zX2_creditOf_L5 k this x1 x2 x3 x4 M) := by
  induction k with
  | zero => intro this x1 x2 x3 x4 M _; exact AW.none
  | succ k ih =>
    intro this x1 x2 x3 x4 M hthis
    exact kX2_creditOf_B5 l E n hn ct hct ex (zX2_creditOf_L5 k) ih this x1 x2 x3 x4 M hthis
set_option maxRecDepth 20000 in
set_option maxHeartbeats 4000000 in
theorem kX2_creditOf (l : Launch) (E : Ev) (n : Nat) (hn : 5 ≤ n) (ct : Nat) (hct : 111 ≤ ct) (ex : Bool) (this : Nat) (x1 : Int32) (x2 : Nat) (M : Mem) : AM l E n ct ex yX2_creditOf fX2_creditOf enI [.ref (ad E this), .int x1, .ref (ad E x2)] M (zX2_creditOf this x1 x2 M) := by
  unfold zX2_creditOf
  refine AM.of (by decide +kernel) ⟨rfl, rfl, rfl⟩ (Nat.le_of_ble_eq_true rfl) ?_
  refine AW.chk (fun hthis => ?_)
  refine AW.iconst (pc := 0) dX2_creditOf_0 ci_0 ?_
  refine AW.istore_n (pc := 1) [1, 2, 3, 0] [(0, .ref (ad E this)), (1, .int x1), (2, .ref (ad E x2)), (3, .int 0)] dX2_creditOf_1 rfl (by decide) rfl ?_
  refine AW.iconst (pc := 2) dX2_creditOf_2 ci_0 ?_
  refine AW.istore (pc := 3) [1, 2, 3, 4, 0] [(0, .ref (ad E this)), (1, .int x1), (2, .ref (ad E x2)), (3, .int 0), (4, .int 0)] dX2_creditOf_3 (by decide) rfl ?_
  exact kX2_creditOf_L5 l E n hn ct hct ex FU this x1 x2 0 0 M hthis
-- GateBox.credit(II)I
def zX11_credit (this : Nat) (x1 : Int32) (x2 : Int32) (M : Mem) : Option ((Int32 ⊕ Nat) × Mem) :=
  if K0 this = (0, 11) then
  bndX (zX11_gateOf this x1 M) fun v1 M2 =>
  bndX (zX11_askKnown x2 3 M2) fun _ M3 =>
  if K0 v1 = (0, 4) then
  if mR M3 v1 1 ≠ 0 then
  if K0 (mR M3 v1 1) = (0, 0) then
  bnd (zX0_guessedOdds (mR M3 v1 1) x2 (-1) M3) fun v6 M7 =>
  if v6 = 0 then
    some (.inl (-1), M7)
  else
    bnd (zX11_readClues this v1 M7) fun _ M10 =>
    if mR M10 this 11 ≠ 0 then
    if mR M10 v1 1 ≠ 0 then
    if K0 (mR M10 this 11) = (0, 2) then
    bnd (zX2_creditOf (mR M10 this 11) x2 (mR M10 v1 1) M10) fun v13 M14 =>
    some (.inl v13, M14)
    else none
    else none
    else none
  else none
  else none
  else none
  else none
set_option maxRecDepth 20000 in
set_option maxHeartbeats 4000000 in
theorem kX11_credit (l : Launch) (E : Ev) (hst : l.stackTraces = false) (n : Nat) (hn : 8 ≤ n) (ct : Nat) (hct : 111 ≤ ct) (ex : Bool) (this : Nat) (x1 : Int32) (x2 : Int32) (M : Mem) : AMX l E n ct ex yX11_credit fX11_credit enI [.ref (ad E this), .int x1, .int x2] M (zX11_credit this x1 x2 M) := by
  unfold zX11_credit
  refine AMX.of (by decide +kernel) ⟨rfl, rfl, rfl⟩ (Nat.le_of_ble_eq_true rfl) ?_
  refine AW.chk (fun hthis => ?_)
  refine AW.aload_n (pc := 0) dX11_credit_0 rfl 0 rfl ?_
  refine AW.iload_n (pc := 1) dX11_credit_1 rfl 1 rfl ?_
  refine AW.xV1r (pc := 2) rfl dX11_credit_2 mlX11_106 mbX11_gateOf rfl hthis (kct hthis rfl hct) (by omega) (kX11_gateOf l E hst (n - 1) (by omega) ct hct ex this x1 M) (Nat.le_of_ble_eq_true rfl) (fun v1 M2 => ?_)
  refine AW.astore_n (pc := 5) [1, 3, 0] [(0, .ref (ad E this)), (2, .int x2), (3, .ref (ad E v1))] dX11_credit_5 rfl (by decide) rfl ?_
  refine AW.iload_n (pc := 6) dX11_credit_6 rfl 1 rfl ?_
  refine AW.iconst (pc := 7) dX11_credit_7 ci_3 ?_
  refine AW.xS2v (pc := 8) rfl dX11_credit_8 mlX11_134 mbX11_askKnown (by omega) (kX11_askKnown l E hst (n - 1) (by omega) ct hct ex x2 3 M2) (Nat.le_of_ble_eq_true rfl) (fun _ M3 => ?_)
  refine AW.aload_n (pc := 11) dX11_credit_11 rfl 2 rfl ?_
  refine AW.chk (fun g4 => ?_)
  refine AW.chk (fun g5 => ?_)
  refine AW.getR (pc := 12) dX11_credit_12 flX11_125 g4 (kct g4 rfl hct) g5 ?_
  refine AW.iload_n (pc := 15) dX11_credit_15 rfl 1 rfl ?_
  refine AW.iconst (pc := 16) dX11_credit_16 ci_m1 ?_
  refine AW.chk (fun g8 => ?_)
  refine AW.cV2i (pc := 17) dX11_credit_17 mlX11_325 mbX0_guessedOdds rfl g8 (kct g8 rfl hct) (fun r => okR_X (by omega) r) (kX0_guessedOdds l E (n - 1) (by omega) ct hct ex (mR M3 v1 1) x2 (-1) M3) (Nat.le_of_ble_eq_true rfl) (fun v6 M7 => ?_)
  refine AW.if_ne (pc := 20) 25 dX11_credit_20 (by decide) (fun h9 => ?_) (fun h9 => ?_)
  · refine AW.iconst (pc := 23) dX11_credit_23 ci_m1 ?_
    exact AW.iret (pc := 24) dX11_credit_24 rfl (fun _ _ _ => rfl) (Nat.le_refl _) (Nat.le_refl _)
  · refine AW.aload_n (pc := 25) dX11_credit_25 rfl 0 rfl ?_
    refine AW.aload_n (pc := 26) dX11_credit_26 rfl 2 rfl ?_
    refine AW.cV1v (pc := 27) dX11_credit_27 mlX11_297 mbX11_readClues rfl hthis (kct hthis rfl hct) (fun r => okR_X (by omega) r) (kX11_readClues l E (n - 1) (by omega) ct hct ex this v1 M7) (Nat.le_of_ble_eq_true rfl) (fun _ M10 => ?_)
    refine AW.aload_n (pc := 30) dX11_credit_30 rfl 0 rfl ?_
    refine AW.chk (fun g11 => ?_)
    refine AW.getR (pc := 31) dX11_credit_31 flX11_82 hthis (kct hthis rfl hct) g11 ?_
    refine AW.iload_n (pc := 34) dX11_credit_34 rfl 1 rfl ?_
    refine AW.aload_n (pc := 35) dX11_credit_35 rfl 2 rfl ?_
    refine AW.chk (fun g12 => ?_)
    refine AW.getR (pc := 36) dX11_credit_36 flX11_125 g4 (kct g4 rfl hct) g12 ?_
    refine AW.chk (fun g15 => ?_)
    refine AW.cV2i (pc := 39) dX11_credit_39 mlX11_328 mbX2_creditOf rfl g15 (kct g15 rfl hct) (fun r => okR_X (by omega) r) (kX2_creditOf l E (n - 1) (by omega) ct hct ex (mR M10 this 11) x2 (mR M10 v1 1) M10) (Nat.le_of_ble_eq_true rfl) (fun v13 M14 => ?_)
    exact AW.iret (pc := 42) dX11_credit_42 rfl (fun _ _ _ => rfl) (Nat.le_refl _) (Nat.le_refl _)
-- GateBox$Gate.draw(I)I
def zX4_draw (this : Nat) (x1 : Int32) (M : Mem) : Option (Int32 × Mem) :=
  if K0 this = (0, 4) then
  lt (sI M this 3 (((mI M this 3) * 1103515245) + 12345)) fun M1 =>
  if x1 ≤ 0 then
    some (0, M1)
  else
    if ¬ x1 = 0 then
    some (((iushr (mI M1 this 3) 16) &&& 32767) % x1, M1)
    else none
  else none
set_option maxRecDepth 20000 in
set_option maxHeartbeats 4000000 in
theorem kX4_draw (l : Launch) (E : Ev) (n : Nat) (hn : 1 ≤ n) (ct : Nat) (hct : 111 ≤ ct) (ex : Bool) (this : Nat) (x1 : Int32) (M : Mem) : AM l E n ct ex yX4_draw fX4_draw enI [.ref (ad E this), .int x1] M (zX4_draw this x1 M) := by
  unfold zX4_draw
  refine AM.of (by decide +kernel) ⟨rfl, rfl, rfl⟩ (Nat.le_of_ble_eq_true rfl) ?_
  refine AW.chk (fun hthis => ?_)
  refine AW.aload_n (pc := 0) dX4_draw_0 rfl 0 rfl ?_
  refine AW.aload_n (pc := 1) dX4_draw_1 rfl 0 rfl ?_
  refine AW.getI (pc := 2) dX4_draw_2 flX4_28 hthis (kct hthis rfl hct) ?_
  refine AW.ldc (pc := 5) dX4_draw_5 ccX4_86 ?_
  refine AW.imul (pc := 7) dX4_draw_7 ?_
  refine AW.sipush (pc := 8) dX4_draw_8 cs_12345 ?_
  refine AW.iadd (pc := 11) dX4_draw_11 ?_
  refine AW.putI (pc := 12) dX4_draw_12 flX4_28 hthis (kct hthis rfl hct) ?_
  refine AW.genM (fun M1 => ?_)
  refine AW.iload_n (pc := 15) dX4_draw_15 rfl 1 rfl ?_
  refine AW.if_le (pc := 16) 35 dX4_draw_16 (by decide) (fun h2 => ?_) (fun h2 => ?_)
  · refine AW.iconst (pc := 35) dX4_draw_35 ci_0 ?_
    exact AW.iret (pc := 36) dX4_draw_36 rfl (fun _ _ _ => rfl) (Nat.le_refl _) (Nat.le_refl _)
  · refine AW.aload_n (pc := 19) dX4_draw_19 rfl 0 rfl ?_
    refine AW.getI (pc := 20) dX4_draw_20 flX4_28 hthis (kct hthis rfl hct) ?_
    refine AW.bipush (pc := 23) dX4_draw_23 cb_16 ?_
    refine AW.iushr (pc := 25) dX4_draw_25 ?_
    refine AW.sipush (pc := 26) dX4_draw_26 cs_32767 ?_
    refine AW.iand (pc := 29) dX4_draw_29 ?_
    refine AW.iload_n (pc := 30) dX4_draw_30 rfl 1 rfl ?_
    refine AW.chk (fun g3 => ?_)
    refine AW.irem (pc := 31) dX4_draw_31 g3 ?_
    refine AW.goto (pc := 32) 36 dX4_draw_32 (by decide) ?_
    exact AW.iret (pc := 36) dX4_draw_36 rfl (fun _ _ _ => rfl) (Nat.le_refl _) (Nat.le_refl _)
-- GateBox$Gate.drawSort()I
def zX4_drawSort_B16 (KK16 : Nat → Int32 → Int32 → Int32 → Mem → Option (Int32 × Mem)) (this : Nat) (x1 : Int32) (x2 : Int32) (x3 : Int32) (M : Mem) : Option (Int32 × Mem) :=
  if mR M this 0 ≠ 0 then
  if K0 (mR M this 0) = (0, 8) then
  if (mI M (mR M this 0) 0) ≤ x3 then
    some (0, M)
  else
    if mR M (mR M this 0) 7 ≠ 0 then
    bnd (zX11_at (mR M (mR M this 0) 7) x3 M) fun v5 M6 =>
    lt (x2 + v5) fun v7 =>
    if v7 ≤ x1 then
      KK16 this x1 v7 (x3 + 1) M6
    else
      some (x3, M6)
    else none
  else none
  else none
def zX4_drawSort_L16 : Nat → Nat → Int32 → Int32 → Int32 → Mem → Option (Int32 × Mem)
  | 0 => fun _ _ _ _ _ => none
  | k + 1 => zX4_drawSort_B16 (zX4_drawSort_L16 k)
def zX4_drawSort (this : Nat) (M : Mem) : Option (Int32 × Mem) :=
  if K0 this = (0, 4) then
  if mR M this 0 ≠ 0 then
  if K0 (mR M this 0) = (0, 8) then
  bnd (zX4_draw this (mI M (mR M this 0) 1) M) fun v3 M4 =>
  zX4_drawSort_L16 FU this v3 0 0 M4
  else none
  else none
  else none
set_option maxRecDepth 20000 in
set_option maxHeartbeats 4000000 in
theorem kX4_drawSort_B16 (l : Launch) (E : Ev) (n : Nat) (hn : 2 ≤ n) (ct : Nat) (hct : 111 ≤ ct) (ex : Bool) (KK16 : Nat → Int32 → Int32 → Int32 → Mem → Option (Int32 × Mem)) (hKK16 : ∀ (this : Nat) (x1 : Int32) (x2 : Int32) (x3 : Int32) (M : Mem) (_ : K0 this = (0, 4)), AW l E fX4_drawSort (fun _ => rmN n 0 0) (PQr E 0 0 ct ex enI) ct ex 0 0 16 [(0, .ref (ad E this)), (1, .int x1), (2, .int x2), (3, .int x3)] [] M (KK16 this x1 x2 x3 M)) (this : Nat) (x1 : Int32) (x2 : Int32) (x3 : Int32) (M : Mem) (hthis : K0 this = (0, 4)) : AW l E fX4_drawSort (fun _ => rmN n 0 0) (PQr E 0 0 ct ex enI) ct ex 0 0 16 [(0, .ref (ad E this)), (1, .int x1), (2, .int x2), (3, .int x3)] [] M (zX4_drawSort_B16 KK16 this x1 x2 x3 M) := by
  unfold zX4_drawSort_B16
  refine AW.iload_n (pc := 16) dX4_drawSort_16 rfl 3 rfl ?_
  refine AW.aload_n (pc := 17) dX4_drawSort_17 rfl 0 rfl ?_
  refine AW.chk (fun g1 => ?_)
  refine AW.getR (pc := 18) dX4_drawSort_18 flX4_12 hthis (kct hthis rfl hct) g1 ?_
  refine AW.chk (fun g2 => ?_)
  refine AW.getI (pc := 21) dX4_drawSort_21 flX4_75 g2 (kct g2 rfl hct) ?_
  refine AW.icmp_ge (pc := 24) 54 dX4_drawSort_24 (by decide) (fun h3 => ?_) (fun h3 => ?_)
  · refine AW.iconst (pc := 54) dX4_drawSort_54 ci_0 ?_
    exact AW.iret (pc := 55) dX4_drawSort_55 rfl (fun _ _ _ => rfl) (Nat.le_refl _) (Nat.le_refl _)
  · refine AW.iload_n (pc := 27) dX4_drawSort_27 rfl 2 rfl ?_
    refine AW.aload_n (pc := 28) dX4_drawSort_28 rfl 0 rfl ?_
    refine AW.getR (pc := 29) dX4_drawSort_29 flX4_12 hthis (kct hthis rfl hct) g1 ?_
    refine AW.chk (fun g4 => ?_)
    refine AW.getR (pc := 32) dX4_drawSort_32 flX4_78 g2 (kct g2 rfl hct) g4 ?_
    refine AW.iload_n (pc := 35) dX4_drawSort_35 rfl 3 rfl ?_
    refine AW.cN2i (pc := 36) dX4_drawSort_36 nlX4_82 mbX11_at (fun _ => okR_N (by omega)) (kX11_at l E (n - 1) (by omega) ct hct ex (mR M (mR M this 0) 7) x3 M) (Nat.le_of_ble_eq_true rfl) (fun v5 M6 => ?_)
    refine AW.iadd (pc := 39) dX4_drawSort_39 ?_
    refine AW.genI (fun v7 => ?_)
    refine AW.istore_n (pc := 40) [1, 2, 0, 3] [(0, .ref (ad E this)), (1, .int x1), (2, .int v7), (3, .int x3)] dX4_drawSort_40 rfl (by decide) rfl ?_
    refine AW.iload_n (pc := 41) dX4_drawSort_41 rfl 2 rfl ?_
    refine AW.iload_n (pc := 42) dX4_drawSort_42 rfl 1 rfl ?_
    refine AW.icmp_le (pc := 43) 48 dX4_drawSort_43 (by decide) (fun h8 => ?_) (fun h8 => ?_)
    · refine AW.iinc (pc := 48) (w := 3) [1, 2, 3, 0] [(0, .ref (ad E this)), (1, .int x1), (2, .int v7), (3, .int (x3 + 1))] dX4_drawSort_48 rfl (inc_1 _) (by decide) rfl ?_
      refine AW.goto (pc := 51) 16 dX4_drawSort_51 (by decide) ?_
      exact hKK16 this x1 v7 (x3 + 1) M6 hthis
    · refine AW.iload_n (pc := 46) dX4_drawSort_46 rfl 3 rfl ?_
      exact AW.iret (pc := 47) dX4_drawSort_47 rfl (fun _ _ _ => rfl) (Nat.le_refl _) (Nat.le_refl _)
set_option maxRecDepth 20000 in
set_option maxHeartbeats 4000000 in
theorem kX4_drawSort_L16 (l : Launch) (E : Ev) (n : Nat) (hn : 2 ≤ n) (ct : Nat) (hct : 111 ≤ ct) (ex : Bool) (k : Nat) : ∀ (this : Nat) (x1 : Int32) (x2 : Int32) (x3 : Int32) (M : Mem) (_ : K0 this = (0, 4)), AW l E fX4_drawSort (fun _ => rmN n 0 0) (PQr E 0 0 ct ex enI) ct ex 0 0 16 [(0, .ref (ad E this)), (1, .int x1), (2, .int x2), (3, .int x3)] [] M (zX4_drawSort_L16 k this x1 x2 x3 M) := by
  induction k with
  | zero => intro this x1 x2 x3 M _; exact AW.none
  | succ k ih =>
    intro this x1 x2 x3 M hthis
    exact kX4_drawSort_B16 l E n hn ct hct ex (zX4_drawSort_L16 k) ih this x1 x2 x3 M hthis
set_option maxRecDepth 20000 in
set_option maxHeartbeats 4000000 in
theorem kX4_drawSort (l : Launch) (E : Ev) (n : Nat) (hn : 2 ≤ n) (ct : Nat) (hct : 111 ≤ ct) (ex : Bool) (this : Nat) (M : Mem) : AM l E n ct ex yX4_drawSort fX4_drawSort enI [.ref (ad E this)] M (zX4_drawSort this M) := by
  unfold zX4_drawSort
  refine AM.of (by decide +kernel) ⟨rfl, rfl, rfl⟩ (Nat.le_of_ble_eq_true rfl) ?_
  refine AW.chk (fun hthis => ?_)
  refine AW.aload_n (pc := 0) dX4_drawSort_0 rfl 0 rfl ?_
  refine AW.aload_n (pc := 1) dX4_drawSort_1 rfl 0 rfl ?_
  refine AW.chk (fun g1 => ?_)
  refine AW.getR (pc := 2) dX4_drawSort_2 flX4_12 hthis (kct hthis rfl hct) g1 ?_
  refine AW.chk (fun g2 => ?_)
  refine AW.getI (pc := 5) dX4_drawSort_5 flX4_72 g2 (kct g2 rfl hct) ?_
  refine AW.cV1i (pc := 8) dX4_drawSort_8 mlX4_62 mbX4_draw rfl hthis (kct hthis rfl hct) (fun _ => okR_N (by omega)) (kX4_draw l E (n - 1) (by omega) ct hct ex this (mI M (mR M this 0) 1) M) (Nat.le_of_ble_eq_true rfl) (fun v3 M4 => ?_)
  refine AW.istore_n (pc := 11) [1, 0] [(0, .ref (ad E this)), (1, .int v3)] dX4_drawSort_11 rfl (by decide) rfl ?_
  refine AW.iconst (pc := 12) dX4_drawSort_12 ci_0 ?_
  refine AW.istore_n (pc := 13) [1, 2, 0] [(0, .ref (ad E this)), (1, .int v3), (2, .int 0)] dX4_drawSort_13 rfl (by decide) rfl ?_
  refine AW.iconst (pc := 14) dX4_drawSort_14 ci_0 ?_
  refine AW.istore_n (pc := 15) [1, 2, 3, 0] [(0, .ref (ad E this)), (1, .int v3), (2, .int 0), (3, .int 0)] dX4_drawSort_15 rfl (by decide) rfl ?_
  exact kX4_drawSort_L16 l E n hn ct hct ex FU this v3 0 0 M4 hthis
-- GateBox$Gate.comesOne(LGateBox$Giver;)I
def zX4_comesOne (this : Nat) (x1 : Nat) (M : Mem) : Option (Int32 × Mem) :=
  if K0 this = (0, 4) then
  bnd (zX4_drawSort this M) fun v1 M2 =>
  if mR M2 this 1 ≠ 0 then
  if K0 (mR M2 this 1) = (0, 0) then
  if K0 x1 = (0, 5) then
  bnd (zX5_giftAt x1 v1 (mI M2 (mR M2 this 1) 1) 0 M2) fun v5 M6 =>
  if v5 = (-1) then
    some (0, M6)
  else
    bnd (zX4_goOnWith this v5 M6) fun _ M9 =>
    if mR M9 this 1 ≠ 0 then
    if K0 (mR M9 this 1) = (0, 0) then
    lt (sI M9 (mR M9 this 1) 3 ((mI M9 (mR M9 this 1) 3) + v5)) fun M12 =>
    some (v5, M12)
    else none
    else none
  else none
  else none
  else none
  else none
set_option maxRecDepth 20000 in
set_option maxHeartbeats 4000000 in
theorem kX4_comesOne (l : Launch) (E : Ev) (n : Nat) (hn : 4 ≤ n) (ct : Nat) (hct : 111 ≤ ct) (ex : Bool) (this : Nat) (x1 : Nat) (M : Mem) : AM l E n ct ex yX4_comesOne fX4_comesOne enI [.ref (ad E this), .ref (ad E x1)] M (zX4_comesOne this x1 M) := by
  unfold zX4_comesOne
  refine AM.of (by decide +kernel) ⟨rfl, rfl, rfl⟩ (Nat.le_of_ble_eq_true rfl) ?_
  refine AW.chk (fun hthis => ?_)
  refine AW.aload_n (pc := 0) dX4_comesOne_0 rfl 1 rfl ?_
  refine AW.aload_n (pc := 1) dX4_comesOne_1 rfl 0 rfl ?_
  refine AW.cV0i (pc := 2) dX4_comesOne_2 mlX4_43 mbX4_drawSort rfl hthis (kct hthis rfl hct) (fun _ => okR_N (by omega)) (kX4_drawSort l E (n - 1) (by omega) ct hct ex this M) (Nat.le_of_ble_eq_true rfl) (fun v1 M2 => ?_)
  refine AW.aload_n (pc := 5) dX4_comesOne_5 rfl 0 rfl ?_
  refine AW.chk (fun g3 => ?_)
  refine AW.getR (pc := 6) dX4_comesOne_6 flX4_21 hthis (kct hthis rfl hct) g3 ?_
  refine AW.chk (fun g4 => ?_)
  refine AW.getI (pc := 9) dX4_comesOne_9 flX4_36 g4 (kct g4 rfl hct) ?_
  refine AW.iconst (pc := 12) dX4_comesOne_12 ci_0 ?_
  refine AW.chk (fun g7 => ?_)
  refine AW.cV3i (pc := 13) dX4_comesOne_13 mlX4_47 mbX5_giftAt rfl g7 (kct g7 rfl hct) (fun _ => okR_N (by omega)) (kX5_giftAt l E (n - 1) (by omega) ct hct ex x1 v1 (mI M2 (mR M2 this 1) 1) 0 M2) (Nat.le_of_ble_eq_true rfl) (fun v5 M6 => ?_)
  refine AW.istore_n (pc := 16) [1, 0] [(0, .ref (ad E this)), (2, .int v5)] dX4_comesOne_16 rfl (by decide) rfl ?_
  refine AW.iload_n (pc := 17) dX4_comesOne_17 rfl 1 rfl ?_
  refine AW.iconst (pc := 18) dX4_comesOne_18 ci_m1 ?_
  refine AW.icmp_ne (pc := 19) 24 dX4_comesOne_19 (by decide) (fun h8 => ?_) (fun h8 => ?_)
  · refine AW.iconst (pc := 22) dX4_comesOne_22 ci_0 ?_
    exact AW.iret (pc := 23) dX4_comesOne_23 rfl (fun _ _ _ => rfl) (Nat.le_refl _) (Nat.le_refl _)
  · refine AW.aload_n (pc := 24) dX4_comesOne_24 rfl 0 rfl ?_
    refine AW.iload_n (pc := 25) dX4_comesOne_25 rfl 1 rfl ?_
    refine AW.cV1v (pc := 26) dX4_comesOne_26 mlX4_53 mbX4_goOnWith rfl hthis (kct hthis rfl hct) (fun _ => okR_N (by omega)) (kX4_goOnWith l E (n - 1) (by omega) ct hct ex this v5 M6) (Nat.le_of_ble_eq_true rfl) (fun _ M9 => ?_)
    refine AW.aload_n (pc := 29) dX4_comesOne_29 rfl 0 rfl ?_
    refine AW.chk (fun g10 => ?_)
    refine AW.getR (pc := 30) dX4_comesOne_30 flX4_21 hthis (kct hthis rfl hct) g10 ?_
    refine AW.dup (pc := 33) dX4_comesOne_33 rfl ?_
    refine AW.chk (fun g11 => ?_)
    refine AW.getI (pc := 34) dX4_comesOne_34 flX4_56 g11 (kct g11 rfl hct) ?_
    refine AW.iload_n (pc := 37) dX4_comesOne_37 rfl 1 rfl ?_
    refine AW.iadd (pc := 38) dX4_comesOne_38 ?_
    refine AW.putI (pc := 39) dX4_comesOne_39 flX4_56 g11 (kct g11 rfl hct) ?_
    refine AW.genM (fun M12 => ?_)
    refine AW.iload_n (pc := 42) dX4_comesOne_42 rfl 1 rfl ?_
    exact AW.iret (pc := 43) dX4_comesOne_43 rfl (fun _ _ _ => rfl) (Nat.le_refl _) (Nat.le_refl _)
-- GateBox$Gate.comesThief()V
def zX4_comesThief (this : Nat) (M : Mem) : Option (Unit × Mem) :=
  if K0 this = (0, 4) then
  if mR M this 1 ≠ 0 then
  if K0 (mR M this 1) = (0, 0) then
  if mR M this 0 ≠ 0 then
  if K0 (mR M this 0) = (0, 8) then
  if (mI M (mR M this 1) 3) < (mI M (mR M this 0) 4) then
    some ((), M)
  else
    bnd (zX4_draw this 100 M) fun v6 M7 =>
    if mR M7 this 0 ≠ 0 then
    if K0 (mR M7 this 0) = (0, 8) then
    if (mI M7 (mR M7 this 0) 3) ≤ v6 then
      some ((), M7)
    else
      if mR M7 this 1 ≠ 0 then
      if K0 (mR M7 this 1) = (0, 0) then
      lt (sI M7 (mR M7 this 1) 4 ((mI M7 (mR M7 this 1) 4) + (mI M7 (mR M7 this 1) 3))) fun M13 =>
      if mR M13 this 1 ≠ 0 then
      if K0 (mR M13 this 1) = (0, 0) then
      lt (sI M13 (mR M13 this 1) 3 0) fun M16 =>
      some ((), M16)
      else none
      else none
      else none
      else none
    else none
    else none
  else none
  else none
  else none
  else none
  else none
set_option maxRecDepth 20000 in
set_option maxHeartbeats 4000000 in
theorem kX4_comesThief (l : Launch) (E : Ev) (n : Nat) (hn : 2 ≤ n) (ct : Nat) (hct : 111 ≤ ct) (ex : Bool) (this : Nat) (M : Mem) : AM l E n ct ex yX4_comesThief fX4_comesThief enU [.ref (ad E this)] M (zX4_comesThief this M) := by
  unfold zX4_comesThief
  refine AM.of (by decide +kernel) ⟨rfl, rfl, rfl⟩ (Nat.le_of_ble_eq_true rfl) ?_
  refine AW.chk (fun hthis => ?_)
  refine AW.aload_n (pc := 0) dX4_comesThief_0 rfl 0 rfl ?_
  refine AW.chk (fun g1 => ?_)
  refine AW.getR (pc := 1) dX4_comesThief_1 flX4_21 hthis (kct hthis rfl hct) g1 ?_
  refine AW.chk (fun g2 => ?_)
  refine AW.getI (pc := 4) dX4_comesThief_4 flX4_56 g2 (kct g2 rfl hct) ?_
  refine AW.aload_n (pc := 7) dX4_comesThief_7 rfl 0 rfl ?_
  refine AW.chk (fun g3 => ?_)
  refine AW.getR (pc := 8) dX4_comesThief_8 flX4_12 hthis (kct hthis rfl hct) g3 ?_
  refine AW.chk (fun g4 => ?_)
  refine AW.getI (pc := 11) dX4_comesThief_11 flX4_59 g4 (kct g4 rfl hct) ?_
  refine AW.icmp_lt (pc := 14) 60 dX4_comesThief_14 (by decide) (fun h5 => ?_) (fun h5 => ?_)
  · exact AW.vret (pc := 60) dX4_comesThief_60 rfl (fun _ _ _ => rfl) (Nat.le_refl _) (Nat.le_refl _)
  · refine AW.aload_n (pc := 17) dX4_comesThief_17 rfl 0 rfl ?_
    refine AW.bipush (pc := 18) dX4_comesThief_18 cb_100 ?_
    refine AW.cV1i (pc := 20) dX4_comesThief_20 mlX4_62 mbX4_draw rfl hthis (kct hthis rfl hct) (fun _ => okR_N (by omega)) (kX4_draw l E (n - 1) (by omega) ct hct ex this 100 M) (Nat.le_of_ble_eq_true rfl) (fun v6 M7 => ?_)
    refine AW.aload_n (pc := 23) dX4_comesThief_23 rfl 0 rfl ?_
    refine AW.chk (fun g8 => ?_)
    refine AW.getR (pc := 24) dX4_comesThief_24 flX4_12 hthis (kct hthis rfl hct) g8 ?_
    refine AW.chk (fun g9 => ?_)
    refine AW.getI (pc := 27) dX4_comesThief_27 flX4_66 g9 (kct g9 rfl hct) ?_
    refine AW.icmp_ge (pc := 30) 60 dX4_comesThief_30 (by decide) (fun h10 => ?_) (fun h10 => ?_)
    · exact AW.vret (pc := 60) dX4_comesThief_60 rfl (fun _ _ _ => rfl) (Nat.le_refl _) (Nat.le_refl _)
    · refine AW.aload_n (pc := 33) dX4_comesThief_33 rfl 0 rfl ?_
      refine AW.chk (fun g11 => ?_)
      refine AW.getR (pc := 34) dX4_comesThief_34 flX4_21 hthis (kct hthis rfl hct) g11 ?_
      refine AW.dup (pc := 37) dX4_comesThief_37 rfl ?_
      refine AW.chk (fun g12 => ?_)
      refine AW.getI (pc := 38) dX4_comesThief_38 flX4_69 g12 (kct g12 rfl hct) ?_
      refine AW.aload_n (pc := 41) dX4_comesThief_41 rfl 0 rfl ?_
      refine AW.getR (pc := 42) dX4_comesThief_42 flX4_21 hthis (kct hthis rfl hct) g11 ?_
      refine AW.getI (pc := 45) dX4_comesThief_45 flX4_56 g12 (kct g12 rfl hct) ?_
      refine AW.iadd (pc := 48) dX4_comesThief_48 ?_
      refine AW.putI (pc := 49) dX4_comesThief_49 flX4_69 g12 (kct g12 rfl hct) ?_
      refine AW.genM (fun M13 => ?_)
      refine AW.aload_n (pc := 52) dX4_comesThief_52 rfl 0 rfl ?_
      refine AW.chk (fun g14 => ?_)
      refine AW.getR (pc := 53) dX4_comesThief_53 flX4_21 hthis (kct hthis rfl hct) g14 ?_
      refine AW.iconst (pc := 56) dX4_comesThief_56 ci_0 ?_
      refine AW.chk (fun g15 => ?_)
      refine AW.putI (pc := 57) dX4_comesThief_57 flX4_56 g15 (kct g15 rfl hct) ?_
      refine AW.genM (fun M16 => ?_)
      exact AW.vret (pc := 60) dX4_comesThief_60 rfl (fun _ _ _ => rfl) (Nat.le_refl _) (Nat.le_refl _)
-- GateBox.drawn(III)I
def zX11_drawn_B102 (KK69 : Nat → Int32 → Nat → Int32 → Int32 → Mem → Option ((Int32 ⊕ Nat) × Mem)) (this : Nat) (x2 : Int32) (x4 : Nat) (x5 : Int32) (x6 : Int32) (M : Mem) : Option ((Int32 ⊕ Nat) × Mem) :=
  KK69 this x2 x4 x5 (x6 + 1) M
def zX11_drawn_B69 (KK69 : Nat → Int32 → Nat → Int32 → Int32 → Mem → Option ((Int32 ⊕ Nat) × Mem)) (this : Nat) (x2 : Int32) (x4 : Nat) (x5 : Int32) (x6 : Int32) (M : Mem) : Option ((Int32 ⊕ Nat) × Mem) :=
  if x2 < x6 then
    some (.inl x5, M)
  else
    if mR M this 7 ≠ 0 then
    if K0 x4 = (0, 4) then
    bnd (zX4_comesOne x4 (mR M this 7) M) fun v3 M4 =>
    lt (x5 + v3) fun v6 =>
    if (x6 % 10) = 0 then
      bnd (zX4_comesThief x4 M4) fun _ M8 =>
      zX11_drawn_B102 KK69 this x2 x4 v6 x6 M8
    else
      zX11_drawn_B102 KK69 this x2 x4 v6 x6 M4
    else none
    else none
def zX11_drawn_L69 : Nat → Nat → Int32 → Nat → Int32 → Int32 → Mem → Option ((Int32 ⊕ Nat) × Mem)
  | 0 => fun _ _ _ _ _ _ => none
  | k + 1 => zX11_drawn_B69 (zX11_drawn_L69 k)
def zX11_drawn (this : Nat) (x1 : Int32) (x2 : Int32) (x3 : Int32) (M : Mem) : Option ((Int32 ⊕ Nat) × Mem) :=
  if K0 this = (0, 11) then
  bndX (zX11_gateOf this x1 M) fun v1 M2 =>
  bndX (zX11_askRange x2 1 400 M2) fun _ M3 =>
  if K0 v1 = (0, 4) then
  if mR M3 v1 0 ≠ 0 then
  if K0 (mR M3 v1 0) = (0, 8) then
  if (mI M3 (mR M3 v1 0) 0) = 0 then
    some (.inr 1, M3)
  else
    if mR M3 this 7 ≠ 0 then
    if mR M3 (mR M3 v1 0) 12 ≠ 0 then
    if K0 (mR M3 this 7) = (0, 5) then
    bnd (zX5_begin (mR M3 this 7) (mR M3 v1 0) (mR M3 (mR M3 v1 0) 12) M3) fun _ M10 =>
    lt (sI M10 v1 3 x3) fun M12 =>
    zX11_drawn_L69 FU this x2 v1 0 1 M12
    else none
    else none
    else none
  else none
  else none
  else none
  else none
set_option maxRecDepth 20000 in
set_option maxHeartbeats 4000000 in
theorem kX11_drawn_B102 (l : Launch) (E : Ev) (hst : l.stackTraces = false) (n : Nat) (hn : 8 ≤ n) (ct : Nat) (hct : 111 ≤ ct) (ex : Bool) (KK69 : Nat → Int32 → Nat → Int32 → Int32 → Mem → Option ((Int32 ⊕ Nat) × Mem)) (hKK69 : ∀ (this : Nat) (x2 : Int32) (x4 : Nat) (x5 : Int32) (x6 : Int32) (M : Mem) (_ : K0 this = (0, 11)), AW l E fX11_drawn (RX n) (PQX E ct ex enI) ct ex 0 0 69 [(0, .ref (ad E this)), (2, .int x2), (4, .ref (ad E x4)), (5, .int x5), (6, .int x6)] [] M (KK69 this x2 x4 x5 x6 M)) (this : Nat) (x2 : Int32) (x4 : Nat) (x5 : Int32) (x6 : Int32) (M : Mem) (hthis : K0 this = (0, 11)) : AW l E fX11_drawn (RX n) (PQX E ct ex enI) ct ex 0 0 102 [(0, .ref (ad E this)), (2, .int x2), (4, .ref (ad E x4)), (5, .int x5), (6, .int x6)] [] M (zX11_drawn_B102 KK69 this x2 x4 x5 x6 M) := by
  unfold zX11_drawn_B102
  refine AW.iinc (pc := 102) (w := 4) [1, 2, 3, 4, 0] [(0, .ref (ad E this)), (2, .int x2), (4, .ref (ad E x4)), (5, .int x5), (6, .int (x6 + 1))] dX11_drawn_102 rfl (inc_1 _) (by decide) rfl ?_
  refine AW.goto (pc := 105) 69 dX11_drawn_105 (by decide) ?_
  exact hKK69 this x2 x4 x5 (x6 + 1) M hthis
set_option maxRecDepth 20000 in
set_option maxHeartbeats 4000000 in
theorem kX11_drawn_B69 (l : Launch) (E : Ev) (hst : l.stackTraces = false) (n : Nat) (hn : 8 ≤ n) (ct : Nat) (hct : 111 ≤ ct) (ex : Bool) (KK69 : Nat → Int32 → Nat → Int32 → Int32 → Mem → Option ((Int32 ⊕ Nat) × Mem)) (hKK69 : ∀ (this : Nat) (x2 : Int32) (x4 : Nat) (x5 : Int32) (x6 : Int32) (M : Mem) (_ : K0 this = (0, 11)), AW l E fX11_drawn (RX n) (PQX E ct ex enI) ct ex 0 0 69 [(0, .ref (ad E this)), (2, .int x2), (4, .ref (ad E x4)), (5, .int x5), (6, .int x6)] [] M (KK69 this x2 x4 x5 x6 M)) (this : Nat) (x2 : Int32) (x4 : Nat) (x5 : Int32) (x6 : Int32) (M : Mem) (hthis : K0 this = (0, 11)) : AW l E fX11_drawn (RX n) (PQX E ct ex enI) ct ex 0 0 69 [(0, .ref (ad E this)), (2, .int x2), (4, .ref (ad E x4)), (5, .int x5), (6, .int x6)] [] M (zX11_drawn_B69 KK69 this x2 x4 x5 x6 M) := by
  unfold zX11_drawn_B69
  refine AW.iload (pc := 69) dX11_drawn_69 4 rfl ?_
  refine AW.iload_n (pc := 71) dX11_drawn_71 rfl 1 rfl ?_
  refine AW.icmp_gt (pc := 72) 108 dX11_drawn_72 (by decide) (fun h1 => ?_) (fun h1 => ?_)
  · refine AW.iload (pc := 108) dX11_drawn_108 3 rfl ?_
    exact AW.iret (pc := 110) dX11_drawn_110 rfl (fun _ _ _ => rfl) (Nat.le_refl _) (Nat.le_refl _)
  · refine AW.iload (pc := 75) dX11_drawn_75 3 rfl ?_
    refine AW.aload (pc := 77) dX11_drawn_77 2 rfl ?_
    refine AW.aload_n (pc := 79) dX11_drawn_79 rfl 0 rfl ?_
    refine AW.chk (fun g2 => ?_)
    refine AW.getR (pc := 80) dX11_drawn_80 flX11_50 hthis (kct hthis rfl hct) g2 ?_
    refine AW.chk (fun g5 => ?_)
    refine AW.cV1i (pc := 83) dX11_drawn_83 mlX11_340 mbX4_comesOne rfl g5 (kct g5 rfl hct) (fun r => okR_X (by omega) r) (kX4_comesOne l E (n - 1) (by omega) ct hct ex x4 (mR M this 7) M) (Nat.le_of_ble_eq_true rfl) (fun v3 M4 => ?_)
    refine AW.iadd (pc := 86) dX11_drawn_86 ?_
    refine AW.genI (fun v6 => ?_)
    refine AW.istore (pc := 87) [1, 2, 3, 0, 4] [(0, .ref (ad E this)), (2, .int x2), (4, .ref (ad E x4)), (5, .int v6), (6, .int x6)] dX11_drawn_87 (by decide) rfl ?_
    refine AW.iload (pc := 89) dX11_drawn_89 4 rfl ?_
    refine AW.bipush (pc := 91) dX11_drawn_91 cb_10 ?_
    refine AW.irem (pc := 93) dX11_drawn_93 (by decide) ?_
    refine AW.if_ne (pc := 94) 102 dX11_drawn_94 (by decide) (fun h7 => ?_) (fun h7 => ?_)
    · refine AW.aload (pc := 97) dX11_drawn_97 2 rfl ?_
      refine AW.cV0v (pc := 99) dX11_drawn_99 mlX11_344 mbX4_comesThief rfl g5 (kct g5 rfl hct) (fun r => okR_X (by omega) r) (kX4_comesThief l E (n - 1) (by omega) ct hct ex x4 M4) (Nat.le_of_ble_eq_true rfl) (fun _ M8 => ?_)
      exact kX11_drawn_B102 l E hst n hn ct hct ex KK69 hKK69 this x2 x4 v6 x6 M8 hthis
    · exact kX11_drawn_B102 l E hst n hn ct hct ex KK69 hKK69 this x2 x4 v6 x6 M4 hthis
set_option maxRecDepth 20000 in
set_option maxHeartbeats 4000000 in
theorem kX11_drawn_L69 (l : Launch) (E : Ev) (hst : l.stackTraces = false) (n : Nat) (hn : 8 ≤ n) (ct : Nat) (hct : 111 ≤ ct) (ex : Bool) (k : Nat) : ∀ (this : Nat) (x2 : Int32) (x4 : Nat) (x5 : Int32) (x6 : Int32) (M : Mem) (_ : K0 this = (0, 11)), AW l E fX11_drawn (RX n) (PQX E ct ex enI) ct ex 0 0 69 [(0, .ref (ad E this)), (2, .int x2), (4, .ref (ad E x4)), (5, .int x5), (6, .int x6)] [] M (zX11_drawn_L69 k this x2 x4 x5 x6 M) := by
  induction k with
  | zero => intro this x2 x4 x5 x6 M _; exact AW.none
  | succ k ih =>
    intro this x2 x4 x5 x6 M hthis
    exact kX11_drawn_B69 l E hst n hn ct hct ex (zX11_drawn_L69 k) ih this x2 x4 x5 x6 M hthis
set_option maxRecDepth 20000 in
set_option maxHeartbeats 4000000 in
theorem kX11_drawn (l : Launch) (E : Ev) (hst : l.stackTraces = false) (n : Nat) (hn : 8 ≤ n) (ct : Nat) (hct : 111 ≤ ct) (ex : Bool) (this : Nat) (x1 : Int32) (x2 : Int32) (x3 : Int32) (M : Mem) : AMX l E n ct ex yX11_drawn fX11_drawn enI [.ref (ad E this), .int x1, .int x2, .int x3] M (zX11_drawn this x1 x2 x3 M) := by
  unfold zX11_drawn
  refine AMX.of (by decide +kernel) ⟨rfl, rfl, rfl⟩ (Nat.le_of_ble_eq_true rfl) ?_
  refine AW.chk (fun hthis => ?_)
  refine AW.aload_n (pc := 0) dX11_drawn_0 rfl 0 rfl ?_
  refine AW.iload_n (pc := 1) dX11_drawn_1 rfl 1 rfl ?_
  refine AW.xV1r (pc := 2) rfl dX11_drawn_2 mlX11_106 mbX11_gateOf rfl hthis (kct hthis rfl hct) (by omega) (kX11_gateOf l E hst (n - 1) (by omega) ct hct ex this x1 M) (Nat.le_of_ble_eq_true rfl) (fun v1 M2 => ?_)
  refine AW.astore (pc := 5) [1, 3, 4, 0] [(0, .ref (ad E this)), (2, .int x2), (3, .int x3), (4, .ref (ad E v1))] dX11_drawn_5 (by decide) rfl ?_
  refine AW.iload_n (pc := 7) dX11_drawn_7 rfl 1 rfl ?_
  refine AW.iconst (pc := 8) dX11_drawn_8 ci_1 ?_
  refine AW.sipush (pc := 9) dX11_drawn_9 cs_400 ?_
  refine AW.xS3v (pc := 12) rfl dX11_drawn_12 mlX11_110 mbX11_askRange (by omega) (kX11_askRange l E hst (n - 1) (by omega) ct hct ex x2 1 400 M2) (Nat.le_of_ble_eq_true rfl) (fun _ M3 => ?_)
  refine AW.aload (pc := 15) dX11_drawn_15 3 rfl ?_
  refine AW.chk (fun g4 => ?_)
  refine AW.chk (fun g5 => ?_)
  refine AW.getR (pc := 17) dX11_drawn_17 flX11_43 g4 (kct g4 rfl hct) g5 ?_
  refine AW.chk (fun g6 => ?_)
  refine AW.getI (pc := 20) dX11_drawn_20 flX11_148 g6 (kct g6 rfl hct) ?_
  refine AW.if_ne (pc := 23) 37 dX11_drawn_23 (by decide) (fun h7 => ?_) (fun h7 => ?_)
  · exact AW.throwSW (pc := 26) (i := 19) hst rfl rfl xt_332 rfl (by omega) dX11_drawn_26 dX11_drawn_29 dX11_drawn_30 dX11_drawn_33 dX11_drawn_36
  · refine AW.aload_n (pc := 37) dX11_drawn_37 rfl 0 rfl ?_
    refine AW.chk (fun g8 => ?_)
    refine AW.getR (pc := 38) dX11_drawn_38 flX11_50 hthis (kct hthis rfl hct) g8 ?_
    refine AW.aload (pc := 41) dX11_drawn_41 3 rfl ?_
    refine AW.getR (pc := 43) dX11_drawn_43 flX11_43 g4 (kct g4 rfl hct) g5 ?_
    refine AW.aload (pc := 46) dX11_drawn_46 3 rfl ?_
    refine AW.getR (pc := 48) dX11_drawn_48 flX11_43 g4 (kct g4 rfl hct) g5 ?_
    refine AW.chk (fun g9 => ?_)
    refine AW.getR (pc := 51) dX11_drawn_51 flX11_164 g6 (kct g6 rfl hct) g9 ?_
    refine AW.chk (fun g11 => ?_)
    refine AW.cV2v (pc := 54) dX11_drawn_54 mlX11_167 mbX5_begin rfl g11 (kct g11 rfl hct) (fun r => okR_X (by omega) r) (kX5_begin l E (n - 1) (by omega) ct hct ex (mR M3 this 7) (mR M3 v1 0) (mR M3 (mR M3 v1 0) 12) M3) (Nat.le_of_ble_eq_true rfl) (fun _ M10 => ?_)
    refine AW.aload (pc := 57) dX11_drawn_57 3 rfl ?_
    refine AW.iload_n (pc := 59) dX11_drawn_59 rfl 2 rfl ?_
    refine AW.putI (pc := 60) dX11_drawn_60 flX11_337 g4 (kct g4 rfl hct) ?_
    refine AW.genM (fun M12 => ?_)
    refine AW.iconst (pc := 63) dX11_drawn_63 ci_0 ?_
    refine AW.istore (pc := 64) [1, 2, 4, 0] [(0, .ref (ad E this)), (2, .int x2), (4, .ref (ad E v1)), (5, .int 0)] dX11_drawn_64 (by decide) rfl ?_
    refine AW.iconst (pc := 66) dX11_drawn_66 ci_1 ?_
    refine AW.istore (pc := 67) [1, 2, 3, 4, 0] [(0, .ref (ad E this)), (2, .int x2), (4, .ref (ad E v1)), (5, .int 0), (6, .int 1)] dX11_drawn_67 (by decide) rfl ?_
    exact kX11_drawn_L69 l E hst n hn ct hct ex FU this x2 v1 0 1 M12 hthis
-- GateBox.empty(I)I
def zX11_empty (this : Nat) (x1 : Int32) (M : Mem) : Option ((Int32 ⊕ Nat) × Mem) :=
  if K0 this = (0, 11) then
  bndX (zX11_gateOf this x1 M) fun v1 M2 =>
  if K0 v1 = (0, 4) then
  if mR M2 v1 1 ≠ 0 then
  if K0 (mR M2 v1 1) = (0, 0) then
  lt (mI M2 (mR M2 v1 1) 3) fun v6 =>
  lt (sI M2 (mR M2 v1 1) 3 0) fun M7 =>
  some (.inl v6, M7)
  else none
  else none
  else none
  else none
set_option maxRecDepth 20000 in
set_option maxHeartbeats 4000000 in
theorem kX11_empty (l : Launch) (E : Ev) (hst : l.stackTraces = false) (n : Nat) (hn : 8 ≤ n) (ct : Nat) (hct : 111 ≤ ct) (ex : Bool) (this : Nat) (x1 : Int32) (M : Mem) : AMX l E n ct ex yX11_empty fX11_empty enI [.ref (ad E this), .int x1] M (zX11_empty this x1 M) := by
  unfold zX11_empty
  refine AMX.of (by decide +kernel) ⟨rfl, rfl, rfl⟩ (Nat.le_of_ble_eq_true rfl) ?_
  refine AW.chk (fun hthis => ?_)
  refine AW.aload_n (pc := 0) dX11_empty_0 rfl 0 rfl ?_
  refine AW.iload_n (pc := 1) dX11_empty_1 rfl 1 rfl ?_
  refine AW.xV1r (pc := 2) rfl dX11_empty_2 mlX11_106 mbX11_gateOf rfl hthis (kct hthis rfl hct) (by omega) (kX11_gateOf l E hst (n - 1) (by omega) ct hct ex this x1 M) (Nat.le_of_ble_eq_true rfl) (fun v1 M2 => ?_)
  refine AW.chk (fun g3 => ?_)
  refine AW.chk (fun g4 => ?_)
  refine AW.getR (pc := 5) dX11_empty_5 flX11_125 g3 (kct g3 rfl hct) g4 ?_
  refine AW.astore_n (pc := 8) [1, 0] [(0, .ref (ad E this)), (2, .ref (ad E (mR M2 v1 1)))] dX11_empty_8 rfl (by decide) rfl ?_
  refine AW.aload_n (pc := 9) dX11_empty_9 rfl 1 rfl ?_
  refine AW.chk (fun g5 => ?_)
  refine AW.getI (pc := 10) dX11_empty_10 flX11_347 g5 (kct g5 rfl hct) ?_
  refine AW.genI (fun v6 => ?_)
  refine AW.istore_n (pc := 13) [1, 2, 0] [(0, .ref (ad E this)), (2, .ref (ad E (mR M2 v1 1))), (3, .int v6)] dX11_empty_13 rfl (by decide) rfl ?_
  refine AW.aload_n (pc := 14) dX11_empty_14 rfl 1 rfl ?_
  refine AW.iconst (pc := 15) dX11_empty_15 ci_0 ?_
  refine AW.putI (pc := 16) dX11_empty_16 flX11_347 g5 (kct g5 rfl hct) ?_
  refine AW.genM (fun M7 => ?_)
  refine AW.iload_n (pc := 19) dX11_empty_19 rfl 2 rfl ?_
  exact AW.iret (pc := 20) dX11_empty_20 rfl (fun _ _ _ => rfl) (Nat.le_refl _) (Nat.le_refl _)
-- GateBox.copy([I[I)V
def zX11_copy_B2 (KK2 : Nat → Nat → Int32 → Mem → Option (Unit × Mem)) (x0 : Nat) (x1 : Nat) (x2 : Int32) (M : Mem) : Option (Unit × Mem) :=
  if (K0 x0).1 = 1 then
  if (Int32.ofNat (K0 x0).2) ≤ x2 then
    some ((), M)
  else
    if (K0 x1).1 = 1 then
    if (Int32.ofNat (K0 x1).2) ≤ x2 then
      some ((), M)
    else
      if inb x2 (K0 x0).2 = true then
      if inb x2 (K0 x1).2 = true then
      lt (sI M x1 (Int32.toNatClampNeg x2) (mI M x0 (Int32.toNatClampNeg x2))) fun M7 =>
      KK2 x0 x1 (x2 + 1) M7
      else none
      else none
    else none
  else none
def zX11_copy_L2 : Nat → Nat → Nat → Int32 → Mem → Option (Unit × Mem)
  | 0 => fun _ _ _ _ => none
  | k + 1 => zX11_copy_B2 (zX11_copy_L2 k)
def zX11_copy (x0 : Nat) (x1 : Nat) (M : Mem) : Option (Unit × Mem) :=
  zX11_copy_L2 FU x0 x1 0 M
set_option maxRecDepth 20000 in
set_option maxHeartbeats 4000000 in
theorem kX11_copy_B2 (l : Launch) (E : Ev) (n : Nat) (hn : 1 ≤ n) (ct : Nat) (hct : 111 ≤ ct) (ex : Bool) (KK2 : Nat → Nat → Int32 → Mem → Option (Unit × Mem)) (hKK2 : ∀ (x0 : Nat) (x1 : Nat) (x2 : Int32) (M : Mem), AW l E fX11_copy (fun _ => rmN n 0 0) (PQr E 0 0 ct ex enU) ct ex 0 0 2 [(0, .ref (ad E x0)), (1, .ref (ad E x1)), (2, .int x2)] [] M (KK2 x0 x1 x2 M)) (x0 : Nat) (x1 : Nat) (x2 : Int32) (M : Mem) : AW l E fX11_copy (fun _ => rmN n 0 0) (PQr E 0 0 ct ex enU) ct ex 0 0 2 [(0, .ref (ad E x0)), (1, .ref (ad E x1)), (2, .int x2)] [] M (zX11_copy_B2 KK2 x0 x1 x2 M) := by
  unfold zX11_copy_B2
  refine AW.iload_n (pc := 2) dX11_copy_2 rfl 2 rfl ?_
  refine AW.aload_n (pc := 3) dX11_copy_3 rfl 0 rfl ?_
  refine AW.chk (fun g1 => ?_)
  refine AW.alen (pc := 4) dX11_copy_4 (k0e g1) (by decide) (kct (k0e g1) rfl hct) rfl ?_
  refine AW.icmp_ge (pc := 5) 26 dX11_copy_5 (by decide) (fun h2 => ?_) (fun h2 => ?_)
  · exact AW.vret (pc := 26) dX11_copy_26 rfl (fun _ _ _ => rfl) (Nat.le_refl _) (Nat.le_refl _)
  · refine AW.iload_n (pc := 8) dX11_copy_8 rfl 2 rfl ?_
    refine AW.aload_n (pc := 9) dX11_copy_9 rfl 1 rfl ?_
    refine AW.chk (fun g3 => ?_)
    refine AW.alen (pc := 10) dX11_copy_10 (k0e g3) (by decide) (kct (k0e g3) rfl hct) rfl ?_
    refine AW.icmp_ge (pc := 11) 26 dX11_copy_11 (by decide) (fun h4 => ?_) (fun h4 => ?_)
    · exact AW.vret (pc := 26) dX11_copy_26 rfl (fun _ _ _ => rfl) (Nat.le_refl _) (Nat.le_refl _)
    · refine AW.aload_n (pc := 14) dX11_copy_14 rfl 1 rfl ?_
      refine AW.iload_n (pc := 15) dX11_copy_15 rfl 2 rfl ?_
      refine AW.aload_n (pc := 16) dX11_copy_16 rfl 0 rfl ?_
      refine AW.iload_n (pc := 17) dX11_copy_17 rfl 2 rfl ?_
      refine AW.chk (fun g5 => ?_)
      refine AW.iald (pc := 18) dX11_copy_18 (k0e g1) (kct (k0e g1) rfl hct) g5 ?_
      refine AW.chk (fun g6 => ?_)
      refine AW.iast (pc := 19) dX11_copy_19 (k0e g3) (kct (k0e g3) rfl hct) g6 ?_
      refine AW.genM (fun M7 => ?_)
      refine AW.iinc (pc := 20) (w := 2) [1, 2, 0] [(0, .ref (ad E x0)), (1, .ref (ad E x1)), (2, .int (x2 + 1))] dX11_copy_20 rfl (inc_1 _) (by decide) rfl ?_
      refine AW.goto (pc := 23) 2 dX11_copy_23 (by decide) ?_
      exact hKK2 x0 x1 (x2 + 1) M7
set_option maxRecDepth 20000 in
set_option maxHeartbeats 4000000 in
theorem kX11_copy_L2 (l : Launch) (E : Ev) (n : Nat) (hn : 1 ≤ n) (ct : Nat) (hct : 111 ≤ ct) (ex : Bool) (k : Nat) : ∀ (x0 : Nat) (x1 : Nat) (x2 : Int32) (M : Mem), AW l E fX11_copy (fun _ => rmN n 0 0) (PQr E 0 0 ct ex enU) ct ex 0 0 2 [(0, .ref (ad E x0)), (1, .ref (ad E x1)), (2, .int x2)] [] M (zX11_copy_L2 k x0 x1 x2 M) := by
  induction k with
  | zero => intro x0 x1 x2 M; exact AW.none
  | succ k ih =>
    intro x0 x1 x2 M
    exact kX11_copy_B2 l E n hn ct hct ex (zX11_copy_L2 k) ih x0 x1 x2 M
set_option maxRecDepth 20000 in
set_option maxHeartbeats 4000000 in
theorem kX11_copy (l : Launch) (E : Ev) (n : Nat) (hn : 1 ≤ n) (ct : Nat) (hct : 111 ≤ ct) (ex : Bool) (x0 : Nat) (x1 : Nat) (M : Mem) : AM l E n ct ex yX11_copy fX11_copy enU [.ref (ad E x0), .ref (ad E x1)] M (zX11_copy x0 x1 M) := by
  unfold zX11_copy
  refine AM.of (by decide +kernel) ⟨rfl, rfl, rfl⟩ (Nat.le_of_ble_eq_true rfl) ?_
  refine AW.iconst (pc := 0) dX11_copy_0 ci_0 ?_
  refine AW.istore_n (pc := 1) [1, 2, 0] [(0, .ref (ad E x0)), (1, .ref (ad E x1)), (2, .int 0)] dX11_copy_1 rfl (by decide) rfl ?_
  exact kX11_copy_L2 l E n hn ct hct ex FU x0 x1 0 M
-- GateBox$Book.becomeLike(LGateBox$Book;)V
def zX0_becomeLike (this : Nat) (x1 : Nat) (M : Mem) : Option (Unit × Mem) :=
  if K0 this = (0, 0) then
  if K0 x1 = (0, 0) then
  lt (sI M this 0 (mI M x1 0)) fun M2 =>
  lt (sI M2 this 1 (mI M2 x1 1)) fun M3 =>
  lt (sI M3 this 2 (mI M3 x1 2)) fun M4 =>
  lt (sI M4 this 3 (mI M4 x1 3)) fun M5 =>
  lt (sI M5 this 4 (mI M5 x1 4)) fun M6 =>
  if mR M6 x1 5 ≠ 0 then
  if mR M6 this 5 ≠ 0 then
  bnd (zX11_copy (mR M6 x1 5) (mR M6 this 5) M6) fun _ M9 =>
  if mR M9 x1 6 ≠ 0 then
  if mR M9 this 6 ≠ 0 then
  bnd (zX11_copy (mR M9 x1 6) (mR M9 this 6) M9) fun _ M12 =>
  some ((), M12)
  else none
  else none
  else none
  else none
  else none
  else none
set_option maxRecDepth 20000 in
set_option maxHeartbeats 4000000 in
theorem kX0_becomeLike (l : Launch) (E : Ev) (n : Nat) (hn : 2 ≤ n) (ct : Nat) (hct : 111 ≤ ct) (ex : Bool) (this : Nat) (x1 : Nat) (M : Mem) : AM l E n ct ex yX0_becomeLike fX0_becomeLike enU [.ref (ad E this), .ref (ad E x1)] M (zX0_becomeLike this x1 M) := by
  unfold zX0_becomeLike
  refine AM.of (by decide +kernel) ⟨rfl, rfl, rfl⟩ (Nat.le_of_ble_eq_true rfl) ?_
  refine AW.chk (fun hthis => ?_)
  refine AW.aload_n (pc := 0) dX0_becomeLike_0 rfl 0 rfl ?_
  refine AW.aload_n (pc := 1) dX0_becomeLike_1 rfl 1 rfl ?_
  refine AW.chk (fun g1 => ?_)
  refine AW.getI (pc := 2) dX0_becomeLike_2 flX0_9 g1 (kct g1 rfl hct) ?_
  refine AW.putI (pc := 5) dX0_becomeLike_5 flX0_9 hthis (kct hthis rfl hct) ?_
  refine AW.genM (fun M2 => ?_)
  refine AW.aload_n (pc := 8) dX0_becomeLike_8 rfl 0 rfl ?_
  refine AW.aload_n (pc := 9) dX0_becomeLike_9 rfl 1 rfl ?_
  refine AW.getI (pc := 10) dX0_becomeLike_10 flX0_15 g1 (kct g1 rfl hct) ?_
  refine AW.putI (pc := 13) dX0_becomeLike_13 flX0_15 hthis (kct hthis rfl hct) ?_
  refine AW.genM (fun M3 => ?_)
  refine AW.aload_n (pc := 16) dX0_becomeLike_16 rfl 0 rfl ?_
  refine AW.aload_n (pc := 17) dX0_becomeLike_17 rfl 1 rfl ?_
  refine AW.getI (pc := 18) dX0_becomeLike_18 flX0_18 g1 (kct g1 rfl hct) ?_
  refine AW.putI (pc := 21) dX0_becomeLike_21 flX0_18 hthis (kct hthis rfl hct) ?_
  refine AW.genM (fun M4 => ?_)
  refine AW.aload_n (pc := 24) dX0_becomeLike_24 rfl 0 rfl ?_
  refine AW.aload_n (pc := 25) dX0_becomeLike_25 rfl 1 rfl ?_
  refine AW.getI (pc := 26) dX0_becomeLike_26 flX0_21 g1 (kct g1 rfl hct) ?_
  refine AW.putI (pc := 29) dX0_becomeLike_29 flX0_21 hthis (kct hthis rfl hct) ?_
  refine AW.genM (fun M5 => ?_)
  refine AW.aload_n (pc := 32) dX0_becomeLike_32 rfl 0 rfl ?_
  refine AW.aload_n (pc := 33) dX0_becomeLike_33 rfl 1 rfl ?_
  refine AW.getI (pc := 34) dX0_becomeLike_34 flX0_24 g1 (kct g1 rfl hct) ?_
  refine AW.putI (pc := 37) dX0_becomeLike_37 flX0_24 hthis (kct hthis rfl hct) ?_
  refine AW.genM (fun M6 => ?_)
  refine AW.aload_n (pc := 40) dX0_becomeLike_40 rfl 1 rfl ?_
  refine AW.chk (fun g7 => ?_)
  refine AW.getR (pc := 41) dX0_becomeLike_41 flX0_27 g1 (kct g1 rfl hct) g7 ?_
  refine AW.aload_n (pc := 44) dX0_becomeLike_44 rfl 0 rfl ?_
  refine AW.chk (fun g8 => ?_)
  refine AW.getR (pc := 45) dX0_becomeLike_45 flX0_27 hthis (kct hthis rfl hct) g8 ?_
  refine AW.cN2v (pc := 48) dX0_becomeLike_48 nlX0_44 mbX11_copy (fun _ => okR_N (by omega)) (kX11_copy l E (n - 1) (by omega) ct hct ex (mR M6 x1 5) (mR M6 this 5) M6) (Nat.le_of_ble_eq_true rfl) (fun _ M9 => ?_)
  refine AW.aload_n (pc := 51) dX0_becomeLike_51 rfl 1 rfl ?_
  refine AW.chk (fun g10 => ?_)
  refine AW.getR (pc := 52) dX0_becomeLike_52 flX0_31 g1 (kct g1 rfl hct) g10 ?_
  refine AW.aload_n (pc := 55) dX0_becomeLike_55 rfl 0 rfl ?_
  refine AW.chk (fun g11 => ?_)
  refine AW.getR (pc := 56) dX0_becomeLike_56 flX0_31 hthis (kct hthis rfl hct) g11 ?_
  refine AW.cN2v (pc := 59) dX0_becomeLike_59 nlX0_44 mbX11_copy (fun _ => okR_N (by omega)) (kX11_copy l E (n - 1) (by omega) ct hct ex (mR M9 x1 6) (mR M9 this 6) M9) (Nat.le_of_ble_eq_true rfl) (fun _ M12 => ?_)
  exact AW.vret (pc := 62) dX0_becomeLike_62 rfl (fun _ _ _ => rfl) (Nat.le_refl _) (Nat.le_refl _)
-- GateBox.image()V
def zX11_image (this : Nat) (M : Mem) : Option (Unit × Mem) :=
  if K0 this = (0, 11) then
  if mR M this 1 ≠ 0 then
  if K0 (mR M this 1) = (0, 4) then
  if mR M (mR M this 1) 2 ≠ 0 then
  if mR M (mR M this 1) 1 ≠ 0 then
  if K0 (mR M (mR M this 1) 2) = (0, 0) then
  bnd (zX0_becomeLike (mR M (mR M this 1) 2) (mR M (mR M this 1) 1) M) fun _ M5 =>
  if mR M5 this 2 ≠ 0 then
  if K0 (mR M5 this 2) = (0, 4) then
  if mR M5 (mR M5 this 2) 2 ≠ 0 then
  if mR M5 (mR M5 this 2) 1 ≠ 0 then
  if K0 (mR M5 (mR M5 this 2) 2) = (0, 0) then
  bnd (zX0_becomeLike (mR M5 (mR M5 this 2) 2) (mR M5 (mR M5 this 2) 1) M5) fun _ M11 =>
  if mR M11 this 3 ≠ 0 then
  if mR M11 this 4 ≠ 0 then
  bnd (zX11_copy (mR M11 this 3) (mR M11 this 4) M11) fun _ M15 =>
  lt (sI M15 this 5 1) fun M16 =>
  some ((), M16)
  else none
  else none
  else none
  else none
  else none
  else none
  else none
  else none
  else none
  else none
  else none
  else none
  else none
set_option maxRecDepth 20000 in
set_option maxHeartbeats 4000000 in
theorem kX11_image (l : Launch) (E : Ev) (n : Nat) (hn : 3 ≤ n) (ct : Nat) (hct : 111 ≤ ct) (ex : Bool) (this : Nat) (M : Mem) : AM l E n ct ex yX11_image fX11_image enU [.ref (ad E this)] M (zX11_image this M) := by
  unfold zX11_image
  refine AM.of (by decide +kernel) ⟨rfl, rfl, rfl⟩ (Nat.le_of_ble_eq_true rfl) ?_
  refine AW.chk (fun hthis => ?_)
  refine AW.aload_n (pc := 0) dX11_image_0 rfl 0 rfl ?_
  refine AW.chk (fun g1 => ?_)
  refine AW.getR (pc := 1) dX11_image_1 flX11_19 hthis (kct hthis rfl hct) g1 ?_
  refine AW.chk (fun g2 => ?_)
  refine AW.chk (fun g3 => ?_)
  refine AW.getR (pc := 4) dX11_image_4 flX11_350 g2 (kct g2 rfl hct) g3 ?_
  refine AW.aload_n (pc := 7) dX11_image_7 rfl 0 rfl ?_
  refine AW.getR (pc := 8) dX11_image_8 flX11_19 hthis (kct hthis rfl hct) g1 ?_
  refine AW.chk (fun g4 => ?_)
  refine AW.getR (pc := 11) dX11_image_11 flX11_125 g2 (kct g2 rfl hct) g4 ?_
  refine AW.chk (fun g6 => ?_)
  refine AW.cV1v (pc := 14) dX11_image_14 mlX11_353 mbX0_becomeLike rfl g6 (kct g6 rfl hct) (fun _ => okR_N (by omega)) (kX0_becomeLike l E (n - 1) (by omega) ct hct ex (mR M (mR M this 1) 2) (mR M (mR M this 1) 1) M) (Nat.le_of_ble_eq_true rfl) (fun _ M5 => ?_)
  refine AW.aload_n (pc := 17) dX11_image_17 rfl 0 rfl ?_
  refine AW.chk (fun g7 => ?_)
  refine AW.getR (pc := 18) dX11_image_18 flX11_23 hthis (kct hthis rfl hct) g7 ?_
  refine AW.chk (fun g8 => ?_)
  refine AW.chk (fun g9 => ?_)
  refine AW.getR (pc := 21) dX11_image_21 flX11_350 g8 (kct g8 rfl hct) g9 ?_
  refine AW.aload_n (pc := 24) dX11_image_24 rfl 0 rfl ?_
  refine AW.getR (pc := 25) dX11_image_25 flX11_23 hthis (kct hthis rfl hct) g7 ?_
  refine AW.chk (fun g10 => ?_)
  refine AW.getR (pc := 28) dX11_image_28 flX11_125 g8 (kct g8 rfl hct) g10 ?_
  refine AW.chk (fun g12 => ?_)
  refine AW.cV1v (pc := 31) dX11_image_31 mlX11_353 mbX0_becomeLike rfl g12 (kct g12 rfl hct) (fun _ => okR_N (by omega)) (kX0_becomeLike l E (n - 1) (by omega) ct hct ex (mR M5 (mR M5 this 2) 2) (mR M5 (mR M5 this 2) 1) M5) (Nat.le_of_ble_eq_true rfl) (fun _ M11 => ?_)
  refine AW.aload_n (pc := 34) dX11_image_34 rfl 0 rfl ?_
  refine AW.chk (fun g13 => ?_)
  refine AW.getR (pc := 35) dX11_image_35 flX11_26 hthis (kct hthis rfl hct) g13 ?_
  refine AW.aload_n (pc := 38) dX11_image_38 rfl 0 rfl ?_
  refine AW.chk (fun g14 => ?_)
  refine AW.getR (pc := 39) dX11_image_39 flX11_30 hthis (kct hthis rfl hct) g14 ?_
  refine AW.cS2v (pc := 42) dX11_image_42 mlX11_356 mbX11_copy (fun _ => okR_N (by omega)) (kX11_copy l E (n - 1) (by omega) ct hct ex (mR M11 this 3) (mR M11 this 4) M11) (Nat.le_of_ble_eq_true rfl) (fun _ M15 => ?_)
  refine AW.aload_n (pc := 45) dX11_image_45 rfl 0 rfl ?_
  refine AW.iconst (pc := 46) dX11_image_46 ci_1 ?_
  refine AW.putZ (pc := 47) dX11_image_47 flX11_33 hthis (kct hthis rfl hct) (Or.inr rfl) ?_
  refine AW.genM (fun M16 => ?_)
  exact AW.vret (pc := 50) dX11_image_50 rfl (fun _ _ _ => rfl) (Nat.le_refl _) (Nat.le_refl _)
-- GateBox.restore()Z
def zX11_restore (this : Nat) (M : Mem) : Option (Int32 × Mem) :=
  if K0 this = (0, 11) then
  if (mI M this 5) = 0 then
    some (0, M)
  else
    if mR M this 1 ≠ 0 then
    if K0 (mR M this 1) = (0, 4) then
    if mR M (mR M this 1) 1 ≠ 0 then
    if mR M (mR M this 1) 2 ≠ 0 then
    if K0 (mR M (mR M this 1) 1) = (0, 0) then
    bnd (zX0_becomeLike (mR M (mR M this 1) 1) (mR M (mR M this 1) 2) M) fun _ M6 =>
    if mR M6 this 2 ≠ 0 then
    if K0 (mR M6 this 2) = (0, 4) then
    if mR M6 (mR M6 this 2) 1 ≠ 0 then
    if mR M6 (mR M6 this 2) 2 ≠ 0 then
    if K0 (mR M6 (mR M6 this 2) 1) = (0, 0) then
    bnd (zX0_becomeLike (mR M6 (mR M6 this 2) 1) (mR M6 (mR M6 this 2) 2) M6) fun _ M12 =>
    if mR M12 this 4 ≠ 0 then
    if mR M12 this 3 ≠ 0 then
    bnd (zX11_copy (mR M12 this 4) (mR M12 this 3) M12) fun _ M16 =>
    some (1, M16)
    else none
    else none
    else none
    else none
    else none
    else none
    else none
    else none
    else none
    else none
    else none
    else none
  else none
set_option maxRecDepth 20000 in
set_option maxHeartbeats 4000000 in
theorem kX11_restore (l : Launch) (E : Ev) (n : Nat) (hn : 3 ≤ n) (ct : Nat) (hct : 111 ≤ ct) (ex : Bool) (this : Nat) (M : Mem) : AM l E n ct ex yX11_restore fX11_restore enI [.ref (ad E this)] M (zX11_restore this M) := by
  unfold zX11_restore
  refine AM.of (by decide +kernel) ⟨rfl, rfl, rfl⟩ (Nat.le_of_ble_eq_true rfl) ?_
  refine AW.chk (fun hthis => ?_)
  refine AW.aload_n (pc := 0) dX11_restore_0 rfl 0 rfl ?_
  refine AW.getZ (pc := 1) dX11_restore_1 flX11_33 hthis (kct hthis rfl hct) ?_
  refine AW.if_ne (pc := 4) 9 dX11_restore_4 (by decide) (fun h1 => ?_) (fun h1 => ?_)
  · refine AW.iconst (pc := 7) dX11_restore_7 ci_0 ?_
    exact AW.zret (pc := 8) dX11_restore_8 rfl (Or.inl rfl) (fun _ _ _ => rfl) (Nat.le_refl _) (Nat.le_refl _)
  · refine AW.aload_n (pc := 9) dX11_restore_9 rfl 0 rfl ?_
    refine AW.chk (fun g2 => ?_)
    refine AW.getR (pc := 10) dX11_restore_10 flX11_19 hthis (kct hthis rfl hct) g2 ?_
    refine AW.chk (fun g3 => ?_)
    refine AW.chk (fun g4 => ?_)
    refine AW.getR (pc := 13) dX11_restore_13 flX11_125 g3 (kct g3 rfl hct) g4 ?_
    refine AW.aload_n (pc := 16) dX11_restore_16 rfl 0 rfl ?_
    refine AW.getR (pc := 17) dX11_restore_17 flX11_19 hthis (kct hthis rfl hct) g2 ?_
    refine AW.chk (fun g5 => ?_)
    refine AW.getR (pc := 20) dX11_restore_20 flX11_350 g3 (kct g3 rfl hct) g5 ?_
    refine AW.chk (fun g7 => ?_)
    refine AW.cV1v (pc := 23) dX11_restore_23 mlX11_353 mbX0_becomeLike rfl g7 (kct g7 rfl hct) (fun _ => okR_N (by omega)) (kX0_becomeLike l E (n - 1) (by omega) ct hct ex (mR M (mR M this 1) 1) (mR M (mR M this 1) 2) M) (Nat.le_of_ble_eq_true rfl) (fun _ M6 => ?_)
    refine AW.aload_n (pc := 26) dX11_restore_26 rfl 0 rfl ?_
    refine AW.chk (fun g8 => ?_)
    refine AW.getR (pc := 27) dX11_restore_27 flX11_23 hthis (kct hthis rfl hct) g8 ?_
    refine AW.chk (fun g9 => ?_)
    refine AW.chk (fun g10 => ?_)
    refine AW.getR (pc := 30) dX11_restore_30 flX11_125 g9 (kct g9 rfl hct) g10 ?_
    refine AW.aload_n (pc := 33) dX11_restore_33 rfl 0 rfl ?_
    refine AW.getR (pc := 34) dX11_restore_34 flX11_23 hthis (kct hthis rfl hct) g8 ?_
    refine AW.chk (fun g11 => ?_)
    refine AW.getR (pc := 37) dX11_restore_37 flX11_350 g9 (kct g9 rfl hct) g11 ?_
    refine AW.chk (fun g13 => ?_)
    refine AW.cV1v (pc := 40) dX11_restore_40 mlX11_353 mbX0_becomeLike rfl g13 (kct g13 rfl hct) (fun _ => okR_N (by omega)) (kX0_becomeLike l E (n - 1) (by omega) ct hct ex (mR M6 (mR M6 this 2) 1) (mR M6 (mR M6 this 2) 2) M6) (Nat.le_of_ble_eq_true rfl) (fun _ M12 => ?_)
    refine AW.aload_n (pc := 43) dX11_restore_43 rfl 0 rfl ?_
    refine AW.chk (fun g14 => ?_)
    refine AW.getR (pc := 44) dX11_restore_44 flX11_30 hthis (kct hthis rfl hct) g14 ?_
    refine AW.aload_n (pc := 47) dX11_restore_47 rfl 0 rfl ?_
    refine AW.chk (fun g15 => ?_)
    refine AW.getR (pc := 48) dX11_restore_48 flX11_26 hthis (kct hthis rfl hct) g15 ?_
    refine AW.cS2v (pc := 51) dX11_restore_51 mlX11_356 mbX11_copy (fun _ => okR_N (by omega)) (kX11_copy l E (n - 1) (by omega) ct hct ex (mR M12 this 4) (mR M12 this 3) M12) (Nat.le_of_ble_eq_true rfl) (fun _ M16 => ?_)
    refine AW.iconst (pc := 54) dX11_restore_54 ci_1 ?_
    exact AW.zret (pc := 55) dX11_restore_55 rfl (Or.inr rfl) (fun _ _ _ => rfl) (Nat.le_refl _) (Nat.le_refl _)
