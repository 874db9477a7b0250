/-! ===== functions over the memory and their contracts: printed by wip/whole/lay.py ===== -/
-- GateBox.put([III)V
def zX11_put (x0 : Nat) (x1 : Int32) (x2 : Int32) (M : Mem) : Option (Unit × Mem) :=
  if x1 < 0 then
    some ((), M)
  else
    if (K0 x0).1 = 1 then
    if (Int32.ofNat (K0 x0).2) ≤ x1 then
      some ((), M)
    else
      if inb x1 (K0 x0).2 = true then
      lt (sI M x0 (Int32.toNatClampNeg x1) x2) fun M5 =>
      some ((), M5)
      else none
    else none
set_option maxRecDepth 20000 in
set_option maxHeartbeats 4000000 in
theorem kX11_put (l : Launch) (E : Ev) (n : Nat) (hn : 1 ≤ n) (ct : Nat) (hct : 111 ≤ ct) (ex : Bool) (x0 : Nat) (x1 : Int32) (x2 : Int32) (M : Mem) : AM l E n ct ex yX11_put fX11_put enU [.ref (ad E x0), .int x1, .int x2] M (zX11_put x0 x1 x2 M) := by
  unfold zX11_put
  refine AM.of (by decide +kernel) ⟨rfl, rfl, rfl⟩ (Nat.le_of_ble_eq_true rfl) ?_
  refine AW.iload_n (pc := 0) dX11_put_0 rfl 1 rfl ?_
  refine AW.if_lt (pc := 1) 14 dX11_put_1 (by decide) (fun h1 => ?_) (fun h1 => ?_)
  · exact AW.vret (pc := 14) dX11_put_14 rfl (fun _ _ _ => rfl) (Nat.le_refl _) (Nat.le_refl _)
  · refine AW.iload_n (pc := 4) dX11_put_4 rfl 1 rfl ?_
    refine AW.aload_n (pc := 5) dX11_put_5 rfl 0 rfl ?_
    refine AW.chk (fun g2 => ?_)
    refine AW.alen (pc := 6) dX11_put_6 (k0e g2) (by decide) (kct (k0e g2) rfl hct) rfl ?_
    refine AW.icmp_ge (pc := 7) 14 dX11_put_7 (by decide) (fun h3 => ?_) (fun h3 => ?_)
    · exact AW.vret (pc := 14) dX11_put_14 rfl (fun _ _ _ => rfl) (Nat.le_refl _) (Nat.le_refl _)
    · refine AW.aload_n (pc := 10) dX11_put_10 rfl 0 rfl ?_
      refine AW.iload_n (pc := 11) dX11_put_11 rfl 1 rfl ?_
      refine AW.iload_n (pc := 12) dX11_put_12 rfl 2 rfl ?_
      refine AW.chk (fun g4 => ?_)
      refine AW.iast (pc := 13) dX11_put_13 (k0e g2) (kct (k0e g2) rfl hct) g4 ?_
      refine AW.genM (fun M5 => ?_)
      exact AW.vret (pc := 14) dX11_put_14 rfl (fun _ _ _ => rfl) (Nat.le_refl _) (Nat.le_refl _)
-- GateBox$Reader.take(I)V
def zX6_take_B3 (KK3 : Nat → Int32 → Int32 → Mem → Option (Unit × Mem)) (this : Nat) (x1 : Int32) (x2 : Int32) (M : Mem) : Option (Unit × Mem) :=
  if x2 < 0 then
    some ((), M)
  else
    if mR M this 0 ≠ 0 then
    bnd (zX11_put (mR M this 0) (mI M this 1) ((iushr x1 x2) &&& 255) M) fun _ M3 =>
    lt (sI M3 this 1 ((mI M3 this 1) + 1)) fun M4 =>
    KK3 this x1 (x2 + (-8)) M4
    else none
def zX6_take_L3 : Nat → Nat → Int32 → Int32 → Mem → Option (Unit × Mem)
  | 0 => fun _ _ _ _ => none
  | k + 1 => zX6_take_B3 (zX6_take_L3 k)
def zX6_take (this : Nat) (x1 : Int32) (M : Mem) : Option (Unit × Mem) :=
  if K0 this = (0, 6) then
  zX6_take_L3 FU this x1 24 M
  else none
set_option maxRecDepth 20000 in
set_option maxHeartbeats 4000000 in
theorem kX6_take_B3 (l : Launch) (E : Ev) (n : Nat) (hn : 2 ≤ n) (ct : Nat) (hct : 111 ≤ ct) (ex : Bool) (KK3 : Nat → Int32 → Int32 → Mem → Option (Unit × Mem)) (hKK3 : ∀ (this : Nat) (x1 : Int32) (x2 : Int32) (M : Mem) (_ : K0 this = (0, 6)), AW l E fX6_take (fun _ => rmN n 0 0) (PQr E 0 0 ct ex enU) ct ex 0 0 3 [(0, .ref (ad E this)), (1, .int x1), (2, .int x2)] [] M (KK3 this x1 x2 M)) (this : Nat) (x1 : Int32) (x2 : Int32) (M : Mem) (hthis : K0 this = (0, 6)) : AW l E fX6_take (fun _ => rmN n 0 0) (PQr E 0 0 ct ex enU) ct ex 0 0 3 [(0, .ref (ad E this)), (1, .int x1), (2, .int x2)] [] M (zX6_take_B3 KK3 this x1 x2 M) := by
  unfold zX6_take_B3
  refine AW.iload_n (pc := 3) dX6_take_3 rfl 2 rfl ?_
  refine AW.if_lt (pc := 4) 41 dX6_take_4 (by decide) (fun h1 => ?_) (fun h1 => ?_)
  · exact AW.vret (pc := 41) dX6_take_41 rfl (fun _ _ _ => rfl) (Nat.le_refl _) (Nat.le_refl _)
  · refine AW.aload_n (pc := 7) dX6_take_7 rfl 0 rfl ?_
    refine AW.chk (fun g2 => ?_)
    refine AW.getR (pc := 8) dX6_take_8 flX6_9 hthis (kct hthis rfl hct) g2 ?_
    refine AW.aload_n (pc := 11) dX6_take_11 rfl 0 rfl ?_
    refine AW.getI (pc := 12) dX6_take_12 flX6_15 hthis (kct hthis rfl hct) ?_
    refine AW.iload_n (pc := 15) dX6_take_15 rfl 1 rfl ?_
    refine AW.iload_n (pc := 16) dX6_take_16 rfl 2 rfl ?_
    refine AW.iushr (pc := 17) dX6_take_17 ?_
    refine AW.sipush (pc := 18) dX6_take_18 cs_255 ?_
    refine AW.iand (pc := 21) dX6_take_21 ?_
    refine AW.cN3v (pc := 22) dX6_take_22 nlX6_53 mbX11_put (fun _ => okR_N (by omega)) (kX11_put l E (n - 1) (by omega) ct hct ex (mR M this 0) (mI M this 1) ((iushr x1 x2) &&& 255) M) (Nat.le_of_ble_eq_true rfl) (fun _ M3 => ?_)
    refine AW.aload_n (pc := 25) dX6_take_25 rfl 0 rfl ?_
    refine AW.dup (pc := 26) dX6_take_26 rfl ?_
    refine AW.getI (pc := 27) dX6_take_27 flX6_15 hthis (kct hthis rfl hct) ?_
    refine AW.iconst (pc := 30) dX6_take_30 ci_1 ?_
    refine AW.iadd (pc := 31) dX6_take_31 ?_
    refine AW.putI (pc := 32) dX6_take_32 flX6_15 hthis (kct hthis rfl hct) ?_
    refine AW.genM (fun M4 => ?_)
    refine AW.iinc (pc := 35) (w := 2) [1, 2, 0] [(0, .ref (ad E this)), (1, .int x1), (2, .int (x2 + (-8)))] dX6_take_35 rfl (inc_m8 _) (by decide) rfl ?_
    refine AW.goto (pc := 38) 3 dX6_take_38 (by decide) ?_
    exact hKK3 this x1 (x2 + (-8)) M4 hthis
set_option maxRecDepth 20000 in
set_option maxHeartbeats 4000000 in
theorem kX6_take_L3 (l : Launch) (E : Ev) (n : Nat) (hn : 2 ≤ n) (ct : Nat) (hct : 111 ≤ ct) (ex : Bool) (k : Nat) : ∀ (this : Nat) (x1 : Int32) (x2 : Int32) (M : Mem) (_ : K0 this = (0, 6)), AW l E fX6_take (fun _ => rmN n 0 0) (PQr E 0 0 ct ex enU) ct ex 0 0 3 [(0, .ref (ad E this)), (1, .int x1), (2, .int x2)] [] M (zX6_take_L3 k this x1 x2 M) := by
  induction k with
  | zero => intro this x1 x2 M _; exact AW.none
  | succ k ih =>
    intro this x1 x2 M hthis
    exact kX6_take_B3 l E n hn ct hct ex (zX6_take_L3 k) ih this x1 x2 M hthis
set_option maxRecDepth 20000 in
set_option maxHeartbeats 4000000 in
theorem kX6_take (l : Launch) (E : Ev) (n : Nat) (hn : 2 ≤ n) (ct : Nat) (hct : 111 ≤ ct) (ex : Bool) (this : Nat) (x1 : Int32) (M : Mem) : AM l E n ct ex yX6_take fX6_take enU [.ref (ad E this), .int x1] M (zX6_take this x1 M) := by
  unfold zX6_take
  refine AM.of (by decide +kernel) ⟨rfl, rfl, rfl⟩ (Nat.le_of_ble_eq_true rfl) ?_
  refine AW.chk (fun hthis => ?_)
  refine AW.bipush (pc := 0) dX6_take_0 cb_24 ?_
  refine AW.istore_n (pc := 2) [1, 2, 0] [(0, .ref (ad E this)), (1, .int x1), (2, .int 24)] dX6_take_2 rfl (by decide) rfl ?_
  exact kX6_take_L3 l E n hn ct hct ex FU this x1 24 M hthis
-- GateBox.feed(IIIII)I
def zX11_feed (this : Nat) (x1 : Int32) (x2 : Int32) (x3 : Int32) (x4 : Int32) (x5 : Int32) (M : Mem) : Option (Int32 × Mem) :=
  if K0 this = (0, 11) then
  if mR M this 0 ≠ 0 then
  if K0 (mR M this 0) = (0, 6) then
  if ((mI M (mR M this 0) 1) + 20) ≤ 700 then
    bnd (zX6_take (mR M this 0) x1 M) fun _ M4 =>
    if mR M4 this 0 ≠ 0 then
    if K0 (mR M4 this 0) = (0, 6) then
    bnd (zX6_take (mR M4 this 0) x2 M4) fun _ M6 =>
    if mR M6 this 0 ≠ 0 then
    if K0 (mR M6 this 0) = (0, 6) then
    bnd (zX6_take (mR M6 this 0) x3 M6) fun _ M9 =>
    if mR M9 this 0 ≠ 0 then
    if K0 (mR M9 this 0) = (0, 6) then
    bnd (zX6_take (mR M9 this 0) x4 M9) fun _ M12 =>
    if mR M12 this 0 ≠ 0 then
    if K0 (mR M12 this 0) = (0, 6) then
    bnd (zX6_take (mR M12 this 0) x5 M12) fun _ M15 =>
    if mR M15 this 0 ≠ 0 then
    if K0 (mR M15 this 0) = (0, 6) then
    some (mI M15 (mR M15 this 0) 1, M15)
    else none
    else none
    else none
    else none
    else none
    else none
    else none
    else none
    else none
    else none
  else
    some ((-1), M)
  else none
  else none
  else none
set_option maxRecDepth 20000 in
set_option maxHeartbeats 4000000 in
theorem kX11_feed (l : Launch) (E : Ev) (n : Nat) (hn : 3 ≤ n) (ct : Nat) (hct : 111 ≤ ct) (ex : Bool) (this : Nat) (x1 : Int32) (x2 : Int32) (x3 : Int32) (x4 : Int32) (x5 : Int32) (M : Mem) : AM l E n ct ex yX11_feed fX11_feed enI [.ref (ad E this), .int x1, .int x2, .int x3, .int x4, .int x5] M (zX11_feed this x1 x2 x3 x4 x5 M) := by
  unfold zX11_feed
  refine AM.of (by decide +kernel) ⟨rfl, rfl, rfl⟩ (Nat.le_of_ble_eq_true rfl) ?_
  refine AW.chk (fun hthis => ?_)
  refine AW.aload_n (pc := 0) dX11_feed_0 rfl 0 rfl ?_
  refine AW.chk (fun g1 => ?_)
  refine AW.getR (pc := 1) dX11_feed_1 flX11_12 hthis (kct hthis rfl hct) g1 ?_
  refine AW.chk (fun g2 => ?_)
  refine AW.getI (pc := 4) dX11_feed_4 flX11_99 g2 (kct g2 rfl hct) ?_
  refine AW.bipush (pc := 7) dX11_feed_7 cb_20 ?_
  refine AW.iadd (pc := 9) dX11_feed_9 ?_
  refine AW.sipush (pc := 10) dX11_feed_10 cs_700 ?_
  refine AW.icmp_le (pc := 13) 18 dX11_feed_13 (by decide) (fun h3 => ?_) (fun h3 => ?_)
  · refine AW.aload_n (pc := 18) dX11_feed_18 rfl 0 rfl ?_
    refine AW.getR (pc := 19) dX11_feed_19 flX11_12 hthis (kct hthis rfl hct) g1 ?_
    refine AW.iload_n (pc := 22) dX11_feed_22 rfl 1 rfl ?_
    refine AW.cV1v (pc := 23) dX11_feed_23 mlX11_102 mbX6_take rfl g2 (kct g2 rfl hct) (fun _ => okR_N (by omega)) (kX6_take l E (n - 1) (by omega) ct hct ex (mR M this 0) x1 M) (Nat.le_of_ble_eq_true rfl) (fun _ M4 => ?_)
    refine AW.aload_n (pc := 26) dX11_feed_26 rfl 0 rfl ?_
    refine AW.chk (fun g5 => ?_)
    refine AW.getR (pc := 27) dX11_feed_27 flX11_12 hthis (kct hthis rfl hct) g5 ?_
    refine AW.iload_n (pc := 30) dX11_feed_30 rfl 2 rfl ?_
    refine AW.chk (fun g7 => ?_)
    refine AW.cV1v (pc := 31) dX11_feed_31 mlX11_102 mbX6_take rfl g7 (kct g7 rfl hct) (fun _ => okR_N (by omega)) (kX6_take l E (n - 1) (by omega) ct hct ex (mR M4 this 0) x2 M4) (Nat.le_of_ble_eq_true rfl) (fun _ M6 => ?_)
    refine AW.aload_n (pc := 34) dX11_feed_34 rfl 0 rfl ?_
    refine AW.chk (fun g8 => ?_)
    refine AW.getR (pc := 35) dX11_feed_35 flX11_12 hthis (kct hthis rfl hct) g8 ?_
    refine AW.iload_n (pc := 38) dX11_feed_38 rfl 3 rfl ?_
    refine AW.chk (fun g10 => ?_)
    refine AW.cV1v (pc := 39) dX11_feed_39 mlX11_102 mbX6_take rfl g10 (kct g10 rfl hct) (fun _ => okR_N (by omega)) (kX6_take l E (n - 1) (by omega) ct hct ex (mR M6 this 0) x3 M6) (Nat.le_of_ble_eq_true rfl) (fun _ M9 => ?_)
    refine AW.aload_n (pc := 42) dX11_feed_42 rfl 0 rfl ?_
    refine AW.chk (fun g11 => ?_)
    refine AW.getR (pc := 43) dX11_feed_43 flX11_12 hthis (kct hthis rfl hct) g11 ?_
    refine AW.iload (pc := 46) dX11_feed_46 4 rfl ?_
    refine AW.chk (fun g13 => ?_)
    refine AW.cV1v (pc := 48) dX11_feed_48 mlX11_102 mbX6_take rfl g13 (kct g13 rfl hct) (fun _ => okR_N (by omega)) (kX6_take l E (n - 1) (by omega) ct hct ex (mR M9 this 0) x4 M9) (Nat.le_of_ble_eq_true rfl) (fun _ M12 => ?_)
    refine AW.aload_n (pc := 51) dX11_feed_51 rfl 0 rfl ?_
    refine AW.chk (fun g14 => ?_)
    refine AW.getR (pc := 52) dX11_feed_52 flX11_12 hthis (kct hthis rfl hct) g14 ?_
    refine AW.iload (pc := 55) dX11_feed_55 5 rfl ?_
    refine AW.chk (fun g16 => ?_)
    refine AW.cV1v (pc := 57) dX11_feed_57 mlX11_102 mbX6_take rfl g16 (kct g16 rfl hct) (fun _ => okR_N (by omega)) (kX6_take l E (n - 1) (by omega) ct hct ex (mR M12 this 0) x5 M12) (Nat.le_of_ble_eq_true rfl) (fun _ M15 => ?_)
    refine AW.aload_n (pc := 60) dX11_feed_60 rfl 0 rfl ?_
    refine AW.chk (fun g17 => ?_)
    refine AW.getR (pc := 61) dX11_feed_61 flX11_12 hthis (kct hthis rfl hct) g17 ?_
    refine AW.chk (fun g18 => ?_)
    refine AW.getI (pc := 64) dX11_feed_64 flX11_99 g18 (kct g18 rfl hct) ?_
    exact AW.iret (pc := 67) dX11_feed_67 rfl (fun _ _ _ => rfl) (Nat.le_refl _) (Nat.le_refl _)
  · refine AW.iconst (pc := 16) dX11_feed_16 ci_m1 ?_
    exact AW.iret (pc := 17) dX11_feed_17 rfl (fun _ _ _ => rfl) (Nat.le_refl _) (Nat.le_refl _)
-- GateBox.askKnown(II)V
def zX11_askKnown_B9  (M : Mem) : Option ((Unit ⊕ Nat) × Mem) :=
  some (.inr 0, M)
def zX11_askKnown (x0 : Int32) (x1 : Int32) (M : Mem) : Option ((Unit ⊕ Nat) × Mem) :=
  if x0 < 0 then
    zX11_askKnown_B9 M
  else
    if x0 ≤ x1 then
      some (.inl (), M)
    else
      zX11_askKnown_B9 M
set_option maxRecDepth 20000 in
set_option maxHeartbeats 4000000 in
theorem kX11_askKnown_B9 (l : Launch) (E : Ev) (hst : l.stackTraces = false) (n : Nat) (hn : 6 ≤ n) (ct : Nat) (hct : 111 ≤ ct) (ex : Bool)  (M : Mem) : AW l E fX11_askKnown (RX n) (PQX E ct ex enU) ct ex 0 0 9 [] [] M (zX11_askKnown_B9  M) := by
  unfold zX11_askKnown_B9
  exact AW.throwNW (pc := 9) (i := 0) hst rfl rfl xt_219 rfl (by omega) dX11_askKnown_9 dX11_askKnown_12 dX11_askKnown_13 dX11_askKnown_16 dX11_askKnown_19
set_option maxRecDepth 20000 in
set_option maxHeartbeats 4000000 in
theorem kX11_askKnown (l : Launch) (E : Ev) (hst : l.stackTraces = false) (n : Nat) (hn : 6 ≤ n) (ct : Nat) (hct : 111 ≤ ct) (ex : Bool) (x0 : Int32) (x1 : Int32) (M : Mem) : AMX l E n ct ex yX11_askKnown fX11_askKnown enU [.int x0, .int x1] M (zX11_askKnown x0 x1 M) := by
  unfold zX11_askKnown
  refine AMX.of (by decide +kernel) ⟨rfl, rfl, rfl⟩ (Nat.le_of_ble_eq_true rfl) ?_
  refine AW.iload_n (pc := 0) dX11_askKnown_0 rfl 0 rfl ?_
  refine AW.if_lt (pc := 1) 9 dX11_askKnown_1 (by decide) (fun h1 => ?_) (fun h1 => ?_)
  · exact AW.sub [] rfl (kX11_askKnown_B9 l E hst n hn ct hct ex M)
  · refine AW.iload_n (pc := 4) dX11_askKnown_4 rfl 0 rfl ?_
    refine AW.iload_n (pc := 5) dX11_askKnown_5 rfl 1 rfl ?_
    refine AW.icmp_le (pc := 6) 20 dX11_askKnown_6 (by decide) (fun h2 => ?_) (fun h2 => ?_)
    · exact AW.vret (pc := 20) dX11_askKnown_20 rfl (fun _ _ _ => rfl) (Nat.le_refl _) (Nat.le_refl _)
    · exact AW.sub [] rfl (kX11_askKnown_B9 l E hst n hn ct hct ex M)
-- GateBox.gateOf(I)LGateBox$Gate;
def zX11_gateOf (this : Nat) (x1 : Int32) (M : Mem) : Option ((Nat ⊕ Nat) × Mem) :=
  if K0 this = (0, 11) then
  bndX (zX11_askKnown x1 1 M) fun _ M1 =>
  if x1 = 0 then
    if mR M1 this 1 ≠ 0 then
    some (.inl (mR M1 this 1), M1)
    else none
  else
    if mR M1 this 2 ≠ 0 then
    some (.inl (mR M1 this 2), M1)
    else none
  else none
set_option maxRecDepth 20000 in
set_option maxHeartbeats 4000000 in
theorem kX11_gateOf (l : Launch) (E : Ev) (hst : l.stackTraces = false) (n : Nat) (hn : 7 ≤ n) (ct : Nat) (hct : 111 ≤ ct) (ex : Bool) (this : Nat) (x1 : Int32) (M : Mem) : AMX l E n ct ex yX11_gateOf fX11_gateOf (enR E) [.ref (ad E this), .int x1] M (zX11_gateOf this x1 M) := by
  unfold zX11_gateOf
  refine AMX.of (by decide +kernel) ⟨rfl, rfl, rfl⟩ (Nat.le_of_ble_eq_true rfl) ?_
  refine AW.chk (fun hthis => ?_)
  refine AW.iload_n (pc := 0) dX11_gateOf_0 rfl 1 rfl ?_
  refine AW.iconst (pc := 1) dX11_gateOf_1 ci_1 ?_
  refine AW.xS2v (pc := 2) rfl dX11_gateOf_2 mlX11_134 mbX11_askKnown (by omega) (kX11_askKnown l E hst (n - 1) (by omega) ct hct ex x1 1 M) (Nat.le_of_ble_eq_true rfl) (fun _ M1 => ?_)
  refine AW.iload_n (pc := 5) dX11_gateOf_5 rfl 1 rfl ?_
  refine AW.if_ne (pc := 6) 16 dX11_gateOf_6 (by decide) (fun h2 => ?_) (fun h2 => ?_)
  · refine AW.aload_n (pc := 9) dX11_gateOf_9 rfl 0 rfl ?_
    refine AW.chk (fun g3 => ?_)
    refine AW.getR (pc := 10) dX11_gateOf_10 flX11_19 hthis (kct hthis rfl hct) g3 ?_
    refine AW.goto (pc := 13) 20 dX11_gateOf_13 (by decide) ?_
    exact AW.aret (pc := 20) dX11_gateOf_20 rfl (Or.inl ⟨_, rfl⟩) (fun _ _ _ => rfl) (Nat.le_refl _) (Nat.le_refl _)
  · refine AW.aload_n (pc := 16) dX11_gateOf_16 rfl 0 rfl ?_
    refine AW.chk (fun g4 => ?_)
    refine AW.getR (pc := 17) dX11_gateOf_17 flX11_23 hthis (kct hthis rfl hct) g4 ?_
    exact AW.aret (pc := 20) dX11_gateOf_20 rfl (Or.inl ⟨_, rfl⟩) (fun _ _ _ => rfl) (Nat.le_refl _) (Nat.le_refl _)
-- GateBox.askRange(III)V
def zX11_askRange_B10  (M : Mem) : Option ((Unit ⊕ Nat) × Mem) :=
  some (.inr 1, M)
def zX11_askRange (x0 : Int32) (x1 : Int32) (x2 : Int32) (M : Mem) : Option ((Unit ⊕ Nat) × Mem) :=
  if x0 < x1 then
    zX11_askRange_B10 M
  else
    if x0 ≤ x2 then
      some (.inl (), M)
    else
      zX11_askRange_B10 M
set_option maxRecDepth 20000 in
set_option maxHeartbeats 4000000 in
theorem kX11_askRange_B10 (l : Launch) (E : Ev) (hst : l.stackTraces = false) (n : Nat) (hn : 6 ≤ n) (ct : Nat) (hct : 111 ≤ ct) (ex : Bool)  (M : Mem) : AW l E fX11_askRange (RX n) (PQX E ct ex enU) ct ex 0 0 10 [] [] M (zX11_askRange_B10  M) := by
  unfold zX11_askRange_B10
  exact AW.throwSW (pc := 10) (i := 1) hst rfl rfl xt_332 rfl (by omega) dX11_askRange_10 dX11_askRange_13 dX11_askRange_14 dX11_askRange_17 dX11_askRange_20
set_option maxRecDepth 20000 in
set_option maxHeartbeats 4000000 in
theorem kX11_askRange (l : Launch) (E : Ev) (hst : l.stackTraces = false) (n : Nat) (hn : 6 ≤ n) (ct : Nat) (hct : 111 ≤ ct) (ex : Bool) (x0 : Int32) (x1 : Int32) (x2 : Int32) (M : Mem) : AMX l E n ct ex yX11_askRange fX11_askRange enU [.int x0, .int x1, .int x2] M (zX11_askRange x0 x1 x2 M) := by
  unfold zX11_askRange
  refine AMX.of (by decide +kernel) ⟨rfl, rfl, rfl⟩ (Nat.le_of_ble_eq_true rfl) ?_
  refine AW.iload_n (pc := 0) dX11_askRange_0 rfl 0 rfl ?_
  refine AW.iload_n (pc := 1) dX11_askRange_1 rfl 1 rfl ?_
  refine AW.icmp_lt (pc := 2) 10 dX11_askRange_2 (by decide) (fun h1 => ?_) (fun h1 => ?_)
  · exact AW.sub [] rfl (kX11_askRange_B10 l E hst n hn ct hct ex M)
  · refine AW.iload_n (pc := 5) dX11_askRange_5 rfl 0 rfl ?_
    refine AW.iload_n (pc := 6) dX11_askRange_6 rfl 2 rfl ?_
    refine AW.icmp_le (pc := 7) 21 dX11_askRange_7 (by decide) (fun h2 => ?_) (fun h2 => ?_)
    · exact AW.vret (pc := 21) dX11_askRange_21 rfl (fun _ _ _ => rfl) (Nat.le_refl _) (Nat.le_refl _)
    · exact AW.sub [] rfl (kX11_askRange_B10 l E hst n hn ct hct ex M)
-- GateBox$Setting.become(I)V
def zX9_become (this : Nat) (x1 : Int32) (M : Mem) : Option (Unit × Mem) :=
  if K0 this = (0, 9) then
  lt (sI M this 3 (x1 / 44)) fun M1 =>
  lt (sI M1 this 1 ((x1 / 22) % 2)) fun M2 =>
  lt (sI M2 this 2 ((x1 / 11) % 2)) fun M3 =>
  lt (sI M3 this 0 ((x1 % 11) - 1)) fun M4 =>
  some ((), M4)
  else none
set_option maxRecDepth 20000 in
set_option maxHeartbeats 4000000 in
theorem kX9_become (l : Launch) (E : Ev) (n : Nat) (hn : 1 ≤ n) (ct : Nat) (hct : 111 ≤ ct) (ex : Bool) (this : Nat) (x1 : Int32) (M : Mem) : AM l E n ct ex yX9_become fX9_become enU [.ref (ad E this), .int x1] M (zX9_become this x1 M) := by
  unfold zX9_become
  refine AM.of (by decide +kernel) ⟨rfl, rfl, rfl⟩ (Nat.le_of_ble_eq_true rfl) ?_
  refine AW.chk (fun hthis => ?_)
  refine AW.aload_n (pc := 0) dX9_become_0 rfl 0 rfl ?_
  refine AW.iload_n (pc := 1) dX9_become_1 rfl 1 rfl ?_
  refine AW.bipush (pc := 2) dX9_become_2 cb_44 ?_
  refine AW.idiv (pc := 4) dX9_become_4 (by decide) ?_
  refine AW.putI (pc := 5) dX9_become_5 flX9_21 hthis (kct hthis rfl hct) ?_
  refine AW.genM (fun M1 => ?_)
  refine AW.aload_n (pc := 8) dX9_become_8 rfl 0 rfl ?_
  refine AW.iload_n (pc := 9) dX9_become_9 rfl 1 rfl ?_
  refine AW.bipush (pc := 10) dX9_become_10 cb_22 ?_
  refine AW.idiv (pc := 12) dX9_become_12 (by decide) ?_
  refine AW.iconst (pc := 13) dX9_become_13 ci_2 ?_
  refine AW.irem (pc := 14) dX9_become_14 (by decide) ?_
  refine AW.putI (pc := 15) dX9_become_15 flX9_15 hthis (kct hthis rfl hct) ?_
  refine AW.genM (fun M2 => ?_)
  refine AW.aload_n (pc := 18) dX9_become_18 rfl 0 rfl ?_
  refine AW.iload_n (pc := 19) dX9_become_19 rfl 1 rfl ?_
  refine AW.bipush (pc := 20) dX9_become_20 cb_11 ?_
  refine AW.idiv (pc := 22) dX9_become_22 (by decide) ?_
  refine AW.iconst (pc := 23) dX9_become_23 ci_2 ?_
  refine AW.irem (pc := 24) dX9_become_24 (by decide) ?_
  refine AW.putI (pc := 25) dX9_become_25 flX9_18 hthis (kct hthis rfl hct) ?_
  refine AW.genM (fun M3 => ?_)
  refine AW.aload_n (pc := 28) dX9_become_28 rfl 0 rfl ?_
  refine AW.iload_n (pc := 29) dX9_become_29 rfl 1 rfl ?_
  refine AW.bipush (pc := 30) dX9_become_30 cb_11 ?_
  refine AW.irem (pc := 32) dX9_become_32 (by decide) ?_
  refine AW.iconst (pc := 33) dX9_become_33 ci_1 ?_
  refine AW.isub (pc := 34) dX9_become_34 ?_
  refine AW.putI (pc := 35) dX9_become_35 flX9_9 hthis (kct hthis rfl hct) ?_
  refine AW.genM (fun M4 => ?_)
  exact AW.vret (pc := 38) dX9_become_38 rfl (fun _ _ _ => rfl) (Nat.le_refl _) (Nat.le_refl _)
-- GateBox$Setting.clear()V
def zX9_clear (this : Nat) (M : Mem) : Option (Unit × Mem) :=
  if K0 this = (0, 9) then
  bnd (zX9_become this 0 M) fun _ M1 =>
  some ((), M1)
  else none
set_option maxRecDepth 20000 in
set_option maxHeartbeats 4000000 in
theorem kX9_clear (l : Launch) (E : Ev) (n : Nat) (hn : 2 ≤ n) (ct : Nat) (hct : 111 ≤ ct) (ex : Bool) (this : Nat) (M : Mem) : AM l E n ct ex yX9_clear fX9_clear enU [.ref (ad E this)] M (zX9_clear this M) := by
  unfold zX9_clear
  refine AM.of (by decide +kernel) ⟨rfl, rfl, rfl⟩ (Nat.le_of_ble_eq_true rfl) ?_
  refine AW.chk (fun hthis => ?_)
  refine AW.aload_n (pc := 0) dX9_clear_0 rfl 0 rfl ?_
  refine AW.iconst (pc := 1) dX9_clear_1 ci_0 ?_
  refine AW.cV1v (pc := 2) dX9_clear_2 mlX9_24 mbX9_become rfl hthis (kct hthis rfl hct) (fun _ => okR_N (by omega)) (kX9_become l E (n - 1) (by omega) ct hct ex this 0 M) (Nat.le_of_ble_eq_true rfl) (fun _ M1 => ?_)
  exact AW.vret (pc := 5) dX9_clear_5 rfl (fun _ _ _ => rfl) (Nat.le_refl _) (Nat.le_refl _)
-- GateBox$Rules.clear()V
def zX8_clear (this : Nat) (M : Mem) : Option (Unit × Mem) :=
  if K0 this = (0, 8) then
  lt (sI M this 0 0) fun M1 =>
  lt (sI M1 this 1 0) fun M2 =>
  lt (sI M2 this 2 1) fun M3 =>
  lt (sI M3 this 3 0) fun M4 =>
  lt (sI M4 this 4 100) fun M5 =>
  lt (sI M5 this 5 0) fun M6 =>
  lt (sI M6 this 6 0) fun M7 =>
  if mR M7 this 12 ≠ 0 then
  if K0 (mR M7 this 12) = (0, 9) then
  bnd (zX9_clear (mR M7 this 12) M7) fun _ M9 =>
  some ((), M9)
  else none
  else none
  else none
set_option maxRecDepth 20000 in
set_option maxHeartbeats 4000000 in
theorem kX8_clear (l : Launch) (E : Ev) (n : Nat) (hn : 3 ≤ n) (ct : Nat) (hct : 111 ≤ ct) (ex : Bool) (this : Nat) (M : Mem) : AM l E n ct ex yX8_clear fX8_clear enU [.ref (ad E this)] M (zX8_clear this M) := by
  unfold zX8_clear
  refine AM.of (by decide +kernel) ⟨rfl, rfl, rfl⟩ (Nat.le_of_ble_eq_true rfl) ?_
  refine AW.chk (fun hthis => ?_)
  refine AW.aload_n (pc := 0) dX8_clear_0 rfl 0 rfl ?_
  refine AW.iconst (pc := 1) dX8_clear_1 ci_0 ?_
  refine AW.putI (pc := 2) dX8_clear_2 flX8_9 hthis (kct hthis rfl hct) ?_
  refine AW.genM (fun M1 => ?_)
  refine AW.aload_n (pc := 5) dX8_clear_5 rfl 0 rfl ?_
  refine AW.iconst (pc := 6) dX8_clear_6 ci_0 ?_
  refine AW.putI (pc := 7) dX8_clear_7 flX8_15 hthis (kct hthis rfl hct) ?_
  refine AW.genM (fun M2 => ?_)
  refine AW.aload_n (pc := 10) dX8_clear_10 rfl 0 rfl ?_
  refine AW.iconst (pc := 11) dX8_clear_11 ci_1 ?_
  refine AW.putI (pc := 12) dX8_clear_12 flX8_18 hthis (kct hthis rfl hct) ?_
  refine AW.genM (fun M3 => ?_)
  refine AW.aload_n (pc := 15) dX8_clear_15 rfl 0 rfl ?_
  refine AW.iconst (pc := 16) dX8_clear_16 ci_0 ?_
  refine AW.putI (pc := 17) dX8_clear_17 flX8_21 hthis (kct hthis rfl hct) ?_
  refine AW.genM (fun M4 => ?_)
  refine AW.aload_n (pc := 20) dX8_clear_20 rfl 0 rfl ?_
  refine AW.bipush (pc := 21) dX8_clear_21 cb_100 ?_
  refine AW.putI (pc := 23) dX8_clear_23 flX8_24 hthis (kct hthis rfl hct) ?_
  refine AW.genM (fun M5 => ?_)
  refine AW.aload_n (pc := 26) dX8_clear_26 rfl 0 rfl ?_
  refine AW.iconst (pc := 27) dX8_clear_27 ci_0 ?_
  refine AW.putI (pc := 28) dX8_clear_28 flX8_27 hthis (kct hthis rfl hct) ?_
  refine AW.genM (fun M6 => ?_)
  refine AW.aload_n (pc := 31) dX8_clear_31 rfl 0 rfl ?_
  refine AW.iconst (pc := 32) dX8_clear_32 ci_0 ?_
  refine AW.putI (pc := 33) dX8_clear_33 flX8_30 hthis (kct hthis rfl hct) ?_
  refine AW.genM (fun M7 => ?_)
  refine AW.aload_n (pc := 36) dX8_clear_36 rfl 0 rfl ?_
  refine AW.chk (fun g8 => ?_)
  refine AW.getR (pc := 37) dX8_clear_37 flX8_52 hthis (kct hthis rfl hct) g8 ?_
  refine AW.chk (fun g10 => ?_)
  refine AW.cV0v (pc := 40) dX8_clear_40 mlX8_56 mbX9_clear rfl g10 (kct g10 rfl hct) (fun _ => okR_N (by omega)) (kX9_clear l E (n - 1) (by omega) ct hct ex (mR M7 this 12) M7) (Nat.le_of_ble_eq_true rfl) (fun _ M9 => ?_)
  exact AW.vret (pc := 43) dX8_clear_43 rfl (fun _ _ _ => rfl) (Nat.le_refl _) (Nat.le_refl _)
-- GateBox.at([II)I
def zX11_at (x0 : Nat) (x1 : Int32) (M : Mem) : Option (Int32 × Mem) :=
  if x1 < 0 then
    some (0, M)
  else
    if (K0 x0).1 = 1 then
    if (Int32.ofNat (K0 x0).2) ≤ x1 then
      some (0, M)
    else
      if inb x1 (K0 x0).2 = true then
      some (mI M x0 (Int32.toNatClampNeg x1), M)
      else none
    else none
set_option maxRecDepth 20000 in
set_option maxHeartbeats 4000000 in
theorem kX11_at (l : Launch) (E : Ev) (n : Nat) (hn : 1 ≤ n) (ct : Nat) (hct : 111 ≤ ct) (ex : Bool) (x0 : Nat) (x1 : Int32) (M : Mem) : AM l E n ct ex yX11_at fX11_at enI [.ref (ad E x0), .int x1] M (zX11_at x0 x1 M) := by
  unfold zX11_at
  refine AM.of (by decide +kernel) ⟨rfl, rfl, rfl⟩ (Nat.le_of_ble_eq_true rfl) ?_
  refine AW.iload_n (pc := 0) dX11_at_0 rfl 1 rfl ?_
  refine AW.if_lt (pc := 1) 16 dX11_at_1 (by decide) (fun h1 => ?_) (fun h1 => ?_)
  · refine AW.iconst (pc := 16) dX11_at_16 ci_0 ?_
    exact AW.iret (pc := 17) dX11_at_17 rfl (fun _ _ _ => rfl) (Nat.le_refl _) (Nat.le_refl _)
  · refine AW.iload_n (pc := 4) dX11_at_4 rfl 1 rfl ?_
    refine AW.aload_n (pc := 5) dX11_at_5 rfl 0 rfl ?_
    refine AW.chk (fun g2 => ?_)
    refine AW.alen (pc := 6) dX11_at_6 (k0e g2) (by decide) (kct (k0e g2) rfl hct) rfl ?_
    refine AW.icmp_ge (pc := 7) 16 dX11_at_7 (by decide) (fun h3 => ?_) (fun h3 => ?_)
    · refine AW.iconst (pc := 16) dX11_at_16 ci_0 ?_
      exact AW.iret (pc := 17) dX11_at_17 rfl (fun _ _ _ => rfl) (Nat.le_refl _) (Nat.le_refl _)
    · refine AW.aload_n (pc := 10) dX11_at_10 rfl 0 rfl ?_
      refine AW.iload_n (pc := 11) dX11_at_11 rfl 1 rfl ?_
      refine AW.chk (fun g4 => ?_)
      refine AW.iald (pc := 12) dX11_at_12 (k0e g2) (kct (k0e g2) rfl hct) g4 ?_
      refine AW.goto (pc := 13) 17 dX11_at_13 (by decide) ?_
      exact AW.iret (pc := 17) dX11_at_17 rfl (fun _ _ _ => rfl) (Nat.le_refl _) (Nat.le_refl _)
-- GateBox$Reader.isBlank(I)Z
def zX6_isBlank_B12  (M : Mem) : Option (Int32 × Mem) :=
  some (1, M)
def zX6_isBlank (x0 : Int32) (M : Mem) : Option (Int32 × Mem) :=
  if x0 = 32 then
    zX6_isBlank_B12 M
  else
    if x0 = 10 then
      zX6_isBlank_B12 M
    else
      some (0, M)
set_option maxRecDepth 20000 in
set_option maxHeartbeats 4000000 in
theorem kX6_isBlank_B12 (l : Launch) (E : Ev) (n : Nat) (hn : 1 ≤ n) (ct : Nat) (hct : 111 ≤ ct) (ex : Bool)  (M : Mem) : AW l E fX6_isBlank (fun _ => rmN n 0 0) (PQr E 0 0 ct ex enI) ct ex 0 0 12 [] [] M (zX6_isBlank_B12  M) := by
  unfold zX6_isBlank_B12
  refine AW.iconst (pc := 12) dX6_isBlank_12 ci_1 ?_
  refine AW.goto (pc := 13) 17 dX6_isBlank_13 (by decide) ?_
  exact AW.zret (pc := 17) dX6_isBlank_17 rfl (Or.inr rfl) (fun _ _ _ => rfl) (Nat.le_refl _) (Nat.le_refl _)
set_option maxRecDepth 20000 in
set_option maxHeartbeats 4000000 in
theorem kX6_isBlank (l : Launch) (E : Ev) (n : Nat) (hn : 1 ≤ n) (ct : Nat) (hct : 111 ≤ ct) (ex : Bool) (x0 : Int32) (M : Mem) : AM l E n ct ex yX6_isBlank fX6_isBlank enI [.int x0] M (zX6_isBlank x0 M) := by
  unfold zX6_isBlank
  refine AM.of (by decide +kernel) ⟨rfl, rfl, rfl⟩ (Nat.le_of_ble_eq_true rfl) ?_
  refine AW.iload_n (pc := 0) dX6_isBlank_0 rfl 0 rfl ?_
  refine AW.bipush (pc := 1) dX6_isBlank_1 cb_32 ?_
  refine AW.icmp_eq (pc := 3) 12 dX6_isBlank_3 (by decide) (fun h1 => ?_) (fun h1 => ?_)
  · exact AW.sub [] rfl (kX6_isBlank_B12 l E n hn ct hct ex M)
  · refine AW.iload_n (pc := 6) dX6_isBlank_6 rfl 0 rfl ?_
    refine AW.bipush (pc := 7) dX6_isBlank_7 cb_10 ?_
    refine AW.icmp_ne (pc := 9) 16 dX6_isBlank_9 (by decide) (fun h2 => ?_) (fun h2 => ?_)
    · exact AW.sub [] rfl (kX6_isBlank_B12 l E n hn ct hct ex M)
    · refine AW.iconst (pc := 16) dX6_isBlank_16 ci_0 ?_
      exact AW.zret (pc := 17) dX6_isBlank_17 rfl (Or.inl rfl) (fun _ _ _ => rfl) (Nat.le_refl _) (Nat.le_refl _)
-- GateBox$Reader.isLetter(I)Z
def zX6_isLetter (x0 : Int32) (M : Mem) : Option (Int32 × Mem) :=
  if x0 < 97 then
    some (0, M)
  else
    if 122 < x0 then
      some (0, M)
    else
      some (1, M)
set_option maxRecDepth 20000 in
set_option maxHeartbeats 4000000 in
theorem kX6_isLetter (l : Launch) (E : Ev) (n : Nat) (hn : 1 ≤ n) (ct : Nat) (hct : 111 ≤ ct) (ex : Bool) (x0 : Int32) (M : Mem) : AM l E n ct ex yX6_isLetter fX6_isLetter enI [.int x0] M (zX6_isLetter x0 M) := by
  unfold zX6_isLetter
  refine AM.of (by decide +kernel) ⟨rfl, rfl, rfl⟩ (Nat.le_of_ble_eq_true rfl) ?_
  refine AW.iload_n (pc := 0) dX6_isLetter_0 rfl 0 rfl ?_
  refine AW.bipush (pc := 1) dX6_isLetter_1 cb_97 ?_
  refine AW.icmp_lt (pc := 3) 16 dX6_isLetter_3 (by decide) (fun h1 => ?_) (fun h1 => ?_)
  · refine AW.iconst (pc := 16) dX6_isLetter_16 ci_0 ?_
    exact AW.zret (pc := 17) dX6_isLetter_17 rfl (Or.inl rfl) (fun _ _ _ => rfl) (Nat.le_refl _) (Nat.le_refl _)
  · refine AW.iload_n (pc := 6) dX6_isLetter_6 rfl 0 rfl ?_
    refine AW.bipush (pc := 7) dX6_isLetter_7 cb_122 ?_
    refine AW.icmp_gt (pc := 9) 16 dX6_isLetter_9 (by decide) (fun h2 => ?_) (fun h2 => ?_)
    · refine AW.iconst (pc := 16) dX6_isLetter_16 ci_0 ?_
      exact AW.zret (pc := 17) dX6_isLetter_17 rfl (Or.inl rfl) (fun _ _ _ => rfl) (Nat.le_refl _) (Nat.le_refl _)
    · refine AW.iconst (pc := 12) dX6_isLetter_12 ci_1 ?_
      refine AW.goto (pc := 13) 17 dX6_isLetter_13 (by decide) ?_
      exact AW.zret (pc := 17) dX6_isLetter_17 rfl (Or.inr rfl) (fun _ _ _ => rfl) (Nat.le_refl _) (Nat.le_refl _)
-- GateBox$Reader.isDigit(I)Z
def zX6_isDigit (x0 : Int32) (M : Mem) : Option (Int32 × Mem) :=
  if x0 < 48 then
    some (0, M)
  else
    if 57 < x0 then
      some (0, M)
    else
      some (1, M)
set_option maxRecDepth 20000 in
set_option maxHeartbeats 4000000 in
theorem kX6_isDigit (l : Launch) (E : Ev) (n : Nat) (hn : 1 ≤ n) (ct : Nat) (hct : 111 ≤ ct) (ex : Bool) (x0 : Int32) (M : Mem) : AM l E n ct ex yX6_isDigit fX6_isDigit enI [.int x0] M (zX6_isDigit x0 M) := by
  unfold zX6_isDigit
  refine AM.of (by decide +kernel) ⟨rfl, rfl, rfl⟩ (Nat.le_of_ble_eq_true rfl) ?_
  refine AW.iload_n (pc := 0) dX6_isDigit_0 rfl 0 rfl ?_
  refine AW.bipush (pc := 1) dX6_isDigit_1 cb_48 ?_
  refine AW.icmp_lt (pc := 3) 16 dX6_isDigit_3 (by decide) (fun h1 => ?_) (fun h1 => ?_)
  · refine AW.iconst (pc := 16) dX6_isDigit_16 ci_0 ?_
    exact AW.zret (pc := 17) dX6_isDigit_17 rfl (Or.inl rfl) (fun _ _ _ => rfl) (Nat.le_refl _) (Nat.le_refl _)
  · refine AW.iload_n (pc := 6) dX6_isDigit_6 rfl 0 rfl ?_
    refine AW.bipush (pc := 7) dX6_isDigit_7 cb_57 ?_
    refine AW.icmp_gt (pc := 9) 16 dX6_isDigit_9 (by decide) (fun h2 => ?_) (fun h2 => ?_)
    · refine AW.iconst (pc := 16) dX6_isDigit_16 ci_0 ?_
      exact AW.zret (pc := 17) dX6_isDigit_17 rfl (Or.inl rfl) (fun _ _ _ => rfl) (Nat.le_refl _) (Nat.le_refl _)
    · refine AW.iconst (pc := 12) dX6_isDigit_12 ci_1 ?_
      refine AW.goto (pc := 13) 17 dX6_isDigit_13 (by decide) ?_
      exact AW.zret (pc := 17) dX6_isDigit_17 rfl (Or.inr rfl) (fun _ _ _ => rfl) (Nat.le_refl _) (Nat.le_refl _)
-- GateBox$Reader.readNumber()V
def zX6_readNumber_B75 (KK5 : Nat → Mem → Option (Unit × Mem)) (this : Nat) (s0 : Nat) (s1 : Int32) (M : Mem) : Option (Unit × Mem) :=
  if K0 s0 = (0, 6) then
  lt (sI M s0 8 s1) fun M2 =>
  lt (sI M2 this 6 ((mI M2 this 6) + 1)) fun M3 =>
  KK5 this M3
  else none
def zX6_readNumber_B5 (KK5 : Nat → Mem → Option (Unit × Mem)) (this : Nat) (M : Mem) : Option (Unit × Mem) :=
  if (mI M this 4) ≤ (mI M this 6) then
    some ((), M)
  else
    if mR M this 0 ≠ 0 then
    bnd (zX11_at (mR M this 0) (mI M this 6) M) fun v3 M4 =>
    bnd (zX6_isDigit v3 M4) fun v5 M6 =>
    if v5 = 0 then
      some ((), M6)
    else
      if 3 ≤ ((mI M6 this 6) - (mI M6 this 5)) then
        zX6_readNumber_B75 KK5 this this 1000 M6
      else
        if mR M6 this 0 ≠ 0 then
        bnd (zX11_at (mR M6 this 0) (mI M6 this 6) M6) fun v10 M11 =>
        zX6_readNumber_B75 KK5 this this ((((mI M6 this 8) * 10) + v10) - 48) M11
        else none
    else none
def zX6_readNumber_L5 : Nat → Nat → Mem → Option (Unit × Mem)
  | 0 => fun _ _ => none
  | k + 1 => zX6_readNumber_B5 (zX6_readNumber_L5 k)
def zX6_readNumber (this : Nat) (M : Mem) : Option (Unit × Mem) :=
  if K0 this = (0, 6) then
  lt (sI M this 8 0) fun M1 =>
  zX6_readNumber_L5 FU this M1
  else none
set_option maxRecDepth 20000 in
set_option maxHeartbeats 4000000 in
theorem kX6_readNumber_B75 (l : Launch) (E : Ev) (n : Nat) (hn : 2 ≤ n) (ct : Nat) (hct : 111 ≤ ct) (ex : Bool) (KK5 : Nat → Mem → Option (Unit × Mem)) (hKK5 : ∀ (this : Nat) (M : Mem) (_ : K0 this = (0, 6)), AW l E fX6_readNumber (fun _ => rmN n 0 0) (PQr E 0 0 ct ex enU) ct ex 0 0 5 [(0, .ref (ad E this))] [] M (KK5 this M)) (this : Nat) (s0 : Nat) (s1 : Int32) (M : Mem) (hthis : K0 this = (0, 6)) : AW l E fX6_readNumber (fun _ => rmN n 0 0) (PQr E 0 0 ct ex enU) ct ex 0 0 75 [(0, .ref (ad E this))] [.int s1, .ref (ad E s0)] M (zX6_readNumber_B75 KK5 this s0 s1 M) := by
  unfold zX6_readNumber_B75
  refine AW.chk (fun g1 => ?_)
  refine AW.putI (pc := 75) dX6_readNumber_75 flX6_41 g1 (kct g1 rfl hct) ?_
  refine AW.genM (fun M2 => ?_)
  refine AW.aload_n (pc := 78) dX6_readNumber_78 rfl 0 rfl ?_
  refine AW.dup (pc := 79) dX6_readNumber_79 rfl ?_
  refine AW.getI (pc := 80) dX6_readNumber_80 flX6_35 hthis (kct hthis rfl hct) ?_
  refine AW.iconst (pc := 83) dX6_readNumber_83 ci_1 ?_
  refine AW.iadd (pc := 84) dX6_readNumber_84 ?_
  refine AW.putI (pc := 85) dX6_readNumber_85 flX6_35 hthis (kct hthis rfl hct) ?_
  refine AW.genM (fun M3 => ?_)
  refine AW.goto (pc := 88) 5 dX6_readNumber_88 (by decide) ?_
  exact hKK5 this M3 hthis
set_option maxRecDepth 20000 in
set_option maxHeartbeats 4000000 in
theorem kX6_readNumber_B5 (l : Launch) (E : Ev) (n : Nat) (hn : 2 ≤ n) (ct : Nat) (hct : 111 ≤ ct) (ex : Bool) (KK5 : Nat → Mem → Option (Unit × Mem)) (hKK5 : ∀ (this : Nat) (M : Mem) (_ : K0 this = (0, 6)), AW l E fX6_readNumber (fun _ => rmN n 0 0) (PQr E 0 0 ct ex enU) ct ex 0 0 5 [(0, .ref (ad E this))] [] M (KK5 this M)) (this : Nat) (M : Mem) (hthis : K0 this = (0, 6)) : AW l E fX6_readNumber (fun _ => rmN n 0 0) (PQr E 0 0 ct ex enU) ct ex 0 0 5 [(0, .ref (ad E this))] [] M (zX6_readNumber_B5 KK5 this M) := by
  unfold zX6_readNumber_B5
  refine AW.aload_n (pc := 5) dX6_readNumber_5 rfl 0 rfl ?_
  refine AW.getI (pc := 6) dX6_readNumber_6 flX6_35 hthis (kct hthis rfl hct) ?_
  refine AW.aload_n (pc := 9) dX6_readNumber_9 rfl 0 rfl ?_
  refine AW.getI (pc := 10) dX6_readNumber_10 flX6_29 hthis (kct hthis rfl hct) ?_
  refine AW.icmp_ge (pc := 13) 91 dX6_readNumber_13 (by decide) (fun h1 => ?_) (fun h1 => ?_)
  · exact AW.vret (pc := 91) dX6_readNumber_91 rfl (fun _ _ _ => rfl) (Nat.le_refl _) (Nat.le_refl _)
  · refine AW.aload_n (pc := 16) dX6_readNumber_16 rfl 0 rfl ?_
    refine AW.chk (fun g2 => ?_)
    refine AW.getR (pc := 17) dX6_readNumber_17 flX6_9 hthis (kct hthis rfl hct) g2 ?_
    refine AW.aload_n (pc := 20) dX6_readNumber_20 rfl 0 rfl ?_
    refine AW.getI (pc := 21) dX6_readNumber_21 flX6_35 hthis (kct hthis rfl hct) ?_
    refine AW.cN2i (pc := 24) dX6_readNumber_24 nlX6_206 mbX11_at (fun _ => okR_N (by omega)) (kX11_at l E (n - 1) (by omega) ct hct ex (mR M this 0) (mI M this 6) M) (Nat.le_of_ble_eq_true rfl) (fun v3 M4 => ?_)
    refine AW.cS1i (pc := 27) dX6_readNumber_27 mlX6_220 mbX6_isDigit (fun _ => okR_N (by omega)) (kX6_isDigit l E (n - 1) (by omega) ct hct ex v3 M4) (Nat.le_of_ble_eq_true rfl) (fun v5 M6 => ?_)
    refine AW.if_eq (pc := 30) 91 dX6_readNumber_30 (by decide) (fun h7 => ?_) (fun h7 => ?_)
    · exact AW.vret (pc := 91) dX6_readNumber_91 rfl (fun _ _ _ => rfl) (Nat.le_refl _) (Nat.le_refl _)
    · refine AW.aload_n (pc := 33) dX6_readNumber_33 rfl 0 rfl ?_
      refine AW.aload_n (pc := 34) dX6_readNumber_34 rfl 0 rfl ?_
      refine AW.getI (pc := 35) dX6_readNumber_35 flX6_35 hthis (kct hthis rfl hct) ?_
      refine AW.aload_n (pc := 38) dX6_readNumber_38 rfl 0 rfl ?_
      refine AW.getI (pc := 39) dX6_readNumber_39 flX6_32 hthis (kct hthis rfl hct) ?_
      refine AW.isub (pc := 42) dX6_readNumber_42 ?_
      refine AW.iconst (pc := 43) dX6_readNumber_43 ci_3 ?_
      refine AW.icmp_ge (pc := 44) 72 dX6_readNumber_44 (by decide) (fun h8 => ?_) (fun h8 => ?_)
      · refine AW.sipush (pc := 72) dX6_readNumber_72 cs_1000 ?_
        exact kX6_readNumber_B75 l E n hn ct hct ex KK5 hKK5 this this 1000 M6 hthis
      · refine AW.aload_n (pc := 47) dX6_readNumber_47 rfl 0 rfl ?_
        refine AW.getI (pc := 48) dX6_readNumber_48 flX6_41 hthis (kct hthis rfl hct) ?_
        refine AW.bipush (pc := 51) dX6_readNumber_51 cb_10 ?_
        refine AW.imul (pc := 53) dX6_readNumber_53 ?_
        refine AW.aload_n (pc := 54) dX6_readNumber_54 rfl 0 rfl ?_
        refine AW.chk (fun g9 => ?_)
        refine AW.getR (pc := 55) dX6_readNumber_55 flX6_9 hthis (kct hthis rfl hct) g9 ?_
        refine AW.aload_n (pc := 58) dX6_readNumber_58 rfl 0 rfl ?_
        refine AW.getI (pc := 59) dX6_readNumber_59 flX6_35 hthis (kct hthis rfl hct) ?_
        refine AW.cN2i (pc := 62) dX6_readNumber_62 nlX6_206 mbX11_at (fun _ => okR_N (by omega)) (kX11_at l E (n - 1) (by omega) ct hct ex (mR M6 this 0) (mI M6 this 6) M6) (Nat.le_of_ble_eq_true rfl) (fun v10 M11 => ?_)
        refine AW.iadd (pc := 65) dX6_readNumber_65 ?_
        refine AW.bipush (pc := 66) dX6_readNumber_66 cb_48 ?_
        refine AW.isub (pc := 68) dX6_readNumber_68 ?_
        refine AW.goto (pc := 69) 75 dX6_readNumber_69 (by decide) ?_
        exact kX6_readNumber_B75 l E n hn ct hct ex KK5 hKK5 this this ((((mI M6 this 8) * 10) + v10) - 48) M11 hthis
set_option maxRecDepth 20000 in
set_option maxHeartbeats 4000000 in
theorem kX6_readNumber_L5 (l : Launch) (E : Ev) (n : Nat) (hn : 2 ≤ n) (ct : Nat) (hct : 111 ≤ ct) (ex : Bool) (k : Nat) : ∀ (this : Nat) (M : Mem) (_ : K0 this = (0, 6)), AW l E fX6_readNumber (fun _ => rmN n 0 0) (PQr E 0 0 ct ex enU) ct ex 0 0 5 [(0, .ref (ad E this))] [] M (zX6_readNumber_L5 k this M) := by
  induction k with
  | zero => intro this M _; exact AW.none
  | succ k ih =>
    intro this M hthis
    exact kX6_readNumber_B5 l E n hn ct hct ex (zX6_readNumber_L5 k) ih this M hthis
set_option maxRecDepth 20000 in
set_option maxHeartbeats 4000000 in
theorem kX6_readNumber (l : Launch) (E : Ev) (n : Nat) (hn : 2 ≤ n) (ct : Nat) (hct : 111 ≤ ct) (ex : Bool) (this : Nat) (M : Mem) : AM l E n ct ex yX6_readNumber fX6_readNumber enU [.ref (ad E this)] M (zX6_readNumber this M) := by
  unfold zX6_readNumber
  refine AM.of (by decide +kernel) ⟨rfl, rfl, rfl⟩ (Nat.le_of_ble_eq_true rfl) ?_
  refine AW.chk (fun hthis => ?_)
  refine AW.aload_n (pc := 0) dX6_readNumber_0 rfl 0 rfl ?_
  refine AW.iconst (pc := 1) dX6_readNumber_1 ci_0 ?_
  refine AW.putI (pc := 2) dX6_readNumber_2 flX6_41 hthis (kct hthis rfl hct) ?_
  refine AW.genM (fun M1 => ?_)
  exact kX6_readNumber_L5 l E n hn ct hct ex FU this M1 hthis
-- GateBox$Reader.isSign(I)Z
def zX6_isSign_B54  (M : Mem) : Option (Int32 × Mem) :=
  some (1, M)
def zX6_isSign (x0 : Int32) (M : Mem) : Option (Int32 × Mem) :=
  if x0 = 59 then
    zX6_isSign_B54 M
  else
    if x0 = 40 then
      zX6_isSign_B54 M
    else
      if x0 = 41 then
        zX6_isSign_B54 M
      else
        if x0 = 43 then
          zX6_isSign_B54 M
        else
          if x0 = 45 then
            zX6_isSign_B54 M
          else
            if x0 = 42 then
              zX6_isSign_B54 M
            else
              if x0 = 47 then
                zX6_isSign_B54 M
              else
                if x0 = 60 then
                  zX6_isSign_B54 M
                else
                  if x0 = 61 then
                    zX6_isSign_B54 M
                  else
                    some (0, M)
set_option maxRecDepth 20000 in
set_option maxHeartbeats 4000000 in
theorem kX6_isSign_B54 (l : Launch) (E : Ev) (n : Nat) (hn : 1 ≤ n) (ct : Nat) (hct : 111 ≤ ct) (ex : Bool)  (M : Mem) : AW l E fX6_isSign (fun _ => rmN n 0 0) (PQr E 0 0 ct ex enI) ct ex 0 0 54 [] [] M (zX6_isSign_B54  M) := by
  unfold zX6_isSign_B54
  refine AW.iconst (pc := 54) dX6_isSign_54 ci_1 ?_
  refine AW.goto (pc := 55) 59 dX6_isSign_55 (by decide) ?_
  exact AW.zret (pc := 59) dX6_isSign_59 rfl (Or.inr rfl) (fun _ _ _ => rfl) (Nat.le_refl _) (Nat.le_refl _)
set_option maxRecDepth 20000 in
set_option maxHeartbeats 4000000 in
theorem kX6_isSign (l : Launch) (E : Ev) (n : Nat) (hn : 1 ≤ n) (ct : Nat) (hct : 111 ≤ ct) (ex : Bool) (x0 : Int32) (M : Mem) : AM l E n ct ex yX6_isSign fX6_isSign enI [.int x0] M (zX6_isSign x0 M) := by
  unfold zX6_isSign
  refine AM.of (by decide +kernel) ⟨rfl, rfl, rfl⟩ (Nat.le_of_ble_eq_true rfl) ?_
  refine AW.iload_n (pc := 0) dX6_isSign_0 rfl 0 rfl ?_
  refine AW.bipush (pc := 1) dX6_isSign_1 cb_59 ?_
  refine AW.icmp_eq (pc := 3) 54 dX6_isSign_3 (by decide) (fun h1 => ?_) (fun h1 => ?_)
  · exact AW.sub [] rfl (kX6_isSign_B54 l E n hn ct hct ex M)
  · refine AW.iload_n (pc := 6) dX6_isSign_6 rfl 0 rfl ?_
    refine AW.bipush (pc := 7) dX6_isSign_7 cb_40 ?_
    refine AW.icmp_eq (pc := 9) 54 dX6_isSign_9 (by decide) (fun h2 => ?_) (fun h2 => ?_)
    · exact AW.sub [] rfl (kX6_isSign_B54 l E n hn ct hct ex M)
    · refine AW.iload_n (pc := 12) dX6_isSign_12 rfl 0 rfl ?_
      refine AW.bipush (pc := 13) dX6_isSign_13 cb_41 ?_
      refine AW.icmp_eq (pc := 15) 54 dX6_isSign_15 (by decide) (fun h3 => ?_) (fun h3 => ?_)
      · exact AW.sub [] rfl (kX6_isSign_B54 l E n hn ct hct ex M)
      · refine AW.iload_n (pc := 18) dX6_isSign_18 rfl 0 rfl ?_
        refine AW.bipush (pc := 19) dX6_isSign_19 cb_43 ?_
        refine AW.icmp_eq (pc := 21) 54 dX6_isSign_21 (by decide) (fun h4 => ?_) (fun h4 => ?_)
        · exact AW.sub [] rfl (kX6_isSign_B54 l E n hn ct hct ex M)
        · refine AW.iload_n (pc := 24) dX6_isSign_24 rfl 0 rfl ?_
          refine AW.bipush (pc := 25) dX6_isSign_25 cb_45 ?_
          refine AW.icmp_eq (pc := 27) 54 dX6_isSign_27 (by decide) (fun h5 => ?_) (fun h5 => ?_)
          · exact AW.sub [] rfl (kX6_isSign_B54 l E n hn ct hct ex M)
          · refine AW.iload_n (pc := 30) dX6_isSign_30 rfl 0 rfl ?_
            refine AW.bipush (pc := 31) dX6_isSign_31 cb_42 ?_
            refine AW.icmp_eq (pc := 33) 54 dX6_isSign_33 (by decide) (fun h6 => ?_) (fun h6 => ?_)
            · exact AW.sub [] rfl (kX6_isSign_B54 l E n hn ct hct ex M)
            · refine AW.iload_n (pc := 36) dX6_isSign_36 rfl 0 rfl ?_
              refine AW.bipush (pc := 37) dX6_isSign_37 cb_47 ?_
              refine AW.icmp_eq (pc := 39) 54 dX6_isSign_39 (by decide) (fun h7 => ?_) (fun h7 => ?_)
              · exact AW.sub [] rfl (kX6_isSign_B54 l E n hn ct hct ex M)
              · refine AW.iload_n (pc := 42) dX6_isSign_42 rfl 0 rfl ?_
                refine AW.bipush (pc := 43) dX6_isSign_43 cb_60 ?_
                refine AW.icmp_eq (pc := 45) 54 dX6_isSign_45 (by decide) (fun h8 => ?_) (fun h8 => ?_)
                · exact AW.sub [] rfl (kX6_isSign_B54 l E n hn ct hct ex M)
                · refine AW.iload_n (pc := 48) dX6_isSign_48 rfl 0 rfl ?_
                  refine AW.bipush (pc := 49) dX6_isSign_49 cb_61 ?_
                  refine AW.icmp_ne (pc := 51) 58 dX6_isSign_51 (by decide) (fun h9 => ?_) (fun h9 => ?_)
                  · exact AW.sub [] rfl (kX6_isSign_B54 l E n hn ct hct ex M)
                  · refine AW.iconst (pc := 58) dX6_isSign_58 ci_0 ?_
                    exact AW.zret (pc := 59) dX6_isSign_59 rfl (Or.inl rfl) (fun _ _ _ => rfl) (Nat.le_refl _) (Nat.le_refl _)
-- GateBox$Reader.advance()V
def zX6_advance_B173 (this : Nat) (s0 : Nat) (s1 : Int32) (M : Mem) : Option (Unit × Mem) :=
  if K0 s0 = (0, 6) then
  lt (sI M s0 7 s1) fun M2 =>
  lt (sI M2 this 6 ((mI M2 this 6) + 1)) fun M3 =>
  some ((), M3)
  else none
def zX6_advance_B100 (KK100 : Nat → Mem → Option (Unit × Mem)) (this : Nat) (M : Mem) : Option (Unit × Mem) :=
  if (mI M this 4) ≤ (mI M this 6) then
    some ((), M)
  else
    if mR M this 0 ≠ 0 then
    bnd (zX11_at (mR M this 0) (mI M this 6) M) fun v3 M4 =>
    bnd (zX6_isLetter v3 M4) fun v5 M6 =>
    if v5 = 0 then
      some ((), M6)
    else
      lt (sI M6 this 6 ((mI M6 this 6) + 1)) fun M8 =>
      KK100 this M8
    else none
def zX6_advance_L100 : Nat → Nat → Mem → Option (Unit × Mem)
  | 0 => fun _ _ => none
  | k + 1 => zX6_advance_B100 (zX6_advance_L100 k)
def zX6_advance_B49 (this : Nat) (M : Mem) : Option (Unit × Mem) :=
  lt (sI M this 6 (mI M this 5)) fun M1 =>
  if mR M1 this 0 ≠ 0 then
  bnd (zX11_at (mR M1 this 0) (mI M1 this 5) M1) fun v3 M4 =>
  if (mI M4 this 5) < (mI M4 this 4) then
    bnd (zX6_isLetter v3 M4) fun v6 M7 =>
    if v6 = 0 then
      bnd (zX6_isDigit v3 M7) fun v9 M10 =>
      if v9 = 0 then
        bnd (zX6_isSign v3 M10) fun v12 M13 =>
        if v12 = 0 then
          zX6_advance_B173 this this 3 M13
        else
          zX6_advance_B173 this this v3 M13
      else
        lt (sI M10 this 7 2) fun M15 =>
        bnd (zX6_readNumber this M15) fun _ M16 =>
        some ((), M16)
    else
      lt (sI M7 this 7 1) fun M17 =>
      zX6_advance_L100 FU this M17
  else
    lt (sI M4 this 7 0) fun M18 =>
    some ((), M18)
  else none
def zX6_advance_B8 (KK8 : Nat → Mem → Option (Unit × Mem)) (this : Nat) (M : Mem) : Option (Unit × Mem) :=
  if (mI M this 4) ≤ (mI M this 5) then
    zX6_advance_B49 this M
  else
    if mR M this 0 ≠ 0 then
    bnd (zX11_at (mR M this 0) (mI M this 5) M) fun v3 M4 =>
    bnd (zX6_isBlank v3 M4) fun v5 M6 =>
    if v5 = 0 then
      zX6_advance_B49 this M6
    else
      lt (sI M6 this 5 ((mI M6 this 5) + 1)) fun M8 =>
      KK8 this M8
    else none
def zX6_advance_L8 : Nat → Nat → Mem → Option (Unit × Mem)
  | 0 => fun _ _ => none
  | k + 1 => zX6_advance_B8 (zX6_advance_L8 k)
def zX6_advance (this : Nat) (M : Mem) : Option (Unit × Mem) :=
  if K0 this = (0, 6) then
  lt (sI M this 5 (mI M this 6)) fun M1 =>
  zX6_advance_L8 FU this M1
  else none
set_option maxRecDepth 20000 in
set_option maxHeartbeats 4000000 in
theorem kX6_advance_B173 (l : Launch) (E : Ev) (n : Nat) (hn : 3 ≤ n) (ct : Nat) (hct : 111 ≤ ct) (ex : Bool) (this : Nat) (s0 : Nat) (s1 : Int32) (M : Mem) (hthis : K0 this = (0, 6)) : AW l E fX6_advance (fun _ => rmN n 0 0) (PQr E 0 0 ct ex enU) ct ex 0 0 173 [(0, .ref (ad E this))] [.int s1, .ref (ad E s0)] M (zX6_advance_B173 this s0 s1 M) := by
  unfold zX6_advance_B173
  refine AW.chk (fun g1 => ?_)
  refine AW.putI (pc := 173) dX6_advance_173 flX6_38 g1 (kct g1 rfl hct) ?_
  refine AW.genM (fun M2 => ?_)
  refine AW.aload_n (pc := 176) dX6_advance_176 rfl 0 rfl ?_
  refine AW.dup (pc := 177) dX6_advance_177 rfl ?_
  refine AW.getI (pc := 178) dX6_advance_178 flX6_35 hthis (kct hthis rfl hct) ?_
  refine AW.iconst (pc := 181) dX6_advance_181 ci_1 ?_
  refine AW.iadd (pc := 182) dX6_advance_182 ?_
  refine AW.putI (pc := 183) dX6_advance_183 flX6_35 hthis (kct hthis rfl hct) ?_
  refine AW.genM (fun M3 => ?_)
  exact AW.vret (pc := 186) dX6_advance_186 rfl (fun _ _ _ => rfl) (Nat.le_refl _) (Nat.le_refl _)
set_option maxRecDepth 20000 in
set_option maxHeartbeats 4000000 in
theorem kX6_advance_B100 (l : Launch) (E : Ev) (n : Nat) (hn : 3 ≤ n) (ct : Nat) (hct : 111 ≤ ct) (ex : Bool) (KK100 : Nat → Mem → Option (Unit × Mem)) (hKK100 : ∀ (this : Nat) (M : Mem) (_ : K0 this = (0, 6)), AW l E fX6_advance (fun _ => rmN n 0 0) (PQr E 0 0 ct ex enU) ct ex 0 0 100 [(0, .ref (ad E this))] [] M (KK100 this M)) (this : Nat) (M : Mem) (hthis : K0 this = (0, 6)) : AW l E fX6_advance (fun _ => rmN n 0 0) (PQr E 0 0 ct ex enU) ct ex 0 0 100 [(0, .ref (ad E this))] [] M (zX6_advance_B100 KK100 this M) := by
  unfold zX6_advance_B100
  refine AW.aload_n (pc := 100) dX6_advance_100 rfl 0 rfl ?_
  refine AW.getI (pc := 101) dX6_advance_101 flX6_35 hthis (kct hthis rfl hct) ?_
  refine AW.aload_n (pc := 104) dX6_advance_104 rfl 0 rfl ?_
  refine AW.getI (pc := 105) dX6_advance_105 flX6_29 hthis (kct hthis rfl hct) ?_
  refine AW.icmp_ge (pc := 108) 186 dX6_advance_108 (by decide) (fun h1 => ?_) (fun h1 => ?_)
  · exact AW.vret (pc := 186) dX6_advance_186 rfl (fun _ _ _ => rfl) (Nat.le_refl _) (Nat.le_refl _)
  · refine AW.aload_n (pc := 111) dX6_advance_111 rfl 0 rfl ?_
    refine AW.chk (fun g2 => ?_)
    refine AW.getR (pc := 112) dX6_advance_112 flX6_9 hthis (kct hthis rfl hct) g2 ?_
    refine AW.aload_n (pc := 115) dX6_advance_115 rfl 0 rfl ?_
    refine AW.getI (pc := 116) dX6_advance_116 flX6_35 hthis (kct hthis rfl hct) ?_
    refine AW.cN2i (pc := 119) dX6_advance_119 nlX6_206 mbX11_at (fun _ => okR_N (by omega)) (kX11_at l E (n - 1) (by omega) ct hct ex (mR M this 0) (mI M this 6) M) (Nat.le_of_ble_eq_true rfl) (fun v3 M4 => ?_)
    refine AW.cS1i (pc := 122) dX6_advance_122 mlX6_217 mbX6_isLetter (fun _ => okR_N (by omega)) (kX6_isLetter l E (n - 1) (by omega) ct hct ex v3 M4) (Nat.le_of_ble_eq_true rfl) (fun v5 M6 => ?_)
    refine AW.if_eq (pc := 125) 186 dX6_advance_125 (by decide) (fun h7 => ?_) (fun h7 => ?_)
    · exact AW.vret (pc := 186) dX6_advance_186 rfl (fun _ _ _ => rfl) (Nat.le_refl _) (Nat.le_refl _)
    · refine AW.aload_n (pc := 128) dX6_advance_128 rfl 0 rfl ?_
      refine AW.dup (pc := 129) dX6_advance_129 rfl ?_
      refine AW.getI (pc := 130) dX6_advance_130 flX6_35 hthis (kct hthis rfl hct) ?_
      refine AW.iconst (pc := 133) dX6_advance_133 ci_1 ?_
      refine AW.iadd (pc := 134) dX6_advance_134 ?_
      refine AW.putI (pc := 135) dX6_advance_135 flX6_35 hthis (kct hthis rfl hct) ?_
      refine AW.genM (fun M8 => ?_)
      refine AW.goto (pc := 138) 100 dX6_advance_138 (by decide) ?_
      exact hKK100 this M8 hthis
set_option maxRecDepth 20000 in
set_option maxHeartbeats 4000000 in
theorem kX6_advance_L100 (l : Launch) (E : Ev) (n : Nat) (hn : 3 ≤ n) (ct : Nat) (hct : 111 ≤ ct) (ex : Bool) (k : Nat) : ∀ (this : Nat) (M : Mem) (_ : K0 this = (0, 6)), AW l E fX6_advance (fun _ => rmN n 0 0) (PQr E 0 0 ct ex enU) ct ex 0 0 100 [(0, .ref (ad E this))] [] M (zX6_advance_L100 k this M) := by
  induction k with
  | zero => intro this M _; exact AW.none
  | succ k ih =>
    intro this M hthis
    exact kX6_advance_B100 l E n hn ct hct ex (zX6_advance_L100 k) ih this M hthis
set_option maxRecDepth 20000 in
set_option maxHeartbeats 4000000 in
theorem kX6_advance_B49 (l : Launch) (E : Ev) (n : Nat) (hn : 3 ≤ n) (ct : Nat) (hct : 111 ≤ ct) (ex : Bool) (this : Nat) (M : Mem) (hthis : K0 this = (0, 6)) : AW l E fX6_advance (fun _ => rmN n 0 0) (PQr E 0 0 ct ex enU) ct ex 0 0 49 [(0, .ref (ad E this))] [] M (zX6_advance_B49 this M) := by
  unfold zX6_advance_B49
  refine AW.aload_n (pc := 49) dX6_advance_49 rfl 0 rfl ?_
  refine AW.aload_n (pc := 50) dX6_advance_50 rfl 0 rfl ?_
  refine AW.getI (pc := 51) dX6_advance_51 flX6_32 hthis (kct hthis rfl hct) ?_
  refine AW.putI (pc := 54) dX6_advance_54 flX6_35 hthis (kct hthis rfl hct) ?_
  refine AW.genM (fun M1 => ?_)
  refine AW.aload_n (pc := 57) dX6_advance_57 rfl 0 rfl ?_
  refine AW.chk (fun g2 => ?_)
  refine AW.getR (pc := 58) dX6_advance_58 flX6_9 hthis (kct hthis rfl hct) g2 ?_
  refine AW.aload_n (pc := 61) dX6_advance_61 rfl 0 rfl ?_
  refine AW.getI (pc := 62) dX6_advance_62 flX6_32 hthis (kct hthis rfl hct) ?_
  refine AW.cN2i (pc := 65) dX6_advance_65 nlX6_206 mbX11_at (fun _ => okR_N (by omega)) (kX11_at l E (n - 1) (by omega) ct hct ex (mR M1 this 0) (mI M1 this 5) M1) (Nat.le_of_ble_eq_true rfl) (fun v3 M4 => ?_)
  refine AW.istore_n (pc := 68) [1, 0] [(0, .ref (ad E this)), (1, .int v3)] dX6_advance_68 rfl (by decide) rfl ?_
  refine AW.aload_n (pc := 69) dX6_advance_69 rfl 0 rfl ?_
  refine AW.getI (pc := 70) dX6_advance_70 flX6_32 hthis (kct hthis rfl hct) ?_
  refine AW.aload_n (pc := 73) dX6_advance_73 rfl 0 rfl ?_
  refine AW.getI (pc := 74) dX6_advance_74 flX6_29 hthis (kct hthis rfl hct) ?_
  refine AW.icmp_lt (pc := 77) 88 dX6_advance_77 (by decide) (fun h5 => ?_) (fun h5 => ?_)
  · refine AW.iload_n (pc := 88) dX6_advance_88 rfl 1 rfl ?_
    refine AW.cS1i (pc := 89) dX6_advance_89 mlX6_217 mbX6_isLetter (fun _ => okR_N (by omega)) (kX6_isLetter l E (n - 1) (by omega) ct hct ex v3 M4) (Nat.le_of_ble_eq_true rfl) (fun v6 M7 => ?_)
    refine AW.if_eq (pc := 92) 141 dX6_advance_92 (by decide) (fun h8 => ?_) (fun h8 => ?_)
    · refine AW.iload_n (pc := 141) dX6_advance_141 rfl 1 rfl ?_
      refine AW.cS1i (pc := 142) dX6_advance_142 mlX6_220 mbX6_isDigit (fun _ => okR_N (by omega)) (kX6_isDigit l E (n - 1) (by omega) ct hct ex v3 M7) (Nat.le_of_ble_eq_true rfl) (fun v9 M10 => ?_)
      refine AW.if_eq (pc := 145) 160 dX6_advance_145 (by decide) (fun h11 => ?_) (fun h11 => ?_)
      · refine AW.aload_n (pc := 160) dX6_advance_160 rfl 0 rfl ?_
        refine AW.iload_n (pc := 161) dX6_advance_161 rfl 1 rfl ?_
        refine AW.cS1i (pc := 162) dX6_advance_162 mlX6_226 mbX6_isSign (fun _ => okR_N (by omega)) (kX6_isSign l E (n - 1) (by omega) ct hct ex v3 M10) (Nat.le_of_ble_eq_true rfl) (fun v12 M13 => ?_)
        refine AW.if_eq (pc := 165) 172 dX6_advance_165 (by decide) (fun h14 => ?_) (fun h14 => ?_)
        · refine AW.iconst (pc := 172) dX6_advance_172 ci_3 ?_
          exact AW.sub [0] rfl (kX6_advance_B173 l E n hn ct hct ex this this 3 M13 hthis)
        · refine AW.iload_n (pc := 168) dX6_advance_168 rfl 1 rfl ?_
          refine AW.goto (pc := 169) 173 dX6_advance_169 (by decide) ?_
          exact AW.sub [0] rfl (kX6_advance_B173 l E n hn ct hct ex this this v3 M13 hthis)
      · refine AW.aload_n (pc := 148) dX6_advance_148 rfl 0 rfl ?_
        refine AW.iconst (pc := 149) dX6_advance_149 ci_2 ?_
        refine AW.putI (pc := 150) dX6_advance_150 flX6_38 hthis (kct hthis rfl hct) ?_
        refine AW.genM (fun M15 => ?_)
        refine AW.aload_n (pc := 153) dX6_advance_153 rfl 0 rfl ?_
        refine AW.cV0v (pc := 154) dX6_advance_154 mlX6_223 mbX6_readNumber rfl hthis (kct hthis rfl hct) (fun _ => okR_N (by omega)) (kX6_readNumber l E (n - 1) (by omega) ct hct ex this M15) (Nat.le_of_ble_eq_true rfl) (fun _ M16 => ?_)
        refine AW.goto (pc := 157) 186 dX6_advance_157 (by decide) ?_
        exact AW.vret (pc := 186) dX6_advance_186 rfl (fun _ _ _ => rfl) (Nat.le_refl _) (Nat.le_refl _)
    · refine AW.aload_n (pc := 95) dX6_advance_95 rfl 0 rfl ?_
      refine AW.iconst (pc := 96) dX6_advance_96 ci_1 ?_
      refine AW.putI (pc := 97) dX6_advance_97 flX6_38 hthis (kct hthis rfl hct) ?_
      refine AW.genM (fun M17 => ?_)
      exact AW.sub [0] rfl (kX6_advance_L100 l E n hn ct hct ex FU this M17 hthis)
  · refine AW.aload_n (pc := 80) dX6_advance_80 rfl 0 rfl ?_
    refine AW.iconst (pc := 81) dX6_advance_81 ci_0 ?_
    refine AW.putI (pc := 82) dX6_advance_82 flX6_38 hthis (kct hthis rfl hct) ?_
    refine AW.genM (fun M18 => ?_)
    refine AW.goto (pc := 85) 186 dX6_advance_85 (by decide) ?_
    exact AW.vret (pc := 186) dX6_advance_186 rfl (fun _ _ _ => rfl) (Nat.le_refl _) (Nat.le_refl _)
set_option maxRecDepth 20000 in
set_option maxHeartbeats 4000000 in
theorem kX6_advance_B8 (l : Launch) (E : Ev) (n : Nat) (hn : 3 ≤ n) (ct : Nat) (hct : 111 ≤ ct) (ex : Bool) (KK8 : Nat → Mem → Option (Unit × Mem)) (hKK8 : ∀ (this : Nat) (M : Mem) (_ : K0 this = (0, 6)), AW l E fX6_advance (fun _ => rmN n 0 0) (PQr E 0 0 ct ex enU) ct ex 0 0 8 [(0, .ref (ad E this))] [] M (KK8 this M)) (this : Nat) (M : Mem) (hthis : K0 this = (0, 6)) : AW l E fX6_advance (fun _ => rmN n 0 0) (PQr E 0 0 ct ex enU) ct ex 0 0 8 [(0, .ref (ad E this))] [] M (zX6_advance_B8 KK8 this M) := by
  unfold zX6_advance_B8
  refine AW.aload_n (pc := 8) dX6_advance_8 rfl 0 rfl ?_
  refine AW.getI (pc := 9) dX6_advance_9 flX6_32 hthis (kct hthis rfl hct) ?_
  refine AW.aload_n (pc := 12) dX6_advance_12 rfl 0 rfl ?_
  refine AW.getI (pc := 13) dX6_advance_13 flX6_29 hthis (kct hthis rfl hct) ?_
  refine AW.icmp_ge (pc := 16) 49 dX6_advance_16 (by decide) (fun h1 => ?_) (fun h1 => ?_)
  · exact kX6_advance_B49 l E n hn ct hct ex this M hthis
  · refine AW.aload_n (pc := 19) dX6_advance_19 rfl 0 rfl ?_
    refine AW.chk (fun g2 => ?_)
    refine AW.getR (pc := 20) dX6_advance_20 flX6_9 hthis (kct hthis rfl hct) g2 ?_
    refine AW.aload_n (pc := 23) dX6_advance_23 rfl 0 rfl ?_
    refine AW.getI (pc := 24) dX6_advance_24 flX6_32 hthis (kct hthis rfl hct) ?_
    refine AW.cN2i (pc := 27) dX6_advance_27 nlX6_206 mbX11_at (fun _ => okR_N (by omega)) (kX11_at l E (n - 1) (by omega) ct hct ex (mR M this 0) (mI M this 5) M) (Nat.le_of_ble_eq_true rfl) (fun v3 M4 => ?_)
    refine AW.cS1i (pc := 30) dX6_advance_30 mlX6_214 mbX6_isBlank (fun _ => okR_N (by omega)) (kX6_isBlank l E (n - 1) (by omega) ct hct ex v3 M4) (Nat.le_of_ble_eq_true rfl) (fun v5 M6 => ?_)
    refine AW.if_eq (pc := 33) 49 dX6_advance_33 (by decide) (fun h7 => ?_) (fun h7 => ?_)
    · exact kX6_advance_B49 l E n hn ct hct ex this M6 hthis
    · refine AW.aload_n (pc := 36) dX6_advance_36 rfl 0 rfl ?_
      refine AW.dup (pc := 37) dX6_advance_37 rfl ?_
      refine AW.getI (pc := 38) dX6_advance_38 flX6_32 hthis (kct hthis rfl hct) ?_
      refine AW.iconst (pc := 41) dX6_advance_41 ci_1 ?_
      refine AW.iadd (pc := 42) dX6_advance_42 ?_
      refine AW.putI (pc := 43) dX6_advance_43 flX6_32 hthis (kct hthis rfl hct) ?_
      refine AW.genM (fun M8 => ?_)
      refine AW.goto (pc := 46) 8 dX6_advance_46 (by decide) ?_
      exact hKK8 this M8 hthis
set_option maxRecDepth 20000 in
set_option maxHeartbeats 4000000 in
theorem kX6_advance_L8 (l : Launch) (E : Ev) (n : Nat) (hn : 3 ≤ n) (ct : Nat) (hct : 111 ≤ ct) (ex : Bool) (k : Nat) : ∀ (this : Nat) (M : Mem) (_ : K0 this = (0, 6)), AW l E fX6_advance (fun _ => rmN n 0 0) (PQr E 0 0 ct ex enU) ct ex 0 0 8 [(0, .ref (ad E this))] [] M (zX6_advance_L8 k this M) := by
  induction k with
  | zero => intro this M _; exact AW.none
  | succ k ih =>
    intro this M hthis
    exact kX6_advance_B8 l E n hn ct hct ex (zX6_advance_L8 k) ih this M hthis
set_option maxRecDepth 20000 in
set_option maxHeartbeats 4000000 in
theorem kX6_advance (l : Launch) (E : Ev) (n : Nat) (hn : 3 ≤ n) (ct : Nat) (hct : 111 ≤ ct) (ex : Bool) (this : Nat) (M : Mem) : AM l E n ct ex yX6_advance fX6_advance enU [.ref (ad E this)] M (zX6_advance this M) := by
  unfold zX6_advance
  refine AM.of (by decide +kernel) ⟨rfl, rfl, rfl⟩ (Nat.le_of_ble_eq_true rfl) ?_
  refine AW.chk (fun hthis => ?_)
  refine AW.aload_n (pc := 0) dX6_advance_0 rfl 0 rfl ?_
  refine AW.aload_n (pc := 1) dX6_advance_1 rfl 0 rfl ?_
  refine AW.getI (pc := 2) dX6_advance_2 flX6_35 hthis (kct hthis rfl hct) ?_
  refine AW.putI (pc := 5) dX6_advance_5 flX6_32 hthis (kct hthis rfl hct) ?_
  refine AW.genM (fun M1 => ?_)
  exact kX6_advance_L8 l E n hn ct hct ex FU this M1 hthis
-- GateBox$Reader.isWord(Ljava/lang/String;)Z
def zX6_isWord_B28 (KK28 : Nat → Nat → Int32 → Mem → Option (Int32 × Mem)) (this : Nat) (x1 : Nat) (x2 : Int32) (M : Mem) : Option (Int32 × Mem) :=
  bnd (zS_length x1 M) fun v1 M2 =>
  if v1 ≤ x2 then
    some (1, M2)
  else
    if mR M2 this 0 ≠ 0 then
    bnd (zX11_at (mR M2 this 0) ((mI M2 this 5) + x2) M2) fun v5 M6 =>
    bnd (zS_charAt x1 x2 M6) fun v7 M8 =>
    if v5 = v7 then
      KK28 this x1 (x2 + 1) M8
    else
      some (0, M8)
    else none
def zX6_isWord_L28 : Nat → Nat → Nat → Int32 → Mem → Option (Int32 × Mem)
  | 0 => fun _ _ _ _ => none
  | k + 1 => zX6_isWord_B28 (zX6_isWord_L28 k)
def zX6_isWord (this : Nat) (x1 : Nat) (M : Mem) : Option (Int32 × Mem) :=
  if K0 this = (0, 6) then
  if (mI M this 7) = 1 then
    bnd (zS_length x1 M) fun v2 M3 =>
    if ((mI M this 6) - (mI M this 5)) = v2 then
      zX6_isWord_L28 FU this x1 0 M3
    else
      some (0, M3)
  else
    some (0, M)
  else none
set_option maxRecDepth 20000 in
set_option maxHeartbeats 4000000 in
theorem kX6_isWord_B28 (l : Launch) (E : Ev) (n : Nat) (hn : 6 ≤ n) (ct : Nat) (hct : 111 ≤ ct) (ex : Bool) (KK28 : Nat → Nat → Int32 → Mem → Option (Int32 × Mem)) (hKK28 : ∀ (this : Nat) (x1 : Nat) (x2 : Int32) (M : Mem) (_ : K0 this = (0, 6)), AW l E fX6_isWord (fun _ => rmN n 0 0) (PQr E 0 0 ct ex enI) ct ex 0 0 28 [(0, .ref (ad E this)), (1, .ref (ad E x1)), (2, .int x2)] [] M (KK28 this x1 x2 M)) (this : Nat) (x1 : Nat) (x2 : Int32) (M : Mem) (hthis : K0 this = (0, 6)) : AW l E fX6_isWord (fun _ => rmN n 0 0) (PQr E 0 0 ct ex enI) ct ex 0 0 28 [(0, .ref (ad E this)), (1, .ref (ad E x1)), (2, .int x2)] [] M (zX6_isWord_B28 KK28 this x1 x2 M) := by
  unfold zX6_isWord_B28
  refine AW.iload_n (pc := 28) dX6_isWord_28 rfl 2 rfl ?_
  refine AW.aload_n (pc := 29) dX6_isWord_29 rfl 1 rfl ?_
  refine AW.str_length (n := n - 1) (pc := 30) dX6_isWord_30 mlX6_201 (by omega) (fun _ => okR_N (by omega)) (Nat.le_of_ble_eq_true rfl) (fun v1 M2 => ?_)
  refine AW.icmp_ge (pc := 33) 65 dX6_isWord_33 (by decide) (fun h3 => ?_) (fun h3 => ?_)
  · refine AW.iconst (pc := 65) dX6_isWord_65 ci_1 ?_
    exact AW.zret (pc := 66) dX6_isWord_66 rfl (Or.inr rfl) (fun _ _ _ => rfl) (Nat.le_refl _) (Nat.le_refl _)
  · refine AW.aload_n (pc := 36) dX6_isWord_36 rfl 0 rfl ?_
    refine AW.chk (fun g4 => ?_)
    refine AW.getR (pc := 37) dX6_isWord_37 flX6_9 hthis (kct hthis rfl hct) g4 ?_
    refine AW.aload_n (pc := 40) dX6_isWord_40 rfl 0 rfl ?_
    refine AW.getI (pc := 41) dX6_isWord_41 flX6_32 hthis (kct hthis rfl hct) ?_
    refine AW.iload_n (pc := 44) dX6_isWord_44 rfl 2 rfl ?_
    refine AW.iadd (pc := 45) dX6_isWord_45 ?_
    refine AW.cN2i (pc := 46) dX6_isWord_46 nlX6_206 mbX11_at (fun _ => okR_N (by omega)) (kX11_at l E (n - 1) (by omega) ct hct ex (mR M2 this 0) ((mI M2 this 5) + x2) M2) (Nat.le_of_ble_eq_true rfl) (fun v5 M6 => ?_)
    refine AW.aload_n (pc := 49) dX6_isWord_49 rfl 1 rfl ?_
    refine AW.iload_n (pc := 50) dX6_isWord_50 rfl 2 rfl ?_
    refine AW.str_charAt (n := n - 1) (pc := 51) dX6_isWord_51 mlX6_210 (by omega) (fun _ => okR_N (by omega)) (Nat.le_of_ble_eq_true rfl) (fun v7 M8 => ?_)
    refine AW.icmp_eq (pc := 54) 59 dX6_isWord_54 (by decide) (fun h9 => ?_) (fun h9 => ?_)
    · refine AW.iinc (pc := 59) (w := 2) [1, 2, 0] [(0, .ref (ad E this)), (1, .ref (ad E x1)), (2, .int (x2 + 1))] dX6_isWord_59 rfl (inc_1 _) (by decide) rfl ?_
      refine AW.goto (pc := 62) 28 dX6_isWord_62 (by decide) ?_
      exact hKK28 this x1 (x2 + 1) M8 hthis
    · refine AW.iconst (pc := 57) dX6_isWord_57 ci_0 ?_
      exact AW.zret (pc := 58) dX6_isWord_58 rfl (Or.inl rfl) (fun _ _ _ => rfl) (Nat.le_refl _) (Nat.le_refl _)
set_option maxRecDepth 20000 in
set_option maxHeartbeats 4000000 in
theorem kX6_isWord_L28 (l : Launch) (E : Ev) (n : Nat) (hn : 6 ≤ n) (ct : Nat) (hct : 111 ≤ ct) (ex : Bool) (k : Nat) : ∀ (this : Nat) (x1 : Nat) (x2 : Int32) (M : Mem) (_ : K0 this = (0, 6)), AW l E fX6_isWord (fun _ => rmN n 0 0) (PQr E 0 0 ct ex enI) ct ex 0 0 28 [(0, .ref (ad E this)), (1, .ref (ad E x1)), (2, .int x2)] [] M (zX6_isWord_L28 k this x1 x2 M) := by
  induction k with
  | zero => intro this x1 x2 M _; exact AW.none
  | succ k ih =>
    intro this x1 x2 M hthis
    exact kX6_isWord_B28 l E n hn ct hct ex (zX6_isWord_L28 k) ih this x1 x2 M hthis
set_option maxRecDepth 20000 in
set_option maxHeartbeats 4000000 in
theorem kX6_isWord (l : Launch) (E : Ev) (n : Nat) (hn : 6 ≤ n) (ct : Nat) (hct : 111 ≤ ct) (ex : Bool) (this : Nat) (x1 : Nat) (M : Mem) : AM l E n ct ex yX6_isWord fX6_isWord enI [.ref (ad E this), .ref (ad E x1)] M (zX6_isWord this x1 M) := by
  unfold zX6_isWord
  refine AM.of (by decide +kernel) ⟨rfl, rfl, rfl⟩ (Nat.le_of_ble_eq_true rfl) ?_
  refine AW.chk (fun hthis => ?_)
  refine AW.aload_n (pc := 0) dX6_isWord_0 rfl 0 rfl ?_
  refine AW.getI (pc := 1) dX6_isWord_1 flX6_38 hthis (kct hthis rfl hct) ?_
  refine AW.iconst (pc := 4) dX6_isWord_4 ci_1 ?_
  refine AW.icmp_ne (pc := 5) 24 dX6_isWord_5 (by decide) (fun h1 => ?_) (fun h1 => ?_)
  · refine AW.aload_n (pc := 8) dX6_isWord_8 rfl 0 rfl ?_
    refine AW.getI (pc := 9) dX6_isWord_9 flX6_35 hthis (kct hthis rfl hct) ?_
    refine AW.aload_n (pc := 12) dX6_isWord_12 rfl 0 rfl ?_
    refine AW.getI (pc := 13) dX6_isWord_13 flX6_32 hthis (kct hthis rfl hct) ?_
    refine AW.isub (pc := 16) dX6_isWord_16 ?_
    refine AW.aload_n (pc := 17) dX6_isWord_17 rfl 1 rfl ?_
    refine AW.str_length (n := n - 1) (pc := 18) dX6_isWord_18 mlX6_201 (by omega) (fun _ => okR_N (by omega)) (Nat.le_of_ble_eq_true rfl) (fun v2 M3 => ?_)
    refine AW.icmp_eq (pc := 21) 26 dX6_isWord_21 (by decide) (fun h4 => ?_) (fun h4 => ?_)
    · refine AW.iconst (pc := 26) dX6_isWord_26 ci_0 ?_
      refine AW.istore_n (pc := 27) [1, 2, 0] [(0, .ref (ad E this)), (1, .ref (ad E x1)), (2, .int 0)] dX6_isWord_27 rfl (by decide) rfl ?_
      exact kX6_isWord_L28 l E n hn ct hct ex FU this x1 0 M3 hthis
    · refine AW.iconst (pc := 24) dX6_isWord_24 ci_0 ?_
      exact AW.zret (pc := 25) dX6_isWord_25 rfl (Or.inl rfl) (fun _ _ _ => rfl) (Nat.le_refl _) (Nat.le_refl _)
  · refine AW.iconst (pc := 24) dX6_isWord_24 ci_0 ?_
    exact AW.zret (pc := 25) dX6_isWord_25 rfl (Or.inl rfl) (fun _ _ _ => rfl) (Nat.le_refl _) (Nat.le_refl _)
-- GateBox$Reader.refuse(I)Z
def zX6_refuse (this : Nat) (x1 : Int32) (M : Mem) : Option (Int32 × Mem) :=
  if K0 this = (0, 6) then
  lt (sI M this 11 x1) fun M1 =>
  lt (sI M1 this 2 (mI M1 this 5)) fun M2 =>
  some (0, M2)
  else none
set_option maxRecDepth 20000 in
set_option maxHeartbeats 4000000 in
theorem kX6_refuse (l : Launch) (E : Ev) (n : Nat) (hn : 1 ≤ n) (ct : Nat) (hct : 111 ≤ ct) (ex : Bool) (this : Nat) (x1 : Int32) (M : Mem) : AM l E n ct ex yX6_refuse fX6_refuse enI [.ref (ad E this), .int x1] M (zX6_refuse this x1 M) := by
  unfold zX6_refuse
  refine AM.of (by decide +kernel) ⟨rfl, rfl, rfl⟩ (Nat.le_of_ble_eq_true rfl) ?_
  refine AW.chk (fun hthis => ?_)
  refine AW.aload_n (pc := 0) dX6_refuse_0 rfl 0 rfl ?_
  refine AW.iload_n (pc := 1) dX6_refuse_1 rfl 1 rfl ?_
  refine AW.putI (pc := 2) dX6_refuse_2 flX6_50 hthis (kct hthis rfl hct) ?_
  refine AW.genM (fun M1 => ?_)
  refine AW.aload_n (pc := 5) dX6_refuse_5 rfl 0 rfl ?_
  refine AW.aload_n (pc := 6) dX6_refuse_6 rfl 0 rfl ?_
  refine AW.getI (pc := 7) dX6_refuse_7 flX6_32 hthis (kct hthis rfl hct) ?_
  refine AW.putI (pc := 10) dX6_refuse_10 flX6_19 hthis (kct hthis rfl hct) ?_
  refine AW.genM (fun M2 => ?_)
  refine AW.iconst (pc := 13) dX6_refuse_13 ci_0 ?_
  exact AW.zret (pc := 14) dX6_refuse_14 rfl (Or.inl rfl) (fun _ _ _ => rfl) (Nat.le_refl _) (Nat.le_refl _)
-- GateBox$Reader.numberFrom(II)Z
def zX6_numberFrom_B30 (this : Nat) (M : Mem) : Option (Int32 × Mem) :=
  bnd (zX6_refuse this 2 M) fun v1 M2 =>
  if v1 = 0 ∨ v1 = 1 then
  some (v1, M2)
  else none
def zX6_numberFrom (this : Nat) (x1 : Int32) (x2 : Int32) (M : Mem) : Option (Int32 × Mem) :=
  if K0 this = (0, 6) then
  if (mI M this 7) = 2 then
    if (mI M this 8) < x1 then
      zX6_numberFrom_B30 this M
    else
      if (mI M this 8) ≤ x2 then
        lt (sI M this 9 (mI M this 8)) fun M4 =>
        bnd (zX6_advance this M4) fun _ M5 =>
        some (1, M5)
      else
        zX6_numberFrom_B30 this M
  else
    bnd (zX6_refuse this 1 M) fun v6 M7 =>
    if v6 = 0 ∨ v6 = 1 then
    some (v6, M7)
    else none
  else none
set_option maxRecDepth 20000 in
set_option maxHeartbeats 4000000 in
theorem kX6_numberFrom_B30 (l : Launch) (E : Ev) (n : Nat) (hn : 4 ≤ n) (ct : Nat) (hct : 111 ≤ ct) (ex : Bool) (this : Nat) (M : Mem) (hthis : K0 this = (0, 6)) : AW l E fX6_numberFrom (fun _ => rmN n 0 0) (PQr E 0 0 ct ex enI) ct ex 0 0 30 [(0, .ref (ad E this))] [] M (zX6_numberFrom_B30 this M) := by
  unfold zX6_numberFrom_B30
  refine AW.aload_n (pc := 30) dX6_numberFrom_30 rfl 0 rfl ?_
  refine AW.iconst (pc := 31) dX6_numberFrom_31 ci_2 ?_
  refine AW.cV1i (pc := 32) dX6_numberFrom_32 mlX6_114 mbX6_refuse rfl hthis (kct hthis rfl hct) (fun _ => okR_N (by omega)) (kX6_refuse l E (n - 1) (by omega) ct hct ex this 2 M) (Nat.le_of_ble_eq_true rfl) (fun v1 M2 => ?_)
  refine AW.chk (fun g3 => ?_)
  exact AW.zret (pc := 35) dX6_numberFrom_35 rfl g3 (fun _ _ _ => rfl) (Nat.le_refl _) (Nat.le_refl _)
set_option maxRecDepth 20000 in
set_option maxHeartbeats 4000000 in
theorem kX6_numberFrom (l : Launch) (E : Ev) (n : Nat) (hn : 4 ≤ n) (ct : Nat) (hct : 111 ≤ ct) (ex : Bool) (this : Nat) (x1 : Int32) (x2 : Int32) (M : Mem) : AM l E n ct ex yX6_numberFrom fX6_numberFrom enI [.ref (ad E this), .int x1, .int x2] M (zX6_numberFrom this x1 x2 M) := by
  unfold zX6_numberFrom
  refine AM.of (by decide +kernel) ⟨rfl, rfl, rfl⟩ (Nat.le_of_ble_eq_true rfl) ?_
  refine AW.chk (fun hthis => ?_)
  refine AW.aload_n (pc := 0) dX6_numberFrom_0 rfl 0 rfl ?_
  refine AW.getI (pc := 1) dX6_numberFrom_1 flX6_38 hthis (kct hthis rfl hct) ?_
  refine AW.iconst (pc := 4) dX6_numberFrom_4 ci_2 ?_
  refine AW.icmp_eq (pc := 5) 14 dX6_numberFrom_5 (by decide) (fun h1 => ?_) (fun h1 => ?_)
  · refine AW.aload_n (pc := 14) dX6_numberFrom_14 rfl 0 rfl ?_
    refine AW.getI (pc := 15) dX6_numberFrom_15 flX6_41 hthis (kct hthis rfl hct) ?_
    refine AW.iload_n (pc := 18) dX6_numberFrom_18 rfl 1 rfl ?_
    refine AW.icmp_lt (pc := 19) 30 dX6_numberFrom_19 (by decide) (fun h2 => ?_) (fun h2 => ?_)
    · exact AW.sub [0] rfl (kX6_numberFrom_B30 l E n hn ct hct ex this M hthis)
    · refine AW.aload_n (pc := 22) dX6_numberFrom_22 rfl 0 rfl ?_
      refine AW.getI (pc := 23) dX6_numberFrom_23 flX6_41 hthis (kct hthis rfl hct) ?_
      refine AW.iload_n (pc := 26) dX6_numberFrom_26 rfl 2 rfl ?_
      refine AW.icmp_le (pc := 27) 36 dX6_numberFrom_27 (by decide) (fun h3 => ?_) (fun h3 => ?_)
      · refine AW.aload_n (pc := 36) dX6_numberFrom_36 rfl 0 rfl ?_
        refine AW.aload_n (pc := 37) dX6_numberFrom_37 rfl 0 rfl ?_
        refine AW.getI (pc := 38) dX6_numberFrom_38 flX6_41 hthis (kct hthis rfl hct) ?_
        refine AW.putI (pc := 41) dX6_numberFrom_41 flX6_44 hthis (kct hthis rfl hct) ?_
        refine AW.genM (fun M4 => ?_)
        refine AW.aload_n (pc := 44) dX6_numberFrom_44 rfl 0 rfl ?_
        refine AW.cV0v (pc := 45) dX6_numberFrom_45 mlX6_60 mbX6_advance rfl hthis (kct hthis rfl hct) (fun _ => okR_N (by omega)) (kX6_advance l E (n - 1) (by omega) ct hct ex this M4) (Nat.le_of_ble_eq_true rfl) (fun _ M5 => ?_)
        refine AW.iconst (pc := 48) dX6_numberFrom_48 ci_1 ?_
        exact AW.zret (pc := 49) dX6_numberFrom_49 rfl (Or.inr rfl) (fun _ _ _ => rfl) (Nat.le_refl _) (Nat.le_refl _)
      · exact AW.sub [0] rfl (kX6_numberFrom_B30 l E n hn ct hct ex this M hthis)
  · refine AW.aload_n (pc := 8) dX6_numberFrom_8 rfl 0 rfl ?_
    refine AW.iconst (pc := 9) dX6_numberFrom_9 ci_1 ?_
    refine AW.cV1i (pc := 10) dX6_numberFrom_10 mlX6_114 mbX6_refuse rfl hthis (kct hthis rfl hct) (fun _ => okR_N (by omega)) (kX6_refuse l E (n - 1) (by omega) ct hct ex this 1 M) (Nat.le_of_ble_eq_true rfl) (fun v6 M7 => ?_)
    refine AW.chk (fun g8 => ?_)
    exact AW.zret (pc := 13) dX6_numberFrom_13 rfl g8 (fun _ _ _ => rfl) (Nat.le_refl _) (Nat.le_refl _)
-- GateBox$Reader.word(Ljava/lang/String;)Z
def zX6_word (this : Nat) (x1 : Nat) (M : Mem) : Option (Int32 × Mem) :=
  if K0 this = (0, 6) then
  bnd (zX6_isWord this x1 M) fun v1 M2 =>
  if v1 = 0 then
    bnd (zX6_refuse this 1 M2) fun v4 M5 =>
    if v4 = 0 ∨ v4 = 1 then
    some (v4, M5)
    else none
  else
    bnd (zX6_advance this M2) fun _ M7 =>
    some (1, M7)
  else none
set_option maxRecDepth 20000 in
set_option maxHeartbeats 4000000 in
theorem kX6_word (l : Launch) (E : Ev) (n : Nat) (hn : 7 ≤ n) (ct : Nat) (hct : 111 ≤ ct) (ex : Bool) (this : Nat) (x1 : Nat) (M : Mem) : AM l E n ct ex yX6_word fX6_word enI [.ref (ad E this), .ref (ad E x1)] M (zX6_word this x1 M) := by
  unfold zX6_word
  refine AM.of (by decide +kernel) ⟨rfl, rfl, rfl⟩ (Nat.le_of_ble_eq_true rfl) ?_
  refine AW.chk (fun hthis => ?_)
  refine AW.aload_n (pc := 0) dX6_word_0 rfl 0 rfl ?_
  refine AW.aload_n (pc := 1) dX6_word_1 rfl 1 rfl ?_
  refine AW.cV1i (pc := 2) dX6_word_2 mlX6_69 mbX6_isWord rfl hthis (kct hthis rfl hct) (fun _ => okR_N (by omega)) (kX6_isWord l E (n - 1) (by omega) ct hct ex this x1 M) (Nat.le_of_ble_eq_true rfl) (fun v1 M2 => ?_)
  refine AW.if_ne (pc := 5) 14 dX6_word_5 (by decide) (fun h3 => ?_) (fun h3 => ?_)
  · refine AW.aload_n (pc := 8) dX6_word_8 rfl 0 rfl ?_
    refine AW.iconst (pc := 9) dX6_word_9 ci_1 ?_
    refine AW.cV1i (pc := 10) dX6_word_10 mlX6_114 mbX6_refuse rfl hthis (kct hthis rfl hct) (fun _ => okR_N (by omega)) (kX6_refuse l E (n - 1) (by omega) ct hct ex this 1 M2) (Nat.le_of_ble_eq_true rfl) (fun v4 M5 => ?_)
    refine AW.chk (fun g6 => ?_)
    exact AW.zret (pc := 13) dX6_word_13 rfl g6 (fun _ _ _ => rfl) (Nat.le_refl _) (Nat.le_refl _)
  · refine AW.aload_n (pc := 14) dX6_word_14 rfl 0 rfl ?_
    refine AW.cV0v (pc := 15) dX6_word_15 mlX6_60 mbX6_advance rfl hthis (kct hthis rfl hct) (fun _ => okR_N (by omega)) (kX6_advance l E (n - 1) (by omega) ct hct ex this M2) (Nat.le_of_ble_eq_true rfl) (fun _ M7 => ?_)
    refine AW.iconst (pc := 18) dX6_word_18 ci_1 ?_
    exact AW.zret (pc := 19) dX6_word_19 rfl (Or.inr rfl) (fun _ _ _ => rfl) (Nat.le_refl _) (Nat.le_refl _)
-- GateBox$Reader.sign(I)Z
def zX6_sign (this : Nat) (x1 : Int32) (M : Mem) : Option (Int32 × Mem) :=
  if K0 this = (0, 6) then
  if (mI M this 7) = x1 then
    bnd (zX6_advance this M) fun _ M2 =>
    some (1, M2)
  else
    bnd (zX6_refuse this 1 M) fun v3 M4 =>
    if v3 = 0 ∨ v3 = 1 then
    some (v3, M4)
    else none
  else none
set_option maxRecDepth 20000 in
set_option maxHeartbeats 4000000 in
theorem kX6_sign (l : Launch) (E : Ev) (n : Nat) (hn : 4 ≤ n) (ct : Nat) (hct : 111 ≤ ct) (ex : Bool) (this : Nat) (x1 : Int32) (M : Mem) : AM l E n ct ex yX6_sign fX6_sign enI [.ref (ad E this), .int x1] M (zX6_sign this x1 M) := by
  unfold zX6_sign
  refine AM.of (by decide +kernel) ⟨rfl, rfl, rfl⟩ (Nat.le_of_ble_eq_true rfl) ?_
  refine AW.chk (fun hthis => ?_)
  refine AW.aload_n (pc := 0) dX6_sign_0 rfl 0 rfl ?_
  refine AW.getI (pc := 1) dX6_sign_1 flX6_38 hthis (kct hthis rfl hct) ?_
  refine AW.iload_n (pc := 4) dX6_sign_4 rfl 1 rfl ?_
  refine AW.icmp_eq (pc := 5) 14 dX6_sign_5 (by decide) (fun h1 => ?_) (fun h1 => ?_)
  · refine AW.aload_n (pc := 14) dX6_sign_14 rfl 0 rfl ?_
    refine AW.cV0v (pc := 15) dX6_sign_15 mlX6_60 mbX6_advance rfl hthis (kct hthis rfl hct) (fun _ => okR_N (by omega)) (kX6_advance l E (n - 1) (by omega) ct hct ex this M) (Nat.le_of_ble_eq_true rfl) (fun _ M2 => ?_)
    refine AW.iconst (pc := 18) dX6_sign_18 ci_1 ?_
    exact AW.zret (pc := 19) dX6_sign_19 rfl (Or.inr rfl) (fun _ _ _ => rfl) (Nat.le_refl _) (Nat.le_refl _)
  · refine AW.aload_n (pc := 8) dX6_sign_8 rfl 0 rfl ?_
    refine AW.iconst (pc := 9) dX6_sign_9 ci_1 ?_
    refine AW.cV1i (pc := 10) dX6_sign_10 mlX6_114 mbX6_refuse rfl hthis (kct hthis rfl hct) (fun _ => okR_N (by omega)) (kX6_refuse l E (n - 1) (by omega) ct hct ex this 1 M) (Nat.le_of_ble_eq_true rfl) (fun v3 M4 => ?_)
    refine AW.chk (fun g5 => ?_)
    exact AW.zret (pc := 13) dX6_sign_13 rfl g5 (fun _ _ _ => rfl) (Nat.le_refl _) (Nat.le_refl _)
-- GateBox$Reader.valueAsked()I
def zX6_valueAsked (this : Nat) (M : Mem) : Option (Int32 × Mem) :=
  if K0 this = (0, 6) then
  bnd (zX6_isWord this 1003 M) fun v1 M2 =>
  if v1 = 0 then
    bnd (zX6_isWord this 1004 M2) fun v4 M5 =>
    if v4 = 0 then
      bnd (zX6_isWord this 1007 M5) fun v7 M8 =>
      if v7 = 0 then
        bnd (zX6_isWord this 1008 M8) fun v10 M11 =>
        if v10 = 0 then
          bnd (zX6_isWord this 1009 M11) fun v13 M14 =>
          if v13 = 0 then
            bnd (zX6_isWord this 1010 M14) fun v16 M17 =>
            if v16 = 0 then
              bnd (zX6_isWord this 1011 M17) fun v19 M20 =>
              if v19 = 0 then
                bnd (zX6_isWord this 1012 M20) fun v22 M23 =>
                if v22 = 0 then
                  bnd (zX6_isWord this 1013 M23) fun v25 M26 =>
                  if v25 = 0 then
                    some ((-1), M26)
                  else
                    some (8, M26)
                else
                  some (7, M23)
              else
                some (6, M20)
            else
              some (5, M17)
          else
            some (4, M14)
        else
          some (3, M11)
      else
        some (2, M8)
    else
      some (1, M5)
  else
    some (0, M2)
  else none
set_option maxRecDepth 20000 in
set_option maxHeartbeats 4000000 in
theorem kX6_valueAsked (l : Launch) (E : Ev) (n : Nat) (hn : 7 ≤ n) (ct : Nat) (hct : 111 ≤ ct) (ex : Bool) (this : Nat) (M : Mem) : AM l E n ct ex yX6_valueAsked fX6_valueAsked enI [.ref (ad E this)] M (zX6_valueAsked this M) := by
  unfold zX6_valueAsked
  refine AM.of (by decide +kernel) ⟨rfl, rfl, rfl⟩ (Nat.le_of_ble_eq_true rfl) ?_
  refine AW.chk (fun hthis => ?_)
  refine AW.aload_n (pc := 0) dX6_valueAsked_0 rfl 0 rfl ?_
  refine AW.ldcS (pc := 1) (i := 3) dX6_valueAsked_1 rfl ?_
  refine AW.cV1i (pc := 3) dX6_valueAsked_3 mlX6_69 mbX6_isWord rfl hthis (kct hthis rfl hct) (fun _ => okR_N (by omega)) (kX6_isWord l E (n - 1) (by omega) ct hct ex this 1003 M) (Nat.le_of_ble_eq_true rfl) (fun v1 M2 => ?_)
  refine AW.if_eq (pc := 6) 13 dX6_valueAsked_6 (by decide) (fun h3 => ?_) (fun h3 => ?_)
  · refine AW.aload_n (pc := 13) dX6_valueAsked_13 rfl 0 rfl ?_
    refine AW.ldcS (pc := 14) (i := 4) dX6_valueAsked_14 rfl ?_
    refine AW.cV1i (pc := 16) dX6_valueAsked_16 mlX6_69 mbX6_isWord rfl hthis (kct hthis rfl hct) (fun _ => okR_N (by omega)) (kX6_isWord l E (n - 1) (by omega) ct hct ex this 1004 M2) (Nat.le_of_ble_eq_true rfl) (fun v4 M5 => ?_)
    refine AW.if_eq (pc := 19) 26 dX6_valueAsked_19 (by decide) (fun h6 => ?_) (fun h6 => ?_)
    · refine AW.aload_n (pc := 26) dX6_valueAsked_26 rfl 0 rfl ?_
      refine AW.ldcS (pc := 27) (i := 7) dX6_valueAsked_27 rfl ?_
      refine AW.cV1i (pc := 29) dX6_valueAsked_29 mlX6_69 mbX6_isWord rfl hthis (kct hthis rfl hct) (fun _ => okR_N (by omega)) (kX6_isWord l E (n - 1) (by omega) ct hct ex this 1007 M5) (Nat.le_of_ble_eq_true rfl) (fun v7 M8 => ?_)
      refine AW.if_eq (pc := 32) 39 dX6_valueAsked_32 (by decide) (fun h9 => ?_) (fun h9 => ?_)
      · refine AW.aload_n (pc := 39) dX6_valueAsked_39 rfl 0 rfl ?_
        refine AW.ldcS (pc := 40) (i := 8) dX6_valueAsked_40 rfl ?_
        refine AW.cV1i (pc := 42) dX6_valueAsked_42 mlX6_69 mbX6_isWord rfl hthis (kct hthis rfl hct) (fun _ => okR_N (by omega)) (kX6_isWord l E (n - 1) (by omega) ct hct ex this 1008 M8) (Nat.le_of_ble_eq_true rfl) (fun v10 M11 => ?_)
        refine AW.if_eq (pc := 45) 52 dX6_valueAsked_45 (by decide) (fun h12 => ?_) (fun h12 => ?_)
        · refine AW.aload_n (pc := 52) dX6_valueAsked_52 rfl 0 rfl ?_
          refine AW.ldcS (pc := 53) (i := 9) dX6_valueAsked_53 rfl ?_
          refine AW.cV1i (pc := 55) dX6_valueAsked_55 mlX6_69 mbX6_isWord rfl hthis (kct hthis rfl hct) (fun _ => okR_N (by omega)) (kX6_isWord l E (n - 1) (by omega) ct hct ex this 1009 M11) (Nat.le_of_ble_eq_true rfl) (fun v13 M14 => ?_)
          refine AW.if_eq (pc := 58) 65 dX6_valueAsked_58 (by decide) (fun h15 => ?_) (fun h15 => ?_)
          · refine AW.aload_n (pc := 65) dX6_valueAsked_65 rfl 0 rfl ?_
            refine AW.ldcS (pc := 66) (i := 10) dX6_valueAsked_66 rfl ?_
            refine AW.cV1i (pc := 68) dX6_valueAsked_68 mlX6_69 mbX6_isWord rfl hthis (kct hthis rfl hct) (fun _ => okR_N (by omega)) (kX6_isWord l E (n - 1) (by omega) ct hct ex this 1010 M14) (Nat.le_of_ble_eq_true rfl) (fun v16 M17 => ?_)
            refine AW.if_eq (pc := 71) 78 dX6_valueAsked_71 (by decide) (fun h18 => ?_) (fun h18 => ?_)
            · refine AW.aload_n (pc := 78) dX6_valueAsked_78 rfl 0 rfl ?_
              refine AW.ldcS (pc := 79) (i := 11) dX6_valueAsked_79 rfl ?_
              refine AW.cV1i (pc := 81) dX6_valueAsked_81 mlX6_69 mbX6_isWord rfl hthis (kct hthis rfl hct) (fun _ => okR_N (by omega)) (kX6_isWord l E (n - 1) (by omega) ct hct ex this 1011 M17) (Nat.le_of_ble_eq_true rfl) (fun v19 M20 => ?_)
              refine AW.if_eq (pc := 84) 92 dX6_valueAsked_84 (by decide) (fun h21 => ?_) (fun h21 => ?_)
              · refine AW.aload_n (pc := 92) dX6_valueAsked_92 rfl 0 rfl ?_
                refine AW.ldcS (pc := 93) (i := 12) dX6_valueAsked_93 rfl ?_
                refine AW.cV1i (pc := 95) dX6_valueAsked_95 mlX6_69 mbX6_isWord rfl hthis (kct hthis rfl hct) (fun _ => okR_N (by omega)) (kX6_isWord l E (n - 1) (by omega) ct hct ex this 1012 M20) (Nat.le_of_ble_eq_true rfl) (fun v22 M23 => ?_)
                refine AW.if_eq (pc := 98) 106 dX6_valueAsked_98 (by decide) (fun h24 => ?_) (fun h24 => ?_)
                · refine AW.aload_n (pc := 106) dX6_valueAsked_106 rfl 0 rfl ?_
                  refine AW.ldcS (pc := 107) (i := 13) dX6_valueAsked_107 rfl ?_
                  refine AW.cV1i (pc := 109) dX6_valueAsked_109 mlX6_69 mbX6_isWord rfl hthis (kct hthis rfl hct) (fun _ => okR_N (by omega)) (kX6_isWord l E (n - 1) (by omega) ct hct ex this 1013 M23) (Nat.le_of_ble_eq_true rfl) (fun v25 M26 => ?_)
                  refine AW.if_eq (pc := 112) 120 dX6_valueAsked_112 (by decide) (fun h27 => ?_) (fun h27 => ?_)
                  · refine AW.iconst (pc := 120) dX6_valueAsked_120 ci_m1 ?_
                    exact AW.iret (pc := 121) dX6_valueAsked_121 rfl (fun _ _ _ => rfl) (Nat.le_refl _) (Nat.le_refl _)
                  · refine AW.bipush (pc := 115) dX6_valueAsked_115 cb_8 ?_
                    refine AW.goto (pc := 117) 121 dX6_valueAsked_117 (by decide) ?_
                    exact AW.iret (pc := 121) dX6_valueAsked_121 rfl (fun _ _ _ => rfl) (Nat.le_refl _) (Nat.le_refl _)
                · refine AW.bipush (pc := 101) dX6_valueAsked_101 cb_7 ?_
                  refine AW.goto (pc := 103) 121 dX6_valueAsked_103 (by decide) ?_
                  exact AW.iret (pc := 121) dX6_valueAsked_121 rfl (fun _ _ _ => rfl) (Nat.le_refl _) (Nat.le_refl _)
              · refine AW.bipush (pc := 87) dX6_valueAsked_87 cb_6 ?_
                refine AW.goto (pc := 89) 121 dX6_valueAsked_89 (by decide) ?_
                exact AW.iret (pc := 121) dX6_valueAsked_121 rfl (fun _ _ _ => rfl) (Nat.le_refl _) (Nat.le_refl _)
            · refine AW.iconst (pc := 74) dX6_valueAsked_74 ci_5 ?_
              refine AW.goto (pc := 75) 121 dX6_valueAsked_75 (by decide) ?_
              exact AW.iret (pc := 121) dX6_valueAsked_121 rfl (fun _ _ _ => rfl) (Nat.le_refl _) (Nat.le_refl _)
          · refine AW.iconst (pc := 61) dX6_valueAsked_61 ci_4 ?_
            refine AW.goto (pc := 62) 121 dX6_valueAsked_62 (by decide) ?_
            exact AW.iret (pc := 121) dX6_valueAsked_121 rfl (fun _ _ _ => rfl) (Nat.le_refl _) (Nat.le_refl _)
        · refine AW.iconst (pc := 48) dX6_valueAsked_48 ci_3 ?_
          refine AW.goto (pc := 49) 121 dX6_valueAsked_49 (by decide) ?_
          exact AW.iret (pc := 121) dX6_valueAsked_121 rfl (fun _ _ _ => rfl) (Nat.le_refl _) (Nat.le_refl _)
      · refine AW.iconst (pc := 35) dX6_valueAsked_35 ci_2 ?_
        refine AW.goto (pc := 36) 121 dX6_valueAsked_36 (by decide) ?_
        exact AW.iret (pc := 121) dX6_valueAsked_121 rfl (fun _ _ _ => rfl) (Nat.le_refl _) (Nat.le_refl _)
    · refine AW.iconst (pc := 22) dX6_valueAsked_22 ci_1 ?_
      refine AW.goto (pc := 23) 121 dX6_valueAsked_23 (by decide) ?_
      exact AW.iret (pc := 121) dX6_valueAsked_121 rfl (fun _ _ _ => rfl) (Nat.le_refl _) (Nat.le_refl _)
  · refine AW.iconst (pc := 9) dX6_valueAsked_9 ci_0 ?_
    refine AW.goto (pc := 10) 121 dX6_valueAsked_10 (by decide) ?_
    exact AW.iret (pc := 121) dX6_valueAsked_121 rfl (fun _ _ _ => rfl) (Nat.le_refl _) (Nat.le_refl _)
-- GateBox$Rules.add(I)V
def zX8_add (this : Nat) (x1 : Int32) (M : Mem) : Option (Unit × Mem) :=
  if K0 this = (0, 8) then
  if mR M this 11 ≠ 0 then
  bnd (zX11_put (mR M this 11) (mI M this 6) x1 M) fun _ M2 =>
  lt (sI M2 this 6 ((mI M2 this 6) + 1)) fun M3 =>
  some ((), M3)
  else none
  else none
set_option maxRecDepth 20000 in
set_option maxHeartbeats 4000000 in
theorem kX8_add (l : Launch) (E : Ev) (n : Nat) (hn : 2 ≤ n) (ct : Nat) (hct : 111 ≤ ct) (ex : Bool) (this : Nat) (x1 : Int32) (M : Mem) : AM l E n ct ex yX8_add fX8_add enU [.ref (ad E this), .int x1] M (zX8_add this x1 M) := by
  unfold zX8_add
  refine AM.of (by decide +kernel) ⟨rfl, rfl, rfl⟩ (Nat.le_of_ble_eq_true rfl) ?_
  refine AW.chk (fun hthis => ?_)
  refine AW.aload_n (pc := 0) dX8_add_0 rfl 0 rfl ?_
  refine AW.chk (fun g1 => ?_)
  refine AW.getR (pc := 1) dX8_add_1 flX8_46 hthis (kct hthis rfl hct) g1 ?_
  refine AW.aload_n (pc := 4) dX8_add_4 rfl 0 rfl ?_
  refine AW.getI (pc := 5) dX8_add_5 flX8_30 hthis (kct hthis rfl hct) ?_
  refine AW.iload_n (pc := 8) dX8_add_8 rfl 1 rfl ?_
  refine AW.cN3v (pc := 9) dX8_add_9 nlX8_71 mbX11_put (fun _ => okR_N (by omega)) (kX11_put l E (n - 1) (by omega) ct hct ex (mR M this 11) (mI M this 6) x1 M) (Nat.le_of_ble_eq_true rfl) (fun _ M2 => ?_)
  refine AW.aload_n (pc := 12) dX8_add_12 rfl 0 rfl ?_
  refine AW.dup (pc := 13) dX8_add_13 rfl ?_
  refine AW.getI (pc := 14) dX8_add_14 flX8_30 hthis (kct hthis rfl hct) ?_
  refine AW.iconst (pc := 17) dX8_add_17 ci_1 ?_
  refine AW.iadd (pc := 18) dX8_add_18 ?_
  refine AW.putI (pc := 19) dX8_add_19 flX8_30 hthis (kct hthis rfl hct) ?_
  refine AW.genM (fun M3 => ?_)
  exact AW.vret (pc := 22) dX8_add_22 rfl (fun _ _ _ => rfl) (Nat.le_refl _) (Nat.le_refl _)
-- GateBox$Rules.addValue(I)V
def zX8_addValue (this : Nat) (x1 : Int32) (M : Mem) : Option (Unit × Mem) :=
  if K0 this = (0, 8) then
  lt (sI M this 5 ((mI M this 5) ||| (1 <<< (x1 &&& 31)))) fun M1 =>
  bnd (zX8_add this (1000 + x1) M1) fun _ M2 =>
  some ((), M2)
  else none
set_option maxRecDepth 20000 in
set_option maxHeartbeats 4000000 in
theorem kX8_addValue (l : Launch) (E : Ev) (n : Nat) (hn : 3 ≤ n) (ct : Nat) (hct : 111 ≤ ct) (ex : Bool) (this : Nat) (x1 : Int32) (M : Mem) : AM l E n ct ex yX8_addValue fX8_addValue enU [.ref (ad E this), .int x1] M (zX8_addValue this x1 M) := by
  unfold zX8_addValue
  refine AM.of (by decide +kernel) ⟨rfl, rfl, rfl⟩ (Nat.le_of_ble_eq_true rfl) ?_
  refine AW.chk (fun hthis => ?_)
  refine AW.aload_n (pc := 0) dX8_addValue_0 rfl 0 rfl ?_
  refine AW.dup (pc := 1) dX8_addValue_1 rfl ?_
  refine AW.getI (pc := 2) dX8_addValue_2 flX8_27 hthis (kct hthis rfl hct) ?_
  refine AW.iconst (pc := 5) dX8_addValue_5 ci_1 ?_
  refine AW.iload_n (pc := 6) dX8_addValue_6 rfl 1 rfl ?_
  refine AW.ishl (pc := 7) dX8_addValue_7 ?_
  refine AW.ior (pc := 8) dX8_addValue_8 ?_
  refine AW.putI (pc := 9) dX8_addValue_9 flX8_27 hthis (kct hthis rfl hct) ?_
  refine AW.genM (fun M1 => ?_)
  refine AW.aload_n (pc := 12) dX8_addValue_12 rfl 0 rfl ?_
  refine AW.sipush (pc := 13) dX8_addValue_13 cs_1000 ?_
  refine AW.iload_n (pc := 16) dX8_addValue_16 rfl 1 rfl ?_
  refine AW.iadd (pc := 17) dX8_addValue_17 ?_
  refine AW.cV1v (pc := 18) dX8_addValue_18 mlX8_75 mbX8_add rfl hthis (kct hthis rfl hct) (fun _ => okR_N (by omega)) (kX8_add l E (n - 1) (by omega) ct hct ex this (1000 + x1) M1) (Nat.le_of_ble_eq_true rfl) (fun _ M2 => ?_)
  exact AW.vret (pc := 21) dX8_addValue_21 rfl (fun _ _ _ => rfl) (Nat.le_refl _) (Nat.le_refl _)
-- GateBox$Reader.part(I)Z
def zX6_part (rec : Nat → Int32 → Mem → Option (Int32 × Mem)) (this : Nat) (x1 : Int32) (M : Mem) : Option (Int32 × Mem) :=
  if K0 this = (0, 6) then
  if (mI M this 7) = 40 then
    bnd (zX6_advance this M) fun _ M2 =>
    bnd (rec this (x1 + 1) M2) fun v3 M4 =>
    if v3 = 0 then
      some (0, M4)
    else
      bnd (zX6_sign this 41 M4) fun v6 M7 =>
      if v6 = 0 then
        some (0, M7)
      else
        some (1, M7)
  else
    if (mI M this 7) = 1 then
      bnd (zX6_valueAsked this M) fun v10 M11 =>
      if v10 = (-1) then
        bnd (zX6_refuse this 3 M11) fun v13 M14 =>
        if v13 = 0 ∨ v13 = 1 then
        some (v13, M14)
        else none
      else
        if mR M11 this 3 ≠ 0 then
        if K0 (mR M11 this 3) = (0, 8) then
        bnd (zX8_addValue (mR M11 this 3) v10 M11) fun _ M17 =>
        bnd (zX6_advance this M17) fun _ M19 =>
        some (1, M19)
        else none
        else none
    else
      bnd (zX6_numberFrom this 0 999 M) fun v20 M21 =>
      if mR M21 this 3 ≠ 0 then
      if K0 (mR M21 this 3) = (0, 8) then
      bnd (zX8_add (mR M21 this 3) (mI M21 this 9) M21) fun _ M23 =>
      if v20 = 0 ∨ v20 = 1 then
      some (v20, M23)
      else none
      else none
      else none
  else none
set_option maxRecDepth 20000 in
set_option maxHeartbeats 4000000 in
theorem kX6_part (l : Launch) (E : Ev) (n : Nat) (nr : Nat) (rec : Nat → Int32 → Mem → Option (Int32 × Mem)) (hnr : 10 ≤ nr) (hrec : ∀ n, nr ≤ n → ∀ ct, 111 ≤ ct → ∀ ex (this : Nat) (y0 : Int32) M, AM l E n ct ex yX6_either fX6_either enI [.ref (ad E this), .int y0] M (rec this y0 M)) (hn : nr + 1 ≤ n) (ct : Nat) (hct : 111 ≤ ct) (ex : Bool) (this : Nat) (x1 : Int32) (M : Mem) : AM l E n ct ex yX6_part fX6_part enI [.ref (ad E this), .int x1] M (zX6_part rec this x1 M) := by
  unfold zX6_part
  refine AM.of (by decide +kernel) ⟨rfl, rfl, rfl⟩ (Nat.le_of_ble_eq_true rfl) ?_
  refine AW.chk (fun hthis => ?_)
  refine AW.aload_n (pc := 0) dX6_part_0 rfl 0 rfl ?_
  refine AW.getI (pc := 1) dX6_part_1 flX6_38 hthis (kct hthis rfl hct) ?_
  refine AW.bipush (pc := 4) dX6_part_4 cb_40 ?_
  refine AW.icmp_ne (pc := 6) 38 dX6_part_6 (by decide) (fun h1 => ?_) (fun h1 => ?_)
  · refine AW.aload_n (pc := 9) dX6_part_9 rfl 0 rfl ?_
    refine AW.cV0v (pc := 10) dX6_part_10 mlX6_60 mbX6_advance rfl hthis (kct hthis rfl hct) (fun _ => okR_N (by omega)) (kX6_advance l E (n - 1) (by omega) ct hct ex this M) (Nat.le_of_ble_eq_true rfl) (fun _ M2 => ?_)
    refine AW.aload_n (pc := 13) dX6_part_13 rfl 0 rfl ?_
    refine AW.iload_n (pc := 14) dX6_part_14 rfl 1 rfl ?_
    refine AW.iconst (pc := 15) dX6_part_15 ci_1 ?_
    refine AW.iadd (pc := 16) dX6_part_16 ?_
    refine AW.cV1i (pc := 17) dX6_part_17 mlX6_143 mbX6_either rfl hthis (kct hthis rfl hct) (fun _ => okR_N (by omega)) (hrec (n - 1) (by omega) ct hct ex this (x1 + 1) M2) (Nat.le_of_ble_eq_true rfl) (fun v3 M4 => ?_)
    refine AW.if_eq (pc := 20) 36 dX6_part_20 (by decide) (fun h5 => ?_) (fun h5 => ?_)
    · refine AW.iconst (pc := 36) dX6_part_36 ci_0 ?_
      exact AW.zret (pc := 37) dX6_part_37 rfl (Or.inl rfl) (fun _ _ _ => rfl) (Nat.le_refl _) (Nat.le_refl _)
    · refine AW.aload_n (pc := 23) dX6_part_23 rfl 0 rfl ?_
      refine AW.bipush (pc := 24) dX6_part_24 cb_41 ?_
      refine AW.cV1i (pc := 26) dX6_part_26 mlX6_117 mbX6_sign rfl hthis (kct hthis rfl hct) (fun _ => okR_N (by omega)) (kX6_sign l E (n - 1) (by omega) ct hct ex this 41 M4) (Nat.le_of_ble_eq_true rfl) (fun v6 M7 => ?_)
      refine AW.if_eq (pc := 29) 36 dX6_part_29 (by decide) (fun h8 => ?_) (fun h8 => ?_)
      · refine AW.iconst (pc := 36) dX6_part_36 ci_0 ?_
        exact AW.zret (pc := 37) dX6_part_37 rfl (Or.inl rfl) (fun _ _ _ => rfl) (Nat.le_refl _) (Nat.le_refl _)
      · refine AW.iconst (pc := 32) dX6_part_32 ci_1 ?_
        refine AW.goto (pc := 33) 37 dX6_part_33 (by decide) ?_
        exact AW.zret (pc := 37) dX6_part_37 rfl (Or.inr rfl) (fun _ _ _ => rfl) (Nat.le_refl _) (Nat.le_refl _)
  · refine AW.aload_n (pc := 38) dX6_part_38 rfl 0 rfl ?_
    refine AW.getI (pc := 39) dX6_part_39 flX6_38 hthis (kct hthis rfl hct) ?_
    refine AW.iconst (pc := 42) dX6_part_42 ci_1 ?_
    refine AW.icmp_ne (pc := 43) 76 dX6_part_43 (by decide) (fun h9 => ?_) (fun h9 => ?_)
    · refine AW.aload_n (pc := 46) dX6_part_46 rfl 0 rfl ?_
      refine AW.cV0i (pc := 47) dX6_part_47 mlX6_189 mbX6_valueAsked rfl hthis (kct hthis rfl hct) (fun _ => okR_N (by omega)) (kX6_valueAsked l E (n - 1) (by omega) ct hct ex this M) (Nat.le_of_ble_eq_true rfl) (fun v10 M11 => ?_)
      refine AW.istore_n (pc := 50) [1, 0] [(0, .ref (ad E this)), (2, .int v10)] dX6_part_50 rfl (by decide) rfl ?_
      refine AW.iload_n (pc := 51) dX6_part_51 rfl 1 rfl ?_
      refine AW.iconst (pc := 52) dX6_part_52 ci_m1 ?_
      refine AW.icmp_ne (pc := 53) 62 dX6_part_53 (by decide) (fun h12 => ?_) (fun h12 => ?_)
      · refine AW.aload_n (pc := 56) dX6_part_56 rfl 0 rfl ?_
        refine AW.iconst (pc := 57) dX6_part_57 ci_3 ?_
        refine AW.cV1i (pc := 58) dX6_part_58 mlX6_114 mbX6_refuse rfl hthis (kct hthis rfl hct) (fun _ => okR_N (by omega)) (kX6_refuse l E (n - 1) (by omega) ct hct ex this 3 M11) (Nat.le_of_ble_eq_true rfl) (fun v13 M14 => ?_)
        refine AW.chk (fun g15 => ?_)
        exact AW.zret (pc := 61) dX6_part_61 rfl g15 (fun _ _ _ => rfl) (Nat.le_refl _) (Nat.le_refl _)
      · refine AW.aload_n (pc := 62) dX6_part_62 rfl 0 rfl ?_
        refine AW.chk (fun g16 => ?_)
        refine AW.getR (pc := 63) dX6_part_63 flX6_25 hthis (kct hthis rfl hct) g16 ?_
        refine AW.iload_n (pc := 66) dX6_part_66 rfl 1 rfl ?_
        refine AW.chk (fun g18 => ?_)
        refine AW.cV1v (pc := 67) dX6_part_67 mlX6_193 mbX8_addValue rfl g18 (kct g18 rfl hct) (fun _ => okR_N (by omega)) (kX8_addValue l E (n - 1) (by omega) ct hct ex (mR M11 this 3) v10 M11) (Nat.le_of_ble_eq_true rfl) (fun _ M17 => ?_)
        refine AW.aload_n (pc := 70) dX6_part_70 rfl 0 rfl ?_
        refine AW.cV0v (pc := 71) dX6_part_71 mlX6_60 mbX6_advance rfl hthis (kct hthis rfl hct) (fun _ => okR_N (by omega)) (kX6_advance l E (n - 1) (by omega) ct hct ex this M17) (Nat.le_of_ble_eq_true rfl) (fun _ M19 => ?_)
        refine AW.iconst (pc := 74) dX6_part_74 ci_1 ?_
        exact AW.zret (pc := 75) dX6_part_75 rfl (Or.inr rfl) (fun _ _ _ => rfl) (Nat.le_refl _) (Nat.le_refl _)
    · refine AW.aload_n (pc := 76) dX6_part_76 rfl 0 rfl ?_
      refine AW.iconst (pc := 77) dX6_part_77 ci_0 ?_
      refine AW.sipush (pc := 78) dX6_part_78 cs_999 ?_
      refine AW.cV2i (pc := 81) dX6_part_81 mlX6_123 mbX6_numberFrom rfl hthis (kct hthis rfl hct) (fun _ => okR_N (by omega)) (kX6_numberFrom l E (n - 1) (by omega) ct hct ex this 0 999 M) (Nat.le_of_ble_eq_true rfl) (fun v20 M21 => ?_)
      refine AW.istore_n (pc := 84) [1, 0] [(0, .ref (ad E this)), (2, .int v20)] dX6_part_84 rfl (by decide) rfl ?_
      refine AW.aload_n (pc := 85) dX6_part_85 rfl 0 rfl ?_
      refine AW.chk (fun g22 => ?_)
      refine AW.getR (pc := 86) dX6_part_86 flX6_25 hthis (kct hthis rfl hct) g22 ?_
      refine AW.aload_n (pc := 89) dX6_part_89 rfl 0 rfl ?_
      refine AW.getI (pc := 90) dX6_part_90 flX6_44 hthis (kct hthis rfl hct) ?_
      refine AW.chk (fun g24 => ?_)
      refine AW.cV1v (pc := 93) dX6_part_93 mlX6_166 mbX8_add rfl g24 (kct g24 rfl hct) (fun _ => okR_N (by omega)) (kX8_add l E (n - 1) (by omega) ct hct ex (mR M21 this 3) (mI M21 this 9) M21) (Nat.le_of_ble_eq_true rfl) (fun _ M23 => ?_)
      refine AW.iload_n (pc := 96) dX6_part_96 rfl 1 rfl ?_
      refine AW.chk (fun g25 => ?_)
      exact AW.zret (pc := 97) dX6_part_97 rfl g25 (fun _ _ _ => rfl) (Nat.le_refl _) (Nat.le_refl _)
-- GateBox$Reader.product(I)Z
def zX6_product_B37 (rec : Nat → Int32 → Mem → Option (Int32 × Mem)) (KK8 : Nat → Int32 → Int32 → Int32 → Mem → Option (Int32 × Mem)) (this : Nat) (x1 : Int32) (x3 : Int32) (M : Mem) : Option (Int32 × Mem) :=
  lt (2000 + (mI M this 7)) fun v1 =>
  bnd (zX6_advance this M) fun _ M2 =>
  bnd (zX6_part rec this x1 M2) fun v3 M4 =>
  if mR M4 this 3 ≠ 0 then
  if K0 (mR M4 this 3) = (0, 8) then
  bnd (zX8_add (mR M4 this 3) v1 M4) fun _ M6 =>
  KK8 this x1 v3 (x3 + 1) M6
  else none
  else none
def zX6_product_B8 (rec : Nat → Int32 → Mem → Option (Int32 × Mem)) (KK8 : Nat → Int32 → Int32 → Int32 → Mem → Option (Int32 × Mem)) (this : Nat) (x1 : Int32) (x2 : Int32) (x3 : Int32) (M : Mem) : Option (Int32 × Mem) :=
  if 700 ≤ x3 then
    if x2 = 0 ∨ x2 = 1 then
    some (x2, M)
    else none
  else
    if x2 = 0 then
      if x2 = 0 ∨ x2 = 1 then
      some (x2, M)
      else none
    else
      if (mI M this 7) = 42 then
        zX6_product_B37 rec KK8 this x1 x3 M
      else
        if (mI M this 7) = 47 then
          zX6_product_B37 rec KK8 this x1 x3 M
        else
          if x2 = 0 ∨ x2 = 1 then
          some (x2, M)
          else none
def zX6_product_L8 (rec : Nat → Int32 → Mem → Option (Int32 × Mem)) : Nat → Nat → Int32 → Int32 → Int32 → Mem → Option (Int32 × Mem)
  | 0 => fun _ _ _ _ _ => none
  | k + 1 => zX6_product_B8 rec (zX6_product_L8 rec k)
def zX6_product (rec : Nat → Int32 → Mem → Option (Int32 × Mem)) (this : Nat) (x1 : Int32) (M : Mem) : Option (Int32 × Mem) :=
  if K0 this = (0, 6) then
  bnd (zX6_part rec this x1 M) fun v1 M2 =>
  zX6_product_L8 rec FU this x1 v1 0 M2
  else none
set_option maxRecDepth 20000 in
set_option maxHeartbeats 4000000 in
theorem kX6_product_B37 (l : Launch) (E : Ev) (n : Nat) (nr : Nat) (hn : nr + 2 ≤ n) (ct : Nat) (hct : 111 ≤ ct) (ex : Bool) (rec : Nat → Int32 → Mem → Option (Int32 × Mem)) (hnr : 10 ≤ nr) (hrec : ∀ n, nr ≤ n → ∀ ct, 111 ≤ ct → ∀ ex (this : Nat) (y0 : Int32) M, AM l E n ct ex yX6_either fX6_either enI [.ref (ad E this), .int y0] M (rec this y0 M)) (KK8 : Nat → Int32 → Int32 → Int32 → Mem → Option (Int32 × Mem)) (hKK8 : ∀ (this : Nat) (x1 : Int32) (x2 : Int32) (x3 : Int32) (M : Mem) (_ : K0 this = (0, 6)), AW l E fX6_product (fun _ => rmN n 0 0) (PQr E 0 0 ct ex enI) ct ex 0 0 8 [(0, .ref (ad E this)), (1, .int x1), (2, .int x2), (3, .int x3)] [] M (KK8 this x1 x2 x3 M)) (this : Nat) (x1 : Int32) (x3 : Int32) (M : Mem) (hthis : K0 this = (0, 6)) : AW l E fX6_product (fun _ => rmN n 0 0) (PQr E 0 0 ct ex enI) ct ex 0 0 37 [(0, .ref (ad E this)), (1, .int x1), (3, .int x3)] [] M (zX6_product_B37 rec KK8 this x1 x3 M) := by
  unfold zX6_product_B37
  refine AW.sipush (pc := 37) dX6_product_37 cs_2000 ?_
  refine AW.aload_n (pc := 40) dX6_product_40 rfl 0 rfl ?_
  refine AW.getI (pc := 41) dX6_product_41 flX6_38 hthis (kct hthis rfl hct) ?_
  refine AW.iadd (pc := 44) dX6_product_44 ?_
  refine AW.genI (fun v1 => ?_)
  refine AW.istore (pc := 45) [1, 2, 3, 0] [(0, .ref (ad E this)), (1, .int x1), (3, .int x3), (4, .int v1)] dX6_product_45 (by decide) rfl ?_
  refine AW.aload_n (pc := 47) dX6_product_47 rfl 0 rfl ?_
  refine AW.cV0v (pc := 48) dX6_product_48 mlX6_60 mbX6_advance rfl hthis (kct hthis rfl hct) (fun _ => okR_N (by omega)) (kX6_advance l E (n - 1) (by omega) ct hct ex this M) (Nat.le_of_ble_eq_true rfl) (fun _ M2 => ?_)
  refine AW.aload_n (pc := 51) dX6_product_51 rfl 0 rfl ?_
  refine AW.iload_n (pc := 52) dX6_product_52 rfl 1 rfl ?_
  refine AW.cV1i (pc := 53) dX6_product_53 mlX6_186 mbX6_part rfl hthis (kct hthis rfl hct) (fun _ => okR_N (by omega)) (kX6_part l E (n - 1) nr rec hnr hrec (by omega) ct hct ex this x1 M2) (Nat.le_of_ble_eq_true rfl) (fun v3 M4 => ?_)
  refine AW.istore_n (pc := 56) [1, 2, 0, 3, 4] [(0, .ref (ad E this)), (1, .int x1), (2, .int v3), (3, .int x3), (4, .int v1)] dX6_product_56 rfl (by decide) rfl ?_
  refine AW.aload_n (pc := 57) dX6_product_57 rfl 0 rfl ?_
  refine AW.chk (fun g5 => ?_)
  refine AW.getR (pc := 58) dX6_product_58 flX6_25 hthis (kct hthis rfl hct) g5 ?_
  refine AW.iload (pc := 61) dX6_product_61 4 rfl ?_
  refine AW.chk (fun g7 => ?_)
  refine AW.cV1v (pc := 63) dX6_product_63 mlX6_166 mbX8_add rfl g7 (kct g7 rfl hct) (fun _ => okR_N (by omega)) (kX8_add l E (n - 1) (by omega) ct hct ex (mR M4 this 3) v1 M4) (Nat.le_of_ble_eq_true rfl) (fun _ M6 => ?_)
  refine AW.iinc (pc := 66) (w := 3) [1, 2, 3, 0] [(0, .ref (ad E this)), (1, .int x1), (2, .int v3), (3, .int (x3 + 1))] dX6_product_66 rfl (inc_1 _) (by decide) rfl ?_
  refine AW.goto (pc := 69) 8 dX6_product_69 (by decide) ?_
  exact hKK8 this x1 v3 (x3 + 1) M6 hthis
set_option maxRecDepth 20000 in
set_option maxHeartbeats 4000000 in
theorem kX6_product_B8 (l : Launch) (E : Ev) (n : Nat) (nr : Nat) (hn : nr + 2 ≤ n) (ct : Nat) (hct : 111 ≤ ct) (ex : Bool) (rec : Nat → Int32 → Mem → Option (Int32 × Mem)) (hnr : 10 ≤ nr) (hrec : ∀ n, nr ≤ n → ∀ ct, 111 ≤ ct → ∀ ex (this : Nat) (y0 : Int32) M, AM l E n ct ex yX6_either fX6_either enI [.ref (ad E this), .int y0] M (rec this y0 M)) (KK8 : Nat → Int32 → Int32 → Int32 → Mem → Option (Int32 × Mem)) (hKK8 : ∀ (this : Nat) (x1 : Int32) (x2 : Int32) (x3 : Int32) (M : Mem) (_ : K0 this = (0, 6)), AW l E fX6_product (fun _ => rmN n 0 0) (PQr E 0 0 ct ex enI) ct ex 0 0 8 [(0, .ref (ad E this)), (1, .int x1), (2, .int x2), (3, .int x3)] [] M (KK8 this x1 x2 x3 M)) (this : Nat) (x1 : Int32) (x2 : Int32) (x3 : Int32) (M : Mem) (hthis : K0 this = (0, 6)) : AW l E fX6_product (fun _ => rmN n 0 0) (PQr E 0 0 ct ex enI) ct ex 0 0 8 [(0, .ref (ad E this)), (1, .int x1), (2, .int x2), (3, .int x3)] [] M (zX6_product_B8 rec KK8 this x1 x2 x3 M) := by
  unfold zX6_product_B8
  refine AW.iload_n (pc := 8) dX6_product_8 rfl 3 rfl ?_
  refine AW.sipush (pc := 9) dX6_product_9 cs_700 ?_
  refine AW.icmp_ge (pc := 12) 72 dX6_product_12 (by decide) (fun h1 => ?_) (fun h1 => ?_)
  · refine AW.iload_n (pc := 72) dX6_product_72 rfl 2 rfl ?_
    refine AW.chk (fun g2 => ?_)
    exact AW.zret (pc := 73) dX6_product_73 rfl g2 (fun _ _ _ => rfl) (Nat.le_refl _) (Nat.le_refl _)
  · refine AW.iload_n (pc := 15) dX6_product_15 rfl 2 rfl ?_
    refine AW.if_eq (pc := 16) 72 dX6_product_16 (by decide) (fun h3 => ?_) (fun h3 => ?_)
    · refine AW.iload_n (pc := 72) dX6_product_72 rfl 2 rfl ?_
      refine AW.chk (fun g4 => ?_)
      exact AW.zret (pc := 73) dX6_product_73 rfl g4 (fun _ _ _ => rfl) (Nat.le_refl _) (Nat.le_refl _)
    · refine AW.aload_n (pc := 19) dX6_product_19 rfl 0 rfl ?_
      refine AW.getI (pc := 20) dX6_product_20 flX6_38 hthis (kct hthis rfl hct) ?_
      refine AW.bipush (pc := 23) dX6_product_23 cb_42 ?_
      refine AW.icmp_eq (pc := 25) 37 dX6_product_25 (by decide) (fun h5 => ?_) (fun h5 => ?_)
      · exact AW.sub [0, 1, 3] rfl (kX6_product_B37 l E n nr hn ct hct ex rec hnr hrec KK8 hKK8 this x1 x3 M hthis)
      · refine AW.aload_n (pc := 28) dX6_product_28 rfl 0 rfl ?_
        refine AW.getI (pc := 29) dX6_product_29 flX6_38 hthis (kct hthis rfl hct) ?_
        refine AW.bipush (pc := 32) dX6_product_32 cb_47 ?_
        refine AW.icmp_ne (pc := 34) 72 dX6_product_34 (by decide) (fun h6 => ?_) (fun h6 => ?_)
        · exact AW.sub [0, 1, 3] rfl (kX6_product_B37 l E n nr hn ct hct ex rec hnr hrec KK8 hKK8 this x1 x3 M hthis)
        · refine AW.iload_n (pc := 72) dX6_product_72 rfl 2 rfl ?_
          refine AW.chk (fun g7 => ?_)
          exact AW.zret (pc := 73) dX6_product_73 rfl g7 (fun _ _ _ => rfl) (Nat.le_refl _) (Nat.le_refl _)
set_option maxRecDepth 20000 in
set_option maxHeartbeats 4000000 in
theorem kX6_product_L8 (l : Launch) (E : Ev) (n : Nat) (nr : Nat) (hn : nr + 2 ≤ n) (ct : Nat) (hct : 111 ≤ ct) (ex : Bool) (rec : Nat → Int32 → Mem → Option (Int32 × Mem)) (hnr : 10 ≤ nr) (hrec : ∀ n, nr ≤ n → ∀ ct, 111 ≤ ct → ∀ ex (this : Nat) (y0 : Int32) M, AM l E n ct ex yX6_either fX6_either enI [.ref (ad E this), .int y0] M (rec this y0 M)) (k : Nat) : ∀ (this : Nat) (x1 : Int32) (x2 : Int32) (x3 : Int32) (M : Mem) (_ : K0 this = (0, 6)), AW l E fX6_product (fun _ => rmN n 0 0) (PQr E 0 0 ct ex enI) ct ex 0 0 8 [(0, .ref (ad E this)), (1, .int x1), (2, .int x2), (3, .int x3)] [] M (zX6_product_L8 rec k this x1 x2 x3 M) := by
  induction k with
  | zero => intro this x1 x2 x3 M _; exact AW.none
  | succ k ih =>
    intro this x1 x2 x3 M hthis
    exact kX6_product_B8 l E n nr hn ct hct ex rec hnr hrec (zX6_product_L8 rec k) ih this x1 x2 x3 M hthis
set_option maxRecDepth 20000 in
set_option maxHeartbeats 4000000 in
theorem kX6_product (l : Launch) (E : Ev) (n : Nat) (nr : Nat) (rec : Nat → Int32 → Mem → Option (Int32 × Mem)) (hnr : 10 ≤ nr) (hrec : ∀ n, nr ≤ n → ∀ ct, 111 ≤ ct → ∀ ex (this : Nat) (y0 : Int32) M, AM l E n ct ex yX6_either fX6_either enI [.ref (ad E this), .int y0] M (rec this y0 M)) (hn : nr + 2 ≤ n) (ct : Nat) (hct : 111 ≤ ct) (ex : Bool) (this : Nat) (x1 : Int32) (M : Mem) : AM l E n ct ex yX6_product fX6_product enI [.ref (ad E this), .int x1] M (zX6_product rec this x1 M) := by
  unfold zX6_product
  refine AM.of (by decide +kernel) ⟨rfl, rfl, rfl⟩ (Nat.le_of_ble_eq_true rfl) ?_
  refine AW.chk (fun hthis => ?_)
  refine AW.aload_n (pc := 0) dX6_product_0 rfl 0 rfl ?_
  refine AW.iload_n (pc := 1) dX6_product_1 rfl 1 rfl ?_
  refine AW.cV1i (pc := 2) dX6_product_2 mlX6_186 mbX6_part rfl hthis (kct hthis rfl hct) (fun _ => okR_N (by omega)) (kX6_part l E (n - 1) nr rec hnr hrec (by omega) ct hct ex this x1 M) (Nat.le_of_ble_eq_true rfl) (fun v1 M2 => ?_)
  refine AW.istore_n (pc := 5) [1, 2, 0] [(0, .ref (ad E this)), (1, .int x1), (2, .int v1)] dX6_product_5 rfl (by decide) rfl ?_
  refine AW.iconst (pc := 6) dX6_product_6 ci_0 ?_
  refine AW.istore_n (pc := 7) [1, 2, 3, 0] [(0, .ref (ad E this)), (1, .int x1), (2, .int v1), (3, .int 0)] dX6_product_7 rfl (by decide) rfl ?_
  exact kX6_product_L8 l E n nr hn ct hct ex rec hnr hrec FU this x1 v1 0 M2 hthis
-- GateBox$Reader.sum(I)Z
def zX6_sum_B37 (rec : Nat → Int32 → Mem → Option (Int32 × Mem)) (KK8 : Nat → Int32 → Int32 → Int32 → Mem → Option (Int32 × Mem)) (this : Nat) (x1 : Int32) (x3 : Int32) (M : Mem) : Option (Int32 × Mem) :=
  lt (2000 + (mI M this 7)) fun v1 =>
  bnd (zX6_advance this M) fun _ M2 =>
  bnd (zX6_product rec this x1 M2) fun v3 M4 =>
  if mR M4 this 3 ≠ 0 then
  if K0 (mR M4 this 3) = (0, 8) then
  bnd (zX8_add (mR M4 this 3) v1 M4) fun _ M6 =>
  KK8 this x1 v3 (x3 + 1) M6
  else none
  else none
def zX6_sum_B8 (rec : Nat → Int32 → Mem → Option (Int32 × Mem)) (KK8 : Nat → Int32 → Int32 → Int32 → Mem → Option (Int32 × Mem)) (this : Nat) (x1 : Int32) (x2 : Int32) (x3 : Int32) (M : Mem) : Option (Int32 × Mem) :=
  if 700 ≤ x3 then
    if x2 = 0 ∨ x2 = 1 then
    some (x2, M)
    else none
  else
    if x2 = 0 then
      if x2 = 0 ∨ x2 = 1 then
      some (x2, M)
      else none
    else
      if (mI M this 7) = 43 then
        zX6_sum_B37 rec KK8 this x1 x3 M
      else
        if (mI M this 7) = 45 then
          zX6_sum_B37 rec KK8 this x1 x3 M
        else
          if x2 = 0 ∨ x2 = 1 then
          some (x2, M)
          else none
def zX6_sum_L8 (rec : Nat → Int32 → Mem → Option (Int32 × Mem)) : Nat → Nat → Int32 → Int32 → Int32 → Mem → Option (Int32 × Mem)
  | 0 => fun _ _ _ _ _ => none
  | k + 1 => zX6_sum_B8 rec (zX6_sum_L8 rec k)
def zX6_sum (rec : Nat → Int32 → Mem → Option (Int32 × Mem)) (this : Nat) (x1 : Int32) (M : Mem) : Option (Int32 × Mem) :=
  if K0 this = (0, 6) then
  bnd (zX6_product rec this x1 M) fun v1 M2 =>
  zX6_sum_L8 rec FU this x1 v1 0 M2
  else none
set_option maxRecDepth 20000 in
set_option maxHeartbeats 4000000 in
theorem kX6_sum_B37 (l : Launch) (E : Ev) (n : Nat) (nr : Nat) (hn : nr + 3 ≤ n) (ct : Nat) (hct : 111 ≤ ct) (ex : Bool) (rec : Nat → Int32 → Mem → Option (Int32 × Mem)) (hnr : 10 ≤ nr) (hrec : ∀ n, nr ≤ n → ∀ ct, 111 ≤ ct → ∀ ex (this : Nat) (y0 : Int32) M, AM l E n ct ex yX6_either fX6_either enI [.ref (ad E this), .int y0] M (rec this y0 M)) (KK8 : Nat → Int32 → Int32 → Int32 → Mem → Option (Int32 × Mem)) (hKK8 : ∀ (this : Nat) (x1 : Int32) (x2 : Int32) (x3 : Int32) (M : Mem) (_ : K0 this = (0, 6)), AW l E fX6_sum (fun _ => rmN n 0 0) (PQr E 0 0 ct ex enI) ct ex 0 0 8 [(0, .ref (ad E this)), (1, .int x1), (2, .int x2), (3, .int x3)] [] M (KK8 this x1 x2 x3 M)) (this : Nat) (x1 : Int32) (x3 : Int32) (M : Mem) (hthis : K0 this = (0, 6)) : AW l E fX6_sum (fun _ => rmN n 0 0) (PQr E 0 0 ct ex enI) ct ex 0 0 37 [(0, .ref (ad E this)), (1, .int x1), (3, .int x3)] [] M (zX6_sum_B37 rec KK8 this x1 x3 M) := by
  unfold zX6_sum_B37
  refine AW.sipush (pc := 37) dX6_sum_37 cs_2000 ?_
  refine AW.aload_n (pc := 40) dX6_sum_40 rfl 0 rfl ?_
  refine AW.getI (pc := 41) dX6_sum_41 flX6_38 hthis (kct hthis rfl hct) ?_
  refine AW.iadd (pc := 44) dX6_sum_44 ?_
  refine AW.genI (fun v1 => ?_)
  refine AW.istore (pc := 45) [1, 2, 3, 0] [(0, .ref (ad E this)), (1, .int x1), (3, .int x3), (4, .int v1)] dX6_sum_45 (by decide) rfl ?_
  refine AW.aload_n (pc := 47) dX6_sum_47 rfl 0 rfl ?_
  refine AW.cV0v (pc := 48) dX6_sum_48 mlX6_60 mbX6_advance rfl hthis (kct hthis rfl hct) (fun _ => okR_N (by omega)) (kX6_advance l E (n - 1) (by omega) ct hct ex this M) (Nat.le_of_ble_eq_true rfl) (fun _ M2 => ?_)
  refine AW.aload_n (pc := 51) dX6_sum_51 rfl 0 rfl ?_
  refine AW.iload_n (pc := 52) dX6_sum_52 rfl 1 rfl ?_
  refine AW.cV1i (pc := 53) dX6_sum_53 mlX6_183 mbX6_product rfl hthis (kct hthis rfl hct) (fun _ => okR_N (by omega)) (kX6_product l E (n - 1) nr rec hnr hrec (by omega) ct hct ex this x1 M2) (Nat.le_of_ble_eq_true rfl) (fun v3 M4 => ?_)
  refine AW.istore_n (pc := 56) [1, 2, 0, 3, 4] [(0, .ref (ad E this)), (1, .int x1), (2, .int v3), (3, .int x3), (4, .int v1)] dX6_sum_56 rfl (by decide) rfl ?_
  refine AW.aload_n (pc := 57) dX6_sum_57 rfl 0 rfl ?_
  refine AW.chk (fun g5 => ?_)
  refine AW.getR (pc := 58) dX6_sum_58 flX6_25 hthis (kct hthis rfl hct) g5 ?_
  refine AW.iload (pc := 61) dX6_sum_61 4 rfl ?_
  refine AW.chk (fun g7 => ?_)
  refine AW.cV1v (pc := 63) dX6_sum_63 mlX6_166 mbX8_add rfl g7 (kct g7 rfl hct) (fun _ => okR_N (by omega)) (kX8_add l E (n - 1) (by omega) ct hct ex (mR M4 this 3) v1 M4) (Nat.le_of_ble_eq_true rfl) (fun _ M6 => ?_)
  refine AW.iinc (pc := 66) (w := 3) [1, 2, 3, 0] [(0, .ref (ad E this)), (1, .int x1), (2, .int v3), (3, .int (x3 + 1))] dX6_sum_66 rfl (inc_1 _) (by decide) rfl ?_
  refine AW.goto (pc := 69) 8 dX6_sum_69 (by decide) ?_
  exact hKK8 this x1 v3 (x3 + 1) M6 hthis
set_option maxRecDepth 20000 in
set_option maxHeartbeats 4000000 in
theorem kX6_sum_B8 (l : Launch) (E : Ev) (n : Nat) (nr : Nat) (hn : nr + 3 ≤ n) (ct : Nat) (hct : 111 ≤ ct) (ex : Bool) (rec : Nat → Int32 → Mem → Option (Int32 × Mem)) (hnr : 10 ≤ nr) (hrec : ∀ n, nr ≤ n → ∀ ct, 111 ≤ ct → ∀ ex (this : Nat) (y0 : Int32) M, AM l E n ct ex yX6_either fX6_either enI [.ref (ad E this), .int y0] M (rec this y0 M)) (KK8 : Nat → Int32 → Int32 → Int32 → Mem → Option (Int32 × Mem)) (hKK8 : ∀ (this : Nat) (x1 : Int32) (x2 : Int32) (x3 : Int32) (M : Mem) (_ : K0 this = (0, 6)), AW l E fX6_sum (fun _ => rmN n 0 0) (PQr E 0 0 ct ex enI) ct ex 0 0 8 [(0, .ref (ad E this)), (1, .int x1), (2, .int x2), (3, .int x3)] [] M (KK8 this x1 x2 x3 M)) (this : Nat) (x1 : Int32) (x2 : Int32) (x3 : Int32) (M : Mem) (hthis : K0 this = (0, 6)) : AW l E fX6_sum (fun _ => rmN n 0 0) (PQr E 0 0 ct ex enI) ct ex 0 0 8 [(0, .ref (ad E this)), (1, .int x1), (2, .int x2), (3, .int x3)] [] M (zX6_sum_B8 rec KK8 this x1 x2 x3 M) := by
  unfold zX6_sum_B8
  refine AW.iload_n (pc := 8) dX6_sum_8 rfl 3 rfl ?_
  refine AW.sipush (pc := 9) dX6_sum_9 cs_700 ?_
  refine AW.icmp_ge (pc := 12) 72 dX6_sum_12 (by decide) (fun h1 => ?_) (fun h1 => ?_)
  · refine AW.iload_n (pc := 72) dX6_sum_72 rfl 2 rfl ?_
    refine AW.chk (fun g2 => ?_)
    exact AW.zret (pc := 73) dX6_sum_73 rfl g2 (fun _ _ _ => rfl) (Nat.le_refl _) (Nat.le_refl _)
  · refine AW.iload_n (pc := 15) dX6_sum_15 rfl 2 rfl ?_
    refine AW.if_eq (pc := 16) 72 dX6_sum_16 (by decide) (fun h3 => ?_) (fun h3 => ?_)
    · refine AW.iload_n (pc := 72) dX6_sum_72 rfl 2 rfl ?_
      refine AW.chk (fun g4 => ?_)
      exact AW.zret (pc := 73) dX6_sum_73 rfl g4 (fun _ _ _ => rfl) (Nat.le_refl _) (Nat.le_refl _)
    · refine AW.aload_n (pc := 19) dX6_sum_19 rfl 0 rfl ?_
      refine AW.getI (pc := 20) dX6_sum_20 flX6_38 hthis (kct hthis rfl hct) ?_
      refine AW.bipush (pc := 23) dX6_sum_23 cb_43 ?_
      refine AW.icmp_eq (pc := 25) 37 dX6_sum_25 (by decide) (fun h5 => ?_) (fun h5 => ?_)
      · exact AW.sub [0, 1, 3] rfl (kX6_sum_B37 l E n nr hn ct hct ex rec hnr hrec KK8 hKK8 this x1 x3 M hthis)
      · refine AW.aload_n (pc := 28) dX6_sum_28 rfl 0 rfl ?_
        refine AW.getI (pc := 29) dX6_sum_29 flX6_38 hthis (kct hthis rfl hct) ?_
        refine AW.bipush (pc := 32) dX6_sum_32 cb_45 ?_
        refine AW.icmp_ne (pc := 34) 72 dX6_sum_34 (by decide) (fun h6 => ?_) (fun h6 => ?_)
        · exact AW.sub [0, 1, 3] rfl (kX6_sum_B37 l E n nr hn ct hct ex rec hnr hrec KK8 hKK8 this x1 x3 M hthis)
        · refine AW.iload_n (pc := 72) dX6_sum_72 rfl 2 rfl ?_
          refine AW.chk (fun g7 => ?_)
          exact AW.zret (pc := 73) dX6_sum_73 rfl g7 (fun _ _ _ => rfl) (Nat.le_refl _) (Nat.le_refl _)
set_option maxRecDepth 20000 in
set_option maxHeartbeats 4000000 in
theorem kX6_sum_L8 (l : Launch) (E : Ev) (n : Nat) (nr : Nat) (hn : nr + 3 ≤ n) (ct : Nat) (hct : 111 ≤ ct) (ex : Bool) (rec : Nat → Int32 → Mem → Option (Int32 × Mem)) (hnr : 10 ≤ nr) (hrec : ∀ n, nr ≤ n → ∀ ct, 111 ≤ ct → ∀ ex (this : Nat) (y0 : Int32) M, AM l E n ct ex yX6_either fX6_either enI [.ref (ad E this), .int y0] M (rec this y0 M)) (k : Nat) : ∀ (this : Nat) (x1 : Int32) (x2 : Int32) (x3 : Int32) (M : Mem) (_ : K0 this = (0, 6)), AW l E fX6_sum (fun _ => rmN n 0 0) (PQr E 0 0 ct ex enI) ct ex 0 0 8 [(0, .ref (ad E this)), (1, .int x1), (2, .int x2), (3, .int x3)] [] M (zX6_sum_L8 rec k this x1 x2 x3 M) := by
  induction k with
  | zero => intro this x1 x2 x3 M _; exact AW.none
  | succ k ih =>
    intro this x1 x2 x3 M hthis
    exact kX6_sum_B8 l E n nr hn ct hct ex rec hnr hrec (zX6_sum_L8 rec k) ih this x1 x2 x3 M hthis
set_option maxRecDepth 20000 in
set_option maxHeartbeats 4000000 in
theorem kX6_sum (l : Launch) (E : Ev) (n : Nat) (nr : Nat) (rec : Nat → Int32 → Mem → Option (Int32 × Mem)) (hnr : 10 ≤ nr) (hrec : ∀ n, nr ≤ n → ∀ ct, 111 ≤ ct → ∀ ex (this : Nat) (y0 : Int32) M, AM l E n ct ex yX6_either fX6_either enI [.ref (ad E this), .int y0] M (rec this y0 M)) (hn : nr + 3 ≤ n) (ct : Nat) (hct : 111 ≤ ct) (ex : Bool) (this : Nat) (x1 : Int32) (M : Mem) : AM l E n ct ex yX6_sum fX6_sum enI [.ref (ad E this), .int x1] M (zX6_sum rec this x1 M) := by
  unfold zX6_sum
  refine AM.of (by decide +kernel) ⟨rfl, rfl, rfl⟩ (Nat.le_of_ble_eq_true rfl) ?_
  refine AW.chk (fun hthis => ?_)
  refine AW.aload_n (pc := 0) dX6_sum_0 rfl 0 rfl ?_
  refine AW.iload_n (pc := 1) dX6_sum_1 rfl 1 rfl ?_
  refine AW.cV1i (pc := 2) dX6_sum_2 mlX6_183 mbX6_product rfl hthis (kct hthis rfl hct) (fun _ => okR_N (by omega)) (kX6_product l E (n - 1) nr rec hnr hrec (by omega) ct hct ex this x1 M) (Nat.le_of_ble_eq_true rfl) (fun v1 M2 => ?_)
  refine AW.istore_n (pc := 5) [1, 2, 0] [(0, .ref (ad E this)), (1, .int x1), (2, .int v1)] dX6_sum_5 rfl (by decide) rfl ?_
  refine AW.iconst (pc := 6) dX6_sum_6 ci_0 ?_
  refine AW.istore_n (pc := 7) [1, 2, 3, 0] [(0, .ref (ad E this)), (1, .int x1), (2, .int v1), (3, .int 0)] dX6_sum_7 rfl (by decide) rfl ?_
  exact kX6_sum_L8 l E n nr hn ct hct ex rec hnr hrec FU this x1 v1 0 M2 hthis
-- GateBox$Reader.test(I)Z
def zX6_test_B28 (rec : Nat → Int32 → Mem → Option (Int32 × Mem)) (this : Nat) (x1 : Int32) (M : Mem) : Option (Int32 × Mem) :=
  lt (2000 + (mI M this 7)) fun v1 =>
  bnd (zX6_advance this M) fun _ M2 =>
  bnd (zX6_sum rec this x1 M2) fun v3 M4 =>
  if mR M4 this 3 ≠ 0 then
  if K0 (mR M4 this 3) = (0, 8) then
  bnd (zX8_add (mR M4 this 3) v1 M4) fun _ M6 =>
  if v3 = 0 ∨ v3 = 1 then
  some (v3, M6)
  else none
  else none
  else none
def zX6_test (rec : Nat → Int32 → Mem → Option (Int32 × Mem)) (this : Nat) (x1 : Int32) (M : Mem) : Option (Int32 × Mem) :=
  if K0 this = (0, 6) then
  bnd (zX6_sum rec this x1 M) fun v1 M2 =>
  if v1 = 0 then
    if v1 = 0 ∨ v1 = 1 then
    some (v1, M2)
    else none
  else
    if (mI M2 this 7) = 60 then
      zX6_test_B28 rec this x1 M2
    else
      if (mI M2 this 7) = 61 then
        zX6_test_B28 rec this x1 M2
      else
        if v1 = 0 ∨ v1 = 1 then
        some (v1, M2)
        else none
  else none
set_option maxRecDepth 20000 in
set_option maxHeartbeats 4000000 in
theorem kX6_test_B28 (l : Launch) (E : Ev) (n : Nat) (nr : Nat) (hn : nr + 4 ≤ n) (ct : Nat) (hct : 111 ≤ ct) (ex : Bool) (rec : Nat → Int32 → Mem → Option (Int32 × Mem)) (hnr : 10 ≤ nr) (hrec : ∀ n, nr ≤ n → ∀ ct, 111 ≤ ct → ∀ ex (this : Nat) (y0 : Int32) M, AM l E n ct ex yX6_either fX6_either enI [.ref (ad E this), .int y0] M (rec this y0 M)) (this : Nat) (x1 : Int32) (M : Mem) (hthis : K0 this = (0, 6)) : AW l E fX6_test (fun _ => rmN n 0 0) (PQr E 0 0 ct ex enI) ct ex 0 0 28 [(0, .ref (ad E this)), (1, .int x1)] [] M (zX6_test_B28 rec this x1 M) := by
  unfold zX6_test_B28
  refine AW.sipush (pc := 28) dX6_test_28 cs_2000 ?_
  refine AW.aload_n (pc := 31) dX6_test_31 rfl 0 rfl ?_
  refine AW.getI (pc := 32) dX6_test_32 flX6_38 hthis (kct hthis rfl hct) ?_
  refine AW.iadd (pc := 35) dX6_test_35 ?_
  refine AW.genI (fun v1 => ?_)
  refine AW.istore_n (pc := 36) [1, 2, 0] [(0, .ref (ad E this)), (1, .int x1), (3, .int v1)] dX6_test_36 rfl (by decide) rfl ?_
  refine AW.aload_n (pc := 37) dX6_test_37 rfl 0 rfl ?_
  refine AW.cV0v (pc := 38) dX6_test_38 mlX6_60 mbX6_advance rfl hthis (kct hthis rfl hct) (fun _ => okR_N (by omega)) (kX6_advance l E (n - 1) (by omega) ct hct ex this M) (Nat.le_of_ble_eq_true rfl) (fun _ M2 => ?_)
  refine AW.aload_n (pc := 41) dX6_test_41 rfl 0 rfl ?_
  refine AW.iload_n (pc := 42) dX6_test_42 rfl 1 rfl ?_
  refine AW.cV1i (pc := 43) dX6_test_43 mlX6_180 mbX6_sum rfl hthis (kct hthis rfl hct) (fun _ => okR_N (by omega)) (kX6_sum l E (n - 1) nr rec hnr hrec (by omega) ct hct ex this x1 M2) (Nat.le_of_ble_eq_true rfl) (fun v3 M4 => ?_)
  refine AW.istore_n (pc := 46) [1, 0, 3] [(0, .ref (ad E this)), (2, .int v3), (3, .int v1)] dX6_test_46 rfl (by decide) rfl ?_
  refine AW.aload_n (pc := 47) dX6_test_47 rfl 0 rfl ?_
  refine AW.chk (fun g5 => ?_)
  refine AW.getR (pc := 48) dX6_test_48 flX6_25 hthis (kct hthis rfl hct) g5 ?_
  refine AW.iload_n (pc := 51) dX6_test_51 rfl 2 rfl ?_
  refine AW.chk (fun g7 => ?_)
  refine AW.cV1v (pc := 52) dX6_test_52 mlX6_166 mbX8_add rfl g7 (kct g7 rfl hct) (fun _ => okR_N (by omega)) (kX8_add l E (n - 1) (by omega) ct hct ex (mR M4 this 3) v1 M4) (Nat.le_of_ble_eq_true rfl) (fun _ M6 => ?_)
  refine AW.iload_n (pc := 55) dX6_test_55 rfl 1 rfl ?_
  refine AW.chk (fun g8 => ?_)
  exact AW.zret (pc := 56) dX6_test_56 rfl g8 (fun _ _ _ => rfl) (Nat.le_refl _) (Nat.le_refl _)
set_option maxRecDepth 20000 in
set_option maxHeartbeats 4000000 in
theorem kX6_test (l : Launch) (E : Ev) (n : Nat) (nr : Nat) (rec : Nat → Int32 → Mem → Option (Int32 × Mem)) (hnr : 10 ≤ nr) (hrec : ∀ n, nr ≤ n → ∀ ct, 111 ≤ ct → ∀ ex (this : Nat) (y0 : Int32) M, AM l E n ct ex yX6_either fX6_either enI [.ref (ad E this), .int y0] M (rec this y0 M)) (hn : nr + 4 ≤ n) (ct : Nat) (hct : 111 ≤ ct) (ex : Bool) (this : Nat) (x1 : Int32) (M : Mem) : AM l E n ct ex yX6_test fX6_test enI [.ref (ad E this), .int x1] M (zX6_test rec this x1 M) := by
  unfold zX6_test
  refine AM.of (by decide +kernel) ⟨rfl, rfl, rfl⟩ (Nat.le_of_ble_eq_true rfl) ?_
  refine AW.chk (fun hthis => ?_)
  refine AW.aload_n (pc := 0) dX6_test_0 rfl 0 rfl ?_
  refine AW.iload_n (pc := 1) dX6_test_1 rfl 1 rfl ?_
  refine AW.cV1i (pc := 2) dX6_test_2 mlX6_180 mbX6_sum rfl hthis (kct hthis rfl hct) (fun _ => okR_N (by omega)) (kX6_sum l E (n - 1) nr rec hnr hrec (by omega) ct hct ex this x1 M) (Nat.le_of_ble_eq_true rfl) (fun v1 M2 => ?_)
  refine AW.istore_n (pc := 5) [1, 2, 0] [(0, .ref (ad E this)), (1, .int x1), (2, .int v1)] dX6_test_5 rfl (by decide) rfl ?_
  refine AW.iload_n (pc := 6) dX6_test_6 rfl 2 rfl ?_
  refine AW.if_eq (pc := 7) 55 dX6_test_7 (by decide) (fun h3 => ?_) (fun h3 => ?_)
  · refine AW.iload_n (pc := 55) dX6_test_55 rfl 2 rfl ?_
    refine AW.chk (fun g4 => ?_)
    exact AW.zret (pc := 56) dX6_test_56 rfl g4 (fun _ _ _ => rfl) (Nat.le_refl _) (Nat.le_refl _)
  · refine AW.aload_n (pc := 10) dX6_test_10 rfl 0 rfl ?_
    refine AW.getI (pc := 11) dX6_test_11 flX6_38 hthis (kct hthis rfl hct) ?_
    refine AW.bipush (pc := 14) dX6_test_14 cb_60 ?_
    refine AW.icmp_eq (pc := 16) 28 dX6_test_16 (by decide) (fun h5 => ?_) (fun h5 => ?_)
    · exact AW.sub [0, 1] rfl (kX6_test_B28 l E n nr hn ct hct ex rec hnr hrec this x1 M2 hthis)
    · refine AW.aload_n (pc := 19) dX6_test_19 rfl 0 rfl ?_
      refine AW.getI (pc := 20) dX6_test_20 flX6_38 hthis (kct hthis rfl hct) ?_
      refine AW.bipush (pc := 23) dX6_test_23 cb_61 ?_
      refine AW.icmp_ne (pc := 25) 55 dX6_test_25 (by decide) (fun h6 => ?_) (fun h6 => ?_)
      · exact AW.sub [0, 1] rfl (kX6_test_B28 l E n nr hn ct hct ex rec hnr hrec this x1 M2 hthis)
      · refine AW.iload_n (pc := 55) dX6_test_55 rfl 2 rfl ?_
        refine AW.chk (fun g7 => ?_)
        exact AW.zret (pc := 56) dX6_test_56 rfl g7 (fun _ _ _ => rfl) (Nat.le_refl _) (Nat.le_refl _)
-- GateBox$Reader.negation(I)Z
def zX6_negation_B57 (rec : Nat → Int32 → Mem → Option (Int32 × Mem)) (KK57 : Nat → Int32 → Int32 → Int32 → Mem → Option (Int32 × Mem)) (this : Nat) (x2 : Int32) (x3 : Int32) (x4 : Int32) (M : Mem) : Option (Int32 × Mem) :=
  if x2 ≤ x4 then
    if x3 = 0 ∨ x3 = 1 then
    some (x3, M)
    else none
  else
    if mR M this 3 ≠ 0 then
    if K0 (mR M this 3) = (0, 8) then
    bnd (zX8_add (mR M this 3) 2033 M) fun _ M4 =>
    KK57 this x2 x3 (x4 + 1) M4
    else none
    else none
def zX6_negation_L57 (rec : Nat → Int32 → Mem → Option (Int32 × Mem)) : Nat → Nat → Int32 → Int32 → Int32 → Mem → Option (Int32 × Mem)
  | 0 => fun _ _ _ _ _ => none
  | k + 1 => zX6_negation_B57 rec (zX6_negation_L57 rec k)
def zX6_negation_B48 (rec : Nat → Int32 → Mem → Option (Int32 × Mem)) (this : Nat) (x1 : Int32) (x2 : Int32) (M : Mem) : Option (Int32 × Mem) :=
  bnd (zX6_test rec this x1 M) fun v1 M2 =>
  zX6_negation_L57 rec FU this x2 v1 0 M2
def zX6_negation_B27 (rec : Nat → Int32 → Mem → Option (Int32 × Mem)) (this : Nat) (x1 : Int32) (x2 : Int32) (M : Mem) : Option (Int32 × Mem) :=
  if x2 = 6 then
    bnd (zX6_isWord this 1006 M) fun v2 M3 =>
    if v2 = 0 then
      zX6_negation_B48 rec this x1 x2 M3
    else
      bnd (zX6_refuse this 2 M3) fun v5 M6 =>
      if v5 = 0 ∨ v5 = 1 then
      some (v5, M6)
      else none
  else
    zX6_negation_B48 rec this x1 x2 M
def zX6_negation_B2 (rec : Nat → Int32 → Mem → Option (Int32 × Mem)) (KK2 : Nat → Int32 → Int32 → Mem → Option (Int32 × Mem)) (this : Nat) (x1 : Int32) (x2 : Int32) (M : Mem) : Option (Int32 × Mem) :=
  if 6 ≤ x2 then
    zX6_negation_B27 rec this x1 x2 M
  else
    bnd (zX6_isWord this 1006 M) fun v2 M3 =>
    if v2 = 0 then
      zX6_negation_B27 rec this x1 x2 M3
    else
      bnd (zX6_advance this M3) fun _ M5 =>
      KK2 this x1 (x2 + 1) M5
def zX6_negation_L2 (rec : Nat → Int32 → Mem → Option (Int32 × Mem)) : Nat → Nat → Int32 → Int32 → Mem → Option (Int32 × Mem)
  | 0 => fun _ _ _ _ => none
  | k + 1 => zX6_negation_B2 rec (zX6_negation_L2 rec k)
def zX6_negation (rec : Nat → Int32 → Mem → Option (Int32 × Mem)) (this : Nat) (x1 : Int32) (M : Mem) : Option (Int32 × Mem) :=
  if K0 this = (0, 6) then
  zX6_negation_L2 rec FU this x1 0 M
  else none
set_option maxRecDepth 20000 in
set_option maxHeartbeats 4000000 in
theorem kX6_negation_B57 (l : Launch) (E : Ev) (n : Nat) (nr : Nat) (hn : nr + 5 ≤ n) (ct : Nat) (hct : 111 ≤ ct) (ex : Bool) (rec : Nat → Int32 → Mem → Option (Int32 × Mem)) (hnr : 10 ≤ nr) (hrec : ∀ n, nr ≤ n → ∀ ct, 111 ≤ ct → ∀ ex (this : Nat) (y0 : Int32) M, AM l E n ct ex yX6_either fX6_either enI [.ref (ad E this), .int y0] M (rec this y0 M)) (KK57 : Nat → Int32 → Int32 → Int32 → Mem → Option (Int32 × Mem)) (hKK57 : ∀ (this : Nat) (x2 : Int32) (x3 : Int32) (x4 : Int32) (M : Mem) (_ : K0 this = (0, 6)), AW l E fX6_negation (fun _ => rmN n 0 0) (PQr E 0 0 ct ex enI) ct ex 0 0 57 [(0, .ref (ad E this)), (2, .int x2), (3, .int x3), (4, .int x4)] [] M (KK57 this x2 x3 x4 M)) (this : Nat) (x2 : Int32) (x3 : Int32) (x4 : Int32) (M : Mem) (hthis : K0 this = (0, 6)) : AW l E fX6_negation (fun _ => rmN n 0 0) (PQr E 0 0 ct ex enI) ct ex 0 0 57 [(0, .ref (ad E this)), (2, .int x2), (3, .int x3), (4, .int x4)] [] M (zX6_negation_B57 rec KK57 this x2 x3 x4 M) := by
  unfold zX6_negation_B57
  refine AW.iload (pc := 57) dX6_negation_57 3 rfl ?_
  refine AW.iload_n (pc := 59) dX6_negation_59 rfl 1 rfl ?_
  refine AW.icmp_ge (pc := 60) 79 dX6_negation_60 (by decide) (fun h1 => ?_) (fun h1 => ?_)
  · refine AW.iload_n (pc := 79) dX6_negation_79 rfl 2 rfl ?_
    refine AW.chk (fun g2 => ?_)
    exact AW.zret (pc := 80) dX6_negation_80 rfl g2 (fun _ _ _ => rfl) (Nat.le_refl _) (Nat.le_refl _)
  · refine AW.aload_n (pc := 63) dX6_negation_63 rfl 0 rfl ?_
    refine AW.chk (fun g3 => ?_)
    refine AW.getR (pc := 64) dX6_negation_64 flX6_25 hthis (kct hthis rfl hct) g3 ?_
    refine AW.sipush (pc := 67) dX6_negation_67 cs_2033 ?_
    refine AW.chk (fun g5 => ?_)
    refine AW.cV1v (pc := 70) dX6_negation_70 mlX6_166 mbX8_add rfl g5 (kct g5 rfl hct) (fun _ => okR_N (by omega)) (kX8_add l E (n - 1) (by omega) ct hct ex (mR M this 3) 2033 M) (Nat.le_of_ble_eq_true rfl) (fun _ M4 => ?_)
    refine AW.iinc (pc := 73) (w := 3) [1, 2, 3, 0] [(0, .ref (ad E this)), (2, .int x2), (3, .int x3), (4, .int (x4 + 1))] dX6_negation_73 rfl (inc_1 _) (by decide) rfl ?_
    refine AW.goto (pc := 76) 57 dX6_negation_76 (by decide) ?_
    exact hKK57 this x2 x3 (x4 + 1) M4 hthis
set_option maxRecDepth 20000 in
set_option maxHeartbeats 4000000 in
theorem kX6_negation_L57 (l : Launch) (E : Ev) (n : Nat) (nr : Nat) (hn : nr + 5 ≤ n) (ct : Nat) (hct : 111 ≤ ct) (ex : Bool) (rec : Nat → Int32 → Mem → Option (Int32 × Mem)) (hnr : 10 ≤ nr) (hrec : ∀ n, nr ≤ n → ∀ ct, 111 ≤ ct → ∀ ex (this : Nat) (y0 : Int32) M, AM l E n ct ex yX6_either fX6_either enI [.ref (ad E this), .int y0] M (rec this y0 M)) (k : Nat) : ∀ (this : Nat) (x2 : Int32) (x3 : Int32) (x4 : Int32) (M : Mem) (_ : K0 this = (0, 6)), AW l E fX6_negation (fun _ => rmN n 0 0) (PQr E 0 0 ct ex enI) ct ex 0 0 57 [(0, .ref (ad E this)), (2, .int x2), (3, .int x3), (4, .int x4)] [] M (zX6_negation_L57 rec k this x2 x3 x4 M) := by
  induction k with
  | zero => intro this x2 x3 x4 M _; exact AW.none
  | succ k ih =>
    intro this x2 x3 x4 M hthis
    exact kX6_negation_B57 l E n nr hn ct hct ex rec hnr hrec (zX6_negation_L57 rec k) ih this x2 x3 x4 M hthis
set_option maxRecDepth 20000 in
set_option maxHeartbeats 4000000 in
theorem kX6_negation_B48 (l : Launch) (E : Ev) (n : Nat) (nr : Nat) (hn : nr + 5 ≤ n) (ct : Nat) (hct : 111 ≤ ct) (ex : Bool) (rec : Nat → Int32 → Mem → Option (Int32 × Mem)) (hnr : 10 ≤ nr) (hrec : ∀ n, nr ≤ n → ∀ ct, 111 ≤ ct → ∀ ex (this : Nat) (y0 : Int32) M, AM l E n ct ex yX6_either fX6_either enI [.ref (ad E this), .int y0] M (rec this y0 M)) (this : Nat) (x1 : Int32) (x2 : Int32) (M : Mem) (hthis : K0 this = (0, 6)) : AW l E fX6_negation (fun _ => rmN n 0 0) (PQr E 0 0 ct ex enI) ct ex 0 0 48 [(0, .ref (ad E this)), (1, .int x1), (2, .int x2)] [] M (zX6_negation_B48 rec this x1 x2 M) := by
  unfold zX6_negation_B48
  refine AW.aload_n (pc := 48) dX6_negation_48 rfl 0 rfl ?_
  refine AW.iload_n (pc := 49) dX6_negation_49 rfl 1 rfl ?_
  refine AW.cV1i (pc := 50) dX6_negation_50 mlX6_177 mbX6_test rfl hthis (kct hthis rfl hct) (fun _ => okR_N (by omega)) (kX6_test l E (n - 1) nr rec hnr hrec (by omega) ct hct ex this x1 M) (Nat.le_of_ble_eq_true rfl) (fun v1 M2 => ?_)
  refine AW.istore_n (pc := 53) [1, 3, 0] [(0, .ref (ad E this)), (2, .int x2), (3, .int v1)] dX6_negation_53 rfl (by decide) rfl ?_
  refine AW.iconst (pc := 54) dX6_negation_54 ci_0 ?_
  refine AW.istore (pc := 55) [1, 2, 3, 0] [(0, .ref (ad E this)), (2, .int x2), (3, .int v1), (4, .int 0)] dX6_negation_55 (by decide) rfl ?_
  exact kX6_negation_L57 l E n nr hn ct hct ex rec hnr hrec FU this x2 v1 0 M2 hthis
set_option maxRecDepth 20000 in
set_option maxHeartbeats 4000000 in
theorem kX6_negation_B27 (l : Launch) (E : Ev) (n : Nat) (nr : Nat) (hn : nr + 5 ≤ n) (ct : Nat) (hct : 111 ≤ ct) (ex : Bool) (rec : Nat → Int32 → Mem → Option (Int32 × Mem)) (hnr : 10 ≤ nr) (hrec : ∀ n, nr ≤ n → ∀ ct, 111 ≤ ct → ∀ ex (this : Nat) (y0 : Int32) M, AM l E n ct ex yX6_either fX6_either enI [.ref (ad E this), .int y0] M (rec this y0 M)) (this : Nat) (x1 : Int32) (x2 : Int32) (M : Mem) (hthis : K0 this = (0, 6)) : AW l E fX6_negation (fun _ => rmN n 0 0) (PQr E 0 0 ct ex enI) ct ex 0 0 27 [(0, .ref (ad E this)), (1, .int x1), (2, .int x2)] [] M (zX6_negation_B27 rec this x1 x2 M) := by
  unfold zX6_negation_B27
  refine AW.iload_n (pc := 27) dX6_negation_27 rfl 2 rfl ?_
  refine AW.bipush (pc := 28) dX6_negation_28 cb_6 ?_
  refine AW.icmp_ne (pc := 30) 48 dX6_negation_30 (by decide) (fun h1 => ?_) (fun h1 => ?_)
  · refine AW.aload_n (pc := 33) dX6_negation_33 rfl 0 rfl ?_
    refine AW.ldcS (pc := 34) (i := 6) dX6_negation_34 rfl ?_
    refine AW.cV1i (pc := 36) dX6_negation_36 mlX6_69 mbX6_isWord rfl hthis (kct hthis rfl hct) (fun _ => okR_N (by omega)) (kX6_isWord l E (n - 1) (by omega) ct hct ex this 1006 M) (Nat.le_of_ble_eq_true rfl) (fun v2 M3 => ?_)
    refine AW.if_eq (pc := 39) 48 dX6_negation_39 (by decide) (fun h4 => ?_) (fun h4 => ?_)
    · exact kX6_negation_B48 l E n nr hn ct hct ex rec hnr hrec this x1 x2 M3 hthis
    · refine AW.aload_n (pc := 42) dX6_negation_42 rfl 0 rfl ?_
      refine AW.iconst (pc := 43) dX6_negation_43 ci_2 ?_
      refine AW.cV1i (pc := 44) dX6_negation_44 mlX6_114 mbX6_refuse rfl hthis (kct hthis rfl hct) (fun _ => okR_N (by omega)) (kX6_refuse l E (n - 1) (by omega) ct hct ex this 2 M3) (Nat.le_of_ble_eq_true rfl) (fun v5 M6 => ?_)
      refine AW.chk (fun g7 => ?_)
      exact AW.zret (pc := 47) dX6_negation_47 rfl g7 (fun _ _ _ => rfl) (Nat.le_refl _) (Nat.le_refl _)
  · exact kX6_negation_B48 l E n nr hn ct hct ex rec hnr hrec this x1 x2 M hthis
set_option maxRecDepth 20000 in
set_option maxHeartbeats 4000000 in
theorem kX6_negation_B2 (l : Launch) (E : Ev) (n : Nat) (nr : Nat) (hn : nr + 5 ≤ n) (ct : Nat) (hct : 111 ≤ ct) (ex : Bool) (rec : Nat → Int32 → Mem → Option (Int32 × Mem)) (hnr : 10 ≤ nr) (hrec : ∀ n, nr ≤ n → ∀ ct, 111 ≤ ct → ∀ ex (this : Nat) (y0 : Int32) M, AM l E n ct ex yX6_either fX6_either enI [.ref (ad E this), .int y0] M (rec this y0 M)) (KK2 : Nat → Int32 → Int32 → Mem → Option (Int32 × Mem)) (hKK2 : ∀ (this : Nat) (x1 : Int32) (x2 : Int32) (M : Mem) (_ : K0 this = (0, 6)), AW l E fX6_negation (fun _ => rmN n 0 0) (PQr E 0 0 ct ex enI) ct ex 0 0 2 [(0, .ref (ad E this)), (1, .int x1), (2, .int x2)] [] M (KK2 this x1 x2 M)) (this : Nat) (x1 : Int32) (x2 : Int32) (M : Mem) (hthis : K0 this = (0, 6)) : AW l E fX6_negation (fun _ => rmN n 0 0) (PQr E 0 0 ct ex enI) ct ex 0 0 2 [(0, .ref (ad E this)), (1, .int x1), (2, .int x2)] [] M (zX6_negation_B2 rec KK2 this x1 x2 M) := by
  unfold zX6_negation_B2
  refine AW.iload_n (pc := 2) dX6_negation_2 rfl 2 rfl ?_
  refine AW.bipush (pc := 3) dX6_negation_3 cb_6 ?_
  refine AW.icmp_ge (pc := 5) 27 dX6_negation_5 (by decide) (fun h1 => ?_) (fun h1 => ?_)
  · exact kX6_negation_B27 l E n nr hn ct hct ex rec hnr hrec this x1 x2 M hthis
  · refine AW.aload_n (pc := 8) dX6_negation_8 rfl 0 rfl ?_
    refine AW.ldcS (pc := 9) (i := 6) dX6_negation_9 rfl ?_
    refine AW.cV1i (pc := 11) dX6_negation_11 mlX6_69 mbX6_isWord rfl hthis (kct hthis rfl hct) (fun _ => okR_N (by omega)) (kX6_isWord l E (n - 1) (by omega) ct hct ex this 1006 M) (Nat.le_of_ble_eq_true rfl) (fun v2 M3 => ?_)
    refine AW.if_eq (pc := 14) 27 dX6_negation_14 (by decide) (fun h4 => ?_) (fun h4 => ?_)
    · exact kX6_negation_B27 l E n nr hn ct hct ex rec hnr hrec this x1 x2 M3 hthis
    · refine AW.iinc (pc := 17) (w := 2) [1, 2, 0] [(0, .ref (ad E this)), (1, .int x1), (2, .int (x2 + 1))] dX6_negation_17 rfl (inc_1 _) (by decide) rfl ?_
      refine AW.aload_n (pc := 20) dX6_negation_20 rfl 0 rfl ?_
      refine AW.cV0v (pc := 21) dX6_negation_21 mlX6_60 mbX6_advance rfl hthis (kct hthis rfl hct) (fun _ => okR_N (by omega)) (kX6_advance l E (n - 1) (by omega) ct hct ex this M3) (Nat.le_of_ble_eq_true rfl) (fun _ M5 => ?_)
      refine AW.goto (pc := 24) 2 dX6_negation_24 (by decide) ?_
      exact hKK2 this x1 (x2 + 1) M5 hthis
set_option maxRecDepth 20000 in
set_option maxHeartbeats 4000000 in
theorem kX6_negation_L2 (l : Launch) (E : Ev) (n : Nat) (nr : Nat) (hn : nr + 5 ≤ n) (ct : Nat) (hct : 111 ≤ ct) (ex : Bool) (rec : Nat → Int32 → Mem → Option (Int32 × Mem)) (hnr : 10 ≤ nr) (hrec : ∀ n, nr ≤ n → ∀ ct, 111 ≤ ct → ∀ ex (this : Nat) (y0 : Int32) M, AM l E n ct ex yX6_either fX6_either enI [.ref (ad E this), .int y0] M (rec this y0 M)) (k : Nat) : ∀ (this : Nat) (x1 : Int32) (x2 : Int32) (M : Mem) (_ : K0 this = (0, 6)), AW l E fX6_negation (fun _ => rmN n 0 0) (PQr E 0 0 ct ex enI) ct ex 0 0 2 [(0, .ref (ad E this)), (1, .int x1), (2, .int x2)] [] M (zX6_negation_L2 rec k this x1 x2 M) := by
  induction k with
  | zero => intro this x1 x2 M _; exact AW.none
  | succ k ih =>
    intro this x1 x2 M hthis
    exact kX6_negation_B2 l E n nr hn ct hct ex rec hnr hrec (zX6_negation_L2 rec k) ih this x1 x2 M hthis
set_option maxRecDepth 20000 in
set_option maxHeartbeats 4000000 in
theorem kX6_negation (l : Launch) (E : Ev) (n : Nat) (nr : Nat) (rec : Nat → Int32 → Mem → Option (Int32 × Mem)) (hnr : 10 ≤ nr) (hrec : ∀ n, nr ≤ n → ∀ ct, 111 ≤ ct → ∀ ex (this : Nat) (y0 : Int32) M, AM l E n ct ex yX6_either fX6_either enI [.ref (ad E this), .int y0] M (rec this y0 M)) (hn : nr + 5 ≤ n) (ct : Nat) (hct : 111 ≤ ct) (ex : Bool) (this : Nat) (x1 : Int32) (M : Mem) : AM l E n ct ex yX6_negation fX6_negation enI [.ref (ad E this), .int x1] M (zX6_negation rec this x1 M) := by
  unfold zX6_negation
  refine AM.of (by decide +kernel) ⟨rfl, rfl, rfl⟩ (Nat.le_of_ble_eq_true rfl) ?_
  refine AW.chk (fun hthis => ?_)
  refine AW.iconst (pc := 0) dX6_negation_0 ci_0 ?_
  refine AW.istore_n (pc := 1) [1, 2, 0] [(0, .ref (ad E this)), (1, .int x1), (2, .int 0)] dX6_negation_1 rfl (by decide) rfl ?_
  exact kX6_negation_L2 l E n nr hn ct hct ex rec hnr hrec FU this x1 0 M hthis
-- GateBox$Reader.both(I)Z
def zX6_both_B8 (rec : Nat → Int32 → Mem → Option (Int32 × Mem)) (KK8 : Nat → Int32 → Int32 → Int32 → Mem → Option (Int32 × Mem)) (this : Nat) (x1 : Int32) (x2 : Int32) (x3 : Int32) (M : Mem) : Option (Int32 × Mem) :=
  if 700 ≤ x3 then
    if x2 = 0 ∨ x2 = 1 then
    some (x2, M)
    else none
  else
    if x2 = 0 then
      if x2 = 0 ∨ x2 = 1 then
      some (x2, M)
      else none
    else
      bnd (zX6_isWord this 1014 M) fun v5 M6 =>
      if v5 = 0 then
        if x2 = 0 ∨ x2 = 1 then
        some (x2, M6)
        else none
      else
        bnd (zX6_advance this M6) fun _ M9 =>
        bnd (zX6_negation rec this x1 M9) fun v10 M11 =>
        if mR M11 this 3 ≠ 0 then
        if K0 (mR M11 this 3) = (0, 8) then
        bnd (zX8_add (mR M11 this 3) 2038 M11) fun _ M13 =>
        KK8 this x1 v10 (x3 + 1) M13
        else none
        else none
def zX6_both_L8 (rec : Nat → Int32 → Mem → Option (Int32 × Mem)) : Nat → Nat → Int32 → Int32 → Int32 → Mem → Option (Int32 × Mem)
  | 0 => fun _ _ _ _ _ => none
  | k + 1 => zX6_both_B8 rec (zX6_both_L8 rec k)
def zX6_both (rec : Nat → Int32 → Mem → Option (Int32 × Mem)) (this : Nat) (x1 : Int32) (M : Mem) : Option (Int32 × Mem) :=
  if K0 this = (0, 6) then
  bnd (zX6_negation rec this x1 M) fun v1 M2 =>
  zX6_both_L8 rec FU this x1 v1 0 M2
  else none
set_option maxRecDepth 20000 in
set_option maxHeartbeats 4000000 in
theorem kX6_both_B8 (l : Launch) (E : Ev) (n : Nat) (nr : Nat) (hn : nr + 6 ≤ n) (ct : Nat) (hct : 111 ≤ ct) (ex : Bool) (rec : Nat → Int32 → Mem → Option (Int32 × Mem)) (hnr : 10 ≤ nr) (hrec : ∀ n, nr ≤ n → ∀ ct, 111 ≤ ct → ∀ ex (this : Nat) (y0 : Int32) M, AM l E n ct ex yX6_either fX6_either enI [.ref (ad E this), .int y0] M (rec this y0 M)) (KK8 : Nat → Int32 → Int32 → Int32 → Mem → Option (Int32 × Mem)) (hKK8 : ∀ (this : Nat) (x1 : Int32) (x2 : Int32) (x3 : Int32) (M : Mem) (_ : K0 this = (0, 6)), AW l E fX6_both (fun _ => rmN n 0 0) (PQr E 0 0 ct ex enI) ct ex 0 0 8 [(0, .ref (ad E this)), (1, .int x1), (2, .int x2), (3, .int x3)] [] M (KK8 this x1 x2 x3 M)) (this : Nat) (x1 : Int32) (x2 : Int32) (x3 : Int32) (M : Mem) (hthis : K0 this = (0, 6)) : AW l E fX6_both (fun _ => rmN n 0 0) (PQr E 0 0 ct ex enI) ct ex 0 0 8 [(0, .ref (ad E this)), (1, .int x1), (2, .int x2), (3, .int x3)] [] M (zX6_both_B8 rec KK8 this x1 x2 x3 M) := by
  unfold zX6_both_B8
  refine AW.iload_n (pc := 8) dX6_both_8 rfl 3 rfl ?_
  refine AW.sipush (pc := 9) dX6_both_9 cs_700 ?_
  refine AW.icmp_ge (pc := 12) 54 dX6_both_12 (by decide) (fun h1 => ?_) (fun h1 => ?_)
  · refine AW.iload_n (pc := 54) dX6_both_54 rfl 2 rfl ?_
    refine AW.chk (fun g2 => ?_)
    exact AW.zret (pc := 55) dX6_both_55 rfl g2 (fun _ _ _ => rfl) (Nat.le_refl _) (Nat.le_refl _)
  · refine AW.iload_n (pc := 15) dX6_both_15 rfl 2 rfl ?_
    refine AW.if_eq (pc := 16) 54 dX6_both_16 (by decide) (fun h3 => ?_) (fun h3 => ?_)
    · refine AW.iload_n (pc := 54) dX6_both_54 rfl 2 rfl ?_
      refine AW.chk (fun g4 => ?_)
      exact AW.zret (pc := 55) dX6_both_55 rfl g4 (fun _ _ _ => rfl) (Nat.le_refl _) (Nat.le_refl _)
    · refine AW.aload_n (pc := 19) dX6_both_19 rfl 0 rfl ?_
      refine AW.ldcS (pc := 20) (i := 14) dX6_both_20 rfl ?_
      refine AW.cV1i (pc := 22) dX6_both_22 mlX6_69 mbX6_isWord rfl hthis (kct hthis rfl hct) (fun _ => okR_N (by omega)) (kX6_isWord l E (n - 1) (by omega) ct hct ex this 1014 M) (Nat.le_of_ble_eq_true rfl) (fun v5 M6 => ?_)
      refine AW.if_eq (pc := 25) 54 dX6_both_25 (by decide) (fun h7 => ?_) (fun h7 => ?_)
      · refine AW.iload_n (pc := 54) dX6_both_54 rfl 2 rfl ?_
        refine AW.chk (fun g8 => ?_)
        exact AW.zret (pc := 55) dX6_both_55 rfl g8 (fun _ _ _ => rfl) (Nat.le_refl _) (Nat.le_refl _)
      · refine AW.aload_n (pc := 28) dX6_both_28 rfl 0 rfl ?_
        refine AW.cV0v (pc := 29) dX6_both_29 mlX6_60 mbX6_advance rfl hthis (kct hthis rfl hct) (fun _ => okR_N (by omega)) (kX6_advance l E (n - 1) (by omega) ct hct ex this M6) (Nat.le_of_ble_eq_true rfl) (fun _ M9 => ?_)
        refine AW.aload_n (pc := 32) dX6_both_32 rfl 0 rfl ?_
        refine AW.iload_n (pc := 33) dX6_both_33 rfl 1 rfl ?_
        refine AW.cV1i (pc := 34) dX6_both_34 mlX6_170 mbX6_negation rfl hthis (kct hthis rfl hct) (fun _ => okR_N (by omega)) (kX6_negation l E (n - 1) nr rec hnr hrec (by omega) ct hct ex this x1 M9) (Nat.le_of_ble_eq_true rfl) (fun v10 M11 => ?_)
        refine AW.istore_n (pc := 37) [1, 2, 0, 3] [(0, .ref (ad E this)), (1, .int x1), (2, .int v10), (3, .int x3)] dX6_both_37 rfl (by decide) rfl ?_
        refine AW.aload_n (pc := 38) dX6_both_38 rfl 0 rfl ?_
        refine AW.chk (fun g12 => ?_)
        refine AW.getR (pc := 39) dX6_both_39 flX6_25 hthis (kct hthis rfl hct) g12 ?_
        refine AW.sipush (pc := 42) dX6_both_42 cs_2038 ?_
        refine AW.chk (fun g14 => ?_)
        refine AW.cV1v (pc := 45) dX6_both_45 mlX6_166 mbX8_add rfl g14 (kct g14 rfl hct) (fun _ => okR_N (by omega)) (kX8_add l E (n - 1) (by omega) ct hct ex (mR M11 this 3) 2038 M11) (Nat.le_of_ble_eq_true rfl) (fun _ M13 => ?_)
        refine AW.iinc (pc := 48) (w := 3) [1, 2, 3, 0] [(0, .ref (ad E this)), (1, .int x1), (2, .int v10), (3, .int (x3 + 1))] dX6_both_48 rfl (inc_1 _) (by decide) rfl ?_
        refine AW.goto (pc := 51) 8 dX6_both_51 (by decide) ?_
        exact hKK8 this x1 v10 (x3 + 1) M13 hthis
set_option maxRecDepth 20000 in
set_option maxHeartbeats 4000000 in
theorem kX6_both_L8 (l : Launch) (E : Ev) (n : Nat) (nr : Nat) (hn : nr + 6 ≤ n) (ct : Nat) (hct : 111 ≤ ct) (ex : Bool) (rec : Nat → Int32 → Mem → Option (Int32 × Mem)) (hnr : 10 ≤ nr) (hrec : ∀ n, nr ≤ n → ∀ ct, 111 ≤ ct → ∀ ex (this : Nat) (y0 : Int32) M, AM l E n ct ex yX6_either fX6_either enI [.ref (ad E this), .int y0] M (rec this y0 M)) (k : Nat) : ∀ (this : Nat) (x1 : Int32) (x2 : Int32) (x3 : Int32) (M : Mem) (_ : K0 this = (0, 6)), AW l E fX6_both (fun _ => rmN n 0 0) (PQr E 0 0 ct ex enI) ct ex 0 0 8 [(0, .ref (ad E this)), (1, .int x1), (2, .int x2), (3, .int x3)] [] M (zX6_both_L8 rec k this x1 x2 x3 M) := by
  induction k with
  | zero => intro this x1 x2 x3 M _; exact AW.none
  | succ k ih =>
    intro this x1 x2 x3 M hthis
    exact kX6_both_B8 l E n nr hn ct hct ex rec hnr hrec (zX6_both_L8 rec k) ih this x1 x2 x3 M hthis
set_option maxRecDepth 20000 in
set_option maxHeartbeats 4000000 in
theorem kX6_both (l : Launch) (E : Ev) (n : Nat) (nr : Nat) (rec : Nat → Int32 → Mem → Option (Int32 × Mem)) (hnr : 10 ≤ nr) (hrec : ∀ n, nr ≤ n → ∀ ct, 111 ≤ ct → ∀ ex (this : Nat) (y0 : Int32) M, AM l E n ct ex yX6_either fX6_either enI [.ref (ad E this), .int y0] M (rec this y0 M)) (hn : nr + 6 ≤ n) (ct : Nat) (hct : 111 ≤ ct) (ex : Bool) (this : Nat) (x1 : Int32) (M : Mem) : AM l E n ct ex yX6_both fX6_both enI [.ref (ad E this), .int x1] M (zX6_both rec this x1 M) := by
  unfold zX6_both
  refine AM.of (by decide +kernel) ⟨rfl, rfl, rfl⟩ (Nat.le_of_ble_eq_true rfl) ?_
  refine AW.chk (fun hthis => ?_)
  refine AW.aload_n (pc := 0) dX6_both_0 rfl 0 rfl ?_
  refine AW.iload_n (pc := 1) dX6_both_1 rfl 1 rfl ?_
  refine AW.cV1i (pc := 2) dX6_both_2 mlX6_170 mbX6_negation rfl hthis (kct hthis rfl hct) (fun _ => okR_N (by omega)) (kX6_negation l E (n - 1) nr rec hnr hrec (by omega) ct hct ex this x1 M) (Nat.le_of_ble_eq_true rfl) (fun v1 M2 => ?_)
  refine AW.istore_n (pc := 5) [1, 2, 0] [(0, .ref (ad E this)), (1, .int x1), (2, .int v1)] dX6_both_5 rfl (by decide) rfl ?_
  refine AW.iconst (pc := 6) dX6_both_6 ci_0 ?_
  refine AW.istore_n (pc := 7) [1, 2, 3, 0] [(0, .ref (ad E this)), (1, .int x1), (2, .int v1), (3, .int 0)] dX6_both_7 rfl (by decide) rfl ?_
  exact kX6_both_L8 l E n nr hn ct hct ex rec hnr hrec FU this x1 v1 0 M2 hthis
-- GateBox$Reader.either(I)Z
def zX6_either_B48 (rec : Nat → Int32 → Mem → Option (Int32 × Mem)) (KK48 : Nat → Int32 → Int32 → Int32 → Mem → Option (Int32 × Mem)) (this : Nat) (x1 : Int32) (x2 : Int32) (x3 : Int32) (M : Mem) : Option (Int32 × Mem) :=
  if 700 ≤ x3 then
    if x2 = 0 ∨ x2 = 1 then
    some (x2, M)
    else none
  else
    if x2 = 0 then
      if x2 = 0 ∨ x2 = 1 then
      some (x2, M)
      else none
    else
      bnd (zX6_isWord this 1015 M) fun v5 M6 =>
      if v5 = 0 then
        if x2 = 0 ∨ x2 = 1 then
        some (x2, M6)
        else none
      else
        bnd (zX6_advance this M6) fun _ M9 =>
        bnd (zX6_both rec this x1 M9) fun v10 M11 =>
        if mR M11 this 3 ≠ 0 then
        if K0 (mR M11 this 3) = (0, 8) then
        bnd (zX8_add (mR M11 this 3) 2124 M11) fun _ M13 =>
        KK48 this x1 v10 (x3 + 1) M13
        else none
        else none
def zX6_either_L48 (rec : Nat → Int32 → Mem → Option (Int32 × Mem)) : Nat → Nat → Int32 → Int32 → Int32 → Mem → Option (Int32 × Mem)
  | 0 => fun _ _ _ _ _ => none
  | k + 1 => zX6_either_B48 rec (zX6_either_L48 rec k)
def zX6_either_B36 (rec : Nat → Int32 → Mem → Option (Int32 × Mem)) (s0 : Nat) (s1 : Int32) (M : Mem) : Option (Int32 × Mem) :=
  if K0 s0 = (0, 6) then
  bnd (zX6_refuse s0 s1 M) fun v1 M2 =>
  if v1 = 0 ∨ v1 = 1 then
  some (v1, M2)
  else none
  else none
def zX6_either_B31 (rec : Nat → Int32 → Mem → Option (Int32 × Mem)) (s0 : Nat) (M : Mem) : Option (Int32 × Mem) :=
  zX6_either_B36 rec s0 2 M
def zX6_either_R (rec : Nat → Int32 → Mem → Option (Int32 × Mem)) (this : Nat) (x1 : Int32) (M : Mem) : Option (Int32 × Mem) :=
  if K0 this = (0, 6) then
  if x1 ≤ 5 then
    bnd (zX6_both rec this x1 M) fun v2 M3 =>
    zX6_either_L48 rec FU this x1 v2 0 M3
  else
    if (mI M this 7) = 2 then
      zX6_either_B31 rec this M
    else
      if (mI M this 7) = 1 then
        zX6_either_B31 rec this M
      else
        if (mI M this 7) = 40 then
          zX6_either_B31 rec this M
        else
          zX6_either_B36 rec this 1 M
  else none
def zX6_either : Nat → Nat → Int32 → Mem → Option (Int32 × Mem)
  | 0 => fun _ _ _ => none
  | k + 1 => zX6_either_R (zX6_either k)
set_option maxRecDepth 20000 in
set_option maxHeartbeats 4000000 in
theorem kX6_either_B48 (l : Launch) (E : Ev) (n : Nat) (nr : Nat) (hn : nr + 7 ≤ n) (ct : Nat) (hct : 111 ≤ ct) (ex : Bool) (rec : Nat → Int32 → Mem → Option (Int32 × Mem)) (hnr : 10 ≤ nr) (hrec : ∀ n, nr ≤ n → ∀ ct, 111 ≤ ct → ∀ ex (this : Nat) (y0 : Int32) M, AM l E n ct ex yX6_either fX6_either enI [.ref (ad E this), .int y0] M (rec this y0 M)) (KK48 : Nat → Int32 → Int32 → Int32 → Mem → Option (Int32 × Mem)) (hKK48 : ∀ (this : Nat) (x1 : Int32) (x2 : Int32) (x3 : Int32) (M : Mem) (_ : K0 this = (0, 6)), AW l E fX6_either (fun _ => rmN n 0 0) (PQr E 0 0 ct ex enI) ct ex 0 0 48 [(0, .ref (ad E this)), (1, .int x1), (2, .int x2), (3, .int x3)] [] M (KK48 this x1 x2 x3 M)) (this : Nat) (x1 : Int32) (x2 : Int32) (x3 : Int32) (M : Mem) (hthis : K0 this = (0, 6)) : AW l E fX6_either (fun _ => rmN n 0 0) (PQr E 0 0 ct ex enI) ct ex 0 0 48 [(0, .ref (ad E this)), (1, .int x1), (2, .int x2), (3, .int x3)] [] M (zX6_either_B48 rec KK48 this x1 x2 x3 M) := by
  unfold zX6_either_B48
  refine AW.iload_n (pc := 48) dX6_either_48 rfl 3 rfl ?_
  refine AW.sipush (pc := 49) dX6_either_49 cs_700 ?_
  refine AW.icmp_ge (pc := 52) 94 dX6_either_52 (by decide) (fun h1 => ?_) (fun h1 => ?_)
  · refine AW.iload_n (pc := 94) dX6_either_94 rfl 2 rfl ?_
    refine AW.chk (fun g2 => ?_)
    exact AW.zret (pc := 95) dX6_either_95 rfl g2 (fun _ _ _ => rfl) (Nat.le_refl _) (Nat.le_refl _)
  · refine AW.iload_n (pc := 55) dX6_either_55 rfl 2 rfl ?_
    refine AW.if_eq (pc := 56) 94 dX6_either_56 (by decide) (fun h3 => ?_) (fun h3 => ?_)
    · refine AW.iload_n (pc := 94) dX6_either_94 rfl 2 rfl ?_
      refine AW.chk (fun g4 => ?_)
      exact AW.zret (pc := 95) dX6_either_95 rfl g4 (fun _ _ _ => rfl) (Nat.le_refl _) (Nat.le_refl _)
    · refine AW.aload_n (pc := 59) dX6_either_59 rfl 0 rfl ?_
      refine AW.ldcS (pc := 60) (i := 15) dX6_either_60 rfl ?_
      refine AW.cV1i (pc := 62) dX6_either_62 mlX6_69 mbX6_isWord rfl hthis (kct hthis rfl hct) (fun _ => okR_N (by omega)) (kX6_isWord l E (n - 1) (by omega) ct hct ex this 1015 M) (Nat.le_of_ble_eq_true rfl) (fun v5 M6 => ?_)
      refine AW.if_eq (pc := 65) 94 dX6_either_65 (by decide) (fun h7 => ?_) (fun h7 => ?_)
      · refine AW.iload_n (pc := 94) dX6_either_94 rfl 2 rfl ?_
        refine AW.chk (fun g8 => ?_)
        exact AW.zret (pc := 95) dX6_either_95 rfl g8 (fun _ _ _ => rfl) (Nat.le_refl _) (Nat.le_refl _)
      · refine AW.aload_n (pc := 68) dX6_either_68 rfl 0 rfl ?_
        refine AW.cV0v (pc := 69) dX6_either_69 mlX6_60 mbX6_advance rfl hthis (kct hthis rfl hct) (fun _ => okR_N (by omega)) (kX6_advance l E (n - 1) (by omega) ct hct ex this M6) (Nat.le_of_ble_eq_true rfl) (fun _ M9 => ?_)
        refine AW.aload_n (pc := 72) dX6_either_72 rfl 0 rfl ?_
        refine AW.iload_n (pc := 73) dX6_either_73 rfl 1 rfl ?_
        refine AW.cV1i (pc := 74) dX6_either_74 mlX6_161 mbX6_both rfl hthis (kct hthis rfl hct) (fun _ => okR_N (by omega)) (kX6_both l E (n - 1) nr rec hnr hrec (by omega) ct hct ex this x1 M9) (Nat.le_of_ble_eq_true rfl) (fun v10 M11 => ?_)
        refine AW.istore_n (pc := 77) [1, 2, 0, 3] [(0, .ref (ad E this)), (1, .int x1), (2, .int v10), (3, .int x3)] dX6_either_77 rfl (by decide) rfl ?_
        refine AW.aload_n (pc := 78) dX6_either_78 rfl 0 rfl ?_
        refine AW.chk (fun g12 => ?_)
        refine AW.getR (pc := 79) dX6_either_79 flX6_25 hthis (kct hthis rfl hct) g12 ?_
        refine AW.sipush (pc := 82) dX6_either_82 cs_2124 ?_
        refine AW.chk (fun g14 => ?_)
        refine AW.cV1v (pc := 85) dX6_either_85 mlX6_166 mbX8_add rfl g14 (kct g14 rfl hct) (fun _ => okR_N (by omega)) (kX8_add l E (n - 1) (by omega) ct hct ex (mR M11 this 3) 2124 M11) (Nat.le_of_ble_eq_true rfl) (fun _ M13 => ?_)
        refine AW.iinc (pc := 88) (w := 3) [1, 2, 3, 0] [(0, .ref (ad E this)), (1, .int x1), (2, .int v10), (3, .int (x3 + 1))] dX6_either_88 rfl (inc_1 _) (by decide) rfl ?_
        refine AW.goto (pc := 91) 48 dX6_either_91 (by decide) ?_
        exact hKK48 this x1 v10 (x3 + 1) M13 hthis
set_option maxRecDepth 20000 in
set_option maxHeartbeats 4000000 in
theorem kX6_either_L48 (l : Launch) (E : Ev) (n : Nat) (nr : Nat) (hn : nr + 7 ≤ n) (ct : Nat) (hct : 111 ≤ ct) (ex : Bool) (rec : Nat → Int32 → Mem → Option (Int32 × Mem)) (hnr : 10 ≤ nr) (hrec : ∀ n, nr ≤ n → ∀ ct, 111 ≤ ct → ∀ ex (this : Nat) (y0 : Int32) M, AM l E n ct ex yX6_either fX6_either enI [.ref (ad E this), .int y0] M (rec this y0 M)) (k : Nat) : ∀ (this : Nat) (x1 : Int32) (x2 : Int32) (x3 : Int32) (M : Mem) (_ : K0 this = (0, 6)), AW l E fX6_either (fun _ => rmN n 0 0) (PQr E 0 0 ct ex enI) ct ex 0 0 48 [(0, .ref (ad E this)), (1, .int x1), (2, .int x2), (3, .int x3)] [] M (zX6_either_L48 rec k this x1 x2 x3 M) := by
  induction k with
  | zero => intro this x1 x2 x3 M _; exact AW.none
  | succ k ih =>
    intro this x1 x2 x3 M hthis
    exact kX6_either_B48 l E n nr hn ct hct ex rec hnr hrec (zX6_either_L48 rec k) ih this x1 x2 x3 M hthis
set_option maxRecDepth 20000 in
set_option maxHeartbeats 4000000 in
theorem kX6_either_B36 (l : Launch) (E : Ev) (n : Nat) (nr : Nat) (hn : nr + 7 ≤ n) (ct : Nat) (hct : 111 ≤ ct) (ex : Bool) (rec : Nat → Int32 → Mem → Option (Int32 × Mem)) (hnr : 10 ≤ nr) (hrec : ∀ n, nr ≤ n → ∀ ct, 111 ≤ ct → ∀ ex (this : Nat) (y0 : Int32) M, AM l E n ct ex yX6_either fX6_either enI [.ref (ad E this), .int y0] M (rec this y0 M)) (s0 : Nat) (s1 : Int32) (M : Mem) : AW l E fX6_either (fun _ => rmN n 0 0) (PQr E 0 0 ct ex enI) ct ex 0 0 36 [] [.int s1, .ref (ad E s0)] M (zX6_either_B36 rec s0 s1 M) := by
  unfold zX6_either_B36
  refine AW.chk (fun g3 => ?_)
  refine AW.cV1i (pc := 36) dX6_either_36 mlX6_114 mbX6_refuse rfl g3 (kct g3 rfl hct) (fun _ => okR_N (by omega)) (kX6_refuse l E (n - 1) (by omega) ct hct ex s0 s1 M) (Nat.le_of_ble_eq_true rfl) (fun v1 M2 => ?_)
  refine AW.chk (fun g4 => ?_)
  exact AW.zret (pc := 39) dX6_either_39 rfl g4 (fun _ _ _ => rfl) (Nat.le_refl _) (Nat.le_refl _)
set_option maxRecDepth 20000 in
set_option maxHeartbeats 4000000 in
theorem kX6_either_B31 (l : Launch) (E : Ev) (n : Nat) (nr : Nat) (hn : nr + 7 ≤ n) (ct : Nat) (hct : 111 ≤ ct) (ex : Bool) (rec : Nat → Int32 → Mem → Option (Int32 × Mem)) (hnr : 10 ≤ nr) (hrec : ∀ n, nr ≤ n → ∀ ct, 111 ≤ ct → ∀ ex (this : Nat) (y0 : Int32) M, AM l E n ct ex yX6_either fX6_either enI [.ref (ad E this), .int y0] M (rec this y0 M)) (s0 : Nat) (M : Mem) : AW l E fX6_either (fun _ => rmN n 0 0) (PQr E 0 0 ct ex enI) ct ex 0 0 31 [] [.ref (ad E s0)] M (zX6_either_B31 rec s0 M) := by
  unfold zX6_either_B31
  refine AW.iconst (pc := 31) dX6_either_31 ci_2 ?_
  refine AW.goto (pc := 32) 36 dX6_either_32 (by decide) ?_
  exact kX6_either_B36 l E n nr hn ct hct ex rec hnr hrec s0 2 M
set_option maxRecDepth 20000 in
set_option maxHeartbeats 4000000 in
theorem kX6_either_R (l : Launch) (E : Ev) (n : Nat) (nr : Nat) (rec : Nat → Int32 → Mem → Option (Int32 × Mem)) (hnr : 10 ≤ nr) (hrec : ∀ n, nr ≤ n → ∀ ct, 111 ≤ ct → ∀ ex (this : Nat) (y0 : Int32) M, AM l E n ct ex yX6_either fX6_either enI [.ref (ad E this), .int y0] M (rec this y0 M)) (hn : nr + 7 ≤ n) (ct : Nat) (hct : 111 ≤ ct) (ex : Bool) (this : Nat) (x1 : Int32) (M : Mem) : AM l E n ct ex yX6_either fX6_either enI [.ref (ad E this), .int x1] M (zX6_either_R rec this x1 M) := by
  unfold zX6_either_R
  refine AM.of (by decide +kernel) ⟨rfl, rfl, rfl⟩ (Nat.le_of_ble_eq_true rfl) ?_
  refine AW.chk (fun hthis => ?_)
  refine AW.iload_n (pc := 0) dX6_either_0 rfl 1 rfl ?_
  refine AW.iconst (pc := 1) dX6_either_1 ci_5 ?_
  refine AW.icmp_le (pc := 2) 40 dX6_either_2 (by decide) (fun h1 => ?_) (fun h1 => ?_)
  · refine AW.aload_n (pc := 40) dX6_either_40 rfl 0 rfl ?_
    refine AW.iload_n (pc := 41) dX6_either_41 rfl 1 rfl ?_
    refine AW.cV1i (pc := 42) dX6_either_42 mlX6_161 mbX6_both rfl hthis (kct hthis rfl hct) (fun _ => okR_N (by omega)) (kX6_both l E (n - 1) nr rec hnr hrec (by omega) ct hct ex this x1 M) (Nat.le_of_ble_eq_true rfl) (fun v2 M3 => ?_)
    refine AW.istore_n (pc := 45) [1, 2, 0] [(0, .ref (ad E this)), (1, .int x1), (2, .int v2)] dX6_either_45 rfl (by decide) rfl ?_
    refine AW.iconst (pc := 46) dX6_either_46 ci_0 ?_
    refine AW.istore_n (pc := 47) [1, 2, 3, 0] [(0, .ref (ad E this)), (1, .int x1), (2, .int v2), (3, .int 0)] dX6_either_47 rfl (by decide) rfl ?_
    exact kX6_either_L48 l E n nr hn ct hct ex rec hnr hrec FU this x1 v2 0 M3 hthis
  · refine AW.aload_n (pc := 5) dX6_either_5 rfl 0 rfl ?_
    refine AW.aload_n (pc := 6) dX6_either_6 rfl 0 rfl ?_
    refine AW.getI (pc := 7) dX6_either_7 flX6_38 hthis (kct hthis rfl hct) ?_
    refine AW.iconst (pc := 10) dX6_either_10 ci_2 ?_
    refine AW.icmp_eq (pc := 11) 31 dX6_either_11 (by decide) (fun h4 => ?_) (fun h4 => ?_)
    · exact AW.sub [] rfl (kX6_either_B31 l E n nr hn ct hct ex rec hnr hrec this M)
    · refine AW.aload_n (pc := 14) dX6_either_14 rfl 0 rfl ?_
      refine AW.getI (pc := 15) dX6_either_15 flX6_38 hthis (kct hthis rfl hct) ?_
      refine AW.iconst (pc := 18) dX6_either_18 ci_1 ?_
      refine AW.icmp_eq (pc := 19) 31 dX6_either_19 (by decide) (fun h5 => ?_) (fun h5 => ?_)
      · exact AW.sub [] rfl (kX6_either_B31 l E n nr hn ct hct ex rec hnr hrec this M)
      · refine AW.aload_n (pc := 22) dX6_either_22 rfl 0 rfl ?_
        refine AW.getI (pc := 23) dX6_either_23 flX6_38 hthis (kct hthis rfl hct) ?_
        refine AW.bipush (pc := 26) dX6_either_26 cb_40 ?_
        refine AW.icmp_ne (pc := 28) 35 dX6_either_28 (by decide) (fun h6 => ?_) (fun h6 => ?_)
        · exact AW.sub [] rfl (kX6_either_B31 l E n nr hn ct hct ex rec hnr hrec this M)
        · refine AW.iconst (pc := 35) dX6_either_35 ci_1 ?_
          exact AW.sub [] rfl (kX6_either_B36 l E n nr hn ct hct ex rec hnr hrec this 1 M)
set_option maxRecDepth 20000 in
set_option maxHeartbeats 4000000 in
theorem kX6_either (l : Launch) (E : Ev) (k : Nat) : ∀ (n : Nat) (_ : 10 + 7 * k ≤ n) (ct : Nat) (_ : 111 ≤ ct) (ex : Bool) (this : Nat) (x1 : Int32) (M : Mem), AM l E n ct ex yX6_either fX6_either enI [.ref (ad E this), .int x1] M (zX6_either k this x1 M) := by
  induction k with
  | zero => intro n _ ct _ ex this x1 M x M9 hF; cases hF
  | succ k ih =>
    intro n hn ct hct ex this x1 M
    exact kX6_either_R l E n (10 + 7 * k) (zX6_either k) (by omega) (fun n9 h9 ct9 h8 ex9 this x1 M9 => ih n9 h9 ct9 h8 ex9 this x1 M9) (by omega) ct hct ex this x1 M
-- GateBox$Rules.closeSort()V
def zX8_closeSort (this : Nat) (M : Mem) : Option (Unit × Mem) :=
  if K0 this = (0, 8) then
  if mR M this 7 ≠ 0 then
  bnd (zX11_at (mR M this 7) (mI M this 0) M) fun v2 M3 =>
  lt (sI M3 this 1 ((mI M this 1) + v2)) fun M4 =>
  lt (sI M4 this 0 ((mI M4 this 0) + 1)) fun M5 =>
  if mR M5 this 10 ≠ 0 then
  bnd (zX11_put (mR M5 this 10) (mI M5 this 0) (mI M5 this 6) M5) fun _ M7 =>
  some ((), M7)
  else none
  else none
  else none
set_option maxRecDepth 20000 in
set_option maxHeartbeats 4000000 in
theorem kX8_closeSort (l : Launch) (E : Ev) (n : Nat) (hn : 2 ≤ n) (ct : Nat) (hct : 111 ≤ ct) (ex : Bool) (this : Nat) (M : Mem) : AM l E n ct ex yX8_closeSort fX8_closeSort enU [.ref (ad E this)] M (zX8_closeSort this M) := by
  unfold zX8_closeSort
  refine AM.of (by decide +kernel) ⟨rfl, rfl, rfl⟩ (Nat.le_of_ble_eq_true rfl) ?_
  refine AW.chk (fun hthis => ?_)
  refine AW.aload_n (pc := 0) dX8_closeSort_0 rfl 0 rfl ?_
  refine AW.dup (pc := 1) dX8_closeSort_1 rfl ?_
  refine AW.getI (pc := 2) dX8_closeSort_2 flX8_15 hthis (kct hthis rfl hct) ?_
  refine AW.aload_n (pc := 5) dX8_closeSort_5 rfl 0 rfl ?_
  refine AW.chk (fun g1 => ?_)
  refine AW.getR (pc := 6) dX8_closeSort_6 flX8_33 hthis (kct hthis rfl hct) g1 ?_
  refine AW.aload_n (pc := 9) dX8_closeSort_9 rfl 0 rfl ?_
  refine AW.getI (pc := 10) dX8_closeSort_10 flX8_9 hthis (kct hthis rfl hct) ?_
  refine AW.cN2i (pc := 13) dX8_closeSort_13 nlX8_79 mbX11_at (fun _ => okR_N (by omega)) (kX11_at l E (n - 1) (by omega) ct hct ex (mR M this 7) (mI M this 0) M) (Nat.le_of_ble_eq_true rfl) (fun v2 M3 => ?_)
  refine AW.iadd (pc := 16) dX8_closeSort_16 ?_
  refine AW.putI (pc := 17) dX8_closeSort_17 flX8_15 hthis (kct hthis rfl hct) ?_
  refine AW.genM (fun M4 => ?_)
  refine AW.aload_n (pc := 20) dX8_closeSort_20 rfl 0 rfl ?_
  refine AW.dup (pc := 21) dX8_closeSort_21 rfl ?_
  refine AW.getI (pc := 22) dX8_closeSort_22 flX8_9 hthis (kct hthis rfl hct) ?_
  refine AW.iconst (pc := 25) dX8_closeSort_25 ci_1 ?_
  refine AW.iadd (pc := 26) dX8_closeSort_26 ?_
  refine AW.putI (pc := 27) dX8_closeSort_27 flX8_9 hthis (kct hthis rfl hct) ?_
  refine AW.genM (fun M5 => ?_)
  refine AW.aload_n (pc := 30) dX8_closeSort_30 rfl 0 rfl ?_
  refine AW.chk (fun g6 => ?_)
  refine AW.getR (pc := 31) dX8_closeSort_31 flX8_43 hthis (kct hthis rfl hct) g6 ?_
  refine AW.aload_n (pc := 34) dX8_closeSort_34 rfl 0 rfl ?_
  refine AW.getI (pc := 35) dX8_closeSort_35 flX8_9 hthis (kct hthis rfl hct) ?_
  refine AW.aload_n (pc := 38) dX8_closeSort_38 rfl 0 rfl ?_
  refine AW.getI (pc := 39) dX8_closeSort_39 flX8_30 hthis (kct hthis rfl hct) ?_
  refine AW.cN3v (pc := 42) dX8_closeSort_42 nlX8_71 mbX11_put (fun _ => okR_N (by omega)) (kX11_put l E (n - 1) (by omega) ct hct ex (mR M5 this 10) (mI M5 this 0) (mI M5 this 6) M5) (Nat.le_of_ble_eq_true rfl) (fun _ M7 => ?_)
  exact AW.vret (pc := 45) dX8_closeSort_45 rfl (fun _ _ _ => rfl) (Nat.le_refl _) (Nat.le_refl _)
-- GateBox$Reader.sortClause()Z
def zX6_sortClause (this : Nat) (M : Mem) : Option (Int32 × Mem) :=
  if K0 this = (0, 6) then
  if mR M this 3 ≠ 0 then
  if K0 (mR M this 3) = (0, 8) then
  lt (mI M (mR M this 3) 0) fun v3 =>
  if v3 < 8 then
    bnd (zX6_advance this M) fun _ M5 =>
    bnd (zX6_numberFrom this 1 99 M5) fun v6 M7 =>
    if v6 = 0 then
      some (0, M7)
    else
      if mR M7 this 3 ≠ 0 then
      if K0 (mR M7 this 3) = (0, 8) then
      if mR M7 (mR M7 this 3) 7 ≠ 0 then
      bnd (zX11_put (mR M7 (mR M7 this 3) 7) v3 (mI M7 this 9) M7) fun _ M12 =>
      bnd (zX6_word this 1003 M12) fun v13 M14 =>
      if v13 = 0 then
        some (0, M14)
      else
        bnd (zX6_numberFrom this 0 99 M14) fun v16 M17 =>
        if v16 = 0 then
          some (0, M17)
        else
          if mR M17 this 3 ≠ 0 then
          if K0 (mR M17 this 3) = (0, 8) then
          if mR M17 (mR M17 this 3) 8 ≠ 0 then
          bnd (zX11_put (mR M17 (mR M17 this 3) 8) v3 (mI M17 this 9) M17) fun _ M22 =>
          bnd (zX6_word this 1004 M22) fun v23 M24 =>
          if v23 = 0 then
            some (0, M24)
          else
            bnd (zX6_numberFrom this 0 9 M24) fun v26 M27 =>
            if v26 = 0 then
              some (0, M27)
            else
              if mR M27 this 3 ≠ 0 then
              if K0 (mR M27 this 3) = (0, 8) then
              if mR M27 (mR M27 this 3) 9 ≠ 0 then
              bnd (zX11_put (mR M27 (mR M27 this 3) 9) v3 (mI M27 this 9) M27) fun _ M32 =>
              bnd (zX6_word this 1005 M32) fun v33 M34 =>
              if v33 = 0 then
                some (0, M34)
              else
                bnd (zX6_either RD this 0 M34) fun v36 M37 =>
                if v36 = 0 then
                  some (0, M37)
                else
                  if mR M37 this 3 ≠ 0 then
                  if K0 (mR M37 this 3) = (0, 8) then
                  bnd (zX8_closeSort (mR M37 this 3) M37) fun _ M40 =>
                  some (1, M40)
                  else none
                  else none
              else none
              else none
              else none
          else none
          else none
          else none
      else none
      else none
      else none
  else
    bnd (zX6_refuse this 2 M) fun v42 M43 =>
    if v42 = 0 ∨ v42 = 1 then
    some (v42, M43)
    else none
  else none
  else none
  else none
set_option maxRecDepth 20000 in
set_option maxHeartbeats 4000000 in
theorem kX6_sortClause (l : Launch) (E : Ev) (n : Nat) (hn : 95 ≤ n) (ct : Nat) (hct : 111 ≤ ct) (ex : Bool) (this : Nat) (M : Mem) : AM l E n ct ex yX6_sortClause fX6_sortClause enI [.ref (ad E this)] M (zX6_sortClause this M) := by
  unfold zX6_sortClause
  refine AM.of (by decide +kernel) ⟨rfl, rfl, rfl⟩ (Nat.le_of_ble_eq_true rfl) ?_
  refine AW.chk (fun hthis => ?_)
  refine AW.aload_n (pc := 0) dX6_sortClause_0 rfl 0 rfl ?_
  refine AW.chk (fun g1 => ?_)
  refine AW.getR (pc := 1) dX6_sortClause_1 flX6_25 hthis (kct hthis rfl hct) g1 ?_
  refine AW.chk (fun g2 => ?_)
  refine AW.getI (pc := 4) dX6_sortClause_4 flX6_120 g2 (kct g2 rfl hct) ?_
  refine AW.genI (fun v3 => ?_)
  refine AW.istore_n (pc := 7) [1, 0] [(0, .ref (ad E this)), (1, .int v3)] dX6_sortClause_7 rfl (by decide) rfl ?_
  refine AW.iload_n (pc := 8) dX6_sortClause_8 rfl 1 rfl ?_
  refine AW.bipush (pc := 9) dX6_sortClause_9 cb_8 ?_
  refine AW.icmp_lt (pc := 11) 20 dX6_sortClause_11 (by decide) (fun h4 => ?_) (fun h4 => ?_)
  · refine AW.aload_n (pc := 20) dX6_sortClause_20 rfl 0 rfl ?_
    refine AW.cV0v (pc := 21) dX6_sortClause_21 mlX6_60 mbX6_advance rfl hthis (kct hthis rfl hct) (fun _ => okR_N (by omega)) (kX6_advance l E (n - 1) (by omega) ct hct ex this M) (Nat.le_of_ble_eq_true rfl) (fun _ M5 => ?_)
    refine AW.aload_n (pc := 24) dX6_sortClause_24 rfl 0 rfl ?_
    refine AW.iconst (pc := 25) dX6_sortClause_25 ci_1 ?_
    refine AW.bipush (pc := 26) dX6_sortClause_26 cb_99 ?_
    refine AW.cV2i (pc := 28) dX6_sortClause_28 mlX6_123 mbX6_numberFrom rfl hthis (kct hthis rfl hct) (fun _ => okR_N (by omega)) (kX6_numberFrom l E (n - 1) (by omega) ct hct ex this 1 99 M5) (Nat.le_of_ble_eq_true rfl) (fun v6 M7 => ?_)
    refine AW.if_ne (pc := 31) 36 dX6_sortClause_31 (by decide) (fun h8 => ?_) (fun h8 => ?_)
    · refine AW.iconst (pc := 34) dX6_sortClause_34 ci_0 ?_
      exact AW.zret (pc := 35) dX6_sortClause_35 rfl (Or.inl rfl) (fun _ _ _ => rfl) (Nat.le_refl _) (Nat.le_refl _)
    · refine AW.aload_n (pc := 36) dX6_sortClause_36 rfl 0 rfl ?_
      refine AW.chk (fun g9 => ?_)
      refine AW.getR (pc := 37) dX6_sortClause_37 flX6_25 hthis (kct hthis rfl hct) g9 ?_
      refine AW.chk (fun g10 => ?_)
      refine AW.chk (fun g11 => ?_)
      refine AW.getR (pc := 40) dX6_sortClause_40 flX6_127 g10 (kct g10 rfl hct) g11 ?_
      refine AW.iload_n (pc := 43) dX6_sortClause_43 rfl 1 rfl ?_
      refine AW.aload_n (pc := 44) dX6_sortClause_44 rfl 0 rfl ?_
      refine AW.getI (pc := 45) dX6_sortClause_45 flX6_44 hthis (kct hthis rfl hct) ?_
      refine AW.cN3v (pc := 48) dX6_sortClause_48 nlX6_53 mbX11_put (fun _ => okR_N (by omega)) (kX11_put l E (n - 1) (by omega) ct hct ex (mR M7 (mR M7 this 3) 7) v3 (mI M7 this 9) M7) (Nat.le_of_ble_eq_true rfl) (fun _ M12 => ?_)
      refine AW.aload_n (pc := 51) dX6_sortClause_51 rfl 0 rfl ?_
      refine AW.ldcS (pc := 52) (i := 3) dX6_sortClause_52 rfl ?_
      refine AW.cV1i (pc := 54) dX6_sortClause_54 mlX6_132 mbX6_word rfl hthis (kct hthis rfl hct) (fun _ => okR_N (by omega)) (kX6_word l E (n - 1) (by omega) ct hct ex this 1003 M12) (Nat.le_of_ble_eq_true rfl) (fun v13 M14 => ?_)
      refine AW.if_eq (pc := 57) 70 dX6_sortClause_57 (by decide) (fun h15 => ?_) (fun h15 => ?_)
      · refine AW.iconst (pc := 70) dX6_sortClause_70 ci_0 ?_
        exact AW.zret (pc := 71) dX6_sortClause_71 rfl (Or.inl rfl) (fun _ _ _ => rfl) (Nat.le_refl _) (Nat.le_refl _)
      · refine AW.aload_n (pc := 60) dX6_sortClause_60 rfl 0 rfl ?_
        refine AW.iconst (pc := 61) dX6_sortClause_61 ci_0 ?_
        refine AW.bipush (pc := 62) dX6_sortClause_62 cb_99 ?_
        refine AW.cV2i (pc := 64) dX6_sortClause_64 mlX6_123 mbX6_numberFrom rfl hthis (kct hthis rfl hct) (fun _ => okR_N (by omega)) (kX6_numberFrom l E (n - 1) (by omega) ct hct ex this 0 99 M14) (Nat.le_of_ble_eq_true rfl) (fun v16 M17 => ?_)
        refine AW.if_ne (pc := 67) 72 dX6_sortClause_67 (by decide) (fun h18 => ?_) (fun h18 => ?_)
        · refine AW.iconst (pc := 70) dX6_sortClause_70 ci_0 ?_
          exact AW.zret (pc := 71) dX6_sortClause_71 rfl (Or.inl rfl) (fun _ _ _ => rfl) (Nat.le_refl _) (Nat.le_refl _)
        · refine AW.aload_n (pc := 72) dX6_sortClause_72 rfl 0 rfl ?_
          refine AW.chk (fun g19 => ?_)
          refine AW.getR (pc := 73) dX6_sortClause_73 flX6_25 hthis (kct hthis rfl hct) g19 ?_
          refine AW.chk (fun g20 => ?_)
          refine AW.chk (fun g21 => ?_)
          refine AW.getR (pc := 76) dX6_sortClause_76 flX6_135 g20 (kct g20 rfl hct) g21 ?_
          refine AW.iload_n (pc := 79) dX6_sortClause_79 rfl 1 rfl ?_
          refine AW.aload_n (pc := 80) dX6_sortClause_80 rfl 0 rfl ?_
          refine AW.getI (pc := 81) dX6_sortClause_81 flX6_44 hthis (kct hthis rfl hct) ?_
          refine AW.cN3v (pc := 84) dX6_sortClause_84 nlX6_53 mbX11_put (fun _ => okR_N (by omega)) (kX11_put l E (n - 1) (by omega) ct hct ex (mR M17 (mR M17 this 3) 8) v3 (mI M17 this 9) M17) (Nat.le_of_ble_eq_true rfl) (fun _ M22 => ?_)
          refine AW.aload_n (pc := 87) dX6_sortClause_87 rfl 0 rfl ?_
          refine AW.ldcS (pc := 88) (i := 4) dX6_sortClause_88 rfl ?_
          refine AW.cV1i (pc := 90) dX6_sortClause_90 mlX6_132 mbX6_word rfl hthis (kct hthis rfl hct) (fun _ => okR_N (by omega)) (kX6_word l E (n - 1) (by omega) ct hct ex this 1004 M22) (Nat.le_of_ble_eq_true rfl) (fun v23 M24 => ?_)
          refine AW.if_eq (pc := 93) 106 dX6_sortClause_93 (by decide) (fun h25 => ?_) (fun h25 => ?_)
          · refine AW.iconst (pc := 106) dX6_sortClause_106 ci_0 ?_
            exact AW.zret (pc := 107) dX6_sortClause_107 rfl (Or.inl rfl) (fun _ _ _ => rfl) (Nat.le_refl _) (Nat.le_refl _)
          · refine AW.aload_n (pc := 96) dX6_sortClause_96 rfl 0 rfl ?_
            refine AW.iconst (pc := 97) dX6_sortClause_97 ci_0 ?_
            refine AW.bipush (pc := 98) dX6_sortClause_98 cb_9 ?_
            refine AW.cV2i (pc := 100) dX6_sortClause_100 mlX6_123 mbX6_numberFrom rfl hthis (kct hthis rfl hct) (fun _ => okR_N (by omega)) (kX6_numberFrom l E (n - 1) (by omega) ct hct ex this 0 9 M24) (Nat.le_of_ble_eq_true rfl) (fun v26 M27 => ?_)
            refine AW.if_ne (pc := 103) 108 dX6_sortClause_103 (by decide) (fun h28 => ?_) (fun h28 => ?_)
            · refine AW.iconst (pc := 106) dX6_sortClause_106 ci_0 ?_
              exact AW.zret (pc := 107) dX6_sortClause_107 rfl (Or.inl rfl) (fun _ _ _ => rfl) (Nat.le_refl _) (Nat.le_refl _)
            · refine AW.aload_n (pc := 108) dX6_sortClause_108 rfl 0 rfl ?_
              refine AW.chk (fun g29 => ?_)
              refine AW.getR (pc := 109) dX6_sortClause_109 flX6_25 hthis (kct hthis rfl hct) g29 ?_
              refine AW.chk (fun g30 => ?_)
              refine AW.chk (fun g31 => ?_)
              refine AW.getR (pc := 112) dX6_sortClause_112 flX6_139 g30 (kct g30 rfl hct) g31 ?_
              refine AW.iload_n (pc := 115) dX6_sortClause_115 rfl 1 rfl ?_
              refine AW.aload_n (pc := 116) dX6_sortClause_116 rfl 0 rfl ?_
              refine AW.getI (pc := 117) dX6_sortClause_117 flX6_44 hthis (kct hthis rfl hct) ?_
              refine AW.cN3v (pc := 120) dX6_sortClause_120 nlX6_53 mbX11_put (fun _ => okR_N (by omega)) (kX11_put l E (n - 1) (by omega) ct hct ex (mR M27 (mR M27 this 3) 9) v3 (mI M27 this 9) M27) (Nat.le_of_ble_eq_true rfl) (fun _ M32 => ?_)
              refine AW.aload_n (pc := 123) dX6_sortClause_123 rfl 0 rfl ?_
              refine AW.ldcS (pc := 124) (i := 5) dX6_sortClause_124 rfl ?_
              refine AW.cV1i (pc := 126) dX6_sortClause_126 mlX6_132 mbX6_word rfl hthis (kct hthis rfl hct) (fun _ => okR_N (by omega)) (kX6_word l E (n - 1) (by omega) ct hct ex this 1005 M32) (Nat.le_of_ble_eq_true rfl) (fun v33 M34 => ?_)
              refine AW.if_eq (pc := 129) 140 dX6_sortClause_129 (by decide) (fun h35 => ?_) (fun h35 => ?_)
              · refine AW.iconst (pc := 140) dX6_sortClause_140 ci_0 ?_
                exact AW.zret (pc := 141) dX6_sortClause_141 rfl (Or.inl rfl) (fun _ _ _ => rfl) (Nat.le_refl _) (Nat.le_refl _)
              · refine AW.aload_n (pc := 132) dX6_sortClause_132 rfl 0 rfl ?_
                refine AW.iconst (pc := 133) dX6_sortClause_133 ci_0 ?_
                refine AW.cV1i (pc := 134) dX6_sortClause_134 mlX6_143 mbX6_either rfl hthis (kct hthis rfl hct) (fun _ => okR_N (by omega)) (kX6_either l E RD (n - 1) (by unfold RD; omega) ct hct ex this 0 M34) (Nat.le_of_ble_eq_true rfl) (fun v36 M37 => ?_)
                refine AW.if_ne (pc := 137) 142 dX6_sortClause_137 (by decide) (fun h38 => ?_) (fun h38 => ?_)
                · refine AW.iconst (pc := 140) dX6_sortClause_140 ci_0 ?_
                  exact AW.zret (pc := 141) dX6_sortClause_141 rfl (Or.inl rfl) (fun _ _ _ => rfl) (Nat.le_refl _) (Nat.le_refl _)
                · refine AW.aload_n (pc := 142) dX6_sortClause_142 rfl 0 rfl ?_
                  refine AW.chk (fun g39 => ?_)
                  refine AW.getR (pc := 143) dX6_sortClause_143 flX6_25 hthis (kct hthis rfl hct) g39 ?_
                  refine AW.chk (fun g41 => ?_)
                  refine AW.cV0v (pc := 146) dX6_sortClause_146 mlX6_146 mbX8_closeSort rfl g41 (kct g41 rfl hct) (fun _ => okR_N (by omega)) (kX8_closeSort l E (n - 1) (by omega) ct hct ex (mR M37 this 3) M37) (Nat.le_of_ble_eq_true rfl) (fun _ M40 => ?_)
                  refine AW.iconst (pc := 149) dX6_sortClause_149 ci_1 ?_
                  exact AW.zret (pc := 150) dX6_sortClause_150 rfl (Or.inr rfl) (fun _ _ _ => rfl) (Nat.le_refl _) (Nat.le_refl _)
  · refine AW.aload_n (pc := 14) dX6_sortClause_14 rfl 0 rfl ?_
    refine AW.iconst (pc := 15) dX6_sortClause_15 ci_2 ?_
    refine AW.cV1i (pc := 16) dX6_sortClause_16 mlX6_114 mbX6_refuse rfl hthis (kct hthis rfl hct) (fun _ => okR_N (by omega)) (kX6_refuse l E (n - 1) (by omega) ct hct ex this 2 M) (Nat.le_of_ble_eq_true rfl) (fun v42 M43 => ?_)
    refine AW.chk (fun g44 => ?_)
    exact AW.zret (pc := 19) dX6_sortClause_19 rfl g44 (fun _ _ _ => rfl) (Nat.le_refl _) (Nat.le_refl _)
-- GateBox$Reader.once(I)Z
def zX6_once (this : Nat) (x1 : Int32) (M : Mem) : Option (Int32 × Mem) :=
  if K0 this = (0, 6) then
  if ((mI M this 10) &&& x1) = 0 then
    lt (sI M this 10 ((mI M this 10) ||| x1)) fun M2 =>
    bnd (zX6_advance this M2) fun _ M3 =>
    some (1, M3)
  else
    bnd (zX6_refuse this 4 M) fun v4 M5 =>
    if v4 = 0 ∨ v4 = 1 then
    some (v4, M5)
    else none
  else none
set_option maxRecDepth 20000 in
set_option maxHeartbeats 4000000 in
theorem kX6_once (l : Launch) (E : Ev) (n : Nat) (hn : 4 ≤ n) (ct : Nat) (hct : 111 ≤ ct) (ex : Bool) (this : Nat) (x1 : Int32) (M : Mem) : AM l E n ct ex yX6_once fX6_once enI [.ref (ad E this), .int x1] M (zX6_once this x1 M) := by
  unfold zX6_once
  refine AM.of (by decide +kernel) ⟨rfl, rfl, rfl⟩ (Nat.le_of_ble_eq_true rfl) ?_
  refine AW.chk (fun hthis => ?_)
  refine AW.aload_n (pc := 0) dX6_once_0 rfl 0 rfl ?_
  refine AW.getI (pc := 1) dX6_once_1 flX6_47 hthis (kct hthis rfl hct) ?_
  refine AW.iload_n (pc := 4) dX6_once_4 rfl 1 rfl ?_
  refine AW.iand (pc := 5) dX6_once_5 ?_
  refine AW.if_eq (pc := 6) 15 dX6_once_6 (by decide) (fun h1 => ?_) (fun h1 => ?_)
  · refine AW.aload_n (pc := 15) dX6_once_15 rfl 0 rfl ?_
    refine AW.dup (pc := 16) dX6_once_16 rfl ?_
    refine AW.getI (pc := 17) dX6_once_17 flX6_47 hthis (kct hthis rfl hct) ?_
    refine AW.iload_n (pc := 20) dX6_once_20 rfl 1 rfl ?_
    refine AW.ior (pc := 21) dX6_once_21 ?_
    refine AW.putI (pc := 22) dX6_once_22 flX6_47 hthis (kct hthis rfl hct) ?_
    refine AW.genM (fun M2 => ?_)
    refine AW.aload_n (pc := 25) dX6_once_25 rfl 0 rfl ?_
    refine AW.cV0v (pc := 26) dX6_once_26 mlX6_60 mbX6_advance rfl hthis (kct hthis rfl hct) (fun _ => okR_N (by omega)) (kX6_advance l E (n - 1) (by omega) ct hct ex this M2) (Nat.le_of_ble_eq_true rfl) (fun _ M3 => ?_)
    refine AW.iconst (pc := 29) dX6_once_29 ci_1 ?_
    exact AW.zret (pc := 30) dX6_once_30 rfl (Or.inr rfl) (fun _ _ _ => rfl) (Nat.le_refl _) (Nat.le_refl _)
  · refine AW.aload_n (pc := 9) dX6_once_9 rfl 0 rfl ?_
    refine AW.iconst (pc := 10) dX6_once_10 ci_4 ?_
    refine AW.cV1i (pc := 11) dX6_once_11 mlX6_114 mbX6_refuse rfl hthis (kct hthis rfl hct) (fun _ => okR_N (by omega)) (kX6_refuse l E (n - 1) (by omega) ct hct ex this 4 M) (Nat.le_of_ble_eq_true rfl) (fun v4 M5 => ?_)
    refine AW.chk (fun g6 => ?_)
    exact AW.zret (pc := 14) dX6_once_14 rfl g6 (fun _ _ _ => rfl) (Nat.le_refl _) (Nat.le_refl _)
-- GateBox$Reader.sightClause()Z
def zX6_sightClause (this : Nat) (M : Mem) : Option (Int32 × Mem) :=
  if K0 this = (0, 6) then
  bnd (zX6_numberFrom this 0 2 M) fun v1 M2 =>
  if mR M2 this 3 ≠ 0 then
  if K0 (mR M2 this 3) = (0, 8) then
  lt (sI M2 (mR M2 this 3) 2 (mI M2 this 9)) fun M5 =>
  if v1 = 0 ∨ v1 = 1 then
  some (v1, M5)
  else none
  else none
  else none
  else none
set_option maxRecDepth 20000 in
set_option maxHeartbeats 4000000 in
theorem kX6_sightClause (l : Launch) (E : Ev) (n : Nat) (hn : 5 ≤ n) (ct : Nat) (hct : 111 ≤ ct) (ex : Bool) (this : Nat) (M : Mem) : AM l E n ct ex yX6_sightClause fX6_sightClause enI [.ref (ad E this)] M (zX6_sightClause this M) := by
  unfold zX6_sightClause
  refine AM.of (by decide +kernel) ⟨rfl, rfl, rfl⟩ (Nat.le_of_ble_eq_true rfl) ?_
  refine AW.chk (fun hthis => ?_)
  refine AW.aload_n (pc := 0) dX6_sightClause_0 rfl 0 rfl ?_
  refine AW.iconst (pc := 1) dX6_sightClause_1 ci_0 ?_
  refine AW.iconst (pc := 2) dX6_sightClause_2 ci_2 ?_
  refine AW.cV2i (pc := 3) dX6_sightClause_3 mlX6_123 mbX6_numberFrom rfl hthis (kct hthis rfl hct) (fun _ => okR_N (by omega)) (kX6_numberFrom l E (n - 1) (by omega) ct hct ex this 0 2 M) (Nat.le_of_ble_eq_true rfl) (fun v1 M2 => ?_)
  refine AW.istore_n (pc := 6) [1, 0] [(0, .ref (ad E this)), (1, .int v1)] dX6_sightClause_6 rfl (by decide) rfl ?_
  refine AW.aload_n (pc := 7) dX6_sightClause_7 rfl 0 rfl ?_
  refine AW.chk (fun g3 => ?_)
  refine AW.getR (pc := 8) dX6_sightClause_8 flX6_25 hthis (kct hthis rfl hct) g3 ?_
  refine AW.aload_n (pc := 11) dX6_sightClause_11 rfl 0 rfl ?_
  refine AW.getI (pc := 12) dX6_sightClause_12 flX6_44 hthis (kct hthis rfl hct) ?_
  refine AW.chk (fun g4 => ?_)
  refine AW.putI (pc := 15) dX6_sightClause_15 flX6_149 g4 (kct g4 rfl hct) ?_
  refine AW.genM (fun M5 => ?_)
  refine AW.iload_n (pc := 18) dX6_sightClause_18 rfl 1 rfl ?_
  refine AW.chk (fun g6 => ?_)
  exact AW.zret (pc := 19) dX6_sightClause_19 rfl g6 (fun _ _ _ => rfl) (Nat.le_refl _) (Nat.le_refl _)
-- GateBox$Reader.cardClause()Z
def zX6_cardClause (this : Nat) (M : Mem) : Option (Int32 × Mem) :=
  if K0 this = (0, 6) then
  bnd (zX6_numberFrom this 0 9 M) fun v1 M2 =>
  if mR M2 this 3 ≠ 0 then
  if K0 (mR M2 this 3) = (0, 8) then
  if mR M2 (mR M2 this 3) 12 ≠ 0 then
  if K0 (mR M2 (mR M2 this 3) 12) = (0, 9) then
  lt (sI M2 (mR M2 (mR M2 this 3) 12) 0 (mI M2 this 9)) fun M7 =>
  if v1 = 0 ∨ v1 = 1 then
  some (v1, M7)
  else none
  else none
  else none
  else none
  else none
  else none
set_option maxRecDepth 20000 in
set_option maxHeartbeats 4000000 in
theorem kX6_cardClause (l : Launch) (E : Ev) (n : Nat) (hn : 5 ≤ n) (ct : Nat) (hct : 111 ≤ ct) (ex : Bool) (this : Nat) (M : Mem) : AM l E n ct ex yX6_cardClause fX6_cardClause enI [.ref (ad E this)] M (zX6_cardClause this M) := by
  unfold zX6_cardClause
  refine AM.of (by decide +kernel) ⟨rfl, rfl, rfl⟩ (Nat.le_of_ble_eq_true rfl) ?_
  refine AW.chk (fun hthis => ?_)
  refine AW.aload_n (pc := 0) dX6_cardClause_0 rfl 0 rfl ?_
  refine AW.iconst (pc := 1) dX6_cardClause_1 ci_0 ?_
  refine AW.bipush (pc := 2) dX6_cardClause_2 cb_9 ?_
  refine AW.cV2i (pc := 4) dX6_cardClause_4 mlX6_123 mbX6_numberFrom rfl hthis (kct hthis rfl hct) (fun _ => okR_N (by omega)) (kX6_numberFrom l E (n - 1) (by omega) ct hct ex this 0 9 M) (Nat.le_of_ble_eq_true rfl) (fun v1 M2 => ?_)
  refine AW.istore_n (pc := 7) [1, 0] [(0, .ref (ad E this)), (1, .int v1)] dX6_cardClause_7 rfl (by decide) rfl ?_
  refine AW.aload_n (pc := 8) dX6_cardClause_8 rfl 0 rfl ?_
  refine AW.chk (fun g3 => ?_)
  refine AW.getR (pc := 9) dX6_cardClause_9 flX6_25 hthis (kct hthis rfl hct) g3 ?_
  refine AW.chk (fun g4 => ?_)
  refine AW.chk (fun g5 => ?_)
  refine AW.getR (pc := 12) dX6_cardClause_12 flX6_92 g4 (kct g4 rfl hct) g5 ?_
  refine AW.aload_n (pc := 15) dX6_cardClause_15 rfl 0 rfl ?_
  refine AW.getI (pc := 16) dX6_cardClause_16 flX6_44 hthis (kct hthis rfl hct) ?_
  refine AW.chk (fun g6 => ?_)
  refine AW.putI (pc := 19) dX6_cardClause_19 flX6_151 g6 (kct g6 rfl hct) ?_
  refine AW.genM (fun M7 => ?_)
  refine AW.iload_n (pc := 22) dX6_cardClause_22 rfl 1 rfl ?_
  refine AW.chk (fun g8 => ?_)
  exact AW.zret (pc := 23) dX6_cardClause_23 rfl g8 (fun _ _ _ => rfl) (Nat.le_refl _) (Nat.le_refl _)
-- GateBox$Reader.leastClause()Z
def zX6_leastClause (this : Nat) (M : Mem) : Option (Int32 × Mem) :=
  if K0 this = (0, 6) then
  bnd (zX6_numberFrom this 0 9 M) fun v1 M2 =>
  if mR M2 this 3 ≠ 0 then
  if K0 (mR M2 this 3) = (0, 8) then
  if mR M2 (mR M2 this 3) 12 ≠ 0 then
  if K0 (mR M2 (mR M2 this 3) 12) = (0, 9) then
  lt (sI M2 (mR M2 (mR M2 this 3) 12) 3 (mI M2 this 9)) fun M7 =>
  if v1 = 0 ∨ v1 = 1 then
  some (v1, M7)
  else none
  else none
  else none
  else none
  else none
  else none
set_option maxRecDepth 20000 in
set_option maxHeartbeats 4000000 in
theorem kX6_leastClause (l : Launch) (E : Ev) (n : Nat) (hn : 5 ≤ n) (ct : Nat) (hct : 111 ≤ ct) (ex : Bool) (this : Nat) (M : Mem) : AM l E n ct ex yX6_leastClause fX6_leastClause enI [.ref (ad E this)] M (zX6_leastClause this M) := by
  unfold zX6_leastClause
  refine AM.of (by decide +kernel) ⟨rfl, rfl, rfl⟩ (Nat.le_of_ble_eq_true rfl) ?_
  refine AW.chk (fun hthis => ?_)
  refine AW.aload_n (pc := 0) dX6_leastClause_0 rfl 0 rfl ?_
  refine AW.iconst (pc := 1) dX6_leastClause_1 ci_0 ?_
  refine AW.bipush (pc := 2) dX6_leastClause_2 cb_9 ?_
  refine AW.cV2i (pc := 4) dX6_leastClause_4 mlX6_123 mbX6_numberFrom rfl hthis (kct hthis rfl hct) (fun _ => okR_N (by omega)) (kX6_numberFrom l E (n - 1) (by omega) ct hct ex this 0 9 M) (Nat.le_of_ble_eq_true rfl) (fun v1 M2 => ?_)
  refine AW.istore_n (pc := 7) [1, 0] [(0, .ref (ad E this)), (1, .int v1)] dX6_leastClause_7 rfl (by decide) rfl ?_
  refine AW.aload_n (pc := 8) dX6_leastClause_8 rfl 0 rfl ?_
  refine AW.chk (fun g3 => ?_)
  refine AW.getR (pc := 9) dX6_leastClause_9 flX6_25 hthis (kct hthis rfl hct) g3 ?_
  refine AW.chk (fun g4 => ?_)
  refine AW.chk (fun g5 => ?_)
  refine AW.getR (pc := 12) dX6_leastClause_12 flX6_92 g4 (kct g4 rfl hct) g5 ?_
  refine AW.aload_n (pc := 15) dX6_leastClause_15 rfl 0 rfl ?_
  refine AW.getI (pc := 16) dX6_leastClause_16 flX6_44 hthis (kct hthis rfl hct) ?_
  refine AW.chk (fun g6 => ?_)
  refine AW.putI (pc := 19) dX6_leastClause_19 flX6_153 g6 (kct g6 rfl hct) ?_
  refine AW.genM (fun M7 => ?_)
  refine AW.iload_n (pc := 22) dX6_leastClause_22 rfl 1 rfl ?_
  refine AW.chk (fun g8 => ?_)
  exact AW.zret (pc := 23) dX6_leastClause_23 rfl g8 (fun _ _ _ => rfl) (Nat.le_refl _) (Nat.le_refl _)
-- GateBox$Reader.thiefClause()Z
def zX6_thiefClause (this : Nat) (M : Mem) : Option (Int32 × Mem) :=
  if K0 this = (0, 6) then
  bnd (zX6_numberFrom this 0 100 M) fun v1 M2 =>
  if v1 = 0 then
    some (0, M2)
  else
    if mR M2 this 3 ≠ 0 then
    if K0 (mR M2 this 3) = (0, 8) then
    lt (sI M2 (mR M2 this 3) 3 (mI M2 this 9)) fun M6 =>
    bnd (zX6_numberFrom this 1 999 M6) fun v7 M8 =>
    if mR M8 this 3 ≠ 0 then
    if K0 (mR M8 this 3) = (0, 8) then
    lt (sI M8 (mR M8 this 3) 4 (mI M8 this 9)) fun M11 =>
    if v7 = 0 ∨ v7 = 1 then
    some (v7, M11)
    else none
    else none
    else none
    else none
    else none
  else none
set_option maxRecDepth 20000 in
set_option maxHeartbeats 4000000 in
theorem kX6_thiefClause (l : Launch) (E : Ev) (n : Nat) (hn : 5 ≤ n) (ct : Nat) (hct : 111 ≤ ct) (ex : Bool) (this : Nat) (M : Mem) : AM l E n ct ex yX6_thiefClause fX6_thiefClause enI [.ref (ad E this)] M (zX6_thiefClause this M) := by
  unfold zX6_thiefClause
  refine AM.of (by decide +kernel) ⟨rfl, rfl, rfl⟩ (Nat.le_of_ble_eq_true rfl) ?_
  refine AW.chk (fun hthis => ?_)
  refine AW.aload_n (pc := 0) dX6_thiefClause_0 rfl 0 rfl ?_
  refine AW.iconst (pc := 1) dX6_thiefClause_1 ci_0 ?_
  refine AW.bipush (pc := 2) dX6_thiefClause_2 cb_100 ?_
  refine AW.cV2i (pc := 4) dX6_thiefClause_4 mlX6_123 mbX6_numberFrom rfl hthis (kct hthis rfl hct) (fun _ => okR_N (by omega)) (kX6_numberFrom l E (n - 1) (by omega) ct hct ex this 0 100 M) (Nat.le_of_ble_eq_true rfl) (fun v1 M2 => ?_)
  refine AW.if_ne (pc := 7) 12 dX6_thiefClause_7 (by decide) (fun h3 => ?_) (fun h3 => ?_)
  · refine AW.iconst (pc := 10) dX6_thiefClause_10 ci_0 ?_
    exact AW.zret (pc := 11) dX6_thiefClause_11 rfl (Or.inl rfl) (fun _ _ _ => rfl) (Nat.le_refl _) (Nat.le_refl _)
  · refine AW.aload_n (pc := 12) dX6_thiefClause_12 rfl 0 rfl ?_
    refine AW.chk (fun g4 => ?_)
    refine AW.getR (pc := 13) dX6_thiefClause_13 flX6_25 hthis (kct hthis rfl hct) g4 ?_
    refine AW.aload_n (pc := 16) dX6_thiefClause_16 rfl 0 rfl ?_
    refine AW.getI (pc := 17) dX6_thiefClause_17 flX6_44 hthis (kct hthis rfl hct) ?_
    refine AW.chk (fun g5 => ?_)
    refine AW.putI (pc := 20) dX6_thiefClause_20 flX6_155 g5 (kct g5 rfl hct) ?_
    refine AW.genM (fun M6 => ?_)
    refine AW.aload_n (pc := 23) dX6_thiefClause_23 rfl 0 rfl ?_
    refine AW.iconst (pc := 24) dX6_thiefClause_24 ci_1 ?_
    refine AW.sipush (pc := 25) dX6_thiefClause_25 cs_999 ?_
    refine AW.cV2i (pc := 28) dX6_thiefClause_28 mlX6_123 mbX6_numberFrom rfl hthis (kct hthis rfl hct) (fun _ => okR_N (by omega)) (kX6_numberFrom l E (n - 1) (by omega) ct hct ex this 1 999 M6) (Nat.le_of_ble_eq_true rfl) (fun v7 M8 => ?_)
    refine AW.istore_n (pc := 31) [1, 0] [(0, .ref (ad E this)), (1, .int v7)] dX6_thiefClause_31 rfl (by decide) rfl ?_
    refine AW.aload_n (pc := 32) dX6_thiefClause_32 rfl 0 rfl ?_
    refine AW.chk (fun g9 => ?_)
    refine AW.getR (pc := 33) dX6_thiefClause_33 flX6_25 hthis (kct hthis rfl hct) g9 ?_
    refine AW.aload_n (pc := 36) dX6_thiefClause_36 rfl 0 rfl ?_
    refine AW.getI (pc := 37) dX6_thiefClause_37 flX6_44 hthis (kct hthis rfl hct) ?_
    refine AW.chk (fun g10 => ?_)
    refine AW.putI (pc := 40) dX6_thiefClause_40 flX6_158 g10 (kct g10 rfl hct) ?_
    refine AW.genM (fun M11 => ?_)
    refine AW.iload_n (pc := 43) dX6_thiefClause_43 rfl 1 rfl ?_
    refine AW.chk (fun g12 => ?_)
    exact AW.zret (pc := 44) dX6_thiefClause_44 rfl g12 (fun _ _ _ => rfl) (Nat.le_refl _) (Nat.le_refl _)
-- GateBox$Reader.clause()Z
def zX6_clause_B216 (this : Nat) (x1 : Int32) (M : Mem) : Option (Int32 × Mem) :=
  if x1 = 0 then
    some (0, M)
  else
    bnd (zX6_sign this 59 M) fun v2 M3 =>
    if v2 = 0 then
      some (0, M3)
    else
      some (1, M3)
def zX6_clause_B206 (this : Nat) (s0 : Int32) (M : Mem) : Option (Int32 × Mem) :=
  zX6_clause_B216 this s0 M
def zX6_clause_B205 (this : Nat) (M : Mem) : Option (Int32 × Mem) :=
  zX6_clause_B206 this 0 M
def zX6_clause_B172 (this : Nat) (s0 : Int32) (M : Mem) : Option (Int32 × Mem) :=
  zX6_clause_B216 this s0 M
def zX6_clause_B171 (this : Nat) (M : Mem) : Option (Int32 × Mem) :=
  zX6_clause_B172 this 0 M
def zX6_clause_B79 (this : Nat) (s0 : Int32) (M : Mem) : Option (Int32 × Mem) :=
  zX6_clause_B216 this s0 M
def zX6_clause_B78 (this : Nat) (M : Mem) : Option (Int32 × Mem) :=
  zX6_clause_B79 this 0 M
def zX6_clause_B46 (this : Nat) (s0 : Int32) (M : Mem) : Option (Int32 × Mem) :=
  zX6_clause_B216 this s0 M
def zX6_clause_B45 (this : Nat) (M : Mem) : Option (Int32 × Mem) :=
  zX6_clause_B46 this 0 M
def zX6_clause (this : Nat) (M : Mem) : Option (Int32 × Mem) :=
  if K0 this = (0, 6) then
  bnd (zX6_isWord this 1002 M) fun v1 M2 =>
  if v1 = 0 then
    bnd (zX6_isWord this 1016 M2) fun v4 M5 =>
    if v4 = 0 then
      bnd (zX6_isWord this 1009 M5) fun v7 M8 =>
      if v7 = 0 then
        bnd (zX6_isWord this 1011 M8) fun v10 M11 =>
        if v10 = 0 then
          bnd (zX6_isWord this 1012 M11) fun v13 M14 =>
          if v13 = 0 then
            bnd (zX6_isWord this 1013 M14) fun v16 M17 =>
            if v16 = 0 then
              bnd (zX6_isWord this 1017 M17) fun v19 M20 =>
              if v19 = 0 then
                bnd (zX6_refuse this 1 M20) fun v22 M23 =>
                zX6_clause_B216 this v22 M23
              else
                bnd (zX6_once this 32 M20) fun v24 M25 =>
                if v24 = 0 then
                  zX6_clause_B205 this M25
                else
                  bnd (zX6_thiefClause this M25) fun v27 M28 =>
                  if v27 = 0 then
                    zX6_clause_B205 this M28
                  else
                    zX6_clause_B206 this 1 M28
            else
              bnd (zX6_once this 16 M17) fun v30 M31 =>
              if v30 = 0 then
                zX6_clause_B171 this M31
              else
                bnd (zX6_leastClause this M31) fun v33 M34 =>
                if v33 = 0 then
                  zX6_clause_B171 this M34
                else
                  zX6_clause_B172 this 1 M34
          else
            bnd (zX6_once this 8 M14) fun v36 M37 =>
            if mR M37 this 3 ≠ 0 then
            if K0 (mR M37 this 3) = (0, 8) then
            if mR M37 (mR M37 this 3) 12 ≠ 0 then
            if K0 (mR M37 (mR M37 this 3) 12) = (0, 9) then
            lt (sI M37 (mR M37 (mR M37 this 3) 12) 2 1) fun M42 =>
            zX6_clause_B216 this v36 M42
            else none
            else none
            else none
            else none
        else
          bnd (zX6_once this 4 M11) fun v43 M44 =>
          if mR M44 this 3 ≠ 0 then
          if K0 (mR M44 this 3) = (0, 8) then
          if mR M44 (mR M44 this 3) 12 ≠ 0 then
          if K0 (mR M44 (mR M44 this 3) 12) = (0, 9) then
          lt (sI M44 (mR M44 (mR M44 this 3) 12) 1 1) fun M49 =>
          zX6_clause_B216 this v43 M49
          else none
          else none
          else none
          else none
      else
        bnd (zX6_once this 2 M8) fun v50 M51 =>
        if v50 = 0 then
          zX6_clause_B78 this M51
        else
          bnd (zX6_cardClause this M51) fun v53 M54 =>
          if v53 = 0 then
            zX6_clause_B78 this M54
          else
            zX6_clause_B79 this 1 M54
    else
      bnd (zX6_once this 1 M5) fun v56 M57 =>
      if v56 = 0 then
        zX6_clause_B45 this M57
      else
        bnd (zX6_sightClause this M57) fun v59 M60 =>
        if v59 = 0 then
          zX6_clause_B45 this M60
        else
          zX6_clause_B46 this 1 M60
  else
    bnd (zX6_sortClause this M2) fun v62 M63 =>
    zX6_clause_B216 this v62 M63
  else none
set_option maxRecDepth 20000 in
set_option maxHeartbeats 4000000 in
theorem kX6_clause_B216 (l : Launch) (E : Ev) (n : Nat) (hn : 96 ≤ n) (ct : Nat) (hct : 111 ≤ ct) (ex : Bool) (this : Nat) (x1 : Int32) (M : Mem) (hthis : K0 this = (0, 6)) : AW l E fX6_clause (fun _ => rmN n 0 0) (PQr E 0 0 ct ex enI) ct ex 0 0 216 [(0, .ref (ad E this)), (1, .int x1)] [] M (zX6_clause_B216 this x1 M) := by
  unfold zX6_clause_B216
  refine AW.iload_n (pc := 216) dX6_clause_216 rfl 1 rfl ?_
  refine AW.if_eq (pc := 217) 233 dX6_clause_217 (by decide) (fun h1 => ?_) (fun h1 => ?_)
  · refine AW.iconst (pc := 233) dX6_clause_233 ci_0 ?_
    exact AW.zret (pc := 234) dX6_clause_234 rfl (Or.inl rfl) (fun _ _ _ => rfl) (Nat.le_refl _) (Nat.le_refl _)
  · refine AW.aload_n (pc := 220) dX6_clause_220 rfl 0 rfl ?_
    refine AW.bipush (pc := 221) dX6_clause_221 cb_59 ?_
    refine AW.cV1i (pc := 223) dX6_clause_223 mlX6_117 mbX6_sign rfl hthis (kct hthis rfl hct) (fun _ => okR_N (by omega)) (kX6_sign l E (n - 1) (by omega) ct hct ex this 59 M) (Nat.le_of_ble_eq_true rfl) (fun v2 M3 => ?_)
    refine AW.if_eq (pc := 226) 233 dX6_clause_226 (by decide) (fun h4 => ?_) (fun h4 => ?_)
    · refine AW.iconst (pc := 233) dX6_clause_233 ci_0 ?_
      exact AW.zret (pc := 234) dX6_clause_234 rfl (Or.inl rfl) (fun _ _ _ => rfl) (Nat.le_refl _) (Nat.le_refl _)
    · refine AW.iconst (pc := 229) dX6_clause_229 ci_1 ?_
      refine AW.goto (pc := 230) 234 dX6_clause_230 (by decide) ?_
      exact AW.zret (pc := 234) dX6_clause_234 rfl (Or.inr rfl) (fun _ _ _ => rfl) (Nat.le_refl _) (Nat.le_refl _)
set_option maxRecDepth 20000 in
set_option maxHeartbeats 4000000 in
theorem kX6_clause_B206 (l : Launch) (E : Ev) (n : Nat) (hn : 96 ≤ n) (ct : Nat) (hct : 111 ≤ ct) (ex : Bool) (this : Nat) (s0 : Int32) (M : Mem) (hthis : K0 this = (0, 6)) : AW l E fX6_clause (fun _ => rmN n 0 0) (PQr E 0 0 ct ex enI) ct ex 0 0 206 [(0, .ref (ad E this))] [.int s0] M (zX6_clause_B206 this s0 M) := by
  unfold zX6_clause_B206
  refine AW.istore_n (pc := 206) [1, 0] [(0, .ref (ad E this)), (1, .int s0)] dX6_clause_206 rfl (by decide) rfl ?_
  refine AW.goto (pc := 207) 216 dX6_clause_207 (by decide) ?_
  exact kX6_clause_B216 l E n hn ct hct ex this s0 M hthis
set_option maxRecDepth 20000 in
set_option maxHeartbeats 4000000 in
theorem kX6_clause_B205 (l : Launch) (E : Ev) (n : Nat) (hn : 96 ≤ n) (ct : Nat) (hct : 111 ≤ ct) (ex : Bool) (this : Nat) (M : Mem) (hthis : K0 this = (0, 6)) : AW l E fX6_clause (fun _ => rmN n 0 0) (PQr E 0 0 ct ex enI) ct ex 0 0 205 [(0, .ref (ad E this))] [] M (zX6_clause_B205 this M) := by
  unfold zX6_clause_B205
  refine AW.iconst (pc := 205) dX6_clause_205 ci_0 ?_
  exact kX6_clause_B206 l E n hn ct hct ex this 0 M hthis
set_option maxRecDepth 20000 in
set_option maxHeartbeats 4000000 in
theorem kX6_clause_B172 (l : Launch) (E : Ev) (n : Nat) (hn : 96 ≤ n) (ct : Nat) (hct : 111 ≤ ct) (ex : Bool) (this : Nat) (s0 : Int32) (M : Mem) (hthis : K0 this = (0, 6)) : AW l E fX6_clause (fun _ => rmN n 0 0) (PQr E 0 0 ct ex enI) ct ex 0 0 172 [(0, .ref (ad E this))] [.int s0] M (zX6_clause_B172 this s0 M) := by
  unfold zX6_clause_B172
  refine AW.istore_n (pc := 172) [1, 0] [(0, .ref (ad E this)), (1, .int s0)] dX6_clause_172 rfl (by decide) rfl ?_
  refine AW.goto (pc := 173) 216 dX6_clause_173 (by decide) ?_
  exact kX6_clause_B216 l E n hn ct hct ex this s0 M hthis
set_option maxRecDepth 20000 in
set_option maxHeartbeats 4000000 in
theorem kX6_clause_B171 (l : Launch) (E : Ev) (n : Nat) (hn : 96 ≤ n) (ct : Nat) (hct : 111 ≤ ct) (ex : Bool) (this : Nat) (M : Mem) (hthis : K0 this = (0, 6)) : AW l E fX6_clause (fun _ => rmN n 0 0) (PQr E 0 0 ct ex enI) ct ex 0 0 171 [(0, .ref (ad E this))] [] M (zX6_clause_B171 this M) := by
  unfold zX6_clause_B171
  refine AW.iconst (pc := 171) dX6_clause_171 ci_0 ?_
  exact kX6_clause_B172 l E n hn ct hct ex this 0 M hthis
set_option maxRecDepth 20000 in
set_option maxHeartbeats 4000000 in
theorem kX6_clause_B79 (l : Launch) (E : Ev) (n : Nat) (hn : 96 ≤ n) (ct : Nat) (hct : 111 ≤ ct) (ex : Bool) (this : Nat) (s0 : Int32) (M : Mem) (hthis : K0 this = (0, 6)) : AW l E fX6_clause (fun _ => rmN n 0 0) (PQr E 0 0 ct ex enI) ct ex 0 0 79 [(0, .ref (ad E this))] [.int s0] M (zX6_clause_B79 this s0 M) := by
  unfold zX6_clause_B79
  refine AW.istore_n (pc := 79) [1, 0] [(0, .ref (ad E this)), (1, .int s0)] dX6_clause_79 rfl (by decide) rfl ?_
  refine AW.goto (pc := 80) 216 dX6_clause_80 (by decide) ?_
  exact kX6_clause_B216 l E n hn ct hct ex this s0 M hthis
set_option maxRecDepth 20000 in
set_option maxHeartbeats 4000000 in
theorem kX6_clause_B78 (l : Launch) (E : Ev) (n : Nat) (hn : 96 ≤ n) (ct : Nat) (hct : 111 ≤ ct) (ex : Bool) (this : Nat) (M : Mem) (hthis : K0 this = (0, 6)) : AW l E fX6_clause (fun _ => rmN n 0 0) (PQr E 0 0 ct ex enI) ct ex 0 0 78 [(0, .ref (ad E this))] [] M (zX6_clause_B78 this M) := by
  unfold zX6_clause_B78
  refine AW.iconst (pc := 78) dX6_clause_78 ci_0 ?_
  exact kX6_clause_B79 l E n hn ct hct ex this 0 M hthis
set_option maxRecDepth 20000 in
set_option maxHeartbeats 4000000 in
theorem kX6_clause_B46 (l : Launch) (E : Ev) (n : Nat) (hn : 96 ≤ n) (ct : Nat) (hct : 111 ≤ ct) (ex : Bool) (this : Nat) (s0 : Int32) (M : Mem) (hthis : K0 this = (0, 6)) : AW l E fX6_clause (fun _ => rmN n 0 0) (PQr E 0 0 ct ex enI) ct ex 0 0 46 [(0, .ref (ad E this))] [.int s0] M (zX6_clause_B46 this s0 M) := by
  unfold zX6_clause_B46
  refine AW.istore_n (pc := 46) [1, 0] [(0, .ref (ad E this)), (1, .int s0)] dX6_clause_46 rfl (by decide) rfl ?_
  refine AW.goto (pc := 47) 216 dX6_clause_47 (by decide) ?_
  exact kX6_clause_B216 l E n hn ct hct ex this s0 M hthis
set_option maxRecDepth 20000 in
set_option maxHeartbeats 4000000 in
theorem kX6_clause_B45 (l : Launch) (E : Ev) (n : Nat) (hn : 96 ≤ n) (ct : Nat) (hct : 111 ≤ ct) (ex : Bool) (this : Nat) (M : Mem) (hthis : K0 this = (0, 6)) : AW l E fX6_clause (fun _ => rmN n 0 0) (PQr E 0 0 ct ex enI) ct ex 0 0 45 [(0, .ref (ad E this))] [] M (zX6_clause_B45 this M) := by
  unfold zX6_clause_B45
  refine AW.iconst (pc := 45) dX6_clause_45 ci_0 ?_
  exact kX6_clause_B46 l E n hn ct hct ex this 0 M hthis
set_option maxRecDepth 20000 in
set_option maxHeartbeats 4000000 in
theorem kX6_clause (l : Launch) (E : Ev) (n : Nat) (hn : 96 ≤ n) (ct : Nat) (hct : 111 ≤ ct) (ex : Bool) (this : Nat) (M : Mem) : AM l E n ct ex yX6_clause fX6_clause enI [.ref (ad E this)] M (zX6_clause this M) := by
  unfold zX6_clause
  refine AM.of (by decide +kernel) ⟨rfl, rfl, rfl⟩ (Nat.le_of_ble_eq_true rfl) ?_
  refine AW.chk (fun hthis => ?_)
  refine AW.aload_n (pc := 0) dX6_clause_0 rfl 0 rfl ?_
  refine AW.ldcS (pc := 1) (i := 2) dX6_clause_1 rfl ?_
  refine AW.cV1i (pc := 3) dX6_clause_3 mlX6_69 mbX6_isWord rfl hthis (kct hthis rfl hct) (fun _ => okR_N (by omega)) (kX6_isWord l E (n - 1) (by omega) ct hct ex this 1002 M) (Nat.le_of_ble_eq_true rfl) (fun v1 M2 => ?_)
  refine AW.if_eq (pc := 6) 17 dX6_clause_6 (by decide) (fun h3 => ?_) (fun h3 => ?_)
  · refine AW.aload_n (pc := 17) dX6_clause_17 rfl 0 rfl ?_
    refine AW.ldcS (pc := 18) (i := 16) dX6_clause_18 rfl ?_
    refine AW.cV1i (pc := 20) dX6_clause_20 mlX6_69 mbX6_isWord rfl hthis (kct hthis rfl hct) (fun _ => okR_N (by omega)) (kX6_isWord l E (n - 1) (by omega) ct hct ex this 1016 M2) (Nat.le_of_ble_eq_true rfl) (fun v4 M5 => ?_)
    refine AW.if_eq (pc := 23) 50 dX6_clause_23 (by decide) (fun h6 => ?_) (fun h6 => ?_)
    · refine AW.aload_n (pc := 50) dX6_clause_50 rfl 0 rfl ?_
      refine AW.ldcS (pc := 51) (i := 9) dX6_clause_51 rfl ?_
      refine AW.cV1i (pc := 53) dX6_clause_53 mlX6_69 mbX6_isWord rfl hthis (kct hthis rfl hct) (fun _ => okR_N (by omega)) (kX6_isWord l E (n - 1) (by omega) ct hct ex this 1009 M5) (Nat.le_of_ble_eq_true rfl) (fun v7 M8 => ?_)
      refine AW.if_eq (pc := 56) 83 dX6_clause_56 (by decide) (fun h9 => ?_) (fun h9 => ?_)
      · refine AW.aload_n (pc := 83) dX6_clause_83 rfl 0 rfl ?_
        refine AW.ldcS (pc := 84) (i := 11) dX6_clause_84 rfl ?_
        refine AW.cV1i (pc := 86) dX6_clause_86 mlX6_69 mbX6_isWord rfl hthis (kct hthis rfl hct) (fun _ => okR_N (by omega)) (kX6_isWord l E (n - 1) (by omega) ct hct ex this 1011 M8) (Nat.le_of_ble_eq_true rfl) (fun v10 M11 => ?_)
        refine AW.if_eq (pc := 89) 112 dX6_clause_89 (by decide) (fun h12 => ?_) (fun h12 => ?_)
        · refine AW.aload_n (pc := 112) dX6_clause_112 rfl 0 rfl ?_
          refine AW.ldcS (pc := 113) (i := 12) dX6_clause_113 rfl ?_
          refine AW.cV1i (pc := 115) dX6_clause_115 mlX6_69 mbX6_isWord rfl hthis (kct hthis rfl hct) (fun _ => okR_N (by omega)) (kX6_isWord l E (n - 1) (by omega) ct hct ex this 1012 M11) (Nat.le_of_ble_eq_true rfl) (fun v13 M14 => ?_)
          refine AW.if_eq (pc := 118) 142 dX6_clause_118 (by decide) (fun h15 => ?_) (fun h15 => ?_)
          · refine AW.aload_n (pc := 142) dX6_clause_142 rfl 0 rfl ?_
            refine AW.ldcS (pc := 143) (i := 13) dX6_clause_143 rfl ?_
            refine AW.cV1i (pc := 145) dX6_clause_145 mlX6_69 mbX6_isWord rfl hthis (kct hthis rfl hct) (fun _ => okR_N (by omega)) (kX6_isWord l E (n - 1) (by omega) ct hct ex this 1013 M14) (Nat.le_of_ble_eq_true rfl) (fun v16 M17 => ?_)
            refine AW.if_eq (pc := 148) 176 dX6_clause_148 (by decide) (fun h18 => ?_) (fun h18 => ?_)
            · refine AW.aload_n (pc := 176) dX6_clause_176 rfl 0 rfl ?_
              refine AW.ldcS (pc := 177) (i := 17) dX6_clause_177 rfl ?_
              refine AW.cV1i (pc := 179) dX6_clause_179 mlX6_69 mbX6_isWord rfl hthis (kct hthis rfl hct) (fun _ => okR_N (by omega)) (kX6_isWord l E (n - 1) (by omega) ct hct ex this 1017 M17) (Nat.le_of_ble_eq_true rfl) (fun v19 M20 => ?_)
              refine AW.if_eq (pc := 182) 210 dX6_clause_182 (by decide) (fun h21 => ?_) (fun h21 => ?_)
              · refine AW.aload_n (pc := 210) dX6_clause_210 rfl 0 rfl ?_
                refine AW.iconst (pc := 211) dX6_clause_211 ci_1 ?_
                refine AW.cV1i (pc := 212) dX6_clause_212 mlX6_114 mbX6_refuse rfl hthis (kct hthis rfl hct) (fun _ => okR_N (by omega)) (kX6_refuse l E (n - 1) (by omega) ct hct ex this 1 M20) (Nat.le_of_ble_eq_true rfl) (fun v22 M23 => ?_)
                refine AW.istore_n (pc := 215) [1, 0] [(0, .ref (ad E this)), (1, .int v22)] dX6_clause_215 rfl (by decide) rfl ?_
                exact kX6_clause_B216 l E n hn ct hct ex this v22 M23 hthis
              · refine AW.aload_n (pc := 185) dX6_clause_185 rfl 0 rfl ?_
                refine AW.bipush (pc := 186) dX6_clause_186 cb_32 ?_
                refine AW.cV1i (pc := 188) dX6_clause_188 mlX6_78 mbX6_once rfl hthis (kct hthis rfl hct) (fun _ => okR_N (by omega)) (kX6_once l E (n - 1) (by omega) ct hct ex this 32 M20) (Nat.le_of_ble_eq_true rfl) (fun v24 M25 => ?_)
                refine AW.if_eq (pc := 191) 205 dX6_clause_191 (by decide) (fun h26 => ?_) (fun h26 => ?_)
                · exact kX6_clause_B205 l E n hn ct hct ex this M25 hthis
                · refine AW.aload_n (pc := 194) dX6_clause_194 rfl 0 rfl ?_
                  refine AW.cV0i (pc := 195) dX6_clause_195 mlX6_111 mbX6_thiefClause rfl hthis (kct hthis rfl hct) (fun _ => okR_N (by omega)) (kX6_thiefClause l E (n - 1) (by omega) ct hct ex this M25) (Nat.le_of_ble_eq_true rfl) (fun v27 M28 => ?_)
                  refine AW.if_eq (pc := 198) 205 dX6_clause_198 (by decide) (fun h29 => ?_) (fun h29 => ?_)
                  · exact kX6_clause_B205 l E n hn ct hct ex this M28 hthis
                  · refine AW.iconst (pc := 201) dX6_clause_201 ci_1 ?_
                    refine AW.goto (pc := 202) 206 dX6_clause_202 (by decide) ?_
                    exact kX6_clause_B206 l E n hn ct hct ex this 1 M28 hthis
            · refine AW.aload_n (pc := 151) dX6_clause_151 rfl 0 rfl ?_
              refine AW.bipush (pc := 152) dX6_clause_152 cb_16 ?_
              refine AW.cV1i (pc := 154) dX6_clause_154 mlX6_78 mbX6_once rfl hthis (kct hthis rfl hct) (fun _ => okR_N (by omega)) (kX6_once l E (n - 1) (by omega) ct hct ex this 16 M17) (Nat.le_of_ble_eq_true rfl) (fun v30 M31 => ?_)
              refine AW.if_eq (pc := 157) 171 dX6_clause_157 (by decide) (fun h32 => ?_) (fun h32 => ?_)
              · exact kX6_clause_B171 l E n hn ct hct ex this M31 hthis
              · refine AW.aload_n (pc := 160) dX6_clause_160 rfl 0 rfl ?_
                refine AW.cV0i (pc := 161) dX6_clause_161 mlX6_106 mbX6_leastClause rfl hthis (kct hthis rfl hct) (fun _ => okR_N (by omega)) (kX6_leastClause l E (n - 1) (by omega) ct hct ex this M31) (Nat.le_of_ble_eq_true rfl) (fun v33 M34 => ?_)
                refine AW.if_eq (pc := 164) 171 dX6_clause_164 (by decide) (fun h35 => ?_) (fun h35 => ?_)
                · exact kX6_clause_B171 l E n hn ct hct ex this M34 hthis
                · refine AW.iconst (pc := 167) dX6_clause_167 ci_1 ?_
                  refine AW.goto (pc := 168) 172 dX6_clause_168 (by decide) ?_
                  exact kX6_clause_B172 l E n hn ct hct ex this 1 M34 hthis
          · refine AW.aload_n (pc := 121) dX6_clause_121 rfl 0 rfl ?_
            refine AW.bipush (pc := 122) dX6_clause_122 cb_8 ?_
            refine AW.cV1i (pc := 124) dX6_clause_124 mlX6_78 mbX6_once rfl hthis (kct hthis rfl hct) (fun _ => okR_N (by omega)) (kX6_once l E (n - 1) (by omega) ct hct ex this 8 M14) (Nat.le_of_ble_eq_true rfl) (fun v36 M37 => ?_)
            refine AW.istore_n (pc := 127) [1, 0] [(0, .ref (ad E this)), (1, .int v36)] dX6_clause_127 rfl (by decide) rfl ?_
            refine AW.aload_n (pc := 128) dX6_clause_128 rfl 0 rfl ?_
            refine AW.chk (fun g38 => ?_)
            refine AW.getR (pc := 129) dX6_clause_129 flX6_25 hthis (kct hthis rfl hct) g38 ?_
            refine AW.chk (fun g39 => ?_)
            refine AW.chk (fun g40 => ?_)
            refine AW.getR (pc := 132) dX6_clause_132 flX6_92 g39 (kct g39 rfl hct) g40 ?_
            refine AW.iconst (pc := 135) dX6_clause_135 ci_1 ?_
            refine AW.chk (fun g41 => ?_)
            refine AW.putI (pc := 136) dX6_clause_136 flX6_102 g41 (kct g41 rfl hct) ?_
            refine AW.genM (fun M42 => ?_)
            refine AW.goto (pc := 139) 216 dX6_clause_139 (by decide) ?_
            exact kX6_clause_B216 l E n hn ct hct ex this v36 M42 hthis
        · refine AW.aload_n (pc := 92) dX6_clause_92 rfl 0 rfl ?_
          refine AW.iconst (pc := 93) dX6_clause_93 ci_4 ?_
          refine AW.cV1i (pc := 94) dX6_clause_94 mlX6_78 mbX6_once rfl hthis (kct hthis rfl hct) (fun _ => okR_N (by omega)) (kX6_once l E (n - 1) (by omega) ct hct ex this 4 M11) (Nat.le_of_ble_eq_true rfl) (fun v43 M44 => ?_)
          refine AW.istore_n (pc := 97) [1, 0] [(0, .ref (ad E this)), (1, .int v43)] dX6_clause_97 rfl (by decide) rfl ?_
          refine AW.aload_n (pc := 98) dX6_clause_98 rfl 0 rfl ?_
          refine AW.chk (fun g45 => ?_)
          refine AW.getR (pc := 99) dX6_clause_99 flX6_25 hthis (kct hthis rfl hct) g45 ?_
          refine AW.chk (fun g46 => ?_)
          refine AW.chk (fun g47 => ?_)
          refine AW.getR (pc := 102) dX6_clause_102 flX6_92 g46 (kct g46 rfl hct) g47 ?_
          refine AW.iconst (pc := 105) dX6_clause_105 ci_1 ?_
          refine AW.chk (fun g48 => ?_)
          refine AW.putI (pc := 106) dX6_clause_106 flX6_96 g48 (kct g48 rfl hct) ?_
          refine AW.genM (fun M49 => ?_)
          refine AW.goto (pc := 109) 216 dX6_clause_109 (by decide) ?_
          exact kX6_clause_B216 l E n hn ct hct ex this v43 M49 hthis
      · refine AW.aload_n (pc := 59) dX6_clause_59 rfl 0 rfl ?_
        refine AW.iconst (pc := 60) dX6_clause_60 ci_2 ?_
        refine AW.cV1i (pc := 61) dX6_clause_61 mlX6_78 mbX6_once rfl hthis (kct hthis rfl hct) (fun _ => okR_N (by omega)) (kX6_once l E (n - 1) (by omega) ct hct ex this 2 M8) (Nat.le_of_ble_eq_true rfl) (fun v50 M51 => ?_)
        refine AW.if_eq (pc := 64) 78 dX6_clause_64 (by decide) (fun h52 => ?_) (fun h52 => ?_)
        · exact kX6_clause_B78 l E n hn ct hct ex this M51 hthis
        · refine AW.aload_n (pc := 67) dX6_clause_67 rfl 0 rfl ?_
          refine AW.cV0i (pc := 68) dX6_clause_68 mlX6_87 mbX6_cardClause rfl hthis (kct hthis rfl hct) (fun _ => okR_N (by omega)) (kX6_cardClause l E (n - 1) (by omega) ct hct ex this M51) (Nat.le_of_ble_eq_true rfl) (fun v53 M54 => ?_)
          refine AW.if_eq (pc := 71) 78 dX6_clause_71 (by decide) (fun h55 => ?_) (fun h55 => ?_)
          · exact kX6_clause_B78 l E n hn ct hct ex this M54 hthis
          · refine AW.iconst (pc := 74) dX6_clause_74 ci_1 ?_
            refine AW.goto (pc := 75) 79 dX6_clause_75 (by decide) ?_
            exact kX6_clause_B79 l E n hn ct hct ex this 1 M54 hthis
    · refine AW.aload_n (pc := 26) dX6_clause_26 rfl 0 rfl ?_
      refine AW.iconst (pc := 27) dX6_clause_27 ci_1 ?_
      refine AW.cV1i (pc := 28) dX6_clause_28 mlX6_78 mbX6_once rfl hthis (kct hthis rfl hct) (fun _ => okR_N (by omega)) (kX6_once l E (n - 1) (by omega) ct hct ex this 1 M5) (Nat.le_of_ble_eq_true rfl) (fun v56 M57 => ?_)
      refine AW.if_eq (pc := 31) 45 dX6_clause_31 (by decide) (fun h58 => ?_) (fun h58 => ?_)
      · exact kX6_clause_B45 l E n hn ct hct ex this M57 hthis
      · refine AW.aload_n (pc := 34) dX6_clause_34 rfl 0 rfl ?_
        refine AW.cV0i (pc := 35) dX6_clause_35 mlX6_82 mbX6_sightClause rfl hthis (kct hthis rfl hct) (fun _ => okR_N (by omega)) (kX6_sightClause l E (n - 1) (by omega) ct hct ex this M57) (Nat.le_of_ble_eq_true rfl) (fun v59 M60 => ?_)
        refine AW.if_eq (pc := 38) 45 dX6_clause_38 (by decide) (fun h61 => ?_) (fun h61 => ?_)
        · exact kX6_clause_B45 l E n hn ct hct ex this M60 hthis
        · refine AW.iconst (pc := 41) dX6_clause_41 ci_1 ?_
          refine AW.goto (pc := 42) 46 dX6_clause_42 (by decide) ?_
          exact kX6_clause_B46 l E n hn ct hct ex this 1 M60 hthis
  · refine AW.aload_n (pc := 9) dX6_clause_9 rfl 0 rfl ?_
    refine AW.cV0i (pc := 10) dX6_clause_10 mlX6_73 mbX6_sortClause rfl hthis (kct hthis rfl hct) (fun _ => okR_N (by omega)) (kX6_sortClause l E (n - 1) (by omega) ct hct ex this M2) (Nat.le_of_ble_eq_true rfl) (fun v62 M63 => ?_)
    refine AW.istore_n (pc := 13) [1, 0] [(0, .ref (ad E this)), (1, .int v62)] dX6_clause_13 rfl (by decide) rfl ?_
    refine AW.goto (pc := 14) 216 dX6_clause_14 (by decide) ?_
    exact kX6_clause_B216 l E n hn ct hct ex this v62 M63 hthis
-- GateBox$Reader.read(I)I
def zX6_read_B38 (KK38 : Nat → Int32 → Mem → Option (Int32 × Mem)) (this : Nat) (x2 : Int32) (M : Mem) : Option (Int32 × Mem) :=
  if 700 ≤ x2 then
    some (mI M this 11, M)
  else
    if (mI M this 7) = 0 then
      some (mI M this 11, M)
    else
      bnd (zX6_clause this M) fun v3 M4 =>
      if v3 = 0 then
        some (mI M4 this 11, M4)
      else
        KK38 this (x2 + 1) M4
def zX6_read_L38 : Nat → Nat → Int32 → Mem → Option (Int32 × Mem)
  | 0 => fun _ _ _ => none
  | k + 1 => zX6_read_B38 (zX6_read_L38 k)
def zX6_read (this : Nat) (x1 : Int32) (M : Mem) : Option (Int32 × Mem) :=
  if K0 this = (0, 6) then
  lt (sI M this 4 x1) fun M1 =>
  lt (sI M1 this 6 0) fun M2 =>
  lt (sI M2 this 10 0) fun M3 =>
  lt (sI M3 this 11 0) fun M4 =>
  lt (sI M4 this 1 0) fun M5 =>
  if mR M5 this 3 ≠ 0 then
  if K0 (mR M5 this 3) = (0, 8) then
  bnd (zX8_clear (mR M5 this 3) M5) fun _ M7 =>
  bnd (zX6_advance this M7) fun _ M9 =>
  zX6_read_L38 FU this 0 M9
  else none
  else none
  else none
set_option maxRecDepth 20000 in
set_option maxHeartbeats 4000000 in
theorem kX6_read_B38 (l : Launch) (E : Ev) (n : Nat) (hn : 97 ≤ n) (ct : Nat) (hct : 111 ≤ ct) (ex : Bool) (KK38 : Nat → Int32 → Mem → Option (Int32 × Mem)) (hKK38 : ∀ (this : Nat) (x2 : Int32) (M : Mem) (_ : K0 this = (0, 6)), AW l E fX6_read (fun _ => rmN n 0 0) (PQr E 0 0 ct ex enI) ct ex 0 0 38 [(0, .ref (ad E this)), (2, .int x2)] [] M (KK38 this x2 M)) (this : Nat) (x2 : Int32) (M : Mem) (hthis : K0 this = (0, 6)) : AW l E fX6_read (fun _ => rmN n 0 0) (PQr E 0 0 ct ex enI) ct ex 0 0 38 [(0, .ref (ad E this)), (2, .int x2)] [] M (zX6_read_B38 KK38 this x2 M) := by
  unfold zX6_read_B38
  refine AW.iload_n (pc := 38) dX6_read_38 rfl 1 rfl ?_
  refine AW.sipush (pc := 39) dX6_read_39 cs_700 ?_
  refine AW.icmp_ge (pc := 42) 68 dX6_read_42 (by decide) (fun h1 => ?_) (fun h1 => ?_)
  · refine AW.aload_n (pc := 68) dX6_read_68 rfl 0 rfl ?_
    refine AW.getI (pc := 69) dX6_read_69 flX6_50 hthis (kct hthis rfl hct) ?_
    exact AW.iret (pc := 72) dX6_read_72 rfl (fun _ _ _ => rfl) (Nat.le_refl _) (Nat.le_refl _)
  · refine AW.aload_n (pc := 45) dX6_read_45 rfl 0 rfl ?_
    refine AW.getI (pc := 46) dX6_read_46 flX6_38 hthis (kct hthis rfl hct) ?_
    refine AW.if_eq (pc := 49) 68 dX6_read_49 (by decide) (fun h2 => ?_) (fun h2 => ?_)
    · refine AW.aload_n (pc := 68) dX6_read_68 rfl 0 rfl ?_
      refine AW.getI (pc := 69) dX6_read_69 flX6_50 hthis (kct hthis rfl hct) ?_
      exact AW.iret (pc := 72) dX6_read_72 rfl (fun _ _ _ => rfl) (Nat.le_refl _) (Nat.le_refl _)
    · refine AW.aload_n (pc := 52) dX6_read_52 rfl 0 rfl ?_
      refine AW.cV0i (pc := 53) dX6_read_53 mlX6_63 mbX6_clause rfl hthis (kct hthis rfl hct) (fun _ => okR_N (by omega)) (kX6_clause l E (n - 1) (by omega) ct hct ex this M) (Nat.le_of_ble_eq_true rfl) (fun v3 M4 => ?_)
      refine AW.if_ne (pc := 56) 62 dX6_read_56 (by decide) (fun h5 => ?_) (fun h5 => ?_)
      · refine AW.goto (pc := 59) 68 dX6_read_59 (by decide) ?_
        refine AW.aload_n (pc := 68) dX6_read_68 rfl 0 rfl ?_
        refine AW.getI (pc := 69) dX6_read_69 flX6_50 hthis (kct hthis rfl hct) ?_
        exact AW.iret (pc := 72) dX6_read_72 rfl (fun _ _ _ => rfl) (Nat.le_refl _) (Nat.le_refl _)
      · refine AW.iinc (pc := 62) (w := 1) [1, 0] [(0, .ref (ad E this)), (2, .int (x2 + 1))] dX6_read_62 rfl (inc_1 _) (by decide) rfl ?_
        refine AW.goto (pc := 65) 38 dX6_read_65 (by decide) ?_
        exact hKK38 this (x2 + 1) M4 hthis
set_option maxRecDepth 20000 in
set_option maxHeartbeats 4000000 in
theorem kX6_read_L38 (l : Launch) (E : Ev) (n : Nat) (hn : 97 ≤ n) (ct : Nat) (hct : 111 ≤ ct) (ex : Bool) (k : Nat) : ∀ (this : Nat) (x2 : Int32) (M : Mem) (_ : K0 this = (0, 6)), AW l E fX6_read (fun _ => rmN n 0 0) (PQr E 0 0 ct ex enI) ct ex 0 0 38 [(0, .ref (ad E this)), (2, .int x2)] [] M (zX6_read_L38 k this x2 M) := by
  induction k with
  | zero => intro this x2 M _; exact AW.none
  | succ k ih =>
    intro this x2 M hthis
    exact kX6_read_B38 l E n hn ct hct ex (zX6_read_L38 k) ih this x2 M hthis
set_option maxRecDepth 20000 in
set_option maxHeartbeats 4000000 in
theorem kX6_read (l : Launch) (E : Ev) (n : Nat) (hn : 97 ≤ n) (ct : Nat) (hct : 111 ≤ ct) (ex : Bool) (this : Nat) (x1 : Int32) (M : Mem) : AM l E n ct ex yX6_read fX6_read enI [.ref (ad E this), .int x1] M (zX6_read this x1 M) := by
  unfold zX6_read
  refine AM.of (by decide +kernel) ⟨rfl, rfl, rfl⟩ (Nat.le_of_ble_eq_true rfl) ?_
  refine AW.chk (fun hthis => ?_)
  refine AW.aload_n (pc := 0) dX6_read_0 rfl 0 rfl ?_
  refine AW.iload_n (pc := 1) dX6_read_1 rfl 1 rfl ?_
  refine AW.putI (pc := 2) dX6_read_2 flX6_29 hthis (kct hthis rfl hct) ?_
  refine AW.genM (fun M1 => ?_)
  refine AW.aload_n (pc := 5) dX6_read_5 rfl 0 rfl ?_
  refine AW.iconst (pc := 6) dX6_read_6 ci_0 ?_
  refine AW.putI (pc := 7) dX6_read_7 flX6_35 hthis (kct hthis rfl hct) ?_
  refine AW.genM (fun M2 => ?_)
  refine AW.aload_n (pc := 10) dX6_read_10 rfl 0 rfl ?_
  refine AW.iconst (pc := 11) dX6_read_11 ci_0 ?_
  refine AW.putI (pc := 12) dX6_read_12 flX6_47 hthis (kct hthis rfl hct) ?_
  refine AW.genM (fun M3 => ?_)
  refine AW.aload_n (pc := 15) dX6_read_15 rfl 0 rfl ?_
  refine AW.iconst (pc := 16) dX6_read_16 ci_0 ?_
  refine AW.putI (pc := 17) dX6_read_17 flX6_50 hthis (kct hthis rfl hct) ?_
  refine AW.genM (fun M4 => ?_)
  refine AW.aload_n (pc := 20) dX6_read_20 rfl 0 rfl ?_
  refine AW.iconst (pc := 21) dX6_read_21 ci_0 ?_
  refine AW.putI (pc := 22) dX6_read_22 flX6_15 hthis (kct hthis rfl hct) ?_
  refine AW.genM (fun M5 => ?_)
  refine AW.aload_n (pc := 25) dX6_read_25 rfl 0 rfl ?_
  refine AW.chk (fun g6 => ?_)
  refine AW.getR (pc := 26) dX6_read_26 flX6_25 hthis (kct hthis rfl hct) g6 ?_
  refine AW.chk (fun g8 => ?_)
  refine AW.cV0v (pc := 29) dX6_read_29 mlX6_57 mbX8_clear rfl g8 (kct g8 rfl hct) (fun _ => okR_N (by omega)) (kX8_clear l E (n - 1) (by omega) ct hct ex (mR M5 this 3) M5) (Nat.le_of_ble_eq_true rfl) (fun _ M7 => ?_)
  refine AW.aload_n (pc := 32) dX6_read_32 rfl 0 rfl ?_
  refine AW.cV0v (pc := 33) dX6_read_33 mlX6_60 mbX6_advance rfl hthis (kct hthis rfl hct) (fun _ => okR_N (by omega)) (kX6_advance l E (n - 1) (by omega) ct hct ex this M7) (Nat.le_of_ble_eq_true rfl) (fun _ M9 => ?_)
  refine AW.iconst (pc := 36) dX6_read_36 ci_0 ?_
  refine AW.istore_n (pc := 37) [1, 0] [(0, .ref (ad E this)), (2, .int 0)] dX6_read_37 rfl (by decide) rfl ?_
  exact kX6_read_L38 l E n hn ct hct ex FU this 0 M9 hthis
