/-! ===== functions over the memory and their contracts: printed by wip/whole/lay.py ===== -/
-- GateBox.turn(II)I
def zX11_turn_B12 (KK12 : Nat → Int32 → Int32 → Mem → Option ((Int32 ⊕ Nat) × Mem)) (this : Nat) (x2 : Int32) (x3 : Int32) (M : Mem) : Option ((Int32 ⊕ Nat) × Mem) :=
  if 400 < x3 then
    some (.inl (-1), M)
  else
    if mR M this 8 ≠ 0 then
    if K0 (mR M this 8) = (0, 10) then
    bnd (zX10_driftOfOneMore (mR M this 8) M) fun v3 M4 =>
    if x2 ≤ v3 then
      KK12 this x2 (x3 + 1) M4
    else
      some (.inl x3, M4)
    else none
    else none
def zX11_turn_L12 : Nat → Nat → Int32 → Int32 → Mem → Option ((Int32 ⊕ Nat) × Mem)
  | 0 => fun _ _ _ _ => none
  | k + 1 => zX11_turn_B12 (zX11_turn_L12 k)
def zX11_turn (this : Nat) (x1 : Int32) (x2 : Int32) (M : Mem) : Option ((Int32 ⊕ Nat) × Mem) :=
  if K0 this = (0, 11) then
  bndX (zX11_gateOf this x1 M) fun v1 M2 =>
  bnd (zX11_walkAlong this v1 0 M2) fun _ M3 =>
  zX11_turn_L12 FU this x2 1 M3
  else none
set_option maxRecDepth 20000 in
set_option maxHeartbeats 4000000 in
theorem kX11_turn_B12 (l : Launch) (E : Ev) (hst : l.stackTraces = false) (n : Nat) (hn : 8 ≤ n) (ct : Nat) (hct : 111 ≤ ct) (ex : Bool) (KK12 : Nat → Int32 → Int32 → Mem → Option ((Int32 ⊕ Nat) × Mem)) (hKK12 : ∀ (this : Nat) (x2 : Int32) (x3 : Int32) (M : Mem) (_ : K0 this = (0, 11)), AW l E fX11_turn (RX n) (PQX E ct ex enI) ct ex 0 0 12 [(0, .ref (ad E this)), (2, .int x2), (3, .int x3)] [] M (KK12 this x2 x3 M)) (this : Nat) (x2 : Int32) (x3 : Int32) (M : Mem) (hthis : K0 this = (0, 11)) : AW l E fX11_turn (RX n) (PQX E ct ex enI) ct ex 0 0 12 [(0, .ref (ad E this)), (2, .int x2), (3, .int x3)] [] M (zX11_turn_B12 KK12 this x2 x3 M) := by
  unfold zX11_turn_B12
  refine AW.iload_n (pc := 12) dX11_turn_12 rfl 2 rfl ?_
  refine AW.sipush (pc := 13) dX11_turn_13 cs_400 ?_
  refine AW.icmp_gt (pc := 16) 38 dX11_turn_16 (by decide) (fun h1 => ?_) (fun h1 => ?_)
  · refine AW.iconst (pc := 38) dX11_turn_38 ci_m1 ?_
    exact AW.iret (pc := 39) dX11_turn_39 rfl (fun _ _ _ => rfl) (Nat.le_refl _) (Nat.le_refl _)
  · refine AW.aload_n (pc := 19) dX11_turn_19 rfl 0 rfl ?_
    refine AW.chk (fun g2 => ?_)
    refine AW.getR (pc := 20) dX11_turn_20 flX11_59 hthis (kct hthis rfl hct) g2 ?_
    refine AW.chk (fun g5 => ?_)
    refine AW.cV0i (pc := 23) dX11_turn_23 mlX11_204 mbX10_driftOfOneMore rfl g5 (kct g5 rfl hct) (fun r => okR_X (by omega) r) (kX10_driftOfOneMore l E (n - 1) (by omega) ct hct ex (mR M this 8) M) (Nat.le_of_ble_eq_true rfl) (fun v3 M4 => ?_)
    refine AW.iload_n (pc := 26) dX11_turn_26 rfl 1 rfl ?_
    refine AW.icmp_ge (pc := 27) 32 dX11_turn_27 (by decide) (fun h6 => ?_) (fun h6 => ?_)
    · refine AW.iinc (pc := 32) (w := 2) [1, 2, 0] [(0, .ref (ad E this)), (2, .int x2), (3, .int (x3 + 1))] dX11_turn_32 rfl (inc_1 _) (by decide) rfl ?_
      refine AW.goto (pc := 35) 12 dX11_turn_35 (by decide) ?_
      exact hKK12 this x2 (x3 + 1) M4 hthis
    · refine AW.iload_n (pc := 30) dX11_turn_30 rfl 2 rfl ?_
      exact AW.iret (pc := 31) dX11_turn_31 rfl (fun _ _ _ => rfl) (Nat.le_refl _) (Nat.le_refl _)
set_option maxRecDepth 20000 in
set_option maxHeartbeats 4000000 in
theorem kX11_turn_L12 (l : Launch) (E : Ev) (hst : l.stackTraces = false) (n : Nat) (hn : 8 ≤ n) (ct : Nat) (hct : 111 ≤ ct) (ex : Bool) (k : Nat) : ∀ (this : Nat) (x2 : Int32) (x3 : Int32) (M : Mem) (_ : K0 this = (0, 11)), AW l E fX11_turn (RX n) (PQX E ct ex enI) ct ex 0 0 12 [(0, .ref (ad E this)), (2, .int x2), (3, .int x3)] [] M (zX11_turn_L12 k this x2 x3 M) := by
  induction k with
  | zero => intro this x2 x3 M _; exact AW.none
  | succ k ih =>
    intro this x2 x3 M hthis
    exact kX11_turn_B12 l E hst n hn ct hct ex (zX11_turn_L12 k) ih this x2 x3 M hthis
set_option maxRecDepth 20000 in
set_option maxHeartbeats 4000000 in
theorem kX11_turn (l : Launch) (E : Ev) (hst : l.stackTraces = false) (n : Nat) (hn : 8 ≤ n) (ct : Nat) (hct : 111 ≤ ct) (ex : Bool) (this : Nat) (x1 : Int32) (x2 : Int32) (M : Mem) : AMX l E n ct ex yX11_turn fX11_turn enI [.ref (ad E this), .int x1, .int x2] M (zX11_turn this x1 x2 M) := by
  unfold zX11_turn
  refine AMX.of (by decide +kernel) ⟨rfl, rfl, rfl⟩ (Nat.le_of_ble_eq_true rfl) ?_
  refine AW.chk (fun hthis => ?_)
  refine AW.aload_n (pc := 0) dX11_turn_0 rfl 0 rfl ?_
  refine AW.aload_n (pc := 1) dX11_turn_1 rfl 0 rfl ?_
  refine AW.iload_n (pc := 2) dX11_turn_2 rfl 1 rfl ?_
  refine AW.xV1r (pc := 3) rfl dX11_turn_3 mlX11_106 mbX11_gateOf rfl hthis (kct hthis rfl hct) (by omega) (kX11_gateOf l E hst (n - 1) (by omega) ct hct ex this x1 M) (Nat.le_of_ble_eq_true rfl) (fun v1 M2 => ?_)
  refine AW.iconst (pc := 6) dX11_turn_6 ci_0 ?_
  refine AW.cV2v (pc := 7) dX11_turn_7 mlX11_185 mbX11_walkAlong rfl hthis (kct hthis rfl hct) (fun r => okR_X (by omega) r) (kX11_walkAlong l E (n - 1) (by omega) ct hct ex this v1 0 M2) (Nat.le_of_ble_eq_true rfl) (fun _ M3 => ?_)
  refine AW.iconst (pc := 10) dX11_turn_10 ci_1 ?_
  refine AW.istore_n (pc := 11) [1, 3, 0] [(0, .ref (ad E this)), (2, .int x2), (3, .int 1)] dX11_turn_11 rfl (by decide) rfl ?_
  exact kX11_turn_L12 l E hst n hn ct hct ex FU this x2 1 M3 hthis
-- GateBox$Rests.isRow(I)Z
def zX7_isRow (this : Nat) (x1 : Int32) (M : Mem) : Option (Int32 × Mem) :=
  if K0 this = (0, 7) then
  if x1 < 0 then
    some (0, M)
  else
    if mR M this 1 ≠ 0 then
    if (K0 (mR M this 1)).1 = 2 then
    if (Int32.ofNat (K0 (mR M this 1)).2) ≤ x1 then
      some (0, M)
    else
      if mR M this 2 ≠ 0 then
      if (K0 (mR M this 2)).1 = 2 then
      if (Int32.ofNat (K0 (mR M this 2)).2) ≤ x1 then
        some (0, M)
      else
        some (1, M)
      else none
      else none
    else none
    else none
  else none
set_option maxRecDepth 20000 in
set_option maxHeartbeats 4000000 in
theorem kX7_isRow (l : Launch) (E : Ev) (n : Nat) (hn : 1 ≤ n) (ct : Nat) (hct : 111 ≤ ct) (ex : Bool) (this : Nat) (x1 : Int32) (M : Mem) : AM l E n ct ex yX7_isRow fX7_isRow enI [.ref (ad E this), .int x1] M (zX7_isRow this x1 M) := by
  unfold zX7_isRow
  refine AM.of (by decide +kernel) ⟨rfl, rfl, rfl⟩ (Nat.le_of_ble_eq_true rfl) ?_
  refine AW.chk (fun hthis => ?_)
  refine AW.iload_n (pc := 0) dX7_isRow_0 rfl 1 rfl ?_
  refine AW.if_lt (pc := 1) 26 dX7_isRow_1 (by decide) (fun h1 => ?_) (fun h1 => ?_)
  · refine AW.iconst (pc := 26) dX7_isRow_26 ci_0 ?_
    exact AW.zret (pc := 27) dX7_isRow_27 rfl (Or.inl rfl) (fun _ _ _ => rfl) (Nat.le_refl _) (Nat.le_refl _)
  · refine AW.iload_n (pc := 4) dX7_isRow_4 rfl 1 rfl ?_
    refine AW.aload_n (pc := 5) dX7_isRow_5 rfl 0 rfl ?_
    refine AW.chk (fun g2 => ?_)
    refine AW.getR (pc := 6) dX7_isRow_6 flX7_9 hthis (kct hthis rfl hct) g2 ?_
    refine AW.chk (fun g3 => ?_)
    refine AW.alen (pc := 9) dX7_isRow_9 (k0e g3) (by decide) (kct (k0e g3) rfl hct) rfl ?_
    refine AW.icmp_ge (pc := 10) 26 dX7_isRow_10 (by decide) (fun h4 => ?_) (fun h4 => ?_)
    · refine AW.iconst (pc := 26) dX7_isRow_26 ci_0 ?_
      exact AW.zret (pc := 27) dX7_isRow_27 rfl (Or.inl rfl) (fun _ _ _ => rfl) (Nat.le_refl _) (Nat.le_refl _)
    · refine AW.iload_n (pc := 13) dX7_isRow_13 rfl 1 rfl ?_
      refine AW.aload_n (pc := 14) dX7_isRow_14 rfl 0 rfl ?_
      refine AW.chk (fun g5 => ?_)
      refine AW.getR (pc := 15) dX7_isRow_15 flX7_15 hthis (kct hthis rfl hct) g5 ?_
      refine AW.chk (fun g6 => ?_)
      refine AW.alen (pc := 18) dX7_isRow_18 (k0e g6) (by decide) (kct (k0e g6) rfl hct) rfl ?_
      refine AW.icmp_ge (pc := 19) 26 dX7_isRow_19 (by decide) (fun h7 => ?_) (fun h7 => ?_)
      · refine AW.iconst (pc := 26) dX7_isRow_26 ci_0 ?_
        exact AW.zret (pc := 27) dX7_isRow_27 rfl (Or.inl rfl) (fun _ _ _ => rfl) (Nat.le_refl _) (Nat.le_refl _)
      · refine AW.iconst (pc := 22) dX7_isRow_22 ci_1 ?_
        refine AW.goto (pc := 23) 27 dX7_isRow_23 (by decide) ?_
        exact AW.zret (pc := 27) dX7_isRow_27 rfl (Or.inr rfl) (fun _ _ _ => rfl) (Nat.le_refl _) (Nat.le_refl _)
-- GateBox$Rests.mark(II)V
def zX7_mark (this : Nat) (x1 : Int32) (x2 : Int32) (M : Mem) : Option (Unit × Mem) :=
  if K0 this = (0, 7) then
  bnd (zX7_isRow this x1 M) fun v1 M2 =>
  if v1 = 0 then
    some ((), M2)
  else
    if 64 ≤ x2 then
      if mR M2 this 2 ≠ 0 then
      if (K0 (mR M2 this 2)).1 = 2 ∧ inb x1 (K0 (mR M2 this 2)).2 = true then
      if inb x1 (K0 (mR M2 this 2)).2 = true then
      lt (sL M2 (mR M2 this 2) (Int32.toNatClampNeg x1) ((mL M2 (mR M2 this 2) (Int32.toNatClampNeg x1)) ||| (lshl 1 (x2 - 64)))) fun M8 =>
      some ((), M8)
      else none
      else none
      else none
    else
      if mR M2 this 1 ≠ 0 then
      if (K0 (mR M2 this 1)).1 = 2 ∧ inb x1 (K0 (mR M2 this 1)).2 = true then
      if inb x1 (K0 (mR M2 this 1)).2 = true then
      lt (sL M2 (mR M2 this 1) (Int32.toNatClampNeg x1) ((mL M2 (mR M2 this 1) (Int32.toNatClampNeg x1)) ||| (lshl 1 x2))) fun M12 =>
      some ((), M12)
      else none
      else none
      else none
  else none
set_option maxRecDepth 20000 in
set_option maxHeartbeats 4000000 in
theorem kX7_mark (l : Launch) (E : Ev) (n : Nat) (hn : 2 ≤ n) (ct : Nat) (hct : 111 ≤ ct) (ex : Bool) (this : Nat) (x1 : Int32) (x2 : Int32) (M : Mem) : AM l E n ct ex yX7_mark fX7_mark enU [.ref (ad E this), .int x1, .int x2] M (zX7_mark this x1 x2 M) := by
  unfold zX7_mark
  refine AM.of (by decide +kernel) ⟨rfl, rfl, rfl⟩ (Nat.le_of_ble_eq_true rfl) ?_
  refine AW.chk (fun hthis => ?_)
  refine AW.aload_n (pc := 0) dX7_mark_0 rfl 0 rfl ?_
  refine AW.iload_n (pc := 1) dX7_mark_1 rfl 1 rfl ?_
  refine AW.cV1i (pc := 2) dX7_mark_2 mlX7_56 mbX7_isRow rfl hthis (kct hthis rfl hct) (fun _ => okR_N (by omega)) (kX7_isRow l E (n - 1) (by omega) ct hct ex this x1 M) (Nat.le_of_ble_eq_true rfl) (fun v1 M2 => ?_)
  refine AW.if_ne (pc := 5) 9 dX7_mark_5 (by decide) (fun h3 => ?_) (fun h3 => ?_)
  · exact AW.vret (pc := 8) dX7_mark_8 rfl (fun _ _ _ => rfl) (Nat.le_refl _) (Nat.le_refl _)
  · refine AW.iload_n (pc := 9) dX7_mark_9 rfl 2 rfl ?_
    refine AW.bipush (pc := 10) dX7_mark_10 cb_64 ?_
    refine AW.icmp_ge (pc := 12) 30 dX7_mark_12 (by decide) (fun h4 => ?_) (fun h4 => ?_)
    · refine AW.aload_n (pc := 30) dX7_mark_30 rfl 0 rfl ?_
      refine AW.chk (fun g5 => ?_)
      refine AW.getR (pc := 31) dX7_mark_31 flX7_15 hthis (kct hthis rfl hct) g5 ?_
      refine AW.iload_n (pc := 34) dX7_mark_34 rfl 1 rfl ?_
      refine AW.dup2 (pc := 35) dX7_mark_35 rfl rfl ?_
      refine AW.chk (fun g6 => ?_)
      refine AW.lald (pc := 36) dX7_mark_36 (k0e g6.1) (kct (k0e g6.1) rfl hct) g6.2 ?_
      refine AW.lconst (pc := 37) dX7_mark_37 cl_1 ?_
      refine AW.iload_n (pc := 38) dX7_mark_38 rfl 2 rfl ?_
      refine AW.bipush (pc := 39) dX7_mark_39 cb_64 ?_
      refine AW.isub (pc := 41) dX7_mark_41 ?_
      refine AW.lshl (pc := 42) dX7_mark_42 ?_
      refine AW.lor (pc := 43) dX7_mark_43 ?_
      refine AW.chk (fun g7 => ?_)
      refine AW.last (pc := 44) dX7_mark_44 (k0e g6.1) (kct (k0e g6.1) rfl hct) g7 ?_
      refine AW.genM (fun M8 => ?_)
      exact AW.vret (pc := 45) dX7_mark_45 rfl (fun _ _ _ => rfl) (Nat.le_refl _) (Nat.le_refl _)
    · refine AW.aload_n (pc := 15) dX7_mark_15 rfl 0 rfl ?_
      refine AW.chk (fun g9 => ?_)
      refine AW.getR (pc := 16) dX7_mark_16 flX7_9 hthis (kct hthis rfl hct) g9 ?_
      refine AW.iload_n (pc := 19) dX7_mark_19 rfl 1 rfl ?_
      refine AW.dup2 (pc := 20) dX7_mark_20 rfl rfl ?_
      refine AW.chk (fun g10 => ?_)
      refine AW.lald (pc := 21) dX7_mark_21 (k0e g10.1) (kct (k0e g10.1) rfl hct) g10.2 ?_
      refine AW.lconst (pc := 22) dX7_mark_22 cl_1 ?_
      refine AW.iload_n (pc := 23) dX7_mark_23 rfl 2 rfl ?_
      refine AW.lshl (pc := 24) dX7_mark_24 ?_
      refine AW.lor (pc := 25) dX7_mark_25 ?_
      refine AW.chk (fun g11 => ?_)
      refine AW.last (pc := 26) dX7_mark_26 (k0e g10.1) (kct (k0e g10.1) rfl hct) g11 ?_
      refine AW.genM (fun M12 => ?_)
      refine AW.goto (pc := 27) 45 dX7_mark_27 (by decide) ?_
      exact AW.vret (pc := 45) dX7_mark_45 rfl (fun _ _ _ => rfl) (Nat.le_refl _) (Nat.le_refl _)
-- GateBox$Rests.link(I)V
def zX7_link_B77 (KK30 : Nat → Int32 → Int32 → Mem → Option (Unit × Mem)) (this : Nat) (x1 : Int32) (x2 : Int32) (M : Mem) : Option (Unit × Mem) :=
  KK30 this x1 (x2 + 1) M
def zX7_link_B30 (KK30 : Nat → Int32 → Int32 → Mem → Option (Unit × Mem)) (this : Nat) (x1 : Int32) (x2 : Int32) (M : Mem) : Option (Unit × Mem) :=
  if mR M this 0 ≠ 0 then
  if K0 (mR M this 0) = (0, 5) then
  if mR M (mR M this 0) 0 ≠ 0 then
  if K0 (mR M (mR M this 0) 0) = (0, 8) then
  if (mI M (mR M (mR M this 0) 0) 0) ≤ x2 then
    some ((), M)
  else
    bnd (zX5_giftAt (mR M this 0) x2 x1 0 M) fun v6 M7 =>
    if v6 = (-1) then
      zX7_link_B77 KK30 this x1 x2 M7
    else
      if mR M7 this 0 ≠ 0 then
      if K0 (mR M7 this 0) = (0, 5) then
      if mR M7 (mR M7 this 0) 0 ≠ 0 then
      if K0 (mR M7 (mR M7 this 0) 0) = (0, 8) then
      bnd (zX8_stateBehind (mR M7 (mR M7 this 0) 0) x1 v6 M7) fun v12 M13 =>
      bnd (zX7_mark this x1 v12 M13) fun _ M15 =>
      zX7_link_B77 KK30 this x1 x2 M15
      else none
      else none
      else none
      else none
  else none
  else none
  else none
  else none
def zX7_link_L30 : Nat → Nat → Int32 → Int32 → Mem → Option (Unit × Mem)
  | 0 => fun _ _ _ _ => none
  | k + 1 => zX7_link_B30 (zX7_link_L30 k)
def zX7_link_B22 (this : Nat) (x1 : Int32) (M : Mem) : Option (Unit × Mem) :=
  bnd (zX7_mark this x1 x1 M) fun _ M1 =>
  zX7_link_L30 FU this x1 0 M1
def zX7_link (this : Nat) (x1 : Int32) (M : Mem) : Option (Unit × Mem) :=
  if K0 this = (0, 7) then
  bnd (zX7_isRow this x1 M) fun v1 M2 =>
  if v1 = 0 then
    zX7_link_B22 this x1 M2
  else
    if mR M2 this 1 ≠ 0 then
    if (K0 (mR M2 this 1)).1 = 2 ∧ inb x1 (K0 (mR M2 this 1)).2 = true then
    lt (sL M2 (mR M2 this 1) (Int32.toNatClampNeg x1) 0) fun M6 =>
    if mR M6 this 2 ≠ 0 then
    if (K0 (mR M6 this 2)).1 = 2 ∧ inb x1 (K0 (mR M6 this 2)).2 = true then
    lt (sL M6 (mR M6 this 2) (Int32.toNatClampNeg x1) 0) fun M9 =>
    zX7_link_B22 this x1 M9
    else none
    else none
    else none
    else none
  else none
set_option maxRecDepth 20000 in
set_option maxHeartbeats 4000000 in
theorem kX7_link_B77 (l : Launch) (E : Ev) (n : Nat) (hn : 4 ≤ n) (ct : Nat) (hct : 111 ≤ ct) (ex : Bool) (KK30 : Nat → Int32 → Int32 → Mem → Option (Unit × Mem)) (hKK30 : ∀ (this : Nat) (x1 : Int32) (x2 : Int32) (M : Mem) (_ : K0 this = (0, 7)), AW l E fX7_link (fun _ => rmN n 0 0) (PQr E 0 0 ct ex enU) ct ex 0 0 30 [(0, .ref (ad E this)), (1, .int x1), (2, .int x2)] [] M (KK30 this x1 x2 M)) (this : Nat) (x1 : Int32) (x2 : Int32) (M : Mem) (hthis : K0 this = (0, 7)) : AW l E fX7_link (fun _ => rmN n 0 0) (PQr E 0 0 ct ex enU) ct ex 0 0 77 [(0, .ref (ad E this)), (1, .int x1), (2, .int x2)] [] M (zX7_link_B77 KK30 this x1 x2 M) := by
  unfold zX7_link_B77
  refine AW.iinc (pc := 77) (w := 2) [1, 2, 0] [(0, .ref (ad E this)), (1, .int x1), (2, .int (x2 + 1))] dX7_link_77 rfl (inc_1 _) (by decide) rfl ?_
  refine AW.goto (pc := 80) 30 dX7_link_80 (by decide) ?_
  exact hKK30 this x1 (x2 + 1) M hthis
set_option maxRecDepth 20000 in
set_option maxHeartbeats 4000000 in
theorem kX7_link_B30 (l : Launch) (E : Ev) (n : Nat) (hn : 4 ≤ n) (ct : Nat) (hct : 111 ≤ ct) (ex : Bool) (KK30 : Nat → Int32 → Int32 → Mem → Option (Unit × Mem)) (hKK30 : ∀ (this : Nat) (x1 : Int32) (x2 : Int32) (M : Mem) (_ : K0 this = (0, 7)), AW l E fX7_link (fun _ => rmN n 0 0) (PQr E 0 0 ct ex enU) ct ex 0 0 30 [(0, .ref (ad E this)), (1, .int x1), (2, .int x2)] [] M (KK30 this x1 x2 M)) (this : Nat) (x1 : Int32) (x2 : Int32) (M : Mem) (hthis : K0 this = (0, 7)) : AW l E fX7_link (fun _ => rmN n 0 0) (PQr E 0 0 ct ex enU) ct ex 0 0 30 [(0, .ref (ad E this)), (1, .int x1), (2, .int x2)] [] M (zX7_link_B30 KK30 this x1 x2 M) := by
  unfold zX7_link_B30
  refine AW.iload_n (pc := 30) dX7_link_30 rfl 2 rfl ?_
  refine AW.aload_n (pc := 31) dX7_link_31 rfl 0 rfl ?_
  refine AW.chk (fun g1 => ?_)
  refine AW.getR (pc := 32) dX7_link_32 flX7_25 hthis (kct hthis rfl hct) g1 ?_
  refine AW.chk (fun g2 => ?_)
  refine AW.chk (fun g3 => ?_)
  refine AW.getR (pc := 35) dX7_link_35 flX7_29 g2 (kct g2 rfl hct) g3 ?_
  refine AW.chk (fun g4 => ?_)
  refine AW.getI (pc := 38) dX7_link_38 flX7_62 g4 (kct g4 rfl hct) ?_
  refine AW.icmp_ge (pc := 41) 83 dX7_link_41 (by decide) (fun h5 => ?_) (fun h5 => ?_)
  · exact AW.vret (pc := 83) dX7_link_83 rfl (fun _ _ _ => rfl) (Nat.le_refl _) (Nat.le_refl _)
  · refine AW.aload_n (pc := 44) dX7_link_44 rfl 0 rfl ?_
    refine AW.getR (pc := 45) dX7_link_45 flX7_25 hthis (kct hthis rfl hct) g1 ?_
    refine AW.iload_n (pc := 48) dX7_link_48 rfl 2 rfl ?_
    refine AW.iload_n (pc := 49) dX7_link_49 rfl 1 rfl ?_
    refine AW.iconst (pc := 50) dX7_link_50 ci_0 ?_
    refine AW.cV3i (pc := 51) dX7_link_51 mlX7_65 mbX5_giftAt rfl g2 (kct g2 rfl hct) (fun _ => okR_N (by omega)) (kX5_giftAt l E (n - 1) (by omega) ct hct ex (mR M this 0) x2 x1 0 M) (Nat.le_of_ble_eq_true rfl) (fun v6 M7 => ?_)
    refine AW.istore_n (pc := 54) [1, 2, 3, 0] [(0, .ref (ad E this)), (1, .int x1), (2, .int x2), (3, .int v6)] dX7_link_54 rfl (by decide) rfl ?_
    refine AW.iload_n (pc := 55) dX7_link_55 rfl 3 rfl ?_
    refine AW.iconst (pc := 56) dX7_link_56 ci_m1 ?_
    refine AW.icmp_eq (pc := 57) 77 dX7_link_57 (by decide) (fun h8 => ?_) (fun h8 => ?_)
    · exact AW.sub [0, 1, 2] rfl (kX7_link_B77 l E n hn ct hct ex KK30 hKK30 this x1 x2 M7 hthis)
    · refine AW.aload_n (pc := 60) dX7_link_60 rfl 0 rfl ?_
      refine AW.iload_n (pc := 61) dX7_link_61 rfl 1 rfl ?_
      refine AW.aload_n (pc := 62) dX7_link_62 rfl 0 rfl ?_
      refine AW.chk (fun g9 => ?_)
      refine AW.getR (pc := 63) dX7_link_63 flX7_25 hthis (kct hthis rfl hct) g9 ?_
      refine AW.chk (fun g10 => ?_)
      refine AW.chk (fun g11 => ?_)
      refine AW.getR (pc := 66) dX7_link_66 flX7_29 g10 (kct g10 rfl hct) g11 ?_
      refine AW.iload_n (pc := 69) dX7_link_69 rfl 1 rfl ?_
      refine AW.iload_n (pc := 70) dX7_link_70 rfl 3 rfl ?_
      refine AW.chk (fun g14 => ?_)
      refine AW.cV2i (pc := 71) dX7_link_71 mlX7_69 mbX8_stateBehind rfl g14 (kct g14 rfl hct) (fun _ => okR_N (by omega)) (kX8_stateBehind l E (n - 1) (by omega) ct hct ex (mR M7 (mR M7 this 0) 0) x1 v6 M7) (Nat.le_of_ble_eq_true rfl) (fun v12 M13 => ?_)
      refine AW.cV2v (pc := 74) dX7_link_74 mlX7_59 mbX7_mark rfl hthis (kct hthis rfl hct) (fun _ => okR_N (by omega)) (kX7_mark l E (n - 1) (by omega) ct hct ex this x1 v12 M13) (Nat.le_of_ble_eq_true rfl) (fun _ M15 => ?_)
      exact AW.sub [0, 1, 2] rfl (kX7_link_B77 l E n hn ct hct ex KK30 hKK30 this x1 x2 M15 hthis)
set_option maxRecDepth 20000 in
set_option maxHeartbeats 4000000 in
theorem kX7_link_L30 (l : Launch) (E : Ev) (n : Nat) (hn : 4 ≤ n) (ct : Nat) (hct : 111 ≤ ct) (ex : Bool) (k : Nat) : ∀ (this : Nat) (x1 : Int32) (x2 : Int32) (M : Mem) (_ : K0 this = (0, 7)), AW l E fX7_link (fun _ => rmN n 0 0) (PQr E 0 0 ct ex enU) ct ex 0 0 30 [(0, .ref (ad E this)), (1, .int x1), (2, .int x2)] [] M (zX7_link_L30 k this x1 x2 M) := by
  induction k with
  | zero => intro this x1 x2 M _; exact AW.none
  | succ k ih =>
    intro this x1 x2 M hthis
    exact kX7_link_B30 l E n hn ct hct ex (zX7_link_L30 k) ih this x1 x2 M hthis
set_option maxRecDepth 20000 in
set_option maxHeartbeats 4000000 in
theorem kX7_link_B22 (l : Launch) (E : Ev) (n : Nat) (hn : 4 ≤ n) (ct : Nat) (hct : 111 ≤ ct) (ex : Bool) (this : Nat) (x1 : Int32) (M : Mem) (hthis : K0 this = (0, 7)) : AW l E fX7_link (fun _ => rmN n 0 0) (PQr E 0 0 ct ex enU) ct ex 0 0 22 [(0, .ref (ad E this)), (1, .int x1)] [] M (zX7_link_B22 this x1 M) := by
  unfold zX7_link_B22
  refine AW.aload_n (pc := 22) dX7_link_22 rfl 0 rfl ?_
  refine AW.iload_n (pc := 23) dX7_link_23 rfl 1 rfl ?_
  refine AW.iload_n (pc := 24) dX7_link_24 rfl 1 rfl ?_
  refine AW.cV2v (pc := 25) dX7_link_25 mlX7_59 mbX7_mark rfl hthis (kct hthis rfl hct) (fun _ => okR_N (by omega)) (kX7_mark l E (n - 1) (by omega) ct hct ex this x1 x1 M) (Nat.le_of_ble_eq_true rfl) (fun _ M1 => ?_)
  refine AW.iconst (pc := 28) dX7_link_28 ci_0 ?_
  refine AW.istore_n (pc := 29) [1, 2, 0] [(0, .ref (ad E this)), (1, .int x1), (2, .int 0)] dX7_link_29 rfl (by decide) rfl ?_
  exact kX7_link_L30 l E n hn ct hct ex FU this x1 0 M1 hthis
set_option maxRecDepth 20000 in
set_option maxHeartbeats 4000000 in
theorem kX7_link (l : Launch) (E : Ev) (n : Nat) (hn : 4 ≤ n) (ct : Nat) (hct : 111 ≤ ct) (ex : Bool) (this : Nat) (x1 : Int32) (M : Mem) : AM l E n ct ex yX7_link fX7_link enU [.ref (ad E this), .int x1] M (zX7_link this x1 M) := by
  unfold zX7_link
  refine AM.of (by decide +kernel) ⟨rfl, rfl, rfl⟩ (Nat.le_of_ble_eq_true rfl) ?_
  refine AW.chk (fun hthis => ?_)
  refine AW.aload_n (pc := 0) dX7_link_0 rfl 0 rfl ?_
  refine AW.iload_n (pc := 1) dX7_link_1 rfl 1 rfl ?_
  refine AW.cV1i (pc := 2) dX7_link_2 mlX7_56 mbX7_isRow rfl hthis (kct hthis rfl hct) (fun _ => okR_N (by omega)) (kX7_isRow l E (n - 1) (by omega) ct hct ex this x1 M) (Nat.le_of_ble_eq_true rfl) (fun v1 M2 => ?_)
  refine AW.if_eq (pc := 5) 22 dX7_link_5 (by decide) (fun h3 => ?_) (fun h3 => ?_)
  · exact kX7_link_B22 l E n hn ct hct ex this x1 M2 hthis
  · refine AW.aload_n (pc := 8) dX7_link_8 rfl 0 rfl ?_
    refine AW.chk (fun g4 => ?_)
    refine AW.getR (pc := 9) dX7_link_9 flX7_9 hthis (kct hthis rfl hct) g4 ?_
    refine AW.iload_n (pc := 12) dX7_link_12 rfl 1 rfl ?_
    refine AW.lconst (pc := 13) dX7_link_13 cl_0 ?_
    refine AW.chk (fun g5 => ?_)
    refine AW.last (pc := 14) dX7_link_14 (k0e g5.1) (kct (k0e g5.1) rfl hct) g5.2 ?_
    refine AW.genM (fun M6 => ?_)
    refine AW.aload_n (pc := 15) dX7_link_15 rfl 0 rfl ?_
    refine AW.chk (fun g7 => ?_)
    refine AW.getR (pc := 16) dX7_link_16 flX7_15 hthis (kct hthis rfl hct) g7 ?_
    refine AW.iload_n (pc := 19) dX7_link_19 rfl 1 rfl ?_
    refine AW.lconst (pc := 20) dX7_link_20 cl_0 ?_
    refine AW.chk (fun g8 => ?_)
    refine AW.last (pc := 21) dX7_link_21 (k0e g8.1) (kct (k0e g8.1) rfl hct) g8.2 ?_
    refine AW.genM (fun M9 => ?_)
    exact kX7_link_B22 l E n hn ct hct ex this x1 M9 hthis
-- GateBox$Rests.reaches(II)Z
def zX7_reaches_B38 (s0 : Int64) (M : Mem) : Option (Int32 × Mem) :=
  if (lg_cmp (s0 &&& 1) 1) = 0 then
    some (1, M)
  else
    some (0, M)
def zX7_reaches (this : Nat) (x1 : Int32) (x2 : Int32) (M : Mem) : Option (Int32 × Mem) :=
  if K0 this = (0, 7) then
  bnd (zX7_isRow this x1 M) fun v1 M2 =>
  if v1 = 0 then
    some (0, M2)
  else
    if 64 ≤ x2 then
      if mR M2 this 2 ≠ 0 then
      if (K0 (mR M2 this 2)).1 = 2 ∧ inb x1 (K0 (mR M2 this 2)).2 = true then
      zX7_reaches_B38 (lshr (mL M2 (mR M2 this 2) (Int32.toNatClampNeg x1)) (x2 - 64)) M2
      else none
      else none
    else
      if mR M2 this 1 ≠ 0 then
      if (K0 (mR M2 this 1)).1 = 2 ∧ inb x1 (K0 (mR M2 this 1)).2 = true then
      zX7_reaches_B38 (lshr (mL M2 (mR M2 this 1) (Int32.toNatClampNeg x1)) x2) M2
      else none
      else none
  else none
set_option maxRecDepth 20000 in
set_option maxHeartbeats 4000000 in
theorem kX7_reaches_B38 (l : Launch) (E : Ev) (n : Nat) (hn : 2 ≤ n) (ct : Nat) (hct : 111 ≤ ct) (ex : Bool) (s0 : Int64) (M : Mem) : AW l E fX7_reaches (fun _ => rmN n 0 0) (PQr E 0 0 ct ex enI) ct ex 0 0 38 [] [.long s0] M (zX7_reaches_B38 s0 M) := by
  unfold zX7_reaches_B38
  refine AW.lstore_n (pc := 38) [0] [(3, .long s0)] dX7_reaches_38 rfl (by decide) rfl ?_
  refine AW.lload_n (pc := 39) dX7_reaches_39 rfl 0 rfl ?_
  refine AW.lconst (pc := 40) dX7_reaches_40 cl_1 ?_
  refine AW.land (pc := 41) dX7_reaches_41 ?_
  refine AW.lconst (pc := 42) dX7_reaches_42 cl_1 ?_
  refine AW.lcmp (pc := 43) dX7_reaches_43 ?_
  refine AW.if_ne (pc := 44) 51 dX7_reaches_44 (by decide) (fun h1 => ?_) (fun h1 => ?_)
  · refine AW.iconst (pc := 47) dX7_reaches_47 ci_1 ?_
    refine AW.goto (pc := 48) 52 dX7_reaches_48 (by decide) ?_
    exact AW.zret (pc := 52) dX7_reaches_52 rfl (Or.inr rfl) (fun _ _ _ => rfl) (Nat.le_refl _) (Nat.le_refl _)
  · refine AW.iconst (pc := 51) dX7_reaches_51 ci_0 ?_
    exact AW.zret (pc := 52) dX7_reaches_52 rfl (Or.inl rfl) (fun _ _ _ => rfl) (Nat.le_refl _) (Nat.le_refl _)
set_option maxRecDepth 20000 in
set_option maxHeartbeats 4000000 in
theorem kX7_reaches (l : Launch) (E : Ev) (n : Nat) (hn : 2 ≤ n) (ct : Nat) (hct : 111 ≤ ct) (ex : Bool) (this : Nat) (x1 : Int32) (x2 : Int32) (M : Mem) : AM l E n ct ex yX7_reaches fX7_reaches enI [.ref (ad E this), .int x1, .int x2] M (zX7_reaches this x1 x2 M) := by
  unfold zX7_reaches
  refine AM.of (by decide +kernel) ⟨rfl, rfl, rfl⟩ (Nat.le_of_ble_eq_true rfl) ?_
  refine AW.chk (fun hthis => ?_)
  refine AW.aload_n (pc := 0) dX7_reaches_0 rfl 0 rfl ?_
  refine AW.iload_n (pc := 1) dX7_reaches_1 rfl 1 rfl ?_
  refine AW.cV1i (pc := 2) dX7_reaches_2 mlX7_56 mbX7_isRow rfl hthis (kct hthis rfl hct) (fun _ => okR_N (by omega)) (kX7_isRow l E (n - 1) (by omega) ct hct ex this x1 M) (Nat.le_of_ble_eq_true rfl) (fun v1 M2 => ?_)
  refine AW.if_ne (pc := 5) 10 dX7_reaches_5 (by decide) (fun h3 => ?_) (fun h3 => ?_)
  · refine AW.iconst (pc := 8) dX7_reaches_8 ci_0 ?_
    exact AW.zret (pc := 9) dX7_reaches_9 rfl (Or.inl rfl) (fun _ _ _ => rfl) (Nat.le_refl _) (Nat.le_refl _)
  · refine AW.iload_n (pc := 10) dX7_reaches_10 rfl 2 rfl ?_
    refine AW.bipush (pc := 11) dX7_reaches_11 cb_64 ?_
    refine AW.icmp_ge (pc := 13) 27 dX7_reaches_13 (by decide) (fun h4 => ?_) (fun h4 => ?_)
    · refine AW.aload_n (pc := 27) dX7_reaches_27 rfl 0 rfl ?_
      refine AW.chk (fun g5 => ?_)
      refine AW.getR (pc := 28) dX7_reaches_28 flX7_15 hthis (kct hthis rfl hct) g5 ?_
      refine AW.iload_n (pc := 31) dX7_reaches_31 rfl 1 rfl ?_
      refine AW.chk (fun g6 => ?_)
      refine AW.lald (pc := 32) dX7_reaches_32 (k0e g6.1) (kct (k0e g6.1) rfl hct) g6.2 ?_
      refine AW.iload_n (pc := 33) dX7_reaches_33 rfl 2 rfl ?_
      refine AW.bipush (pc := 34) dX7_reaches_34 cb_64 ?_
      refine AW.isub (pc := 36) dX7_reaches_36 ?_
      refine AW.lshr (pc := 37) dX7_reaches_37 ?_
      exact AW.sub [] rfl (kX7_reaches_B38 l E n hn ct hct ex (lshr (mL M2 (mR M2 this 2) (Int32.toNatClampNeg x1)) (x2 - 64)) M2)
    · refine AW.aload_n (pc := 16) dX7_reaches_16 rfl 0 rfl ?_
      refine AW.chk (fun g7 => ?_)
      refine AW.getR (pc := 17) dX7_reaches_17 flX7_9 hthis (kct hthis rfl hct) g7 ?_
      refine AW.iload_n (pc := 20) dX7_reaches_20 rfl 1 rfl ?_
      refine AW.chk (fun g8 => ?_)
      refine AW.lald (pc := 21) dX7_reaches_21 (k0e g8.1) (kct (k0e g8.1) rfl hct) g8.2 ?_
      refine AW.iload_n (pc := 22) dX7_reaches_22 rfl 2 rfl ?_
      refine AW.lshr (pc := 23) dX7_reaches_23 ?_
      refine AW.goto (pc := 24) 38 dX7_reaches_24 (by decide) ?_
      exact AW.sub [] rfl (kX7_reaches_B38 l E n hn ct hct ex (lshr (mL M2 (mR M2 this 1) (Int32.toNatClampNeg x1)) x2) M2)
-- GateBox$Rests.reachAsFarAs(II)V
def zX7_reachAsFarAs (this : Nat) (x1 : Int32) (x2 : Int32) (M : Mem) : Option (Unit × Mem) :=
  if K0 this = (0, 7) then
  bnd (zX7_isRow this x1 M) fun v1 M2 =>
  if v1 = 0 then
    some ((), M2)
  else
    bnd (zX7_isRow this x2 M2) fun v4 M5 =>
    if v4 = 0 then
      some ((), M5)
    else
      if mR M5 this 1 ≠ 0 then
      if (K0 (mR M5 this 1)).1 = 2 ∧ inb x2 (K0 (mR M5 this 1)).2 = true then
      if inb x1 (K0 (mR M5 this 1)).2 = true then
      if inb x2 (K0 (mR M5 this 1)).2 = true then
      lt (sL M5 (mR M5 this 1) (Int32.toNatClampNeg x2) ((mL M5 (mR M5 this 1) (Int32.toNatClampNeg x2)) ||| (mL M5 (mR M5 this 1) (Int32.toNatClampNeg x1)))) fun M11 =>
      if mR M11 this 2 ≠ 0 then
      if (K0 (mR M11 this 2)).1 = 2 ∧ inb x2 (K0 (mR M11 this 2)).2 = true then
      if inb x1 (K0 (mR M11 this 2)).2 = true then
      if inb x2 (K0 (mR M11 this 2)).2 = true then
      lt (sL M11 (mR M11 this 2) (Int32.toNatClampNeg x2) ((mL M11 (mR M11 this 2) (Int32.toNatClampNeg x2)) ||| (mL M11 (mR M11 this 2) (Int32.toNatClampNeg x1)))) fun M16 =>
      some ((), M16)
      else none
      else none
      else none
      else none
      else none
      else none
      else none
      else none
  else none
set_option maxRecDepth 20000 in
set_option maxHeartbeats 4000000 in
theorem kX7_reachAsFarAs (l : Launch) (E : Ev) (n : Nat) (hn : 2 ≤ n) (ct : Nat) (hct : 111 ≤ ct) (ex : Bool) (this : Nat) (x1 : Int32) (x2 : Int32) (M : Mem) : AM l E n ct ex yX7_reachAsFarAs fX7_reachAsFarAs enU [.ref (ad E this), .int x1, .int x2] M (zX7_reachAsFarAs this x1 x2 M) := by
  unfold zX7_reachAsFarAs
  refine AM.of (by decide +kernel) ⟨rfl, rfl, rfl⟩ (Nat.le_of_ble_eq_true rfl) ?_
  refine AW.chk (fun hthis => ?_)
  refine AW.aload_n (pc := 0) dX7_reachAsFarAs_0 rfl 0 rfl ?_
  refine AW.iload_n (pc := 1) dX7_reachAsFarAs_1 rfl 1 rfl ?_
  refine AW.cV1i (pc := 2) dX7_reachAsFarAs_2 mlX7_56 mbX7_isRow rfl hthis (kct hthis rfl hct) (fun _ => okR_N (by omega)) (kX7_isRow l E (n - 1) (by omega) ct hct ex this x1 M) (Nat.le_of_ble_eq_true rfl) (fun v1 M2 => ?_)
  refine AW.if_eq (pc := 5) 46 dX7_reachAsFarAs_5 (by decide) (fun h3 => ?_) (fun h3 => ?_)
  · exact AW.vret (pc := 46) dX7_reachAsFarAs_46 rfl (fun _ _ _ => rfl) (Nat.le_refl _) (Nat.le_refl _)
  · refine AW.aload_n (pc := 8) dX7_reachAsFarAs_8 rfl 0 rfl ?_
    refine AW.iload_n (pc := 9) dX7_reachAsFarAs_9 rfl 2 rfl ?_
    refine AW.cV1i (pc := 10) dX7_reachAsFarAs_10 mlX7_56 mbX7_isRow rfl hthis (kct hthis rfl hct) (fun _ => okR_N (by omega)) (kX7_isRow l E (n - 1) (by omega) ct hct ex this x2 M2) (Nat.le_of_ble_eq_true rfl) (fun v4 M5 => ?_)
    refine AW.if_eq (pc := 13) 46 dX7_reachAsFarAs_13 (by decide) (fun h6 => ?_) (fun h6 => ?_)
    · exact AW.vret (pc := 46) dX7_reachAsFarAs_46 rfl (fun _ _ _ => rfl) (Nat.le_refl _) (Nat.le_refl _)
    · refine AW.aload_n (pc := 16) dX7_reachAsFarAs_16 rfl 0 rfl ?_
      refine AW.chk (fun g7 => ?_)
      refine AW.getR (pc := 17) dX7_reachAsFarAs_17 flX7_9 hthis (kct hthis rfl hct) g7 ?_
      refine AW.iload_n (pc := 20) dX7_reachAsFarAs_20 rfl 2 rfl ?_
      refine AW.dup2 (pc := 21) dX7_reachAsFarAs_21 rfl rfl ?_
      refine AW.chk (fun g8 => ?_)
      refine AW.lald (pc := 22) dX7_reachAsFarAs_22 (k0e g8.1) (kct (k0e g8.1) rfl hct) g8.2 ?_
      refine AW.aload_n (pc := 23) dX7_reachAsFarAs_23 rfl 0 rfl ?_
      refine AW.getR (pc := 24) dX7_reachAsFarAs_24 flX7_9 hthis (kct hthis rfl hct) g7 ?_
      refine AW.iload_n (pc := 27) dX7_reachAsFarAs_27 rfl 1 rfl ?_
      refine AW.chk (fun g9 => ?_)
      refine AW.lald (pc := 28) dX7_reachAsFarAs_28 (k0e g8.1) (kct (k0e g8.1) rfl hct) g9 ?_
      refine AW.lor (pc := 29) dX7_reachAsFarAs_29 ?_
      refine AW.chk (fun g10 => ?_)
      refine AW.last (pc := 30) dX7_reachAsFarAs_30 (k0e g8.1) (kct (k0e g8.1) rfl hct) g10 ?_
      refine AW.genM (fun M11 => ?_)
      refine AW.aload_n (pc := 31) dX7_reachAsFarAs_31 rfl 0 rfl ?_
      refine AW.chk (fun g12 => ?_)
      refine AW.getR (pc := 32) dX7_reachAsFarAs_32 flX7_15 hthis (kct hthis rfl hct) g12 ?_
      refine AW.iload_n (pc := 35) dX7_reachAsFarAs_35 rfl 2 rfl ?_
      refine AW.dup2 (pc := 36) dX7_reachAsFarAs_36 rfl rfl ?_
      refine AW.chk (fun g13 => ?_)
      refine AW.lald (pc := 37) dX7_reachAsFarAs_37 (k0e g13.1) (kct (k0e g13.1) rfl hct) g13.2 ?_
      refine AW.aload_n (pc := 38) dX7_reachAsFarAs_38 rfl 0 rfl ?_
      refine AW.getR (pc := 39) dX7_reachAsFarAs_39 flX7_15 hthis (kct hthis rfl hct) g12 ?_
      refine AW.iload_n (pc := 42) dX7_reachAsFarAs_42 rfl 1 rfl ?_
      refine AW.chk (fun g14 => ?_)
      refine AW.lald (pc := 43) dX7_reachAsFarAs_43 (k0e g13.1) (kct (k0e g13.1) rfl hct) g14 ?_
      refine AW.lor (pc := 44) dX7_reachAsFarAs_44 ?_
      refine AW.chk (fun g15 => ?_)
      refine AW.last (pc := 45) dX7_reachAsFarAs_45 (k0e g13.1) (kct (k0e g13.1) rfl hct) g15 ?_
      refine AW.genM (fun M16 => ?_)
      exact AW.vret (pc := 46) dX7_reachAsFarAs_46 rfl (fun _ _ _ => rfl) (Nat.le_refl _) (Nat.le_refl _)
-- GateBox$Rests.find(I)V
def zX7_find_B75 (KK42 : Nat → Int32 → Mem → Option (Unit × Mem)) (KK52 : Nat → Int32 → Int32 → Mem → Option (Unit × Mem)) (this : Nat) (x2 : Int32) (x3 : Int32) (M : Mem) : Option (Unit × Mem) :=
  KK52 this x2 (x3 + 1) M
def zX7_find_B52 (KK42 : Nat → Int32 → Mem → Option (Unit × Mem)) (KK52 : Nat → Int32 → Int32 → Mem → Option (Unit × Mem)) (this : Nat) (x2 : Int32) (x3 : Int32) (M : Mem) : Option (Unit × Mem) :=
  if (mI M this 3) ≤ x3 then
    KK42 this (x2 + 1) M
  else
    bnd (zX7_reaches this x3 x2 M) fun v2 M3 =>
    if v2 = 0 then
      zX7_find_B75 KK42 KK52 this x2 x3 M3
    else
      bnd (zX7_reachAsFarAs this x2 x3 M3) fun _ M5 =>
      zX7_find_B75 KK42 KK52 this x2 x3 M5
def zX7_find_L52 (KK42 : Nat → Int32 → Mem → Option (Unit × Mem)) : Nat → Nat → Int32 → Int32 → Mem → Option (Unit × Mem)
  | 0 => fun _ _ _ _ => none
  | k + 1 => zX7_find_B52 KK42 (zX7_find_L52 KK42 k)
def zX7_find_B42 (KK42 : Nat → Int32 → Mem → Option (Unit × Mem)) (this : Nat) (x2 : Int32) (M : Mem) : Option (Unit × Mem) :=
  if (mI M this 3) ≤ x2 then
    some ((), M)
  else
    zX7_find_L52 KK42 FU this x2 0 M
def zX7_find_L42 : Nat → Nat → Int32 → Mem → Option (Unit × Mem)
  | 0 => fun _ _ _ => none
  | k + 1 => zX7_find_B42 (zX7_find_L42 k)
def zX7_find_B21 (KK21 : Nat → Int32 → Mem → Option (Unit × Mem)) (this : Nat) (x2 : Int32) (M : Mem) : Option (Unit × Mem) :=
  if (mI M this 3) ≤ x2 then
    zX7_find_L42 FU this 0 M
  else
    bnd (zX7_link this x2 M) fun _ M2 =>
    KK21 this (x2 + 1) M2
def zX7_find_L21 : Nat → Nat → Int32 → Mem → Option (Unit × Mem)
  | 0 => fun _ _ _ => none
  | k + 1 => zX7_find_B21 (zX7_find_L21 k)
def zX7_find (this : Nat) (x1 : Int32) (M : Mem) : Option (Unit × Mem) :=
  if K0 this = (0, 7) then
  lt (sI M this 4 x1) fun M1 =>
  if mR M1 this 0 ≠ 0 then
  if K0 (mR M1 this 0) = (0, 5) then
  if mR M1 (mR M1 this 0) 0 ≠ 0 then
  if K0 (mR M1 (mR M1 this 0) 0) = (0, 8) then
  bnd (zX8_states (mR M1 (mR M1 this 0) 0) M1) fun v5 M6 =>
  lt (sI M6 this 3 v5) fun M8 =>
  zX7_find_L21 FU this 0 M8
  else none
  else none
  else none
  else none
  else none
set_option maxRecDepth 20000 in
set_option maxHeartbeats 4000000 in
theorem kX7_find_B75 (l : Launch) (E : Ev) (n : Nat) (hn : 5 ≤ n) (ct : Nat) (hct : 111 ≤ ct) (ex : Bool) (KK42 : Nat → Int32 → Mem → Option (Unit × Mem)) (hKK42 : ∀ (this : Nat) (x2 : Int32) (M : Mem) (_ : K0 this = (0, 7)), AW l E fX7_find (fun _ => rmN n 0 0) (PQr E 0 0 ct ex enU) ct ex 0 0 42 [(0, .ref (ad E this)), (2, .int x2)] [] M (KK42 this x2 M)) (KK52 : Nat → Int32 → Int32 → Mem → Option (Unit × Mem)) (hKK52 : ∀ (this : Nat) (x2 : Int32) (x3 : Int32) (M : Mem) (_ : K0 this = (0, 7)), AW l E fX7_find (fun _ => rmN n 0 0) (PQr E 0 0 ct ex enU) ct ex 0 0 52 [(0, .ref (ad E this)), (2, .int x2), (3, .int x3)] [] M (KK52 this x2 x3 M)) (this : Nat) (x2 : Int32) (x3 : Int32) (M : Mem) (hthis : K0 this = (0, 7)) : AW l E fX7_find (fun _ => rmN n 0 0) (PQr E 0 0 ct ex enU) ct ex 0 0 75 [(0, .ref (ad E this)), (2, .int x2), (3, .int x3)] [] M (zX7_find_B75 KK42 KK52 this x2 x3 M) := by
  unfold zX7_find_B75
  refine AW.iinc (pc := 75) (w := 2) [1, 2, 0] [(0, .ref (ad E this)), (2, .int x2), (3, .int (x3 + 1))] dX7_find_75 rfl (inc_1 _) (by decide) rfl ?_
  refine AW.goto (pc := 78) 52 dX7_find_78 (by decide) ?_
  exact hKK52 this x2 (x3 + 1) M hthis
set_option maxRecDepth 20000 in
set_option maxHeartbeats 4000000 in
theorem kX7_find_B52 (l : Launch) (E : Ev) (n : Nat) (hn : 5 ≤ n) (ct : Nat) (hct : 111 ≤ ct) (ex : Bool) (KK42 : Nat → Int32 → Mem → Option (Unit × Mem)) (hKK42 : ∀ (this : Nat) (x2 : Int32) (M : Mem) (_ : K0 this = (0, 7)), AW l E fX7_find (fun _ => rmN n 0 0) (PQr E 0 0 ct ex enU) ct ex 0 0 42 [(0, .ref (ad E this)), (2, .int x2)] [] M (KK42 this x2 M)) (KK52 : Nat → Int32 → Int32 → Mem → Option (Unit × Mem)) (hKK52 : ∀ (this : Nat) (x2 : Int32) (x3 : Int32) (M : Mem) (_ : K0 this = (0, 7)), AW l E fX7_find (fun _ => rmN n 0 0) (PQr E 0 0 ct ex enU) ct ex 0 0 52 [(0, .ref (ad E this)), (2, .int x2), (3, .int x3)] [] M (KK52 this x2 x3 M)) (this : Nat) (x2 : Int32) (x3 : Int32) (M : Mem) (hthis : K0 this = (0, 7)) : AW l E fX7_find (fun _ => rmN n 0 0) (PQr E 0 0 ct ex enU) ct ex 0 0 52 [(0, .ref (ad E this)), (2, .int x2), (3, .int x3)] [] M (zX7_find_B52 KK42 KK52 this x2 x3 M) := by
  unfold zX7_find_B52
  refine AW.iload_n (pc := 52) dX7_find_52 rfl 2 rfl ?_
  refine AW.aload_n (pc := 53) dX7_find_53 rfl 0 rfl ?_
  refine AW.getI (pc := 54) dX7_find_54 flX7_18 hthis (kct hthis rfl hct) ?_
  refine AW.icmp_ge (pc := 57) 81 dX7_find_57 (by decide) (fun h1 => ?_) (fun h1 => ?_)
  · refine AW.iinc (pc := 81) (w := 1) [1, 0] [(0, .ref (ad E this)), (2, .int (x2 + 1))] dX7_find_81 rfl (inc_1 _) (by decide) rfl ?_
    refine AW.goto (pc := 84) 42 dX7_find_84 (by decide) ?_
    exact hKK42 this (x2 + 1) M hthis
  · refine AW.aload_n (pc := 60) dX7_find_60 rfl 0 rfl ?_
    refine AW.iload_n (pc := 61) dX7_find_61 rfl 2 rfl ?_
    refine AW.iload_n (pc := 62) dX7_find_62 rfl 1 rfl ?_
    refine AW.cV2i (pc := 63) dX7_find_63 mlX7_44 mbX7_reaches rfl hthis (kct hthis rfl hct) (fun _ => okR_N (by omega)) (kX7_reaches l E (n - 1) (by omega) ct hct ex this x3 x2 M) (Nat.le_of_ble_eq_true rfl) (fun v2 M3 => ?_)
    refine AW.if_eq (pc := 66) 75 dX7_find_66 (by decide) (fun h4 => ?_) (fun h4 => ?_)
    · exact kX7_find_B75 l E n hn ct hct ex KK42 hKK42 KK52 hKK52 this x2 x3 M3 hthis
    · refine AW.aload_n (pc := 69) dX7_find_69 rfl 0 rfl ?_
      refine AW.iload_n (pc := 70) dX7_find_70 rfl 1 rfl ?_
      refine AW.iload_n (pc := 71) dX7_find_71 rfl 2 rfl ?_
      refine AW.cV2v (pc := 72) dX7_find_72 mlX7_48 mbX7_reachAsFarAs rfl hthis (kct hthis rfl hct) (fun _ => okR_N (by omega)) (kX7_reachAsFarAs l E (n - 1) (by omega) ct hct ex this x2 x3 M3) (Nat.le_of_ble_eq_true rfl) (fun _ M5 => ?_)
      exact kX7_find_B75 l E n hn ct hct ex KK42 hKK42 KK52 hKK52 this x2 x3 M5 hthis
set_option maxRecDepth 20000 in
set_option maxHeartbeats 4000000 in
theorem kX7_find_L52 (l : Launch) (E : Ev) (n : Nat) (hn : 5 ≤ n) (ct : Nat) (hct : 111 ≤ ct) (ex : Bool) (KK42 : Nat → Int32 → Mem → Option (Unit × Mem)) (hKK42 : ∀ (this : Nat) (x2 : Int32) (M : Mem) (_ : K0 this = (0, 7)), AW l E fX7_find (fun _ => rmN n 0 0) (PQr E 0 0 ct ex enU) ct ex 0 0 42 [(0, .ref (ad E this)), (2, .int x2)] [] M (KK42 this x2 M)) (k : Nat) : ∀ (this : Nat) (x2 : Int32) (x3 : Int32) (M : Mem) (_ : K0 this = (0, 7)), AW l E fX7_find (fun _ => rmN n 0 0) (PQr E 0 0 ct ex enU) ct ex 0 0 52 [(0, .ref (ad E this)), (2, .int x2), (3, .int x3)] [] M (zX7_find_L52 KK42 k this x2 x3 M) := by
  induction k with
  | zero => intro this x2 x3 M _; exact AW.none
  | succ k ih =>
    intro this x2 x3 M hthis
    exact kX7_find_B52 l E n hn ct hct ex KK42 hKK42 (zX7_find_L52 KK42 k) ih this x2 x3 M hthis
set_option maxRecDepth 20000 in
set_option maxHeartbeats 4000000 in
theorem kX7_find_B42 (l : Launch) (E : Ev) (n : Nat) (hn : 5 ≤ n) (ct : Nat) (hct : 111 ≤ ct) (ex : Bool) (KK42 : Nat → Int32 → Mem → Option (Unit × Mem)) (hKK42 : ∀ (this : Nat) (x2 : Int32) (M : Mem) (_ : K0 this = (0, 7)), AW l E fX7_find (fun _ => rmN n 0 0) (PQr E 0 0 ct ex enU) ct ex 0 0 42 [(0, .ref (ad E this)), (2, .int x2)] [] M (KK42 this x2 M)) (this : Nat) (x2 : Int32) (M : Mem) (hthis : K0 this = (0, 7)) : AW l E fX7_find (fun _ => rmN n 0 0) (PQr E 0 0 ct ex enU) ct ex 0 0 42 [(0, .ref (ad E this)), (2, .int x2)] [] M (zX7_find_B42 KK42 this x2 M) := by
  unfold zX7_find_B42
  refine AW.iload_n (pc := 42) dX7_find_42 rfl 1 rfl ?_
  refine AW.aload_n (pc := 43) dX7_find_43 rfl 0 rfl ?_
  refine AW.getI (pc := 44) dX7_find_44 flX7_18 hthis (kct hthis rfl hct) ?_
  refine AW.icmp_ge (pc := 47) 87 dX7_find_47 (by decide) (fun h1 => ?_) (fun h1 => ?_)
  · exact AW.vret (pc := 87) dX7_find_87 rfl (fun _ _ _ => rfl) (Nat.le_refl _) (Nat.le_refl _)
  · refine AW.iconst (pc := 50) dX7_find_50 ci_0 ?_
    refine AW.istore_n (pc := 51) [1, 2, 0] [(0, .ref (ad E this)), (2, .int x2), (3, .int 0)] dX7_find_51 rfl (by decide) rfl ?_
    exact kX7_find_L52 l E n hn ct hct ex KK42 hKK42 FU this x2 0 M hthis
set_option maxRecDepth 20000 in
set_option maxHeartbeats 4000000 in
theorem kX7_find_L42 (l : Launch) (E : Ev) (n : Nat) (hn : 5 ≤ n) (ct : Nat) (hct : 111 ≤ ct) (ex : Bool) (k : Nat) : ∀ (this : Nat) (x2 : Int32) (M : Mem) (_ : K0 this = (0, 7)), AW l E fX7_find (fun _ => rmN n 0 0) (PQr E 0 0 ct ex enU) ct ex 0 0 42 [(0, .ref (ad E this)), (2, .int x2)] [] M (zX7_find_L42 k this x2 M) := by
  induction k with
  | zero => intro this x2 M _; exact AW.none
  | succ k ih =>
    intro this x2 M hthis
    exact kX7_find_B42 l E n hn ct hct ex (zX7_find_L42 k) ih this x2 M hthis
set_option maxRecDepth 20000 in
set_option maxHeartbeats 4000000 in
theorem kX7_find_B21 (l : Launch) (E : Ev) (n : Nat) (hn : 5 ≤ n) (ct : Nat) (hct : 111 ≤ ct) (ex : Bool) (KK21 : Nat → Int32 → Mem → Option (Unit × Mem)) (hKK21 : ∀ (this : Nat) (x2 : Int32) (M : Mem) (_ : K0 this = (0, 7)), AW l E fX7_find (fun _ => rmN n 0 0) (PQr E 0 0 ct ex enU) ct ex 0 0 21 [(0, .ref (ad E this)), (2, .int x2)] [] M (KK21 this x2 M)) (this : Nat) (x2 : Int32) (M : Mem) (hthis : K0 this = (0, 7)) : AW l E fX7_find (fun _ => rmN n 0 0) (PQr E 0 0 ct ex enU) ct ex 0 0 21 [(0, .ref (ad E this)), (2, .int x2)] [] M (zX7_find_B21 KK21 this x2 M) := by
  unfold zX7_find_B21
  refine AW.iload_n (pc := 21) dX7_find_21 rfl 1 rfl ?_
  refine AW.aload_n (pc := 22) dX7_find_22 rfl 0 rfl ?_
  refine AW.getI (pc := 23) dX7_find_23 flX7_18 hthis (kct hthis rfl hct) ?_
  refine AW.icmp_ge (pc := 26) 40 dX7_find_26 (by decide) (fun h1 => ?_) (fun h1 => ?_)
  · refine AW.iconst (pc := 40) dX7_find_40 ci_0 ?_
    refine AW.istore_n (pc := 41) [1, 0] [(0, .ref (ad E this)), (2, .int 0)] dX7_find_41 rfl (by decide) rfl ?_
    exact kX7_find_L42 l E n hn ct hct ex FU this 0 M hthis
  · refine AW.aload_n (pc := 29) dX7_find_29 rfl 0 rfl ?_
    refine AW.iload_n (pc := 30) dX7_find_30 rfl 1 rfl ?_
    refine AW.cV1v (pc := 31) dX7_find_31 mlX7_40 mbX7_link rfl hthis (kct hthis rfl hct) (fun _ => okR_N (by omega)) (kX7_link l E (n - 1) (by omega) ct hct ex this x2 M) (Nat.le_of_ble_eq_true rfl) (fun _ M2 => ?_)
    refine AW.iinc (pc := 34) (w := 1) [1, 0] [(0, .ref (ad E this)), (2, .int (x2 + 1))] dX7_find_34 rfl (inc_1 _) (by decide) rfl ?_
    refine AW.goto (pc := 37) 21 dX7_find_37 (by decide) ?_
    exact hKK21 this (x2 + 1) M2 hthis
set_option maxRecDepth 20000 in
set_option maxHeartbeats 4000000 in
theorem kX7_find_L21 (l : Launch) (E : Ev) (n : Nat) (hn : 5 ≤ n) (ct : Nat) (hct : 111 ≤ ct) (ex : Bool) (k : Nat) : ∀ (this : Nat) (x2 : Int32) (M : Mem) (_ : K0 this = (0, 7)), AW l E fX7_find (fun _ => rmN n 0 0) (PQr E 0 0 ct ex enU) ct ex 0 0 21 [(0, .ref (ad E this)), (2, .int x2)] [] M (zX7_find_L21 k this x2 M) := by
  induction k with
  | zero => intro this x2 M _; exact AW.none
  | succ k ih =>
    intro this x2 M hthis
    exact kX7_find_B21 l E n hn ct hct ex (zX7_find_L21 k) ih this x2 M hthis
set_option maxRecDepth 20000 in
set_option maxHeartbeats 4000000 in
theorem kX7_find (l : Launch) (E : Ev) (n : Nat) (hn : 5 ≤ n) (ct : Nat) (hct : 111 ≤ ct) (ex : Bool) (this : Nat) (x1 : Int32) (M : Mem) : AM l E n ct ex yX7_find fX7_find enU [.ref (ad E this), .int x1] M (zX7_find this x1 M) := by
  unfold zX7_find
  refine AM.of (by decide +kernel) ⟨rfl, rfl, rfl⟩ (Nat.le_of_ble_eq_true rfl) ?_
  refine AW.chk (fun hthis => ?_)
  refine AW.aload_n (pc := 0) dX7_find_0 rfl 0 rfl ?_
  refine AW.iload_n (pc := 1) dX7_find_1 rfl 1 rfl ?_
  refine AW.putI (pc := 2) dX7_find_2 flX7_22 hthis (kct hthis rfl hct) ?_
  refine AW.genM (fun M1 => ?_)
  refine AW.aload_n (pc := 5) dX7_find_5 rfl 0 rfl ?_
  refine AW.aload_n (pc := 6) dX7_find_6 rfl 0 rfl ?_
  refine AW.chk (fun g2 => ?_)
  refine AW.getR (pc := 7) dX7_find_7 flX7_25 hthis (kct hthis rfl hct) g2 ?_
  refine AW.chk (fun g3 => ?_)
  refine AW.chk (fun g4 => ?_)
  refine AW.getR (pc := 10) dX7_find_10 flX7_29 g3 (kct g3 rfl hct) g4 ?_
  refine AW.chk (fun g7 => ?_)
  refine AW.cV0i (pc := 13) dX7_find_13 mlX7_35 mbX8_states rfl g7 (kct g7 rfl hct) (fun _ => okR_N (by omega)) (kX8_states l E (n - 1) (by omega) ct hct ex (mR M1 (mR M1 this 0) 0) M1) (Nat.le_of_ble_eq_true rfl) (fun v5 M6 => ?_)
  refine AW.putI (pc := 16) dX7_find_16 flX7_18 hthis (kct hthis rfl hct) ?_
  refine AW.genM (fun M8 => ?_)
  refine AW.iconst (pc := 19) dX7_find_19 ci_0 ?_
  refine AW.istore_n (pc := 20) [1, 0] [(0, .ref (ad E this)), (2, .int 0)] dX7_find_20 rfl (by decide) rfl ?_
  exact kX7_find_L21 l E n hn ct hct ex FU this 0 M8 hthis
-- GateBox$Rests.isLeastOfRest(I)Z
def zX7_isLeastOfRest_B49 (KK16 : Nat → Int32 → Int32 → Mem → Option (Int32 × Mem)) (this : Nat) (x1 : Int32) (x2 : Int32) (M : Mem) : Option (Int32 × Mem) :=
  KK16 this x1 (x2 + 1) M
def zX7_isLeastOfRest_B16 (KK16 : Nat → Int32 → Int32 → Mem → Option (Int32 × Mem)) (this : Nat) (x1 : Int32) (x2 : Int32) (M : Mem) : Option (Int32 × Mem) :=
  if (mI M this 3) ≤ x2 then
    some (1, M)
  else
    bnd (zX7_reaches this x1 x2 M) fun v2 M3 =>
    if v2 = 0 then
      zX7_isLeastOfRest_B49 KK16 this x1 x2 M3
    else
      if x2 < x1 then
        some (0, M3)
      else
        bnd (zX7_reaches this x2 x1 M3) fun v6 M7 =>
        if v6 = 0 then
          some (0, M7)
        else
          zX7_isLeastOfRest_B49 KK16 this x1 x2 M7
def zX7_isLeastOfRest_L16 : Nat → Nat → Int32 → Int32 → Mem → Option (Int32 × Mem)
  | 0 => fun _ _ _ _ => none
  | k + 1 => zX7_isLeastOfRest_B16 (zX7_isLeastOfRest_L16 k)
def zX7_isLeastOfRest (this : Nat) (x1 : Int32) (M : Mem) : Option (Int32 × Mem) :=
  if K0 this = (0, 7) then
  bnd (zX7_reaches this (mI M this 4) x1 M) fun v1 M2 =>
  if v1 = 0 then
    some (0, M2)
  else
    zX7_isLeastOfRest_L16 FU this x1 0 M2
  else none
set_option maxRecDepth 20000 in
set_option maxHeartbeats 4000000 in
theorem kX7_isLeastOfRest_B49 (l : Launch) (E : Ev) (n : Nat) (hn : 3 ≤ n) (ct : Nat) (hct : 111 ≤ ct) (ex : Bool) (KK16 : Nat → Int32 → Int32 → Mem → Option (Int32 × Mem)) (hKK16 : ∀ (this : Nat) (x1 : Int32) (x2 : Int32) (M : Mem) (_ : K0 this = (0, 7)), AW l E fX7_isLeastOfRest (fun _ => rmN n 0 0) (PQr E 0 0 ct ex enI) ct ex 0 0 16 [(0, .ref (ad E this)), (1, .int x1), (2, .int x2)] [] M (KK16 this x1 x2 M)) (this : Nat) (x1 : Int32) (x2 : Int32) (M : Mem) (hthis : K0 this = (0, 7)) : AW l E fX7_isLeastOfRest (fun _ => rmN n 0 0) (PQr E 0 0 ct ex enI) ct ex 0 0 49 [(0, .ref (ad E this)), (1, .int x1), (2, .int x2)] [] M (zX7_isLeastOfRest_B49 KK16 this x1 x2 M) := by
  unfold zX7_isLeastOfRest_B49
  refine AW.iinc (pc := 49) (w := 2) [1, 2, 0] [(0, .ref (ad E this)), (1, .int x1), (2, .int (x2 + 1))] dX7_isLeastOfRest_49 rfl (inc_1 _) (by decide) rfl ?_
  refine AW.goto (pc := 52) 16 dX7_isLeastOfRest_52 (by decide) ?_
  exact hKK16 this x1 (x2 + 1) M hthis
set_option maxRecDepth 20000 in
set_option maxHeartbeats 4000000 in
theorem kX7_isLeastOfRest_B16 (l : Launch) (E : Ev) (n : Nat) (hn : 3 ≤ n) (ct : Nat) (hct : 111 ≤ ct) (ex : Bool) (KK16 : Nat → Int32 → Int32 → Mem → Option (Int32 × Mem)) (hKK16 : ∀ (this : Nat) (x1 : Int32) (x2 : Int32) (M : Mem) (_ : K0 this = (0, 7)), AW l E fX7_isLeastOfRest (fun _ => rmN n 0 0) (PQr E 0 0 ct ex enI) ct ex 0 0 16 [(0, .ref (ad E this)), (1, .int x1), (2, .int x2)] [] M (KK16 this x1 x2 M)) (this : Nat) (x1 : Int32) (x2 : Int32) (M : Mem) (hthis : K0 this = (0, 7)) : AW l E fX7_isLeastOfRest (fun _ => rmN n 0 0) (PQr E 0 0 ct ex enI) ct ex 0 0 16 [(0, .ref (ad E this)), (1, .int x1), (2, .int x2)] [] M (zX7_isLeastOfRest_B16 KK16 this x1 x2 M) := by
  unfold zX7_isLeastOfRest_B16
  refine AW.iload_n (pc := 16) dX7_isLeastOfRest_16 rfl 2 rfl ?_
  refine AW.aload_n (pc := 17) dX7_isLeastOfRest_17 rfl 0 rfl ?_
  refine AW.getI (pc := 18) dX7_isLeastOfRest_18 flX7_18 hthis (kct hthis rfl hct) ?_
  refine AW.icmp_ge (pc := 21) 55 dX7_isLeastOfRest_21 (by decide) (fun h1 => ?_) (fun h1 => ?_)
  · refine AW.iconst (pc := 55) dX7_isLeastOfRest_55 ci_1 ?_
    exact AW.zret (pc := 56) dX7_isLeastOfRest_56 rfl (Or.inr rfl) (fun _ _ _ => rfl) (Nat.le_refl _) (Nat.le_refl _)
  · refine AW.aload_n (pc := 24) dX7_isLeastOfRest_24 rfl 0 rfl ?_
    refine AW.iload_n (pc := 25) dX7_isLeastOfRest_25 rfl 1 rfl ?_
    refine AW.iload_n (pc := 26) dX7_isLeastOfRest_26 rfl 2 rfl ?_
    refine AW.cV2i (pc := 27) dX7_isLeastOfRest_27 mlX7_44 mbX7_reaches rfl hthis (kct hthis rfl hct) (fun _ => okR_N (by omega)) (kX7_reaches l E (n - 1) (by omega) ct hct ex this x1 x2 M) (Nat.le_of_ble_eq_true rfl) (fun v2 M3 => ?_)
    refine AW.if_eq (pc := 30) 49 dX7_isLeastOfRest_30 (by decide) (fun h4 => ?_) (fun h4 => ?_)
    · exact kX7_isLeastOfRest_B49 l E n hn ct hct ex KK16 hKK16 this x1 x2 M3 hthis
    · refine AW.iload_n (pc := 33) dX7_isLeastOfRest_33 rfl 2 rfl ?_
      refine AW.iload_n (pc := 34) dX7_isLeastOfRest_34 rfl 1 rfl ?_
      refine AW.icmp_lt (pc := 35) 47 dX7_isLeastOfRest_35 (by decide) (fun h5 => ?_) (fun h5 => ?_)
      · refine AW.iconst (pc := 47) dX7_isLeastOfRest_47 ci_0 ?_
        exact AW.zret (pc := 48) dX7_isLeastOfRest_48 rfl (Or.inl rfl) (fun _ _ _ => rfl) (Nat.le_refl _) (Nat.le_refl _)
      · refine AW.aload_n (pc := 38) dX7_isLeastOfRest_38 rfl 0 rfl ?_
        refine AW.iload_n (pc := 39) dX7_isLeastOfRest_39 rfl 2 rfl ?_
        refine AW.iload_n (pc := 40) dX7_isLeastOfRest_40 rfl 1 rfl ?_
        refine AW.cV2i (pc := 41) dX7_isLeastOfRest_41 mlX7_44 mbX7_reaches rfl hthis (kct hthis rfl hct) (fun _ => okR_N (by omega)) (kX7_reaches l E (n - 1) (by omega) ct hct ex this x2 x1 M3) (Nat.le_of_ble_eq_true rfl) (fun v6 M7 => ?_)
        refine AW.if_ne (pc := 44) 49 dX7_isLeastOfRest_44 (by decide) (fun h8 => ?_) (fun h8 => ?_)
        · refine AW.iconst (pc := 47) dX7_isLeastOfRest_47 ci_0 ?_
          exact AW.zret (pc := 48) dX7_isLeastOfRest_48 rfl (Or.inl rfl) (fun _ _ _ => rfl) (Nat.le_refl _) (Nat.le_refl _)
        · exact kX7_isLeastOfRest_B49 l E n hn ct hct ex KK16 hKK16 this x1 x2 M7 hthis
set_option maxRecDepth 20000 in
set_option maxHeartbeats 4000000 in
theorem kX7_isLeastOfRest_L16 (l : Launch) (E : Ev) (n : Nat) (hn : 3 ≤ n) (ct : Nat) (hct : 111 ≤ ct) (ex : Bool) (k : Nat) : ∀ (this : Nat) (x1 : Int32) (x2 : Int32) (M : Mem) (_ : K0 this = (0, 7)), AW l E fX7_isLeastOfRest (fun _ => rmN n 0 0) (PQr E 0 0 ct ex enI) ct ex 0 0 16 [(0, .ref (ad E this)), (1, .int x1), (2, .int x2)] [] M (zX7_isLeastOfRest_L16 k this x1 x2 M) := by
  induction k with
  | zero => intro this x1 x2 M _; exact AW.none
  | succ k ih =>
    intro this x1 x2 M hthis
    exact kX7_isLeastOfRest_B16 l E n hn ct hct ex (zX7_isLeastOfRest_L16 k) ih this x1 x2 M hthis
set_option maxRecDepth 20000 in
set_option maxHeartbeats 4000000 in
theorem kX7_isLeastOfRest (l : Launch) (E : Ev) (n : Nat) (hn : 3 ≤ n) (ct : Nat) (hct : 111 ≤ ct) (ex : Bool) (this : Nat) (x1 : Int32) (M : Mem) : AM l E n ct ex yX7_isLeastOfRest fX7_isLeastOfRest enI [.ref (ad E this), .int x1] M (zX7_isLeastOfRest this x1 M) := by
  unfold zX7_isLeastOfRest
  refine AM.of (by decide +kernel) ⟨rfl, rfl, rfl⟩ (Nat.le_of_ble_eq_true rfl) ?_
  refine AW.chk (fun hthis => ?_)
  refine AW.aload_n (pc := 0) dX7_isLeastOfRest_0 rfl 0 rfl ?_
  refine AW.aload_n (pc := 1) dX7_isLeastOfRest_1 rfl 0 rfl ?_
  refine AW.getI (pc := 2) dX7_isLeastOfRest_2 flX7_22 hthis (kct hthis rfl hct) ?_
  refine AW.iload_n (pc := 5) dX7_isLeastOfRest_5 rfl 1 rfl ?_
  refine AW.cV2i (pc := 6) dX7_isLeastOfRest_6 mlX7_44 mbX7_reaches rfl hthis (kct hthis rfl hct) (fun _ => okR_N (by omega)) (kX7_reaches l E (n - 1) (by omega) ct hct ex this (mI M this 4) x1 M) (Nat.le_of_ble_eq_true rfl) (fun v1 M2 => ?_)
  refine AW.if_ne (pc := 9) 14 dX7_isLeastOfRest_9 (by decide) (fun h3 => ?_) (fun h3 => ?_)
  · refine AW.iconst (pc := 12) dX7_isLeastOfRest_12 ci_0 ?_
    exact AW.zret (pc := 13) dX7_isLeastOfRest_13 rfl (Or.inl rfl) (fun _ _ _ => rfl) (Nat.le_refl _) (Nat.le_refl _)
  · refine AW.iconst (pc := 14) dX7_isLeastOfRest_14 ci_0 ?_
    refine AW.istore_n (pc := 15) [1, 2, 0] [(0, .ref (ad E this)), (1, .int x1), (2, .int 0)] dX7_isLeastOfRest_15 rfl (by decide) rfl ?_
    exact kX7_isLeastOfRest_L16 l E n hn ct hct ex FU this x1 0 M2 hthis
-- GateBox$Rests.howMany()I
def zX7_howMany_B26 (KK4 : Nat → Int32 → Int32 → Mem → Option (Int32 × Mem)) (this : Nat) (x2 : Int32) (s0 : Int32) (s1 : Int32) (M : Mem) : Option (Int32 × Mem) :=
  lt (s0 + s1) fun v1 =>
  KK4 this v1 (x2 + 1) M
def zX7_howMany_B4 (KK4 : Nat → Int32 → Int32 → Mem → Option (Int32 × Mem)) (this : Nat) (x1 : Int32) (x2 : Int32) (M : Mem) : Option (Int32 × Mem) :=
  if (mI M this 3) ≤ x2 then
    some (x1, M)
  else
    bnd (zX7_isLeastOfRest this x2 M) fun v2 M3 =>
    if v2 = 0 then
      zX7_howMany_B26 KK4 this x2 x1 0 M3
    else
      zX7_howMany_B26 KK4 this x2 x1 1 M3
def zX7_howMany_L4 : Nat → Nat → Int32 → Int32 → Mem → Option (Int32 × Mem)
  | 0 => fun _ _ _ _ => none
  | k + 1 => zX7_howMany_B4 (zX7_howMany_L4 k)
def zX7_howMany (this : Nat) (M : Mem) : Option (Int32 × Mem) :=
  if K0 this = (0, 7) then
  zX7_howMany_L4 FU this 0 0 M
  else none
set_option maxRecDepth 20000 in
set_option maxHeartbeats 4000000 in
theorem kX7_howMany_B26 (l : Launch) (E : Ev) (n : Nat) (hn : 4 ≤ n) (ct : Nat) (hct : 111 ≤ ct) (ex : Bool) (KK4 : Nat → Int32 → Int32 → Mem → Option (Int32 × Mem)) (hKK4 : ∀ (this : Nat) (x1 : Int32) (x2 : Int32) (M : Mem) (_ : K0 this = (0, 7)), AW l E fX7_howMany (fun _ => rmN n 0 0) (PQr E 0 0 ct ex enI) ct ex 0 0 4 [(0, .ref (ad E this)), (1, .int x1), (2, .int x2)] [] M (KK4 this x1 x2 M)) (this : Nat) (x2 : Int32) (s0 : Int32) (s1 : Int32) (M : Mem) (hthis : K0 this = (0, 7)) : AW l E fX7_howMany (fun _ => rmN n 0 0) (PQr E 0 0 ct ex enI) ct ex 0 0 26 [(0, .ref (ad E this)), (2, .int x2)] [.int s1, .int s0] M (zX7_howMany_B26 KK4 this x2 s0 s1 M) := by
  unfold zX7_howMany_B26
  refine AW.iadd (pc := 26) dX7_howMany_26 ?_
  refine AW.genI (fun v1 => ?_)
  refine AW.istore_n (pc := 27) [1, 0, 2] [(0, .ref (ad E this)), (1, .int v1), (2, .int x2)] dX7_howMany_27 rfl (by decide) rfl ?_
  refine AW.iinc (pc := 28) (w := 2) [1, 2, 0] [(0, .ref (ad E this)), (1, .int v1), (2, .int (x2 + 1))] dX7_howMany_28 rfl (inc_1 _) (by decide) rfl ?_
  refine AW.goto (pc := 31) 4 dX7_howMany_31 (by decide) ?_
  exact hKK4 this v1 (x2 + 1) M hthis
set_option maxRecDepth 20000 in
set_option maxHeartbeats 4000000 in
theorem kX7_howMany_B4 (l : Launch) (E : Ev) (n : Nat) (hn : 4 ≤ n) (ct : Nat) (hct : 111 ≤ ct) (ex : Bool) (KK4 : Nat → Int32 → Int32 → Mem → Option (Int32 × Mem)) (hKK4 : ∀ (this : Nat) (x1 : Int32) (x2 : Int32) (M : Mem) (_ : K0 this = (0, 7)), AW l E fX7_howMany (fun _ => rmN n 0 0) (PQr E 0 0 ct ex enI) ct ex 0 0 4 [(0, .ref (ad E this)), (1, .int x1), (2, .int x2)] [] M (KK4 this x1 x2 M)) (this : Nat) (x1 : Int32) (x2 : Int32) (M : Mem) (hthis : K0 this = (0, 7)) : AW l E fX7_howMany (fun _ => rmN n 0 0) (PQr E 0 0 ct ex enI) ct ex 0 0 4 [(0, .ref (ad E this)), (1, .int x1), (2, .int x2)] [] M (zX7_howMany_B4 KK4 this x1 x2 M) := by
  unfold zX7_howMany_B4
  refine AW.iload_n (pc := 4) dX7_howMany_4 rfl 2 rfl ?_
  refine AW.aload_n (pc := 5) dX7_howMany_5 rfl 0 rfl ?_
  refine AW.getI (pc := 6) dX7_howMany_6 flX7_18 hthis (kct hthis rfl hct) ?_
  refine AW.icmp_ge (pc := 9) 34 dX7_howMany_9 (by decide) (fun h1 => ?_) (fun h1 => ?_)
  · refine AW.iload_n (pc := 34) dX7_howMany_34 rfl 1 rfl ?_
    exact AW.iret (pc := 35) dX7_howMany_35 rfl (fun _ _ _ => rfl) (Nat.le_refl _) (Nat.le_refl _)
  · refine AW.iload_n (pc := 12) dX7_howMany_12 rfl 1 rfl ?_
    refine AW.aload_n (pc := 13) dX7_howMany_13 rfl 0 rfl ?_
    refine AW.iload_n (pc := 14) dX7_howMany_14 rfl 2 rfl ?_
    refine AW.cV1i (pc := 15) dX7_howMany_15 mlX7_52 mbX7_isLeastOfRest rfl hthis (kct hthis rfl hct) (fun _ => okR_N (by omega)) (kX7_isLeastOfRest l E (n - 1) (by omega) ct hct ex this x2 M) (Nat.le_of_ble_eq_true rfl) (fun v2 M3 => ?_)
    refine AW.if_eq (pc := 18) 25 dX7_howMany_18 (by decide) (fun h4 => ?_) (fun h4 => ?_)
    · refine AW.iconst (pc := 25) dX7_howMany_25 ci_0 ?_
      exact AW.sub [0, 2] rfl (kX7_howMany_B26 l E n hn ct hct ex KK4 hKK4 this x2 x1 0 M3 hthis)
    · refine AW.iconst (pc := 21) dX7_howMany_21 ci_1 ?_
      refine AW.goto (pc := 22) 26 dX7_howMany_22 (by decide) ?_
      exact AW.sub [0, 2] rfl (kX7_howMany_B26 l E n hn ct hct ex KK4 hKK4 this x2 x1 1 M3 hthis)
set_option maxRecDepth 20000 in
set_option maxHeartbeats 4000000 in
theorem kX7_howMany_L4 (l : Launch) (E : Ev) (n : Nat) (hn : 4 ≤ n) (ct : Nat) (hct : 111 ≤ ct) (ex : Bool) (k : Nat) : ∀ (this : Nat) (x1 : Int32) (x2 : Int32) (M : Mem) (_ : K0 this = (0, 7)), AW l E fX7_howMany (fun _ => rmN n 0 0) (PQr E 0 0 ct ex enI) ct ex 0 0 4 [(0, .ref (ad E this)), (1, .int x1), (2, .int x2)] [] M (zX7_howMany_L4 k this x1 x2 M) := by
  induction k with
  | zero => intro this x1 x2 M _; exact AW.none
  | succ k ih =>
    intro this x1 x2 M hthis
    exact kX7_howMany_B4 l E n hn ct hct ex (zX7_howMany_L4 k) ih this x1 x2 M hthis
set_option maxRecDepth 20000 in
set_option maxHeartbeats 4000000 in
theorem kX7_howMany (l : Launch) (E : Ev) (n : Nat) (hn : 4 ≤ n) (ct : Nat) (hct : 111 ≤ ct) (ex : Bool) (this : Nat) (M : Mem) : AM l E n ct ex yX7_howMany fX7_howMany enI [.ref (ad E this)] M (zX7_howMany this M) := by
  unfold zX7_howMany
  refine AM.of (by decide +kernel) ⟨rfl, rfl, rfl⟩ (Nat.le_of_ble_eq_true rfl) ?_
  refine AW.chk (fun hthis => ?_)
  refine AW.iconst (pc := 0) dX7_howMany_0 ci_0 ?_
  refine AW.istore_n (pc := 1) [1, 0] [(0, .ref (ad E this)), (1, .int 0)] dX7_howMany_1 rfl (by decide) rfl ?_
  refine AW.iconst (pc := 2) dX7_howMany_2 ci_0 ?_
  refine AW.istore_n (pc := 3) [1, 2, 0] [(0, .ref (ad E this)), (1, .int 0), (2, .int 0)] dX7_howMany_3 rfl (by decide) rfl ?_
  exact kX7_howMany_L4 l E n hn ct hct ex FU this 0 0 M hthis
-- GateBox$Rests.leastOf(I)I
def zX7_leastOf_B30 (KK4 : Nat → Int32 → Int32 → Int32 → Mem → Option (Int32 × Mem)) (this : Nat) (x1 : Int32) (x2 : Int32) (x3 : Int32) (M : Mem) : Option (Int32 × Mem) :=
  KK4 this x1 x2 (x3 + 1) M
def zX7_leastOf_B4 (KK4 : Nat → Int32 → Int32 → Int32 → Mem → Option (Int32 × Mem)) (this : Nat) (x1 : Int32) (x2 : Int32) (x3 : Int32) (M : Mem) : Option (Int32 × Mem) :=
  if (mI M this 3) ≤ x3 then
    some ((-1), M)
  else
    bnd (zX7_isLeastOfRest this x3 M) fun v2 M3 =>
    if v2 = 0 then
      zX7_leastOf_B30 KK4 this x1 x2 x3 M3
    else
      if x2 = x1 then
        some (x3, M3)
      else
        zX7_leastOf_B30 KK4 this x1 (x2 + 1) x3 M3
def zX7_leastOf_L4 : Nat → Nat → Int32 → Int32 → Int32 → Mem → Option (Int32 × Mem)
  | 0 => fun _ _ _ _ _ => none
  | k + 1 => zX7_leastOf_B4 (zX7_leastOf_L4 k)
def zX7_leastOf (this : Nat) (x1 : Int32) (M : Mem) : Option (Int32 × Mem) :=
  if K0 this = (0, 7) then
  zX7_leastOf_L4 FU this x1 0 0 M
  else none
set_option maxRecDepth 20000 in
set_option maxHeartbeats 4000000 in
theorem kX7_leastOf_B30 (l : Launch) (E : Ev) (n : Nat) (hn : 4 ≤ n) (ct : Nat) (hct : 111 ≤ ct) (ex : Bool) (KK4 : Nat → Int32 → Int32 → Int32 → Mem → Option (Int32 × Mem)) (hKK4 : ∀ (this : Nat) (x1 : Int32) (x2 : Int32) (x3 : Int32) (M : Mem) (_ : K0 this = (0, 7)), AW l E fX7_leastOf (fun _ => rmN n 0 0) (PQr E 0 0 ct ex enI) ct ex 0 0 4 [(0, .ref (ad E this)), (1, .int x1), (2, .int x2), (3, .int x3)] [] M (KK4 this x1 x2 x3 M)) (this : Nat) (x1 : Int32) (x2 : Int32) (x3 : Int32) (M : Mem) (hthis : K0 this = (0, 7)) : AW l E fX7_leastOf (fun _ => rmN n 0 0) (PQr E 0 0 ct ex enI) ct ex 0 0 30 [(0, .ref (ad E this)), (1, .int x1), (2, .int x2), (3, .int x3)] [] M (zX7_leastOf_B30 KK4 this x1 x2 x3 M) := by
  unfold zX7_leastOf_B30
  refine AW.iinc (pc := 30) (w := 3) [1, 2, 3, 0] [(0, .ref (ad E this)), (1, .int x1), (2, .int x2), (3, .int (x3 + 1))] dX7_leastOf_30 rfl (inc_1 _) (by decide) rfl ?_
  refine AW.goto (pc := 33) 4 dX7_leastOf_33 (by decide) ?_
  exact hKK4 this x1 x2 (x3 + 1) M hthis
set_option maxRecDepth 20000 in
set_option maxHeartbeats 4000000 in
theorem kX7_leastOf_B4 (l : Launch) (E : Ev) (n : Nat) (hn : 4 ≤ n) (ct : Nat) (hct : 111 ≤ ct) (ex : Bool) (KK4 : Nat → Int32 → Int32 → Int32 → Mem → Option (Int32 × Mem)) (hKK4 : ∀ (this : Nat) (x1 : Int32) (x2 : Int32) (x3 : Int32) (M : Mem) (_ : K0 this = (0, 7)), AW l E fX7_leastOf (fun _ => rmN n 0 0) (PQr E 0 0 ct ex enI) ct ex 0 0 4 [(0, .ref (ad E this)), (1, .int x1), (2, .int x2), (3, .int x3)] [] M (KK4 this x1 x2 x3 M)) (this : Nat) (x1 : Int32) (x2 : Int32) (x3 : Int32) (M : Mem) (hthis : K0 this = (0, 7)) : AW l E fX7_leastOf (fun _ => rmN n 0 0) (PQr E 0 0 ct ex enI) ct ex 0 0 4 [(0, .ref (ad E this)), (1, .int x1), (2, .int x2), (3, .int x3)] [] M (zX7_leastOf_B4 KK4 this x1 x2 x3 M) := by
  unfold zX7_leastOf_B4
  refine AW.iload_n (pc := 4) dX7_leastOf_4 rfl 3 rfl ?_
  refine AW.aload_n (pc := 5) dX7_leastOf_5 rfl 0 rfl ?_
  refine AW.getI (pc := 6) dX7_leastOf_6 flX7_18 hthis (kct hthis rfl hct) ?_
  refine AW.icmp_ge (pc := 9) 36 dX7_leastOf_9 (by decide) (fun h1 => ?_) (fun h1 => ?_)
  · refine AW.iconst (pc := 36) dX7_leastOf_36 ci_m1 ?_
    exact AW.iret (pc := 37) dX7_leastOf_37 rfl (fun _ _ _ => rfl) (Nat.le_refl _) (Nat.le_refl _)
  · refine AW.aload_n (pc := 12) dX7_leastOf_12 rfl 0 rfl ?_
    refine AW.iload_n (pc := 13) dX7_leastOf_13 rfl 3 rfl ?_
    refine AW.cV1i (pc := 14) dX7_leastOf_14 mlX7_52 mbX7_isLeastOfRest rfl hthis (kct hthis rfl hct) (fun _ => okR_N (by omega)) (kX7_isLeastOfRest l E (n - 1) (by omega) ct hct ex this x3 M) (Nat.le_of_ble_eq_true rfl) (fun v2 M3 => ?_)
    refine AW.if_eq (pc := 17) 30 dX7_leastOf_17 (by decide) (fun h4 => ?_) (fun h4 => ?_)
    · exact kX7_leastOf_B30 l E n hn ct hct ex KK4 hKK4 this x1 x2 x3 M3 hthis
    · refine AW.iload_n (pc := 20) dX7_leastOf_20 rfl 2 rfl ?_
      refine AW.iload_n (pc := 21) dX7_leastOf_21 rfl 1 rfl ?_
      refine AW.icmp_ne (pc := 22) 27 dX7_leastOf_22 (by decide) (fun h5 => ?_) (fun h5 => ?_)
      · refine AW.iload_n (pc := 25) dX7_leastOf_25 rfl 3 rfl ?_
        exact AW.iret (pc := 26) dX7_leastOf_26 rfl (fun _ _ _ => rfl) (Nat.le_refl _) (Nat.le_refl _)
      · refine AW.iinc (pc := 27) (w := 2) [1, 2, 0, 3] [(0, .ref (ad E this)), (1, .int x1), (2, .int (x2 + 1)), (3, .int x3)] dX7_leastOf_27 rfl (inc_1 _) (by decide) rfl ?_
        exact kX7_leastOf_B30 l E n hn ct hct ex KK4 hKK4 this x1 (x2 + 1) x3 M3 hthis
set_option maxRecDepth 20000 in
set_option maxHeartbeats 4000000 in
theorem kX7_leastOf_L4 (l : Launch) (E : Ev) (n : Nat) (hn : 4 ≤ n) (ct : Nat) (hct : 111 ≤ ct) (ex : Bool) (k : Nat) : ∀ (this : Nat) (x1 : Int32) (x2 : Int32) (x3 : Int32) (M : Mem) (_ : K0 this = (0, 7)), AW l E fX7_leastOf (fun _ => rmN n 0 0) (PQr E 0 0 ct ex enI) ct ex 0 0 4 [(0, .ref (ad E this)), (1, .int x1), (2, .int x2), (3, .int x3)] [] M (zX7_leastOf_L4 k this x1 x2 x3 M) := by
  induction k with
  | zero => intro this x1 x2 x3 M _; exact AW.none
  | succ k ih =>
    intro this x1 x2 x3 M hthis
    exact kX7_leastOf_B4 l E n hn ct hct ex (zX7_leastOf_L4 k) ih this x1 x2 x3 M hthis
set_option maxRecDepth 20000 in
set_option maxHeartbeats 4000000 in
theorem kX7_leastOf (l : Launch) (E : Ev) (n : Nat) (hn : 4 ≤ n) (ct : Nat) (hct : 111 ≤ ct) (ex : Bool) (this : Nat) (x1 : Int32) (M : Mem) : AM l E n ct ex yX7_leastOf fX7_leastOf enI [.ref (ad E this), .int x1] M (zX7_leastOf this x1 M) := by
  unfold zX7_leastOf
  refine AM.of (by decide +kernel) ⟨rfl, rfl, rfl⟩ (Nat.le_of_ble_eq_true rfl) ?_
  refine AW.chk (fun hthis => ?_)
  refine AW.iconst (pc := 0) dX7_leastOf_0 ci_0 ?_
  refine AW.istore_n (pc := 1) [1, 2, 0] [(0, .ref (ad E this)), (1, .int x1), (2, .int 0)] dX7_leastOf_1 rfl (by decide) rfl ?_
  refine AW.iconst (pc := 2) dX7_leastOf_2 ci_0 ?_
  refine AW.istore_n (pc := 3) [1, 2, 3, 0] [(0, .ref (ad E this)), (1, .int x1), (2, .int 0), (3, .int 0)] dX7_leastOf_3 rfl (by decide) rfl ?_
  exact kX7_leastOf_L4 l E n hn ct hct ex FU this x1 0 0 M hthis
-- GateBox$Rests.sizeFrom(I)I
def zX7_sizeFrom_B27 (KK4 : Nat → Int32 → Int32 → Int32 → Mem → Option (Int32 × Mem)) (this : Nat) (x1 : Int32) (x3 : Int32) (s0 : Int32) (s1 : Int32) (M : Mem) : Option (Int32 × Mem) :=
  lt (s0 + s1) fun v1 =>
  KK4 this x1 v1 (x3 + 1) M
def zX7_sizeFrom_B4 (KK4 : Nat → Int32 → Int32 → Int32 → Mem → Option (Int32 × Mem)) (this : Nat) (x1 : Int32) (x2 : Int32) (x3 : Int32) (M : Mem) : Option (Int32 × Mem) :=
  if (mI M this 3) ≤ x3 then
    some (x2, M)
  else
    bnd (zX7_reaches this x1 x3 M) fun v2 M3 =>
    if v2 = 0 then
      zX7_sizeFrom_B27 KK4 this x1 x3 x2 0 M3
    else
      zX7_sizeFrom_B27 KK4 this x1 x3 x2 1 M3
def zX7_sizeFrom_L4 : Nat → Nat → Int32 → Int32 → Int32 → Mem → Option (Int32 × Mem)
  | 0 => fun _ _ _ _ _ => none
  | k + 1 => zX7_sizeFrom_B4 (zX7_sizeFrom_L4 k)
def zX7_sizeFrom (this : Nat) (x1 : Int32) (M : Mem) : Option (Int32 × Mem) :=
  if K0 this = (0, 7) then
  zX7_sizeFrom_L4 FU this x1 0 0 M
  else none
set_option maxRecDepth 20000 in
set_option maxHeartbeats 4000000 in
theorem kX7_sizeFrom_B27 (l : Launch) (E : Ev) (n : Nat) (hn : 3 ≤ n) (ct : Nat) (hct : 111 ≤ ct) (ex : Bool) (KK4 : Nat → Int32 → Int32 → Int32 → Mem → Option (Int32 × Mem)) (hKK4 : ∀ (this : Nat) (x1 : Int32) (x2 : Int32) (x3 : Int32) (M : Mem) (_ : K0 this = (0, 7)), AW l E fX7_sizeFrom (fun _ => rmN n 0 0) (PQr E 0 0 ct ex enI) ct ex 0 0 4 [(0, .ref (ad E this)), (1, .int x1), (2, .int x2), (3, .int x3)] [] M (KK4 this x1 x2 x3 M)) (this : Nat) (x1 : Int32) (x3 : Int32) (s0 : Int32) (s1 : Int32) (M : Mem) (hthis : K0 this = (0, 7)) : AW l E fX7_sizeFrom (fun _ => rmN n 0 0) (PQr E 0 0 ct ex enI) ct ex 0 0 27 [(0, .ref (ad E this)), (1, .int x1), (3, .int x3)] [.int s1, .int s0] M (zX7_sizeFrom_B27 KK4 this x1 x3 s0 s1 M) := by
  unfold zX7_sizeFrom_B27
  refine AW.iadd (pc := 27) dX7_sizeFrom_27 ?_
  refine AW.genI (fun v1 => ?_)
  refine AW.istore_n (pc := 28) [1, 2, 0, 3] [(0, .ref (ad E this)), (1, .int x1), (2, .int v1), (3, .int x3)] dX7_sizeFrom_28 rfl (by decide) rfl ?_
  refine AW.iinc (pc := 29) (w := 3) [1, 2, 3, 0] [(0, .ref (ad E this)), (1, .int x1), (2, .int v1), (3, .int (x3 + 1))] dX7_sizeFrom_29 rfl (inc_1 _) (by decide) rfl ?_
  refine AW.goto (pc := 32) 4 dX7_sizeFrom_32 (by decide) ?_
  exact hKK4 this x1 v1 (x3 + 1) M hthis
set_option maxRecDepth 20000 in
set_option maxHeartbeats 4000000 in
theorem kX7_sizeFrom_B4 (l : Launch) (E : Ev) (n : Nat) (hn : 3 ≤ n) (ct : Nat) (hct : 111 ≤ ct) (ex : Bool) (KK4 : Nat → Int32 → Int32 → Int32 → Mem → Option (Int32 × Mem)) (hKK4 : ∀ (this : Nat) (x1 : Int32) (x2 : Int32) (x3 : Int32) (M : Mem) (_ : K0 this = (0, 7)), AW l E fX7_sizeFrom (fun _ => rmN n 0 0) (PQr E 0 0 ct ex enI) ct ex 0 0 4 [(0, .ref (ad E this)), (1, .int x1), (2, .int x2), (3, .int x3)] [] M (KK4 this x1 x2 x3 M)) (this : Nat) (x1 : Int32) (x2 : Int32) (x3 : Int32) (M : Mem) (hthis : K0 this = (0, 7)) : AW l E fX7_sizeFrom (fun _ => rmN n 0 0) (PQr E 0 0 ct ex enI) ct ex 0 0 4 [(0, .ref (ad E this)), (1, .int x1), (2, .int x2), (3, .int x3)] [] M (zX7_sizeFrom_B4 KK4 this x1 x2 x3 M) := by
  unfold zX7_sizeFrom_B4
  refine AW.iload_n (pc := 4) dX7_sizeFrom_4 rfl 3 rfl ?_
  refine AW.aload_n (pc := 5) dX7_sizeFrom_5 rfl 0 rfl ?_
  refine AW.getI (pc := 6) dX7_sizeFrom_6 flX7_18 hthis (kct hthis rfl hct) ?_
  refine AW.icmp_ge (pc := 9) 35 dX7_sizeFrom_9 (by decide) (fun h1 => ?_) (fun h1 => ?_)
  · refine AW.iload_n (pc := 35) dX7_sizeFrom_35 rfl 2 rfl ?_
    exact AW.iret (pc := 36) dX7_sizeFrom_36 rfl (fun _ _ _ => rfl) (Nat.le_refl _) (Nat.le_refl _)
  · refine AW.iload_n (pc := 12) dX7_sizeFrom_12 rfl 2 rfl ?_
    refine AW.aload_n (pc := 13) dX7_sizeFrom_13 rfl 0 rfl ?_
    refine AW.iload_n (pc := 14) dX7_sizeFrom_14 rfl 1 rfl ?_
    refine AW.iload_n (pc := 15) dX7_sizeFrom_15 rfl 3 rfl ?_
    refine AW.cV2i (pc := 16) dX7_sizeFrom_16 mlX7_44 mbX7_reaches rfl hthis (kct hthis rfl hct) (fun _ => okR_N (by omega)) (kX7_reaches l E (n - 1) (by omega) ct hct ex this x1 x3 M) (Nat.le_of_ble_eq_true rfl) (fun v2 M3 => ?_)
    refine AW.if_eq (pc := 19) 26 dX7_sizeFrom_19 (by decide) (fun h4 => ?_) (fun h4 => ?_)
    · refine AW.iconst (pc := 26) dX7_sizeFrom_26 ci_0 ?_
      exact AW.sub [0, 1, 3] rfl (kX7_sizeFrom_B27 l E n hn ct hct ex KK4 hKK4 this x1 x3 x2 0 M3 hthis)
    · refine AW.iconst (pc := 22) dX7_sizeFrom_22 ci_1 ?_
      refine AW.goto (pc := 23) 27 dX7_sizeFrom_23 (by decide) ?_
      exact AW.sub [0, 1, 3] rfl (kX7_sizeFrom_B27 l E n hn ct hct ex KK4 hKK4 this x1 x3 x2 1 M3 hthis)
set_option maxRecDepth 20000 in
set_option maxHeartbeats 4000000 in
theorem kX7_sizeFrom_L4 (l : Launch) (E : Ev) (n : Nat) (hn : 3 ≤ n) (ct : Nat) (hct : 111 ≤ ct) (ex : Bool) (k : Nat) : ∀ (this : Nat) (x1 : Int32) (x2 : Int32) (x3 : Int32) (M : Mem) (_ : K0 this = (0, 7)), AW l E fX7_sizeFrom (fun _ => rmN n 0 0) (PQr E 0 0 ct ex enI) ct ex 0 0 4 [(0, .ref (ad E this)), (1, .int x1), (2, .int x2), (3, .int x3)] [] M (zX7_sizeFrom_L4 k this x1 x2 x3 M) := by
  induction k with
  | zero => intro this x1 x2 x3 M _; exact AW.none
  | succ k ih =>
    intro this x1 x2 x3 M hthis
    exact kX7_sizeFrom_B4 l E n hn ct hct ex (zX7_sizeFrom_L4 k) ih this x1 x2 x3 M hthis
set_option maxRecDepth 20000 in
set_option maxHeartbeats 4000000 in
theorem kX7_sizeFrom (l : Launch) (E : Ev) (n : Nat) (hn : 3 ≤ n) (ct : Nat) (hct : 111 ≤ ct) (ex : Bool) (this : Nat) (x1 : Int32) (M : Mem) : AM l E n ct ex yX7_sizeFrom fX7_sizeFrom enI [.ref (ad E this), .int x1] M (zX7_sizeFrom this x1 M) := by
  unfold zX7_sizeFrom
  refine AM.of (by decide +kernel) ⟨rfl, rfl, rfl⟩ (Nat.le_of_ble_eq_true rfl) ?_
  refine AW.chk (fun hthis => ?_)
  refine AW.iconst (pc := 0) dX7_sizeFrom_0 ci_0 ?_
  refine AW.istore_n (pc := 1) [1, 2, 0] [(0, .ref (ad E this)), (1, .int x1), (2, .int 0)] dX7_sizeFrom_1 rfl (by decide) rfl ?_
  refine AW.iconst (pc := 2) dX7_sizeFrom_2 ci_0 ?_
  refine AW.istore_n (pc := 3) [1, 2, 3, 0] [(0, .ref (ad E this)), (1, .int x1), (2, .int 0), (3, .int 0)] dX7_sizeFrom_3 rfl (by decide) rfl ?_
  exact kX7_sizeFrom_L4 l E n hn ct hct ex FU this x1 0 0 M hthis
-- GateBox.meanFrom(I)I
def zX11_meanFrom (this : Nat) (x1 : Int32) (M : Mem) : Option (Int32 × Mem) :=
  if K0 this = (0, 11) then
  if mR M this 8 ≠ 0 then
  if K0 (mR M this 8) = (0, 10) then
  bnd (zX10_begin (mR M this 8) x1 M) fun _ M2 =>
  if mR M2 this 8 ≠ 0 then
  if K0 (mR M2 this 8) = (0, 10) then
  bnd (zX10_go (mR M2 this 8) 200 M2) fun _ M5 =>
  if mR M5 this 8 ≠ 0 then
  if K0 (mR M5 this 8) = (0, 10) then
  bnd (zX10_thousandthsGiven (mR M5 this 8) M5) fun v8 M9 =>
  if mR M9 this 8 ≠ 0 then
  if K0 (mR M9 this 8) = (0, 10) then
  bnd (zX10_go (mR M9 this 8) 200 M9) fun _ M12 =>
  if mR M12 this 8 ≠ 0 then
  if K0 (mR M12 this 8) = (0, 10) then
  bnd (zX10_thousandthsGiven (mR M12 this 8) M12) fun v15 M16 =>
  some ((v15 - v8) / 200, M16)
  else none
  else none
  else none
  else none
  else none
  else none
  else none
  else none
  else none
  else none
  else none
set_option maxRecDepth 20000 in
set_option maxHeartbeats 4000000 in
theorem kX11_meanFrom (l : Launch) (E : Ev) (n : Nat) (hn : 7 ≤ n) (ct : Nat) (hct : 111 ≤ ct) (ex : Bool) (this : Nat) (x1 : Int32) (M : Mem) : AM l E n ct ex yX11_meanFrom fX11_meanFrom enI [.ref (ad E this), .int x1] M (zX11_meanFrom this x1 M) := by
  unfold zX11_meanFrom
  refine AM.of (by decide +kernel) ⟨rfl, rfl, rfl⟩ (Nat.le_of_ble_eq_true rfl) ?_
  refine AW.chk (fun hthis => ?_)
  refine AW.aload_n (pc := 0) dX11_meanFrom_0 rfl 0 rfl ?_
  refine AW.chk (fun g1 => ?_)
  refine AW.getR (pc := 1) dX11_meanFrom_1 flX11_59 hthis (kct hthis rfl hct) g1 ?_
  refine AW.iload_n (pc := 4) dX11_meanFrom_4 rfl 1 rfl ?_
  refine AW.chk (fun g3 => ?_)
  refine AW.cV1v (pc := 5) dX11_meanFrom_5 mlX11_236 mbX10_begin rfl g3 (kct g3 rfl hct) (fun _ => okR_N (by omega)) (kX10_begin l E (n - 1) (by omega) ct hct ex (mR M this 8) x1 M) (Nat.le_of_ble_eq_true rfl) (fun _ M2 => ?_)
  refine AW.aload_n (pc := 8) dX11_meanFrom_8 rfl 0 rfl ?_
  refine AW.chk (fun g4 => ?_)
  refine AW.getR (pc := 9) dX11_meanFrom_9 flX11_59 hthis (kct hthis rfl hct) g4 ?_
  refine AW.sipush (pc := 12) dX11_meanFrom_12 cs_200 ?_
  refine AW.chk (fun g6 => ?_)
  refine AW.cV1v (pc := 15) dX11_meanFrom_15 mlX11_238 mbX10_go rfl g6 (kct g6 rfl hct) (fun _ => okR_N (by omega)) (kX10_go l E (n - 1) (by omega) ct hct ex (mR M2 this 8) 200 M2) (Nat.le_of_ble_eq_true rfl) (fun _ M5 => ?_)
  refine AW.aload_n (pc := 18) dX11_meanFrom_18 rfl 0 rfl ?_
  refine AW.chk (fun g7 => ?_)
  refine AW.getR (pc := 19) dX11_meanFrom_19 flX11_59 hthis (kct hthis rfl hct) g7 ?_
  refine AW.chk (fun g10 => ?_)
  refine AW.cV0i (pc := 22) dX11_meanFrom_22 mlX11_189 mbX10_thousandthsGiven rfl g10 (kct g10 rfl hct) (fun _ => okR_N (by omega)) (kX10_thousandthsGiven l E (n - 1) (by omega) ct hct ex (mR M5 this 8) M5) (Nat.le_of_ble_eq_true rfl) (fun v8 M9 => ?_)
  refine AW.istore_n (pc := 25) [1, 0] [(0, .ref (ad E this)), (2, .int v8)] dX11_meanFrom_25 rfl (by decide) rfl ?_
  refine AW.aload_n (pc := 26) dX11_meanFrom_26 rfl 0 rfl ?_
  refine AW.chk (fun g11 => ?_)
  refine AW.getR (pc := 27) dX11_meanFrom_27 flX11_59 hthis (kct hthis rfl hct) g11 ?_
  refine AW.sipush (pc := 30) dX11_meanFrom_30 cs_200 ?_
  refine AW.chk (fun g13 => ?_)
  refine AW.cV1v (pc := 33) dX11_meanFrom_33 mlX11_238 mbX10_go rfl g13 (kct g13 rfl hct) (fun _ => okR_N (by omega)) (kX10_go l E (n - 1) (by omega) ct hct ex (mR M9 this 8) 200 M9) (Nat.le_of_ble_eq_true rfl) (fun _ M12 => ?_)
  refine AW.aload_n (pc := 36) dX11_meanFrom_36 rfl 0 rfl ?_
  refine AW.chk (fun g14 => ?_)
  refine AW.getR (pc := 37) dX11_meanFrom_37 flX11_59 hthis (kct hthis rfl hct) g14 ?_
  refine AW.chk (fun g17 => ?_)
  refine AW.cV0i (pc := 40) dX11_meanFrom_40 mlX11_189 mbX10_thousandthsGiven rfl g17 (kct g17 rfl hct) (fun _ => okR_N (by omega)) (kX10_thousandthsGiven l E (n - 1) (by omega) ct hct ex (mR M12 this 8) M12) (Nat.le_of_ble_eq_true rfl) (fun v15 M16 => ?_)
  refine AW.iload_n (pc := 43) dX11_meanFrom_43 rfl 1 rfl ?_
  refine AW.isub (pc := 44) dX11_meanFrom_44 ?_
  refine AW.sipush (pc := 45) dX11_meanFrom_45 cs_200 ?_
  refine AW.idiv (pc := 48) dX11_meanFrom_48 (by decide) ?_
  exact AW.iret (pc := 49) dX11_meanFrom_49 rfl (fun _ _ _ => rfl) (Nat.le_refl _) (Nat.le_refl _)
-- GateBox.rest(III)I
def zX11_rest (this : Nat) (x1 : Int32) (x2 : Int32) (x3 : Int32) (M : Mem) : Option ((Int32 ⊕ Nat) × Mem) :=
  if K0 this = (0, 11) then
  bndX (zX11_gateOf this x1 M) fun v1 M2 =>
  bndX (zX11_askKnown x3 2 M2) fun _ M3 =>
  if mR M3 this 7 ≠ 0 then
  if K0 v1 = (0, 4) then
  if mR M3 v1 0 ≠ 0 then
  if K0 (mR M3 v1 0) = (0, 8) then
  if mR M3 (mR M3 v1 0) 12 ≠ 0 then
  if K0 (mR M3 this 7) = (0, 5) then
  bnd (zX5_begin (mR M3 this 7) (mR M3 v1 0) (mR M3 (mR M3 v1 0) 12) M3) fun _ M9 =>
  if mR M9 this 10 ≠ 0 then
  if mR M9 v1 1 ≠ 0 then
  if K0 (mR M9 v1 1) = (0, 0) then
  if K0 (mR M9 this 10) = (0, 7) then
  bnd (zX7_find (mR M9 this 10) (mI M9 (mR M9 v1 1) 0) M9) fun _ M14 =>
  if x2 = (-1) then
    if mR M14 this 10 ≠ 0 then
    if K0 (mR M14 this 10) = (0, 7) then
    bnd (zX7_howMany (mR M14 this 10) M14) fun v18 M19 =>
    some (.inl v18, M19)
    else none
    else none
  else
    if mR M14 this 10 ≠ 0 then
    if K0 (mR M14 this 10) = (0, 7) then
    bnd (zX7_leastOf (mR M14 this 10) x2 M14) fun v22 M23 =>
    if v22 = (-1) then
      some (.inr 0, M23)
    else
      if x3 = 0 then
        some (.inl v22, M23)
      else
        if x3 = 1 then
          if mR M23 this 10 ≠ 0 then
          if K0 (mR M23 this 10) = (0, 7) then
          bnd (zX7_sizeFrom (mR M23 this 10) v22 M23) fun v29 M30 =>
          some (.inl v29, M30)
          else none
          else none
        else
          bnd (zX11_meanFrom this v22 M23) fun v32 M33 =>
          some (.inl v32, M33)
    else none
    else none
  else none
  else none
  else none
  else none
  else none
  else none
  else none
  else none
  else none
  else none
  else none
set_option maxRecDepth 20000 in
set_option maxHeartbeats 4000000 in
theorem kX11_rest (l : Launch) (E : Ev) (hst : l.stackTraces = false) (n : Nat) (hn : 8 ≤ n) (ct : Nat) (hct : 111 ≤ ct) (ex : Bool) (this : Nat) (x1 : Int32) (x2 : Int32) (x3 : Int32) (M : Mem) : AMX l E n ct ex yX11_rest fX11_rest enI [.ref (ad E this), .int x1, .int x2, .int x3] M (zX11_rest this x1 x2 x3 M) := by
  unfold zX11_rest
  refine AMX.of (by decide +kernel) ⟨rfl, rfl, rfl⟩ (Nat.le_of_ble_eq_true rfl) ?_
  refine AW.chk (fun hthis => ?_)
  refine AW.aload_n (pc := 0) dX11_rest_0 rfl 0 rfl ?_
  refine AW.iload_n (pc := 1) dX11_rest_1 rfl 1 rfl ?_
  refine AW.xV1r (pc := 2) rfl dX11_rest_2 mlX11_106 mbX11_gateOf rfl hthis (kct hthis rfl hct) (by omega) (kX11_gateOf l E hst (n - 1) (by omega) ct hct ex this x1 M) (Nat.le_of_ble_eq_true rfl) (fun v1 M2 => ?_)
  refine AW.astore (pc := 5) [1, 3, 4, 0] [(0, .ref (ad E this)), (2, .int x2), (3, .int x3), (4, .ref (ad E v1))] dX11_rest_5 (by decide) rfl ?_
  refine AW.iload_n (pc := 7) dX11_rest_7 rfl 2 rfl ?_
  refine AW.iconst (pc := 8) dX11_rest_8 ci_2 ?_
  refine AW.xS2v (pc := 9) rfl dX11_rest_9 mlX11_134 mbX11_askKnown (by omega) (kX11_askKnown l E hst (n - 1) (by omega) ct hct ex x3 2 M2) (Nat.le_of_ble_eq_true rfl) (fun _ M3 => ?_)
  refine AW.aload_n (pc := 12) dX11_rest_12 rfl 0 rfl ?_
  refine AW.chk (fun g4 => ?_)
  refine AW.getR (pc := 13) dX11_rest_13 flX11_50 hthis (kct hthis rfl hct) g4 ?_
  refine AW.aload (pc := 16) dX11_rest_16 3 rfl ?_
  refine AW.chk (fun g5 => ?_)
  refine AW.chk (fun g6 => ?_)
  refine AW.getR (pc := 18) dX11_rest_18 flX11_43 g5 (kct g5 rfl hct) g6 ?_
  refine AW.aload (pc := 21) dX11_rest_21 3 rfl ?_
  refine AW.getR (pc := 23) dX11_rest_23 flX11_43 g5 (kct g5 rfl hct) g6 ?_
  refine AW.chk (fun g7 => ?_)
  refine AW.chk (fun g8 => ?_)
  refine AW.getR (pc := 26) dX11_rest_26 flX11_164 g7 (kct g7 rfl hct) g8 ?_
  refine AW.chk (fun g10 => ?_)
  refine AW.cV2v (pc := 29) dX11_rest_29 mlX11_167 mbX5_begin rfl g10 (kct g10 rfl hct) (fun r => okR_X (by omega) r) (kX5_begin l E (n - 1) (by omega) ct hct ex (mR M3 this 7) (mR M3 v1 0) (mR M3 (mR M3 v1 0) 12) M3) (Nat.le_of_ble_eq_true rfl) (fun _ M9 => ?_)
  refine AW.aload_n (pc := 32) dX11_rest_32 rfl 0 rfl ?_
  refine AW.chk (fun g11 => ?_)
  refine AW.getR (pc := 33) dX11_rest_33 flX11_75 hthis (kct hthis rfl hct) g11 ?_
  refine AW.aload (pc := 36) dX11_rest_36 3 rfl ?_
  refine AW.chk (fun g12 => ?_)
  refine AW.getR (pc := 38) dX11_rest_38 flX11_125 g5 (kct g5 rfl hct) g12 ?_
  refine AW.chk (fun g13 => ?_)
  refine AW.getI (pc := 41) dX11_rest_41 flX11_207 g13 (kct g13 rfl hct) ?_
  refine AW.chk (fun g15 => ?_)
  refine AW.cV1v (pc := 44) dX11_rest_44 mlX11_210 mbX7_find rfl g15 (kct g15 rfl hct) (fun r => okR_X (by omega) r) (kX7_find l E (n - 1) (by omega) ct hct ex (mR M9 this 10) (mI M9 (mR M9 v1 1) 0) M9) (Nat.le_of_ble_eq_true rfl) (fun _ M14 => ?_)
  refine AW.iload_n (pc := 47) dX11_rest_47 rfl 1 rfl ?_
  refine AW.iconst (pc := 48) dX11_rest_48 ci_m1 ?_
  refine AW.icmp_ne (pc := 49) 60 dX11_rest_49 (by decide) (fun h16 => ?_) (fun h16 => ?_)
  · refine AW.aload_n (pc := 52) dX11_rest_52 rfl 0 rfl ?_
    refine AW.chk (fun g17 => ?_)
    refine AW.getR (pc := 53) dX11_rest_53 flX11_75 hthis (kct hthis rfl hct) g17 ?_
    refine AW.chk (fun g20 => ?_)
    refine AW.cV0i (pc := 56) dX11_rest_56 mlX11_213 mbX7_howMany rfl g20 (kct g20 rfl hct) (fun r => okR_X (by omega) r) (kX7_howMany l E (n - 1) (by omega) ct hct ex (mR M14 this 10) M14) (Nat.le_of_ble_eq_true rfl) (fun v18 M19 => ?_)
    exact AW.iret (pc := 59) dX11_rest_59 rfl (fun _ _ _ => rfl) (Nat.le_refl _) (Nat.le_refl _)
  · refine AW.aload_n (pc := 60) dX11_rest_60 rfl 0 rfl ?_
    refine AW.chk (fun g21 => ?_)
    refine AW.getR (pc := 61) dX11_rest_61 flX11_75 hthis (kct hthis rfl hct) g21 ?_
    refine AW.iload_n (pc := 64) dX11_rest_64 rfl 1 rfl ?_
    refine AW.chk (fun g24 => ?_)
    refine AW.cV1i (pc := 65) dX11_rest_65 mlX11_216 mbX7_leastOf rfl g24 (kct g24 rfl hct) (fun r => okR_X (by omega) r) (kX7_leastOf l E (n - 1) (by omega) ct hct ex (mR M14 this 10) x2 M14) (Nat.le_of_ble_eq_true rfl) (fun v22 M23 => ?_)
    refine AW.istore (pc := 68) [1, 3, 0] [(0, .ref (ad E this)), (3, .int x3), (5, .int v22)] dX11_rest_68 (by decide) rfl ?_
    refine AW.iload (pc := 70) dX11_rest_70 2 rfl ?_
    refine AW.iconst (pc := 72) dX11_rest_72 ci_m1 ?_
    refine AW.icmp_ne (pc := 73) 86 dX11_rest_73 (by decide) (fun h25 => ?_) (fun h25 => ?_)
    · exact AW.throwN (pc := 76) (i := 18) hst rfl rfl xt_219 rfl (by omega) dX11_rest_76 dX11_rest_79 dX11_rest_80 dX11_rest_82 dX11_rest_85
    · refine AW.iload_n (pc := 86) dX11_rest_86 rfl 1 rfl ?_
      refine AW.if_ne (pc := 87) 95 dX11_rest_87 (by decide) (fun h26 => ?_) (fun h26 => ?_)
      · refine AW.iload (pc := 90) dX11_rest_90 2 rfl ?_
        refine AW.goto (pc := 92) 118 dX11_rest_92 (by decide) ?_
        exact AW.iret (pc := 118) dX11_rest_118 rfl (fun _ _ _ => rfl) (Nat.le_refl _) (Nat.le_refl _)
      · refine AW.iload_n (pc := 95) dX11_rest_95 rfl 1 rfl ?_
        refine AW.iconst (pc := 96) dX11_rest_96 ci_1 ?_
        refine AW.icmp_ne (pc := 97) 112 dX11_rest_97 (by decide) (fun h27 => ?_) (fun h27 => ?_)
        · refine AW.aload_n (pc := 100) dX11_rest_100 rfl 0 rfl ?_
          refine AW.chk (fun g28 => ?_)
          refine AW.getR (pc := 101) dX11_rest_101 flX11_75 hthis (kct hthis rfl hct) g28 ?_
          refine AW.iload (pc := 104) dX11_rest_104 2 rfl ?_
          refine AW.chk (fun g31 => ?_)
          refine AW.cV1i (pc := 106) dX11_rest_106 mlX11_226 mbX7_sizeFrom rfl g31 (kct g31 rfl hct) (fun r => okR_X (by omega) r) (kX7_sizeFrom l E (n - 1) (by omega) ct hct ex (mR M23 this 10) v22 M23) (Nat.le_of_ble_eq_true rfl) (fun v29 M30 => ?_)
          refine AW.goto (pc := 109) 118 dX11_rest_109 (by decide) ?_
          exact AW.iret (pc := 118) dX11_rest_118 rfl (fun _ _ _ => rfl) (Nat.le_refl _) (Nat.le_refl _)
        · refine AW.aload_n (pc := 112) dX11_rest_112 rfl 0 rfl ?_
          refine AW.iload (pc := 113) dX11_rest_113 2 rfl ?_
          refine AW.cV1i (pc := 115) dX11_rest_115 mlX11_229 mbX11_meanFrom rfl hthis (kct hthis rfl hct) (fun r => okR_X (by omega) r) (kX11_meanFrom l E (n - 1) (by omega) ct hct ex this v22 M23) (Nat.le_of_ble_eq_true rfl) (fun v32 M33 => ?_)
          exact AW.iret (pc := 118) dX11_rest_118 rfl (fun _ _ _ => rfl) (Nat.le_refl _) (Nat.le_refl _)
-- GateBox$Rules.asks(I)Z
def zX8_asks (this : Nat) (x1 : Int32) (M : Mem) : Option (Int32 × Mem) :=
  if K0 this = (0, 8) then
  if (((mI M this 5) >>> (x1 &&& 31)) &&& 1) = 1 then
    some (1, M)
  else
    some (0, M)
  else none
set_option maxRecDepth 20000 in
set_option maxHeartbeats 4000000 in
theorem kX8_asks (l : Launch) (E : Ev) (n : Nat) (hn : 1 ≤ n) (ct : Nat) (hct : 111 ≤ ct) (ex : Bool) (this : Nat) (x1 : Int32) (M : Mem) : AM l E n ct ex yX8_asks fX8_asks enI [.ref (ad E this), .int x1] M (zX8_asks this x1 M) := by
  unfold zX8_asks
  refine AM.of (by decide +kernel) ⟨rfl, rfl, rfl⟩ (Nat.le_of_ble_eq_true rfl) ?_
  refine AW.chk (fun hthis => ?_)
  refine AW.aload_n (pc := 0) dX8_asks_0 rfl 0 rfl ?_
  refine AW.getI (pc := 1) dX8_asks_1 flX8_27 hthis (kct hthis rfl hct) ?_
  refine AW.iload_n (pc := 4) dX8_asks_4 rfl 1 rfl ?_
  refine AW.ishr (pc := 5) dX8_asks_5 ?_
  refine AW.iconst (pc := 6) dX8_asks_6 ci_1 ?_
  refine AW.iand (pc := 7) dX8_asks_7 ?_
  refine AW.iconst (pc := 8) dX8_asks_8 ci_1 ?_
  refine AW.icmp_ne (pc := 9) 16 dX8_asks_9 (by decide) (fun h1 => ?_) (fun h1 => ?_)
  · refine AW.iconst (pc := 12) dX8_asks_12 ci_1 ?_
    refine AW.goto (pc := 13) 17 dX8_asks_13 (by decide) ?_
    exact AW.zret (pc := 17) dX8_asks_17 rfl (Or.inr rfl) (fun _ _ _ => rfl) (Nat.le_refl _) (Nat.le_refl _)
  · refine AW.iconst (pc := 16) dX8_asks_16 ci_0 ?_
    exact AW.zret (pc := 17) dX8_asks_17 rfl (Or.inl rfl) (fun _ _ _ => rfl) (Nat.le_refl _) (Nat.le_refl _)
-- GateBox$Rules.lesserCardIsLike(LGateBox$Setting;)Z
def zX8_lesserCardIsLike_B30  (M : Mem) : Option (Int32 × Mem) :=
  some (1, M)
def zX8_lesserCardIsLike_B15 (this : Nat) (x1 : Nat) (M : Mem) : Option (Int32 × Mem) :=
  if K0 x1 = (0, 9) then
  if (mI M x1 0) = 0 then
    bnd (zX8_asks this 5 M) fun v3 M4 =>
    if v3 = 0 then
      zX8_lesserCardIsLike_B30 M4
    else
      some (0, M4)
  else
    some (0, M)
  else none
def zX8_lesserCardIsLike (this : Nat) (x1 : Nat) (M : Mem) : Option (Int32 × Mem) :=
  if K0 this = (0, 8) then
  if K0 x1 = (0, 9) then
  if (mI M x1 0) ≤ 0 then
    zX8_lesserCardIsLike_B15 this x1 M
  else
    bnd (zX8_asks this 4 M) fun v3 M4 =>
    if v3 = 0 then
      zX8_lesserCardIsLike_B30 M4
    else
      zX8_lesserCardIsLike_B15 this x1 M4
  else none
  else none
set_option maxRecDepth 20000 in
set_option maxHeartbeats 4000000 in
theorem kX8_lesserCardIsLike_B30 (l : Launch) (E : Ev) (n : Nat) (hn : 2 ≤ n) (ct : Nat) (hct : 111 ≤ ct) (ex : Bool)  (M : Mem) : AW l E fX8_lesserCardIsLike (fun _ => rmN n 0 0) (PQr E 0 0 ct ex enI) ct ex 0 0 30 [] [] M (zX8_lesserCardIsLike_B30  M) := by
  unfold zX8_lesserCardIsLike_B30
  refine AW.iconst (pc := 30) dX8_lesserCardIsLike_30 ci_1 ?_
  refine AW.goto (pc := 31) 35 dX8_lesserCardIsLike_31 (by decide) ?_
  exact AW.zret (pc := 35) dX8_lesserCardIsLike_35 rfl (Or.inr rfl) (fun _ _ _ => rfl) (Nat.le_refl _) (Nat.le_refl _)
set_option maxRecDepth 20000 in
set_option maxHeartbeats 4000000 in
theorem kX8_lesserCardIsLike_B15 (l : Launch) (E : Ev) (n : Nat) (hn : 2 ≤ n) (ct : Nat) (hct : 111 ≤ ct) (ex : Bool) (this : Nat) (x1 : Nat) (M : Mem) (hthis : K0 this = (0, 8)) : AW l E fX8_lesserCardIsLike (fun _ => rmN n 0 0) (PQr E 0 0 ct ex enI) ct ex 0 0 15 [(0, .ref (ad E this)), (1, .ref (ad E x1))] [] M (zX8_lesserCardIsLike_B15 this x1 M) := by
  unfold zX8_lesserCardIsLike_B15
  refine AW.aload_n (pc := 15) dX8_lesserCardIsLike_15 rfl 1 rfl ?_
  refine AW.chk (fun g1 => ?_)
  refine AW.getI (pc := 16) dX8_lesserCardIsLike_16 flX8_59 g1 (kct g1 rfl hct) ?_
  refine AW.if_ne (pc := 19) 34 dX8_lesserCardIsLike_19 (by decide) (fun h2 => ?_) (fun h2 => ?_)
  · refine AW.aload_n (pc := 22) dX8_lesserCardIsLike_22 rfl 0 rfl ?_
    refine AW.iconst (pc := 23) dX8_lesserCardIsLike_23 ci_5 ?_
    refine AW.cV1i (pc := 24) dX8_lesserCardIsLike_24 mlX8_96 mbX8_asks rfl hthis (kct hthis rfl hct) (fun _ => okR_N (by omega)) (kX8_asks l E (n - 1) (by omega) ct hct ex this 5 M) (Nat.le_of_ble_eq_true rfl) (fun v3 M4 => ?_)
    refine AW.if_ne (pc := 27) 34 dX8_lesserCardIsLike_27 (by decide) (fun h5 => ?_) (fun h5 => ?_)
    · exact AW.sub [] rfl (kX8_lesserCardIsLike_B30 l E n hn ct hct ex M4)
    · refine AW.iconst (pc := 34) dX8_lesserCardIsLike_34 ci_0 ?_
      exact AW.zret (pc := 35) dX8_lesserCardIsLike_35 rfl (Or.inl rfl) (fun _ _ _ => rfl) (Nat.le_refl _) (Nat.le_refl _)
  · refine AW.iconst (pc := 34) dX8_lesserCardIsLike_34 ci_0 ?_
    exact AW.zret (pc := 35) dX8_lesserCardIsLike_35 rfl (Or.inl rfl) (fun _ _ _ => rfl) (Nat.le_refl _) (Nat.le_refl _)
set_option maxRecDepth 20000 in
set_option maxHeartbeats 4000000 in
theorem kX8_lesserCardIsLike (l : Launch) (E : Ev) (n : Nat) (hn : 2 ≤ n) (ct : Nat) (hct : 111 ≤ ct) (ex : Bool) (this : Nat) (x1 : Nat) (M : Mem) : AM l E n ct ex yX8_lesserCardIsLike fX8_lesserCardIsLike enI [.ref (ad E this), .ref (ad E x1)] M (zX8_lesserCardIsLike this x1 M) := by
  unfold zX8_lesserCardIsLike
  refine AM.of (by decide +kernel) ⟨rfl, rfl, rfl⟩ (Nat.le_of_ble_eq_true rfl) ?_
  refine AW.chk (fun hthis => ?_)
  refine AW.aload_n (pc := 0) dX8_lesserCardIsLike_0 rfl 1 rfl ?_
  refine AW.chk (fun g1 => ?_)
  refine AW.getI (pc := 1) dX8_lesserCardIsLike_1 flX8_59 g1 (kct g1 rfl hct) ?_
  refine AW.if_le (pc := 4) 15 dX8_lesserCardIsLike_4 (by decide) (fun h2 => ?_) (fun h2 => ?_)
  · exact kX8_lesserCardIsLike_B15 l E n hn ct hct ex this x1 M hthis
  · refine AW.aload_n (pc := 7) dX8_lesserCardIsLike_7 rfl 0 rfl ?_
    refine AW.iconst (pc := 8) dX8_lesserCardIsLike_8 ci_4 ?_
    refine AW.cV1i (pc := 9) dX8_lesserCardIsLike_9 mlX8_96 mbX8_asks rfl hthis (kct hthis rfl hct) (fun _ => okR_N (by omega)) (kX8_asks l E (n - 1) (by omega) ct hct ex this 4 M) (Nat.le_of_ble_eq_true rfl) (fun v3 M4 => ?_)
    refine AW.if_eq (pc := 12) 30 dX8_lesserCardIsLike_12 (by decide) (fun h5 => ?_) (fun h5 => ?_)
    · exact AW.sub [] rfl (kX8_lesserCardIsLike_B30 l E n hn ct hct ex M4)
    · exact kX8_lesserCardIsLike_B15 l E n hn ct hct ex this x1 M4 hthis
-- GateBox$Rules.lesserIsLike(LGateBox$Setting;)Z
def zX8_lesserIsLike_B78  (M : Mem) : Option (Int32 × Mem) :=
  some (1, M)
def zX8_lesserIsLike_B61 (this : Nat) (x1 : Nat) (x2 : Int32) (s0 : Int32) (M : Mem) : Option (Int32 × Mem) :=
  bnd (zX8_lesserCardIsLike this x1 M) fun v1 M2 =>
  if v1 = 0 then
    if x2 = 0 then
      if s0 = 0 then
        some (0, M2)
      else
        zX8_lesserIsLike_B78 M2
    else
      zX8_lesserIsLike_B78 M2
  else
    zX8_lesserIsLike_B78 M2
def zX8_lesserIsLike_B60 (this : Nat) (x1 : Nat) (x2 : Int32) (M : Mem) : Option (Int32 × Mem) :=
  zX8_lesserIsLike_B61 this x1 x2 0 M
def zX8_lesserIsLike_B22 (this : Nat) (x1 : Nat) (s0 : Int32) (M : Mem) : Option (Int32 × Mem) :=
  if K0 x1 = (0, 9) then
  if (mI M x1 2) = 1 then
    bnd (zX8_asks this 7 M) fun v3 M4 =>
    if v3 = 0 then
      bnd (zX8_asks this 2 M4) fun v6 M7 =>
      if v6 = 0 then
        bnd (zX8_asks this 3 M7) fun v9 M10 =>
        if v9 = 0 then
          zX8_lesserIsLike_B61 this x1 s0 1 M10
        else
          zX8_lesserIsLike_B60 this x1 s0 M10
      else
        zX8_lesserIsLike_B60 this x1 s0 M7
    else
      zX8_lesserIsLike_B60 this x1 s0 M4
  else
    zX8_lesserIsLike_B60 this x1 s0 M
  else none
def zX8_lesserIsLike_B21 (this : Nat) (x1 : Nat) (M : Mem) : Option (Int32 × Mem) :=
  zX8_lesserIsLike_B22 this x1 0 M
def zX8_lesserIsLike (this : Nat) (x1 : Nat) (M : Mem) : Option (Int32 × Mem) :=
  if K0 this = (0, 8) then
  if K0 x1 = (0, 9) then
  if (mI M x1 1) = 1 then
    bnd (zX8_asks this 6 M) fun v3 M4 =>
    if v3 = 0 then
      zX8_lesserIsLike_B22 this x1 1 M4
    else
      zX8_lesserIsLike_B21 this x1 M4
  else
    zX8_lesserIsLike_B21 this x1 M
  else none
  else none
set_option maxRecDepth 20000 in
set_option maxHeartbeats 4000000 in
theorem kX8_lesserIsLike_B78 (l : Launch) (E : Ev) (n : Nat) (hn : 3 ≤ n) (ct : Nat) (hct : 111 ≤ ct) (ex : Bool)  (M : Mem) : AW l E fX8_lesserIsLike (fun _ => rmN n 0 0) (PQr E 0 0 ct ex enI) ct ex 0 0 78 [] [] M (zX8_lesserIsLike_B78  M) := by
  unfold zX8_lesserIsLike_B78
  refine AW.iconst (pc := 78) dX8_lesserIsLike_78 ci_1 ?_
  refine AW.goto (pc := 79) 83 dX8_lesserIsLike_79 (by decide) ?_
  exact AW.zret (pc := 83) dX8_lesserIsLike_83 rfl (Or.inr rfl) (fun _ _ _ => rfl) (Nat.le_refl _) (Nat.le_refl _)
set_option maxRecDepth 20000 in
set_option maxHeartbeats 4000000 in
theorem kX8_lesserIsLike_B61 (l : Launch) (E : Ev) (n : Nat) (hn : 3 ≤ n) (ct : Nat) (hct : 111 ≤ ct) (ex : Bool) (this : Nat) (x1 : Nat) (x2 : Int32) (s0 : Int32) (M : Mem) (hthis : K0 this = (0, 8)) : AW l E fX8_lesserIsLike (fun _ => rmN n 0 0) (PQr E 0 0 ct ex enI) ct ex 0 0 61 [(0, .ref (ad E this)), (1, .ref (ad E x1)), (2, .int x2)] [.int s0] M (zX8_lesserIsLike_B61 this x1 x2 s0 M) := by
  unfold zX8_lesserIsLike_B61
  refine AW.istore_n (pc := 61) [1, 2, 3, 0] [(0, .ref (ad E this)), (1, .ref (ad E x1)), (2, .int x2), (3, .int s0)] dX8_lesserIsLike_61 rfl (by decide) rfl ?_
  refine AW.aload_n (pc := 62) dX8_lesserIsLike_62 rfl 0 rfl ?_
  refine AW.aload_n (pc := 63) dX8_lesserIsLike_63 rfl 1 rfl ?_
  refine AW.cV1i (pc := 64) dX8_lesserIsLike_64 mlX8_100 mbX8_lesserCardIsLike rfl hthis (kct hthis rfl hct) (fun _ => okR_N (by omega)) (kX8_lesserCardIsLike l E (n - 1) (by omega) ct hct ex this x1 M) (Nat.le_of_ble_eq_true rfl) (fun v1 M2 => ?_)
  refine AW.if_ne (pc := 67) 78 dX8_lesserIsLike_67 (by decide) (fun h3 => ?_) (fun h3 => ?_)
  · refine AW.iload_n (pc := 70) dX8_lesserIsLike_70 rfl 2 rfl ?_
    refine AW.if_ne (pc := 71) 78 dX8_lesserIsLike_71 (by decide) (fun h4 => ?_) (fun h4 => ?_)
    · refine AW.iload_n (pc := 74) dX8_lesserIsLike_74 rfl 3 rfl ?_
      refine AW.if_eq (pc := 75) 82 dX8_lesserIsLike_75 (by decide) (fun h5 => ?_) (fun h5 => ?_)
      · refine AW.iconst (pc := 82) dX8_lesserIsLike_82 ci_0 ?_
        exact AW.zret (pc := 83) dX8_lesserIsLike_83 rfl (Or.inl rfl) (fun _ _ _ => rfl) (Nat.le_refl _) (Nat.le_refl _)
      · exact AW.sub [] rfl (kX8_lesserIsLike_B78 l E n hn ct hct ex M2)
    · exact AW.sub [] rfl (kX8_lesserIsLike_B78 l E n hn ct hct ex M2)
  · exact AW.sub [] rfl (kX8_lesserIsLike_B78 l E n hn ct hct ex M2)
set_option maxRecDepth 20000 in
set_option maxHeartbeats 4000000 in
theorem kX8_lesserIsLike_B60 (l : Launch) (E : Ev) (n : Nat) (hn : 3 ≤ n) (ct : Nat) (hct : 111 ≤ ct) (ex : Bool) (this : Nat) (x1 : Nat) (x2 : Int32) (M : Mem) (hthis : K0 this = (0, 8)) : AW l E fX8_lesserIsLike (fun _ => rmN n 0 0) (PQr E 0 0 ct ex enI) ct ex 0 0 60 [(0, .ref (ad E this)), (1, .ref (ad E x1)), (2, .int x2)] [] M (zX8_lesserIsLike_B60 this x1 x2 M) := by
  unfold zX8_lesserIsLike_B60
  refine AW.iconst (pc := 60) dX8_lesserIsLike_60 ci_0 ?_
  exact kX8_lesserIsLike_B61 l E n hn ct hct ex this x1 x2 0 M hthis
set_option maxRecDepth 20000 in
set_option maxHeartbeats 4000000 in
theorem kX8_lesserIsLike_B22 (l : Launch) (E : Ev) (n : Nat) (hn : 3 ≤ n) (ct : Nat) (hct : 111 ≤ ct) (ex : Bool) (this : Nat) (x1 : Nat) (s0 : Int32) (M : Mem) (hthis : K0 this = (0, 8)) : AW l E fX8_lesserIsLike (fun _ => rmN n 0 0) (PQr E 0 0 ct ex enI) ct ex 0 0 22 [(0, .ref (ad E this)), (1, .ref (ad E x1))] [.int s0] M (zX8_lesserIsLike_B22 this x1 s0 M) := by
  unfold zX8_lesserIsLike_B22
  refine AW.istore_n (pc := 22) [1, 2, 0] [(0, .ref (ad E this)), (1, .ref (ad E x1)), (2, .int s0)] dX8_lesserIsLike_22 rfl (by decide) rfl ?_
  refine AW.aload_n (pc := 23) dX8_lesserIsLike_23 rfl 1 rfl ?_
  refine AW.chk (fun g1 => ?_)
  refine AW.getI (pc := 24) dX8_lesserIsLike_24 flX8_65 g1 (kct g1 rfl hct) ?_
  refine AW.iconst (pc := 27) dX8_lesserIsLike_27 ci_1 ?_
  refine AW.icmp_ne (pc := 28) 60 dX8_lesserIsLike_28 (by decide) (fun h2 => ?_) (fun h2 => ?_)
  · refine AW.aload_n (pc := 31) dX8_lesserIsLike_31 rfl 0 rfl ?_
    refine AW.bipush (pc := 32) dX8_lesserIsLike_32 cb_7 ?_
    refine AW.cV1i (pc := 34) dX8_lesserIsLike_34 mlX8_96 mbX8_asks rfl hthis (kct hthis rfl hct) (fun _ => okR_N (by omega)) (kX8_asks l E (n - 1) (by omega) ct hct ex this 7 M) (Nat.le_of_ble_eq_true rfl) (fun v3 M4 => ?_)
    refine AW.if_ne (pc := 37) 60 dX8_lesserIsLike_37 (by decide) (fun h5 => ?_) (fun h5 => ?_)
    · refine AW.aload_n (pc := 40) dX8_lesserIsLike_40 rfl 0 rfl ?_
      refine AW.iconst (pc := 41) dX8_lesserIsLike_41 ci_2 ?_
      refine AW.cV1i (pc := 42) dX8_lesserIsLike_42 mlX8_96 mbX8_asks rfl hthis (kct hthis rfl hct) (fun _ => okR_N (by omega)) (kX8_asks l E (n - 1) (by omega) ct hct ex this 2 M4) (Nat.le_of_ble_eq_true rfl) (fun v6 M7 => ?_)
      refine AW.if_ne (pc := 45) 60 dX8_lesserIsLike_45 (by decide) (fun h8 => ?_) (fun h8 => ?_)
      · refine AW.aload_n (pc := 48) dX8_lesserIsLike_48 rfl 0 rfl ?_
        refine AW.iconst (pc := 49) dX8_lesserIsLike_49 ci_3 ?_
        refine AW.cV1i (pc := 50) dX8_lesserIsLike_50 mlX8_96 mbX8_asks rfl hthis (kct hthis rfl hct) (fun _ => okR_N (by omega)) (kX8_asks l E (n - 1) (by omega) ct hct ex this 3 M7) (Nat.le_of_ble_eq_true rfl) (fun v9 M10 => ?_)
        refine AW.if_ne (pc := 53) 60 dX8_lesserIsLike_53 (by decide) (fun h11 => ?_) (fun h11 => ?_)
        · refine AW.iconst (pc := 56) dX8_lesserIsLike_56 ci_1 ?_
          refine AW.goto (pc := 57) 61 dX8_lesserIsLike_57 (by decide) ?_
          exact kX8_lesserIsLike_B61 l E n hn ct hct ex this x1 s0 1 M10 hthis
        · exact kX8_lesserIsLike_B60 l E n hn ct hct ex this x1 s0 M10 hthis
      · exact kX8_lesserIsLike_B60 l E n hn ct hct ex this x1 s0 M7 hthis
    · exact kX8_lesserIsLike_B60 l E n hn ct hct ex this x1 s0 M4 hthis
  · exact kX8_lesserIsLike_B60 l E n hn ct hct ex this x1 s0 M hthis
set_option maxRecDepth 20000 in
set_option maxHeartbeats 4000000 in
theorem kX8_lesserIsLike_B21 (l : Launch) (E : Ev) (n : Nat) (hn : 3 ≤ n) (ct : Nat) (hct : 111 ≤ ct) (ex : Bool) (this : Nat) (x1 : Nat) (M : Mem) (hthis : K0 this = (0, 8)) : AW l E fX8_lesserIsLike (fun _ => rmN n 0 0) (PQr E 0 0 ct ex enI) ct ex 0 0 21 [(0, .ref (ad E this)), (1, .ref (ad E x1))] [] M (zX8_lesserIsLike_B21 this x1 M) := by
  unfold zX8_lesserIsLike_B21
  refine AW.iconst (pc := 21) dX8_lesserIsLike_21 ci_0 ?_
  exact kX8_lesserIsLike_B22 l E n hn ct hct ex this x1 0 M hthis
set_option maxRecDepth 20000 in
set_option maxHeartbeats 4000000 in
theorem kX8_lesserIsLike (l : Launch) (E : Ev) (n : Nat) (hn : 3 ≤ n) (ct : Nat) (hct : 111 ≤ ct) (ex : Bool) (this : Nat) (x1 : Nat) (M : Mem) : AM l E n ct ex yX8_lesserIsLike fX8_lesserIsLike enI [.ref (ad E this), .ref (ad E x1)] M (zX8_lesserIsLike this x1 M) := by
  unfold zX8_lesserIsLike
  refine AM.of (by decide +kernel) ⟨rfl, rfl, rfl⟩ (Nat.le_of_ble_eq_true rfl) ?_
  refine AW.chk (fun hthis => ?_)
  refine AW.aload_n (pc := 0) dX8_lesserIsLike_0 rfl 1 rfl ?_
  refine AW.chk (fun g1 => ?_)
  refine AW.getI (pc := 1) dX8_lesserIsLike_1 flX8_62 g1 (kct g1 rfl hct) ?_
  refine AW.iconst (pc := 4) dX8_lesserIsLike_4 ci_1 ?_
  refine AW.icmp_ne (pc := 5) 21 dX8_lesserIsLike_5 (by decide) (fun h2 => ?_) (fun h2 => ?_)
  · refine AW.aload_n (pc := 8) dX8_lesserIsLike_8 rfl 0 rfl ?_
    refine AW.bipush (pc := 9) dX8_lesserIsLike_9 cb_6 ?_
    refine AW.cV1i (pc := 11) dX8_lesserIsLike_11 mlX8_96 mbX8_asks rfl hthis (kct hthis rfl hct) (fun _ => okR_N (by omega)) (kX8_asks l E (n - 1) (by omega) ct hct ex this 6 M) (Nat.le_of_ble_eq_true rfl) (fun v3 M4 => ?_)
    refine AW.if_ne (pc := 14) 21 dX8_lesserIsLike_14 (by decide) (fun h5 => ?_) (fun h5 => ?_)
    · refine AW.iconst (pc := 17) dX8_lesserIsLike_17 ci_1 ?_
      refine AW.goto (pc := 18) 22 dX8_lesserIsLike_18 (by decide) ?_
      exact kX8_lesserIsLike_B22 l E n hn ct hct ex this x1 1 M4 hthis
    · exact kX8_lesserIsLike_B21 l E n hn ct hct ex this x1 M4 hthis
  · exact kX8_lesserIsLike_B21 l E n hn ct hct ex this x1 M hthis
-- GateBox.searchSettings(LGateBox$Gate;II)V
def zX11_searchSettings_B126 (KK13 : Nat → Nat → Int32 → Int32 → Int32 → Mem → Option (Unit × Mem)) (this : Nat) (x1 : Nat) (x2 : Int32) (x3 : Int32) (x4 : Int32) (M : Mem) : Option (Unit × Mem) :=
  KK13 this x1 x2 x3 (x4 + 1) M
def zX11_searchSettings_B13 (KK13 : Nat → Nat → Int32 → Int32 → Int32 → Mem → Option (Unit × Mem)) (this : Nat) (x1 : Nat) (x2 : Int32) (x3 : Int32) (x4 : Int32) (M : Mem) : Option (Unit × Mem) :=
  if 176 ≤ x4 then
    some ((), M)
  else
    if mR M this 12 ≠ 0 then
    if K0 (mR M this 12) = (0, 9) then
    bnd (zX9_become (mR M this 12) x4 M) fun _ M3 =>
    if K0 x1 = (0, 4) then
    if mR M3 x1 0 ≠ 0 then
    if mR M3 this 12 ≠ 0 then
    if K0 (mR M3 x1 0) = (0, 8) then
    bnd (zX8_lesserIsLike (mR M3 x1 0) (mR M3 this 12) M3) fun v8 M9 =>
    if v8 = 0 then
      if mR M9 this 7 ≠ 0 then
      if mR M9 x1 0 ≠ 0 then
      if mR M9 this 12 ≠ 0 then
      if K0 (mR M9 this 7) = (0, 5) then
      bnd (zX5_begin (mR M9 this 7) (mR M9 x1 0) (mR M9 this 12) M9) fun _ M15 =>
      if mR M15 this 8 ≠ 0 then
      if mR M15 x1 1 ≠ 0 then
      if K0 (mR M15 x1 1) = (0, 0) then
      if K0 (mR M15 this 8) = (0, 10) then
      bnd (zX10_begin (mR M15 this 8) (mI M15 (mR M15 x1 1) 0) M15) fun _ M20 =>
      if mR M20 this 8 ≠ 0 then
      if K0 (mR M20 this 8) = (0, 10) then
      bnd (zX10_go (mR M20 this 8) x2 M20) fun _ M23 =>
      if mR M23 this 8 ≠ 0 then
      if K0 (mR M23 this 8) = (0, 10) then
      bnd (zX10_thousandthsAway (mR M23 this 8) M23) fun v26 M27 =>
      if x3 < v26 then
        zX11_searchSettings_B126 KK13 this x1 x2 x3 x4 M27
      else
        if mR M27 this 8 ≠ 0 then
        if K0 (mR M27 this 8) = (0, 10) then
        bnd (zX10_thousandthsGiven (mR M27 this 8) M27) fun v31 M32 =>
        if v31 ≤ (mI M32 this 14) then
          zX11_searchSettings_B126 KK13 this x1 x2 x3 x4 M32
        else
          lt (sI M32 this 13 x4) fun M35 =>
          if mR M35 this 8 ≠ 0 then
          if K0 (mR M35 this 8) = (0, 10) then
          bnd (zX10_thousandthsGiven (mR M35 this 8) M35) fun v37 M38 =>
          lt (sI M38 this 14 v37) fun M40 =>
          zX11_searchSettings_B126 KK13 this x1 x2 x3 x4 M40
          else none
          else none
        else none
        else none
      else none
      else none
      else none
      else none
      else none
      else none
      else none
      else none
      else none
      else none
      else none
      else none
    else
      zX11_searchSettings_B126 KK13 this x1 x2 x3 x4 M9
    else none
    else none
    else none
    else none
    else none
    else none
def zX11_searchSettings_L13 : Nat → Nat → Nat → Int32 → Int32 → Int32 → Mem → Option (Unit × Mem)
  | 0 => fun _ _ _ _ _ _ => none
  | k + 1 => zX11_searchSettings_B13 (zX11_searchSettings_L13 k)
def zX11_searchSettings (this : Nat) (x1 : Nat) (x2 : Int32) (x3 : Int32) (M : Mem) : Option (Unit × Mem) :=
  if K0 this = (0, 11) then
  lt (sI M this 13 (-1)) fun M1 =>
  lt (sI M1 this 14 (-1)) fun M2 =>
  zX11_searchSettings_L13 FU this x1 x2 x3 0 M2
  else none
set_option maxRecDepth 20000 in
set_option maxHeartbeats 4000000 in
theorem kX11_searchSettings_B126 (l : Launch) (E : Ev) (n : Nat) (hn : 7 ≤ n) (ct : Nat) (hct : 111 ≤ ct) (ex : Bool) (KK13 : Nat → Nat → Int32 → Int32 → Int32 → Mem → Option (Unit × Mem)) (hKK13 : ∀ (this : Nat) (x1 : Nat) (x2 : Int32) (x3 : Int32) (x4 : Int32) (M : Mem) (_ : K0 this = (0, 11)), AW l E fX11_searchSettings (fun _ => rmN n 0 0) (PQr E 0 0 ct ex enU) ct ex 0 0 13 [(0, .ref (ad E this)), (1, .ref (ad E x1)), (2, .int x2), (3, .int x3), (4, .int x4)] [] M (KK13 this x1 x2 x3 x4 M)) (this : Nat) (x1 : Nat) (x2 : Int32) (x3 : Int32) (x4 : Int32) (M : Mem) (hthis : K0 this = (0, 11)) : AW l E fX11_searchSettings (fun _ => rmN n 0 0) (PQr E 0 0 ct ex enU) ct ex 0 0 126 [(0, .ref (ad E this)), (1, .ref (ad E x1)), (2, .int x2), (3, .int x3), (4, .int x4)] [] M (zX11_searchSettings_B126 KK13 this x1 x2 x3 x4 M) := by
  unfold zX11_searchSettings_B126
  refine AW.iinc (pc := 126) (w := 4) [1, 2, 3, 4, 0] [(0, .ref (ad E this)), (1, .ref (ad E x1)), (2, .int x2), (3, .int x3), (4, .int (x4 + 1))] dX11_searchSettings_126 rfl (inc_1 _) (by decide) rfl ?_
  refine AW.goto (pc := 129) 13 dX11_searchSettings_129 (by decide) ?_
  exact hKK13 this x1 x2 x3 (x4 + 1) M hthis
set_option maxRecDepth 20000 in
set_option maxHeartbeats 4000000 in
theorem kX11_searchSettings_B13 (l : Launch) (E : Ev) (n : Nat) (hn : 7 ≤ n) (ct : Nat) (hct : 111 ≤ ct) (ex : Bool) (KK13 : Nat → Nat → Int32 → Int32 → Int32 → Mem → Option (Unit × Mem)) (hKK13 : ∀ (this : Nat) (x1 : Nat) (x2 : Int32) (x3 : Int32) (x4 : Int32) (M : Mem) (_ : K0 this = (0, 11)), AW l E fX11_searchSettings (fun _ => rmN n 0 0) (PQr E 0 0 ct ex enU) ct ex 0 0 13 [(0, .ref (ad E this)), (1, .ref (ad E x1)), (2, .int x2), (3, .int x3), (4, .int x4)] [] M (KK13 this x1 x2 x3 x4 M)) (this : Nat) (x1 : Nat) (x2 : Int32) (x3 : Int32) (x4 : Int32) (M : Mem) (hthis : K0 this = (0, 11)) : AW l E fX11_searchSettings (fun _ => rmN n 0 0) (PQr E 0 0 ct ex enU) ct ex 0 0 13 [(0, .ref (ad E this)), (1, .ref (ad E x1)), (2, .int x2), (3, .int x3), (4, .int x4)] [] M (zX11_searchSettings_B13 KK13 this x1 x2 x3 x4 M) := by
  unfold zX11_searchSettings_B13
  refine AW.iload (pc := 13) dX11_searchSettings_13 4 rfl ?_
  refine AW.sipush (pc := 15) dX11_searchSettings_15 cs_176 ?_
  refine AW.icmp_ge (pc := 18) 132 dX11_searchSettings_18 (by decide) (fun h1 => ?_) (fun h1 => ?_)
  · exact AW.vret (pc := 132) dX11_searchSettings_132 rfl (fun _ _ _ => rfl) (Nat.le_refl _) (Nat.le_refl _)
  · refine AW.aload_n (pc := 21) dX11_searchSettings_21 rfl 0 rfl ?_
    refine AW.chk (fun g2 => ?_)
    refine AW.getR (pc := 22) dX11_searchSettings_22 flX11_89 hthis (kct hthis rfl hct) g2 ?_
    refine AW.iload (pc := 25) dX11_searchSettings_25 4 rfl ?_
    refine AW.chk (fun g4 => ?_)
    refine AW.cV1v (pc := 27) dX11_searchSettings_27 mlX11_182 mbX9_become rfl g4 (kct g4 rfl hct) (fun _ => okR_N (by omega)) (kX9_become l E (n - 1) (by omega) ct hct ex (mR M this 12) x4 M) (Nat.le_of_ble_eq_true rfl) (fun _ M3 => ?_)
    refine AW.aload_n (pc := 30) dX11_searchSettings_30 rfl 1 rfl ?_
    refine AW.chk (fun g5 => ?_)
    refine AW.chk (fun g6 => ?_)
    refine AW.getR (pc := 31) dX11_searchSettings_31 flX11_43 g5 (kct g5 rfl hct) g6 ?_
    refine AW.aload_n (pc := 34) dX11_searchSettings_34 rfl 0 rfl ?_
    refine AW.chk (fun g7 => ?_)
    refine AW.getR (pc := 35) dX11_searchSettings_35 flX11_89 hthis (kct hthis rfl hct) g7 ?_
    refine AW.chk (fun g10 => ?_)
    refine AW.cV1i (pc := 38) dX11_searchSettings_38 mlX11_366 mbX8_lesserIsLike rfl g10 (kct g10 rfl hct) (fun _ => okR_N (by omega)) (kX8_lesserIsLike l E (n - 1) (by omega) ct hct ex (mR M3 x1 0) (mR M3 this 12) M3) (Nat.le_of_ble_eq_true rfl) (fun v8 M9 => ?_)
    refine AW.if_eq (pc := 41) 47 dX11_searchSettings_41 (by decide) (fun h11 => ?_) (fun h11 => ?_)
    · refine AW.aload_n (pc := 47) dX11_searchSettings_47 rfl 0 rfl ?_
      refine AW.chk (fun g12 => ?_)
      refine AW.getR (pc := 48) dX11_searchSettings_48 flX11_50 hthis (kct hthis rfl hct) g12 ?_
      refine AW.aload_n (pc := 51) dX11_searchSettings_51 rfl 1 rfl ?_
      refine AW.chk (fun g13 => ?_)
      refine AW.getR (pc := 52) dX11_searchSettings_52 flX11_43 g5 (kct g5 rfl hct) g13 ?_
      refine AW.aload_n (pc := 55) dX11_searchSettings_55 rfl 0 rfl ?_
      refine AW.chk (fun g14 => ?_)
      refine AW.getR (pc := 56) dX11_searchSettings_56 flX11_89 hthis (kct hthis rfl hct) g14 ?_
      refine AW.chk (fun g16 => ?_)
      refine AW.cV2v (pc := 59) dX11_searchSettings_59 mlX11_167 mbX5_begin rfl g16 (kct g16 rfl hct) (fun _ => okR_N (by omega)) (kX5_begin l E (n - 1) (by omega) ct hct ex (mR M9 this 7) (mR M9 x1 0) (mR M9 this 12) M9) (Nat.le_of_ble_eq_true rfl) (fun _ M15 => ?_)
      refine AW.aload_n (pc := 62) dX11_searchSettings_62 rfl 0 rfl ?_
      refine AW.chk (fun g17 => ?_)
      refine AW.getR (pc := 63) dX11_searchSettings_63 flX11_59 hthis (kct hthis rfl hct) g17 ?_
      refine AW.aload_n (pc := 66) dX11_searchSettings_66 rfl 1 rfl ?_
      refine AW.chk (fun g18 => ?_)
      refine AW.getR (pc := 67) dX11_searchSettings_67 flX11_125 g5 (kct g5 rfl hct) g18 ?_
      refine AW.chk (fun g19 => ?_)
      refine AW.getI (pc := 70) dX11_searchSettings_70 flX11_207 g19 (kct g19 rfl hct) ?_
      refine AW.chk (fun g21 => ?_)
      refine AW.cV1v (pc := 73) dX11_searchSettings_73 mlX11_236 mbX10_begin rfl g21 (kct g21 rfl hct) (fun _ => okR_N (by omega)) (kX10_begin l E (n - 1) (by omega) ct hct ex (mR M15 this 8) (mI M15 (mR M15 x1 1) 0) M15) (Nat.le_of_ble_eq_true rfl) (fun _ M20 => ?_)
      refine AW.aload_n (pc := 76) dX11_searchSettings_76 rfl 0 rfl ?_
      refine AW.chk (fun g22 => ?_)
      refine AW.getR (pc := 77) dX11_searchSettings_77 flX11_59 hthis (kct hthis rfl hct) g22 ?_
      refine AW.iload_n (pc := 80) dX11_searchSettings_80 rfl 2 rfl ?_
      refine AW.chk (fun g24 => ?_)
      refine AW.cV1v (pc := 81) dX11_searchSettings_81 mlX11_238 mbX10_go rfl g24 (kct g24 rfl hct) (fun _ => okR_N (by omega)) (kX10_go l E (n - 1) (by omega) ct hct ex (mR M20 this 8) x2 M20) (Nat.le_of_ble_eq_true rfl) (fun _ M23 => ?_)
      refine AW.aload_n (pc := 84) dX11_searchSettings_84 rfl 0 rfl ?_
      refine AW.chk (fun g25 => ?_)
      refine AW.getR (pc := 85) dX11_searchSettings_85 flX11_59 hthis (kct hthis rfl hct) g25 ?_
      refine AW.chk (fun g28 => ?_)
      refine AW.cV0i (pc := 88) dX11_searchSettings_88 mlX11_192 mbX10_thousandthsAway rfl g28 (kct g28 rfl hct) (fun _ => okR_N (by omega)) (kX10_thousandthsAway l E (n - 1) (by omega) ct hct ex (mR M23 this 8) M23) (Nat.le_of_ble_eq_true rfl) (fun v26 M27 => ?_)
      refine AW.iload_n (pc := 91) dX11_searchSettings_91 rfl 3 rfl ?_
      refine AW.icmp_gt (pc := 92) 126 dX11_searchSettings_92 (by decide) (fun h29 => ?_) (fun h29 => ?_)
      · exact kX11_searchSettings_B126 l E n hn ct hct ex KK13 hKK13 this x1 x2 x3 x4 M27 hthis
      · refine AW.aload_n (pc := 95) dX11_searchSettings_95 rfl 0 rfl ?_
        refine AW.chk (fun g30 => ?_)
        refine AW.getR (pc := 96) dX11_searchSettings_96 flX11_59 hthis (kct hthis rfl hct) g30 ?_
        refine AW.chk (fun g33 => ?_)
        refine AW.cV0i (pc := 99) dX11_searchSettings_99 mlX11_189 mbX10_thousandthsGiven rfl g33 (kct g33 rfl hct) (fun _ => okR_N (by omega)) (kX10_thousandthsGiven l E (n - 1) (by omega) ct hct ex (mR M27 this 8) M27) (Nat.le_of_ble_eq_true rfl) (fun v31 M32 => ?_)
        refine AW.aload_n (pc := 102) dX11_searchSettings_102 rfl 0 rfl ?_
        refine AW.getI (pc := 103) dX11_searchSettings_103 flX11_96 hthis (kct hthis rfl hct) ?_
        refine AW.icmp_le (pc := 106) 126 dX11_searchSettings_106 (by decide) (fun h34 => ?_) (fun h34 => ?_)
        · exact kX11_searchSettings_B126 l E n hn ct hct ex KK13 hKK13 this x1 x2 x3 x4 M32 hthis
        · refine AW.aload_n (pc := 109) dX11_searchSettings_109 rfl 0 rfl ?_
          refine AW.iload (pc := 110) dX11_searchSettings_110 4 rfl ?_
          refine AW.putI (pc := 112) dX11_searchSettings_112 flX11_93 hthis (kct hthis rfl hct) ?_
          refine AW.genM (fun M35 => ?_)
          refine AW.aload_n (pc := 115) dX11_searchSettings_115 rfl 0 rfl ?_
          refine AW.aload_n (pc := 116) dX11_searchSettings_116 rfl 0 rfl ?_
          refine AW.chk (fun g36 => ?_)
          refine AW.getR (pc := 117) dX11_searchSettings_117 flX11_59 hthis (kct hthis rfl hct) g36 ?_
          refine AW.chk (fun g39 => ?_)
          refine AW.cV0i (pc := 120) dX11_searchSettings_120 mlX11_189 mbX10_thousandthsGiven rfl g39 (kct g39 rfl hct) (fun _ => okR_N (by omega)) (kX10_thousandthsGiven l E (n - 1) (by omega) ct hct ex (mR M35 this 8) M35) (Nat.le_of_ble_eq_true rfl) (fun v37 M38 => ?_)
          refine AW.putI (pc := 123) dX11_searchSettings_123 flX11_96 hthis (kct hthis rfl hct) ?_
          refine AW.genM (fun M40 => ?_)
          exact kX11_searchSettings_B126 l E n hn ct hct ex KK13 hKK13 this x1 x2 x3 x4 M40 hthis
    · refine AW.goto (pc := 44) 126 dX11_searchSettings_44 (by decide) ?_
      exact kX11_searchSettings_B126 l E n hn ct hct ex KK13 hKK13 this x1 x2 x3 x4 M9 hthis
set_option maxRecDepth 20000 in
set_option maxHeartbeats 4000000 in
theorem kX11_searchSettings_L13 (l : Launch) (E : Ev) (n : Nat) (hn : 7 ≤ n) (ct : Nat) (hct : 111 ≤ ct) (ex : Bool) (k : Nat) : ∀ (this : Nat) (x1 : Nat) (x2 : Int32) (x3 : Int32) (x4 : Int32) (M : Mem) (_ : K0 this = (0, 11)), AW l E fX11_searchSettings (fun _ => rmN n 0 0) (PQr E 0 0 ct ex enU) ct ex 0 0 13 [(0, .ref (ad E this)), (1, .ref (ad E x1)), (2, .int x2), (3, .int x3), (4, .int x4)] [] M (zX11_searchSettings_L13 k this x1 x2 x3 x4 M) := by
  induction k with
  | zero => intro this x1 x2 x3 x4 M _; exact AW.none
  | succ k ih =>
    intro this x1 x2 x3 x4 M hthis
    exact kX11_searchSettings_B13 l E n hn ct hct ex (zX11_searchSettings_L13 k) ih this x1 x2 x3 x4 M hthis
set_option maxRecDepth 20000 in
set_option maxHeartbeats 4000000 in
theorem kX11_searchSettings (l : Launch) (E : Ev) (n : Nat) (hn : 7 ≤ n) (ct : Nat) (hct : 111 ≤ ct) (ex : Bool) (this : Nat) (x1 : Nat) (x2 : Int32) (x3 : Int32) (M : Mem) : AM l E n ct ex yX11_searchSettings fX11_searchSettings enU [.ref (ad E this), .ref (ad E x1), .int x2, .int x3] M (zX11_searchSettings this x1 x2 x3 M) := by
  unfold zX11_searchSettings
  refine AM.of (by decide +kernel) ⟨rfl, rfl, rfl⟩ (Nat.le_of_ble_eq_true rfl) ?_
  refine AW.chk (fun hthis => ?_)
  refine AW.aload_n (pc := 0) dX11_searchSettings_0 rfl 0 rfl ?_
  refine AW.iconst (pc := 1) dX11_searchSettings_1 ci_m1 ?_
  refine AW.putI (pc := 2) dX11_searchSettings_2 flX11_93 hthis (kct hthis rfl hct) ?_
  refine AW.genM (fun M1 => ?_)
  refine AW.aload_n (pc := 5) dX11_searchSettings_5 rfl 0 rfl ?_
  refine AW.iconst (pc := 6) dX11_searchSettings_6 ci_m1 ?_
  refine AW.putI (pc := 7) dX11_searchSettings_7 flX11_96 hthis (kct hthis rfl hct) ?_
  refine AW.genM (fun M2 => ?_)
  refine AW.iconst (pc := 10) dX11_searchSettings_10 ci_0 ?_
  refine AW.istore (pc := 11) [1, 2, 3, 4, 0] [(0, .ref (ad E this)), (1, .ref (ad E x1)), (2, .int x2), (3, .int x3), (4, .int 0)] dX11_searchSettings_11 (by decide) rfl ?_
  exact kX11_searchSettings_L13 l E n hn ct hct ex FU this x1 x2 x3 0 M2 hthis
-- GateBox.best(IIII)I
def zX11_best (this : Nat) (x1 : Int32) (x2 : Int32) (x3 : Int32) (x4 : Int32) (M : Mem) : Option ((Int32 ⊕ Nat) × Mem) :=
  if K0 this = (0, 11) then
  bndX (zX11_gateOf this x1 M) fun v1 M2 =>
  bndX (zX11_askKnown x4 1 M2) fun _ M3 =>
  bndX (zX11_askRange x2 0 60 M3) fun _ M4 =>
  bnd (zX11_searchSettings this v1 x2 x3 M4) fun _ M5 =>
  if x4 = 0 then
    some (.inl (mI M5 this 13), M5)
  else
    some (.inl (mI M5 this 14), M5)
  else none
set_option maxRecDepth 20000 in
set_option maxHeartbeats 4000000 in
theorem kX11_best (l : Launch) (E : Ev) (hst : l.stackTraces = false) (n : Nat) (hn : 8 ≤ n) (ct : Nat) (hct : 111 ≤ ct) (ex : Bool) (this : Nat) (x1 : Int32) (x2 : Int32) (x3 : Int32) (x4 : Int32) (M : Mem) : AMX l E n ct ex yX11_best fX11_best enI [.ref (ad E this), .int x1, .int x2, .int x3, .int x4] M (zX11_best this x1 x2 x3 x4 M) := by
  unfold zX11_best
  refine AMX.of (by decide +kernel) ⟨rfl, rfl, rfl⟩ (Nat.le_of_ble_eq_true rfl) ?_
  refine AW.chk (fun hthis => ?_)
  refine AW.aload_n (pc := 0) dX11_best_0 rfl 0 rfl ?_
  refine AW.iload_n (pc := 1) dX11_best_1 rfl 1 rfl ?_
  refine AW.xV1r (pc := 2) rfl dX11_best_2 mlX11_106 mbX11_gateOf rfl hthis (kct hthis rfl hct) (by omega) (kX11_gateOf l E hst (n - 1) (by omega) ct hct ex this x1 M) (Nat.le_of_ble_eq_true rfl) (fun v1 M2 => ?_)
  refine AW.astore (pc := 5) [1, 3, 4, 5, 0] [(0, .ref (ad E this)), (2, .int x2), (3, .int x3), (4, .int x4), (5, .ref (ad E v1))] dX11_best_5 (by decide) rfl ?_
  refine AW.iload (pc := 7) dX11_best_7 3 rfl ?_
  refine AW.iconst (pc := 9) dX11_best_9 ci_1 ?_
  refine AW.xS2v (pc := 10) rfl dX11_best_10 mlX11_134 mbX11_askKnown (by omega) (kX11_askKnown l E hst (n - 1) (by omega) ct hct ex x4 1 M2) (Nat.le_of_ble_eq_true rfl) (fun _ M3 => ?_)
  refine AW.iload_n (pc := 13) dX11_best_13 rfl 1 rfl ?_
  refine AW.iconst (pc := 14) dX11_best_14 ci_0 ?_
  refine AW.bipush (pc := 15) dX11_best_15 cb_60 ?_
  refine AW.xS3v (pc := 17) rfl dX11_best_17 mlX11_110 mbX11_askRange (by omega) (kX11_askRange l E hst (n - 1) (by omega) ct hct ex x2 0 60 M3) (Nat.le_of_ble_eq_true rfl) (fun _ M4 => ?_)
  refine AW.aload_n (pc := 20) dX11_best_20 rfl 0 rfl ?_
  refine AW.aload (pc := 21) dX11_best_21 4 rfl ?_
  refine AW.iload_n (pc := 23) dX11_best_23 rfl 1 rfl ?_
  refine AW.iload_n (pc := 24) dX11_best_24 rfl 2 rfl ?_
  refine AW.cV3v (pc := 25) dX11_best_25 mlX11_232 mbX11_searchSettings rfl hthis (kct hthis rfl hct) (fun r => okR_X (by omega) r) (kX11_searchSettings l E (n - 1) (by omega) ct hct ex this v1 x2 x3 M4) (Nat.le_of_ble_eq_true rfl) (fun _ M5 => ?_)
  refine AW.iload (pc := 28) dX11_best_28 3 rfl ?_
  refine AW.if_ne (pc := 30) 40 dX11_best_30 (by decide) (fun h6 => ?_) (fun h6 => ?_)
  · refine AW.aload_n (pc := 33) dX11_best_33 rfl 0 rfl ?_
    refine AW.getI (pc := 34) dX11_best_34 flX11_93 hthis (kct hthis rfl hct) ?_
    refine AW.goto (pc := 37) 44 dX11_best_37 (by decide) ?_
    exact AW.iret (pc := 44) dX11_best_44 rfl (fun _ _ _ => rfl) (Nat.le_refl _) (Nat.le_refl _)
  · refine AW.aload_n (pc := 40) dX11_best_40 rfl 0 rfl ?_
    refine AW.getI (pc := 41) dX11_best_41 flX11_96 hthis (kct hthis rfl hct) ?_
    exact AW.iret (pc := 44) dX11_best_44 rfl (fun _ _ _ => rfl) (Nat.le_refl _) (Nat.le_refl _)
-- GateBox.would(III)I
def zX11_would (this : Nat) (x1 : Int32) (x2 : Int32) (x3 : Int32) (M : Mem) : Option ((Int32 ⊕ Nat) × Mem) :=
  if K0 this = (0, 11) then
  bndX (zX11_gateOf this x1 M) fun v1 M2 =>
  bndX (zX11_askKnown x2 175 M2) fun _ M3 =>
  bndX (zX11_askRange x3 0 60 M3) fun _ M4 =>
  if mR M4 this 12 ≠ 0 then
  if K0 (mR M4 this 12) = (0, 9) then
  bnd (zX9_become (mR M4 this 12) x2 M4) fun _ M6 =>
  if mR M6 this 7 ≠ 0 then
  if K0 v1 = (0, 4) then
  if mR M6 v1 0 ≠ 0 then
  if mR M6 this 12 ≠ 0 then
  if K0 (mR M6 this 7) = (0, 5) then
  bnd (zX5_begin (mR M6 this 7) (mR M6 v1 0) (mR M6 this 12) M6) fun _ M12 =>
  if mR M12 this 8 ≠ 0 then
  if mR M12 v1 1 ≠ 0 then
  if K0 (mR M12 v1 1) = (0, 0) then
  if K0 (mR M12 this 8) = (0, 10) then
  bnd (zX10_begin (mR M12 this 8) (mI M12 (mR M12 v1 1) 0) M12) fun _ M17 =>
  if mR M17 this 8 ≠ 0 then
  if K0 (mR M17 this 8) = (0, 10) then
  bnd (zX10_go (mR M17 this 8) x3 M17) fun _ M20 =>
  if mR M20 this 8 ≠ 0 then
  if K0 (mR M20 this 8) = (0, 10) then
  bnd (zX10_thousandthsGiven (mR M20 this 8) M20) fun v23 M24 =>
  some (.inl v23, M24)
  else none
  else none
  else none
  else none
  else none
  else none
  else none
  else none
  else none
  else none
  else none
  else none
  else none
  else none
  else none
  else none
set_option maxRecDepth 20000 in
set_option maxHeartbeats 4000000 in
theorem kX11_would (l : Launch) (E : Ev) (hst : l.stackTraces = false) (n : Nat) (hn : 8 ≤ n) (ct : Nat) (hct : 111 ≤ ct) (ex : Bool) (this : Nat) (x1 : Int32) (x2 : Int32) (x3 : Int32) (M : Mem) : AMX l E n ct ex yX11_would fX11_would enI [.ref (ad E this), .int x1, .int x2, .int x3] M (zX11_would this x1 x2 x3 M) := by
  unfold zX11_would
  refine AMX.of (by decide +kernel) ⟨rfl, rfl, rfl⟩ (Nat.le_of_ble_eq_true rfl) ?_
  refine AW.chk (fun hthis => ?_)
  refine AW.aload_n (pc := 0) dX11_would_0 rfl 0 rfl ?_
  refine AW.iload_n (pc := 1) dX11_would_1 rfl 1 rfl ?_
  refine AW.xV1r (pc := 2) rfl dX11_would_2 mlX11_106 mbX11_gateOf rfl hthis (kct hthis rfl hct) (by omega) (kX11_gateOf l E hst (n - 1) (by omega) ct hct ex this x1 M) (Nat.le_of_ble_eq_true rfl) (fun v1 M2 => ?_)
  refine AW.astore (pc := 5) [1, 3, 4, 0] [(0, .ref (ad E this)), (2, .int x2), (3, .int x3), (4, .ref (ad E v1))] dX11_would_5 (by decide) rfl ?_
  refine AW.iload_n (pc := 7) dX11_would_7 rfl 1 rfl ?_
  refine AW.sipush (pc := 8) dX11_would_8 cs_175 ?_
  refine AW.xS2v (pc := 11) rfl dX11_would_11 mlX11_134 mbX11_askKnown (by omega) (kX11_askKnown l E hst (n - 1) (by omega) ct hct ex x2 175 M2) (Nat.le_of_ble_eq_true rfl) (fun _ M3 => ?_)
  refine AW.iload_n (pc := 14) dX11_would_14 rfl 2 rfl ?_
  refine AW.iconst (pc := 15) dX11_would_15 ci_0 ?_
  refine AW.bipush (pc := 16) dX11_would_16 cb_60 ?_
  refine AW.xS3v (pc := 18) rfl dX11_would_18 mlX11_110 mbX11_askRange (by omega) (kX11_askRange l E hst (n - 1) (by omega) ct hct ex x3 0 60 M3) (Nat.le_of_ble_eq_true rfl) (fun _ M4 => ?_)
  refine AW.aload_n (pc := 21) dX11_would_21 rfl 0 rfl ?_
  refine AW.chk (fun g5 => ?_)
  refine AW.getR (pc := 22) dX11_would_22 flX11_89 hthis (kct hthis rfl hct) g5 ?_
  refine AW.iload_n (pc := 25) dX11_would_25 rfl 1 rfl ?_
  refine AW.chk (fun g7 => ?_)
  refine AW.cV1v (pc := 26) dX11_would_26 mlX11_182 mbX9_become rfl g7 (kct g7 rfl hct) (fun r => okR_X (by omega) r) (kX9_become l E (n - 1) (by omega) ct hct ex (mR M4 this 12) x2 M4) (Nat.le_of_ble_eq_true rfl) (fun _ M6 => ?_)
  refine AW.aload_n (pc := 29) dX11_would_29 rfl 0 rfl ?_
  refine AW.chk (fun g8 => ?_)
  refine AW.getR (pc := 30) dX11_would_30 flX11_50 hthis (kct hthis rfl hct) g8 ?_
  refine AW.aload (pc := 33) dX11_would_33 3 rfl ?_
  refine AW.chk (fun g9 => ?_)
  refine AW.chk (fun g10 => ?_)
  refine AW.getR (pc := 35) dX11_would_35 flX11_43 g9 (kct g9 rfl hct) g10 ?_
  refine AW.aload_n (pc := 38) dX11_would_38 rfl 0 rfl ?_
  refine AW.chk (fun g11 => ?_)
  refine AW.getR (pc := 39) dX11_would_39 flX11_89 hthis (kct hthis rfl hct) g11 ?_
  refine AW.chk (fun g13 => ?_)
  refine AW.cV2v (pc := 42) dX11_would_42 mlX11_167 mbX5_begin rfl g13 (kct g13 rfl hct) (fun r => okR_X (by omega) r) (kX5_begin l E (n - 1) (by omega) ct hct ex (mR M6 this 7) (mR M6 v1 0) (mR M6 this 12) M6) (Nat.le_of_ble_eq_true rfl) (fun _ M12 => ?_)
  refine AW.aload_n (pc := 45) dX11_would_45 rfl 0 rfl ?_
  refine AW.chk (fun g14 => ?_)
  refine AW.getR (pc := 46) dX11_would_46 flX11_59 hthis (kct hthis rfl hct) g14 ?_
  refine AW.aload (pc := 49) dX11_would_49 3 rfl ?_
  refine AW.chk (fun g15 => ?_)
  refine AW.getR (pc := 51) dX11_would_51 flX11_125 g9 (kct g9 rfl hct) g15 ?_
  refine AW.chk (fun g16 => ?_)
  refine AW.getI (pc := 54) dX11_would_54 flX11_207 g16 (kct g16 rfl hct) ?_
  refine AW.chk (fun g18 => ?_)
  refine AW.cV1v (pc := 57) dX11_would_57 mlX11_236 mbX10_begin rfl g18 (kct g18 rfl hct) (fun r => okR_X (by omega) r) (kX10_begin l E (n - 1) (by omega) ct hct ex (mR M12 this 8) (mI M12 (mR M12 v1 1) 0) M12) (Nat.le_of_ble_eq_true rfl) (fun _ M17 => ?_)
  refine AW.aload_n (pc := 60) dX11_would_60 rfl 0 rfl ?_
  refine AW.chk (fun g19 => ?_)
  refine AW.getR (pc := 61) dX11_would_61 flX11_59 hthis (kct hthis rfl hct) g19 ?_
  refine AW.iload_n (pc := 64) dX11_would_64 rfl 2 rfl ?_
  refine AW.chk (fun g21 => ?_)
  refine AW.cV1v (pc := 65) dX11_would_65 mlX11_238 mbX10_go rfl g21 (kct g21 rfl hct) (fun r => okR_X (by omega) r) (kX10_go l E (n - 1) (by omega) ct hct ex (mR M17 this 8) x3 M17) (Nat.le_of_ble_eq_true rfl) (fun _ M20 => ?_)
  refine AW.aload_n (pc := 68) dX11_would_68 rfl 0 rfl ?_
  refine AW.chk (fun g22 => ?_)
  refine AW.getR (pc := 69) dX11_would_69 flX11_59 hthis (kct hthis rfl hct) g22 ?_
  refine AW.chk (fun g25 => ?_)
  refine AW.cV0i (pc := 72) dX11_would_72 mlX11_189 mbX10_thousandthsGiven rfl g25 (kct g25 rfl hct) (fun r => okR_X (by omega) r) (kX10_thousandthsGiven l E (n - 1) (by omega) ct hct ex (mR M20 this 8) M20) (Nat.le_of_ble_eq_true rfl) (fun v23 M24 => ?_)
  exact AW.iret (pc := 75) dX11_would_75 rfl (fun _ _ _ => rfl) (Nat.le_refl _) (Nat.le_refl _)
-- GateBox$Setting.becomeLike(LGateBox$Setting;)V
def zX9_becomeLike (this : Nat) (x1 : Nat) (M : Mem) : Option (Unit × Mem) :=
  if K0 this = (0, 9) then
  if K0 x1 = (0, 9) then
  lt (sI M this 0 (mI M x1 0)) fun M2 =>
  lt (sI M2 this 1 (mI M2 x1 1)) fun M3 =>
  lt (sI M3 this 2 (mI M3 x1 2)) fun M4 =>
  lt (sI M4 this 3 (mI M4 x1 3)) fun M5 =>
  some ((), M5)
  else none
  else none
set_option maxRecDepth 20000 in
set_option maxHeartbeats 4000000 in
theorem kX9_becomeLike (l : Launch) (E : Ev) (n : Nat) (hn : 1 ≤ n) (ct : Nat) (hct : 111 ≤ ct) (ex : Bool) (this : Nat) (x1 : Nat) (M : Mem) : AM l E n ct ex yX9_becomeLike fX9_becomeLike enU [.ref (ad E this), .ref (ad E x1)] M (zX9_becomeLike this x1 M) := by
  unfold zX9_becomeLike
  refine AM.of (by decide +kernel) ⟨rfl, rfl, rfl⟩ (Nat.le_of_ble_eq_true rfl) ?_
  refine AW.chk (fun hthis => ?_)
  refine AW.aload_n (pc := 0) dX9_becomeLike_0 rfl 0 rfl ?_
  refine AW.aload_n (pc := 1) dX9_becomeLike_1 rfl 1 rfl ?_
  refine AW.chk (fun g1 => ?_)
  refine AW.getI (pc := 2) dX9_becomeLike_2 flX9_9 g1 (kct g1 rfl hct) ?_
  refine AW.putI (pc := 5) dX9_becomeLike_5 flX9_9 hthis (kct hthis rfl hct) ?_
  refine AW.genM (fun M2 => ?_)
  refine AW.aload_n (pc := 8) dX9_becomeLike_8 rfl 0 rfl ?_
  refine AW.aload_n (pc := 9) dX9_becomeLike_9 rfl 1 rfl ?_
  refine AW.getI (pc := 10) dX9_becomeLike_10 flX9_15 g1 (kct g1 rfl hct) ?_
  refine AW.putI (pc := 13) dX9_becomeLike_13 flX9_15 hthis (kct hthis rfl hct) ?_
  refine AW.genM (fun M3 => ?_)
  refine AW.aload_n (pc := 16) dX9_becomeLike_16 rfl 0 rfl ?_
  refine AW.aload_n (pc := 17) dX9_becomeLike_17 rfl 1 rfl ?_
  refine AW.getI (pc := 18) dX9_becomeLike_18 flX9_18 g1 (kct g1 rfl hct) ?_
  refine AW.putI (pc := 21) dX9_becomeLike_21 flX9_18 hthis (kct hthis rfl hct) ?_
  refine AW.genM (fun M4 => ?_)
  refine AW.aload_n (pc := 24) dX9_becomeLike_24 rfl 0 rfl ?_
  refine AW.aload_n (pc := 25) dX9_becomeLike_25 rfl 1 rfl ?_
  refine AW.getI (pc := 26) dX9_becomeLike_26 flX9_21 g1 (kct g1 rfl hct) ?_
  refine AW.putI (pc := 29) dX9_becomeLike_29 flX9_21 hthis (kct hthis rfl hct) ?_
  refine AW.genM (fun M5 => ?_)
  exact AW.vret (pc := 32) dX9_becomeLike_32 rfl (fun _ _ _ => rfl) (Nat.le_refl _) (Nat.le_refl _)
-- GateBox.card(II)I
def zX11_card_B133 (KK36 : Nat → Int32 → Nat → Int32 → Int32 → Int32 → Mem → Option ((Int32 ⊕ Nat) × Mem)) (this : Nat) (x2 : Int32) (x3 : Nat) (x4 : Int32) (x5 : Int32) (x6 : Int32) (M : Mem) : Option ((Int32 ⊕ Nat) × Mem) :=
  KK36 this x2 x3 x4 x5 (x6 + 1) M
def zX11_card_B36 (KK36 : Nat → Int32 → Nat → Int32 → Int32 → Int32 → Mem → Option ((Int32 ⊕ Nat) × Mem)) (this : Nat) (x2 : Int32) (x3 : Nat) (x4 : Int32) (x5 : Int32) (x6 : Int32) (M : Mem) : Option ((Int32 ⊕ Nat) × Mem) :=
  if 11 ≤ x6 then
    some (.inl x4, M)
  else
    if mR M this 12 ≠ 0 then
    if K0 (mR M this 12) = (0, 9) then
    lt (sI M (mR M this 12) 0 (x6 - 1)) fun M4 =>
    if K0 x3 = (0, 4) then
    if mR M4 x3 0 ≠ 0 then
    if mR M4 this 12 ≠ 0 then
    if K0 (mR M4 x3 0) = (0, 8) then
    bnd (zX8_lesserCardIsLike (mR M4 x3 0) (mR M4 this 12) M4) fun v8 M9 =>
    if v8 = 0 then
      if mR M9 this 7 ≠ 0 then
      if mR M9 x3 0 ≠ 0 then
      if mR M9 this 12 ≠ 0 then
      if K0 (mR M9 this 7) = (0, 5) then
      bnd (zX5_begin (mR M9 this 7) (mR M9 x3 0) (mR M9 this 12) M9) fun _ M15 =>
      if mR M15 this 8 ≠ 0 then
      if mR M15 x3 1 ≠ 0 then
      if K0 (mR M15 x3 1) = (0, 0) then
      if K0 (mR M15 this 8) = (0, 10) then
      bnd (zX10_begin (mR M15 this 8) (mI M15 (mR M15 x3 1) 0) M15) fun _ M20 =>
      if mR M20 this 8 ≠ 0 then
      if K0 (mR M20 this 8) = (0, 10) then
      bnd (zX10_go (mR M20 this 8) x2 M20) fun _ M23 =>
      if mR M23 this 8 ≠ 0 then
      if K0 (mR M23 this 8) = (0, 10) then
      bnd (zX10_thousandthsGiven (mR M23 this 8) M23) fun v26 M27 =>
      if v26 ≤ x5 then
        zX11_card_B133 KK36 this x2 x3 x4 x5 x6 M27
      else
        if mR M27 this 8 ≠ 0 then
        if K0 (mR M27 this 8) = (0, 10) then
        bnd (zX10_thousandthsGiven (mR M27 this 8) M27) fun v31 M32 =>
        zX11_card_B133 KK36 this x2 x3 x6 v31 x6 M32
        else none
        else none
      else none
      else none
      else none
      else none
      else none
      else none
      else none
      else none
      else none
      else none
      else none
      else none
    else
      zX11_card_B133 KK36 this x2 x3 x4 x5 x6 M9
    else none
    else none
    else none
    else none
    else none
    else none
def zX11_card_L36 : Nat → Nat → Int32 → Nat → Int32 → Int32 → Int32 → Mem → Option ((Int32 ⊕ Nat) × Mem)
  | 0 => fun _ _ _ _ _ _ _ => none
  | k + 1 => zX11_card_B36 (zX11_card_L36 k)
def zX11_card (this : Nat) (x1 : Int32) (x2 : Int32) (M : Mem) : Option ((Int32 ⊕ Nat) × Mem) :=
  if K0 this = (0, 11) then
  bndX (zX11_gateOf this x1 M) fun v1 M2 =>
  bndX (zX11_askRange x2 0 60 M2) fun _ M3 =>
  if mR M3 this 12 ≠ 0 then
  if K0 v1 = (0, 4) then
  if mR M3 v1 0 ≠ 0 then
  if K0 (mR M3 v1 0) = (0, 8) then
  if mR M3 (mR M3 v1 0) 12 ≠ 0 then
  if K0 (mR M3 this 12) = (0, 9) then
  bnd (zX9_becomeLike (mR M3 this 12) (mR M3 (mR M3 v1 0) 12) M3) fun _ M9 =>
  zX11_card_L36 FU this x2 v1 0 (-1) 0 M9
  else none
  else none
  else none
  else none
  else none
  else none
  else none
set_option maxRecDepth 20000 in
set_option maxHeartbeats 4000000 in
theorem kX11_card_B133 (l : Launch) (E : Ev) (hst : l.stackTraces = false) (n : Nat) (hn : 8 ≤ n) (ct : Nat) (hct : 111 ≤ ct) (ex : Bool) (KK36 : Nat → Int32 → Nat → Int32 → Int32 → Int32 → Mem → Option ((Int32 ⊕ Nat) × Mem)) (hKK36 : ∀ (this : Nat) (x2 : Int32) (x3 : Nat) (x4 : Int32) (x5 : Int32) (x6 : Int32) (M : Mem) (_ : K0 this = (0, 11)), AW l E fX11_card (RX n) (PQX E ct ex enI) ct ex 0 0 36 [(0, .ref (ad E this)), (2, .int x2), (3, .ref (ad E x3)), (4, .int x4), (5, .int x5), (6, .int x6)] [] M (KK36 this x2 x3 x4 x5 x6 M)) (this : Nat) (x2 : Int32) (x3 : Nat) (x4 : Int32) (x5 : Int32) (x6 : Int32) (M : Mem) (hthis : K0 this = (0, 11)) : AW l E fX11_card (RX n) (PQX E ct ex enI) ct ex 0 0 133 [(0, .ref (ad E this)), (2, .int x2), (3, .ref (ad E x3)), (4, .int x4), (5, .int x5), (6, .int x6)] [] M (zX11_card_B133 KK36 this x2 x3 x4 x5 x6 M) := by
  unfold zX11_card_B133
  refine AW.iinc (pc := 133) (w := 5) [1, 2, 3, 4, 5, 0] [(0, .ref (ad E this)), (2, .int x2), (3, .ref (ad E x3)), (4, .int x4), (5, .int x5), (6, .int (x6 + 1))] dX11_card_133 rfl (inc_1 _) (by decide) rfl ?_
  refine AW.goto (pc := 136) 36 dX11_card_136 (by decide) ?_
  exact hKK36 this x2 x3 x4 x5 (x6 + 1) M hthis
set_option maxRecDepth 20000 in
set_option maxHeartbeats 4000000 in
theorem kX11_card_B36 (l : Launch) (E : Ev) (hst : l.stackTraces = false) (n : Nat) (hn : 8 ≤ n) (ct : Nat) (hct : 111 ≤ ct) (ex : Bool) (KK36 : Nat → Int32 → Nat → Int32 → Int32 → Int32 → Mem → Option ((Int32 ⊕ Nat) × Mem)) (hKK36 : ∀ (this : Nat) (x2 : Int32) (x3 : Nat) (x4 : Int32) (x5 : Int32) (x6 : Int32) (M : Mem) (_ : K0 this = (0, 11)), AW l E fX11_card (RX n) (PQX E ct ex enI) ct ex 0 0 36 [(0, .ref (ad E this)), (2, .int x2), (3, .ref (ad E x3)), (4, .int x4), (5, .int x5), (6, .int x6)] [] M (KK36 this x2 x3 x4 x5 x6 M)) (this : Nat) (x2 : Int32) (x3 : Nat) (x4 : Int32) (x5 : Int32) (x6 : Int32) (M : Mem) (hthis : K0 this = (0, 11)) : AW l E fX11_card (RX n) (PQX E ct ex enI) ct ex 0 0 36 [(0, .ref (ad E this)), (2, .int x2), (3, .ref (ad E x3)), (4, .int x4), (5, .int x5), (6, .int x6)] [] M (zX11_card_B36 KK36 this x2 x3 x4 x5 x6 M) := by
  unfold zX11_card_B36
  refine AW.iload (pc := 36) dX11_card_36 5 rfl ?_
  refine AW.bipush (pc := 38) dX11_card_38 cb_11 ?_
  refine AW.icmp_ge (pc := 40) 139 dX11_card_40 (by decide) (fun h1 => ?_) (fun h1 => ?_)
  · refine AW.iload (pc := 139) dX11_card_139 3 rfl ?_
    exact AW.iret (pc := 141) dX11_card_141 rfl (fun _ _ _ => rfl) (Nat.le_refl _) (Nat.le_refl _)
  · refine AW.aload_n (pc := 43) dX11_card_43 rfl 0 rfl ?_
    refine AW.chk (fun g2 => ?_)
    refine AW.getR (pc := 44) dX11_card_44 flX11_89 hthis (kct hthis rfl hct) g2 ?_
    refine AW.iload (pc := 47) dX11_card_47 5 rfl ?_
    refine AW.iconst (pc := 49) dX11_card_49 ci_1 ?_
    refine AW.isub (pc := 50) dX11_card_50 ?_
    refine AW.chk (fun g3 => ?_)
    refine AW.putI (pc := 51) dX11_card_51 flX11_245 g3 (kct g3 rfl hct) ?_
    refine AW.genM (fun M4 => ?_)
    refine AW.aload_n (pc := 54) dX11_card_54 rfl 2 rfl ?_
    refine AW.chk (fun g5 => ?_)
    refine AW.chk (fun g6 => ?_)
    refine AW.getR (pc := 55) dX11_card_55 flX11_43 g5 (kct g5 rfl hct) g6 ?_
    refine AW.aload_n (pc := 58) dX11_card_58 rfl 0 rfl ?_
    refine AW.chk (fun g7 => ?_)
    refine AW.getR (pc := 59) dX11_card_59 flX11_89 hthis (kct hthis rfl hct) g7 ?_
    refine AW.chk (fun g10 => ?_)
    refine AW.cV1i (pc := 62) dX11_card_62 mlX11_248 mbX8_lesserCardIsLike rfl g10 (kct g10 rfl hct) (fun r => okR_X (by omega) r) (kX8_lesserCardIsLike l E (n - 1) (by omega) ct hct ex (mR M4 x3 0) (mR M4 this 12) M4) (Nat.le_of_ble_eq_true rfl) (fun v8 M9 => ?_)
    refine AW.if_eq (pc := 65) 71 dX11_card_65 (by decide) (fun h11 => ?_) (fun h11 => ?_)
    · refine AW.aload_n (pc := 71) dX11_card_71 rfl 0 rfl ?_
      refine AW.chk (fun g12 => ?_)
      refine AW.getR (pc := 72) dX11_card_72 flX11_50 hthis (kct hthis rfl hct) g12 ?_
      refine AW.aload_n (pc := 75) dX11_card_75 rfl 2 rfl ?_
      refine AW.chk (fun g13 => ?_)
      refine AW.getR (pc := 76) dX11_card_76 flX11_43 g5 (kct g5 rfl hct) g13 ?_
      refine AW.aload_n (pc := 79) dX11_card_79 rfl 0 rfl ?_
      refine AW.chk (fun g14 => ?_)
      refine AW.getR (pc := 80) dX11_card_80 flX11_89 hthis (kct hthis rfl hct) g14 ?_
      refine AW.chk (fun g16 => ?_)
      refine AW.cV2v (pc := 83) dX11_card_83 mlX11_167 mbX5_begin rfl g16 (kct g16 rfl hct) (fun r => okR_X (by omega) r) (kX5_begin l E (n - 1) (by omega) ct hct ex (mR M9 this 7) (mR M9 x3 0) (mR M9 this 12) M9) (Nat.le_of_ble_eq_true rfl) (fun _ M15 => ?_)
      refine AW.aload_n (pc := 86) dX11_card_86 rfl 0 rfl ?_
      refine AW.chk (fun g17 => ?_)
      refine AW.getR (pc := 87) dX11_card_87 flX11_59 hthis (kct hthis rfl hct) g17 ?_
      refine AW.aload_n (pc := 90) dX11_card_90 rfl 2 rfl ?_
      refine AW.chk (fun g18 => ?_)
      refine AW.getR (pc := 91) dX11_card_91 flX11_125 g5 (kct g5 rfl hct) g18 ?_
      refine AW.chk (fun g19 => ?_)
      refine AW.getI (pc := 94) dX11_card_94 flX11_207 g19 (kct g19 rfl hct) ?_
      refine AW.chk (fun g21 => ?_)
      refine AW.cV1v (pc := 97) dX11_card_97 mlX11_236 mbX10_begin rfl g21 (kct g21 rfl hct) (fun r => okR_X (by omega) r) (kX10_begin l E (n - 1) (by omega) ct hct ex (mR M15 this 8) (mI M15 (mR M15 x3 1) 0) M15) (Nat.le_of_ble_eq_true rfl) (fun _ M20 => ?_)
      refine AW.aload_n (pc := 100) dX11_card_100 rfl 0 rfl ?_
      refine AW.chk (fun g22 => ?_)
      refine AW.getR (pc := 101) dX11_card_101 flX11_59 hthis (kct hthis rfl hct) g22 ?_
      refine AW.iload_n (pc := 104) dX11_card_104 rfl 1 rfl ?_
      refine AW.chk (fun g24 => ?_)
      refine AW.cV1v (pc := 105) dX11_card_105 mlX11_238 mbX10_go rfl g24 (kct g24 rfl hct) (fun r => okR_X (by omega) r) (kX10_go l E (n - 1) (by omega) ct hct ex (mR M20 this 8) x2 M20) (Nat.le_of_ble_eq_true rfl) (fun _ M23 => ?_)
      refine AW.aload_n (pc := 108) dX11_card_108 rfl 0 rfl ?_
      refine AW.chk (fun g25 => ?_)
      refine AW.getR (pc := 109) dX11_card_109 flX11_59 hthis (kct hthis rfl hct) g25 ?_
      refine AW.chk (fun g28 => ?_)
      refine AW.cV0i (pc := 112) dX11_card_112 mlX11_189 mbX10_thousandthsGiven rfl g28 (kct g28 rfl hct) (fun r => okR_X (by omega) r) (kX10_thousandthsGiven l E (n - 1) (by omega) ct hct ex (mR M23 this 8) M23) (Nat.le_of_ble_eq_true rfl) (fun v26 M27 => ?_)
      refine AW.iload (pc := 115) dX11_card_115 4 rfl ?_
      refine AW.icmp_le (pc := 117) 133 dX11_card_117 (by decide) (fun h29 => ?_) (fun h29 => ?_)
      · exact kX11_card_B133 l E hst n hn ct hct ex KK36 hKK36 this x2 x3 x4 x5 x6 M27 hthis
      · refine AW.aload_n (pc := 120) dX11_card_120 rfl 0 rfl ?_
        refine AW.chk (fun g30 => ?_)
        refine AW.getR (pc := 121) dX11_card_121 flX11_59 hthis (kct hthis rfl hct) g30 ?_
        refine AW.chk (fun g33 => ?_)
        refine AW.cV0i (pc := 124) dX11_card_124 mlX11_189 mbX10_thousandthsGiven rfl g33 (kct g33 rfl hct) (fun r => okR_X (by omega) r) (kX10_thousandthsGiven l E (n - 1) (by omega) ct hct ex (mR M27 this 8) M27) (Nat.le_of_ble_eq_true rfl) (fun v31 M32 => ?_)
        refine AW.istore (pc := 127) [1, 2, 3, 0, 5] [(0, .ref (ad E this)), (2, .int x2), (3, .ref (ad E x3)), (5, .int v31), (6, .int x6)] dX11_card_127 (by decide) rfl ?_
        refine AW.iload (pc := 129) dX11_card_129 4 rfl ?_
        refine AW.istore (pc := 131) [1, 2, 3, 0, 4, 5] [(0, .ref (ad E this)), (2, .int x2), (3, .ref (ad E x3)), (4, .int x6), (5, .int v31), (6, .int x6)] dX11_card_131 (by decide) rfl ?_
        exact kX11_card_B133 l E hst n hn ct hct ex KK36 hKK36 this x2 x3 x6 v31 x6 M32 hthis
    · refine AW.goto (pc := 68) 133 dX11_card_68 (by decide) ?_
      exact kX11_card_B133 l E hst n hn ct hct ex KK36 hKK36 this x2 x3 x4 x5 x6 M9 hthis
set_option maxRecDepth 20000 in
set_option maxHeartbeats 4000000 in
theorem kX11_card_L36 (l : Launch) (E : Ev) (hst : l.stackTraces = false) (n : Nat) (hn : 8 ≤ n) (ct : Nat) (hct : 111 ≤ ct) (ex : Bool) (k : Nat) : ∀ (this : Nat) (x2 : Int32) (x3 : Nat) (x4 : Int32) (x5 : Int32) (x6 : Int32) (M : Mem) (_ : K0 this = (0, 11)), AW l E fX11_card (RX n) (PQX E ct ex enI) ct ex 0 0 36 [(0, .ref (ad E this)), (2, .int x2), (3, .ref (ad E x3)), (4, .int x4), (5, .int x5), (6, .int x6)] [] M (zX11_card_L36 k this x2 x3 x4 x5 x6 M) := by
  induction k with
  | zero => intro this x2 x3 x4 x5 x6 M _; exact AW.none
  | succ k ih =>
    intro this x2 x3 x4 x5 x6 M hthis
    exact kX11_card_B36 l E hst n hn ct hct ex (zX11_card_L36 k) ih this x2 x3 x4 x5 x6 M hthis
set_option maxRecDepth 20000 in
set_option maxHeartbeats 4000000 in
theorem kX11_card (l : Launch) (E : Ev) (hst : l.stackTraces = false) (n : Nat) (hn : 8 ≤ n) (ct : Nat) (hct : 111 ≤ ct) (ex : Bool) (this : Nat) (x1 : Int32) (x2 : Int32) (M : Mem) : AMX l E n ct ex yX11_card fX11_card enI [.ref (ad E this), .int x1, .int x2] M (zX11_card this x1 x2 M) := by
  unfold zX11_card
  refine AMX.of (by decide +kernel) ⟨rfl, rfl, rfl⟩ (Nat.le_of_ble_eq_true rfl) ?_
  refine AW.chk (fun hthis => ?_)
  refine AW.aload_n (pc := 0) dX11_card_0 rfl 0 rfl ?_
  refine AW.iload_n (pc := 1) dX11_card_1 rfl 1 rfl ?_
  refine AW.xV1r (pc := 2) rfl dX11_card_2 mlX11_106 mbX11_gateOf rfl hthis (kct hthis rfl hct) (by omega) (kX11_gateOf l E hst (n - 1) (by omega) ct hct ex this x1 M) (Nat.le_of_ble_eq_true rfl) (fun v1 M2 => ?_)
  refine AW.astore_n (pc := 5) [1, 3, 0] [(0, .ref (ad E this)), (2, .int x2), (3, .ref (ad E v1))] dX11_card_5 rfl (by decide) rfl ?_
  refine AW.iload_n (pc := 6) dX11_card_6 rfl 1 rfl ?_
  refine AW.iconst (pc := 7) dX11_card_7 ci_0 ?_
  refine AW.bipush (pc := 8) dX11_card_8 cb_60 ?_
  refine AW.xS3v (pc := 10) rfl dX11_card_10 mlX11_110 mbX11_askRange (by omega) (kX11_askRange l E hst (n - 1) (by omega) ct hct ex x2 0 60 M2) (Nat.le_of_ble_eq_true rfl) (fun _ M3 => ?_)
  refine AW.iconst (pc := 13) dX11_card_13 ci_0 ?_
  refine AW.istore (pc := 14) [1, 2, 3, 0] [(0, .ref (ad E this)), (2, .int x2), (3, .ref (ad E v1)), (4, .int 0)] dX11_card_14 (by decide) rfl ?_
  refine AW.iconst (pc := 16) dX11_card_16 ci_m1 ?_
  refine AW.istore (pc := 17) [1, 2, 3, 4, 0] [(0, .ref (ad E this)), (2, .int x2), (3, .ref (ad E v1)), (4, .int 0), (5, .int (-1))] dX11_card_17 (by decide) rfl ?_
  refine AW.aload_n (pc := 19) dX11_card_19 rfl 0 rfl ?_
  refine AW.chk (fun g4 => ?_)
  refine AW.getR (pc := 20) dX11_card_20 flX11_89 hthis (kct hthis rfl hct) g4 ?_
  refine AW.aload_n (pc := 23) dX11_card_23 rfl 2 rfl ?_
  refine AW.chk (fun g5 => ?_)
  refine AW.chk (fun g6 => ?_)
  refine AW.getR (pc := 24) dX11_card_24 flX11_43 g5 (kct g5 rfl hct) g6 ?_
  refine AW.chk (fun g7 => ?_)
  refine AW.chk (fun g8 => ?_)
  refine AW.getR (pc := 27) dX11_card_27 flX11_164 g7 (kct g7 rfl hct) g8 ?_
  refine AW.chk (fun g10 => ?_)
  refine AW.cV1v (pc := 30) dX11_card_30 mlX11_241 mbX9_becomeLike rfl g10 (kct g10 rfl hct) (fun r => okR_X (by omega) r) (kX9_becomeLike l E (n - 1) (by omega) ct hct ex (mR M3 this 12) (mR M3 (mR M3 v1 0) 12) M3) (Nat.le_of_ble_eq_true rfl) (fun _ M9 => ?_)
  refine AW.iconst (pc := 33) dX11_card_33 ci_0 ?_
  refine AW.istore (pc := 34) [1, 2, 3, 4, 5, 0] [(0, .ref (ad E this)), (2, .int x2), (3, .ref (ad E v1)), (4, .int 0), (5, .int (-1)), (6, .int 0)] dX11_card_34 (by decide) rfl ?_
  exact kX11_card_L36 l E hst n hn ct hct ex FU this x2 v1 0 (-1) 0 M9 hthis
-- GateBox.seeded(II)I
def zX11_seeded_B94 (KK40 : Nat → Int32 → Nat → Int32 → Int32 → Int32 → Mem → Option ((Int32 ⊕ Nat) × Mem)) (this : Nat) (x2 : Int32) (x3 : Nat) (x4 : Int32) (x5 : Int32) (x6 : Int32) (M : Mem) : Option ((Int32 ⊕ Nat) × Mem) :=
  KK40 this x2 x3 x4 x5 (x6 + 1) M
def zX11_seeded_B40 (KK40 : Nat → Int32 → Nat → Int32 → Int32 → Int32 → Mem → Option ((Int32 ⊕ Nat) × Mem)) (this : Nat) (x2 : Int32) (x3 : Nat) (x4 : Int32) (x5 : Int32) (x6 : Int32) (M : Mem) : Option ((Int32 ⊕ Nat) × Mem) :=
  if K0 x3 = (0, 4) then
  if mR M x3 0 ≠ 0 then
  if K0 (mR M x3 0) = (0, 8) then
  bnd (zX8_states (mR M x3 0) M) fun v3 M4 =>
  if v3 ≤ x6 then
    some (.inl x4, M4)
  else
    if mR M4 this 8 ≠ 0 then
    if K0 (mR M4 this 8) = (0, 10) then
    bnd (zX10_begin (mR M4 this 8) x6 M4) fun _ M8 =>
    if mR M8 this 8 ≠ 0 then
    if K0 (mR M8 this 8) = (0, 10) then
    bnd (zX10_go (mR M8 this 8) x2 M8) fun _ M11 =>
    if mR M11 this 8 ≠ 0 then
    if K0 (mR M11 this 8) = (0, 10) then
    bnd (zX10_thousandthsGiven (mR M11 this 8) M11) fun v14 M15 =>
    if v14 ≤ x5 then
      zX11_seeded_B94 KK40 this x2 x3 x4 x5 x6 M15
    else
      if mR M15 this 8 ≠ 0 then
      if K0 (mR M15 this 8) = (0, 10) then
      bnd (zX10_thousandthsGiven (mR M15 this 8) M15) fun v19 M20 =>
      zX11_seeded_B94 KK40 this x2 x3 x6 v19 x6 M20
      else none
      else none
    else none
    else none
    else none
    else none
    else none
    else none
  else none
  else none
  else none
def zX11_seeded_L40 : Nat → Nat → Int32 → Nat → Int32 → Int32 → Int32 → Mem → Option ((Int32 ⊕ Nat) × Mem)
  | 0 => fun _ _ _ _ _ _ _ => none
  | k + 1 => zX11_seeded_B40 (zX11_seeded_L40 k)
def zX11_seeded (this : Nat) (x1 : Int32) (x2 : Int32) (M : Mem) : Option ((Int32 ⊕ Nat) × Mem) :=
  if K0 this = (0, 11) then
  bndX (zX11_gateOf this x1 M) fun v1 M2 =>
  bndX (zX11_askRange x2 0 60 M2) fun _ M3 =>
  if mR M3 this 7 ≠ 0 then
  if K0 v1 = (0, 4) then
  if mR M3 v1 0 ≠ 0 then
  if K0 (mR M3 v1 0) = (0, 8) then
  if mR M3 (mR M3 v1 0) 12 ≠ 0 then
  if K0 (mR M3 this 7) = (0, 5) then
  bnd (zX5_begin (mR M3 this 7) (mR M3 v1 0) (mR M3 (mR M3 v1 0) 12) M3) fun _ M9 =>
  zX11_seeded_L40 FU this x2 v1 0 (-1) 0 M9
  else none
  else none
  else none
  else none
  else none
  else none
  else none
set_option maxRecDepth 20000 in
set_option maxHeartbeats 4000000 in
theorem kX11_seeded_B94 (l : Launch) (E : Ev) (hst : l.stackTraces = false) (n : Nat) (hn : 8 ≤ n) (ct : Nat) (hct : 111 ≤ ct) (ex : Bool) (KK40 : Nat → Int32 → Nat → Int32 → Int32 → Int32 → Mem → Option ((Int32 ⊕ Nat) × Mem)) (hKK40 : ∀ (this : Nat) (x2 : Int32) (x3 : Nat) (x4 : Int32) (x5 : Int32) (x6 : Int32) (M : Mem) (_ : K0 this = (0, 11)), AW l E fX11_seeded (RX n) (PQX E ct ex enI) ct ex 0 0 40 [(0, .ref (ad E this)), (2, .int x2), (3, .ref (ad E x3)), (4, .int x4), (5, .int x5), (6, .int x6)] [] M (KK40 this x2 x3 x4 x5 x6 M)) (this : Nat) (x2 : Int32) (x3 : Nat) (x4 : Int32) (x5 : Int32) (x6 : Int32) (M : Mem) (hthis : K0 this = (0, 11)) : AW l E fX11_seeded (RX n) (PQX E ct ex enI) ct ex 0 0 94 [(0, .ref (ad E this)), (2, .int x2), (3, .ref (ad E x3)), (4, .int x4), (5, .int x5), (6, .int x6)] [] M (zX11_seeded_B94 KK40 this x2 x3 x4 x5 x6 M) := by
  unfold zX11_seeded_B94
  refine AW.iinc (pc := 94) (w := 5) [1, 2, 3, 4, 5, 0] [(0, .ref (ad E this)), (2, .int x2), (3, .ref (ad E x3)), (4, .int x4), (5, .int x5), (6, .int (x6 + 1))] dX11_seeded_94 rfl (inc_1 _) (by decide) rfl ?_
  refine AW.goto (pc := 97) 40 dX11_seeded_97 (by decide) ?_
  exact hKK40 this x2 x3 x4 x5 (x6 + 1) M hthis
set_option maxRecDepth 20000 in
set_option maxHeartbeats 4000000 in
theorem kX11_seeded_B40 (l : Launch) (E : Ev) (hst : l.stackTraces = false) (n : Nat) (hn : 8 ≤ n) (ct : Nat) (hct : 111 ≤ ct) (ex : Bool) (KK40 : Nat → Int32 → Nat → Int32 → Int32 → Int32 → Mem → Option ((Int32 ⊕ Nat) × Mem)) (hKK40 : ∀ (this : Nat) (x2 : Int32) (x3 : Nat) (x4 : Int32) (x5 : Int32) (x6 : Int32) (M : Mem) (_ : K0 this = (0, 11)), AW l E fX11_seeded (RX n) (PQX E ct ex enI) ct ex 0 0 40 [(0, .ref (ad E this)), (2, .int x2), (3, .ref (ad E x3)), (4, .int x4), (5, .int x5), (6, .int x6)] [] M (KK40 this x2 x3 x4 x5 x6 M)) (this : Nat) (x2 : Int32) (x3 : Nat) (x4 : Int32) (x5 : Int32) (x6 : Int32) (M : Mem) (hthis : K0 this = (0, 11)) : AW l E fX11_seeded (RX n) (PQX E ct ex enI) ct ex 0 0 40 [(0, .ref (ad E this)), (2, .int x2), (3, .ref (ad E x3)), (4, .int x4), (5, .int x5), (6, .int x6)] [] M (zX11_seeded_B40 KK40 this x2 x3 x4 x5 x6 M) := by
  unfold zX11_seeded_B40
  refine AW.iload (pc := 40) dX11_seeded_40 5 rfl ?_
  refine AW.aload_n (pc := 42) dX11_seeded_42 rfl 2 rfl ?_
  refine AW.chk (fun g1 => ?_)
  refine AW.chk (fun g2 => ?_)
  refine AW.getR (pc := 43) dX11_seeded_43 flX11_43 g1 (kct g1 rfl hct) g2 ?_
  refine AW.chk (fun g5 => ?_)
  refine AW.cV0i (pc := 46) dX11_seeded_46 mlX11_160 mbX8_states rfl g5 (kct g5 rfl hct) (fun r => okR_X (by omega) r) (kX8_states l E (n - 1) (by omega) ct hct ex (mR M x3 0) M) (Nat.le_of_ble_eq_true rfl) (fun v3 M4 => ?_)
  refine AW.icmp_ge (pc := 49) 100 dX11_seeded_49 (by decide) (fun h6 => ?_) (fun h6 => ?_)
  · refine AW.iload (pc := 100) dX11_seeded_100 3 rfl ?_
    exact AW.iret (pc := 102) dX11_seeded_102 rfl (fun _ _ _ => rfl) (Nat.le_refl _) (Nat.le_refl _)
  · refine AW.aload_n (pc := 52) dX11_seeded_52 rfl 0 rfl ?_
    refine AW.chk (fun g7 => ?_)
    refine AW.getR (pc := 53) dX11_seeded_53 flX11_59 hthis (kct hthis rfl hct) g7 ?_
    refine AW.iload (pc := 56) dX11_seeded_56 5 rfl ?_
    refine AW.chk (fun g9 => ?_)
    refine AW.cV1v (pc := 58) dX11_seeded_58 mlX11_236 mbX10_begin rfl g9 (kct g9 rfl hct) (fun r => okR_X (by omega) r) (kX10_begin l E (n - 1) (by omega) ct hct ex (mR M4 this 8) x6 M4) (Nat.le_of_ble_eq_true rfl) (fun _ M8 => ?_)
    refine AW.aload_n (pc := 61) dX11_seeded_61 rfl 0 rfl ?_
    refine AW.chk (fun g10 => ?_)
    refine AW.getR (pc := 62) dX11_seeded_62 flX11_59 hthis (kct hthis rfl hct) g10 ?_
    refine AW.iload_n (pc := 65) dX11_seeded_65 rfl 1 rfl ?_
    refine AW.chk (fun g12 => ?_)
    refine AW.cV1v (pc := 66) dX11_seeded_66 mlX11_238 mbX10_go rfl g12 (kct g12 rfl hct) (fun r => okR_X (by omega) r) (kX10_go l E (n - 1) (by omega) ct hct ex (mR M8 this 8) x2 M8) (Nat.le_of_ble_eq_true rfl) (fun _ M11 => ?_)
    refine AW.aload_n (pc := 69) dX11_seeded_69 rfl 0 rfl ?_
    refine AW.chk (fun g13 => ?_)
    refine AW.getR (pc := 70) dX11_seeded_70 flX11_59 hthis (kct hthis rfl hct) g13 ?_
    refine AW.chk (fun g16 => ?_)
    refine AW.cV0i (pc := 73) dX11_seeded_73 mlX11_189 mbX10_thousandthsGiven rfl g16 (kct g16 rfl hct) (fun r => okR_X (by omega) r) (kX10_thousandthsGiven l E (n - 1) (by omega) ct hct ex (mR M11 this 8) M11) (Nat.le_of_ble_eq_true rfl) (fun v14 M15 => ?_)
    refine AW.iload (pc := 76) dX11_seeded_76 4 rfl ?_
    refine AW.icmp_le (pc := 78) 94 dX11_seeded_78 (by decide) (fun h17 => ?_) (fun h17 => ?_)
    · exact kX11_seeded_B94 l E hst n hn ct hct ex KK40 hKK40 this x2 x3 x4 x5 x6 M15 hthis
    · refine AW.aload_n (pc := 81) dX11_seeded_81 rfl 0 rfl ?_
      refine AW.chk (fun g18 => ?_)
      refine AW.getR (pc := 82) dX11_seeded_82 flX11_59 hthis (kct hthis rfl hct) g18 ?_
      refine AW.chk (fun g21 => ?_)
      refine AW.cV0i (pc := 85) dX11_seeded_85 mlX11_189 mbX10_thousandthsGiven rfl g21 (kct g21 rfl hct) (fun r => okR_X (by omega) r) (kX10_thousandthsGiven l E (n - 1) (by omega) ct hct ex (mR M15 this 8) M15) (Nat.le_of_ble_eq_true rfl) (fun v19 M20 => ?_)
      refine AW.istore (pc := 88) [1, 2, 3, 0, 5] [(0, .ref (ad E this)), (2, .int x2), (3, .ref (ad E x3)), (5, .int v19), (6, .int x6)] dX11_seeded_88 (by decide) rfl ?_
      refine AW.iload (pc := 90) dX11_seeded_90 4 rfl ?_
      refine AW.istore (pc := 92) [1, 2, 3, 0, 4, 5] [(0, .ref (ad E this)), (2, .int x2), (3, .ref (ad E x3)), (4, .int x6), (5, .int v19), (6, .int x6)] dX11_seeded_92 (by decide) rfl ?_
      exact kX11_seeded_B94 l E hst n hn ct hct ex KK40 hKK40 this x2 x3 x6 v19 x6 M20 hthis
set_option maxRecDepth 20000 in
set_option maxHeartbeats 4000000 in
theorem kX11_seeded_L40 (l : Launch) (E : Ev) (hst : l.stackTraces = false) (n : Nat) (hn : 8 ≤ n) (ct : Nat) (hct : 111 ≤ ct) (ex : Bool) (k : Nat) : ∀ (this : Nat) (x2 : Int32) (x3 : Nat) (x4 : Int32) (x5 : Int32) (x6 : Int32) (M : Mem) (_ : K0 this = (0, 11)), AW l E fX11_seeded (RX n) (PQX E ct ex enI) ct ex 0 0 40 [(0, .ref (ad E this)), (2, .int x2), (3, .ref (ad E x3)), (4, .int x4), (5, .int x5), (6, .int x6)] [] M (zX11_seeded_L40 k this x2 x3 x4 x5 x6 M) := by
  induction k with
  | zero => intro this x2 x3 x4 x5 x6 M _; exact AW.none
  | succ k ih =>
    intro this x2 x3 x4 x5 x6 M hthis
    exact kX11_seeded_B40 l E hst n hn ct hct ex (zX11_seeded_L40 k) ih this x2 x3 x4 x5 x6 M hthis
set_option maxRecDepth 20000 in
set_option maxHeartbeats 4000000 in
theorem kX11_seeded (l : Launch) (E : Ev) (hst : l.stackTraces = false) (n : Nat) (hn : 8 ≤ n) (ct : Nat) (hct : 111 ≤ ct) (ex : Bool) (this : Nat) (x1 : Int32) (x2 : Int32) (M : Mem) : AMX l E n ct ex yX11_seeded fX11_seeded enI [.ref (ad E this), .int x1, .int x2] M (zX11_seeded this x1 x2 M) := by
  unfold zX11_seeded
  refine AMX.of (by decide +kernel) ⟨rfl, rfl, rfl⟩ (Nat.le_of_ble_eq_true rfl) ?_
  refine AW.chk (fun hthis => ?_)
  refine AW.aload_n (pc := 0) dX11_seeded_0 rfl 0 rfl ?_
  refine AW.iload_n (pc := 1) dX11_seeded_1 rfl 1 rfl ?_
  refine AW.xV1r (pc := 2) rfl dX11_seeded_2 mlX11_106 mbX11_gateOf rfl hthis (kct hthis rfl hct) (by omega) (kX11_gateOf l E hst (n - 1) (by omega) ct hct ex this x1 M) (Nat.le_of_ble_eq_true rfl) (fun v1 M2 => ?_)
  refine AW.astore_n (pc := 5) [1, 3, 0] [(0, .ref (ad E this)), (2, .int x2), (3, .ref (ad E v1))] dX11_seeded_5 rfl (by decide) rfl ?_
  refine AW.iload_n (pc := 6) dX11_seeded_6 rfl 1 rfl ?_
  refine AW.iconst (pc := 7) dX11_seeded_7 ci_0 ?_
  refine AW.bipush (pc := 8) dX11_seeded_8 cb_60 ?_
  refine AW.xS3v (pc := 10) rfl dX11_seeded_10 mlX11_110 mbX11_askRange (by omega) (kX11_askRange l E hst (n - 1) (by omega) ct hct ex x2 0 60 M2) (Nat.le_of_ble_eq_true rfl) (fun _ M3 => ?_)
  refine AW.iconst (pc := 13) dX11_seeded_13 ci_0 ?_
  refine AW.istore (pc := 14) [1, 2, 3, 0] [(0, .ref (ad E this)), (2, .int x2), (3, .ref (ad E v1)), (4, .int 0)] dX11_seeded_14 (by decide) rfl ?_
  refine AW.iconst (pc := 16) dX11_seeded_16 ci_m1 ?_
  refine AW.istore (pc := 17) [1, 2, 3, 4, 0] [(0, .ref (ad E this)), (2, .int x2), (3, .ref (ad E v1)), (4, .int 0), (5, .int (-1))] dX11_seeded_17 (by decide) rfl ?_
  refine AW.aload_n (pc := 19) dX11_seeded_19 rfl 0 rfl ?_
  refine AW.chk (fun g4 => ?_)
  refine AW.getR (pc := 20) dX11_seeded_20 flX11_50 hthis (kct hthis rfl hct) g4 ?_
  refine AW.aload_n (pc := 23) dX11_seeded_23 rfl 2 rfl ?_
  refine AW.chk (fun g5 => ?_)
  refine AW.chk (fun g6 => ?_)
  refine AW.getR (pc := 24) dX11_seeded_24 flX11_43 g5 (kct g5 rfl hct) g6 ?_
  refine AW.aload_n (pc := 27) dX11_seeded_27 rfl 2 rfl ?_
  refine AW.getR (pc := 28) dX11_seeded_28 flX11_43 g5 (kct g5 rfl hct) g6 ?_
  refine AW.chk (fun g7 => ?_)
  refine AW.chk (fun g8 => ?_)
  refine AW.getR (pc := 31) dX11_seeded_31 flX11_164 g7 (kct g7 rfl hct) g8 ?_
  refine AW.chk (fun g10 => ?_)
  refine AW.cV2v (pc := 34) dX11_seeded_34 mlX11_167 mbX5_begin rfl g10 (kct g10 rfl hct) (fun r => okR_X (by omega) r) (kX5_begin l E (n - 1) (by omega) ct hct ex (mR M3 this 7) (mR M3 v1 0) (mR M3 (mR M3 v1 0) 12) M3) (Nat.le_of_ble_eq_true rfl) (fun _ M9 => ?_)
  refine AW.iconst (pc := 37) dX11_seeded_37 ci_0 ?_
  refine AW.istore (pc := 38) [1, 2, 3, 4, 5, 0] [(0, .ref (ad E this)), (2, .int x2), (3, .ref (ad E v1)), (4, .int 0), (5, .int (-1)), (6, .int 0)] dX11_seeded_38 (by decide) rfl ?_
  exact kX11_seeded_L40 l E hst n hn ct hct ex FU this x2 v1 0 (-1) 0 M9 hthis
-- GateBox$Rules.pays(II)Z
def zX8_pays (this : Nat) (x1 : Int32) (x2 : Int32) (M : Mem) : Option (Int32 × Mem) :=
  if K0 this = (0, 8) then
  if mR M this 8 ≠ 0 then
  bnd (zX11_at (mR M this 8) x1 M) fun v2 M3 =>
  if v2 < x2 then
    some (0, M3)
  else
    if mR M3 this 9 ≠ 0 then
    bnd (zX11_at (mR M3 this 9) x1 M3) fun v6 M7 =>
    if v6 < x2 then
      some (0, M7)
    else
      some (1, M7)
    else none
  else none
  else none
set_option maxRecDepth 20000 in
set_option maxHeartbeats 4000000 in
theorem kX8_pays (l : Launch) (E : Ev) (n : Nat) (hn : 2 ≤ n) (ct : Nat) (hct : 111 ≤ ct) (ex : Bool) (this : Nat) (x1 : Int32) (x2 : Int32) (M : Mem) : AM l E n ct ex yX8_pays fX8_pays enI [.ref (ad E this), .int x1, .int x2] M (zX8_pays this x1 x2 M) := by
  unfold zX8_pays
  refine AM.of (by decide +kernel) ⟨rfl, rfl, rfl⟩ (Nat.le_of_ble_eq_true rfl) ?_
  refine AW.chk (fun hthis => ?_)
  refine AW.aload_n (pc := 0) dX8_pays_0 rfl 0 rfl ?_
  refine AW.chk (fun g1 => ?_)
  refine AW.getR (pc := 1) dX8_pays_1 flX8_37 hthis (kct hthis rfl hct) g1 ?_
  refine AW.iload_n (pc := 4) dX8_pays_4 rfl 1 rfl ?_
  refine AW.cN2i (pc := 5) dX8_pays_5 nlX8_79 mbX11_at (fun _ => okR_N (by omega)) (kX11_at l E (n - 1) (by omega) ct hct ex (mR M this 8) x1 M) (Nat.le_of_ble_eq_true rfl) (fun v2 M3 => ?_)
  refine AW.iload_n (pc := 8) dX8_pays_8 rfl 2 rfl ?_
  refine AW.icmp_lt (pc := 9) 28 dX8_pays_9 (by decide) (fun h4 => ?_) (fun h4 => ?_)
  · refine AW.iconst (pc := 28) dX8_pays_28 ci_0 ?_
    exact AW.zret (pc := 29) dX8_pays_29 rfl (Or.inl rfl) (fun _ _ _ => rfl) (Nat.le_refl _) (Nat.le_refl _)
  · refine AW.aload_n (pc := 12) dX8_pays_12 rfl 0 rfl ?_
    refine AW.chk (fun g5 => ?_)
    refine AW.getR (pc := 13) dX8_pays_13 flX8_40 hthis (kct hthis rfl hct) g5 ?_
    refine AW.iload_n (pc := 16) dX8_pays_16 rfl 1 rfl ?_
    refine AW.cN2i (pc := 17) dX8_pays_17 nlX8_79 mbX11_at (fun _ => okR_N (by omega)) (kX11_at l E (n - 1) (by omega) ct hct ex (mR M3 this 9) x1 M3) (Nat.le_of_ble_eq_true rfl) (fun v6 M7 => ?_)
    refine AW.iload_n (pc := 20) dX8_pays_20 rfl 2 rfl ?_
    refine AW.icmp_lt (pc := 21) 28 dX8_pays_21 (by decide) (fun h8 => ?_) (fun h8 => ?_)
    · refine AW.iconst (pc := 28) dX8_pays_28 ci_0 ?_
      exact AW.zret (pc := 29) dX8_pays_29 rfl (Or.inl rfl) (fun _ _ _ => rfl) (Nat.le_refl _) (Nat.le_refl _)
    · refine AW.iconst (pc := 24) dX8_pays_24 ci_1 ?_
      refine AW.goto (pc := 25) 29 dX8_pays_25 (by decide) ?_
      exact AW.zret (pc := 29) dX8_pays_29 rfl (Or.inr rfl) (fun _ _ _ => rfl) (Nat.le_refl _) (Nat.le_refl _)
-- GateBox$Rules.payingOdds(I)I
def zX8_payingOdds_B34 (KK4 : Nat → Int32 → Int32 → Int32 → Mem → Option (Int32 × Mem)) (this : Nat) (x1 : Int32) (x3 : Int32) (s0 : Int32) (s1 : Int32) (M : Mem) : Option (Int32 × Mem) :=
  lt (s0 + s1) fun v1 =>
  KK4 this x1 v1 (x3 + 1) M
def zX8_payingOdds_B4 (KK4 : Nat → Int32 → Int32 → Int32 → Mem → Option (Int32 × Mem)) (this : Nat) (x1 : Int32) (x2 : Int32) (x3 : Int32) (M : Mem) : Option (Int32 × Mem) :=
  if (mI M this 0) ≤ x3 then
    some (x2, M)
  else
    bnd (zX8_pays this x3 x1 M) fun v2 M3 =>
    if v2 = 0 then
      zX8_payingOdds_B34 KK4 this x1 x3 x2 0 M3
    else
      if mR M3 this 7 ≠ 0 then
      bnd (zX11_at (mR M3 this 7) x3 M3) fun v6 M7 =>
      zX8_payingOdds_B34 KK4 this x1 x3 x2 v6 M7
      else none
def zX8_payingOdds_L4 : Nat → Nat → Int32 → Int32 → Int32 → Mem → Option (Int32 × Mem)
  | 0 => fun _ _ _ _ _ => none
  | k + 1 => zX8_payingOdds_B4 (zX8_payingOdds_L4 k)
def zX8_payingOdds (this : Nat) (x1 : Int32) (M : Mem) : Option (Int32 × Mem) :=
  if K0 this = (0, 8) then
  zX8_payingOdds_L4 FU this x1 0 0 M
  else none
set_option maxRecDepth 20000 in
set_option maxHeartbeats 4000000 in
theorem kX8_payingOdds_B34 (l : Launch) (E : Ev) (n : Nat) (hn : 3 ≤ n) (ct : Nat) (hct : 111 ≤ ct) (ex : Bool) (KK4 : Nat → Int32 → Int32 → Int32 → Mem → Option (Int32 × Mem)) (hKK4 : ∀ (this : Nat) (x1 : Int32) (x2 : Int32) (x3 : Int32) (M : Mem) (_ : K0 this = (0, 8)), AW l E fX8_payingOdds (fun _ => rmN n 0 0) (PQr E 0 0 ct ex enI) ct ex 0 0 4 [(0, .ref (ad E this)), (1, .int x1), (2, .int x2), (3, .int x3)] [] M (KK4 this x1 x2 x3 M)) (this : Nat) (x1 : Int32) (x3 : Int32) (s0 : Int32) (s1 : Int32) (M : Mem) (hthis : K0 this = (0, 8)) : AW l E fX8_payingOdds (fun _ => rmN n 0 0) (PQr E 0 0 ct ex enI) ct ex 0 0 34 [(0, .ref (ad E this)), (1, .int x1), (3, .int x3)] [.int s1, .int s0] M (zX8_payingOdds_B34 KK4 this x1 x3 s0 s1 M) := by
  unfold zX8_payingOdds_B34
  refine AW.iadd (pc := 34) dX8_payingOdds_34 ?_
  refine AW.genI (fun v1 => ?_)
  refine AW.istore_n (pc := 35) [1, 2, 0, 3] [(0, .ref (ad E this)), (1, .int x1), (2, .int v1), (3, .int x3)] dX8_payingOdds_35 rfl (by decide) rfl ?_
  refine AW.iinc (pc := 36) (w := 3) [1, 2, 3, 0] [(0, .ref (ad E this)), (1, .int x1), (2, .int v1), (3, .int (x3 + 1))] dX8_payingOdds_36 rfl (inc_1 _) (by decide) rfl ?_
  refine AW.goto (pc := 39) 4 dX8_payingOdds_39 (by decide) ?_
  exact hKK4 this x1 v1 (x3 + 1) M hthis
set_option maxRecDepth 20000 in
set_option maxHeartbeats 4000000 in
theorem kX8_payingOdds_B4 (l : Launch) (E : Ev) (n : Nat) (hn : 3 ≤ n) (ct : Nat) (hct : 111 ≤ ct) (ex : Bool) (KK4 : Nat → Int32 → Int32 → Int32 → Mem → Option (Int32 × Mem)) (hKK4 : ∀ (this : Nat) (x1 : Int32) (x2 : Int32) (x3 : Int32) (M : Mem) (_ : K0 this = (0, 8)), AW l E fX8_payingOdds (fun _ => rmN n 0 0) (PQr E 0 0 ct ex enI) ct ex 0 0 4 [(0, .ref (ad E this)), (1, .int x1), (2, .int x2), (3, .int x3)] [] M (KK4 this x1 x2 x3 M)) (this : Nat) (x1 : Int32) (x2 : Int32) (x3 : Int32) (M : Mem) (hthis : K0 this = (0, 8)) : AW l E fX8_payingOdds (fun _ => rmN n 0 0) (PQr E 0 0 ct ex enI) ct ex 0 0 4 [(0, .ref (ad E this)), (1, .int x1), (2, .int x2), (3, .int x3)] [] M (zX8_payingOdds_B4 KK4 this x1 x2 x3 M) := by
  unfold zX8_payingOdds_B4
  refine AW.iload_n (pc := 4) dX8_payingOdds_4 rfl 3 rfl ?_
  refine AW.aload_n (pc := 5) dX8_payingOdds_5 rfl 0 rfl ?_
  refine AW.getI (pc := 6) dX8_payingOdds_6 flX8_9 hthis (kct hthis rfl hct) ?_
  refine AW.icmp_ge (pc := 9) 42 dX8_payingOdds_9 (by decide) (fun h1 => ?_) (fun h1 => ?_)
  · refine AW.iload_n (pc := 42) dX8_payingOdds_42 rfl 2 rfl ?_
    exact AW.iret (pc := 43) dX8_payingOdds_43 rfl (fun _ _ _ => rfl) (Nat.le_refl _) (Nat.le_refl _)
  · refine AW.iload_n (pc := 12) dX8_payingOdds_12 rfl 2 rfl ?_
    refine AW.aload_n (pc := 13) dX8_payingOdds_13 rfl 0 rfl ?_
    refine AW.iload_n (pc := 14) dX8_payingOdds_14 rfl 3 rfl ?_
    refine AW.iload_n (pc := 15) dX8_payingOdds_15 rfl 1 rfl ?_
    refine AW.cV2i (pc := 16) dX8_payingOdds_16 mlX8_83 mbX8_pays rfl hthis (kct hthis rfl hct) (fun _ => okR_N (by omega)) (kX8_pays l E (n - 1) (by omega) ct hct ex this x3 x1 M) (Nat.le_of_ble_eq_true rfl) (fun v2 M3 => ?_)
    refine AW.if_eq (pc := 19) 33 dX8_payingOdds_19 (by decide) (fun h4 => ?_) (fun h4 => ?_)
    · refine AW.iconst (pc := 33) dX8_payingOdds_33 ci_0 ?_
      exact AW.sub [0, 1, 3] rfl (kX8_payingOdds_B34 l E n hn ct hct ex KK4 hKK4 this x1 x3 x2 0 M3 hthis)
    · refine AW.aload_n (pc := 22) dX8_payingOdds_22 rfl 0 rfl ?_
      refine AW.chk (fun g5 => ?_)
      refine AW.getR (pc := 23) dX8_payingOdds_23 flX8_33 hthis (kct hthis rfl hct) g5 ?_
      refine AW.iload_n (pc := 26) dX8_payingOdds_26 rfl 3 rfl ?_
      refine AW.cN2i (pc := 27) dX8_payingOdds_27 nlX8_79 mbX11_at (fun _ => okR_N (by omega)) (kX11_at l E (n - 1) (by omega) ct hct ex (mR M3 this 7) x3 M3) (Nat.le_of_ble_eq_true rfl) (fun v6 M7 => ?_)
      refine AW.goto (pc := 30) 34 dX8_payingOdds_30 (by decide) ?_
      exact AW.sub [0, 1, 3] rfl (kX8_payingOdds_B34 l E n hn ct hct ex KK4 hKK4 this x1 x3 x2 v6 M7 hthis)
set_option maxRecDepth 20000 in
set_option maxHeartbeats 4000000 in
theorem kX8_payingOdds_L4 (l : Launch) (E : Ev) (n : Nat) (hn : 3 ≤ n) (ct : Nat) (hct : 111 ≤ ct) (ex : Bool) (k : Nat) : ∀ (this : Nat) (x1 : Int32) (x2 : Int32) (x3 : Int32) (M : Mem) (_ : K0 this = (0, 8)), AW l E fX8_payingOdds (fun _ => rmN n 0 0) (PQr E 0 0 ct ex enI) ct ex 0 0 4 [(0, .ref (ad E this)), (1, .int x1), (2, .int x2), (3, .int x3)] [] M (zX8_payingOdds_L4 k this x1 x2 x3 M) := by
  induction k with
  | zero => intro this x1 x2 x3 M _; exact AW.none
  | succ k ih =>
    intro this x1 x2 x3 M hthis
    exact kX8_payingOdds_B4 l E n hn ct hct ex (zX8_payingOdds_L4 k) ih this x1 x2 x3 M hthis
set_option maxRecDepth 20000 in
set_option maxHeartbeats 4000000 in
theorem kX8_payingOdds (l : Launch) (E : Ev) (n : Nat) (hn : 3 ≤ n) (ct : Nat) (hct : 111 ≤ ct) (ex : Bool) (this : Nat) (x1 : Int32) (M : Mem) : AM l E n ct ex yX8_payingOdds fX8_payingOdds enI [.ref (ad E this), .int x1] M (zX8_payingOdds this x1 M) := by
  unfold zX8_payingOdds
  refine AM.of (by decide +kernel) ⟨rfl, rfl, rfl⟩ (Nat.le_of_ble_eq_true rfl) ?_
  refine AW.chk (fun hthis => ?_)
  refine AW.iconst (pc := 0) dX8_payingOdds_0 ci_0 ?_
  refine AW.istore_n (pc := 1) [1, 2, 0] [(0, .ref (ad E this)), (1, .int x1), (2, .int 0)] dX8_payingOdds_1 rfl (by decide) rfl ?_
  refine AW.iconst (pc := 2) dX8_payingOdds_2 ci_0 ?_
  refine AW.istore_n (pc := 3) [1, 2, 3, 0] [(0, .ref (ad E this)), (1, .int x1), (2, .int 0), (3, .int 0)] dX8_payingOdds_3 rfl (by decide) rfl ?_
  exact kX8_payingOdds_L4 l E n hn ct hct ex FU this x1 0 0 M hthis
-- GateBox$Rules.thousandths(I)I
def zX8_thousandths (this : Nat) (x1 : Int32) (M : Mem) : Option (Int32 × Mem) :=
  if K0 this = (0, 8) then
  if (mI M this 1) ≤ 0 then
    some (0, M)
  else
    if ¬ (mI M this 1) = 0 then
    some ((1000 * x1) / (mI M this 1), M)
    else none
  else none
set_option maxRecDepth 20000 in
set_option maxHeartbeats 4000000 in
theorem kX8_thousandths (l : Launch) (E : Ev) (n : Nat) (hn : 1 ≤ n) (ct : Nat) (hct : 111 ≤ ct) (ex : Bool) (this : Nat) (x1 : Int32) (M : Mem) : AM l E n ct ex yX8_thousandths fX8_thousandths enI [.ref (ad E this), .int x1] M (zX8_thousandths this x1 M) := by
  unfold zX8_thousandths
  refine AM.of (by decide +kernel) ⟨rfl, rfl, rfl⟩ (Nat.le_of_ble_eq_true rfl) ?_
  refine AW.chk (fun hthis => ?_)
  refine AW.aload_n (pc := 0) dX8_thousandths_0 rfl 0 rfl ?_
  refine AW.getI (pc := 1) dX8_thousandths_1 flX8_15 hthis (kct hthis rfl hct) ?_
  refine AW.if_le (pc := 4) 20 dX8_thousandths_4 (by decide) (fun h1 => ?_) (fun h1 => ?_)
  · refine AW.iconst (pc := 20) dX8_thousandths_20 ci_0 ?_
    exact AW.iret (pc := 21) dX8_thousandths_21 rfl (fun _ _ _ => rfl) (Nat.le_refl _) (Nat.le_refl _)
  · refine AW.sipush (pc := 7) dX8_thousandths_7 cs_1000 ?_
    refine AW.iload_n (pc := 10) dX8_thousandths_10 rfl 1 rfl ?_
    refine AW.imul (pc := 11) dX8_thousandths_11 ?_
    refine AW.aload_n (pc := 12) dX8_thousandths_12 rfl 0 rfl ?_
    refine AW.getI (pc := 13) dX8_thousandths_13 flX8_15 hthis (kct hthis rfl hct) ?_
    refine AW.chk (fun g2 => ?_)
    refine AW.idiv (pc := 16) dX8_thousandths_16 g2 ?_
    refine AW.goto (pc := 17) 21 dX8_thousandths_17 (by decide) ?_
    exact AW.iret (pc := 21) dX8_thousandths_21 rfl (fun _ _ _ => rfl) (Nat.le_refl _) (Nat.le_refl _)
-- GateBox$Rules.takenAt(I)I
def zX8_takenAt (this : Nat) (x1 : Int32) (M : Mem) : Option (Int32 × Mem) :=
  if K0 this = (0, 8) then
  bnd (zX8_payingOdds this x1 M) fun v1 M2 =>
  bnd (zX8_thousandths this (x1 * v1) M2) fun v3 M4 =>
  some (v3, M4)
  else none
set_option maxRecDepth 20000 in
set_option maxHeartbeats 4000000 in
theorem kX8_takenAt (l : Launch) (E : Ev) (n : Nat) (hn : 4 ≤ n) (ct : Nat) (hct : 111 ≤ ct) (ex : Bool) (this : Nat) (x1 : Int32) (M : Mem) : AM l E n ct ex yX8_takenAt fX8_takenAt enI [.ref (ad E this), .int x1] M (zX8_takenAt this x1 M) := by
  unfold zX8_takenAt
  refine AM.of (by decide +kernel) ⟨rfl, rfl, rfl⟩ (Nat.le_of_ble_eq_true rfl) ?_
  refine AW.chk (fun hthis => ?_)
  refine AW.aload_n (pc := 0) dX8_takenAt_0 rfl 0 rfl ?_
  refine AW.iload_n (pc := 1) dX8_takenAt_1 rfl 1 rfl ?_
  refine AW.aload_n (pc := 2) dX8_takenAt_2 rfl 0 rfl ?_
  refine AW.iload_n (pc := 3) dX8_takenAt_3 rfl 1 rfl ?_
  refine AW.cV1i (pc := 4) dX8_takenAt_4 mlX8_87 mbX8_payingOdds rfl hthis (kct hthis rfl hct) (fun _ => okR_N (by omega)) (kX8_payingOdds l E (n - 1) (by omega) ct hct ex this x1 M) (Nat.le_of_ble_eq_true rfl) (fun v1 M2 => ?_)
  refine AW.imul (pc := 7) dX8_takenAt_7 ?_
  refine AW.cV1i (pc := 8) dX8_takenAt_8 mlX8_91 mbX8_thousandths rfl hthis (kct hthis rfl hct) (fun _ => okR_N (by omega)) (kX8_thousandths l E (n - 1) (by omega) ct hct ex this (x1 * v1) M2) (Nat.le_of_ble_eq_true rfl) (fun v3 M4 => ?_)
  exact AW.iret (pc := 11) dX8_takenAt_11 rfl (fun _ _ _ => rfl) (Nat.le_refl _) (Nat.le_refl _)
-- GateBox.soonerOdds(LGateBox$Gate;I)I
def zX11_soonerOdds_B87 (KK23 : Nat → Nat → Int32 → Nat → Int32 → Int32 → Mem → Option (Int32 × Mem)) (this : Nat) (x1 : Nat) (x2 : Int32) (x3 : Nat) (x4 : Int32) (x5 : Int32) (M : Mem) : Option (Int32 × Mem) :=
  KK23 this x1 x2 x3 x4 (x5 + 1) M
def zX11_soonerOdds_B73 (KK23 : Nat → Nat → Int32 → Nat → Int32 → Int32 → Mem → Option (Int32 × Mem)) (this : Nat) (x1 : Nat) (x2 : Int32) (x3 : Nat) (x4 : Int32) (x5 : Int32) (M : Mem) : Option (Int32 × Mem) :=
  if K0 x3 = (0, 8) then
  if mR M x3 7 ≠ 0 then
  bnd (zX11_at (mR M x3 7) x5 M) fun v3 M4 =>
  lt (x4 + v3) fun v5 =>
  zX11_soonerOdds_B87 KK23 this x1 x2 x3 v5 x5 M4
  else none
  else none
def zX11_soonerOdds_B23 (KK23 : Nat → Nat → Int32 → Nat → Int32 → Int32 → Mem → Option (Int32 × Mem)) (this : Nat) (x1 : Nat) (x2 : Int32) (x3 : Nat) (x4 : Int32) (x5 : Int32) (M : Mem) : Option (Int32 × Mem) :=
  if K0 x3 = (0, 8) then
  if (mI M x3 0) ≤ x5 then
    some (x4, M)
  else
    if mR M this 7 ≠ 0 then
    if K0 x1 = (0, 4) then
    if mR M x1 1 ≠ 0 then
    if K0 (mR M x1 1) = (0, 0) then
    if K0 (mR M this 7) = (0, 5) then
    bnd (zX5_giftAt (mR M this 7) x5 (mI M (mR M x1 1) 0) 0 M) fun v7 M8 =>
    if v7 = (-1) then
      zX11_soonerOdds_B87 KK23 this x1 x2 x3 x4 x5 M8
    else
      bnd (zX8_pays x3 x5 x2 M8) fun v11 M12 =>
      if v11 = 0 then
        zX11_soonerOdds_B73 KK23 this x1 x2 x3 x4 x5 M12
      else
        if x2 ≤ v7 then
          zX11_soonerOdds_B87 KK23 this x1 x2 x3 x4 x5 M12
        else
          zX11_soonerOdds_B73 KK23 this x1 x2 x3 x4 x5 M12
    else none
    else none
    else none
    else none
    else none
  else none
def zX11_soonerOdds_L23 : Nat → Nat → Nat → Int32 → Nat → Int32 → Int32 → Mem → Option (Int32 × Mem)
  | 0 => fun _ _ _ _ _ _ _ => none
  | k + 1 => zX11_soonerOdds_B23 (zX11_soonerOdds_L23 k)
def zX11_soonerOdds (this : Nat) (x1 : Nat) (x2 : Int32) (M : Mem) : Option (Int32 × Mem) :=
  if K0 this = (0, 11) then
  if K0 x1 = (0, 4) then
  if mR M x1 0 ≠ 0 then
  if mR M this 7 ≠ 0 then
  if K0 (mR M x1 0) = (0, 8) then
  if mR M (mR M x1 0) 12 ≠ 0 then
  if K0 (mR M this 7) = (0, 5) then
  bnd (zX5_begin (mR M this 7) (mR M x1 0) (mR M (mR M x1 0) 12) M) fun _ M6 =>
  zX11_soonerOdds_L23 FU this x1 x2 (mR M x1 0) 0 0 M6
  else none
  else none
  else none
  else none
  else none
  else none
  else none
set_option maxRecDepth 20000 in
set_option maxHeartbeats 4000000 in
theorem kX11_soonerOdds_B87 (l : Launch) (E : Ev) (n : Nat) (hn : 4 ≤ n) (ct : Nat) (hct : 111 ≤ ct) (ex : Bool) (KK23 : Nat → Nat → Int32 → Nat → Int32 → Int32 → Mem → Option (Int32 × Mem)) (hKK23 : ∀ (this : Nat) (x1 : Nat) (x2 : Int32) (x3 : Nat) (x4 : Int32) (x5 : Int32) (M : Mem) (_ : K0 this = (0, 11)), AW l E fX11_soonerOdds (fun _ => rmN n 0 0) (PQr E 0 0 ct ex enI) ct ex 0 0 23 [(0, .ref (ad E this)), (1, .ref (ad E x1)), (2, .int x2), (3, .ref (ad E x3)), (4, .int x4), (5, .int x5)] [] M (KK23 this x1 x2 x3 x4 x5 M)) (this : Nat) (x1 : Nat) (x2 : Int32) (x3 : Nat) (x4 : Int32) (x5 : Int32) (M : Mem) (hthis : K0 this = (0, 11)) : AW l E fX11_soonerOdds (fun _ => rmN n 0 0) (PQr E 0 0 ct ex enI) ct ex 0 0 87 [(0, .ref (ad E this)), (1, .ref (ad E x1)), (2, .int x2), (3, .ref (ad E x3)), (4, .int x4), (5, .int x5)] [] M (zX11_soonerOdds_B87 KK23 this x1 x2 x3 x4 x5 M) := by
  unfold zX11_soonerOdds_B87
  refine AW.iinc (pc := 87) (w := 5) [1, 2, 3, 4, 5, 0] [(0, .ref (ad E this)), (1, .ref (ad E x1)), (2, .int x2), (3, .ref (ad E x3)), (4, .int x4), (5, .int (x5 + 1))] dX11_soonerOdds_87 rfl (inc_1 _) (by decide) rfl ?_
  refine AW.goto (pc := 90) 23 dX11_soonerOdds_90 (by decide) ?_
  exact hKK23 this x1 x2 x3 x4 (x5 + 1) M hthis
set_option maxRecDepth 20000 in
set_option maxHeartbeats 4000000 in
theorem kX11_soonerOdds_B73 (l : Launch) (E : Ev) (n : Nat) (hn : 4 ≤ n) (ct : Nat) (hct : 111 ≤ ct) (ex : Bool) (KK23 : Nat → Nat → Int32 → Nat → Int32 → Int32 → Mem → Option (Int32 × Mem)) (hKK23 : ∀ (this : Nat) (x1 : Nat) (x2 : Int32) (x3 : Nat) (x4 : Int32) (x5 : Int32) (M : Mem) (_ : K0 this = (0, 11)), AW l E fX11_soonerOdds (fun _ => rmN n 0 0) (PQr E 0 0 ct ex enI) ct ex 0 0 23 [(0, .ref (ad E this)), (1, .ref (ad E x1)), (2, .int x2), (3, .ref (ad E x3)), (4, .int x4), (5, .int x5)] [] M (KK23 this x1 x2 x3 x4 x5 M)) (this : Nat) (x1 : Nat) (x2 : Int32) (x3 : Nat) (x4 : Int32) (x5 : Int32) (M : Mem) (hthis : K0 this = (0, 11)) : AW l E fX11_soonerOdds (fun _ => rmN n 0 0) (PQr E 0 0 ct ex enI) ct ex 0 0 73 [(0, .ref (ad E this)), (1, .ref (ad E x1)), (2, .int x2), (3, .ref (ad E x3)), (4, .int x4), (5, .int x5)] [] M (zX11_soonerOdds_B73 KK23 this x1 x2 x3 x4 x5 M) := by
  unfold zX11_soonerOdds_B73
  refine AW.iload (pc := 73) dX11_soonerOdds_73 4 rfl ?_
  refine AW.aload_n (pc := 75) dX11_soonerOdds_75 rfl 3 rfl ?_
  refine AW.chk (fun g1 => ?_)
  refine AW.chk (fun g2 => ?_)
  refine AW.getR (pc := 76) dX11_soonerOdds_76 flX11_151 g1 (kct g1 rfl hct) g2 ?_
  refine AW.iload (pc := 79) dX11_soonerOdds_79 5 rfl ?_
  refine AW.cS2i (pc := 81) dX11_soonerOdds_81 mlX11_138 mbX11_at (fun _ => okR_N (by omega)) (kX11_at l E (n - 1) (by omega) ct hct ex (mR M x3 7) x5 M) (Nat.le_of_ble_eq_true rfl) (fun v3 M4 => ?_)
  refine AW.iadd (pc := 84) dX11_soonerOdds_84 ?_
  refine AW.genI (fun v5 => ?_)
  refine AW.istore (pc := 85) [1, 2, 3, 4, 0, 5] [(0, .ref (ad E this)), (1, .ref (ad E x1)), (2, .int x2), (3, .ref (ad E x3)), (4, .int v5), (5, .int x5)] dX11_soonerOdds_85 (by decide) rfl ?_
  exact kX11_soonerOdds_B87 l E n hn ct hct ex KK23 hKK23 this x1 x2 x3 v5 x5 M4 hthis
set_option maxRecDepth 20000 in
set_option maxHeartbeats 4000000 in
theorem kX11_soonerOdds_B23 (l : Launch) (E : Ev) (n : Nat) (hn : 4 ≤ n) (ct : Nat) (hct : 111 ≤ ct) (ex : Bool) (KK23 : Nat → Nat → Int32 → Nat → Int32 → Int32 → Mem → Option (Int32 × Mem)) (hKK23 : ∀ (this : Nat) (x1 : Nat) (x2 : Int32) (x3 : Nat) (x4 : Int32) (x5 : Int32) (M : Mem) (_ : K0 this = (0, 11)), AW l E fX11_soonerOdds (fun _ => rmN n 0 0) (PQr E 0 0 ct ex enI) ct ex 0 0 23 [(0, .ref (ad E this)), (1, .ref (ad E x1)), (2, .int x2), (3, .ref (ad E x3)), (4, .int x4), (5, .int x5)] [] M (KK23 this x1 x2 x3 x4 x5 M)) (this : Nat) (x1 : Nat) (x2 : Int32) (x3 : Nat) (x4 : Int32) (x5 : Int32) (M : Mem) (hthis : K0 this = (0, 11)) : AW l E fX11_soonerOdds (fun _ => rmN n 0 0) (PQr E 0 0 ct ex enI) ct ex 0 0 23 [(0, .ref (ad E this)), (1, .ref (ad E x1)), (2, .int x2), (3, .ref (ad E x3)), (4, .int x4), (5, .int x5)] [] M (zX11_soonerOdds_B23 KK23 this x1 x2 x3 x4 x5 M) := by
  unfold zX11_soonerOdds_B23
  refine AW.iload (pc := 23) dX11_soonerOdds_23 5 rfl ?_
  refine AW.aload_n (pc := 25) dX11_soonerOdds_25 rfl 3 rfl ?_
  refine AW.chk (fun g1 => ?_)
  refine AW.getI (pc := 26) dX11_soonerOdds_26 flX11_148 g1 (kct g1 rfl hct) ?_
  refine AW.icmp_ge (pc := 29) 93 dX11_soonerOdds_29 (by decide) (fun h2 => ?_) (fun h2 => ?_)
  · refine AW.iload (pc := 93) dX11_soonerOdds_93 4 rfl ?_
    exact AW.iret (pc := 95) dX11_soonerOdds_95 rfl (fun _ _ _ => rfl) (Nat.le_refl _) (Nat.le_refl _)
  · refine AW.aload_n (pc := 32) dX11_soonerOdds_32 rfl 0 rfl ?_
    refine AW.chk (fun g3 => ?_)
    refine AW.getR (pc := 33) dX11_soonerOdds_33 flX11_50 hthis (kct hthis rfl hct) g3 ?_
    refine AW.iload (pc := 36) dX11_soonerOdds_36 5 rfl ?_
    refine AW.aload_n (pc := 38) dX11_soonerOdds_38 rfl 1 rfl ?_
    refine AW.chk (fun g4 => ?_)
    refine AW.chk (fun g5 => ?_)
    refine AW.getR (pc := 39) dX11_soonerOdds_39 flX11_125 g4 (kct g4 rfl hct) g5 ?_
    refine AW.chk (fun g6 => ?_)
    refine AW.getI (pc := 42) dX11_soonerOdds_42 flX11_207 g6 (kct g6 rfl hct) ?_
    refine AW.iconst (pc := 45) dX11_soonerOdds_45 ci_0 ?_
    refine AW.chk (fun g9 => ?_)
    refine AW.cV3i (pc := 46) dX11_soonerOdds_46 mlX11_171 mbX5_giftAt rfl g9 (kct g9 rfl hct) (fun _ => okR_N (by omega)) (kX5_giftAt l E (n - 1) (by omega) ct hct ex (mR M this 7) x5 (mI M (mR M x1 1) 0) 0 M) (Nat.le_of_ble_eq_true rfl) (fun v7 M8 => ?_)
    refine AW.istore (pc := 49) [1, 2, 3, 4, 5, 6, 0] [(0, .ref (ad E this)), (1, .ref (ad E x1)), (2, .int x2), (3, .ref (ad E x3)), (4, .int x4), (5, .int x5), (6, .int v7)] dX11_soonerOdds_49 (by decide) rfl ?_
    refine AW.iload (pc := 51) dX11_soonerOdds_51 6 rfl ?_
    refine AW.iconst (pc := 53) dX11_soonerOdds_53 ci_m1 ?_
    refine AW.icmp_eq (pc := 54) 87 dX11_soonerOdds_54 (by decide) (fun h10 => ?_) (fun h10 => ?_)
    · exact AW.sub [0, 1, 2, 3, 4, 5] rfl (kX11_soonerOdds_B87 l E n hn ct hct ex KK23 hKK23 this x1 x2 x3 x4 x5 M8 hthis)
    · refine AW.aload_n (pc := 57) dX11_soonerOdds_57 rfl 3 rfl ?_
      refine AW.iload (pc := 58) dX11_soonerOdds_58 5 rfl ?_
      refine AW.iload_n (pc := 60) dX11_soonerOdds_60 rfl 2 rfl ?_
      refine AW.cV2i (pc := 61) dX11_soonerOdds_61 mlX11_369 mbX8_pays rfl g1 (kct g1 rfl hct) (fun _ => okR_N (by omega)) (kX8_pays l E (n - 1) (by omega) ct hct ex x3 x5 x2 M8) (Nat.le_of_ble_eq_true rfl) (fun v11 M12 => ?_)
      refine AW.if_eq (pc := 64) 73 dX11_soonerOdds_64 (by decide) (fun h13 => ?_) (fun h13 => ?_)
      · exact AW.sub [0, 1, 2, 3, 4, 5] rfl (kX11_soonerOdds_B73 l E n hn ct hct ex KK23 hKK23 this x1 x2 x3 x4 x5 M12 hthis)
      · refine AW.iload (pc := 67) dX11_soonerOdds_67 6 rfl ?_
        refine AW.iload_n (pc := 69) dX11_soonerOdds_69 rfl 2 rfl ?_
        refine AW.icmp_ge (pc := 70) 87 dX11_soonerOdds_70 (by decide) (fun h14 => ?_) (fun h14 => ?_)
        · exact AW.sub [0, 1, 2, 3, 4, 5] rfl (kX11_soonerOdds_B87 l E n hn ct hct ex KK23 hKK23 this x1 x2 x3 x4 x5 M12 hthis)
        · exact AW.sub [0, 1, 2, 3, 4, 5] rfl (kX11_soonerOdds_B73 l E n hn ct hct ex KK23 hKK23 this x1 x2 x3 x4 x5 M12 hthis)
set_option maxRecDepth 20000 in
set_option maxHeartbeats 4000000 in
theorem kX11_soonerOdds_L23 (l : Launch) (E : Ev) (n : Nat) (hn : 4 ≤ n) (ct : Nat) (hct : 111 ≤ ct) (ex : Bool) (k : Nat) : ∀ (this : Nat) (x1 : Nat) (x2 : Int32) (x3 : Nat) (x4 : Int32) (x5 : Int32) (M : Mem) (_ : K0 this = (0, 11)), AW l E fX11_soonerOdds (fun _ => rmN n 0 0) (PQr E 0 0 ct ex enI) ct ex 0 0 23 [(0, .ref (ad E this)), (1, .ref (ad E x1)), (2, .int x2), (3, .ref (ad E x3)), (4, .int x4), (5, .int x5)] [] M (zX11_soonerOdds_L23 k this x1 x2 x3 x4 x5 M) := by
  induction k with
  | zero => intro this x1 x2 x3 x4 x5 M _; exact AW.none
  | succ k ih =>
    intro this x1 x2 x3 x4 x5 M hthis
    exact kX11_soonerOdds_B23 l E n hn ct hct ex (zX11_soonerOdds_L23 k) ih this x1 x2 x3 x4 x5 M hthis
set_option maxRecDepth 20000 in
set_option maxHeartbeats 4000000 in
theorem kX11_soonerOdds (l : Launch) (E : Ev) (n : Nat) (hn : 4 ≤ n) (ct : Nat) (hct : 111 ≤ ct) (ex : Bool) (this : Nat) (x1 : Nat) (x2 : Int32) (M : Mem) : AM l E n ct ex yX11_soonerOdds fX11_soonerOdds enI [.ref (ad E this), .ref (ad E x1), .int x2] M (zX11_soonerOdds this x1 x2 M) := by
  unfold zX11_soonerOdds
  refine AM.of (by decide +kernel) ⟨rfl, rfl, rfl⟩ (Nat.le_of_ble_eq_true rfl) ?_
  refine AW.chk (fun hthis => ?_)
  refine AW.aload_n (pc := 0) dX11_soonerOdds_0 rfl 1 rfl ?_
  refine AW.chk (fun g1 => ?_)
  refine AW.chk (fun g2 => ?_)
  refine AW.getR (pc := 1) dX11_soonerOdds_1 flX11_43 g1 (kct g1 rfl hct) g2 ?_
  refine AW.astore_n (pc := 4) [1, 2, 3, 0] [(0, .ref (ad E this)), (1, .ref (ad E x1)), (2, .int x2), (3, .ref (ad E (mR M x1 0)))] dX11_soonerOdds_4 rfl (by decide) rfl ?_
  refine AW.aload_n (pc := 5) dX11_soonerOdds_5 rfl 0 rfl ?_
  refine AW.chk (fun g3 => ?_)
  refine AW.getR (pc := 6) dX11_soonerOdds_6 flX11_50 hthis (kct hthis rfl hct) g3 ?_
  refine AW.aload_n (pc := 9) dX11_soonerOdds_9 rfl 3 rfl ?_
  refine AW.aload_n (pc := 10) dX11_soonerOdds_10 rfl 3 rfl ?_
  refine AW.chk (fun g4 => ?_)
  refine AW.chk (fun g5 => ?_)
  refine AW.getR (pc := 11) dX11_soonerOdds_11 flX11_164 g4 (kct g4 rfl hct) g5 ?_
  refine AW.chk (fun g7 => ?_)
  refine AW.cV2v (pc := 14) dX11_soonerOdds_14 mlX11_167 mbX5_begin rfl g7 (kct g7 rfl hct) (fun _ => okR_N (by omega)) (kX5_begin l E (n - 1) (by omega) ct hct ex (mR M this 7) (mR M x1 0) (mR M (mR M x1 0) 12) M) (Nat.le_of_ble_eq_true rfl) (fun _ M6 => ?_)
  refine AW.iconst (pc := 17) dX11_soonerOdds_17 ci_0 ?_
  refine AW.istore (pc := 18) [1, 2, 3, 4, 0] [(0, .ref (ad E this)), (1, .ref (ad E x1)), (2, .int x2), (3, .ref (ad E (mR M x1 0))), (4, .int 0)] dX11_soonerOdds_18 (by decide) rfl ?_
  refine AW.iconst (pc := 20) dX11_soonerOdds_20 ci_0 ?_
  refine AW.istore (pc := 21) [1, 2, 3, 4, 5, 0] [(0, .ref (ad E this)), (1, .ref (ad E x1)), (2, .int x2), (3, .ref (ad E (mR M x1 0))), (4, .int 0), (5, .int 0)] dX11_soonerOdds_21 (by decide) rfl ?_
  exact kX11_soonerOdds_L23 l E n hn ct hct ex FU this x1 x2 (mR M x1 0) 0 0 M6 hthis
-- GateBox.price(III)I
def zX11_price_B65 (s0 : Nat) (s1 : Int32) (M : Mem) : Option ((Int32 ⊕ Nat) × Mem) :=
  if K0 s0 = (0, 8) then
  bnd (zX8_thousandths s0 s1 M) fun v1 M2 =>
  some (.inl v1, M2)
  else none
def zX11_price (this : Nat) (x1 : Int32) (x2 : Int32) (x3 : Int32) (M : Mem) : Option ((Int32 ⊕ Nat) × Mem) :=
  if K0 this = (0, 11) then
  bndX (zX11_gateOf this x1 M) fun v1 M2 =>
  bndX (zX11_askKnown x2 9 M2) fun _ M3 =>
  bndX (zX11_askKnown x3 2 M3) fun _ M4 =>
  if K0 v1 = (0, 4) then
  if mR M4 v1 0 ≠ 0 then
  if x3 = 0 then
    if K0 (mR M4 v1 0) = (0, 8) then
    bnd (zX8_takenAt (mR M4 v1 0) x2 M4) fun v8 M9 =>
    some (.inl v8, M9)
    else none
  else
    if x3 = 1 then
      bnd (zX11_soonerOdds this v1 x2 M4) fun v12 M13 =>
      zX11_price_B65 (mR M4 v1 0) v12 M13
    else
      if K0 (mR M4 v1 0) = (0, 8) then
      bnd (zX8_payingOdds (mR M4 v1 0) x2 M4) fun v15 M16 =>
      zX11_price_B65 (mR M4 v1 0) ((mI M4 (mR M4 v1 0) 1) - v15) M16
      else none
  else none
  else none
  else none
set_option maxRecDepth 20000 in
set_option maxHeartbeats 4000000 in
theorem kX11_price_B65 (l : Launch) (E : Ev) (hst : l.stackTraces = false) (n : Nat) (hn : 8 ≤ n) (ct : Nat) (hct : 111 ≤ ct) (ex : Bool) (s0 : Nat) (s1 : Int32) (M : Mem) : AW l E fX11_price (RX n) (PQX E ct ex enI) ct ex 0 0 65 [] [.int s1, .ref (ad E s0)] M (zX11_price_B65 s0 s1 M) := by
  unfold zX11_price_B65
  refine AW.chk (fun g3 => ?_)
  refine AW.cV1i (pc := 65) dX11_price_65 mlX11_265 mbX8_thousandths rfl g3 (kct g3 rfl hct) (fun r => okR_X (by omega) r) (kX8_thousandths l E (n - 1) (by omega) ct hct ex s0 s1 M) (Nat.le_of_ble_eq_true rfl) (fun v1 M2 => ?_)
  exact AW.iret (pc := 68) dX11_price_68 rfl (fun _ _ _ => rfl) (Nat.le_refl _) (Nat.le_refl _)
set_option maxRecDepth 20000 in
set_option maxHeartbeats 4000000 in
theorem kX11_price (l : Launch) (E : Ev) (hst : l.stackTraces = false) (n : Nat) (hn : 8 ≤ n) (ct : Nat) (hct : 111 ≤ ct) (ex : Bool) (this : Nat) (x1 : Int32) (x2 : Int32) (x3 : Int32) (M : Mem) : AMX l E n ct ex yX11_price fX11_price enI [.ref (ad E this), .int x1, .int x2, .int x3] M (zX11_price this x1 x2 x3 M) := by
  unfold zX11_price
  refine AMX.of (by decide +kernel) ⟨rfl, rfl, rfl⟩ (Nat.le_of_ble_eq_true rfl) ?_
  refine AW.chk (fun hthis => ?_)
  refine AW.aload_n (pc := 0) dX11_price_0 rfl 0 rfl ?_
  refine AW.iload_n (pc := 1) dX11_price_1 rfl 1 rfl ?_
  refine AW.xV1r (pc := 2) rfl dX11_price_2 mlX11_106 mbX11_gateOf rfl hthis (kct hthis rfl hct) (by omega) (kX11_gateOf l E hst (n - 1) (by omega) ct hct ex this x1 M) (Nat.le_of_ble_eq_true rfl) (fun v1 M2 => ?_)
  refine AW.astore (pc := 5) [1, 3, 4, 0] [(0, .ref (ad E this)), (2, .int x2), (3, .int x3), (4, .ref (ad E v1))] dX11_price_5 (by decide) rfl ?_
  refine AW.iload_n (pc := 7) dX11_price_7 rfl 1 rfl ?_
  refine AW.bipush (pc := 8) dX11_price_8 cb_9 ?_
  refine AW.xS2v (pc := 10) rfl dX11_price_10 mlX11_134 mbX11_askKnown (by omega) (kX11_askKnown l E hst (n - 1) (by omega) ct hct ex x2 9 M2) (Nat.le_of_ble_eq_true rfl) (fun _ M3 => ?_)
  refine AW.iload_n (pc := 13) dX11_price_13 rfl 2 rfl ?_
  refine AW.iconst (pc := 14) dX11_price_14 ci_2 ?_
  refine AW.xS2v (pc := 15) rfl dX11_price_15 mlX11_134 mbX11_askKnown (by omega) (kX11_askKnown l E hst (n - 1) (by omega) ct hct ex x3 2 M3) (Nat.le_of_ble_eq_true rfl) (fun _ M4 => ?_)
  refine AW.aload (pc := 18) dX11_price_18 3 rfl ?_
  refine AW.chk (fun g5 => ?_)
  refine AW.chk (fun g6 => ?_)
  refine AW.getR (pc := 20) dX11_price_20 flX11_43 g5 (kct g5 rfl hct) g6 ?_
  refine AW.astore (pc := 23) [1, 2, 3, 4, 0] [(0, .ref (ad E this)), (2, .int x2), (3, .int x3), (4, .ref (ad E v1)), (5, .ref (ad E (mR M4 v1 0)))] dX11_price_23 (by decide) rfl ?_
  refine AW.iload_n (pc := 25) dX11_price_25 rfl 2 rfl ?_
  refine AW.if_ne (pc := 26) 36 dX11_price_26 (by decide) (fun h7 => ?_) (fun h7 => ?_)
  · refine AW.aload (pc := 29) dX11_price_29 4 rfl ?_
    refine AW.iload_n (pc := 31) dX11_price_31 rfl 1 rfl ?_
    refine AW.chk (fun g10 => ?_)
    refine AW.cV1i (pc := 32) dX11_price_32 mlX11_252 mbX8_takenAt rfl g10 (kct g10 rfl hct) (fun r => okR_X (by omega) r) (kX8_takenAt l E (n - 1) (by omega) ct hct ex (mR M4 v1 0) x2 M4) (Nat.le_of_ble_eq_true rfl) (fun v8 M9 => ?_)
    exact AW.iret (pc := 35) dX11_price_35 rfl (fun _ _ _ => rfl) (Nat.le_refl _) (Nat.le_refl _)
  · refine AW.aload (pc := 36) dX11_price_36 4 rfl ?_
    refine AW.iload_n (pc := 38) dX11_price_38 rfl 2 rfl ?_
    refine AW.iconst (pc := 39) dX11_price_39 ci_1 ?_
    refine AW.icmp_ne (pc := 40) 53 dX11_price_40 (by decide) (fun h11 => ?_) (fun h11 => ?_)
    · refine AW.aload_n (pc := 43) dX11_price_43 rfl 0 rfl ?_
      refine AW.aload (pc := 44) dX11_price_44 3 rfl ?_
      refine AW.iload_n (pc := 46) dX11_price_46 rfl 1 rfl ?_
      refine AW.cV2i (pc := 47) dX11_price_47 mlX11_255 mbX11_soonerOdds rfl hthis (kct hthis rfl hct) (fun r => okR_X (by omega) r) (kX11_soonerOdds l E (n - 1) (by omega) ct hct ex this v1 x2 M4) (Nat.le_of_ble_eq_true rfl) (fun v12 M13 => ?_)
      refine AW.goto (pc := 50) 65 dX11_price_50 (by decide) ?_
      exact AW.sub [] rfl (kX11_price_B65 l E hst n hn ct hct ex (mR M4 v1 0) v12 M13)
    · refine AW.aload (pc := 53) dX11_price_53 4 rfl ?_
      refine AW.chk (fun g14 => ?_)
      refine AW.getI (pc := 55) dX11_price_55 flX11_259 g14 (kct g14 rfl hct) ?_
      refine AW.aload (pc := 58) dX11_price_58 4 rfl ?_
      refine AW.iload_n (pc := 60) dX11_price_60 rfl 1 rfl ?_
      refine AW.cV1i (pc := 61) dX11_price_61 mlX11_262 mbX8_payingOdds rfl g14 (kct g14 rfl hct) (fun r => okR_X (by omega) r) (kX8_payingOdds l E (n - 1) (by omega) ct hct ex (mR M4 v1 0) x2 M4) (Nat.le_of_ble_eq_true rfl) (fun v15 M16 => ?_)
      refine AW.isub (pc := 64) dX11_price_64 ?_
      exact AW.sub [] rfl (kX11_price_B65 l E hst n hn ct hct ex (mR M4 v1 0) ((mI M4 (mR M4 v1 0) 1) - v15) M16)
-- GateBox.priced(I)I
def zX11_priced_B38 (KK14 : Nat → Int32 → Int32 → Mem → Option ((Int32 ⊕ Nat) × Mem)) (x2 : Nat) (x3 : Int32) (x4 : Int32) (M : Mem) : Option ((Int32 ⊕ Nat) × Mem) :=
  KK14 x2 x3 (x4 + 1) M
def zX11_priced_B14 (KK14 : Nat → Int32 → Int32 → Mem → Option ((Int32 ⊕ Nat) × Mem)) (x2 : Nat) (x3 : Int32) (x4 : Int32) (M : Mem) : Option ((Int32 ⊕ Nat) × Mem) :=
  if 9 < x4 then
    some (.inl x3, M)
  else
    if K0 x2 = (0, 8) then
    bnd (zX8_takenAt x2 x4 M) fun v2 M3 =>
    bnd (zX8_takenAt x2 x3 M3) fun v5 M6 =>
    if v2 ≤ v5 then
      zX11_priced_B38 KK14 x2 x3 x4 M6
    else
      zX11_priced_B38 KK14 x2 x4 x4 M6
    else none
def zX11_priced_L14 : Nat → Nat → Int32 → Int32 → Mem → Option ((Int32 ⊕ Nat) × Mem)
  | 0 => fun _ _ _ _ => none
  | k + 1 => zX11_priced_B14 (zX11_priced_L14 k)
def zX11_priced (this : Nat) (x1 : Int32) (M : Mem) : Option ((Int32 ⊕ Nat) × Mem) :=
  if K0 this = (0, 11) then
  bndX (zX11_gateOf this x1 M) fun v1 M2 =>
  if K0 v1 = (0, 4) then
  if mR M2 v1 0 ≠ 0 then
  zX11_priced_L14 FU (mR M2 v1 0) 0 1 M2
  else none
  else none
  else none
set_option maxRecDepth 20000 in
set_option maxHeartbeats 4000000 in
theorem kX11_priced_B38 (l : Launch) (E : Ev) (hst : l.stackTraces = false) (n : Nat) (hn : 8 ≤ n) (ct : Nat) (hct : 111 ≤ ct) (ex : Bool) (KK14 : Nat → Int32 → Int32 → Mem → Option ((Int32 ⊕ Nat) × Mem)) (hKK14 : ∀ (x2 : Nat) (x3 : Int32) (x4 : Int32) (M : Mem), AW l E fX11_priced (RX n) (PQX E ct ex enI) ct ex 0 0 14 [(2, .ref (ad E x2)), (3, .int x3), (4, .int x4)] [] M (KK14 x2 x3 x4 M)) (x2 : Nat) (x3 : Int32) (x4 : Int32) (M : Mem) : AW l E fX11_priced (RX n) (PQX E ct ex enI) ct ex 0 0 38 [(2, .ref (ad E x2)), (3, .int x3), (4, .int x4)] [] M (zX11_priced_B38 KK14 x2 x3 x4 M) := by
  unfold zX11_priced_B38
  refine AW.iinc (pc := 38) (w := 2) [1, 2, 0] [(2, .ref (ad E x2)), (3, .int x3), (4, .int (x4 + 1))] dX11_priced_38 rfl (inc_1 _) (by decide) rfl ?_
  refine AW.goto (pc := 41) 14 dX11_priced_41 (by decide) ?_
  exact hKK14 x2 x3 (x4 + 1) M
set_option maxRecDepth 20000 in
set_option maxHeartbeats 4000000 in
theorem kX11_priced_B14 (l : Launch) (E : Ev) (hst : l.stackTraces = false) (n : Nat) (hn : 8 ≤ n) (ct : Nat) (hct : 111 ≤ ct) (ex : Bool) (KK14 : Nat → Int32 → Int32 → Mem → Option ((Int32 ⊕ Nat) × Mem)) (hKK14 : ∀ (x2 : Nat) (x3 : Int32) (x4 : Int32) (M : Mem), AW l E fX11_priced (RX n) (PQX E ct ex enI) ct ex 0 0 14 [(2, .ref (ad E x2)), (3, .int x3), (4, .int x4)] [] M (KK14 x2 x3 x4 M)) (x2 : Nat) (x3 : Int32) (x4 : Int32) (M : Mem) : AW l E fX11_priced (RX n) (PQX E ct ex enI) ct ex 0 0 14 [(2, .ref (ad E x2)), (3, .int x3), (4, .int x4)] [] M (zX11_priced_B14 KK14 x2 x3 x4 M) := by
  unfold zX11_priced_B14
  refine AW.iload (pc := 14) dX11_priced_14 2 rfl ?_
  refine AW.bipush (pc := 16) dX11_priced_16 cb_9 ?_
  refine AW.icmp_gt (pc := 18) 44 dX11_priced_18 (by decide) (fun h1 => ?_) (fun h1 => ?_)
  · refine AW.iload_n (pc := 44) dX11_priced_44 rfl 1 rfl ?_
    exact AW.iret (pc := 45) dX11_priced_45 rfl (fun _ _ _ => rfl) (Nat.le_refl _) (Nat.le_refl _)
  · refine AW.aload_n (pc := 21) dX11_priced_21 rfl 0 rfl ?_
    refine AW.iload (pc := 22) dX11_priced_22 2 rfl ?_
    refine AW.chk (fun g4 => ?_)
    refine AW.cV1i (pc := 24) dX11_priced_24 mlX11_252 mbX8_takenAt rfl g4 (kct g4 rfl hct) (fun r => okR_X (by omega) r) (kX8_takenAt l E (n - 1) (by omega) ct hct ex x2 x4 M) (Nat.le_of_ble_eq_true rfl) (fun v2 M3 => ?_)
    refine AW.aload_n (pc := 27) dX11_priced_27 rfl 0 rfl ?_
    refine AW.iload_n (pc := 28) dX11_priced_28 rfl 1 rfl ?_
    refine AW.cV1i (pc := 29) dX11_priced_29 mlX11_252 mbX8_takenAt rfl g4 (kct g4 rfl hct) (fun r => okR_X (by omega) r) (kX8_takenAt l E (n - 1) (by omega) ct hct ex x2 x3 M3) (Nat.le_of_ble_eq_true rfl) (fun v5 M6 => ?_)
    refine AW.icmp_le (pc := 32) 38 dX11_priced_32 (by decide) (fun h7 => ?_) (fun h7 => ?_)
    · exact kX11_priced_B38 l E hst n hn ct hct ex KK14 hKK14 x2 x3 x4 M6
    · refine AW.iload (pc := 35) dX11_priced_35 2 rfl ?_
      refine AW.istore_n (pc := 37) [1, 0, 2] [(2, .ref (ad E x2)), (3, .int x4), (4, .int x4)] dX11_priced_37 rfl (by decide) rfl ?_
      exact kX11_priced_B38 l E hst n hn ct hct ex KK14 hKK14 x2 x4 x4 M6
set_option maxRecDepth 20000 in
set_option maxHeartbeats 4000000 in
theorem kX11_priced_L14 (l : Launch) (E : Ev) (hst : l.stackTraces = false) (n : Nat) (hn : 8 ≤ n) (ct : Nat) (hct : 111 ≤ ct) (ex : Bool) (k : Nat) : ∀ (x2 : Nat) (x3 : Int32) (x4 : Int32) (M : Mem), AW l E fX11_priced (RX n) (PQX E ct ex enI) ct ex 0 0 14 [(2, .ref (ad E x2)), (3, .int x3), (4, .int x4)] [] M (zX11_priced_L14 k x2 x3 x4 M) := by
  induction k with
  | zero => intro x2 x3 x4 M; exact AW.none
  | succ k ih =>
    intro x2 x3 x4 M
    exact kX11_priced_B14 l E hst n hn ct hct ex (zX11_priced_L14 k) ih x2 x3 x4 M
set_option maxRecDepth 20000 in
set_option maxHeartbeats 4000000 in
theorem kX11_priced (l : Launch) (E : Ev) (hst : l.stackTraces = false) (n : Nat) (hn : 8 ≤ n) (ct : Nat) (hct : 111 ≤ ct) (ex : Bool) (this : Nat) (x1 : Int32) (M : Mem) : AMX l E n ct ex yX11_priced fX11_priced enI [.ref (ad E this), .int x1] M (zX11_priced this x1 M) := by
  unfold zX11_priced
  refine AMX.of (by decide +kernel) ⟨rfl, rfl, rfl⟩ (Nat.le_of_ble_eq_true rfl) ?_
  refine AW.chk (fun hthis => ?_)
  refine AW.aload_n (pc := 0) dX11_priced_0 rfl 0 rfl ?_
  refine AW.iload_n (pc := 1) dX11_priced_1 rfl 1 rfl ?_
  refine AW.xV1r (pc := 2) rfl dX11_priced_2 mlX11_106 mbX11_gateOf rfl hthis (kct hthis rfl hct) (by omega) (kX11_gateOf l E hst (n - 1) (by omega) ct hct ex this x1 M) (Nat.le_of_ble_eq_true rfl) (fun v1 M2 => ?_)
  refine AW.chk (fun g3 => ?_)
  refine AW.chk (fun g4 => ?_)
  refine AW.getR (pc := 5) dX11_priced_5 flX11_43 g3 (kct g3 rfl hct) g4 ?_
  refine AW.astore_n (pc := 8) [1, 0] [(0, .ref (ad E this)), (2, .ref (ad E (mR M2 v1 0)))] dX11_priced_8 rfl (by decide) rfl ?_
  refine AW.iconst (pc := 9) dX11_priced_9 ci_0 ?_
  refine AW.istore_n (pc := 10) [1, 2, 0] [(0, .ref (ad E this)), (2, .ref (ad E (mR M2 v1 0))), (3, .int 0)] dX11_priced_10 rfl (by decide) rfl ?_
  refine AW.iconst (pc := 11) dX11_priced_11 ci_1 ?_
  refine AW.istore (pc := 12) [1, 2, 3, 0] [(0, .ref (ad E this)), (2, .ref (ad E (mR M2 v1 0))), (3, .int 0), (4, .int 1)] dX11_priced_12 (by decide) rfl ?_
  exact AW.sub [1, 2, 3] rfl (kX11_priced_L14 l E hst n hn ct hct ex FU (mR M2 v1 0) 0 1 M2)
-- GateBox$Rules.partsAt(I)J
def zX8_partsAt (this : Nat) (x1 : Int32) (M : Mem) : Option (Int64 × Mem) :=
  if K0 this = (0, 8) then
  if (mI M this 1) ≤ 0 then
    some (0, M)
  else
    bnd (zX8_payingOdds this x1 M) fun v2 M3 =>
    if ¬ (Int32.toInt64 (mI M3 this 1)) = 0 then
    some (((1000000000 * (Int32.toInt64 v2)) / (Int32.toInt64 (mI M3 this 1))) * (Int32.toInt64 x1), M3)
    else none
  else none
set_option maxRecDepth 20000 in
set_option maxHeartbeats 4000000 in
theorem kX8_partsAt (l : Launch) (E : Ev) (n : Nat) (hn : 4 ≤ n) (ct : Nat) (hct : 111 ≤ ct) (ex : Bool) (this : Nat) (x1 : Int32) (M : Mem) : AM l E n ct ex yX8_partsAt fX8_partsAt enJ [.ref (ad E this), .int x1] M (zX8_partsAt this x1 M) := by
  unfold zX8_partsAt
  refine AM.of (by decide +kernel) ⟨rfl, rfl, rfl⟩ (Nat.le_of_ble_eq_true rfl) ?_
  refine AW.chk (fun hthis => ?_)
  refine AW.aload_n (pc := 0) dX8_partsAt_0 rfl 0 rfl ?_
  refine AW.getI (pc := 1) dX8_partsAt_1 flX8_15 hthis (kct hthis rfl hct) ?_
  refine AW.if_le (pc := 4) 29 dX8_partsAt_4 (by decide) (fun h1 => ?_) (fun h1 => ?_)
  · refine AW.lconst (pc := 29) dX8_partsAt_29 cl_0 ?_
    exact AW.lret (pc := 30) dX8_partsAt_30 rfl (fun _ _ _ => rfl) (Nat.le_refl _) (Nat.le_refl _)
  · refine AW.ldc2 (pc := 7) dX8_partsAt_7 ccX8_94 ?_
    refine AW.aload_n (pc := 10) dX8_partsAt_10 rfl 0 rfl ?_
    refine AW.iload_n (pc := 11) dX8_partsAt_11 rfl 1 rfl ?_
    refine AW.cV1i (pc := 12) dX8_partsAt_12 mlX8_87 mbX8_payingOdds rfl hthis (kct hthis rfl hct) (fun _ => okR_N (by omega)) (kX8_payingOdds l E (n - 1) (by omega) ct hct ex this x1 M) (Nat.le_of_ble_eq_true rfl) (fun v2 M3 => ?_)
    refine AW.i2l (pc := 15) dX8_partsAt_15 ?_
    refine AW.lmul (pc := 16) dX8_partsAt_16 ?_
    refine AW.aload_n (pc := 17) dX8_partsAt_17 rfl 0 rfl ?_
    refine AW.getI (pc := 18) dX8_partsAt_18 flX8_15 hthis (kct hthis rfl hct) ?_
    refine AW.i2l (pc := 21) dX8_partsAt_21 ?_
    refine AW.chk (fun g4 => ?_)
    refine AW.ldiv (pc := 22) dX8_partsAt_22 g4 ?_
    refine AW.iload_n (pc := 23) dX8_partsAt_23 rfl 1 rfl ?_
    refine AW.i2l (pc := 24) dX8_partsAt_24 ?_
    refine AW.lmul (pc := 25) dX8_partsAt_25 ?_
    refine AW.goto (pc := 26) 30 dX8_partsAt_26 (by decide) ?_
    exact AW.lret (pc := 30) dX8_partsAt_30 rfl (fun _ _ _ => rfl) (Nat.le_refl _) (Nat.le_refl _)
-- GateBox.mixed(IIII)I
def zX11_mixed_B41 (this : Nat) (x2 : Int32) (x4 : Int32) (x5 : Nat) (s0 : Int32) (M : Mem) : Option ((Int32 ⊕ Nat) × Mem) :=
  bnd (zX11_walkAlong this x5 (x2 - s0) M) fun _ M1 =>
  if mR M1 this 8 ≠ 0 then
  if K0 (mR M1 this 8) = (0, 10) then
  if K0 x5 = (0, 4) then
  if mR M1 x5 0 ≠ 0 then
  if K0 (mR M1 x5 0) = (0, 8) then
  bnd (zX8_partsAt (mR M1 x5 0) x4 M1) fun v6 M7 =>
  some (.inl (Int64.toInt32 (((mL M1 (mR M1 this 8) 3) + ((Int32.toInt64 s0) * v6)) / 1000000)), M7)
  else none
  else none
  else none
  else none
  else none
def zX11_mixed (this : Nat) (x1 : Int32) (x2 : Int32) (x3 : Int32) (x4 : Int32) (M : Mem) : Option ((Int32 ⊕ Nat) × Mem) :=
  if K0 this = (0, 11) then
  bndX (zX11_gateOf this x1 M) fun v1 M2 =>
  bndX (zX11_askRange x2 0 400 M2) fun _ M3 =>
  bndX (zX11_askRange x3 2 50 M3) fun _ M4 =>
  bndX (zX11_askRange x4 0 9 M4) fun _ M5 =>
  if x3 ≤ 0 then
    zX11_mixed_B41 this x2 x4 v1 0 M5
  else
    if ¬ x3 = 0 then
    zX11_mixed_B41 this x2 x4 v1 (x2 / x3) M5
    else none
  else none
set_option maxRecDepth 20000 in
set_option maxHeartbeats 4000000 in
theorem kX11_mixed_B41 (l : Launch) (E : Ev) (hst : l.stackTraces = false) (n : Nat) (hn : 8 ≤ n) (ct : Nat) (hct : 111 ≤ ct) (ex : Bool) (this : Nat) (x2 : Int32) (x4 : Int32) (x5 : Nat) (s0 : Int32) (M : Mem) (hthis : K0 this = (0, 11)) : AW l E fX11_mixed (RX n) (PQX E ct ex enI) ct ex 0 0 41 [(0, .ref (ad E this)), (2, .int x2), (4, .int x4), (5, .ref (ad E x5))] [.int s0] M (zX11_mixed_B41 this x2 x4 x5 s0 M) := by
  unfold zX11_mixed_B41
  refine AW.istore (pc := 41) [1, 2, 3, 4, 0] [(0, .ref (ad E this)), (2, .int x2), (4, .int x4), (5, .ref (ad E x5)), (6, .int s0)] dX11_mixed_41 (by decide) rfl ?_
  refine AW.aload_n (pc := 43) dX11_mixed_43 rfl 0 rfl ?_
  refine AW.aload (pc := 44) dX11_mixed_44 3 rfl ?_
  refine AW.iload_n (pc := 46) dX11_mixed_46 rfl 1 rfl ?_
  refine AW.iload (pc := 47) dX11_mixed_47 4 rfl ?_
  refine AW.isub (pc := 49) dX11_mixed_49 ?_
  refine AW.cV2v (pc := 50) dX11_mixed_50 mlX11_185 mbX11_walkAlong rfl hthis (kct hthis rfl hct) (fun r => okR_X (by omega) r) (kX11_walkAlong l E (n - 1) (by omega) ct hct ex this x5 (x2 - s0) M) (Nat.le_of_ble_eq_true rfl) (fun _ M1 => ?_)
  refine AW.aload_n (pc := 53) dX11_mixed_53 rfl 0 rfl ?_
  refine AW.chk (fun g2 => ?_)
  refine AW.getR (pc := 54) dX11_mixed_54 flX11_59 hthis (kct hthis rfl hct) g2 ?_
  refine AW.chk (fun g3 => ?_)
  refine AW.getL (pc := 57) dX11_mixed_57 flX11_268 g3 (kct g3 rfl hct) ?_
  refine AW.iload (pc := 60) dX11_mixed_60 4 rfl ?_
  refine AW.i2l (pc := 62) dX11_mixed_62 ?_
  refine AW.aload (pc := 63) dX11_mixed_63 3 rfl ?_
  refine AW.chk (fun g4 => ?_)
  refine AW.chk (fun g5 => ?_)
  refine AW.getR (pc := 65) dX11_mixed_65 flX11_43 g4 (kct g4 rfl hct) g5 ?_
  refine AW.iload (pc := 68) dX11_mixed_68 2 rfl ?_
  refine AW.chk (fun g8 => ?_)
  refine AW.cV1l (pc := 70) dX11_mixed_70 mlX11_272 mbX8_partsAt rfl g8 (kct g8 rfl hct) (fun r => okR_X (by omega) r) (kX8_partsAt l E (n - 1) (by omega) ct hct ex (mR M1 x5 0) x4 M1) (Nat.le_of_ble_eq_true rfl) (fun v6 M7 => ?_)
  refine AW.lmul (pc := 73) dX11_mixed_73 ?_
  refine AW.ladd (pc := 74) dX11_mixed_74 ?_
  refine AW.ldc2 (pc := 75) dX11_mixed_75 ccX11_276 ?_
  refine AW.ldiv (pc := 78) dX11_mixed_78 (by decide) ?_
  refine AW.l2i (pc := 79) dX11_mixed_79 ?_
  exact AW.iret (pc := 80) dX11_mixed_80 rfl (fun _ _ _ => rfl) (Nat.le_refl _) (Nat.le_refl _)
set_option maxRecDepth 20000 in
set_option maxHeartbeats 4000000 in
theorem kX11_mixed (l : Launch) (E : Ev) (hst : l.stackTraces = false) (n : Nat) (hn : 8 ≤ n) (ct : Nat) (hct : 111 ≤ ct) (ex : Bool) (this : Nat) (x1 : Int32) (x2 : Int32) (x3 : Int32) (x4 : Int32) (M : Mem) : AMX l E n ct ex yX11_mixed fX11_mixed enI [.ref (ad E this), .int x1, .int x2, .int x3, .int x4] M (zX11_mixed this x1 x2 x3 x4 M) := by
  unfold zX11_mixed
  refine AMX.of (by decide +kernel) ⟨rfl, rfl, rfl⟩ (Nat.le_of_ble_eq_true rfl) ?_
  refine AW.chk (fun hthis => ?_)
  refine AW.aload_n (pc := 0) dX11_mixed_0 rfl 0 rfl ?_
  refine AW.iload_n (pc := 1) dX11_mixed_1 rfl 1 rfl ?_
  refine AW.xV1r (pc := 2) rfl dX11_mixed_2 mlX11_106 mbX11_gateOf rfl hthis (kct hthis rfl hct) (by omega) (kX11_gateOf l E hst (n - 1) (by omega) ct hct ex this x1 M) (Nat.le_of_ble_eq_true rfl) (fun v1 M2 => ?_)
  refine AW.astore (pc := 5) [1, 3, 4, 5, 0] [(0, .ref (ad E this)), (2, .int x2), (3, .int x3), (4, .int x4), (5, .ref (ad E v1))] dX11_mixed_5 (by decide) rfl ?_
  refine AW.iload_n (pc := 7) dX11_mixed_7 rfl 1 rfl ?_
  refine AW.iconst (pc := 8) dX11_mixed_8 ci_0 ?_
  refine AW.sipush (pc := 9) dX11_mixed_9 cs_400 ?_
  refine AW.xS3v (pc := 12) rfl dX11_mixed_12 mlX11_110 mbX11_askRange (by omega) (kX11_askRange l E hst (n - 1) (by omega) ct hct ex x2 0 400 M2) (Nat.le_of_ble_eq_true rfl) (fun _ M3 => ?_)
  refine AW.iload_n (pc := 15) dX11_mixed_15 rfl 2 rfl ?_
  refine AW.iconst (pc := 16) dX11_mixed_16 ci_2 ?_
  refine AW.bipush (pc := 17) dX11_mixed_17 cb_50 ?_
  refine AW.xS3v (pc := 19) rfl dX11_mixed_19 mlX11_110 mbX11_askRange (by omega) (kX11_askRange l E hst (n - 1) (by omega) ct hct ex x3 2 50 M3) (Nat.le_of_ble_eq_true rfl) (fun _ M4 => ?_)
  refine AW.iload (pc := 22) dX11_mixed_22 3 rfl ?_
  refine AW.iconst (pc := 24) dX11_mixed_24 ci_0 ?_
  refine AW.bipush (pc := 25) dX11_mixed_25 cb_9 ?_
  refine AW.xS3v (pc := 27) rfl dX11_mixed_27 mlX11_110 mbX11_askRange (by omega) (kX11_askRange l E hst (n - 1) (by omega) ct hct ex x4 0 9 M4) (Nat.le_of_ble_eq_true rfl) (fun _ M5 => ?_)
  refine AW.iload_n (pc := 30) dX11_mixed_30 rfl 2 rfl ?_
  refine AW.if_le (pc := 31) 40 dX11_mixed_31 (by decide) (fun h6 => ?_) (fun h6 => ?_)
  · refine AW.iconst (pc := 40) dX11_mixed_40 ci_0 ?_
    exact AW.sub [0, 1, 3, 4] rfl (kX11_mixed_B41 l E hst n hn ct hct ex this x2 x4 v1 0 M5 hthis)
  · refine AW.iload_n (pc := 34) dX11_mixed_34 rfl 1 rfl ?_
    refine AW.iload_n (pc := 35) dX11_mixed_35 rfl 2 rfl ?_
    refine AW.chk (fun g7 => ?_)
    refine AW.idiv (pc := 36) dX11_mixed_36 g7 ?_
    refine AW.goto (pc := 37) 41 dX11_mixed_37 (by decide) ?_
    exact AW.sub [0, 1, 3, 4] rfl (kX11_mixed_B41 l E hst n hn ct hct ex this x2 x4 v1 (x2 / x3) M5 hthis)
-- GateBox$Couples.begin(LGateBox$Rules;II)V
def zX3_begin (this : Nat) (x1 : Nat) (x2 : Int32) (x3 : Int32) (M : Mem) : Option (Unit × Mem) :=
  if K0 this = (0, 3) then
  if mR M this 1 ≠ 0 then
  if K0 x1 = (0, 8) then
  if mR M x1 12 ≠ 0 then
  if K0 (mR M this 1) = (0, 5) then
  bnd (zX5_begin (mR M this 1) x1 (mR M x1 12) M) fun _ M4 =>
  lt (sL M4 this 4 0) fun M6 =>
  lt (sL M6 this 5 0) fun M7 =>
  lt (sL M7 this 6 0) fun M8 =>
  if mR M8 this 2 ≠ 0 then
  if K0 (mR M8 this 2) = (0, 1) then
  bnd (zX1_clear (mR M8 this 2) M8) fun _ M10 =>
  if mR M10 this 2 ≠ 0 then
  if K0 (mR M10 this 2) = (0, 1) then
  bnd (zX1_add (mR M10 this 2) ((x2 * 100) + x3) 1000000000 M10) fun _ M13 =>
  some ((), M13)
  else none
  else none
  else none
  else none
  else none
  else none
  else none
  else none
  else none
set_option maxRecDepth 20000 in
set_option maxHeartbeats 4000000 in
theorem kX3_begin (l : Launch) (E : Ev) (n : Nat) (hn : 3 ≤ n) (ct : Nat) (hct : 111 ≤ ct) (ex : Bool) (this : Nat) (x1 : Nat) (x2 : Int32) (x3 : Int32) (M : Mem) : AM l E n ct ex yX3_begin fX3_begin enU [.ref (ad E this), .ref (ad E x1), .int x2, .int x3] M (zX3_begin this x1 x2 x3 M) := by
  unfold zX3_begin
  refine AM.of (by decide +kernel) ⟨rfl, rfl, rfl⟩ (Nat.le_of_ble_eq_true rfl) ?_
  refine AW.chk (fun hthis => ?_)
  refine AW.aload_n (pc := 0) dX3_begin_0 rfl 0 rfl ?_
  refine AW.chk (fun g1 => ?_)
  refine AW.getR (pc := 1) dX3_begin_1 flX3_42 hthis (kct hthis rfl hct) g1 ?_
  refine AW.aload_n (pc := 4) dX3_begin_4 rfl 1 rfl ?_
  refine AW.aload_n (pc := 5) dX3_begin_5 rfl 1 rfl ?_
  refine AW.chk (fun g2 => ?_)
  refine AW.chk (fun g3 => ?_)
  refine AW.getR (pc := 6) dX3_begin_6 flX3_45 g2 (kct g2 rfl hct) g3 ?_
  refine AW.chk (fun g5 => ?_)
  refine AW.cV2v (pc := 9) dX3_begin_9 mlX3_51 mbX5_begin rfl g5 (kct g5 rfl hct) (fun _ => okR_N (by omega)) (kX5_begin l E (n - 1) (by omega) ct hct ex (mR M this 1) x1 (mR M x1 12) M) (Nat.le_of_ble_eq_true rfl) (fun _ M4 => ?_)
  refine AW.aload_n (pc := 12) dX3_begin_12 rfl 0 rfl ?_
  refine AW.lconst (pc := 13) dX3_begin_13 cl_0 ?_
  refine AW.putL (pc := 14) dX3_begin_14 flX3_23 hthis (kct hthis rfl hct) ?_
  refine AW.genM (fun M6 => ?_)
  refine AW.aload_n (pc := 17) dX3_begin_17 rfl 0 rfl ?_
  refine AW.lconst (pc := 18) dX3_begin_18 cl_0 ?_
  refine AW.putL (pc := 19) dX3_begin_19 flX3_27 hthis (kct hthis rfl hct) ?_
  refine AW.genM (fun M7 => ?_)
  refine AW.aload_n (pc := 22) dX3_begin_22 rfl 0 rfl ?_
  refine AW.lconst (pc := 23) dX3_begin_23 cl_0 ?_
  refine AW.putL (pc := 24) dX3_begin_24 flX3_30 hthis (kct hthis rfl hct) ?_
  refine AW.genM (fun M8 => ?_)
  refine AW.aload_n (pc := 27) dX3_begin_27 rfl 0 rfl ?_
  refine AW.chk (fun g9 => ?_)
  refine AW.getR (pc := 28) dX3_begin_28 flX3_16 hthis (kct hthis rfl hct) g9 ?_
  refine AW.chk (fun g11 => ?_)
  refine AW.cV0v (pc := 31) dX3_begin_31 mlX3_55 mbX1_clear rfl g11 (kct g11 rfl hct) (fun _ => okR_N (by omega)) (kX1_clear l E (n - 1) (by omega) ct hct ex (mR M8 this 2) M8) (Nat.le_of_ble_eq_true rfl) (fun _ M10 => ?_)
  refine AW.aload_n (pc := 34) dX3_begin_34 rfl 0 rfl ?_
  refine AW.chk (fun g12 => ?_)
  refine AW.getR (pc := 35) dX3_begin_35 flX3_16 hthis (kct hthis rfl hct) g12 ?_
  refine AW.iload_n (pc := 38) dX3_begin_38 rfl 2 rfl ?_
  refine AW.bipush (pc := 39) dX3_begin_39 cb_100 ?_
  refine AW.imul (pc := 41) dX3_begin_41 ?_
  refine AW.iload_n (pc := 42) dX3_begin_42 rfl 3 rfl ?_
  refine AW.iadd (pc := 43) dX3_begin_43 ?_
  refine AW.ldc (pc := 44) dX3_begin_44 ccX3_58 ?_
  refine AW.chk (fun g14 => ?_)
  refine AW.cV2v (pc := 46) dX3_begin_46 mlX3_59 mbX1_add rfl g14 (kct g14 rfl hct) (fun _ => okR_N (by omega)) (kX1_add l E (n - 1) (by omega) ct hct ex (mR M10 this 2) ((x2 * 100) + x3) 1000000000 M10) (Nat.le_of_ble_eq_true rfl) (fun _ M13 => ?_)
  exact AW.vret (pc := 49) dX3_begin_49 rfl (fun _ _ _ => rfl) (Nat.le_refl _) (Nat.le_refl _)
-- GateBox$Couples.goesOn(IIII)I
def zX3_goesOn (this : Nat) (x1 : Int32) (x2 : Int32) (x3 : Int32) (x4 : Int32) (M : Mem) : Option (Int32 × Mem) :=
  if K0 this = (0, 3) then
  if mR M this 1 ≠ 0 then
  if K0 (mR M this 1) = (0, 5) then
  if mR M (mR M this 1) 0 ≠ 0 then
  if K0 (mR M (mR M this 1) 0) = (0, 8) then
  if x1 < (mI M (mR M (mR M this 1) 0) 0) then
    bnd (zX5_giftAt (mR M this 1) x1 x2 x3 M) fun v6 M7 =>
    if v6 = (-1) then
      lt (sL M7 this 6 ((mL M7 this 6) + (Int32.toInt64 x4))) fun M9 =>
      some (x2, M9)
    else
      lt (sL M7 this 5 ((mL M7 this 5) + ((Int32.toInt64 x4) * (Int32.toInt64 v6)))) fun M10 =>
      if mR M10 this 1 ≠ 0 then
      if K0 (mR M10 this 1) = (0, 5) then
      if mR M10 (mR M10 this 1) 0 ≠ 0 then
      if K0 (mR M10 (mR M10 this 1) 0) = (0, 8) then
      bnd (zX8_stateBehind (mR M10 (mR M10 this 1) 0) x2 v6 M10) fun v14 M15 =>
      some (v14, M15)
      else none
      else none
      else none
      else none
  else
    some (x2, M)
  else none
  else none
  else none
  else none
  else none
set_option maxRecDepth 20000 in
set_option maxHeartbeats 4000000 in
theorem kX3_goesOn (l : Launch) (E : Ev) (n : Nat) (hn : 4 ≤ n) (ct : Nat) (hct : 111 ≤ ct) (ex : Bool) (this : Nat) (x1 : Int32) (x2 : Int32) (x3 : Int32) (x4 : Int32) (M : Mem) : AM l E n ct ex yX3_goesOn fX3_goesOn enI [.ref (ad E this), .int x1, .int x2, .int x3, .int x4] M (zX3_goesOn this x1 x2 x3 x4 M) := by
  unfold zX3_goesOn
  refine AM.of (by decide +kernel) ⟨rfl, rfl, rfl⟩ (Nat.le_of_ble_eq_true rfl) ?_
  refine AW.chk (fun hthis => ?_)
  refine AW.iload_n (pc := 0) dX3_goesOn_0 rfl 1 rfl ?_
  refine AW.aload_n (pc := 1) dX3_goesOn_1 rfl 0 rfl ?_
  refine AW.chk (fun g1 => ?_)
  refine AW.getR (pc := 2) dX3_goesOn_2 flX3_42 hthis (kct hthis rfl hct) g1 ?_
  refine AW.chk (fun g2 => ?_)
  refine AW.chk (fun g3 => ?_)
  refine AW.getR (pc := 5) dX3_goesOn_5 flX3_63 g2 (kct g2 rfl hct) g3 ?_
  refine AW.chk (fun g4 => ?_)
  refine AW.getI (pc := 8) dX3_goesOn_8 flX3_67 g4 (kct g4 rfl hct) ?_
  refine AW.icmp_lt (pc := 11) 16 dX3_goesOn_11 (by decide) (fun h5 => ?_) (fun h5 => ?_)
  · refine AW.aload_n (pc := 16) dX3_goesOn_16 rfl 0 rfl ?_
    refine AW.getR (pc := 17) dX3_goesOn_17 flX3_42 hthis (kct hthis rfl hct) g1 ?_
    refine AW.iload_n (pc := 20) dX3_goesOn_20 rfl 1 rfl ?_
    refine AW.iload_n (pc := 21) dX3_goesOn_21 rfl 2 rfl ?_
    refine AW.iload_n (pc := 22) dX3_goesOn_22 rfl 3 rfl ?_
    refine AW.cV3i (pc := 23) dX3_goesOn_23 mlX3_89 mbX5_giftAt rfl g2 (kct g2 rfl hct) (fun _ => okR_N (by omega)) (kX5_giftAt l E (n - 1) (by omega) ct hct ex (mR M this 1) x1 x2 x3 M) (Nat.le_of_ble_eq_true rfl) (fun v6 M7 => ?_)
    refine AW.istore (pc := 26) [1, 3, 5, 0] [(0, .ref (ad E this)), (2, .int x2), (4, .int x4), (5, .int v6)] dX3_goesOn_26 (by decide) rfl ?_
    refine AW.iload (pc := 28) dX3_goesOn_28 3 rfl ?_
    refine AW.iconst (pc := 30) dX3_goesOn_30 ci_m1 ?_
    refine AW.icmp_ne (pc := 31) 48 dX3_goesOn_31 (by decide) (fun h8 => ?_) (fun h8 => ?_)
    · refine AW.aload_n (pc := 34) dX3_goesOn_34 rfl 0 rfl ?_
      refine AW.dup (pc := 35) dX3_goesOn_35 rfl ?_
      refine AW.getL (pc := 36) dX3_goesOn_36 flX3_30 hthis (kct hthis rfl hct) ?_
      refine AW.iload (pc := 39) dX3_goesOn_39 2 rfl ?_
      refine AW.i2l (pc := 41) dX3_goesOn_41 ?_
      refine AW.ladd (pc := 42) dX3_goesOn_42 ?_
      refine AW.putL (pc := 43) dX3_goesOn_43 flX3_30 hthis (kct hthis rfl hct) ?_
      refine AW.genM (fun M9 => ?_)
      refine AW.iload_n (pc := 46) dX3_goesOn_46 rfl 1 rfl ?_
      exact AW.iret (pc := 47) dX3_goesOn_47 rfl (fun _ _ _ => rfl) (Nat.le_refl _) (Nat.le_refl _)
    · refine AW.aload_n (pc := 48) dX3_goesOn_48 rfl 0 rfl ?_
      refine AW.dup (pc := 49) dX3_goesOn_49 rfl ?_
      refine AW.getL (pc := 50) dX3_goesOn_50 flX3_27 hthis (kct hthis rfl hct) ?_
      refine AW.iload (pc := 53) dX3_goesOn_53 2 rfl ?_
      refine AW.i2l (pc := 55) dX3_goesOn_55 ?_
      refine AW.iload (pc := 56) dX3_goesOn_56 3 rfl ?_
      refine AW.i2l (pc := 58) dX3_goesOn_58 ?_
      refine AW.lmul (pc := 59) dX3_goesOn_59 ?_
      refine AW.ladd (pc := 60) dX3_goesOn_60 ?_
      refine AW.putL (pc := 61) dX3_goesOn_61 flX3_27 hthis (kct hthis rfl hct) ?_
      refine AW.genM (fun M10 => ?_)
      refine AW.aload_n (pc := 64) dX3_goesOn_64 rfl 0 rfl ?_
      refine AW.chk (fun g11 => ?_)
      refine AW.getR (pc := 65) dX3_goesOn_65 flX3_42 hthis (kct hthis rfl hct) g11 ?_
      refine AW.chk (fun g12 => ?_)
      refine AW.chk (fun g13 => ?_)
      refine AW.getR (pc := 68) dX3_goesOn_68 flX3_63 g12 (kct g12 rfl hct) g13 ?_
      refine AW.iload_n (pc := 71) dX3_goesOn_71 rfl 1 rfl ?_
      refine AW.iload (pc := 72) dX3_goesOn_72 3 rfl ?_
      refine AW.chk (fun g16 => ?_)
      refine AW.cV2i (pc := 74) dX3_goesOn_74 mlX3_92 mbX8_stateBehind rfl g16 (kct g16 rfl hct) (fun _ => okR_N (by omega)) (kX8_stateBehind l E (n - 1) (by omega) ct hct ex (mR M10 (mR M10 this 1) 0) x2 v6 M10) (Nat.le_of_ble_eq_true rfl) (fun v14 M15 => ?_)
      exact AW.iret (pc := 77) dX3_goesOn_77 rfl (fun _ _ _ => rfl) (Nat.le_refl _) (Nat.le_refl _)
  · refine AW.iload_n (pc := 14) dX3_goesOn_14 rfl 2 rfl ?_
    exact AW.iret (pc := 15) dX3_goesOn_15 rfl (fun _ _ _ => rfl) (Nat.le_refl _) (Nat.le_refl _)
-- GateBox$Couples.share(I)V
def zX3_share_B103 (KK29 : Nat → Int32 → Nat → Int32 → Int32 → Int32 → Int32 → Mem → Option (Unit × Mem)) (this : Nat) (x1 : Int32) (x2 : Nat) (x3 : Int32) (x4 : Int32) (x5 : Int32) (x6 : Int32) (x7 : Int32) (x9 : Int32) (s0 : Int32) (M : Mem) : Option (Unit × Mem) :=
  lt (sL M this 4 ((mL M this 4) + ((Int32.toInt64 x7) * (Int32.toInt64 x9)))) fun M1 =>
  if mR M1 this 3 ≠ 0 then
  bnd (zX3_goesOn this x6 (x1 % 100) x9 x7 M1) fun v3 M4 =>
  if K0 (mR M1 this 3) = (0, 1) then
  bnd (zX1_add (mR M1 this 3) ((s0 * 100) + v3) x7 M4) fun _ M5 =>
  KK29 this x1 x2 x3 x4 x5 (x6 + 1) M5
  else none
  else none
def zX3_share_B82 (KK29 : Nat → Int32 → Nat → Int32 → Int32 → Int32 → Int32 → Mem → Option (Unit × Mem)) (this : Nat) (x1 : Int32) (x2 : Nat) (x3 : Int32) (x4 : Int32) (x5 : Int32) (x6 : Int32) (x7 : Int32) (x8 : Int32) (s0 : Int32) (M : Mem) : Option (Unit × Mem) :=
  if x8 = (-1) then
    zX3_share_B103 KK29 this x1 x2 x3 x4 x5 x6 x7 s0 x4 M
  else
    if K0 x2 = (0, 8) then
    bnd (zX8_stateBehind x2 x4 x8 M) fun v2 M3 =>
    zX3_share_B103 KK29 this x1 x2 x3 x4 x5 x6 x7 s0 v2 M3
    else none
def zX3_share_B29 (KK29 : Nat → Int32 → Nat → Int32 → Int32 → Int32 → Int32 → Mem → Option (Unit × Mem)) (this : Nat) (x1 : Int32) (x2 : Nat) (x3 : Int32) (x4 : Int32) (x5 : Int32) (x6 : Int32) (M : Mem) : Option (Unit × Mem) :=
  if K0 x2 = (0, 8) then
  if (mI M x2 0) ≤ x6 then
    some ((), M)
  else
    bnd (zX8_partOf x2 x6 x3 x5 M) fun v3 M4 =>
    lt (x5 - v3) fun v5 =>
    if mR M4 this 0 ≠ 0 then
    if K0 (mR M4 this 0) = (0, 5) then
    bnd (zX5_giftAt (mR M4 this 0) x6 x4 0 M4) fun v7 M8 =>
    if v7 = (-1) then
      zX3_share_B82 KK29 this x1 x2 x3 x4 v5 x6 v3 v7 0 M8
    else
      zX3_share_B82 KK29 this x1 x2 x3 x4 v5 x6 v3 v7 v7 M8
    else none
    else none
  else none
def zX3_share_L29 : Nat → Nat → Int32 → Nat → Int32 → Int32 → Int32 → Int32 → Mem → Option (Unit × Mem)
  | 0 => fun _ _ _ _ _ _ _ _ => none
  | k + 1 => zX3_share_B29 (zX3_share_L29 k)
def zX3_share (this : Nat) (x1 : Int32) (M : Mem) : Option (Unit × Mem) :=
  if K0 this = (0, 3) then
  if mR M this 0 ≠ 0 then
  if K0 (mR M this 0) = (0, 5) then
  if mR M (mR M this 0) 0 ≠ 0 then
  if mR M this 2 ≠ 0 then
  if K0 (mR M this 2) = (0, 1) then
  bnd (zX1_amountOf (mR M this 2) x1 M) fun v5 M6 =>
  lt (x1 / 100) fun v8 =>
  zX3_share_L29 FU this x1 (mR M (mR M this 0) 0) v5 v8 v5 0 M6
  else none
  else none
  else none
  else none
  else none
  else none
set_option maxRecDepth 20000 in
set_option maxHeartbeats 4000000 in
theorem kX3_share_B103 (l : Launch) (E : Ev) (n : Nat) (hn : 5 ≤ n) (ct : Nat) (hct : 111 ≤ ct) (ex : Bool) (KK29 : Nat → Int32 → Nat → Int32 → Int32 → Int32 → Int32 → Mem → Option (Unit × Mem)) (hKK29 : ∀ (this : Nat) (x1 : Int32) (x2 : Nat) (x3 : Int32) (x4 : Int32) (x5 : Int32) (x6 : Int32) (M : Mem) (_ : K0 this = (0, 3)), AW l E fX3_share (fun _ => rmN n 0 0) (PQr E 0 0 ct ex enU) ct ex 0 0 29 [(0, .ref (ad E this)), (1, .int x1), (2, .ref (ad E x2)), (3, .int x3), (4, .int x4), (5, .int x5), (6, .int x6)] [] M (KK29 this x1 x2 x3 x4 x5 x6 M)) (this : Nat) (x1 : Int32) (x2 : Nat) (x3 : Int32) (x4 : Int32) (x5 : Int32) (x6 : Int32) (x7 : Int32) (x9 : Int32) (s0 : Int32) (M : Mem) (hthis : K0 this = (0, 3)) : AW l E fX3_share (fun _ => rmN n 0 0) (PQr E 0 0 ct ex enU) ct ex 0 0 103 [(0, .ref (ad E this)), (1, .int x1), (2, .ref (ad E x2)), (3, .int x3), (4, .int x4), (5, .int x5), (6, .int x6), (7, .int x7), (9, .int x9)] [.int s0] M (zX3_share_B103 KK29 this x1 x2 x3 x4 x5 x6 x7 x9 s0 M) := by
  unfold zX3_share_B103
  refine AW.istore (pc := 103) [1, 2, 3, 4, 5, 6, 7, 8, 9, 0] [(0, .ref (ad E this)), (1, .int x1), (2, .ref (ad E x2)), (3, .int x3), (4, .int x4), (5, .int x5), (6, .int x6), (7, .int x7), (9, .int x9), (10, .int s0)] dX3_share_103 (by decide) rfl ?_
  refine AW.aload_n (pc := 105) dX3_share_105 rfl 0 rfl ?_
  refine AW.dup (pc := 106) dX3_share_106 rfl ?_
  refine AW.getL (pc := 107) dX3_share_107 flX3_23 hthis (kct hthis rfl hct) ?_
  refine AW.iload (pc := 110) dX3_share_110 7 rfl ?_
  refine AW.i2l (pc := 112) dX3_share_112 ?_
  refine AW.iload (pc := 113) dX3_share_113 8 rfl ?_
  refine AW.i2l (pc := 115) dX3_share_115 ?_
  refine AW.lmul (pc := 116) dX3_share_116 ?_
  refine AW.ladd (pc := 117) dX3_share_117 ?_
  refine AW.putL (pc := 118) dX3_share_118 flX3_23 hthis (kct hthis rfl hct) ?_
  refine AW.genM (fun M1 => ?_)
  refine AW.aload_n (pc := 121) dX3_share_121 rfl 0 rfl ?_
  refine AW.chk (fun g2 => ?_)
  refine AW.getR (pc := 122) dX3_share_122 flX3_20 hthis (kct hthis rfl hct) g2 ?_
  refine AW.iload (pc := 125) dX3_share_125 9 rfl ?_
  refine AW.bipush (pc := 127) dX3_share_127 cb_100 ?_
  refine AW.imul (pc := 129) dX3_share_129 ?_
  refine AW.aload_n (pc := 130) dX3_share_130 rfl 0 rfl ?_
  refine AW.iload (pc := 131) dX3_share_131 6 rfl ?_
  refine AW.iload_n (pc := 133) dX3_share_133 rfl 1 rfl ?_
  refine AW.bipush (pc := 134) dX3_share_134 cb_100 ?_
  refine AW.irem (pc := 136) dX3_share_136 (by decide) ?_
  refine AW.iload (pc := 137) dX3_share_137 8 rfl ?_
  refine AW.iload (pc := 139) dX3_share_139 7 rfl ?_
  refine AW.cV4i (pc := 141) dX3_share_141 mlX3_96 mbX3_goesOn rfl hthis (kct hthis rfl hct) (fun _ => okR_N (by omega)) (kX3_goesOn l E (n - 1) (by omega) ct hct ex this x6 (x1 % 100) x9 x7 M1) (Nat.le_of_ble_eq_true rfl) (fun v3 M4 => ?_)
  refine AW.iadd (pc := 144) dX3_share_144 ?_
  refine AW.iload (pc := 145) dX3_share_145 7 rfl ?_
  refine AW.chk (fun g6 => ?_)
  refine AW.cV2v (pc := 147) dX3_share_147 mlX3_59 mbX1_add rfl g6 (kct g6 rfl hct) (fun _ => okR_N (by omega)) (kX1_add l E (n - 1) (by omega) ct hct ex (mR M1 this 3) ((s0 * 100) + v3) x7 M4) (Nat.le_of_ble_eq_true rfl) (fun _ M5 => ?_)
  refine AW.iinc (pc := 150) (w := 6) [1, 2, 3, 4, 5, 6, 0] [(0, .ref (ad E this)), (1, .int x1), (2, .ref (ad E x2)), (3, .int x3), (4, .int x4), (5, .int x5), (6, .int (x6 + 1))] dX3_share_150 rfl (inc_1 _) (by decide) rfl ?_
  refine AW.goto (pc := 153) 29 dX3_share_153 (by decide) ?_
  exact hKK29 this x1 x2 x3 x4 x5 (x6 + 1) M5 hthis
set_option maxRecDepth 20000 in
set_option maxHeartbeats 4000000 in
theorem kX3_share_B82 (l : Launch) (E : Ev) (n : Nat) (hn : 5 ≤ n) (ct : Nat) (hct : 111 ≤ ct) (ex : Bool) (KK29 : Nat → Int32 → Nat → Int32 → Int32 → Int32 → Int32 → Mem → Option (Unit × Mem)) (hKK29 : ∀ (this : Nat) (x1 : Int32) (x2 : Nat) (x3 : Int32) (x4 : Int32) (x5 : Int32) (x6 : Int32) (M : Mem) (_ : K0 this = (0, 3)), AW l E fX3_share (fun _ => rmN n 0 0) (PQr E 0 0 ct ex enU) ct ex 0 0 29 [(0, .ref (ad E this)), (1, .int x1), (2, .ref (ad E x2)), (3, .int x3), (4, .int x4), (5, .int x5), (6, .int x6)] [] M (KK29 this x1 x2 x3 x4 x5 x6 M)) (this : Nat) (x1 : Int32) (x2 : Nat) (x3 : Int32) (x4 : Int32) (x5 : Int32) (x6 : Int32) (x7 : Int32) (x8 : Int32) (s0 : Int32) (M : Mem) (hthis : K0 this = (0, 3)) : AW l E fX3_share (fun _ => rmN n 0 0) (PQr E 0 0 ct ex enU) ct ex 0 0 82 [(0, .ref (ad E this)), (1, .int x1), (2, .ref (ad E x2)), (3, .int x3), (4, .int x4), (5, .int x5), (6, .int x6), (7, .int x7), (8, .int x8)] [.int s0] M (zX3_share_B82 KK29 this x1 x2 x3 x4 x5 x6 x7 x8 s0 M) := by
  unfold zX3_share_B82
  refine AW.istore (pc := 82) [1, 2, 3, 4, 5, 6, 7, 8, 9, 0] [(0, .ref (ad E this)), (1, .int x1), (2, .ref (ad E x2)), (3, .int x3), (4, .int x4), (5, .int x5), (6, .int x6), (7, .int x7), (8, .int x8), (9, .int s0)] dX3_share_82 (by decide) rfl ?_
  refine AW.iload (pc := 84) dX3_share_84 8 rfl ?_
  refine AW.iconst (pc := 86) dX3_share_86 ci_m1 ?_
  refine AW.icmp_ne (pc := 87) 95 dX3_share_87 (by decide) (fun h1 => ?_) (fun h1 => ?_)
  · refine AW.iload (pc := 90) dX3_share_90 4 rfl ?_
    refine AW.goto (pc := 92) 103 dX3_share_92 (by decide) ?_
    exact AW.sub [0, 1, 2, 3, 4, 5, 6, 7, 9] rfl (kX3_share_B103 l E n hn ct hct ex KK29 hKK29 this x1 x2 x3 x4 x5 x6 x7 s0 x4 M hthis)
  · refine AW.aload_n (pc := 95) dX3_share_95 rfl 2 rfl ?_
    refine AW.iload (pc := 96) dX3_share_96 4 rfl ?_
    refine AW.iload (pc := 98) dX3_share_98 8 rfl ?_
    refine AW.chk (fun g4 => ?_)
    refine AW.cV2i (pc := 100) dX3_share_100 mlX3_92 mbX8_stateBehind rfl g4 (kct g4 rfl hct) (fun _ => okR_N (by omega)) (kX8_stateBehind l E (n - 1) (by omega) ct hct ex x2 x4 x8 M) (Nat.le_of_ble_eq_true rfl) (fun v2 M3 => ?_)
    exact AW.sub [0, 1, 2, 3, 4, 5, 6, 7, 9] rfl (kX3_share_B103 l E n hn ct hct ex KK29 hKK29 this x1 x2 x3 x4 x5 x6 x7 s0 v2 M3 hthis)
set_option maxRecDepth 20000 in
set_option maxHeartbeats 4000000 in
theorem kX3_share_B29 (l : Launch) (E : Ev) (n : Nat) (hn : 5 ≤ n) (ct : Nat) (hct : 111 ≤ ct) (ex : Bool) (KK29 : Nat → Int32 → Nat → Int32 → Int32 → Int32 → Int32 → Mem → Option (Unit × Mem)) (hKK29 : ∀ (this : Nat) (x1 : Int32) (x2 : Nat) (x3 : Int32) (x4 : Int32) (x5 : Int32) (x6 : Int32) (M : Mem) (_ : K0 this = (0, 3)), AW l E fX3_share (fun _ => rmN n 0 0) (PQr E 0 0 ct ex enU) ct ex 0 0 29 [(0, .ref (ad E this)), (1, .int x1), (2, .ref (ad E x2)), (3, .int x3), (4, .int x4), (5, .int x5), (6, .int x6)] [] M (KK29 this x1 x2 x3 x4 x5 x6 M)) (this : Nat) (x1 : Int32) (x2 : Nat) (x3 : Int32) (x4 : Int32) (x5 : Int32) (x6 : Int32) (M : Mem) (hthis : K0 this = (0, 3)) : AW l E fX3_share (fun _ => rmN n 0 0) (PQr E 0 0 ct ex enU) ct ex 0 0 29 [(0, .ref (ad E this)), (1, .int x1), (2, .ref (ad E x2)), (3, .int x3), (4, .int x4), (5, .int x5), (6, .int x6)] [] M (zX3_share_B29 KK29 this x1 x2 x3 x4 x5 x6 M) := by
  unfold zX3_share_B29
  refine AW.iload (pc := 29) dX3_share_29 6 rfl ?_
  refine AW.aload_n (pc := 31) dX3_share_31 rfl 2 rfl ?_
  refine AW.chk (fun g1 => ?_)
  refine AW.getI (pc := 32) dX3_share_32 flX3_67 g1 (kct g1 rfl hct) ?_
  refine AW.icmp_ge (pc := 35) 156 dX3_share_35 (by decide) (fun h2 => ?_) (fun h2 => ?_)
  · exact AW.vret (pc := 156) dX3_share_156 rfl (fun _ _ _ => rfl) (Nat.le_refl _) (Nat.le_refl _)
  · refine AW.aload_n (pc := 38) dX3_share_38 rfl 2 rfl ?_
    refine AW.iload (pc := 39) dX3_share_39 6 rfl ?_
    refine AW.iload_n (pc := 41) dX3_share_41 rfl 3 rfl ?_
    refine AW.iload (pc := 42) dX3_share_42 5 rfl ?_
    refine AW.cV3i (pc := 44) dX3_share_44 mlX3_85 mbX8_partOf rfl g1 (kct g1 rfl hct) (fun _ => okR_N (by omega)) (kX8_partOf l E (n - 1) (by omega) ct hct ex x2 x6 x3 x5 M) (Nat.le_of_ble_eq_true rfl) (fun v3 M4 => ?_)
    refine AW.istore (pc := 47) [1, 2, 3, 4, 5, 6, 7, 0] [(0, .ref (ad E this)), (1, .int x1), (2, .ref (ad E x2)), (3, .int x3), (4, .int x4), (5, .int x5), (6, .int x6), (7, .int v3)] dX3_share_47 (by decide) rfl ?_
    refine AW.iload (pc := 49) dX3_share_49 5 rfl ?_
    refine AW.iload (pc := 51) dX3_share_51 7 rfl ?_
    refine AW.isub (pc := 53) dX3_share_53 ?_
    refine AW.genI (fun v5 => ?_)
    refine AW.istore (pc := 54) [1, 2, 3, 4, 5, 0, 6, 7] [(0, .ref (ad E this)), (1, .int x1), (2, .ref (ad E x2)), (3, .int x3), (4, .int x4), (5, .int v5), (6, .int x6), (7, .int v3)] dX3_share_54 (by decide) rfl ?_
    refine AW.aload_n (pc := 56) dX3_share_56 rfl 0 rfl ?_
    refine AW.chk (fun g6 => ?_)
    refine AW.getR (pc := 57) dX3_share_57 flX3_33 hthis (kct hthis rfl hct) g6 ?_
    refine AW.iload (pc := 60) dX3_share_60 6 rfl ?_
    refine AW.iload (pc := 62) dX3_share_62 4 rfl ?_
    refine AW.iconst (pc := 64) dX3_share_64 ci_0 ?_
    refine AW.chk (fun g9 => ?_)
    refine AW.cV3i (pc := 65) dX3_share_65 mlX3_89 mbX5_giftAt rfl g9 (kct g9 rfl hct) (fun _ => okR_N (by omega)) (kX5_giftAt l E (n - 1) (by omega) ct hct ex (mR M4 this 0) x6 x4 0 M4) (Nat.le_of_ble_eq_true rfl) (fun v7 M8 => ?_)
    refine AW.istore (pc := 68) [1, 2, 3, 4, 5, 6, 7, 8, 0] [(0, .ref (ad E this)), (1, .int x1), (2, .ref (ad E x2)), (3, .int x3), (4, .int x4), (5, .int v5), (6, .int x6), (7, .int v3), (8, .int v7)] dX3_share_68 (by decide) rfl ?_
    refine AW.iload (pc := 70) dX3_share_70 8 rfl ?_
    refine AW.iconst (pc := 72) dX3_share_72 ci_m1 ?_
    refine AW.icmp_ne (pc := 73) 80 dX3_share_73 (by decide) (fun h10 => ?_) (fun h10 => ?_)
    · refine AW.iconst (pc := 76) dX3_share_76 ci_0 ?_
      refine AW.goto (pc := 77) 82 dX3_share_77 (by decide) ?_
      exact kX3_share_B82 l E n hn ct hct ex KK29 hKK29 this x1 x2 x3 x4 v5 x6 v3 v7 0 M8 hthis
    · refine AW.iload (pc := 80) dX3_share_80 8 rfl ?_
      exact kX3_share_B82 l E n hn ct hct ex KK29 hKK29 this x1 x2 x3 x4 v5 x6 v3 v7 v7 M8 hthis
set_option maxRecDepth 20000 in
set_option maxHeartbeats 4000000 in
theorem kX3_share_L29 (l : Launch) (E : Ev) (n : Nat) (hn : 5 ≤ n) (ct : Nat) (hct : 111 ≤ ct) (ex : Bool) (k : Nat) : ∀ (this : Nat) (x1 : Int32) (x2 : Nat) (x3 : Int32) (x4 : Int32) (x5 : Int32) (x6 : Int32) (M : Mem) (_ : K0 this = (0, 3)), AW l E fX3_share (fun _ => rmN n 0 0) (PQr E 0 0 ct ex enU) ct ex 0 0 29 [(0, .ref (ad E this)), (1, .int x1), (2, .ref (ad E x2)), (3, .int x3), (4, .int x4), (5, .int x5), (6, .int x6)] [] M (zX3_share_L29 k this x1 x2 x3 x4 x5 x6 M) := by
  induction k with
  | zero => intro this x1 x2 x3 x4 x5 x6 M _; exact AW.none
  | succ k ih =>
    intro this x1 x2 x3 x4 x5 x6 M hthis
    exact kX3_share_B29 l E n hn ct hct ex (zX3_share_L29 k) ih this x1 x2 x3 x4 x5 x6 M hthis
set_option maxRecDepth 20000 in
set_option maxHeartbeats 4000000 in
theorem kX3_share (l : Launch) (E : Ev) (n : Nat) (hn : 5 ≤ n) (ct : Nat) (hct : 111 ≤ ct) (ex : Bool) (this : Nat) (x1 : Int32) (M : Mem) : AM l E n ct ex yX3_share fX3_share enU [.ref (ad E this), .int x1] M (zX3_share this x1 M) := by
  unfold zX3_share
  refine AM.of (by decide +kernel) ⟨rfl, rfl, rfl⟩ (Nat.le_of_ble_eq_true rfl) ?_
  refine AW.chk (fun hthis => ?_)
  refine AW.aload_n (pc := 0) dX3_share_0 rfl 0 rfl ?_
  refine AW.chk (fun g1 => ?_)
  refine AW.getR (pc := 1) dX3_share_1 flX3_33 hthis (kct hthis rfl hct) g1 ?_
  refine AW.chk (fun g2 => ?_)
  refine AW.chk (fun g3 => ?_)
  refine AW.getR (pc := 4) dX3_share_4 flX3_63 g2 (kct g2 rfl hct) g3 ?_
  refine AW.astore_n (pc := 7) [1, 2, 0] [(0, .ref (ad E this)), (1, .int x1), (2, .ref (ad E (mR M (mR M this 0) 0)))] dX3_share_7 rfl (by decide) rfl ?_
  refine AW.aload_n (pc := 8) dX3_share_8 rfl 0 rfl ?_
  refine AW.chk (fun g4 => ?_)
  refine AW.getR (pc := 9) dX3_share_9 flX3_16 hthis (kct hthis rfl hct) g4 ?_
  refine AW.iload_n (pc := 12) dX3_share_12 rfl 1 rfl ?_
  refine AW.chk (fun g7 => ?_)
  refine AW.cV1i (pc := 13) dX3_share_13 mlX3_82 mbX1_amountOf rfl g7 (kct g7 rfl hct) (fun _ => okR_N (by omega)) (kX1_amountOf l E (n - 1) (by omega) ct hct ex (mR M this 2) x1 M) (Nat.le_of_ble_eq_true rfl) (fun v5 M6 => ?_)
  refine AW.istore_n (pc := 16) [1, 2, 3, 0] [(0, .ref (ad E this)), (1, .int x1), (2, .ref (ad E (mR M (mR M this 0) 0))), (3, .int v5)] dX3_share_16 rfl (by decide) rfl ?_
  refine AW.iload_n (pc := 17) dX3_share_17 rfl 1 rfl ?_
  refine AW.bipush (pc := 18) dX3_share_18 cb_100 ?_
  refine AW.idiv (pc := 20) dX3_share_20 (by decide) ?_
  refine AW.genI (fun v8 => ?_)
  refine AW.istore (pc := 21) [1, 2, 3, 4, 0] [(0, .ref (ad E this)), (1, .int x1), (2, .ref (ad E (mR M (mR M this 0) 0))), (3, .int v5), (4, .int v8)] dX3_share_21 (by decide) rfl ?_
  refine AW.iload_n (pc := 23) dX3_share_23 rfl 3 rfl ?_
  refine AW.istore (pc := 24) [1, 2, 3, 4, 5, 0] [(0, .ref (ad E this)), (1, .int x1), (2, .ref (ad E (mR M (mR M this 0) 0))), (3, .int v5), (4, .int v8), (5, .int v5)] dX3_share_24 (by decide) rfl ?_
  refine AW.iconst (pc := 26) dX3_share_26 ci_0 ?_
  refine AW.istore (pc := 27) [1, 2, 3, 4, 5, 6, 0] [(0, .ref (ad E this)), (1, .int x1), (2, .ref (ad E (mR M (mR M this 0) 0))), (3, .int v5), (4, .int v8), (5, .int v5), (6, .int 0)] dX3_share_27 (by decide) rfl ?_
  exact kX3_share_L29 l E n hn ct hct ex FU this x1 (mR M (mR M this 0) 0) v5 v8 v5 0 M6 hthis
-- GateBox$Couples.go(I)V
def zX3_go_B29 (KK2 : Nat → Int32 → Int32 → Mem → Option (Unit × Mem)) (KK29 : Nat → Int32 → Int32 → Int32 → Mem → Option (Unit × Mem)) (this : Nat) (x1 : Int32) (x2 : Int32) (x3 : Int32) (M : Mem) : Option (Unit × Mem) :=
  if mR M this 2 ≠ 0 then
  if K0 (mR M this 2) = (0, 1) then
  if (mI M (mR M this 2) 2) ≤ x3 then
    if mR M this 3 ≠ 0 then
    lt (sR M this 2 (mR M this 3)) fun M5 =>
    lt (sR M5 this 3 (mR M this 2)) fun M6 =>
    KK2 this x1 (x2 + 1) M6
    else none
  else
    bnd (zX1_placeOf (mR M this 2) x3 M) fun v7 M8 =>
    bnd (zX3_share this v7 M8) fun _ M9 =>
    KK29 this x1 x2 (x3 + 1) M9
  else none
  else none
def zX3_go_L29 (KK2 : Nat → Int32 → Int32 → Mem → Option (Unit × Mem)) : Nat → Nat → Int32 → Int32 → Int32 → Mem → Option (Unit × Mem)
  | 0 => fun _ _ _ _ _ => none
  | k + 1 => zX3_go_B29 KK2 (zX3_go_L29 KK2 k)
def zX3_go_B2 (KK2 : Nat → Int32 → Int32 → Mem → Option (Unit × Mem)) (this : Nat) (x1 : Int32) (x2 : Int32) (M : Mem) : Option (Unit × Mem) :=
  if x1 ≤ x2 then
    some ((), M)
  else
    if mR M this 0 ≠ 0 then
    if K0 (mR M this 0) = (0, 5) then
    if mR M (mR M this 0) 0 ≠ 0 then
    if K0 (mR M (mR M this 0) 0) = (0, 8) then
    if (mI M (mR M (mR M this 0) 0) 0) ≤ 0 then
      some ((), M)
    else
      if mR M this 3 ≠ 0 then
      if K0 (mR M this 3) = (0, 1) then
      bnd (zX1_clear (mR M this 3) M) fun _ M8 =>
      zX3_go_L29 KK2 FU this x1 x2 0 M8
      else none
      else none
    else none
    else none
    else none
    else none
def zX3_go_L2 : Nat → Nat → Int32 → Int32 → Mem → Option (Unit × Mem)
  | 0 => fun _ _ _ _ => none
  | k + 1 => zX3_go_B2 (zX3_go_L2 k)
def zX3_go (this : Nat) (x1 : Int32) (M : Mem) : Option (Unit × Mem) :=
  if K0 this = (0, 3) then
  zX3_go_L2 FU this x1 0 M
  else none
set_option maxRecDepth 20000 in
set_option maxHeartbeats 4000000 in
theorem kX3_go_B29 (l : Launch) (E : Ev) (n : Nat) (hn : 6 ≤ n) (ct : Nat) (hct : 111 ≤ ct) (ex : Bool) (KK2 : Nat → Int32 → Int32 → Mem → Option (Unit × Mem)) (hKK2 : ∀ (this : Nat) (x1 : Int32) (x2 : Int32) (M : Mem) (_ : K0 this = (0, 3)), AW l E fX3_go (fun _ => rmN n 0 0) (PQr E 0 0 ct ex enU) ct ex 0 0 2 [(0, .ref (ad E this)), (1, .int x1), (2, .int x2)] [] M (KK2 this x1 x2 M)) (KK29 : Nat → Int32 → Int32 → Int32 → Mem → Option (Unit × Mem)) (hKK29 : ∀ (this : Nat) (x1 : Int32) (x2 : Int32) (x3 : Int32) (M : Mem) (_ : K0 this = (0, 3)), AW l E fX3_go (fun _ => rmN n 0 0) (PQr E 0 0 ct ex enU) ct ex 0 0 29 [(0, .ref (ad E this)), (1, .int x1), (2, .int x2), (3, .int x3)] [] M (KK29 this x1 x2 x3 M)) (this : Nat) (x1 : Int32) (x2 : Int32) (x3 : Int32) (M : Mem) (hthis : K0 this = (0, 3)) : AW l E fX3_go (fun _ => rmN n 0 0) (PQr E 0 0 ct ex enU) ct ex 0 0 29 [(0, .ref (ad E this)), (1, .int x1), (2, .int x2), (3, .int x3)] [] M (zX3_go_B29 KK2 KK29 this x1 x2 x3 M) := by
  unfold zX3_go_B29
  refine AW.iload_n (pc := 29) dX3_go_29 rfl 3 rfl ?_
  refine AW.aload_n (pc := 30) dX3_go_30 rfl 0 rfl ?_
  refine AW.chk (fun g1 => ?_)
  refine AW.getR (pc := 31) dX3_go_31 flX3_16 hthis (kct hthis rfl hct) g1 ?_
  refine AW.chk (fun g2 => ?_)
  refine AW.getI (pc := 34) dX3_go_34 flX3_71 g2 (kct g2 rfl hct) ?_
  refine AW.icmp_ge (pc := 37) 58 dX3_go_37 (by decide) (fun h3 => ?_) (fun h3 => ?_)
  · refine AW.aload_n (pc := 58) dX3_go_58 rfl 0 rfl ?_
    refine AW.getR (pc := 59) dX3_go_59 flX3_16 hthis (kct hthis rfl hct) g1 ?_
    refine AW.astore_n (pc := 62) [1, 2, 3, 0] [(0, .ref (ad E this)), (1, .int x1), (2, .int x2), (3, .ref (ad E (mR M this 2)))] dX3_go_62 rfl (by decide) rfl ?_
    refine AW.aload_n (pc := 63) dX3_go_63 rfl 0 rfl ?_
    refine AW.aload_n (pc := 64) dX3_go_64 rfl 0 rfl ?_
    refine AW.chk (fun g4 => ?_)
    refine AW.getR (pc := 65) dX3_go_65 flX3_20 hthis (kct hthis rfl hct) g4 ?_
    refine AW.putR (pc := 68) dX3_go_68 flX3_16 (fun h => by cases h) hthis (kct hthis rfl hct) g4 ?_
    refine AW.genM (fun M5 => ?_)
    refine AW.aload_n (pc := 71) dX3_go_71 rfl 0 rfl ?_
    refine AW.aload_n (pc := 72) dX3_go_72 rfl 3 rfl ?_
    refine AW.putR (pc := 73) dX3_go_73 flX3_20 (fun h => by cases h) hthis (kct hthis rfl hct) g1 ?_
    refine AW.genM (fun M6 => ?_)
    refine AW.iinc (pc := 76) (w := 2) [1, 2, 0] [(0, .ref (ad E this)), (1, .int x1), (2, .int (x2 + 1))] dX3_go_76 rfl (inc_1 _) (by decide) rfl ?_
    refine AW.goto (pc := 79) 2 dX3_go_79 (by decide) ?_
    exact hKK2 this x1 (x2 + 1) M6 hthis
  · refine AW.aload_n (pc := 40) dX3_go_40 rfl 0 rfl ?_
    refine AW.aload_n (pc := 41) dX3_go_41 rfl 0 rfl ?_
    refine AW.getR (pc := 42) dX3_go_42 flX3_16 hthis (kct hthis rfl hct) g1 ?_
    refine AW.iload_n (pc := 45) dX3_go_45 rfl 3 rfl ?_
    refine AW.cV1i (pc := 46) dX3_go_46 mlX3_74 mbX1_placeOf rfl g2 (kct g2 rfl hct) (fun _ => okR_N (by omega)) (kX1_placeOf l E (n - 1) (by omega) ct hct ex (mR M this 2) x3 M) (Nat.le_of_ble_eq_true rfl) (fun v7 M8 => ?_)
    refine AW.cV1v (pc := 49) dX3_go_49 mlX3_78 mbX3_share rfl hthis (kct hthis rfl hct) (fun _ => okR_N (by omega)) (kX3_share l E (n - 1) (by omega) ct hct ex this v7 M8) (Nat.le_of_ble_eq_true rfl) (fun _ M9 => ?_)
    refine AW.iinc (pc := 52) (w := 3) [1, 2, 3, 0] [(0, .ref (ad E this)), (1, .int x1), (2, .int x2), (3, .int (x3 + 1))] dX3_go_52 rfl (inc_1 _) (by decide) rfl ?_
    refine AW.goto (pc := 55) 29 dX3_go_55 (by decide) ?_
    exact hKK29 this x1 x2 (x3 + 1) M9 hthis
set_option maxRecDepth 20000 in
set_option maxHeartbeats 4000000 in
theorem kX3_go_L29 (l : Launch) (E : Ev) (n : Nat) (hn : 6 ≤ n) (ct : Nat) (hct : 111 ≤ ct) (ex : Bool) (KK2 : Nat → Int32 → Int32 → Mem → Option (Unit × Mem)) (hKK2 : ∀ (this : Nat) (x1 : Int32) (x2 : Int32) (M : Mem) (_ : K0 this = (0, 3)), AW l E fX3_go (fun _ => rmN n 0 0) (PQr E 0 0 ct ex enU) ct ex 0 0 2 [(0, .ref (ad E this)), (1, .int x1), (2, .int x2)] [] M (KK2 this x1 x2 M)) (k : Nat) : ∀ (this : Nat) (x1 : Int32) (x2 : Int32) (x3 : Int32) (M : Mem) (_ : K0 this = (0, 3)), AW l E fX3_go (fun _ => rmN n 0 0) (PQr E 0 0 ct ex enU) ct ex 0 0 29 [(0, .ref (ad E this)), (1, .int x1), (2, .int x2), (3, .int x3)] [] M (zX3_go_L29 KK2 k this x1 x2 x3 M) := by
  induction k with
  | zero => intro this x1 x2 x3 M _; exact AW.none
  | succ k ih =>
    intro this x1 x2 x3 M hthis
    exact kX3_go_B29 l E n hn ct hct ex KK2 hKK2 (zX3_go_L29 KK2 k) ih this x1 x2 x3 M hthis
set_option maxRecDepth 20000 in
set_option maxHeartbeats 4000000 in
theorem kX3_go_B2 (l : Launch) (E : Ev) (n : Nat) (hn : 6 ≤ n) (ct : Nat) (hct : 111 ≤ ct) (ex : Bool) (KK2 : Nat → Int32 → Int32 → Mem → Option (Unit × Mem)) (hKK2 : ∀ (this : Nat) (x1 : Int32) (x2 : Int32) (M : Mem) (_ : K0 this = (0, 3)), AW l E fX3_go (fun _ => rmN n 0 0) (PQr E 0 0 ct ex enU) ct ex 0 0 2 [(0, .ref (ad E this)), (1, .int x1), (2, .int x2)] [] M (KK2 this x1 x2 M)) (this : Nat) (x1 : Int32) (x2 : Int32) (M : Mem) (hthis : K0 this = (0, 3)) : AW l E fX3_go (fun _ => rmN n 0 0) (PQr E 0 0 ct ex enU) ct ex 0 0 2 [(0, .ref (ad E this)), (1, .int x1), (2, .int x2)] [] M (zX3_go_B2 KK2 this x1 x2 M) := by
  unfold zX3_go_B2
  refine AW.iload_n (pc := 2) dX3_go_2 rfl 2 rfl ?_
  refine AW.iload_n (pc := 3) dX3_go_3 rfl 1 rfl ?_
  refine AW.icmp_ge (pc := 4) 82 dX3_go_4 (by decide) (fun h1 => ?_) (fun h1 => ?_)
  · exact AW.vret (pc := 82) dX3_go_82 rfl (fun _ _ _ => rfl) (Nat.le_refl _) (Nat.le_refl _)
  · refine AW.aload_n (pc := 7) dX3_go_7 rfl 0 rfl ?_
    refine AW.chk (fun g2 => ?_)
    refine AW.getR (pc := 8) dX3_go_8 flX3_33 hthis (kct hthis rfl hct) g2 ?_
    refine AW.chk (fun g3 => ?_)
    refine AW.chk (fun g4 => ?_)
    refine AW.getR (pc := 11) dX3_go_11 flX3_63 g3 (kct g3 rfl hct) g4 ?_
    refine AW.chk (fun g5 => ?_)
    refine AW.getI (pc := 14) dX3_go_14 flX3_67 g5 (kct g5 rfl hct) ?_
    refine AW.if_le (pc := 17) 82 dX3_go_17 (by decide) (fun h6 => ?_) (fun h6 => ?_)
    · exact AW.vret (pc := 82) dX3_go_82 rfl (fun _ _ _ => rfl) (Nat.le_refl _) (Nat.le_refl _)
    · refine AW.aload_n (pc := 20) dX3_go_20 rfl 0 rfl ?_
      refine AW.chk (fun g7 => ?_)
      refine AW.getR (pc := 21) dX3_go_21 flX3_20 hthis (kct hthis rfl hct) g7 ?_
      refine AW.chk (fun g9 => ?_)
      refine AW.cV0v (pc := 24) dX3_go_24 mlX3_55 mbX1_clear rfl g9 (kct g9 rfl hct) (fun _ => okR_N (by omega)) (kX1_clear l E (n - 1) (by omega) ct hct ex (mR M this 3) M) (Nat.le_of_ble_eq_true rfl) (fun _ M8 => ?_)
      refine AW.iconst (pc := 27) dX3_go_27 ci_0 ?_
      refine AW.istore_n (pc := 28) [1, 2, 3, 0] [(0, .ref (ad E this)), (1, .int x1), (2, .int x2), (3, .int 0)] dX3_go_28 rfl (by decide) rfl ?_
      exact kX3_go_L29 l E n hn ct hct ex KK2 hKK2 FU this x1 x2 0 M8 hthis
set_option maxRecDepth 20000 in
set_option maxHeartbeats 4000000 in
theorem kX3_go_L2 (l : Launch) (E : Ev) (n : Nat) (hn : 6 ≤ n) (ct : Nat) (hct : 111 ≤ ct) (ex : Bool) (k : Nat) : ∀ (this : Nat) (x1 : Int32) (x2 : Int32) (M : Mem) (_ : K0 this = (0, 3)), AW l E fX3_go (fun _ => rmN n 0 0) (PQr E 0 0 ct ex enU) ct ex 0 0 2 [(0, .ref (ad E this)), (1, .int x1), (2, .int x2)] [] M (zX3_go_L2 k this x1 x2 M) := by
  induction k with
  | zero => intro this x1 x2 M _; exact AW.none
  | succ k ih =>
    intro this x1 x2 M hthis
    exact kX3_go_B2 l E n hn ct hct ex (zX3_go_L2 k) ih this x1 x2 M hthis
set_option maxRecDepth 20000 in
set_option maxHeartbeats 4000000 in
theorem kX3_go (l : Launch) (E : Ev) (n : Nat) (hn : 6 ≤ n) (ct : Nat) (hct : 111 ≤ ct) (ex : Bool) (this : Nat) (x1 : Int32) (M : Mem) : AM l E n ct ex yX3_go fX3_go enU [.ref (ad E this), .int x1] M (zX3_go this x1 M) := by
  unfold zX3_go
  refine AM.of (by decide +kernel) ⟨rfl, rfl, rfl⟩ (Nat.le_of_ble_eq_true rfl) ?_
  refine AW.chk (fun hthis => ?_)
  refine AW.iconst (pc := 0) dX3_go_0 ci_0 ?_
  refine AW.istore_n (pc := 1) [1, 2, 0] [(0, .ref (ad E this)), (1, .int x1), (2, .int 0)] dX3_go_1 rfl (by decide) rfl ?_
  exact kX3_go_L2 l E n hn ct hct ex FU this x1 0 M hthis
-- GateBox.near(II)I
def zX11_near_B114 (s0 : Int64) (M : Mem) : Option ((Int32 ⊕ Nat) × Mem) :=
  some (.inl (Int64.toInt32 (s0 / 1000000)), M)
def zX11_near (this : Nat) (x1 : Int32) (x2 : Int32) (M : Mem) : Option ((Int32 ⊕ Nat) × Mem) :=
  if K0 this = (0, 11) then
  bndX (zX11_askKnown x2 2 M) fun _ M1 =>
  bndX (zX11_askRange x1 0 60 M1) fun _ M2 =>
  if mR M2 this 7 ≠ 0 then
  if mR M2 this 1 ≠ 0 then
  if K0 (mR M2 this 1) = (0, 4) then
  if mR M2 (mR M2 this 1) 0 ≠ 0 then
  if K0 (mR M2 (mR M2 this 1) 0) = (0, 8) then
  if mR M2 (mR M2 (mR M2 this 1) 0) 12 ≠ 0 then
  if K0 (mR M2 this 7) = (0, 5) then
  bnd (zX5_begin (mR M2 this 7) (mR M2 (mR M2 this 1) 0) (mR M2 (mR M2 (mR M2 this 1) 0) 12) M2) fun _ M9 =>
  if mR M9 this 9 ≠ 0 then
  if mR M9 this 2 ≠ 0 then
  if K0 (mR M9 this 2) = (0, 4) then
  if mR M9 (mR M9 this 2) 0 ≠ 0 then
  if mR M9 this 1 ≠ 0 then
  if K0 (mR M9 this 1) = (0, 4) then
  if mR M9 (mR M9 this 1) 1 ≠ 0 then
  if K0 (mR M9 (mR M9 this 1) 1) = (0, 0) then
  if mR M9 (mR M9 this 2) 1 ≠ 0 then
  if K0 (mR M9 (mR M9 this 2) 1) = (0, 0) then
  if K0 (mR M9 this 9) = (0, 3) then
  bnd (zX3_begin (mR M9 this 9) (mR M9 (mR M9 this 2) 0) (mI M9 (mR M9 (mR M9 this 1) 1) 0) (mI M9 (mR M9 (mR M9 this 2) 1) 0) M9) fun _ M21 =>
  if mR M21 this 9 ≠ 0 then
  if K0 (mR M21 this 9) = (0, 3) then
  bnd (zX3_go (mR M21 this 9) x1 M21) fun _ M24 =>
  if x2 = 0 then
    if mR M24 this 9 ≠ 0 then
    if K0 (mR M24 this 9) = (0, 3) then
    zX11_near_B114 (mL M24 (mR M24 this 9) 4) M24
    else none
    else none
  else
    if x2 = 1 then
      if mR M24 this 9 ≠ 0 then
      if K0 (mR M24 this 9) = (0, 3) then
      zX11_near_B114 (mL M24 (mR M24 this 9) 5) M24
      else none
      else none
    else
      if mR M24 this 9 ≠ 0 then
      if K0 (mR M24 this 9) = (0, 3) then
      zX11_near_B114 (mL M24 (mR M24 this 9) 6) M24
      else none
      else none
  else none
  else none
  else none
  else none
  else none
  else none
  else none
  else none
  else none
  else none
  else none
  else none
  else none
  else none
  else none
  else none
  else none
  else none
  else none
  else none
  else none
set_option maxRecDepth 20000 in
set_option maxHeartbeats 4000000 in
theorem kX11_near_B114 (l : Launch) (E : Ev) (hst : l.stackTraces = false) (n : Nat) (hn : 7 ≤ n) (ct : Nat) (hct : 111 ≤ ct) (ex : Bool) (s0 : Int64) (M : Mem) : AW l E fX11_near (RX n) (PQX E ct ex enI) ct ex 0 0 114 [] [.long s0] M (zX11_near_B114 s0 M) := by
  unfold zX11_near_B114
  refine AW.lstore_n (pc := 114) [0] [(3, .long s0)] dX11_near_114 rfl (by decide) rfl ?_
  refine AW.lload_n (pc := 115) dX11_near_115 rfl 0 rfl ?_
  refine AW.ldc2 (pc := 116) dX11_near_116 ccX11_276 ?_
  refine AW.ldiv (pc := 119) dX11_near_119 (by decide) ?_
  refine AW.l2i (pc := 120) dX11_near_120 ?_
  exact AW.iret (pc := 121) dX11_near_121 rfl (fun _ _ _ => rfl) (Nat.le_refl _) (Nat.le_refl _)
set_option maxRecDepth 20000 in
set_option maxHeartbeats 4000000 in
theorem kX11_near (l : Launch) (E : Ev) (hst : l.stackTraces = false) (n : Nat) (hn : 7 ≤ n) (ct : Nat) (hct : 111 ≤ ct) (ex : Bool) (this : Nat) (x1 : Int32) (x2 : Int32) (M : Mem) : AMX l E n ct ex yX11_near fX11_near enI [.ref (ad E this), .int x1, .int x2] M (zX11_near this x1 x2 M) := by
  unfold zX11_near
  refine AMX.of (by decide +kernel) ⟨rfl, rfl, rfl⟩ (Nat.le_of_ble_eq_true rfl) ?_
  refine AW.chk (fun hthis => ?_)
  refine AW.iload_n (pc := 0) dX11_near_0 rfl 2 rfl ?_
  refine AW.iconst (pc := 1) dX11_near_1 ci_2 ?_
  refine AW.xS2v (pc := 2) rfl dX11_near_2 mlX11_134 mbX11_askKnown (by omega) (kX11_askKnown l E hst (n - 1) (by omega) ct hct ex x2 2 M) (Nat.le_of_ble_eq_true rfl) (fun _ M1 => ?_)
  refine AW.iload_n (pc := 5) dX11_near_5 rfl 1 rfl ?_
  refine AW.iconst (pc := 6) dX11_near_6 ci_0 ?_
  refine AW.bipush (pc := 7) dX11_near_7 cb_60 ?_
  refine AW.xS3v (pc := 9) rfl dX11_near_9 mlX11_110 mbX11_askRange (by omega) (kX11_askRange l E hst (n - 1) (by omega) ct hct ex x1 0 60 M1) (Nat.le_of_ble_eq_true rfl) (fun _ M2 => ?_)
  refine AW.aload_n (pc := 12) dX11_near_12 rfl 0 rfl ?_
  refine AW.chk (fun g3 => ?_)
  refine AW.getR (pc := 13) dX11_near_13 flX11_50 hthis (kct hthis rfl hct) g3 ?_
  refine AW.aload_n (pc := 16) dX11_near_16 rfl 0 rfl ?_
  refine AW.chk (fun g4 => ?_)
  refine AW.getR (pc := 17) dX11_near_17 flX11_19 hthis (kct hthis rfl hct) g4 ?_
  refine AW.chk (fun g5 => ?_)
  refine AW.chk (fun g6 => ?_)
  refine AW.getR (pc := 20) dX11_near_20 flX11_43 g5 (kct g5 rfl hct) g6 ?_
  refine AW.aload_n (pc := 23) dX11_near_23 rfl 0 rfl ?_
  refine AW.getR (pc := 24) dX11_near_24 flX11_19 hthis (kct hthis rfl hct) g4 ?_
  refine AW.getR (pc := 27) dX11_near_27 flX11_43 g5 (kct g5 rfl hct) g6 ?_
  refine AW.chk (fun g7 => ?_)
  refine AW.chk (fun g8 => ?_)
  refine AW.getR (pc := 30) dX11_near_30 flX11_164 g7 (kct g7 rfl hct) g8 ?_
  refine AW.chk (fun g10 => ?_)
  refine AW.cV2v (pc := 33) dX11_near_33 mlX11_167 mbX5_begin rfl g10 (kct g10 rfl hct) (fun r => okR_X (by omega) r) (kX5_begin l E (n - 1) (by omega) ct hct ex (mR M2 this 7) (mR M2 (mR M2 this 1) 0) (mR M2 (mR M2 (mR M2 this 1) 0) 12) M2) (Nat.le_of_ble_eq_true rfl) (fun _ M9 => ?_)
  refine AW.aload_n (pc := 36) dX11_near_36 rfl 0 rfl ?_
  refine AW.chk (fun g11 => ?_)
  refine AW.getR (pc := 37) dX11_near_37 flX11_68 hthis (kct hthis rfl hct) g11 ?_
  refine AW.aload_n (pc := 40) dX11_near_40 rfl 0 rfl ?_
  refine AW.chk (fun g12 => ?_)
  refine AW.getR (pc := 41) dX11_near_41 flX11_23 hthis (kct hthis rfl hct) g12 ?_
  refine AW.chk (fun g13 => ?_)
  refine AW.chk (fun g14 => ?_)
  refine AW.getR (pc := 44) dX11_near_44 flX11_43 g13 (kct g13 rfl hct) g14 ?_
  refine AW.aload_n (pc := 47) dX11_near_47 rfl 0 rfl ?_
  refine AW.chk (fun g15 => ?_)
  refine AW.getR (pc := 48) dX11_near_48 flX11_19 hthis (kct hthis rfl hct) g15 ?_
  refine AW.chk (fun g16 => ?_)
  refine AW.chk (fun g17 => ?_)
  refine AW.getR (pc := 51) dX11_near_51 flX11_125 g16 (kct g16 rfl hct) g17 ?_
  refine AW.chk (fun g18 => ?_)
  refine AW.getI (pc := 54) dX11_near_54 flX11_207 g18 (kct g18 rfl hct) ?_
  refine AW.aload_n (pc := 57) dX11_near_57 rfl 0 rfl ?_
  refine AW.getR (pc := 58) dX11_near_58 flX11_23 hthis (kct hthis rfl hct) g12 ?_
  refine AW.chk (fun g19 => ?_)
  refine AW.getR (pc := 61) dX11_near_61 flX11_125 g13 (kct g13 rfl hct) g19 ?_
  refine AW.chk (fun g20 => ?_)
  refine AW.getI (pc := 64) dX11_near_64 flX11_207 g20 (kct g20 rfl hct) ?_
  refine AW.chk (fun g22 => ?_)
  refine AW.cV3v (pc := 67) dX11_near_67 mlX11_278 mbX3_begin rfl g22 (kct g22 rfl hct) (fun r => okR_X (by omega) r) (kX3_begin l E (n - 1) (by omega) ct hct ex (mR M9 this 9) (mR M9 (mR M9 this 2) 0) (mI M9 (mR M9 (mR M9 this 1) 1) 0) (mI M9 (mR M9 (mR M9 this 2) 1) 0) M9) (Nat.le_of_ble_eq_true rfl) (fun _ M21 => ?_)
  refine AW.aload_n (pc := 70) dX11_near_70 rfl 0 rfl ?_
  refine AW.chk (fun g23 => ?_)
  refine AW.getR (pc := 71) dX11_near_71 flX11_68 hthis (kct hthis rfl hct) g23 ?_
  refine AW.iload_n (pc := 74) dX11_near_74 rfl 1 rfl ?_
  refine AW.chk (fun g25 => ?_)
  refine AW.cV1v (pc := 75) dX11_near_75 mlX11_281 mbX3_go rfl g25 (kct g25 rfl hct) (fun r => okR_X (by omega) r) (kX3_go l E (n - 1) (by omega) ct hct ex (mR M21 this 9) x1 M21) (Nat.le_of_ble_eq_true rfl) (fun _ M24 => ?_)
  refine AW.iload_n (pc := 78) dX11_near_78 rfl 2 rfl ?_
  refine AW.if_ne (pc := 79) 92 dX11_near_79 (by decide) (fun h26 => ?_) (fun h26 => ?_)
  · refine AW.aload_n (pc := 82) dX11_near_82 rfl 0 rfl ?_
    refine AW.chk (fun g27 => ?_)
    refine AW.getR (pc := 83) dX11_near_83 flX11_68 hthis (kct hthis rfl hct) g27 ?_
    refine AW.chk (fun g28 => ?_)
    refine AW.getL (pc := 86) dX11_near_86 flX11_282 g28 (kct g28 rfl hct) ?_
    refine AW.goto (pc := 89) 114 dX11_near_89 (by decide) ?_
    exact AW.sub [] rfl (kX11_near_B114 l E hst n hn ct hct ex (mL M24 (mR M24 this 9) 4) M24)
  · refine AW.iload_n (pc := 92) dX11_near_92 rfl 2 rfl ?_
    refine AW.iconst (pc := 93) dX11_near_93 ci_1 ?_
    refine AW.icmp_ne (pc := 94) 107 dX11_near_94 (by decide) (fun h29 => ?_) (fun h29 => ?_)
    · refine AW.aload_n (pc := 97) dX11_near_97 rfl 0 rfl ?_
      refine AW.chk (fun g30 => ?_)
      refine AW.getR (pc := 98) dX11_near_98 flX11_68 hthis (kct hthis rfl hct) g30 ?_
      refine AW.chk (fun g31 => ?_)
      refine AW.getL (pc := 101) dX11_near_101 flX11_285 g31 (kct g31 rfl hct) ?_
      refine AW.goto (pc := 104) 114 dX11_near_104 (by decide) ?_
      exact AW.sub [] rfl (kX11_near_B114 l E hst n hn ct hct ex (mL M24 (mR M24 this 9) 5) M24)
    · refine AW.aload_n (pc := 107) dX11_near_107 rfl 0 rfl ?_
      refine AW.chk (fun g32 => ?_)
      refine AW.getR (pc := 108) dX11_near_108 flX11_68 hthis (kct hthis rfl hct) g32 ?_
      refine AW.chk (fun g33 => ?_)
      refine AW.getL (pc := 111) dX11_near_111 flX11_288 g33 (kct g33 rfl hct) ?_
      exact AW.sub [] rfl (kX11_near_B114 l E hst n hn ct hct ex (mL M24 (mR M24 this 9) 6) M24)
-- GateBox$Book.write(I)V
def zX0_write (this : Nat) (x1 : Int32) (M : Mem) : Option (Unit × Mem) :=
  if K0 this = (0, 0) then
  if 200 ≤ (mI M this 2) then
    some ((), M)
  else
    if mR M this 5 ≠ 0 then
    bnd (zX11_put (mR M this 5) (mI M this 2) x1 M) fun _ M3 =>
    lt (sI M3 this 2 ((mI M3 this 2) + 1)) fun M4 =>
    some ((), M4)
    else none
  else none
set_option maxRecDepth 20000 in
set_option maxHeartbeats 4000000 in
theorem kX0_write (l : Launch) (E : Ev) (n : Nat) (hn : 2 ≤ n) (ct : Nat) (hct : 111 ≤ ct) (ex : Bool) (this : Nat) (x1 : Int32) (M : Mem) : AM l E n ct ex yX0_write fX0_write enU [.ref (ad E this), .int x1] M (zX0_write this x1 M) := by
  unfold zX0_write
  refine AM.of (by decide +kernel) ⟨rfl, rfl, rfl⟩ (Nat.le_of_ble_eq_true rfl) ?_
  refine AW.chk (fun hthis => ?_)
  refine AW.aload_n (pc := 0) dX0_write_0 rfl 0 rfl ?_
  refine AW.getI (pc := 1) dX0_write_1 flX0_18 hthis (kct hthis rfl hct) ?_
  refine AW.sipush (pc := 4) dX0_write_4 cs_200 ?_
  refine AW.icmp_ge (pc := 7) 32 dX0_write_7 (by decide) (fun h1 => ?_) (fun h1 => ?_)
  · exact AW.vret (pc := 32) dX0_write_32 rfl (fun _ _ _ => rfl) (Nat.le_refl _) (Nat.le_refl _)
  · refine AW.aload_n (pc := 10) dX0_write_10 rfl 0 rfl ?_
    refine AW.chk (fun g2 => ?_)
    refine AW.getR (pc := 11) dX0_write_11 flX0_27 hthis (kct hthis rfl hct) g2 ?_
    refine AW.aload_n (pc := 14) dX0_write_14 rfl 0 rfl ?_
    refine AW.getI (pc := 15) dX0_write_15 flX0_18 hthis (kct hthis rfl hct) ?_
    refine AW.iload_n (pc := 18) dX0_write_18 rfl 1 rfl ?_
    refine AW.cN3v (pc := 19) dX0_write_19 nlX0_48 mbX11_put (fun _ => okR_N (by omega)) (kX11_put l E (n - 1) (by omega) ct hct ex (mR M this 5) (mI M this 2) x1 M) (Nat.le_of_ble_eq_true rfl) (fun _ M3 => ?_)
    refine AW.aload_n (pc := 22) dX0_write_22 rfl 0 rfl ?_
    refine AW.dup (pc := 23) dX0_write_23 rfl ?_
    refine AW.getI (pc := 24) dX0_write_24 flX0_18 hthis (kct hthis rfl hct) ?_
    refine AW.iconst (pc := 27) dX0_write_27 ci_1 ?_
    refine AW.iadd (pc := 28) dX0_write_28 ?_
    refine AW.putI (pc := 29) dX0_write_29 flX0_18 hthis (kct hthis rfl hct) ?_
    refine AW.genM (fun M4 => ?_)
    exact AW.vret (pc := 32) dX0_write_32 rfl (fun _ _ _ => rfl) (Nat.le_refl _) (Nat.le_refl _)
-- GateBox$Gate.goOnWith(I)V
def zX4_goOnWith (this : Nat) (x1 : Int32) (M : Mem) : Option (Unit × Mem) :=
  if K0 this = (0, 4) then
  if mR M this 1 ≠ 0 then
  if K0 (mR M this 1) = (0, 0) then
  bnd (zX0_write (mR M this 1) x1 M) fun _ M2 =>
  if mR M2 this 1 ≠ 0 then
  if mR M2 this 0 ≠ 0 then
  if K0 (mR M2 this 1) = (0, 0) then
  if K0 (mR M2 this 0) = (0, 8) then
  bnd (zX8_stateBehind (mR M2 this 0) (mI M2 (mR M2 this 1) 1) x1 M2) fun v7 M8 =>
  lt (sI M8 (mR M2 this 1) 1 v7) fun M10 =>
  some ((), M10)
  else none
  else none
  else none
  else none
  else none
  else none
  else none
set_option maxRecDepth 20000 in
set_option maxHeartbeats 4000000 in
theorem kX4_goOnWith (l : Launch) (E : Ev) (n : Nat) (hn : 3 ≤ n) (ct : Nat) (hct : 111 ≤ ct) (ex : Bool) (this : Nat) (x1 : Int32) (M : Mem) : AM l E n ct ex yX4_goOnWith fX4_goOnWith enU [.ref (ad E this), .int x1] M (zX4_goOnWith this x1 M) := by
  unfold zX4_goOnWith
  refine AM.of (by decide +kernel) ⟨rfl, rfl, rfl⟩ (Nat.le_of_ble_eq_true rfl) ?_
  refine AW.chk (fun hthis => ?_)
  refine AW.aload_n (pc := 0) dX4_goOnWith_0 rfl 0 rfl ?_
  refine AW.chk (fun g1 => ?_)
  refine AW.getR (pc := 1) dX4_goOnWith_1 flX4_21 hthis (kct hthis rfl hct) g1 ?_
  refine AW.iload_n (pc := 4) dX4_goOnWith_4 rfl 1 rfl ?_
  refine AW.chk (fun g3 => ?_)
  refine AW.cV1v (pc := 5) dX4_goOnWith_5 mlX4_32 mbX0_write rfl g3 (kct g3 rfl hct) (fun _ => okR_N (by omega)) (kX0_write l E (n - 1) (by omega) ct hct ex (mR M this 1) x1 M) (Nat.le_of_ble_eq_true rfl) (fun _ M2 => ?_)
  refine AW.aload_n (pc := 8) dX4_goOnWith_8 rfl 0 rfl ?_
  refine AW.chk (fun g4 => ?_)
  refine AW.getR (pc := 9) dX4_goOnWith_9 flX4_21 hthis (kct hthis rfl hct) g4 ?_
  refine AW.aload_n (pc := 12) dX4_goOnWith_12 rfl 0 rfl ?_
  refine AW.chk (fun g5 => ?_)
  refine AW.getR (pc := 13) dX4_goOnWith_13 flX4_12 hthis (kct hthis rfl hct) g5 ?_
  refine AW.aload_n (pc := 16) dX4_goOnWith_16 rfl 0 rfl ?_
  refine AW.getR (pc := 17) dX4_goOnWith_17 flX4_21 hthis (kct hthis rfl hct) g4 ?_
  refine AW.chk (fun g6 => ?_)
  refine AW.getI (pc := 20) dX4_goOnWith_20 flX4_36 g6 (kct g6 rfl hct) ?_
  refine AW.iload_n (pc := 23) dX4_goOnWith_23 rfl 1 rfl ?_
  refine AW.chk (fun g9 => ?_)
  refine AW.cV2i (pc := 24) dX4_goOnWith_24 mlX4_39 mbX8_stateBehind rfl g9 (kct g9 rfl hct) (fun _ => okR_N (by omega)) (kX8_stateBehind l E (n - 1) (by omega) ct hct ex (mR M2 this 0) (mI M2 (mR M2 this 1) 1) x1 M2) (Nat.le_of_ble_eq_true rfl) (fun v7 M8 => ?_)
  refine AW.putI (pc := 27) dX4_goOnWith_27 flX4_36 g6 (kct g6 rfl hct) ?_
  refine AW.genM (fun M10 => ?_)
  exact AW.vret (pc := 30) dX4_goOnWith_30 rfl (fun _ _ _ => rfl) (Nat.le_refl _) (Nat.le_refl _)
-- GateBox.give(II)I
def zX11_give_B29 (this : Nat) (M : Mem) : Option ((Int32 ⊕ Nat) × Mem) :=
  bnd (zX11_refused this 1 M) fun _ M1 =>
  some (.inl (-1), M1)
def zX11_give (this : Nat) (x1 : Int32) (x2 : Int32) (M : Mem) : Option ((Int32 ⊕ Nat) × Mem) :=
  if K0 this = (0, 11) then
  bndX (zX11_gateOf this x1 M) fun v1 M2 =>
  if x2 < 0 then
    zX11_give_B29 this M2
  else
    if 9 < x2 then
      zX11_give_B29 this M2
    else
      if K0 v1 = (0, 4) then
      if mR M2 v1 1 ≠ 0 then
      if K0 (mR M2 v1 1) = (0, 0) then
      if (mI M2 (mR M2 v1 1) 2) < 200 then
        bnd (zX4_goOnWith v1 x2 M2) fun _ M9 =>
        if mR M9 v1 1 ≠ 0 then
        if K0 (mR M9 v1 1) = (0, 0) then
        some (.inl (mI M9 (mR M9 v1 1) 2), M9)
        else none
        else none
      else
        zX11_give_B29 this M2
      else none
      else none
      else none
  else none
set_option maxRecDepth 20000 in
set_option maxHeartbeats 4000000 in
theorem kX11_give_B29 (l : Launch) (E : Ev) (hst : l.stackTraces = false) (n : Nat) (hn : 8 ≤ n) (ct : Nat) (hct : 111 ≤ ct) (ex : Bool) (this : Nat) (M : Mem) (hthis : K0 this = (0, 11)) : AW l E fX11_give (RX n) (PQX E ct ex enI) ct ex 0 0 29 [(0, .ref (ad E this))] [] M (zX11_give_B29 this M) := by
  unfold zX11_give_B29
  refine AW.aload_n (pc := 29) dX11_give_29 rfl 0 rfl ?_
  refine AW.iconst (pc := 30) dX11_give_30 ci_1 ?_
  refine AW.cV1v (pc := 31) dX11_give_31 mlX11_121 mbX11_refused rfl hthis (kct hthis rfl hct) (fun r => okR_X (by omega) r) (kX11_refused l E (n - 1) (by omega) ct hct ex this 1 M) (Nat.le_of_ble_eq_true rfl) (fun _ M1 => ?_)
  refine AW.iconst (pc := 34) dX11_give_34 ci_m1 ?_
  exact AW.iret (pc := 35) dX11_give_35 rfl (fun _ _ _ => rfl) (Nat.le_refl _) (Nat.le_refl _)
set_option maxRecDepth 20000 in
set_option maxHeartbeats 4000000 in
theorem kX11_give (l : Launch) (E : Ev) (hst : l.stackTraces = false) (n : Nat) (hn : 8 ≤ n) (ct : Nat) (hct : 111 ≤ ct) (ex : Bool) (this : Nat) (x1 : Int32) (x2 : Int32) (M : Mem) : AMX l E n ct ex yX11_give fX11_give enI [.ref (ad E this), .int x1, .int x2] M (zX11_give this x1 x2 M) := by
  unfold zX11_give
  refine AMX.of (by decide +kernel) ⟨rfl, rfl, rfl⟩ (Nat.le_of_ble_eq_true rfl) ?_
  refine AW.chk (fun hthis => ?_)
  refine AW.aload_n (pc := 0) dX11_give_0 rfl 0 rfl ?_
  refine AW.iload_n (pc := 1) dX11_give_1 rfl 1 rfl ?_
  refine AW.xV1r (pc := 2) rfl dX11_give_2 mlX11_106 mbX11_gateOf rfl hthis (kct hthis rfl hct) (by omega) (kX11_gateOf l E hst (n - 1) (by omega) ct hct ex this x1 M) (Nat.le_of_ble_eq_true rfl) (fun v1 M2 => ?_)
  refine AW.astore_n (pc := 5) [1, 3, 0] [(0, .ref (ad E this)), (2, .int x2), (3, .ref (ad E v1))] dX11_give_5 rfl (by decide) rfl ?_
  refine AW.iload_n (pc := 6) dX11_give_6 rfl 1 rfl ?_
  refine AW.if_lt (pc := 7) 29 dX11_give_7 (by decide) (fun h3 => ?_) (fun h3 => ?_)
  · exact AW.sub [0] rfl (kX11_give_B29 l E hst n hn ct hct ex this M2 hthis)
  · refine AW.iload_n (pc := 10) dX11_give_10 rfl 1 rfl ?_
    refine AW.bipush (pc := 11) dX11_give_11 cb_9 ?_
    refine AW.icmp_gt (pc := 13) 29 dX11_give_13 (by decide) (fun h4 => ?_) (fun h4 => ?_)
    · exact AW.sub [0] rfl (kX11_give_B29 l E hst n hn ct hct ex this M2 hthis)
    · refine AW.aload_n (pc := 16) dX11_give_16 rfl 2 rfl ?_
      refine AW.chk (fun g5 => ?_)
      refine AW.chk (fun g6 => ?_)
      refine AW.getR (pc := 17) dX11_give_17 flX11_125 g5 (kct g5 rfl hct) g6 ?_
      refine AW.chk (fun g7 => ?_)
      refine AW.getI (pc := 20) dX11_give_20 flX11_291 g7 (kct g7 rfl hct) ?_
      refine AW.sipush (pc := 23) dX11_give_23 cs_200 ?_
      refine AW.icmp_lt (pc := 26) 36 dX11_give_26 (by decide) (fun h8 => ?_) (fun h8 => ?_)
      · refine AW.aload_n (pc := 36) dX11_give_36 rfl 2 rfl ?_
        refine AW.iload_n (pc := 37) dX11_give_37 rfl 1 rfl ?_
        refine AW.cV1v (pc := 38) dX11_give_38 mlX11_294 mbX4_goOnWith rfl g5 (kct g5 rfl hct) (fun r => okR_X (by omega) r) (kX4_goOnWith l E (n - 1) (by omega) ct hct ex v1 x2 M2) (Nat.le_of_ble_eq_true rfl) (fun _ M9 => ?_)
        refine AW.aload_n (pc := 41) dX11_give_41 rfl 2 rfl ?_
        refine AW.chk (fun g10 => ?_)
        refine AW.getR (pc := 42) dX11_give_42 flX11_125 g5 (kct g5 rfl hct) g10 ?_
        refine AW.chk (fun g11 => ?_)
        refine AW.getI (pc := 45) dX11_give_45 flX11_291 g11 (kct g11 rfl hct) ?_
        exact AW.iret (pc := 48) dX11_give_48 rfl (fun _ _ _ => rfl) (Nat.le_refl _) (Nat.le_refl _)
      · exact AW.sub [0] rfl (kX11_give_B29 l E hst n hn ct hct ex this M2 hthis)
-- GateBox$Clues.whoGives(II)I
def zX2_whoGives_B42 (KK5 : Nat → Int32 → Int32 → Int32 → Int32 → Mem → Option (Int32 × Mem)) (this : Nat) (x1 : Int32) (x2 : Int32) (x3 : Int32) (x4 : Int32) (M : Mem) : Option (Int32 × Mem) :=
  KK5 this x1 x2 x3 (x4 + 1) M
def zX2_whoGives_B5 (KK5 : Nat → Int32 → Int32 → Int32 → Int32 → Mem → Option (Int32 × Mem)) (this : Nat) (x1 : Int32) (x2 : Int32) (x3 : Int32) (x4 : Int32) (M : Mem) : Option (Int32 × Mem) :=
  if mR M this 0 ≠ 0 then
  if K0 (mR M this 0) = (0, 5) then
  if mR M (mR M this 0) 0 ≠ 0 then
  if K0 (mR M (mR M this 0) 0) = (0, 8) then
  if (mI M (mR M (mR M this 0) 0) 0) ≤ x4 then
    some (x3, M)
  else
    bnd (zX5_giftAt (mR M this 0) x4 x2 0 M) fun v6 M7 =>
    if v6 = x1 then
      lt (x3 ||| (1 <<< (x4 &&& 31))) fun v9 =>
      zX2_whoGives_B42 KK5 this x1 x2 v9 x4 M7
    else
      zX2_whoGives_B42 KK5 this x1 x2 x3 x4 M7
  else none
  else none
  else none
  else none
def zX2_whoGives_L5 : Nat → Nat → Int32 → Int32 → Int32 → Int32 → Mem → Option (Int32 × Mem)
  | 0 => fun _ _ _ _ _ _ => none
  | k + 1 => zX2_whoGives_B5 (zX2_whoGives_L5 k)
def zX2_whoGives (this : Nat) (x1 : Int32) (x2 : Int32) (M : Mem) : Option (Int32 × Mem) :=
  if K0 this = (0, 2) then
  zX2_whoGives_L5 FU this x1 x2 0 0 M
  else none
set_option maxRecDepth 20000 in
set_option maxHeartbeats 4000000 in
theorem kX2_whoGives_B42 (l : Launch) (E : Ev) (n : Nat) (hn : 4 ≤ n) (ct : Nat) (hct : 111 ≤ ct) (ex : Bool) (KK5 : Nat → Int32 → Int32 → Int32 → Int32 → Mem → Option (Int32 × Mem)) (hKK5 : ∀ (this : Nat) (x1 : Int32) (x2 : Int32) (x3 : Int32) (x4 : Int32) (M : Mem) (_ : K0 this = (0, 2)), AW l E fX2_whoGives (fun _ => rmN n 0 0) (PQr E 0 0 ct ex enI) ct ex 0 0 5 [(0, .ref (ad E this)), (1, .int x1), (2, .int x2), (3, .int x3), (4, .int x4)] [] M (KK5 this x1 x2 x3 x4 M)) (this : Nat) (x1 : Int32) (x2 : Int32) (x3 : Int32) (x4 : Int32) (M : Mem) (hthis : K0 this = (0, 2)) : AW l E fX2_whoGives (fun _ => rmN n 0 0) (PQr E 0 0 ct ex enI) ct ex 0 0 42 [(0, .ref (ad E this)), (1, .int x1), (2, .int x2), (3, .int x3), (4, .int x4)] [] M (zX2_whoGives_B42 KK5 this x1 x2 x3 x4 M) := by
  unfold zX2_whoGives_B42
  refine AW.iinc (pc := 42) (w := 4) [1, 2, 3, 4, 0] [(0, .ref (ad E this)), (1, .int x1), (2, .int x2), (3, .int x3), (4, .int (x4 + 1))] dX2_whoGives_42 rfl (inc_1 _) (by decide) rfl ?_
  refine AW.goto (pc := 45) 5 dX2_whoGives_45 (by decide) ?_
  exact hKK5 this x1 x2 x3 (x4 + 1) M hthis
set_option maxRecDepth 20000 in
set_option maxHeartbeats 4000000 in
theorem kX2_whoGives_B5 (l : Launch) (E : Ev) (n : Nat) (hn : 4 ≤ n) (ct : Nat) (hct : 111 ≤ ct) (ex : Bool) (KK5 : Nat → Int32 → Int32 → Int32 → Int32 → Mem → Option (Int32 × Mem)) (hKK5 : ∀ (this : Nat) (x1 : Int32) (x2 : Int32) (x3 : Int32) (x4 : Int32) (M : Mem) (_ : K0 this = (0, 2)), AW l E fX2_whoGives (fun _ => rmN n 0 0) (PQr E 0 0 ct ex enI) ct ex 0 0 5 [(0, .ref (ad E this)), (1, .int x1), (2, .int x2), (3, .int x3), (4, .int x4)] [] M (KK5 this x1 x2 x3 x4 M)) (this : Nat) (x1 : Int32) (x2 : Int32) (x3 : Int32) (x4 : Int32) (M : Mem) (hthis : K0 this = (0, 2)) : AW l E fX2_whoGives (fun _ => rmN n 0 0) (PQr E 0 0 ct ex enI) ct ex 0 0 5 [(0, .ref (ad E this)), (1, .int x1), (2, .int x2), (3, .int x3), (4, .int x4)] [] M (zX2_whoGives_B5 KK5 this x1 x2 x3 x4 M) := by
  unfold zX2_whoGives_B5
  refine AW.iload (pc := 5) dX2_whoGives_5 4 rfl ?_
  refine AW.aload_n (pc := 7) dX2_whoGives_7 rfl 0 rfl ?_
  refine AW.chk (fun g1 => ?_)
  refine AW.getR (pc := 8) dX2_whoGives_8 flX2_28 hthis (kct hthis rfl hct) g1 ?_
  refine AW.chk (fun g2 => ?_)
  refine AW.chk (fun g3 => ?_)
  refine AW.getR (pc := 11) dX2_whoGives_11 flX2_53 g2 (kct g2 rfl hct) g3 ?_
  refine AW.chk (fun g4 => ?_)
  refine AW.getI (pc := 14) dX2_whoGives_14 flX2_64 g4 (kct g4 rfl hct) ?_
  refine AW.icmp_ge (pc := 17) 48 dX2_whoGives_17 (by decide) (fun h5 => ?_) (fun h5 => ?_)
  · refine AW.iload_n (pc := 48) dX2_whoGives_48 rfl 3 rfl ?_
    exact AW.iret (pc := 49) dX2_whoGives_49 rfl (fun _ _ _ => rfl) (Nat.le_refl _) (Nat.le_refl _)
  · refine AW.aload_n (pc := 20) dX2_whoGives_20 rfl 0 rfl ?_
    refine AW.getR (pc := 21) dX2_whoGives_21 flX2_28 hthis (kct hthis rfl hct) g1 ?_
    refine AW.iload (pc := 24) dX2_whoGives_24 4 rfl ?_
    refine AW.iload_n (pc := 26) dX2_whoGives_26 rfl 2 rfl ?_
    refine AW.iconst (pc := 27) dX2_whoGives_27 ci_0 ?_
    refine AW.cV3i (pc := 28) dX2_whoGives_28 mlX2_67 mbX5_giftAt rfl g2 (kct g2 rfl hct) (fun _ => okR_N (by omega)) (kX5_giftAt l E (n - 1) (by omega) ct hct ex (mR M this 0) x4 x2 0 M) (Nat.le_of_ble_eq_true rfl) (fun v6 M7 => ?_)
    refine AW.iload_n (pc := 31) dX2_whoGives_31 rfl 1 rfl ?_
    refine AW.icmp_ne (pc := 32) 42 dX2_whoGives_32 (by decide) (fun h8 => ?_) (fun h8 => ?_)
    · refine AW.iload_n (pc := 35) dX2_whoGives_35 rfl 3 rfl ?_
      refine AW.iconst (pc := 36) dX2_whoGives_36 ci_1 ?_
      refine AW.iload (pc := 37) dX2_whoGives_37 4 rfl ?_
      refine AW.ishl (pc := 39) dX2_whoGives_39 ?_
      refine AW.ior (pc := 40) dX2_whoGives_40 ?_
      refine AW.genI (fun v9 => ?_)
      refine AW.istore_n (pc := 41) [1, 2, 3, 0, 4] [(0, .ref (ad E this)), (1, .int x1), (2, .int x2), (3, .int v9), (4, .int x4)] dX2_whoGives_41 rfl (by decide) rfl ?_
      exact kX2_whoGives_B42 l E n hn ct hct ex KK5 hKK5 this x1 x2 v9 x4 M7 hthis
    · exact kX2_whoGives_B42 l E n hn ct hct ex KK5 hKK5 this x1 x2 x3 x4 M7 hthis
set_option maxRecDepth 20000 in
set_option maxHeartbeats 4000000 in
theorem kX2_whoGives_L5 (l : Launch) (E : Ev) (n : Nat) (hn : 4 ≤ n) (ct : Nat) (hct : 111 ≤ ct) (ex : Bool) (k : Nat) : ∀ (this : Nat) (x1 : Int32) (x2 : Int32) (x3 : Int32) (x4 : Int32) (M : Mem) (_ : K0 this = (0, 2)), AW l E fX2_whoGives (fun _ => rmN n 0 0) (PQr E 0 0 ct ex enI) ct ex 0 0 5 [(0, .ref (ad E this)), (1, .int x1), (2, .int x2), (3, .int x3), (4, .int x4)] [] M (zX2_whoGives_L5 k this x1 x2 x3 x4 M) := by
  induction k with
  | zero => intro this x1 x2 x3 x4 M _; exact AW.none
  | succ k ih =>
    intro this x1 x2 x3 x4 M hthis
    exact kX2_whoGives_B5 l E n hn ct hct ex (zX2_whoGives_L5 k) ih this x1 x2 x3 x4 M hthis
set_option maxRecDepth 20000 in
set_option maxHeartbeats 4000000 in
theorem kX2_whoGives (l : Launch) (E : Ev) (n : Nat) (hn : 4 ≤ n) (ct : Nat) (hct : 111 ≤ ct) (ex : Bool) (this : Nat) (x1 : Int32) (x2 : Int32) (M : Mem) : AM l E n ct ex yX2_whoGives fX2_whoGives enI [.ref (ad E this), .int x1, .int x2] M (zX2_whoGives this x1 x2 M) := by
  unfold zX2_whoGives
  refine AM.of (by decide +kernel) ⟨rfl, rfl, rfl⟩ (Nat.le_of_ble_eq_true rfl) ?_
  refine AW.chk (fun hthis => ?_)
  refine AW.iconst (pc := 0) dX2_whoGives_0 ci_0 ?_
  refine AW.istore_n (pc := 1) [1, 2, 3, 0] [(0, .ref (ad E this)), (1, .int x1), (2, .int x2), (3, .int 0)] dX2_whoGives_1 rfl (by decide) rfl ?_
  refine AW.iconst (pc := 2) dX2_whoGives_2 ci_0 ?_
  refine AW.istore (pc := 3) [1, 2, 3, 4, 0] [(0, .ref (ad E this)), (1, .int x1), (2, .int x2), (3, .int 0), (4, .int 0)] dX2_whoGives_3 (by decide) rfl ?_
  exact kX2_whoGives_L5 l E n hn ct hct ex FU this x1 x2 0 0 M hthis
