/-! ===== functions over the memory and their contracts: printed by wip/whole/lay.py ===== -/
-- GateBoxModel.giftOf(IIII)I
def zX12_giftOf (this : Nat) (x1 : Int32) (x2 : Int32) (x3 : Int32) (x4 : Int32) (M : Mem) : Option (Int32 × Mem) :=
  if K0 this = (0, 12) then
  bnd (zX12_evaluate this x1 x2 x3 x4 M) fun v1 M2 =>
  lt (imax 0 (imin x4 v1)) fun v3 =>
  if mR M2 this 4 ≠ 0 then
  if (K0 (mR M2 this 4)).1 = 1 ∧ inb ((7 * x1) + 4) (K0 (mR M2 this 4)).2 = true then
  lt (mI M2 (mR M2 this 4) (Int32.toNatClampNeg ((7 * x1) + 4))) fun v6 =>
  if v3 < v6 then
    if mR M2 this 6 ≠ 0 then
    if (K0 (mR M2 this 6)).1 = 1 ∧ inb ((8 * x1) + x2) (K0 (mR M2 this 6)).2 = true then
    if (mI M2 (mR M2 this 6) (Int32.toNatClampNeg ((8 * x1) + x2))) < v6 then
      some ((-1), M2)
    else
      if x4 < v6 then
        some ((-1), M2)
      else
        some (v6, M2)
    else none
    else none
  else
    some (v3, M2)
  else none
  else none
  else none
set_option maxRecDepth 20000 in
set_option maxHeartbeats 4000000 in
theorem kX12_giftOf (l : Launch) (E : Ev) (n : Nat) (hn : 8 ≤ n) (ct : Nat) (hct : 111 ≤ ct) (ex : Bool) (this : Nat) (x1 : Int32) (x2 : Int32) (x3 : Int32) (x4 : Int32) (M : Mem) : AM l E n ct ex yX12_giftOf fX12_giftOf enI [.ref (ad E this), .int x1, .int x2, .int x3, .int x4] M (zX12_giftOf this x1 x2 x3 x4 M) := by
  unfold zX12_giftOf
  refine AM.of (by decide +kernel) ⟨rfl, rfl, rfl⟩ (Nat.le_of_ble_eq_true rfl) ?_
  refine AW.chk (fun hthis => ?_)
  refine AW.iconst (pc := 0) dX12_giftOf_0 ci_0 ?_
  refine AW.iload (pc := 1) dX12_giftOf_1 4 rfl ?_
  refine AW.aload_n (pc := 3) dX12_giftOf_3 rfl 0 rfl ?_
  refine AW.iload_n (pc := 4) dX12_giftOf_4 rfl 1 rfl ?_
  refine AW.iload_n (pc := 5) dX12_giftOf_5 rfl 2 rfl ?_
  refine AW.iload_n (pc := 6) dX12_giftOf_6 rfl 3 rfl ?_
  refine AW.iload (pc := 7) dX12_giftOf_7 4 rfl ?_
  refine AW.cV4i (pc := 9) dX12_giftOf_9 mlX12_320 mbX12_evaluate rfl hthis (kct hthis rfl hct) (fun _ => okR_N (by omega)) (kX12_evaluate l E (n - 1) (by omega) ct hct ex this x1 x2 x3 x4 M) (Nat.le_of_ble_eq_true rfl) (fun v1 M2 => ?_)
  refine AW.mmin (pc := 12) dX12_giftOf_12 mlX12_201 mb_min (fun _ => okR_N (by omega)) (Nat.le_of_ble_eq_true rfl) ?_
  refine AW.mmax (pc := 15) dX12_giftOf_15 mlX12_309 mb_max (fun _ => okR_N (by omega)) (Nat.le_of_ble_eq_true rfl) ?_
  refine AW.genI (fun v3 => ?_)
  refine AW.istore (pc := 18) [1, 2, 3, 5, 0] [(0, .ref (ad E this)), (1, .int x1), (2, .int x2), (4, .int x4), (5, .int v3)] dX12_giftOf_18 (by decide) rfl ?_
  refine AW.aload_n (pc := 20) dX12_giftOf_20 rfl 0 rfl ?_
  refine AW.chk (fun g4 => ?_)
  refine AW.getR (pc := 21) dX12_giftOf_21 flX12_46 hthis (kct hthis rfl hct) g4 ?_
  refine AW.bipush (pc := 24) dX12_giftOf_24 cb_7 ?_
  refine AW.iload_n (pc := 26) dX12_giftOf_26 rfl 1 rfl ?_
  refine AW.imul (pc := 27) dX12_giftOf_27 ?_
  refine AW.iconst (pc := 28) dX12_giftOf_28 ci_4 ?_
  refine AW.iadd (pc := 29) dX12_giftOf_29 ?_
  refine AW.chk (fun g5 => ?_)
  refine AW.iald (pc := 30) dX12_giftOf_30 (k0e g5.1) (kct (k0e g5.1) rfl hct) g5.2 ?_
  refine AW.genI (fun v6 => ?_)
  refine AW.istore (pc := 31) [1, 2, 3, 4, 5, 0] [(0, .ref (ad E this)), (1, .int x1), (2, .int x2), (4, .int x4), (5, .int v3), (6, .int v6)] dX12_giftOf_31 (by decide) rfl ?_
  refine AW.iload (pc := 33) dX12_giftOf_33 4 rfl ?_
  refine AW.iload (pc := 35) dX12_giftOf_35 5 rfl ?_
  refine AW.icmp_lt (pc := 37) 43 dX12_giftOf_37 (by decide) (fun h7 => ?_) (fun h7 => ?_)
  · refine AW.aload_n (pc := 43) dX12_giftOf_43 rfl 0 rfl ?_
    refine AW.chk (fun g8 => ?_)
    refine AW.getR (pc := 44) dX12_giftOf_44 flX12_52 hthis (kct hthis rfl hct) g8 ?_
    refine AW.bipush (pc := 47) dX12_giftOf_47 cb_8 ?_
    refine AW.iload_n (pc := 49) dX12_giftOf_49 rfl 1 rfl ?_
    refine AW.imul (pc := 50) dX12_giftOf_50 ?_
    refine AW.iload_n (pc := 51) dX12_giftOf_51 rfl 2 rfl ?_
    refine AW.iadd (pc := 52) dX12_giftOf_52 ?_
    refine AW.chk (fun g9 => ?_)
    refine AW.iald (pc := 53) dX12_giftOf_53 (k0e g9.1) (kct (k0e g9.1) rfl hct) g9.2 ?_
    refine AW.iload (pc := 54) dX12_giftOf_54 5 rfl ?_
    refine AW.icmp_lt (pc := 56) 71 dX12_giftOf_56 (by decide) (fun h10 => ?_) (fun h10 => ?_)
    · refine AW.iconst (pc := 71) dX12_giftOf_71 ci_m1 ?_
      exact AW.iret (pc := 72) dX12_giftOf_72 rfl (fun _ _ _ => rfl) (Nat.le_refl _) (Nat.le_refl _)
    · refine AW.iload (pc := 59) dX12_giftOf_59 3 rfl ?_
      refine AW.iload (pc := 61) dX12_giftOf_61 5 rfl ?_
      refine AW.icmp_lt (pc := 63) 71 dX12_giftOf_63 (by decide) (fun h11 => ?_) (fun h11 => ?_)
      · refine AW.iconst (pc := 71) dX12_giftOf_71 ci_m1 ?_
        exact AW.iret (pc := 72) dX12_giftOf_72 rfl (fun _ _ _ => rfl) (Nat.le_refl _) (Nat.le_refl _)
      · refine AW.iload (pc := 66) dX12_giftOf_66 5 rfl ?_
        refine AW.goto (pc := 68) 72 dX12_giftOf_68 (by decide) ?_
        exact AW.iret (pc := 72) dX12_giftOf_72 rfl (fun _ _ _ => rfl) (Nat.le_refl _) (Nat.le_refl _)
  · refine AW.iload (pc := 40) dX12_giftOf_40 4 rfl ?_
    exact AW.iret (pc := 42) dX12_giftOf_42 rfl (fun _ _ _ => rfl) (Nat.le_refl _) (Nat.le_refl _)
-- GateBoxModel.gift(III)I
def zX12_gift (this : Nat) (x1 : Int32) (x2 : Int32) (x3 : Int32) (M : Mem) : Option (Int32 × Mem) :=
  if K0 this = (0, 12) then
  if mR M this 7 ≠ 0 then
  if (K0 (mR M this 7)).1 = 1 ∧ inb ((8 * x1) + x2) (K0 (mR M this 7)).2 = true then
  bnd (zX12_giftOf this x1 x2 x3 (mI M (mR M this 7) (Int32.toNatClampNeg ((8 * x1) + x2))) M) fun v3 M4 =>
  some (v3, M4)
  else none
  else none
  else none
set_option maxRecDepth 20000 in
set_option maxHeartbeats 4000000 in
theorem kX12_gift (l : Launch) (E : Ev) (n : Nat) (hn : 9 ≤ n) (ct : Nat) (hct : 111 ≤ ct) (ex : Bool) (this : Nat) (x1 : Int32) (x2 : Int32) (x3 : Int32) (M : Mem) : AM l E n ct ex yX12_gift fX12_gift enI [.ref (ad E this), .int x1, .int x2, .int x3] M (zX12_gift this x1 x2 x3 M) := by
  unfold zX12_gift
  refine AM.of (by decide +kernel) ⟨rfl, rfl, rfl⟩ (Nat.le_of_ble_eq_true rfl) ?_
  refine AW.chk (fun hthis => ?_)
  refine AW.aload_n (pc := 0) dX12_gift_0 rfl 0 rfl ?_
  refine AW.iload_n (pc := 1) dX12_gift_1 rfl 1 rfl ?_
  refine AW.iload_n (pc := 2) dX12_gift_2 rfl 2 rfl ?_
  refine AW.iload_n (pc := 3) dX12_gift_3 rfl 3 rfl ?_
  refine AW.aload_n (pc := 4) dX12_gift_4 rfl 0 rfl ?_
  refine AW.chk (fun g1 => ?_)
  refine AW.getR (pc := 5) dX12_gift_5 flX12_54 hthis (kct hthis rfl hct) g1 ?_
  refine AW.bipush (pc := 8) dX12_gift_8 cb_8 ?_
  refine AW.iload_n (pc := 10) dX12_gift_10 rfl 1 rfl ?_
  refine AW.imul (pc := 11) dX12_gift_11 ?_
  refine AW.iload_n (pc := 12) dX12_gift_12 rfl 2 rfl ?_
  refine AW.iadd (pc := 13) dX12_gift_13 ?_
  refine AW.chk (fun g2 => ?_)
  refine AW.iald (pc := 14) dX12_gift_14 (k0e g2.1) (kct (k0e g2.1) rfl hct) g2.2 ?_
  refine AW.cV4i (pc := 15) dX12_gift_15 mlX12_324 mbX12_giftOf rfl hthis (kct hthis rfl hct) (fun _ => okR_N (by omega)) (kX12_giftOf l E (n - 1) (by omega) ct hct ex this x1 x2 x3 (mI M (mR M this 7) (Int32.toNatClampNeg ((8 * x1) + x2))) M) (Nat.le_of_ble_eq_true rfl) (fun v3 M4 => ?_)
  exact AW.iret (pc := 18) dX12_gift_18 rfl (fun _ _ _ => rfl) (Nat.le_refl _) (Nat.le_refl _)
-- GateBoxModel.gives(III)I
def zX12_gives_B33 (this : Nat) (M : Mem) : Option (Int32 × Mem) :=
  bnd (zX12_fail this 1 M) fun v1 M2 =>
  some (v1, M2)
def zX12_gives (this : Nat) (x1 : Int32) (x2 : Int32) (x3 : Int32) (M : Mem) : Option (Int32 × Mem) :=
  if K0 this = (0, 12) then
  lt (sI M this 2 0) fun M1 =>
  bnd (zX12_isSort this x1 x2 M1) fun v2 M3 =>
  if v2 = 0 then
    zX12_gives_B33 this M3
  else
    bnd (zX12_isState this x1 x3 M3) fun v5 M6 =>
    if v5 = 0 then
      zX12_gives_B33 this M6
    else
      bnd (zX12_gift this x1 x2 x3 M6) fun v8 M9 =>
      some (v8, M9)
  else none
set_option maxRecDepth 20000 in
set_option maxHeartbeats 4000000 in
theorem kX12_gives_B33 (l : Launch) (E : Ev) (n : Nat) (hn : 10 ≤ n) (ct : Nat) (hct : 111 ≤ ct) (ex : Bool) (this : Nat) (M : Mem) (hthis : K0 this = (0, 12)) : AW l E fX12_gives (fun _ => rmN n 0 0) (PQr E 0 0 ct ex enI) ct ex 0 0 33 [(0, .ref (ad E this))] [] M (zX12_gives_B33 this M) := by
  unfold zX12_gives_B33
  refine AW.aload_n (pc := 33) dX12_gives_33 rfl 0 rfl ?_
  refine AW.iconst (pc := 34) dX12_gives_34 ci_1 ?_
  refine AW.cV1i (pc := 35) dX12_gives_35 mlX12_289 mbX12_fail rfl hthis (kct hthis rfl hct) (fun _ => okR_N (by omega)) (kX12_fail l E (n - 1) (by omega) ct hct ex this 1 M) (Nat.le_of_ble_eq_true rfl) (fun v1 M2 => ?_)
  exact AW.iret (pc := 38) dX12_gives_38 rfl (fun _ _ _ => rfl) (Nat.le_refl _) (Nat.le_refl _)
set_option maxRecDepth 20000 in
set_option maxHeartbeats 4000000 in
theorem kX12_gives (l : Launch) (E : Ev) (n : Nat) (hn : 10 ≤ n) (ct : Nat) (hct : 111 ≤ ct) (ex : Bool) (this : Nat) (x1 : Int32) (x2 : Int32) (x3 : Int32) (M : Mem) : AM l E n ct ex yX12_gives fX12_gives enI [.ref (ad E this), .int x1, .int x2, .int x3] M (zX12_gives this x1 x2 x3 M) := by
  unfold zX12_gives
  refine AM.of (by decide +kernel) ⟨rfl, rfl, rfl⟩ (Nat.le_of_ble_eq_true rfl) ?_
  refine AW.chk (fun hthis => ?_)
  refine AW.aload_n (pc := 0) dX12_gives_0 rfl 0 rfl ?_
  refine AW.iconst (pc := 1) dX12_gives_1 ci_0 ?_
  refine AW.putI (pc := 2) dX12_gives_2 flX12_159 hthis (kct hthis rfl hct) ?_
  refine AW.genM (fun M1 => ?_)
  refine AW.aload_n (pc := 5) dX12_gives_5 rfl 0 rfl ?_
  refine AW.iload_n (pc := 6) dX12_gives_6 rfl 1 rfl ?_
  refine AW.iload_n (pc := 7) dX12_gives_7 rfl 2 rfl ?_
  refine AW.cV2i (pc := 8) dX12_gives_8 mlX12_305 mbX12_isSort rfl hthis (kct hthis rfl hct) (fun _ => okR_N (by omega)) (kX12_isSort l E (n - 1) (by omega) ct hct ex this x1 x2 M1) (Nat.le_of_ble_eq_true rfl) (fun v2 M3 => ?_)
  refine AW.if_eq (pc := 11) 33 dX12_gives_11 (by decide) (fun h4 => ?_) (fun h4 => ?_)
  · exact AW.sub [0] rfl (kX12_gives_B33 l E n hn ct hct ex this M3 hthis)
  · refine AW.aload_n (pc := 14) dX12_gives_14 rfl 0 rfl ?_
    refine AW.iload_n (pc := 15) dX12_gives_15 rfl 1 rfl ?_
    refine AW.iload_n (pc := 16) dX12_gives_16 rfl 3 rfl ?_
    refine AW.cV2i (pc := 17) dX12_gives_17 mlX12_327 mbX12_isState rfl hthis (kct hthis rfl hct) (fun _ => okR_N (by omega)) (kX12_isState l E (n - 1) (by omega) ct hct ex this x1 x3 M3) (Nat.le_of_ble_eq_true rfl) (fun v5 M6 => ?_)
    refine AW.if_eq (pc := 20) 33 dX12_gives_20 (by decide) (fun h7 => ?_) (fun h7 => ?_)
    · exact AW.sub [0] rfl (kX12_gives_B33 l E n hn ct hct ex this M6 hthis)
    · refine AW.aload_n (pc := 23) dX12_gives_23 rfl 0 rfl ?_
      refine AW.iload_n (pc := 24) dX12_gives_24 rfl 1 rfl ?_
      refine AW.iload_n (pc := 25) dX12_gives_25 rfl 2 rfl ?_
      refine AW.iload_n (pc := 26) dX12_gives_26 rfl 3 rfl ?_
      refine AW.cV3i (pc := 27) dX12_gives_27 mlX12_330 mbX12_gift rfl hthis (kct hthis rfl hct) (fun _ => okR_N (by omega)) (kX12_gift l E (n - 1) (by omega) ct hct ex this x1 x2 x3 M6) (Nat.le_of_ble_eq_true rfl) (fun v8 M9 => ?_)
      refine AW.goto (pc := 30) 38 dX12_gives_30 (by decide) ?_
      exact AW.iret (pc := 38) dX12_gives_38 rfl (fun _ _ _ => rfl) (Nat.le_refl _) (Nat.le_refl _)
-- GateBoxModel.behind(III)I
def zX12_behind (this : Nat) (x1 : Int32) (x2 : Int32) (x3 : Int32) (M : Mem) : Option (Int32 × Mem) :=
  if K0 this = (0, 12) then
  if mR M this 4 ≠ 0 then
  if (K0 (mR M this 4)).1 = 1 ∧ inb (7 * x1) (K0 (mR M this 4)).2 = true then
  if (mI M (mR M this 4) (Int32.toNatClampNeg (7 * x1))) = 0 then
    some (0, M)
  else
    if inb (7 * x1) (K0 (mR M this 4)).2 = true then
    if (mI M (mR M this 4) (Int32.toNatClampNeg (7 * x1))) = 1 then
      some (x3, M)
    else
      some (x3 + (10 * (x2 % 10)), M)
    else none
  else none
  else none
  else none
set_option maxRecDepth 20000 in
set_option maxHeartbeats 4000000 in
theorem kX12_behind (l : Launch) (E : Ev) (n : Nat) (hn : 1 ≤ n) (ct : Nat) (hct : 111 ≤ ct) (ex : Bool) (this : Nat) (x1 : Int32) (x2 : Int32) (x3 : Int32) (M : Mem) : AM l E n ct ex yX12_behind fX12_behind enI [.ref (ad E this), .int x1, .int x2, .int x3] M (zX12_behind this x1 x2 x3 M) := by
  unfold zX12_behind
  refine AM.of (by decide +kernel) ⟨rfl, rfl, rfl⟩ (Nat.le_of_ble_eq_true rfl) ?_
  refine AW.chk (fun hthis => ?_)
  refine AW.aload_n (pc := 0) dX12_behind_0 rfl 0 rfl ?_
  refine AW.chk (fun g1 => ?_)
  refine AW.getR (pc := 1) dX12_behind_1 flX12_46 hthis (kct hthis rfl hct) g1 ?_
  refine AW.bipush (pc := 4) dX12_behind_4 cb_7 ?_
  refine AW.iload_n (pc := 6) dX12_behind_6 rfl 1 rfl ?_
  refine AW.imul (pc := 7) dX12_behind_7 ?_
  refine AW.chk (fun g2 => ?_)
  refine AW.iald (pc := 8) dX12_behind_8 (k0e g2.1) (kct (k0e g2.1) rfl hct) g2.2 ?_
  refine AW.if_ne (pc := 9) 16 dX12_behind_9 (by decide) (fun h3 => ?_) (fun h3 => ?_)
  · refine AW.iconst (pc := 12) dX12_behind_12 ci_0 ?_
    refine AW.goto (pc := 13) 42 dX12_behind_13 (by decide) ?_
    exact AW.iret (pc := 42) dX12_behind_42 rfl (fun _ _ _ => rfl) (Nat.le_refl _) (Nat.le_refl _)
  · refine AW.aload_n (pc := 16) dX12_behind_16 rfl 0 rfl ?_
    refine AW.getR (pc := 17) dX12_behind_17 flX12_46 hthis (kct hthis rfl hct) g1 ?_
    refine AW.bipush (pc := 20) dX12_behind_20 cb_7 ?_
    refine AW.iload_n (pc := 22) dX12_behind_22 rfl 1 rfl ?_
    refine AW.imul (pc := 23) dX12_behind_23 ?_
    refine AW.chk (fun g4 => ?_)
    refine AW.iald (pc := 24) dX12_behind_24 (k0e g2.1) (kct (k0e g2.1) rfl hct) g4 ?_
    refine AW.iconst (pc := 25) dX12_behind_25 ci_1 ?_
    refine AW.icmp_ne (pc := 26) 33 dX12_behind_26 (by decide) (fun h5 => ?_) (fun h5 => ?_)
    · refine AW.iload_n (pc := 29) dX12_behind_29 rfl 3 rfl ?_
      refine AW.goto (pc := 30) 42 dX12_behind_30 (by decide) ?_
      exact AW.iret (pc := 42) dX12_behind_42 rfl (fun _ _ _ => rfl) (Nat.le_refl _) (Nat.le_refl _)
    · refine AW.iload_n (pc := 33) dX12_behind_33 rfl 3 rfl ?_
      refine AW.bipush (pc := 34) dX12_behind_34 cb_10 ?_
      refine AW.iload_n (pc := 36) dX12_behind_36 rfl 2 rfl ?_
      refine AW.bipush (pc := 37) dX12_behind_37 cb_10 ?_
      refine AW.irem (pc := 39) dX12_behind_39 (by decide) ?_
      refine AW.imul (pc := 40) dX12_behind_40 ?_
      refine AW.iadd (pc := 41) dX12_behind_41 ?_
      exact AW.iret (pc := 42) dX12_behind_42 rfl (fun _ _ _ => rfl) (Nat.le_refl _) (Nat.le_refl _)
-- GateBoxModel.goOn(III)I
def zX12_goOn (this : Nat) (x1 : Int32) (x2 : Int32) (x3 : Int32) (M : Mem) : Option (Int32 × Mem) :=
  if K0 this = (0, 12) then
  if x3 = (-1) then
    some (x2, M)
  else
    bnd (zX12_behind this x1 x2 x3 M) fun v2 M3 =>
    some (v2, M3)
  else none
set_option maxRecDepth 20000 in
set_option maxHeartbeats 4000000 in
theorem kX12_goOn (l : Launch) (E : Ev) (n : Nat) (hn : 2 ≤ n) (ct : Nat) (hct : 111 ≤ ct) (ex : Bool) (this : Nat) (x1 : Int32) (x2 : Int32) (x3 : Int32) (M : Mem) : AM l E n ct ex yX12_goOn fX12_goOn enI [.ref (ad E this), .int x1, .int x2, .int x3] M (zX12_goOn this x1 x2 x3 M) := by
  unfold zX12_goOn
  refine AM.of (by decide +kernel) ⟨rfl, rfl, rfl⟩ (Nat.le_of_ble_eq_true rfl) ?_
  refine AW.chk (fun hthis => ?_)
  refine AW.iload_n (pc := 0) dX12_goOn_0 rfl 3 rfl ?_
  refine AW.iconst (pc := 1) dX12_goOn_1 ci_m1 ?_
  refine AW.icmp_ne (pc := 2) 9 dX12_goOn_2 (by decide) (fun h1 => ?_) (fun h1 => ?_)
  · refine AW.iload_n (pc := 5) dX12_goOn_5 rfl 2 rfl ?_
    refine AW.goto (pc := 6) 16 dX12_goOn_6 (by decide) ?_
    exact AW.iret (pc := 16) dX12_goOn_16 rfl (fun _ _ _ => rfl) (Nat.le_refl _) (Nat.le_refl _)
  · refine AW.aload_n (pc := 9) dX12_goOn_9 rfl 0 rfl ?_
    refine AW.iload_n (pc := 10) dX12_goOn_10 rfl 1 rfl ?_
    refine AW.iload_n (pc := 11) dX12_goOn_11 rfl 2 rfl ?_
    refine AW.iload_n (pc := 12) dX12_goOn_12 rfl 3 rfl ?_
    refine AW.cV3i (pc := 13) dX12_goOn_13 mlX12_333 mbX12_behind rfl hthis (kct hthis rfl hct) (fun _ => okR_N (by omega)) (kX12_behind l E (n - 1) (by omega) ct hct ex this x1 x2 x3 M) (Nat.le_of_ble_eq_true rfl) (fun v2 M3 => ?_)
    exact AW.iret (pc := 16) dX12_goOn_16 rfl (fun _ _ _ => rfl) (Nat.le_refl _) (Nat.le_refl _)
-- GateBoxModel.next(III)I
def zX12_next_B41 (this : Nat) (M : Mem) : Option (Int32 × Mem) :=
  bnd (zX12_fail this 1 M) fun v1 M2 =>
  some (v1, M2)
def zX12_next (this : Nat) (x1 : Int32) (x2 : Int32) (x3 : Int32) (M : Mem) : Option (Int32 × Mem) :=
  if K0 this = (0, 12) then
  lt (sI M this 2 0) fun M1 =>
  bnd (zX12_isGate x1 M1) fun v2 M3 =>
  if v2 = 0 then
    zX12_next_B41 this M3
  else
    bnd (zX12_isState this x1 x2 M3) fun v5 M6 =>
    if v5 = 0 then
      zX12_next_B41 this M6
    else
      bnd (zX12_isIn x3 0 9 M6) fun v8 M9 =>
      if v8 = 0 then
        zX12_next_B41 this M9
      else
        bnd (zX12_behind this x1 x2 x3 M9) fun v11 M12 =>
        some (v11, M12)
  else none
set_option maxRecDepth 20000 in
set_option maxHeartbeats 4000000 in
theorem kX12_next_B41 (l : Launch) (E : Ev) (n : Nat) (hn : 3 ≤ n) (ct : Nat) (hct : 111 ≤ ct) (ex : Bool) (this : Nat) (M : Mem) (hthis : K0 this = (0, 12)) : AW l E fX12_next (fun _ => rmN n 0 0) (PQr E 0 0 ct ex enI) ct ex 0 0 41 [(0, .ref (ad E this))] [] M (zX12_next_B41 this M) := by
  unfold zX12_next_B41
  refine AW.aload_n (pc := 41) dX12_next_41 rfl 0 rfl ?_
  refine AW.iconst (pc := 42) dX12_next_42 ci_1 ?_
  refine AW.cV1i (pc := 43) dX12_next_43 mlX12_289 mbX12_fail rfl hthis (kct hthis rfl hct) (fun _ => okR_N (by omega)) (kX12_fail l E (n - 1) (by omega) ct hct ex this 1 M) (Nat.le_of_ble_eq_true rfl) (fun v1 M2 => ?_)
  exact AW.iret (pc := 46) dX12_next_46 rfl (fun _ _ _ => rfl) (Nat.le_refl _) (Nat.le_refl _)
set_option maxRecDepth 20000 in
set_option maxHeartbeats 4000000 in
theorem kX12_next (l : Launch) (E : Ev) (n : Nat) (hn : 3 ≤ n) (ct : Nat) (hct : 111 ≤ ct) (ex : Bool) (this : Nat) (x1 : Int32) (x2 : Int32) (x3 : Int32) (M : Mem) : AM l E n ct ex yX12_next fX12_next enI [.ref (ad E this), .int x1, .int x2, .int x3] M (zX12_next this x1 x2 x3 M) := by
  unfold zX12_next
  refine AM.of (by decide +kernel) ⟨rfl, rfl, rfl⟩ (Nat.le_of_ble_eq_true rfl) ?_
  refine AW.chk (fun hthis => ?_)
  refine AW.aload_n (pc := 0) dX12_next_0 rfl 0 rfl ?_
  refine AW.iconst (pc := 1) dX12_next_1 ci_0 ?_
  refine AW.putI (pc := 2) dX12_next_2 flX12_159 hthis (kct hthis rfl hct) ?_
  refine AW.genM (fun M1 => ?_)
  refine AW.iload_n (pc := 5) dX12_next_5 rfl 1 rfl ?_
  refine AW.cS1i (pc := 6) dX12_next_6 mlX12_166 mbX12_isGate (fun _ => okR_N (by omega)) (kX12_isGate l E (n - 1) (by omega) ct hct ex x1 M1) (Nat.le_of_ble_eq_true rfl) (fun v2 M3 => ?_)
  refine AW.if_eq (pc := 9) 41 dX12_next_9 (by decide) (fun h4 => ?_) (fun h4 => ?_)
  · exact AW.sub [0] rfl (kX12_next_B41 l E n hn ct hct ex this M3 hthis)
  · refine AW.aload_n (pc := 12) dX12_next_12 rfl 0 rfl ?_
    refine AW.iload_n (pc := 13) dX12_next_13 rfl 1 rfl ?_
    refine AW.iload_n (pc := 14) dX12_next_14 rfl 2 rfl ?_
    refine AW.cV2i (pc := 15) dX12_next_15 mlX12_327 mbX12_isState rfl hthis (kct hthis rfl hct) (fun _ => okR_N (by omega)) (kX12_isState l E (n - 1) (by omega) ct hct ex this x1 x2 M3) (Nat.le_of_ble_eq_true rfl) (fun v5 M6 => ?_)
    refine AW.if_eq (pc := 18) 41 dX12_next_18 (by decide) (fun h7 => ?_) (fun h7 => ?_)
    · exact AW.sub [0] rfl (kX12_next_B41 l E n hn ct hct ex this M6 hthis)
    · refine AW.iload_n (pc := 21) dX12_next_21 rfl 3 rfl ?_
      refine AW.iconst (pc := 22) dX12_next_22 ci_0 ?_
      refine AW.bipush (pc := 23) dX12_next_23 cb_9 ?_
      refine AW.cS3i (pc := 25) dX12_next_25 mlX12_162 mbX12_isIn (fun _ => okR_N (by omega)) (kX12_isIn l E (n - 1) (by omega) ct hct ex x3 0 9 M6) (Nat.le_of_ble_eq_true rfl) (fun v8 M9 => ?_)
      refine AW.if_eq (pc := 28) 41 dX12_next_28 (by decide) (fun h10 => ?_) (fun h10 => ?_)
      · exact AW.sub [0] rfl (kX12_next_B41 l E n hn ct hct ex this M9 hthis)
      · refine AW.aload_n (pc := 31) dX12_next_31 rfl 0 rfl ?_
        refine AW.iload_n (pc := 32) dX12_next_32 rfl 1 rfl ?_
        refine AW.iload_n (pc := 33) dX12_next_33 rfl 2 rfl ?_
        refine AW.iload_n (pc := 34) dX12_next_34 rfl 3 rfl ?_
        refine AW.cV3i (pc := 35) dX12_next_35 mlX12_333 mbX12_behind rfl hthis (kct hthis rfl hct) (fun _ => okR_N (by omega)) (kX12_behind l E (n - 1) (by omega) ct hct ex this x1 x2 x3 M9) (Nat.le_of_ble_eq_true rfl) (fun v11 M12 => ?_)
        refine AW.goto (pc := 38) 46 dX12_next_38 (by decide) ?_
        exact AW.iret (pc := 46) dX12_next_46 rfl (fun _ _ _ => rfl) (Nat.le_refl _) (Nat.le_refl _)
-- GateBoxModel.seed(II)V
def zX12_seed_B21 (this : Nat) (M : Mem) : Option (Unit × Mem) :=
  lt (sI M this 2 1) fun M1 =>
  some ((), M1)
def zX12_seed (this : Nat) (x1 : Int32) (x2 : Int32) (M : Mem) : Option (Unit × Mem) :=
  if K0 this = (0, 12) then
  lt (sI M this 2 0) fun M1 =>
  bnd (zX12_isGate x1 M1) fun v2 M3 =>
  if v2 = 0 then
    zX12_seed_B21 this M3
  else
    bnd (zX12_isState this x1 x2 M3) fun v5 M6 =>
    if v5 = 0 then
      zX12_seed_B21 this M6
    else
      if mR M6 this 11 ≠ 0 then
      if (K0 (mR M6 this 11)).1 = 1 ∧ inb x1 (K0 (mR M6 this 11)).2 = true then
      lt (sI M6 (mR M6 this 11) (Int32.toNatClampNeg x1) x2) fun M10 =>
      if mR M10 this 12 ≠ 0 then
      if (K0 (mR M10 this 12)).1 = 1 ∧ inb x1 (K0 (mR M10 this 12)).2 = true then
      lt (sI M10 (mR M10 this 12) (Int32.toNatClampNeg x1) x2) fun M13 =>
      if mR M13 this 13 ≠ 0 then
      if (K0 (mR M13 this 13)).1 = 1 ∧ inb x1 (K0 (mR M13 this 13)).2 = true then
      lt (sI M13 (mR M13 this 13) (Int32.toNatClampNeg x1) 0) fun M16 =>
      some ((), M16)
      else none
      else none
      else none
      else none
      else none
      else none
  else none
set_option maxRecDepth 20000 in
set_option maxHeartbeats 4000000 in
theorem kX12_seed_B21 (l : Launch) (E : Ev) (n : Nat) (hn : 3 ≤ n) (ct : Nat) (hct : 111 ≤ ct) (ex : Bool) (this : Nat) (M : Mem) (hthis : K0 this = (0, 12)) : AW l E fX12_seed (fun _ => rmN n 0 0) (PQr E 0 0 ct ex enU) ct ex 0 0 21 [(0, .ref (ad E this))] [] M (zX12_seed_B21 this M) := by
  unfold zX12_seed_B21
  refine AW.aload_n (pc := 21) dX12_seed_21 rfl 0 rfl ?_
  refine AW.iconst (pc := 22) dX12_seed_22 ci_1 ?_
  refine AW.putI (pc := 23) dX12_seed_23 flX12_159 hthis (kct hthis rfl hct) ?_
  refine AW.genM (fun M1 => ?_)
  exact AW.vret (pc := 26) dX12_seed_26 rfl (fun _ _ _ => rfl) (Nat.le_refl _) (Nat.le_refl _)
set_option maxRecDepth 20000 in
set_option maxHeartbeats 4000000 in
theorem kX12_seed (l : Launch) (E : Ev) (n : Nat) (hn : 3 ≤ n) (ct : Nat) (hct : 111 ≤ ct) (ex : Bool) (this : Nat) (x1 : Int32) (x2 : Int32) (M : Mem) : AM l E n ct ex yX12_seed fX12_seed enU [.ref (ad E this), .int x1, .int x2] M (zX12_seed this x1 x2 M) := by
  unfold zX12_seed
  refine AM.of (by decide +kernel) ⟨rfl, rfl, rfl⟩ (Nat.le_of_ble_eq_true rfl) ?_
  refine AW.chk (fun hthis => ?_)
  refine AW.aload_n (pc := 0) dX12_seed_0 rfl 0 rfl ?_
  refine AW.iconst (pc := 1) dX12_seed_1 ci_0 ?_
  refine AW.putI (pc := 2) dX12_seed_2 flX12_159 hthis (kct hthis rfl hct) ?_
  refine AW.genM (fun M1 => ?_)
  refine AW.iload_n (pc := 5) dX12_seed_5 rfl 1 rfl ?_
  refine AW.cS1i (pc := 6) dX12_seed_6 mlX12_166 mbX12_isGate (fun _ => okR_N (by omega)) (kX12_isGate l E (n - 1) (by omega) ct hct ex x1 M1) (Nat.le_of_ble_eq_true rfl) (fun v2 M3 => ?_)
  refine AW.if_eq (pc := 9) 21 dX12_seed_9 (by decide) (fun h4 => ?_) (fun h4 => ?_)
  · exact AW.sub [0] rfl (kX12_seed_B21 l E n hn ct hct ex this M3 hthis)
  · refine AW.aload_n (pc := 12) dX12_seed_12 rfl 0 rfl ?_
    refine AW.iload_n (pc := 13) dX12_seed_13 rfl 1 rfl ?_
    refine AW.iload_n (pc := 14) dX12_seed_14 rfl 2 rfl ?_
    refine AW.cV2i (pc := 15) dX12_seed_15 mlX12_327 mbX12_isState rfl hthis (kct hthis rfl hct) (fun _ => okR_N (by omega)) (kX12_isState l E (n - 1) (by omega) ct hct ex this x1 x2 M3) (Nat.le_of_ble_eq_true rfl) (fun v5 M6 => ?_)
    refine AW.if_ne (pc := 18) 27 dX12_seed_18 (by decide) (fun h7 => ?_) (fun h7 => ?_)
    · exact AW.sub [0] rfl (kX12_seed_B21 l E n hn ct hct ex this M6 hthis)
    · refine AW.aload_n (pc := 27) dX12_seed_27 rfl 0 rfl ?_
      refine AW.chk (fun g8 => ?_)
      refine AW.getR (pc := 28) dX12_seed_28 flX12_65 hthis (kct hthis rfl hct) g8 ?_
      refine AW.iload_n (pc := 31) dX12_seed_31 rfl 1 rfl ?_
      refine AW.iload_n (pc := 32) dX12_seed_32 rfl 2 rfl ?_
      refine AW.chk (fun g9 => ?_)
      refine AW.iast (pc := 33) dX12_seed_33 (k0e g9.1) (kct (k0e g9.1) rfl hct) g9.2 ?_
      refine AW.genM (fun M10 => ?_)
      refine AW.aload_n (pc := 34) dX12_seed_34 rfl 0 rfl ?_
      refine AW.chk (fun g11 => ?_)
      refine AW.getR (pc := 35) dX12_seed_35 flX12_68 hthis (kct hthis rfl hct) g11 ?_
      refine AW.iload_n (pc := 38) dX12_seed_38 rfl 1 rfl ?_
      refine AW.iload_n (pc := 39) dX12_seed_39 rfl 2 rfl ?_
      refine AW.chk (fun g12 => ?_)
      refine AW.iast (pc := 40) dX12_seed_40 (k0e g12.1) (kct (k0e g12.1) rfl hct) g12.2 ?_
      refine AW.genM (fun M13 => ?_)
      refine AW.aload_n (pc := 41) dX12_seed_41 rfl 0 rfl ?_
      refine AW.chk (fun g14 => ?_)
      refine AW.getR (pc := 42) dX12_seed_42 flX12_71 hthis (kct hthis rfl hct) g14 ?_
      refine AW.iload_n (pc := 45) dX12_seed_45 rfl 1 rfl ?_
      refine AW.iconst (pc := 46) dX12_seed_46 ci_0 ?_
      refine AW.chk (fun g15 => ?_)
      refine AW.iast (pc := 47) dX12_seed_47 (k0e g15.1) (kct (k0e g15.1) rfl hct) g15.2 ?_
      refine AW.genM (fun M16 => ?_)
      exact AW.vret (pc := 48) dX12_seed_48 rfl (fun _ _ _ => rfl) (Nat.le_refl _) (Nat.le_refl _)
-- GateBoxModel.put(II)V
def zX12_put (this : Nat) (x1 : Int32) (x2 : Int32) (M : Mem) : Option (Unit × Mem) :=
  if K0 this = (0, 12) then
  if mR M this 4 ≠ 0 then
  if (K0 (mR M this 4)).1 = 1 ∧ inb ((7 * x1) + 4) (K0 (mR M this 4)).2 = true then
  lt (sI M (mR M this 4) (Int32.toNatClampNeg ((7 * x1) + 4)) (x2 / 44)) fun M3 =>
  if mR M3 this 4 ≠ 0 then
  if (K0 (mR M3 this 4)).1 = 1 ∧ inb ((7 * x1) + 2) (K0 (mR M3 this 4)).2 = true then
  lt (sI M3 (mR M3 this 4) (Int32.toNatClampNeg ((7 * x1) + 2)) ((x2 / 22) % 2)) fun M6 =>
  if mR M6 this 4 ≠ 0 then
  if (K0 (mR M6 this 4)).1 = 1 ∧ inb ((7 * x1) + 3) (K0 (mR M6 this 4)).2 = true then
  lt (sI M6 (mR M6 this 4) (Int32.toNatClampNeg ((7 * x1) + 3)) ((x2 / 11) % 2)) fun M9 =>
  if mR M9 this 4 ≠ 0 then
  if (K0 (mR M9 this 4)).1 = 1 ∧ inb ((7 * x1) + 1) (K0 (mR M9 this 4)).2 = true then
  lt (sI M9 (mR M9 this 4) (Int32.toNatClampNeg ((7 * x1) + 1)) ((x2 % 11) - 1)) fun M12 =>
  some ((), M12)
  else none
  else none
  else none
  else none
  else none
  else none
  else none
  else none
  else none
set_option maxRecDepth 20000 in
set_option maxHeartbeats 4000000 in
theorem kX12_put (l : Launch) (E : Ev) (n : Nat) (hn : 1 ≤ n) (ct : Nat) (hct : 111 ≤ ct) (ex : Bool) (this : Nat) (x1 : Int32) (x2 : Int32) (M : Mem) : AM l E n ct ex yX12_put fX12_put enU [.ref (ad E this), .int x1, .int x2] M (zX12_put this x1 x2 M) := by
  unfold zX12_put
  refine AM.of (by decide +kernel) ⟨rfl, rfl, rfl⟩ (Nat.le_of_ble_eq_true rfl) ?_
  refine AW.chk (fun hthis => ?_)
  refine AW.aload_n (pc := 0) dX12_put_0 rfl 0 rfl ?_
  refine AW.chk (fun g1 => ?_)
  refine AW.getR (pc := 1) dX12_put_1 flX12_46 hthis (kct hthis rfl hct) g1 ?_
  refine AW.bipush (pc := 4) dX12_put_4 cb_7 ?_
  refine AW.iload_n (pc := 6) dX12_put_6 rfl 1 rfl ?_
  refine AW.imul (pc := 7) dX12_put_7 ?_
  refine AW.iconst (pc := 8) dX12_put_8 ci_4 ?_
  refine AW.iadd (pc := 9) dX12_put_9 ?_
  refine AW.iload_n (pc := 10) dX12_put_10 rfl 2 rfl ?_
  refine AW.bipush (pc := 11) dX12_put_11 cb_44 ?_
  refine AW.idiv (pc := 13) dX12_put_13 (by decide) ?_
  refine AW.chk (fun g2 => ?_)
  refine AW.iast (pc := 14) dX12_put_14 (k0e g2.1) (kct (k0e g2.1) rfl hct) g2.2 ?_
  refine AW.genM (fun M3 => ?_)
  refine AW.aload_n (pc := 15) dX12_put_15 rfl 0 rfl ?_
  refine AW.chk (fun g4 => ?_)
  refine AW.getR (pc := 16) dX12_put_16 flX12_46 hthis (kct hthis rfl hct) g4 ?_
  refine AW.bipush (pc := 19) dX12_put_19 cb_7 ?_
  refine AW.iload_n (pc := 21) dX12_put_21 rfl 1 rfl ?_
  refine AW.imul (pc := 22) dX12_put_22 ?_
  refine AW.iconst (pc := 23) dX12_put_23 ci_2 ?_
  refine AW.iadd (pc := 24) dX12_put_24 ?_
  refine AW.iload_n (pc := 25) dX12_put_25 rfl 2 rfl ?_
  refine AW.bipush (pc := 26) dX12_put_26 cb_22 ?_
  refine AW.idiv (pc := 28) dX12_put_28 (by decide) ?_
  refine AW.iconst (pc := 29) dX12_put_29 ci_2 ?_
  refine AW.irem (pc := 30) dX12_put_30 (by decide) ?_
  refine AW.chk (fun g5 => ?_)
  refine AW.iast (pc := 31) dX12_put_31 (k0e g5.1) (kct (k0e g5.1) rfl hct) g5.2 ?_
  refine AW.genM (fun M6 => ?_)
  refine AW.aload_n (pc := 32) dX12_put_32 rfl 0 rfl ?_
  refine AW.chk (fun g7 => ?_)
  refine AW.getR (pc := 33) dX12_put_33 flX12_46 hthis (kct hthis rfl hct) g7 ?_
  refine AW.bipush (pc := 36) dX12_put_36 cb_7 ?_
  refine AW.iload_n (pc := 38) dX12_put_38 rfl 1 rfl ?_
  refine AW.imul (pc := 39) dX12_put_39 ?_
  refine AW.iconst (pc := 40) dX12_put_40 ci_3 ?_
  refine AW.iadd (pc := 41) dX12_put_41 ?_
  refine AW.iload_n (pc := 42) dX12_put_42 rfl 2 rfl ?_
  refine AW.bipush (pc := 43) dX12_put_43 cb_11 ?_
  refine AW.idiv (pc := 45) dX12_put_45 (by decide) ?_
  refine AW.iconst (pc := 46) dX12_put_46 ci_2 ?_
  refine AW.irem (pc := 47) dX12_put_47 (by decide) ?_
  refine AW.chk (fun g8 => ?_)
  refine AW.iast (pc := 48) dX12_put_48 (k0e g8.1) (kct (k0e g8.1) rfl hct) g8.2 ?_
  refine AW.genM (fun M9 => ?_)
  refine AW.aload_n (pc := 49) dX12_put_49 rfl 0 rfl ?_
  refine AW.chk (fun g10 => ?_)
  refine AW.getR (pc := 50) dX12_put_50 flX12_46 hthis (kct hthis rfl hct) g10 ?_
  refine AW.bipush (pc := 53) dX12_put_53 cb_7 ?_
  refine AW.iload_n (pc := 55) dX12_put_55 rfl 1 rfl ?_
  refine AW.imul (pc := 56) dX12_put_56 ?_
  refine AW.iconst (pc := 57) dX12_put_57 ci_1 ?_
  refine AW.iadd (pc := 58) dX12_put_58 ?_
  refine AW.iload_n (pc := 59) dX12_put_59 rfl 2 rfl ?_
  refine AW.bipush (pc := 60) dX12_put_60 cb_11 ?_
  refine AW.irem (pc := 62) dX12_put_62 (by decide) ?_
  refine AW.iconst (pc := 63) dX12_put_63 ci_1 ?_
  refine AW.isub (pc := 64) dX12_put_64 ?_
  refine AW.chk (fun g11 => ?_)
  refine AW.iast (pc := 65) dX12_put_65 (k0e g11.1) (kct (k0e g11.1) rfl hct) g11.2 ?_
  refine AW.genM (fun M12 => ?_)
  exact AW.vret (pc := 66) dX12_put_66 rfl (fun _ _ _ => rfl) (Nat.le_refl _) (Nat.le_refl _)
-- GateBoxModel.isSetting(I)Z
def zX12_isSetting (x0 : Int32) (M : Mem) : Option (Int32 × Mem) :=
  bnd (zX12_isIn x0 0 175 M) fun v1 M2 =>
  if v1 = 0 ∨ v1 = 1 then
  some (v1, M2)
  else none
set_option maxRecDepth 20000 in
set_option maxHeartbeats 4000000 in
theorem kX12_isSetting (l : Launch) (E : Ev) (n : Nat) (hn : 2 ≤ n) (ct : Nat) (hct : 111 ≤ ct) (ex : Bool) (x0 : Int32) (M : Mem) : AM l E n ct ex yX12_isSetting fX12_isSetting enI [.int x0] M (zX12_isSetting x0 M) := by
  unfold zX12_isSetting
  refine AM.of (by decide +kernel) ⟨rfl, rfl, rfl⟩ (Nat.le_of_ble_eq_true rfl) ?_
  refine AW.iload_n (pc := 0) dX12_isSetting_0 rfl 0 rfl ?_
  refine AW.iconst (pc := 1) dX12_isSetting_1 ci_0 ?_
  refine AW.sipush (pc := 2) dX12_isSetting_2 cs_175 ?_
  refine AW.cS3i (pc := 5) dX12_isSetting_5 mlX12_162 mbX12_isIn (fun _ => okR_N (by omega)) (kX12_isIn l E (n - 1) (by omega) ct hct ex x0 0 175 M) (Nat.le_of_ble_eq_true rfl) (fun v1 M2 => ?_)
  refine AW.chk (fun g3 => ?_)
  exact AW.zret (pc := 8) dX12_isSetting_8 rfl g3 (fun _ _ _ => rfl) (Nat.le_refl _) (Nat.le_refl _)
-- GateBoxModel.set(II)Z
def zX12_set_B19 (this : Nat) (M : Mem) : Option (Int32 × Mem) :=
  lt (sI M this 2 1) fun M1 =>
  some (0, M1)
def zX12_set (this : Nat) (x1 : Int32) (x2 : Int32) (M : Mem) : Option (Int32 × Mem) :=
  if K0 this = (0, 12) then
  lt (sI M this 2 0) fun M1 =>
  bnd (zX12_isGate x1 M1) fun v2 M3 =>
  if v2 = 0 then
    zX12_set_B19 this M3
  else
    bnd (zX12_isSetting x2 M3) fun v5 M6 =>
    if v5 = 0 then
      zX12_set_B19 this M6
    else
      bnd (zX12_put this x1 x2 M6) fun _ M8 =>
      some (1, M8)
  else none
set_option maxRecDepth 20000 in
set_option maxHeartbeats 4000000 in
theorem kX12_set_B19 (l : Launch) (E : Ev) (n : Nat) (hn : 3 ≤ n) (ct : Nat) (hct : 111 ≤ ct) (ex : Bool) (this : Nat) (M : Mem) (hthis : K0 this = (0, 12)) : AW l E fX12_set (fun _ => rmN n 0 0) (PQr E 0 0 ct ex enI) ct ex 0 0 19 [(0, .ref (ad E this))] [] M (zX12_set_B19 this M) := by
  unfold zX12_set_B19
  refine AW.aload_n (pc := 19) dX12_set_19 rfl 0 rfl ?_
  refine AW.iconst (pc := 20) dX12_set_20 ci_1 ?_
  refine AW.putI (pc := 21) dX12_set_21 flX12_159 hthis (kct hthis rfl hct) ?_
  refine AW.genM (fun M1 => ?_)
  refine AW.iconst (pc := 24) dX12_set_24 ci_0 ?_
  exact AW.zret (pc := 25) dX12_set_25 rfl (Or.inl rfl) (fun _ _ _ => rfl) (Nat.le_refl _) (Nat.le_refl _)
set_option maxRecDepth 20000 in
set_option maxHeartbeats 4000000 in
theorem kX12_set (l : Launch) (E : Ev) (n : Nat) (hn : 3 ≤ n) (ct : Nat) (hct : 111 ≤ ct) (ex : Bool) (this : Nat) (x1 : Int32) (x2 : Int32) (M : Mem) : AM l E n ct ex yX12_set fX12_set enI [.ref (ad E this), .int x1, .int x2] M (zX12_set this x1 x2 M) := by
  unfold zX12_set
  refine AM.of (by decide +kernel) ⟨rfl, rfl, rfl⟩ (Nat.le_of_ble_eq_true rfl) ?_
  refine AW.chk (fun hthis => ?_)
  refine AW.aload_n (pc := 0) dX12_set_0 rfl 0 rfl ?_
  refine AW.iconst (pc := 1) dX12_set_1 ci_0 ?_
  refine AW.putI (pc := 2) dX12_set_2 flX12_159 hthis (kct hthis rfl hct) ?_
  refine AW.genM (fun M1 => ?_)
  refine AW.iload_n (pc := 5) dX12_set_5 rfl 1 rfl ?_
  refine AW.cS1i (pc := 6) dX12_set_6 mlX12_166 mbX12_isGate (fun _ => okR_N (by omega)) (kX12_isGate l E (n - 1) (by omega) ct hct ex x1 M1) (Nat.le_of_ble_eq_true rfl) (fun v2 M3 => ?_)
  refine AW.if_eq (pc := 9) 19 dX12_set_9 (by decide) (fun h4 => ?_) (fun h4 => ?_)
  · exact AW.sub [0] rfl (kX12_set_B19 l E n hn ct hct ex this M3 hthis)
  · refine AW.iload_n (pc := 12) dX12_set_12 rfl 2 rfl ?_
    refine AW.cS1i (pc := 13) dX12_set_13 mlX12_336 mbX12_isSetting (fun _ => okR_N (by omega)) (kX12_isSetting l E (n - 1) (by omega) ct hct ex x2 M3) (Nat.le_of_ble_eq_true rfl) (fun v5 M6 => ?_)
    refine AW.if_ne (pc := 16) 26 dX12_set_16 (by decide) (fun h7 => ?_) (fun h7 => ?_)
    · exact AW.sub [0] rfl (kX12_set_B19 l E n hn ct hct ex this M6 hthis)
    · refine AW.aload_n (pc := 26) dX12_set_26 rfl 0 rfl ?_
      refine AW.iload_n (pc := 27) dX12_set_27 rfl 1 rfl ?_
      refine AW.iload_n (pc := 28) dX12_set_28 rfl 2 rfl ?_
      refine AW.cV2v (pc := 29) dX12_set_29 mlX12_339 mbX12_put rfl hthis (kct hthis rfl hct) (fun _ => okR_N (by omega)) (kX12_put l E (n - 1) (by omega) ct hct ex this x1 x2 M6) (Nat.le_of_ble_eq_true rfl) (fun _ M8 => ?_)
      refine AW.iconst (pc := 32) dX12_set_32 ci_1 ?_
      exact AW.zret (pc := 33) dX12_set_33 rfl (Or.inr rfl) (fun _ _ _ => rfl) (Nat.le_refl _) (Nat.le_refl _)
-- GateBoxModel.tellGifts(I)V
def zX12_tellGifts_B13 (KK2 : Nat → Int32 → Int32 → Mem → Option (Unit × Mem)) (KK13 : Nat → Int32 → Int32 → Int32 → Mem → Option (Unit × Mem)) (this : Nat) (x1 : Int32) (x2 : Int32) (x3 : Int32) (M : Mem) : Option (Unit × Mem) :=
  if mR M this 3 ≠ 0 then
  if (K0 (mR M this 3)).1 = 1 ∧ inb x1 (K0 (mR M this 3)).2 = true then
  if (mI M (mR M this 3) (Int32.toNatClampNeg x1)) ≤ x3 then
    KK2 this x1 (x2 + 1) M
  else
    if mR M this 34 ≠ 0 then
    bnd (zX12_gift this x1 x3 x2 M) fun v5 M6 =>
    if (K0 (mR M this 34)).1 = 1 ∧ inb ((8 * x2) + x3) (K0 (mR M this 34)).2 = true then
    lt (sI M6 (mR M this 34) (Int32.toNatClampNeg ((8 * x2) + x3)) v5) fun M8 =>
    KK13 this x1 x2 (x3 + 1) M8
    else none
    else none
  else none
  else none
def zX12_tellGifts_L13 (KK2 : Nat → Int32 → Int32 → Mem → Option (Unit × Mem)) : Nat → Nat → Int32 → Int32 → Int32 → Mem → Option (Unit × Mem)
  | 0 => fun _ _ _ _ _ => none
  | k + 1 => zX12_tellGifts_B13 KK2 (zX12_tellGifts_L13 KK2 k)
def zX12_tellGifts_B2 (KK2 : Nat → Int32 → Int32 → Mem → Option (Unit × Mem)) (this : Nat) (x1 : Int32) (x2 : Int32) (M : Mem) : Option (Unit × Mem) :=
  bnd (zX12_statesOf this x1 M) fun v1 M2 =>
  if v1 ≤ x2 then
    some ((), M2)
  else
    zX12_tellGifts_L13 KK2 FU this x1 x2 0 M2
def zX12_tellGifts_L2 : Nat → Nat → Int32 → Int32 → Mem → Option (Unit × Mem)
  | 0 => fun _ _ _ _ => none
  | k + 1 => zX12_tellGifts_B2 (zX12_tellGifts_L2 k)
def zX12_tellGifts (this : Nat) (x1 : Int32) (M : Mem) : Option (Unit × Mem) :=
  if K0 this = (0, 12) then
  zX12_tellGifts_L2 FU this x1 0 M
  else none
set_option maxRecDepth 20000 in
set_option maxHeartbeats 4000000 in
theorem kX12_tellGifts_B13 (l : Launch) (E : Ev) (n : Nat) (hn : 10 ≤ n) (ct : Nat) (hct : 111 ≤ ct) (ex : Bool) (KK2 : Nat → Int32 → Int32 → Mem → Option (Unit × Mem)) (hKK2 : ∀ (this : Nat) (x1 : Int32) (x2 : Int32) (M : Mem) (_ : K0 this = (0, 12)), AW l E fX12_tellGifts (fun _ => rmN n 0 0) (PQr E 0 0 ct ex enU) ct ex 0 0 2 [(0, .ref (ad E this)), (1, .int x1), (2, .int x2)] [] M (KK2 this x1 x2 M)) (KK13 : Nat → Int32 → Int32 → Int32 → Mem → Option (Unit × Mem)) (hKK13 : ∀ (this : Nat) (x1 : Int32) (x2 : Int32) (x3 : Int32) (M : Mem) (_ : K0 this = (0, 12)), AW l E fX12_tellGifts (fun _ => rmN n 0 0) (PQr E 0 0 ct ex enU) ct ex 0 0 13 [(0, .ref (ad E this)), (1, .int x1), (2, .int x2), (3, .int x3)] [] M (KK13 this x1 x2 x3 M)) (this : Nat) (x1 : Int32) (x2 : Int32) (x3 : Int32) (M : Mem) (hthis : K0 this = (0, 12)) : AW l E fX12_tellGifts (fun _ => rmN n 0 0) (PQr E 0 0 ct ex enU) ct ex 0 0 13 [(0, .ref (ad E this)), (1, .int x1), (2, .int x2), (3, .int x3)] [] M (zX12_tellGifts_B13 KK2 KK13 this x1 x2 x3 M) := by
  unfold zX12_tellGifts_B13
  refine AW.iload_n (pc := 13) dX12_tellGifts_13 rfl 3 rfl ?_
  refine AW.aload_n (pc := 14) dX12_tellGifts_14 rfl 0 rfl ?_
  refine AW.chk (fun g1 => ?_)
  refine AW.getR (pc := 15) dX12_tellGifts_15 flX12_42 hthis (kct hthis rfl hct) g1 ?_
  refine AW.iload_n (pc := 18) dX12_tellGifts_18 rfl 1 rfl ?_
  refine AW.chk (fun g2 => ?_)
  refine AW.iald (pc := 19) dX12_tellGifts_19 (k0e g2.1) (kct (k0e g2.1) rfl hct) g2.2 ?_
  refine AW.icmp_ge (pc := 20) 47 dX12_tellGifts_20 (by decide) (fun h3 => ?_) (fun h3 => ?_)
  · refine AW.iinc (pc := 47) (w := 2) [1, 2, 0] [(0, .ref (ad E this)), (1, .int x1), (2, .int (x2 + 1))] dX12_tellGifts_47 rfl (inc_1 _) (by decide) rfl ?_
    refine AW.goto (pc := 50) 2 dX12_tellGifts_50 (by decide) ?_
    exact hKK2 this x1 (x2 + 1) M hthis
  · refine AW.aload_n (pc := 23) dX12_tellGifts_23 rfl 0 rfl ?_
    refine AW.chk (fun g4 => ?_)
    refine AW.getR (pc := 24) dX12_tellGifts_24 flX12_106 hthis (kct hthis rfl hct) g4 ?_
    refine AW.bipush (pc := 27) dX12_tellGifts_27 cb_8 ?_
    refine AW.iload_n (pc := 29) dX12_tellGifts_29 rfl 2 rfl ?_
    refine AW.imul (pc := 30) dX12_tellGifts_30 ?_
    refine AW.iload_n (pc := 31) dX12_tellGifts_31 rfl 3 rfl ?_
    refine AW.iadd (pc := 32) dX12_tellGifts_32 ?_
    refine AW.aload_n (pc := 33) dX12_tellGifts_33 rfl 0 rfl ?_
    refine AW.iload_n (pc := 34) dX12_tellGifts_34 rfl 1 rfl ?_
    refine AW.iload_n (pc := 35) dX12_tellGifts_35 rfl 3 rfl ?_
    refine AW.iload_n (pc := 36) dX12_tellGifts_36 rfl 2 rfl ?_
    refine AW.cV3i (pc := 37) dX12_tellGifts_37 mlX12_330 mbX12_gift rfl hthis (kct hthis rfl hct) (fun _ => okR_N (by omega)) (kX12_gift l E (n - 1) (by omega) ct hct ex this x1 x3 x2 M) (Nat.le_of_ble_eq_true rfl) (fun v5 M6 => ?_)
    refine AW.chk (fun g7 => ?_)
    refine AW.iast (pc := 40) dX12_tellGifts_40 (k0e g7.1) (kct (k0e g7.1) rfl hct) g7.2 ?_
    refine AW.genM (fun M8 => ?_)
    refine AW.iinc (pc := 41) (w := 3) [1, 2, 3, 0] [(0, .ref (ad E this)), (1, .int x1), (2, .int x2), (3, .int (x3 + 1))] dX12_tellGifts_41 rfl (inc_1 _) (by decide) rfl ?_
    refine AW.goto (pc := 44) 13 dX12_tellGifts_44 (by decide) ?_
    exact hKK13 this x1 x2 (x3 + 1) M8 hthis
set_option maxRecDepth 20000 in
set_option maxHeartbeats 4000000 in
theorem kX12_tellGifts_L13 (l : Launch) (E : Ev) (n : Nat) (hn : 10 ≤ n) (ct : Nat) (hct : 111 ≤ ct) (ex : Bool) (KK2 : Nat → Int32 → Int32 → Mem → Option (Unit × Mem)) (hKK2 : ∀ (this : Nat) (x1 : Int32) (x2 : Int32) (M : Mem) (_ : K0 this = (0, 12)), AW l E fX12_tellGifts (fun _ => rmN n 0 0) (PQr E 0 0 ct ex enU) ct ex 0 0 2 [(0, .ref (ad E this)), (1, .int x1), (2, .int x2)] [] M (KK2 this x1 x2 M)) (k : Nat) : ∀ (this : Nat) (x1 : Int32) (x2 : Int32) (x3 : Int32) (M : Mem) (_ : K0 this = (0, 12)), AW l E fX12_tellGifts (fun _ => rmN n 0 0) (PQr E 0 0 ct ex enU) ct ex 0 0 13 [(0, .ref (ad E this)), (1, .int x1), (2, .int x2), (3, .int x3)] [] M (zX12_tellGifts_L13 KK2 k this x1 x2 x3 M) := by
  induction k with
  | zero => intro this x1 x2 x3 M _; exact AW.none
  | succ k ih =>
    intro this x1 x2 x3 M hthis
    exact kX12_tellGifts_B13 l E n hn ct hct ex KK2 hKK2 (zX12_tellGifts_L13 KK2 k) ih this x1 x2 x3 M hthis
set_option maxRecDepth 20000 in
set_option maxHeartbeats 4000000 in
theorem kX12_tellGifts_B2 (l : Launch) (E : Ev) (n : Nat) (hn : 10 ≤ n) (ct : Nat) (hct : 111 ≤ ct) (ex : Bool) (KK2 : Nat → Int32 → Int32 → Mem → Option (Unit × Mem)) (hKK2 : ∀ (this : Nat) (x1 : Int32) (x2 : Int32) (M : Mem) (_ : K0 this = (0, 12)), AW l E fX12_tellGifts (fun _ => rmN n 0 0) (PQr E 0 0 ct ex enU) ct ex 0 0 2 [(0, .ref (ad E this)), (1, .int x1), (2, .int x2)] [] M (KK2 this x1 x2 M)) (this : Nat) (x1 : Int32) (x2 : Int32) (M : Mem) (hthis : K0 this = (0, 12)) : AW l E fX12_tellGifts (fun _ => rmN n 0 0) (PQr E 0 0 ct ex enU) ct ex 0 0 2 [(0, .ref (ad E this)), (1, .int x1), (2, .int x2)] [] M (zX12_tellGifts_B2 KK2 this x1 x2 M) := by
  unfold zX12_tellGifts_B2
  refine AW.iload_n (pc := 2) dX12_tellGifts_2 rfl 2 rfl ?_
  refine AW.aload_n (pc := 3) dX12_tellGifts_3 rfl 0 rfl ?_
  refine AW.iload_n (pc := 4) dX12_tellGifts_4 rfl 1 rfl ?_
  refine AW.cV1i (pc := 5) dX12_tellGifts_5 mlX12_170 mbX12_statesOf rfl hthis (kct hthis rfl hct) (fun _ => okR_N (by omega)) (kX12_statesOf l E (n - 1) (by omega) ct hct ex this x1 M) (Nat.le_of_ble_eq_true rfl) (fun v1 M2 => ?_)
  refine AW.icmp_ge (pc := 8) 53 dX12_tellGifts_8 (by decide) (fun h3 => ?_) (fun h3 => ?_)
  · exact AW.vret (pc := 53) dX12_tellGifts_53 rfl (fun _ _ _ => rfl) (Nat.le_refl _) (Nat.le_refl _)
  · refine AW.iconst (pc := 11) dX12_tellGifts_11 ci_0 ?_
    refine AW.istore_n (pc := 12) [1, 2, 3, 0] [(0, .ref (ad E this)), (1, .int x1), (2, .int x2), (3, .int 0)] dX12_tellGifts_12 rfl (by decide) rfl ?_
    exact kX12_tellGifts_L13 l E n hn ct hct ex KK2 hKK2 FU this x1 x2 0 M2 hthis
set_option maxRecDepth 20000 in
set_option maxHeartbeats 4000000 in
theorem kX12_tellGifts_L2 (l : Launch) (E : Ev) (n : Nat) (hn : 10 ≤ n) (ct : Nat) (hct : 111 ≤ ct) (ex : Bool) (k : Nat) : ∀ (this : Nat) (x1 : Int32) (x2 : Int32) (M : Mem) (_ : K0 this = (0, 12)), AW l E fX12_tellGifts (fun _ => rmN n 0 0) (PQr E 0 0 ct ex enU) ct ex 0 0 2 [(0, .ref (ad E this)), (1, .int x1), (2, .int x2)] [] M (zX12_tellGifts_L2 k this x1 x2 M) := by
  induction k with
  | zero => intro this x1 x2 M _; exact AW.none
  | succ k ih =>
    intro this x1 x2 M hthis
    exact kX12_tellGifts_B2 l E n hn ct hct ex (zX12_tellGifts_L2 k) ih this x1 x2 M hthis
set_option maxRecDepth 20000 in
set_option maxHeartbeats 4000000 in
theorem kX12_tellGifts (l : Launch) (E : Ev) (n : Nat) (hn : 10 ≤ n) (ct : Nat) (hct : 111 ≤ ct) (ex : Bool) (this : Nat) (x1 : Int32) (M : Mem) : AM l E n ct ex yX12_tellGifts fX12_tellGifts enU [.ref (ad E this), .int x1] M (zX12_tellGifts this x1 M) := by
  unfold zX12_tellGifts
  refine AM.of (by decide +kernel) ⟨rfl, rfl, rfl⟩ (Nat.le_of_ble_eq_true rfl) ?_
  refine AW.chk (fun hthis => ?_)
  refine AW.iconst (pc := 0) dX12_tellGifts_0 ci_0 ?_
  refine AW.istore_n (pc := 1) [1, 2, 0] [(0, .ref (ad E this)), (1, .int x1), (2, .int 0)] dX12_tellGifts_1 rfl (by decide) rfl ?_
  exact kX12_tellGifts_L2 l E n hn ct hct ex FU this x1 0 M hthis
-- GateBoxModel.startAt(I)V
def zX12_startAt_B2 (KK2 : Nat → Int32 → Int32 → Mem → Option (Unit × Mem)) (this : Nat) (x1 : Int32) (x2 : Int32) (M : Mem) : Option (Unit × Mem) :=
  if 100 ≤ x2 then
    if mR M this 32 ≠ 0 then
    if (K0 (mR M this 32)).1 = 2 ∧ inb x1 (K0 (mR M this 32)).2 = true then
    lt (sL M (mR M this 32) (Int32.toNatClampNeg x1) 1000000000) fun M4 =>
    lt (sL M4 this 35 0) fun M5 =>
    lt (sL M5 this 36 0) fun M6 =>
    some ((), M6)
    else none
    else none
  else
    if mR M this 32 ≠ 0 then
    if (K0 (mR M this 32)).1 = 2 ∧ inb x2 (K0 (mR M this 32)).2 = true then
    lt (sL M (mR M this 32) (Int32.toNatClampNeg x2) 0) fun M9 =>
    KK2 this x1 (x2 + 1) M9
    else none
    else none
def zX12_startAt_L2 : Nat → Nat → Int32 → Int32 → Mem → Option (Unit × Mem)
  | 0 => fun _ _ _ _ => none
  | k + 1 => zX12_startAt_B2 (zX12_startAt_L2 k)
def zX12_startAt (this : Nat) (x1 : Int32) (M : Mem) : Option (Unit × Mem) :=
  if K0 this = (0, 12) then
  zX12_startAt_L2 FU this x1 0 M
  else none
set_option maxRecDepth 20000 in
set_option maxHeartbeats 4000000 in
theorem kX12_startAt_B2 (l : Launch) (E : Ev) (n : Nat) (hn : 1 ≤ n) (ct : Nat) (hct : 111 ≤ ct) (ex : Bool) (KK2 : Nat → Int32 → Int32 → Mem → Option (Unit × Mem)) (hKK2 : ∀ (this : Nat) (x1 : Int32) (x2 : Int32) (M : Mem) (_ : K0 this = (0, 12)), AW l E fX12_startAt (fun _ => rmN n 0 0) (PQr E 0 0 ct ex enU) ct ex 0 0 2 [(0, .ref (ad E this)), (1, .int x1), (2, .int x2)] [] M (KK2 this x1 x2 M)) (this : Nat) (x1 : Int32) (x2 : Int32) (M : Mem) (hthis : K0 this = (0, 12)) : AW l E fX12_startAt (fun _ => rmN n 0 0) (PQr E 0 0 ct ex enU) ct ex 0 0 2 [(0, .ref (ad E this)), (1, .int x1), (2, .int x2)] [] M (zX12_startAt_B2 KK2 this x1 x2 M) := by
  unfold zX12_startAt_B2
  refine AW.iload_n (pc := 2) dX12_startAt_2 rfl 2 rfl ?_
  refine AW.bipush (pc := 3) dX12_startAt_3 cb_100 ?_
  refine AW.icmp_ge (pc := 5) 21 dX12_startAt_5 (by decide) (fun h1 => ?_) (fun h1 => ?_)
  · refine AW.aload_n (pc := 21) dX12_startAt_21 rfl 0 rfl ?_
    refine AW.chk (fun g2 => ?_)
    refine AW.getR (pc := 22) dX12_startAt_22 flX12_99 hthis (kct hthis rfl hct) g2 ?_
    refine AW.iload_n (pc := 25) dX12_startAt_25 rfl 1 rfl ?_
    refine AW.ldc2 (pc := 26) dX12_startAt_26 ccX12_343 ?_
    refine AW.chk (fun g3 => ?_)
    refine AW.last (pc := 29) dX12_startAt_29 (k0e g3.1) (kct (k0e g3.1) rfl hct) g3.2 ?_
    refine AW.genM (fun M4 => ?_)
    refine AW.aload_n (pc := 30) dX12_startAt_30 rfl 0 rfl ?_
    refine AW.lconst (pc := 31) dX12_startAt_31 cl_0 ?_
    refine AW.putL (pc := 32) dX12_startAt_32 flX12_345 hthis (kct hthis rfl hct) ?_
    refine AW.genM (fun M5 => ?_)
    refine AW.aload_n (pc := 35) dX12_startAt_35 rfl 0 rfl ?_
    refine AW.lconst (pc := 36) dX12_startAt_36 cl_0 ?_
    refine AW.putL (pc := 37) dX12_startAt_37 flX12_349 hthis (kct hthis rfl hct) ?_
    refine AW.genM (fun M6 => ?_)
    exact AW.vret (pc := 40) dX12_startAt_40 rfl (fun _ _ _ => rfl) (Nat.le_refl _) (Nat.le_refl _)
  · refine AW.aload_n (pc := 8) dX12_startAt_8 rfl 0 rfl ?_
    refine AW.chk (fun g7 => ?_)
    refine AW.getR (pc := 9) dX12_startAt_9 flX12_99 hthis (kct hthis rfl hct) g7 ?_
    refine AW.iload_n (pc := 12) dX12_startAt_12 rfl 2 rfl ?_
    refine AW.lconst (pc := 13) dX12_startAt_13 cl_0 ?_
    refine AW.chk (fun g8 => ?_)
    refine AW.last (pc := 14) dX12_startAt_14 (k0e g8.1) (kct (k0e g8.1) rfl hct) g8.2 ?_
    refine AW.genM (fun M9 => ?_)
    refine AW.iinc (pc := 15) (w := 2) [1, 2, 0] [(0, .ref (ad E this)), (1, .int x1), (2, .int (x2 + 1))] dX12_startAt_15 rfl (inc_1 _) (by decide) rfl ?_
    refine AW.goto (pc := 18) 2 dX12_startAt_18 (by decide) ?_
    exact hKK2 this x1 (x2 + 1) M9 hthis
set_option maxRecDepth 20000 in
set_option maxHeartbeats 4000000 in
theorem kX12_startAt_L2 (l : Launch) (E : Ev) (n : Nat) (hn : 1 ≤ n) (ct : Nat) (hct : 111 ≤ ct) (ex : Bool) (k : Nat) : ∀ (this : Nat) (x1 : Int32) (x2 : Int32) (M : Mem) (_ : K0 this = (0, 12)), AW l E fX12_startAt (fun _ => rmN n 0 0) (PQr E 0 0 ct ex enU) ct ex 0 0 2 [(0, .ref (ad E this)), (1, .int x1), (2, .int x2)] [] M (zX12_startAt_L2 k this x1 x2 M) := by
  induction k with
  | zero => intro this x1 x2 M _; exact AW.none
  | succ k ih =>
    intro this x1 x2 M hthis
    exact kX12_startAt_B2 l E n hn ct hct ex (zX12_startAt_L2 k) ih this x1 x2 M hthis
set_option maxRecDepth 20000 in
set_option maxHeartbeats 4000000 in
theorem kX12_startAt (l : Launch) (E : Ev) (n : Nat) (hn : 1 ≤ n) (ct : Nat) (hct : 111 ≤ ct) (ex : Bool) (this : Nat) (x1 : Int32) (M : Mem) : AM l E n ct ex yX12_startAt fX12_startAt enU [.ref (ad E this), .int x1] M (zX12_startAt this x1 M) := by
  unfold zX12_startAt
  refine AM.of (by decide +kernel) ⟨rfl, rfl, rfl⟩ (Nat.le_of_ble_eq_true rfl) ?_
  refine AW.chk (fun hthis => ?_)
  refine AW.iconst (pc := 0) dX12_startAt_0 ci_0 ?_
  refine AW.istore_n (pc := 1) [1, 2, 0] [(0, .ref (ad E this)), (1, .int x1), (2, .int 0)] dX12_startAt_1 rfl (by decide) rfl ?_
  exact kX12_startAt_L2 l E n hn ct hct ex FU this x1 0 M hthis
-- GateBoxModel.person(I)V
def zX12_person_B219 (KK219 : Nat → Int32 → Mem → Option (Unit × Mem)) (this : Nat) (x3 : Int32) (M : Mem) : Option (Unit × Mem) :=
  if 100 ≤ x3 then
    some ((), M)
  else
    if mR M this 32 ≠ 0 then
    if mR M this 33 ≠ 0 then
    if (K0 (mR M this 33)).1 = 2 ∧ inb x3 (K0 (mR M this 33)).2 = true then
    if (K0 (mR M this 32)).1 = 2 ∧ inb x3 (K0 (mR M this 32)).2 = true then
    lt (sL M (mR M this 32) (Int32.toNatClampNeg x3) (mL M (mR M this 33) (Int32.toNatClampNeg x3))) fun M6 =>
    KK219 this (x3 + 1) M6
    else none
    else none
    else none
    else none
def zX12_person_L219 : Nat → Nat → Int32 → Mem → Option (Unit × Mem)
  | 0 => fun _ _ _ => none
  | k + 1 => zX12_person_B219 (zX12_person_L219 k)
def zX12_person_B192 (KK44 : Nat → Int32 → Int32 → Int32 → Mem → Option (Unit × Mem)) (KK64 : Nat → Int32 → Int32 → Int32 → Int64 → Int32 → Mem → Option (Unit × Mem)) (this : Nat) (x1 : Int32) (x2 : Int32) (x3 : Int32) (x4 : Int64) (x6 : Int32) (M : Mem) : Option (Unit × Mem) :=
  KK64 this x1 x2 x3 x4 (x6 + 1) M
def zX12_person_B116 (KK44 : Nat → Int32 → Int32 → Int32 → Mem → Option (Unit × Mem)) (KK64 : Nat → Int32 → Int32 → Int32 → Int64 → Int32 → Mem → Option (Unit × Mem)) (this : Nat) (x1 : Int32) (x2 : Int32) (x3 : Int32) (x4 : Int64) (x6 : Int32) (s0 : Int64) (M : Mem) : Option (Unit × Mem) :=
  if mR M this 34 ≠ 0 then
  if (K0 (mR M this 34)).1 = 1 ∧ inb ((8 * x3) + x6) (K0 (mR M this 34)).2 = true then
  lt (mI M (mR M this 34) (Int32.toNatClampNeg ((8 * x3) + x6))) fun v3 =>
  lt (x4 - s0) fun v4 =>
  if mR M this 33 ≠ 0 then
  bnd (zX12_goOn this x1 x3 v3 M) fun v6 M7 =>
  if (K0 (mR M this 33)).1 = 2 ∧ inb v6 (K0 (mR M this 33)).2 = true then
  if inb v6 (K0 (mR M this 33)).2 = true then
  lt (sL M7 (mR M this 33) (Int32.toNatClampNeg v6) ((mL M7 (mR M this 33) (Int32.toNatClampNeg v6)) + s0)) fun M10 =>
  if v3 = (-1) then
    lt (sL M10 this 36 ((mL M10 this 36) + s0)) fun M12 =>
    zX12_person_B192 KK44 KK64 this x1 x2 x3 v4 x6 M12
  else
    lt (sL M10 this 37 ((mL M10 this 37) + (s0 * (Int32.toInt64 v3)))) fun M13 =>
    zX12_person_B192 KK44 KK64 this x1 x2 x3 v4 x6 M13
  else none
  else none
  else none
  else none
  else none
def zX12_person_B64 (KK44 : Nat → Int32 → Int32 → Int32 → Mem → Option (Unit × Mem)) (KK64 : Nat → Int32 → Int32 → Int32 → Int64 → Int32 → Mem → Option (Unit × Mem)) (this : Nat) (x1 : Int32) (x2 : Int32) (x3 : Int32) (x4 : Int64) (x6 : Int32) (M : Mem) : Option (Unit × Mem) :=
  if mR M this 3 ≠ 0 then
  if (K0 (mR M this 3)).1 = 1 ∧ inb x1 (K0 (mR M this 3)).2 = true then
  if (mI M (mR M this 3) (Int32.toNatClampNeg x1)) ≤ x6 then
    KK44 this x1 x2 (x3 + 1) M
  else
    if inb x1 (K0 (mR M this 3)).2 = true then
    if x6 = ((mI M (mR M this 3) (Int32.toNatClampNeg x1)) - 1) then
      zX12_person_B116 KK44 KK64 this x1 x2 x3 x4 x6 x4 M
    else
      if mR M this 32 ≠ 0 then
      if (K0 (mR M this 32)).1 = 2 ∧ inb x3 (K0 (mR M this 32)).2 = true then
      if mR M this 5 ≠ 0 then
      if (K0 (mR M this 5)).1 = 1 ∧ inb ((8 * x1) + x6) (K0 (mR M this 5)).2 = true then
      if ¬ (Int32.toInt64 x2) = 0 then
      zX12_person_B116 KK44 KK64 this x1 x2 x3 x4 x6 (((mL M (mR M this 32) (Int32.toNatClampNeg x3)) * (Int32.toInt64 (mI M (mR M this 5) (Int32.toNatClampNeg ((8 * x1) + x6))))) / (Int32.toInt64 x2)) M
      else none
      else none
      else none
      else none
      else none
    else none
  else none
  else none
def zX12_person_L64 (KK44 : Nat → Int32 → Int32 → Int32 → Mem → Option (Unit × Mem)) : Nat → Nat → Int32 → Int32 → Int32 → Int64 → Int32 → Mem → Option (Unit × Mem)
  | 0 => fun _ _ _ _ _ _ _ => none
  | k + 1 => zX12_person_B64 KK44 (zX12_person_L64 KK44 k)
def zX12_person_B44 (KK44 : Nat → Int32 → Int32 → Int32 → Mem → Option (Unit × Mem)) (this : Nat) (x1 : Int32) (x2 : Int32) (x3 : Int32) (M : Mem) : Option (Unit × Mem) :=
  bnd (zX12_statesOf this x1 M) fun v1 M2 =>
  if v1 ≤ x3 then
    lt (sL M2 this 35 ((mL M2 this 35) + (mL M2 this 37))) fun M4 =>
    zX12_person_L219 FU this 0 M4
  else
    if mR M2 this 32 ≠ 0 then
    if (K0 (mR M2 this 32)).1 = 2 ∧ inb x3 (K0 (mR M2 this 32)).2 = true then
    lt (mL M2 (mR M2 this 32) (Int32.toNatClampNeg x3)) fun v7 =>
    zX12_person_L64 KK44 FU this x1 x2 x3 v7 0 M2
    else none
    else none
def zX12_person_L44 : Nat → Nat → Int32 → Int32 → Int32 → Mem → Option (Unit × Mem)
  | 0 => fun _ _ _ _ _ => none
  | k + 1 => zX12_person_B44 (zX12_person_L44 k)
def zX12_person_B23 (KK23 : Nat → Int32 → Int32 → Int32 → Mem → Option (Unit × Mem)) (this : Nat) (x1 : Int32) (x2 : Int32) (x3 : Int32) (M : Mem) : Option (Unit × Mem) :=
  if 100 ≤ x3 then
    zX12_person_L44 FU this x1 x2 0 M
  else
    if mR M this 33 ≠ 0 then
    if (K0 (mR M this 33)).1 = 2 ∧ inb x3 (K0 (mR M this 33)).2 = true then
    lt (sL M (mR M this 33) (Int32.toNatClampNeg x3) 0) fun M4 =>
    KK23 this x1 x2 (x3 + 1) M4
    else none
    else none
def zX12_person_L23 : Nat → Nat → Int32 → Int32 → Int32 → Mem → Option (Unit × Mem)
  | 0 => fun _ _ _ _ _ => none
  | k + 1 => zX12_person_B23 (zX12_person_L23 k)
def zX12_person (this : Nat) (x1 : Int32) (M : Mem) : Option (Unit × Mem) :=
  if K0 this = (0, 12) then
  bnd (zX12_oddsOf this x1 M) fun v1 M2 =>
  lt (sL M2 this 37 0) fun M3 =>
  if mR M3 this 3 ≠ 0 then
  if (K0 (mR M3 this 3)).1 = 1 ∧ inb x1 (K0 (mR M3 this 3)).2 = true then
  if (mI M3 (mR M3 this 3) (Int32.toNatClampNeg x1)) = 0 then
    some ((), M3)
  else
    zX12_person_L23 FU this x1 v1 0 M3
  else none
  else none
  else none
set_option maxRecDepth 20000 in
set_option maxHeartbeats 4000000 in
theorem kX12_person_B219 (l : Launch) (E : Ev) (n : Nat) (hn : 3 ≤ n) (ct : Nat) (hct : 111 ≤ ct) (ex : Bool) (KK219 : Nat → Int32 → Mem → Option (Unit × Mem)) (hKK219 : ∀ (this : Nat) (x3 : Int32) (M : Mem) (_ : K0 this = (0, 12)), AW l E fX12_person (fun _ => rmN n 0 0) (PQr E 0 0 ct ex enU) ct ex 0 0 219 [(0, .ref (ad E this)), (3, .int x3)] [] M (KK219 this x3 M)) (this : Nat) (x3 : Int32) (M : Mem) (hthis : K0 this = (0, 12)) : AW l E fX12_person (fun _ => rmN n 0 0) (PQr E 0 0 ct ex enU) ct ex 0 0 219 [(0, .ref (ad E this)), (3, .int x3)] [] M (zX12_person_B219 KK219 this x3 M) := by
  unfold zX12_person_B219
  refine AW.iload_n (pc := 219) dX12_person_219 rfl 1 rfl ?_
  refine AW.bipush (pc := 220) dX12_person_220 cb_100 ?_
  refine AW.icmp_ge (pc := 222) 243 dX12_person_222 (by decide) (fun h1 => ?_) (fun h1 => ?_)
  · exact AW.vret (pc := 243) dX12_person_243 rfl (fun _ _ _ => rfl) (Nat.le_refl _) (Nat.le_refl _)
  · refine AW.aload_n (pc := 225) dX12_person_225 rfl 0 rfl ?_
    refine AW.chk (fun g2 => ?_)
    refine AW.getR (pc := 226) dX12_person_226 flX12_99 hthis (kct hthis rfl hct) g2 ?_
    refine AW.iload_n (pc := 229) dX12_person_229 rfl 1 rfl ?_
    refine AW.aload_n (pc := 230) dX12_person_230 rfl 0 rfl ?_
    refine AW.chk (fun g3 => ?_)
    refine AW.getR (pc := 231) dX12_person_231 flX12_103 hthis (kct hthis rfl hct) g3 ?_
    refine AW.iload_n (pc := 234) dX12_person_234 rfl 1 rfl ?_
    refine AW.chk (fun g4 => ?_)
    refine AW.lald (pc := 235) dX12_person_235 (k0e g4.1) (kct (k0e g4.1) rfl hct) g4.2 ?_
    refine AW.chk (fun g5 => ?_)
    refine AW.last (pc := 236) dX12_person_236 (k0e g5.1) (kct (k0e g5.1) rfl hct) g5.2 ?_
    refine AW.genM (fun M6 => ?_)
    refine AW.iinc (pc := 237) (w := 1) [1, 0] [(0, .ref (ad E this)), (3, .int (x3 + 1))] dX12_person_237 rfl (inc_1 _) (by decide) rfl ?_
    refine AW.goto (pc := 240) 219 dX12_person_240 (by decide) ?_
    exact hKK219 this (x3 + 1) M6 hthis
set_option maxRecDepth 20000 in
set_option maxHeartbeats 4000000 in
theorem kX12_person_L219 (l : Launch) (E : Ev) (n : Nat) (hn : 3 ≤ n) (ct : Nat) (hct : 111 ≤ ct) (ex : Bool) (k : Nat) : ∀ (this : Nat) (x3 : Int32) (M : Mem) (_ : K0 this = (0, 12)), AW l E fX12_person (fun _ => rmN n 0 0) (PQr E 0 0 ct ex enU) ct ex 0 0 219 [(0, .ref (ad E this)), (3, .int x3)] [] M (zX12_person_L219 k this x3 M) := by
  induction k with
  | zero => intro this x3 M _; exact AW.none
  | succ k ih =>
    intro this x3 M hthis
    exact kX12_person_B219 l E n hn ct hct ex (zX12_person_L219 k) ih this x3 M hthis
set_option maxRecDepth 20000 in
set_option maxHeartbeats 4000000 in
theorem kX12_person_B192 (l : Launch) (E : Ev) (n : Nat) (hn : 3 ≤ n) (ct : Nat) (hct : 111 ≤ ct) (ex : Bool) (KK44 : Nat → Int32 → Int32 → Int32 → Mem → Option (Unit × Mem)) (hKK44 : ∀ (this : Nat) (x1 : Int32) (x2 : Int32) (x3 : Int32) (M : Mem) (_ : K0 this = (0, 12)), AW l E fX12_person (fun _ => rmN n 0 0) (PQr E 0 0 ct ex enU) ct ex 0 0 44 [(0, .ref (ad E this)), (1, .int x1), (2, .int x2), (3, .int x3)] [] M (KK44 this x1 x2 x3 M)) (KK64 : Nat → Int32 → Int32 → Int32 → Int64 → Int32 → Mem → Option (Unit × Mem)) (hKK64 : ∀ (this : Nat) (x1 : Int32) (x2 : Int32) (x3 : Int32) (x4 : Int64) (x6 : Int32) (M : Mem) (_ : K0 this = (0, 12)), AW l E fX12_person (fun _ => rmN n 0 0) (PQr E 0 0 ct ex enU) ct ex 0 0 64 [(0, .ref (ad E this)), (1, .int x1), (2, .int x2), (3, .int x3), (4, .long x4), (6, .int x6)] [] M (KK64 this x1 x2 x3 x4 x6 M)) (this : Nat) (x1 : Int32) (x2 : Int32) (x3 : Int32) (x4 : Int64) (x6 : Int32) (M : Mem) (hthis : K0 this = (0, 12)) : AW l E fX12_person (fun _ => rmN n 0 0) (PQr E 0 0 ct ex enU) ct ex 0 0 192 [(0, .ref (ad E this)), (1, .int x1), (2, .int x2), (3, .int x3), (4, .long x4), (6, .int x6)] [] M (zX12_person_B192 KK44 KK64 this x1 x2 x3 x4 x6 M) := by
  unfold zX12_person_B192
  refine AW.iinc (pc := 192) (w := 5) [1, 2, 3, 4, 5, 0] [(0, .ref (ad E this)), (1, .int x1), (2, .int x2), (3, .int x3), (4, .long x4), (6, .int (x6 + 1))] dX12_person_192 rfl (inc_1 _) (by decide) rfl ?_
  refine AW.goto (pc := 195) 64 dX12_person_195 (by decide) ?_
  exact hKK64 this x1 x2 x3 x4 (x6 + 1) M hthis
set_option maxRecDepth 20000 in
set_option maxHeartbeats 4000000 in
theorem kX12_person_B116 (l : Launch) (E : Ev) (n : Nat) (hn : 3 ≤ n) (ct : Nat) (hct : 111 ≤ ct) (ex : Bool) (KK44 : Nat → Int32 → Int32 → Int32 → Mem → Option (Unit × Mem)) (hKK44 : ∀ (this : Nat) (x1 : Int32) (x2 : Int32) (x3 : Int32) (M : Mem) (_ : K0 this = (0, 12)), AW l E fX12_person (fun _ => rmN n 0 0) (PQr E 0 0 ct ex enU) ct ex 0 0 44 [(0, .ref (ad E this)), (1, .int x1), (2, .int x2), (3, .int x3)] [] M (KK44 this x1 x2 x3 M)) (KK64 : Nat → Int32 → Int32 → Int32 → Int64 → Int32 → Mem → Option (Unit × Mem)) (hKK64 : ∀ (this : Nat) (x1 : Int32) (x2 : Int32) (x3 : Int32) (x4 : Int64) (x6 : Int32) (M : Mem) (_ : K0 this = (0, 12)), AW l E fX12_person (fun _ => rmN n 0 0) (PQr E 0 0 ct ex enU) ct ex 0 0 64 [(0, .ref (ad E this)), (1, .int x1), (2, .int x2), (3, .int x3), (4, .long x4), (6, .int x6)] [] M (KK64 this x1 x2 x3 x4 x6 M)) (this : Nat) (x1 : Int32) (x2 : Int32) (x3 : Int32) (x4 : Int64) (x6 : Int32) (s0 : Int64) (M : Mem) (hthis : K0 this = (0, 12)) : AW l E fX12_person (fun _ => rmN n 0 0) (PQr E 0 0 ct ex enU) ct ex 0 0 116 [(0, .ref (ad E this)), (1, .int x1), (2, .int x2), (3, .int x3), (4, .long x4), (6, .int x6)] [.long s0] M (zX12_person_B116 KK44 KK64 this x1 x2 x3 x4 x6 s0 M) := by
  unfold zX12_person_B116
  refine AW.lstore (pc := 116) [1, 2, 3, 4, 5, 6, 0] [(0, .ref (ad E this)), (1, .int x1), (2, .int x2), (3, .int x3), (4, .long x4), (6, .int x6), (7, .long s0)] dX12_person_116 (by decide) rfl ?_
  refine AW.aload_n (pc := 118) dX12_person_118 rfl 0 rfl ?_
  refine AW.chk (fun g1 => ?_)
  refine AW.getR (pc := 119) dX12_person_119 flX12_106 hthis (kct hthis rfl hct) g1 ?_
  refine AW.bipush (pc := 122) dX12_person_122 cb_8 ?_
  refine AW.iload_n (pc := 124) dX12_person_124 rfl 3 rfl ?_
  refine AW.imul (pc := 125) dX12_person_125 ?_
  refine AW.iload (pc := 126) dX12_person_126 5 rfl ?_
  refine AW.iadd (pc := 128) dX12_person_128 ?_
  refine AW.chk (fun g2 => ?_)
  refine AW.iald (pc := 129) dX12_person_129 (k0e g2.1) (kct (k0e g2.1) rfl hct) g2.2 ?_
  refine AW.genI (fun v3 => ?_)
  refine AW.istore (pc := 130) [1, 2, 3, 4, 5, 6, 7, 0] [(0, .ref (ad E this)), (1, .int x1), (2, .int x2), (3, .int x3), (4, .long x4), (6, .int x6), (7, .long s0), (9, .int v3)] dX12_person_130 (by decide) rfl ?_
  refine AW.lload (pc := 132) dX12_person_132 4 rfl ?_
  refine AW.lload (pc := 134) dX12_person_134 6 rfl ?_
  refine AW.lsub (pc := 136) dX12_person_136 ?_
  refine AW.genL (fun v4 => ?_)
  refine AW.lstore (pc := 137) [1, 2, 3, 4, 0, 5, 6, 7] [(0, .ref (ad E this)), (1, .int x1), (2, .int x2), (3, .int x3), (4, .long v4), (6, .int x6), (7, .long s0), (9, .int v3)] dX12_person_137 (by decide) rfl ?_
  refine AW.aload_n (pc := 139) dX12_person_139 rfl 0 rfl ?_
  refine AW.chk (fun g5 => ?_)
  refine AW.getR (pc := 140) dX12_person_140 flX12_103 hthis (kct hthis rfl hct) g5 ?_
  refine AW.aload_n (pc := 143) dX12_person_143 rfl 0 rfl ?_
  refine AW.iload_n (pc := 144) dX12_person_144 rfl 1 rfl ?_
  refine AW.iload_n (pc := 145) dX12_person_145 rfl 3 rfl ?_
  refine AW.iload (pc := 146) dX12_person_146 7 rfl ?_
  refine AW.cV3i (pc := 148) dX12_person_148 mlX12_355 mbX12_goOn rfl hthis (kct hthis rfl hct) (fun _ => okR_N (by omega)) (kX12_goOn l E (n - 1) (by omega) ct hct ex this x1 x3 v3 M) (Nat.le_of_ble_eq_true rfl) (fun v6 M7 => ?_)
  refine AW.dup2 (pc := 151) dX12_person_151 rfl rfl ?_
  refine AW.chk (fun g8 => ?_)
  refine AW.lald (pc := 152) dX12_person_152 (k0e g8.1) (kct (k0e g8.1) rfl hct) g8.2 ?_
  refine AW.lload (pc := 153) dX12_person_153 6 rfl ?_
  refine AW.ladd (pc := 155) dX12_person_155 ?_
  refine AW.chk (fun g9 => ?_)
  refine AW.last (pc := 156) dX12_person_156 (k0e g8.1) (kct (k0e g8.1) rfl hct) g9 ?_
  refine AW.genM (fun M10 => ?_)
  refine AW.iload (pc := 157) dX12_person_157 7 rfl ?_
  refine AW.iconst (pc := 159) dX12_person_159 ci_m1 ?_
  refine AW.icmp_ne (pc := 160) 177 dX12_person_160 (by decide) (fun h11 => ?_) (fun h11 => ?_)
  · refine AW.aload_n (pc := 163) dX12_person_163 rfl 0 rfl ?_
    refine AW.dup (pc := 164) dX12_person_164 rfl ?_
    refine AW.getL (pc := 165) dX12_person_165 flX12_349 hthis (kct hthis rfl hct) ?_
    refine AW.lload (pc := 168) dX12_person_168 6 rfl ?_
    refine AW.ladd (pc := 170) dX12_person_170 ?_
    refine AW.putL (pc := 171) dX12_person_171 flX12_349 hthis (kct hthis rfl hct) ?_
    refine AW.genM (fun M12 => ?_)
    refine AW.goto (pc := 174) 192 dX12_person_174 (by decide) ?_
    exact AW.sub [0, 1, 2, 3, 4, 5] rfl (kX12_person_B192 l E n hn ct hct ex KK44 hKK44 KK64 hKK64 this x1 x2 x3 v4 x6 M12 hthis)
  · refine AW.aload_n (pc := 177) dX12_person_177 rfl 0 rfl ?_
    refine AW.dup (pc := 178) dX12_person_178 rfl ?_
    refine AW.getL (pc := 179) dX12_person_179 flX12_352 hthis (kct hthis rfl hct) ?_
    refine AW.lload (pc := 182) dX12_person_182 6 rfl ?_
    refine AW.iload (pc := 184) dX12_person_184 7 rfl ?_
    refine AW.i2l (pc := 186) dX12_person_186 ?_
    refine AW.lmul (pc := 187) dX12_person_187 ?_
    refine AW.ladd (pc := 188) dX12_person_188 ?_
    refine AW.putL (pc := 189) dX12_person_189 flX12_352 hthis (kct hthis rfl hct) ?_
    refine AW.genM (fun M13 => ?_)
    exact AW.sub [0, 1, 2, 3, 4, 5] rfl (kX12_person_B192 l E n hn ct hct ex KK44 hKK44 KK64 hKK64 this x1 x2 x3 v4 x6 M13 hthis)
set_option maxRecDepth 20000 in
set_option maxHeartbeats 4000000 in
theorem kX12_person_B64 (l : Launch) (E : Ev) (n : Nat) (hn : 3 ≤ n) (ct : Nat) (hct : 111 ≤ ct) (ex : Bool) (KK44 : Nat → Int32 → Int32 → Int32 → Mem → Option (Unit × Mem)) (hKK44 : ∀ (this : Nat) (x1 : Int32) (x2 : Int32) (x3 : Int32) (M : Mem) (_ : K0 this = (0, 12)), AW l E fX12_person (fun _ => rmN n 0 0) (PQr E 0 0 ct ex enU) ct ex 0 0 44 [(0, .ref (ad E this)), (1, .int x1), (2, .int x2), (3, .int x3)] [] M (KK44 this x1 x2 x3 M)) (KK64 : Nat → Int32 → Int32 → Int32 → Int64 → Int32 → Mem → Option (Unit × Mem)) (hKK64 : ∀ (this : Nat) (x1 : Int32) (x2 : Int32) (x3 : Int32) (x4 : Int64) (x6 : Int32) (M : Mem) (_ : K0 this = (0, 12)), AW l E fX12_person (fun _ => rmN n 0 0) (PQr E 0 0 ct ex enU) ct ex 0 0 64 [(0, .ref (ad E this)), (1, .int x1), (2, .int x2), (3, .int x3), (4, .long x4), (6, .int x6)] [] M (KK64 this x1 x2 x3 x4 x6 M)) (this : Nat) (x1 : Int32) (x2 : Int32) (x3 : Int32) (x4 : Int64) (x6 : Int32) (M : Mem) (hthis : K0 this = (0, 12)) : AW l E fX12_person (fun _ => rmN n 0 0) (PQr E 0 0 ct ex enU) ct ex 0 0 64 [(0, .ref (ad E this)), (1, .int x1), (2, .int x2), (3, .int x3), (4, .long x4), (6, .int x6)] [] M (zX12_person_B64 KK44 KK64 this x1 x2 x3 x4 x6 M) := by
  unfold zX12_person_B64
  refine AW.iload (pc := 64) dX12_person_64 5 rfl ?_
  refine AW.aload_n (pc := 66) dX12_person_66 rfl 0 rfl ?_
  refine AW.chk (fun g1 => ?_)
  refine AW.getR (pc := 67) dX12_person_67 flX12_42 hthis (kct hthis rfl hct) g1 ?_
  refine AW.iload_n (pc := 70) dX12_person_70 rfl 1 rfl ?_
  refine AW.chk (fun g2 => ?_)
  refine AW.iald (pc := 71) dX12_person_71 (k0e g2.1) (kct (k0e g2.1) rfl hct) g2.2 ?_
  refine AW.icmp_ge (pc := 72) 198 dX12_person_72 (by decide) (fun h3 => ?_) (fun h3 => ?_)
  · refine AW.iinc (pc := 198) (w := 3) [1, 2, 3, 0] [(0, .ref (ad E this)), (1, .int x1), (2, .int x2), (3, .int (x3 + 1))] dX12_person_198 rfl (inc_1 _) (by decide) rfl ?_
    refine AW.goto (pc := 201) 44 dX12_person_201 (by decide) ?_
    exact hKK44 this x1 x2 (x3 + 1) M hthis
  · refine AW.iload (pc := 75) dX12_person_75 5 rfl ?_
    refine AW.aload_n (pc := 77) dX12_person_77 rfl 0 rfl ?_
    refine AW.getR (pc := 78) dX12_person_78 flX12_42 hthis (kct hthis rfl hct) g1 ?_
    refine AW.iload_n (pc := 81) dX12_person_81 rfl 1 rfl ?_
    refine AW.chk (fun g4 => ?_)
    refine AW.iald (pc := 82) dX12_person_82 (k0e g2.1) (kct (k0e g2.1) rfl hct) g4 ?_
    refine AW.iconst (pc := 83) dX12_person_83 ci_1 ?_
    refine AW.isub (pc := 84) dX12_person_84 ?_
    refine AW.icmp_ne (pc := 85) 93 dX12_person_85 (by decide) (fun h5 => ?_) (fun h5 => ?_)
    · refine AW.lload (pc := 88) dX12_person_88 4 rfl ?_
      refine AW.goto (pc := 90) 116 dX12_person_90 (by decide) ?_
      exact kX12_person_B116 l E n hn ct hct ex KK44 hKK44 KK64 hKK64 this x1 x2 x3 x4 x6 x4 M hthis
    · refine AW.aload_n (pc := 93) dX12_person_93 rfl 0 rfl ?_
      refine AW.chk (fun g6 => ?_)
      refine AW.getR (pc := 94) dX12_person_94 flX12_99 hthis (kct hthis rfl hct) g6 ?_
      refine AW.iload_n (pc := 97) dX12_person_97 rfl 3 rfl ?_
      refine AW.chk (fun g7 => ?_)
      refine AW.lald (pc := 98) dX12_person_98 (k0e g7.1) (kct (k0e g7.1) rfl hct) g7.2 ?_
      refine AW.aload_n (pc := 99) dX12_person_99 rfl 0 rfl ?_
      refine AW.chk (fun g8 => ?_)
      refine AW.getR (pc := 100) dX12_person_100 flX12_49 hthis (kct hthis rfl hct) g8 ?_
      refine AW.bipush (pc := 103) dX12_person_103 cb_8 ?_
      refine AW.iload_n (pc := 105) dX12_person_105 rfl 1 rfl ?_
      refine AW.imul (pc := 106) dX12_person_106 ?_
      refine AW.iload (pc := 107) dX12_person_107 5 rfl ?_
      refine AW.iadd (pc := 109) dX12_person_109 ?_
      refine AW.chk (fun g9 => ?_)
      refine AW.iald (pc := 110) dX12_person_110 (k0e g9.1) (kct (k0e g9.1) rfl hct) g9.2 ?_
      refine AW.i2l (pc := 111) dX12_person_111 ?_
      refine AW.lmul (pc := 112) dX12_person_112 ?_
      refine AW.iload_n (pc := 113) dX12_person_113 rfl 2 rfl ?_
      refine AW.i2l (pc := 114) dX12_person_114 ?_
      refine AW.chk (fun g10 => ?_)
      refine AW.ldiv (pc := 115) dX12_person_115 g10 ?_
      exact kX12_person_B116 l E n hn ct hct ex KK44 hKK44 KK64 hKK64 this x1 x2 x3 x4 x6 (((mL M (mR M this 32) (Int32.toNatClampNeg x3)) * (Int32.toInt64 (mI M (mR M this 5) (Int32.toNatClampNeg ((8 * x1) + x6))))) / (Int32.toInt64 x2)) M hthis
set_option maxRecDepth 20000 in
set_option maxHeartbeats 4000000 in
theorem kX12_person_L64 (l : Launch) (E : Ev) (n : Nat) (hn : 3 ≤ n) (ct : Nat) (hct : 111 ≤ ct) (ex : Bool) (KK44 : Nat → Int32 → Int32 → Int32 → Mem → Option (Unit × Mem)) (hKK44 : ∀ (this : Nat) (x1 : Int32) (x2 : Int32) (x3 : Int32) (M : Mem) (_ : K0 this = (0, 12)), AW l E fX12_person (fun _ => rmN n 0 0) (PQr E 0 0 ct ex enU) ct ex 0 0 44 [(0, .ref (ad E this)), (1, .int x1), (2, .int x2), (3, .int x3)] [] M (KK44 this x1 x2 x3 M)) (k : Nat) : ∀ (this : Nat) (x1 : Int32) (x2 : Int32) (x3 : Int32) (x4 : Int64) (x6 : Int32) (M : Mem) (_ : K0 this = (0, 12)), AW l E fX12_person (fun _ => rmN n 0 0) (PQr E 0 0 ct ex enU) ct ex 0 0 64 [(0, .ref (ad E this)), (1, .int x1), (2, .int x2), (3, .int x3), (4, .long x4), (6, .int x6)] [] M (zX12_person_L64 KK44 k this x1 x2 x3 x4 x6 M) := by
  induction k with
  | zero => intro this x1 x2 x3 x4 x6 M _; exact AW.none
  | succ k ih =>
    intro this x1 x2 x3 x4 x6 M hthis
    exact kX12_person_B64 l E n hn ct hct ex KK44 hKK44 (zX12_person_L64 KK44 k) ih this x1 x2 x3 x4 x6 M hthis
set_option maxRecDepth 20000 in
set_option maxHeartbeats 4000000 in
theorem kX12_person_B44 (l : Launch) (E : Ev) (n : Nat) (hn : 3 ≤ n) (ct : Nat) (hct : 111 ≤ ct) (ex : Bool) (KK44 : Nat → Int32 → Int32 → Int32 → Mem → Option (Unit × Mem)) (hKK44 : ∀ (this : Nat) (x1 : Int32) (x2 : Int32) (x3 : Int32) (M : Mem) (_ : K0 this = (0, 12)), AW l E fX12_person (fun _ => rmN n 0 0) (PQr E 0 0 ct ex enU) ct ex 0 0 44 [(0, .ref (ad E this)), (1, .int x1), (2, .int x2), (3, .int x3)] [] M (KK44 this x1 x2 x3 M)) (this : Nat) (x1 : Int32) (x2 : Int32) (x3 : Int32) (M : Mem) (hthis : K0 this = (0, 12)) : AW l E fX12_person (fun _ => rmN n 0 0) (PQr E 0 0 ct ex enU) ct ex 0 0 44 [(0, .ref (ad E this)), (1, .int x1), (2, .int x2), (3, .int x3)] [] M (zX12_person_B44 KK44 this x1 x2 x3 M) := by
  unfold zX12_person_B44
  refine AW.iload_n (pc := 44) dX12_person_44 rfl 3 rfl ?_
  refine AW.aload_n (pc := 45) dX12_person_45 rfl 0 rfl ?_
  refine AW.iload_n (pc := 46) dX12_person_46 rfl 1 rfl ?_
  refine AW.cV1i (pc := 47) dX12_person_47 mlX12_170 mbX12_statesOf rfl hthis (kct hthis rfl hct) (fun _ => okR_N (by omega)) (kX12_statesOf l E (n - 1) (by omega) ct hct ex this x1 M) (Nat.le_of_ble_eq_true rfl) (fun v1 M2 => ?_)
  refine AW.icmp_ge (pc := 50) 204 dX12_person_50 (by decide) (fun h3 => ?_) (fun h3 => ?_)
  · refine AW.aload_n (pc := 204) dX12_person_204 rfl 0 rfl ?_
    refine AW.dup (pc := 205) dX12_person_205 rfl ?_
    refine AW.getL (pc := 206) dX12_person_206 flX12_345 hthis (kct hthis rfl hct) ?_
    refine AW.aload_n (pc := 209) dX12_person_209 rfl 0 rfl ?_
    refine AW.getL (pc := 210) dX12_person_210 flX12_352 hthis (kct hthis rfl hct) ?_
    refine AW.ladd (pc := 213) dX12_person_213 ?_
    refine AW.putL (pc := 214) dX12_person_214 flX12_345 hthis (kct hthis rfl hct) ?_
    refine AW.genM (fun M4 => ?_)
    refine AW.iconst (pc := 217) dX12_person_217 ci_0 ?_
    refine AW.istore_n (pc := 218) [1, 0] [(0, .ref (ad E this)), (3, .int 0)] dX12_person_218 rfl (by decide) rfl ?_
    exact kX12_person_L219 l E n hn ct hct ex FU this 0 M4 hthis
  · refine AW.aload_n (pc := 53) dX12_person_53 rfl 0 rfl ?_
    refine AW.chk (fun g5 => ?_)
    refine AW.getR (pc := 54) dX12_person_54 flX12_99 hthis (kct hthis rfl hct) g5 ?_
    refine AW.iload_n (pc := 57) dX12_person_57 rfl 3 rfl ?_
    refine AW.chk (fun g6 => ?_)
    refine AW.lald (pc := 58) dX12_person_58 (k0e g6.1) (kct (k0e g6.1) rfl hct) g6.2 ?_
    refine AW.genL (fun v7 => ?_)
    refine AW.lstore (pc := 59) [1, 2, 3, 4, 0] [(0, .ref (ad E this)), (1, .int x1), (2, .int x2), (3, .int x3), (4, .long v7)] dX12_person_59 (by decide) rfl ?_
    refine AW.iconst (pc := 61) dX12_person_61 ci_0 ?_
    refine AW.istore (pc := 62) [1, 2, 3, 4, 5, 0] [(0, .ref (ad E this)), (1, .int x1), (2, .int x2), (3, .int x3), (4, .long v7), (6, .int 0)] dX12_person_62 (by decide) rfl ?_
    exact kX12_person_L64 l E n hn ct hct ex KK44 hKK44 FU this x1 x2 x3 v7 0 M2 hthis
set_option maxRecDepth 20000 in
set_option maxHeartbeats 4000000 in
theorem kX12_person_L44 (l : Launch) (E : Ev) (n : Nat) (hn : 3 ≤ n) (ct : Nat) (hct : 111 ≤ ct) (ex : Bool) (k : Nat) : ∀ (this : Nat) (x1 : Int32) (x2 : Int32) (x3 : Int32) (M : Mem) (_ : K0 this = (0, 12)), AW l E fX12_person (fun _ => rmN n 0 0) (PQr E 0 0 ct ex enU) ct ex 0 0 44 [(0, .ref (ad E this)), (1, .int x1), (2, .int x2), (3, .int x3)] [] M (zX12_person_L44 k this x1 x2 x3 M) := by
  induction k with
  | zero => intro this x1 x2 x3 M _; exact AW.none
  | succ k ih =>
    intro this x1 x2 x3 M hthis
    exact kX12_person_B44 l E n hn ct hct ex (zX12_person_L44 k) ih this x1 x2 x3 M hthis
set_option maxRecDepth 20000 in
set_option maxHeartbeats 4000000 in
theorem kX12_person_B23 (l : Launch) (E : Ev) (n : Nat) (hn : 3 ≤ n) (ct : Nat) (hct : 111 ≤ ct) (ex : Bool) (KK23 : Nat → Int32 → Int32 → Int32 → Mem → Option (Unit × Mem)) (hKK23 : ∀ (this : Nat) (x1 : Int32) (x2 : Int32) (x3 : Int32) (M : Mem) (_ : K0 this = (0, 12)), AW l E fX12_person (fun _ => rmN n 0 0) (PQr E 0 0 ct ex enU) ct ex 0 0 23 [(0, .ref (ad E this)), (1, .int x1), (2, .int x2), (3, .int x3)] [] M (KK23 this x1 x2 x3 M)) (this : Nat) (x1 : Int32) (x2 : Int32) (x3 : Int32) (M : Mem) (hthis : K0 this = (0, 12)) : AW l E fX12_person (fun _ => rmN n 0 0) (PQr E 0 0 ct ex enU) ct ex 0 0 23 [(0, .ref (ad E this)), (1, .int x1), (2, .int x2), (3, .int x3)] [] M (zX12_person_B23 KK23 this x1 x2 x3 M) := by
  unfold zX12_person_B23
  refine AW.iload_n (pc := 23) dX12_person_23 rfl 3 rfl ?_
  refine AW.bipush (pc := 24) dX12_person_24 cb_100 ?_
  refine AW.icmp_ge (pc := 26) 42 dX12_person_26 (by decide) (fun h1 => ?_) (fun h1 => ?_)
  · refine AW.iconst (pc := 42) dX12_person_42 ci_0 ?_
    refine AW.istore_n (pc := 43) [1, 2, 3, 0] [(0, .ref (ad E this)), (1, .int x1), (2, .int x2), (3, .int 0)] dX12_person_43 rfl (by decide) rfl ?_
    exact kX12_person_L44 l E n hn ct hct ex FU this x1 x2 0 M hthis
  · refine AW.aload_n (pc := 29) dX12_person_29 rfl 0 rfl ?_
    refine AW.chk (fun g2 => ?_)
    refine AW.getR (pc := 30) dX12_person_30 flX12_103 hthis (kct hthis rfl hct) g2 ?_
    refine AW.iload_n (pc := 33) dX12_person_33 rfl 3 rfl ?_
    refine AW.lconst (pc := 34) dX12_person_34 cl_0 ?_
    refine AW.chk (fun g3 => ?_)
    refine AW.last (pc := 35) dX12_person_35 (k0e g3.1) (kct (k0e g3.1) rfl hct) g3.2 ?_
    refine AW.genM (fun M4 => ?_)
    refine AW.iinc (pc := 36) (w := 3) [1, 2, 3, 0] [(0, .ref (ad E this)), (1, .int x1), (2, .int x2), (3, .int (x3 + 1))] dX12_person_36 rfl (inc_1 _) (by decide) rfl ?_
    refine AW.goto (pc := 39) 23 dX12_person_39 (by decide) ?_
    exact hKK23 this x1 x2 (x3 + 1) M4 hthis
set_option maxRecDepth 20000 in
set_option maxHeartbeats 4000000 in
theorem kX12_person_L23 (l : Launch) (E : Ev) (n : Nat) (hn : 3 ≤ n) (ct : Nat) (hct : 111 ≤ ct) (ex : Bool) (k : Nat) : ∀ (this : Nat) (x1 : Int32) (x2 : Int32) (x3 : Int32) (M : Mem) (_ : K0 this = (0, 12)), AW l E fX12_person (fun _ => rmN n 0 0) (PQr E 0 0 ct ex enU) ct ex 0 0 23 [(0, .ref (ad E this)), (1, .int x1), (2, .int x2), (3, .int x3)] [] M (zX12_person_L23 k this x1 x2 x3 M) := by
  induction k with
  | zero => intro this x1 x2 x3 M _; exact AW.none
  | succ k ih =>
    intro this x1 x2 x3 M hthis
    exact kX12_person_B23 l E n hn ct hct ex (zX12_person_L23 k) ih this x1 x2 x3 M hthis
set_option maxRecDepth 20000 in
set_option maxHeartbeats 4000000 in
theorem kX12_person (l : Launch) (E : Ev) (n : Nat) (hn : 3 ≤ n) (ct : Nat) (hct : 111 ≤ ct) (ex : Bool) (this : Nat) (x1 : Int32) (M : Mem) : AM l E n ct ex yX12_person fX12_person enU [.ref (ad E this), .int x1] M (zX12_person this x1 M) := by
  unfold zX12_person
  refine AM.of (by decide +kernel) ⟨rfl, rfl, rfl⟩ (Nat.le_of_ble_eq_true rfl) ?_
  refine AW.chk (fun hthis => ?_)
  refine AW.aload_n (pc := 0) dX12_person_0 rfl 0 rfl ?_
  refine AW.iload_n (pc := 1) dX12_person_1 rfl 1 rfl ?_
  refine AW.cV1i (pc := 2) dX12_person_2 mlX12_302 mbX12_oddsOf rfl hthis (kct hthis rfl hct) (fun _ => okR_N (by omega)) (kX12_oddsOf l E (n - 1) (by omega) ct hct ex this x1 M) (Nat.le_of_ble_eq_true rfl) (fun v1 M2 => ?_)
  refine AW.istore_n (pc := 5) [1, 2, 0] [(0, .ref (ad E this)), (1, .int x1), (2, .int v1)] dX12_person_5 rfl (by decide) rfl ?_
  refine AW.aload_n (pc := 6) dX12_person_6 rfl 0 rfl ?_
  refine AW.lconst (pc := 7) dX12_person_7 cl_0 ?_
  refine AW.putL (pc := 8) dX12_person_8 flX12_352 hthis (kct hthis rfl hct) ?_
  refine AW.genM (fun M3 => ?_)
  refine AW.aload_n (pc := 11) dX12_person_11 rfl 0 rfl ?_
  refine AW.chk (fun g4 => ?_)
  refine AW.getR (pc := 12) dX12_person_12 flX12_42 hthis (kct hthis rfl hct) g4 ?_
  refine AW.iload_n (pc := 15) dX12_person_15 rfl 1 rfl ?_
  refine AW.chk (fun g5 => ?_)
  refine AW.iald (pc := 16) dX12_person_16 (k0e g5.1) (kct (k0e g5.1) rfl hct) g5.2 ?_
  refine AW.if_ne (pc := 17) 21 dX12_person_17 (by decide) (fun h6 => ?_) (fun h6 => ?_)
  · exact AW.vret (pc := 20) dX12_person_20 rfl (fun _ _ _ => rfl) (Nat.le_refl _) (Nat.le_refl _)
  · refine AW.iconst (pc := 21) dX12_person_21 ci_0 ?_
    refine AW.istore_n (pc := 22) [1, 2, 3, 0] [(0, .ref (ad E this)), (1, .int x1), (2, .int v1), (3, .int 0)] dX12_person_22 rfl (by decide) rfl ?_
    exact kX12_person_L23 l E n hn ct hct ex FU this x1 v1 0 M3 hthis
-- GateBoxModel.lead(III)V
def zX12_lead_B13 (KK13 : Nat → Int32 → Int32 → Int32 → Mem → Option (Unit × Mem)) (this : Nat) (x1 : Int32) (x3 : Int32) (x4 : Int32) (M : Mem) : Option (Unit × Mem) :=
  if x3 ≤ x4 then
    some ((), M)
  else
    bnd (zX12_person this x1 M) fun _ M2 =>
    KK13 this x1 x3 (x4 + 1) M2
def zX12_lead_L13 : Nat → Nat → Int32 → Int32 → Int32 → Mem → Option (Unit × Mem)
  | 0 => fun _ _ _ _ _ => none
  | k + 1 => zX12_lead_B13 (zX12_lead_L13 k)
def zX12_lead (this : Nat) (x1 : Int32) (x2 : Int32) (x3 : Int32) (M : Mem) : Option (Unit × Mem) :=
  if K0 this = (0, 12) then
  bnd (zX12_tellGifts this x1 M) fun _ M1 =>
  bnd (zX12_startAt this x2 M1) fun _ M2 =>
  zX12_lead_L13 FU this x1 x3 0 M2
  else none
set_option maxRecDepth 20000 in
set_option maxHeartbeats 4000000 in
theorem kX12_lead_B13 (l : Launch) (E : Ev) (n : Nat) (hn : 11 ≤ n) (ct : Nat) (hct : 111 ≤ ct) (ex : Bool) (KK13 : Nat → Int32 → Int32 → Int32 → Mem → Option (Unit × Mem)) (hKK13 : ∀ (this : Nat) (x1 : Int32) (x3 : Int32) (x4 : Int32) (M : Mem) (_ : K0 this = (0, 12)), AW l E fX12_lead (fun _ => rmN n 0 0) (PQr E 0 0 ct ex enU) ct ex 0 0 13 [(0, .ref (ad E this)), (1, .int x1), (3, .int x3), (4, .int x4)] [] M (KK13 this x1 x3 x4 M)) (this : Nat) (x1 : Int32) (x3 : Int32) (x4 : Int32) (M : Mem) (hthis : K0 this = (0, 12)) : AW l E fX12_lead (fun _ => rmN n 0 0) (PQr E 0 0 ct ex enU) ct ex 0 0 13 [(0, .ref (ad E this)), (1, .int x1), (3, .int x3), (4, .int x4)] [] M (zX12_lead_B13 KK13 this x1 x3 x4 M) := by
  unfold zX12_lead_B13
  refine AW.iload (pc := 13) dX12_lead_13 3 rfl ?_
  refine AW.iload_n (pc := 15) dX12_lead_15 rfl 2 rfl ?_
  refine AW.icmp_ge (pc := 16) 30 dX12_lead_16 (by decide) (fun h1 => ?_) (fun h1 => ?_)
  · exact AW.vret (pc := 30) dX12_lead_30 rfl (fun _ _ _ => rfl) (Nat.le_refl _) (Nat.le_refl _)
  · refine AW.aload_n (pc := 19) dX12_lead_19 rfl 0 rfl ?_
    refine AW.iload_n (pc := 20) dX12_lead_20 rfl 1 rfl ?_
    refine AW.cV1v (pc := 21) dX12_lead_21 mlX12_364 mbX12_person rfl hthis (kct hthis rfl hct) (fun _ => okR_N (by omega)) (kX12_person l E (n - 1) (by omega) ct hct ex this x1 M) (Nat.le_of_ble_eq_true rfl) (fun _ M2 => ?_)
    refine AW.iinc (pc := 24) (w := 3) [1, 2, 3, 0] [(0, .ref (ad E this)), (1, .int x1), (3, .int x3), (4, .int (x4 + 1))] dX12_lead_24 rfl (inc_1 _) (by decide) rfl ?_
    refine AW.goto (pc := 27) 13 dX12_lead_27 (by decide) ?_
    exact hKK13 this x1 x3 (x4 + 1) M2 hthis
set_option maxRecDepth 20000 in
set_option maxHeartbeats 4000000 in
theorem kX12_lead_L13 (l : Launch) (E : Ev) (n : Nat) (hn : 11 ≤ n) (ct : Nat) (hct : 111 ≤ ct) (ex : Bool) (k : Nat) : ∀ (this : Nat) (x1 : Int32) (x3 : Int32) (x4 : Int32) (M : Mem) (_ : K0 this = (0, 12)), AW l E fX12_lead (fun _ => rmN n 0 0) (PQr E 0 0 ct ex enU) ct ex 0 0 13 [(0, .ref (ad E this)), (1, .int x1), (3, .int x3), (4, .int x4)] [] M (zX12_lead_L13 k this x1 x3 x4 M) := by
  induction k with
  | zero => intro this x1 x3 x4 M _; exact AW.none
  | succ k ih =>
    intro this x1 x3 x4 M hthis
    exact kX12_lead_B13 l E n hn ct hct ex (zX12_lead_L13 k) ih this x1 x3 x4 M hthis
set_option maxRecDepth 20000 in
set_option maxHeartbeats 4000000 in
theorem kX12_lead (l : Launch) (E : Ev) (n : Nat) (hn : 11 ≤ n) (ct : Nat) (hct : 111 ≤ ct) (ex : Bool) (this : Nat) (x1 : Int32) (x2 : Int32) (x3 : Int32) (M : Mem) : AM l E n ct ex yX12_lead fX12_lead enU [.ref (ad E this), .int x1, .int x2, .int x3] M (zX12_lead this x1 x2 x3 M) := by
  unfold zX12_lead
  refine AM.of (by decide +kernel) ⟨rfl, rfl, rfl⟩ (Nat.le_of_ble_eq_true rfl) ?_
  refine AW.chk (fun hthis => ?_)
  refine AW.aload_n (pc := 0) dX12_lead_0 rfl 0 rfl ?_
  refine AW.iload_n (pc := 1) dX12_lead_1 rfl 1 rfl ?_
  refine AW.cV1v (pc := 2) dX12_lead_2 mlX12_358 mbX12_tellGifts rfl hthis (kct hthis rfl hct) (fun _ => okR_N (by omega)) (kX12_tellGifts l E (n - 1) (by omega) ct hct ex this x1 M) (Nat.le_of_ble_eq_true rfl) (fun _ M1 => ?_)
  refine AW.aload_n (pc := 5) dX12_lead_5 rfl 0 rfl ?_
  refine AW.iload_n (pc := 6) dX12_lead_6 rfl 2 rfl ?_
  refine AW.cV1v (pc := 7) dX12_lead_7 mlX12_361 mbX12_startAt rfl hthis (kct hthis rfl hct) (fun _ => okR_N (by omega)) (kX12_startAt l E (n - 1) (by omega) ct hct ex this x2 M1) (Nat.le_of_ble_eq_true rfl) (fun _ M2 => ?_)
  refine AW.iconst (pc := 10) dX12_lead_10 ci_0 ?_
  refine AW.istore (pc := 11) [1, 2, 4, 0] [(0, .ref (ad E this)), (1, .int x1), (3, .int x3), (4, .int 0)] dX12_lead_11 (by decide) rfl ?_
  exact kX12_lead_L13 l E n hn ct hct ex FU this x1 x3 0 M2 hthis
-- GateBoxModel.coinOf(III)I
def zX12_coinOf (this : Nat) (x1 : Int32) (x2 : Int32) (x3 : Int32) (M : Mem) : Option (Int32 × Mem) :=
  if K0 this = (0, 12) then
  bnd (zX12_lead this x1 x2 x3 M) fun _ M1 =>
  some (Int64.toInt32 ((mL M1 this 35) / 1000000), M1)
  else none
set_option maxRecDepth 20000 in
set_option maxHeartbeats 4000000 in
theorem kX12_coinOf (l : Launch) (E : Ev) (n : Nat) (hn : 12 ≤ n) (ct : Nat) (hct : 111 ≤ ct) (ex : Bool) (this : Nat) (x1 : Int32) (x2 : Int32) (x3 : Int32) (M : Mem) : AM l E n ct ex yX12_coinOf fX12_coinOf enI [.ref (ad E this), .int x1, .int x2, .int x3] M (zX12_coinOf this x1 x2 x3 M) := by
  unfold zX12_coinOf
  refine AM.of (by decide +kernel) ⟨rfl, rfl, rfl⟩ (Nat.le_of_ble_eq_true rfl) ?_
  refine AW.chk (fun hthis => ?_)
  refine AW.aload_n (pc := 0) dX12_coinOf_0 rfl 0 rfl ?_
  refine AW.iload_n (pc := 1) dX12_coinOf_1 rfl 1 rfl ?_
  refine AW.iload_n (pc := 2) dX12_coinOf_2 rfl 2 rfl ?_
  refine AW.iload_n (pc := 3) dX12_coinOf_3 rfl 3 rfl ?_
  refine AW.cV3v (pc := 4) dX12_coinOf_4 mlX12_367 mbX12_lead rfl hthis (kct hthis rfl hct) (fun _ => okR_N (by omega)) (kX12_lead l E (n - 1) (by omega) ct hct ex this x1 x2 x3 M) (Nat.le_of_ble_eq_true rfl) (fun _ M1 => ?_)
  refine AW.aload_n (pc := 7) dX12_coinOf_7 rfl 0 rfl ?_
  refine AW.getL (pc := 8) dX12_coinOf_8 flX12_345 hthis (kct hthis rfl hct) ?_
  refine AW.ldc2 (pc := 11) dX12_coinOf_11 ccX12_371 ?_
  refine AW.ldiv (pc := 14) dX12_coinOf_14 (by decide) ?_
  refine AW.l2i (pc := 15) dX12_coinOf_15 ?_
  exact AW.iret (pc := 16) dX12_coinOf_16 rfl (fun _ _ _ => rfl) (Nat.le_refl _) (Nat.le_refl _)
-- GateBoxModel.coin(III)I
def zX12_coin_B71 (s0 : Int64) (M : Mem) : Option (Int32 × Mem) :=
  some (Int64.toInt32 (s0 / 1000000), M)
def zX12_coin_B21 (this : Nat) (M : Mem) : Option (Int32 × Mem) :=
  bnd (zX12_fail this 1 M) fun v1 M2 =>
  some (v1, M2)
def zX12_coin (this : Nat) (x1 : Int32) (x2 : Int32) (x3 : Int32) (M : Mem) : Option (Int32 × Mem) :=
  if K0 this = (0, 12) then
  lt (sI M this 2 0) fun M1 =>
  bnd (zX12_isGate x1 M1) fun v2 M3 =>
  if v2 = 0 then
    zX12_coin_B21 this M3
  else
    if x3 < 0 then
      zX12_coin_B21 this M3
    else
      if x3 ≤ 1 then
        bnd (zX12_isIn x2 0 400 M3) fun v7 M8 =>
        if v7 = 0 then
          bnd (zX12_fail this 2 M8) fun v10 M11 =>
          some (v10, M11)
        else
          if mR M8 this 11 ≠ 0 then
          if (K0 (mR M8 this 11)).1 = 1 ∧ inb x1 (K0 (mR M8 this 11)).2 = true then
          bnd (zX12_lead this x1 (mI M8 (mR M8 this 11) (Int32.toNatClampNeg x1)) x2 M8) fun _ M14 =>
          if x3 = 0 then
            zX12_coin_B71 (mL M14 this 35) M14
          else
            zX12_coin_B71 (mL M14 this 36) M14
          else none
          else none
      else
        zX12_coin_B21 this M3
  else none
set_option maxRecDepth 20000 in
set_option maxHeartbeats 4000000 in
theorem kX12_coin_B71 (l : Launch) (E : Ev) (n : Nat) (hn : 12 ≤ n) (ct : Nat) (hct : 111 ≤ ct) (ex : Bool) (s0 : Int64) (M : Mem) : AW l E fX12_coin (fun _ => rmN n 0 0) (PQr E 0 0 ct ex enI) ct ex 0 0 71 [] [.long s0] M (zX12_coin_B71 s0 M) := by
  unfold zX12_coin_B71
  refine AW.ldc2 (pc := 71) dX12_coin_71 ccX12_371 ?_
  refine AW.ldiv (pc := 74) dX12_coin_74 (by decide) ?_
  refine AW.l2i (pc := 75) dX12_coin_75 ?_
  exact AW.iret (pc := 76) dX12_coin_76 rfl (fun _ _ _ => rfl) (Nat.le_refl _) (Nat.le_refl _)
set_option maxRecDepth 20000 in
set_option maxHeartbeats 4000000 in
theorem kX12_coin_B21 (l : Launch) (E : Ev) (n : Nat) (hn : 12 ≤ n) (ct : Nat) (hct : 111 ≤ ct) (ex : Bool) (this : Nat) (M : Mem) (hthis : K0 this = (0, 12)) : AW l E fX12_coin (fun _ => rmN n 0 0) (PQr E 0 0 ct ex enI) ct ex 0 0 21 [(0, .ref (ad E this))] [] M (zX12_coin_B21 this M) := by
  unfold zX12_coin_B21
  refine AW.aload_n (pc := 21) dX12_coin_21 rfl 0 rfl ?_
  refine AW.iconst (pc := 22) dX12_coin_22 ci_1 ?_
  refine AW.cV1i (pc := 23) dX12_coin_23 mlX12_289 mbX12_fail rfl hthis (kct hthis rfl hct) (fun _ => okR_N (by omega)) (kX12_fail l E (n - 1) (by omega) ct hct ex this 1 M) (Nat.le_of_ble_eq_true rfl) (fun v1 M2 => ?_)
  exact AW.iret (pc := 26) dX12_coin_26 rfl (fun _ _ _ => rfl) (Nat.le_refl _) (Nat.le_refl _)
set_option maxRecDepth 20000 in
set_option maxHeartbeats 4000000 in
theorem kX12_coin (l : Launch) (E : Ev) (n : Nat) (hn : 12 ≤ n) (ct : Nat) (hct : 111 ≤ ct) (ex : Bool) (this : Nat) (x1 : Int32) (x2 : Int32) (x3 : Int32) (M : Mem) : AM l E n ct ex yX12_coin fX12_coin enI [.ref (ad E this), .int x1, .int x2, .int x3] M (zX12_coin this x1 x2 x3 M) := by
  unfold zX12_coin
  refine AM.of (by decide +kernel) ⟨rfl, rfl, rfl⟩ (Nat.le_of_ble_eq_true rfl) ?_
  refine AW.chk (fun hthis => ?_)
  refine AW.aload_n (pc := 0) dX12_coin_0 rfl 0 rfl ?_
  refine AW.iconst (pc := 1) dX12_coin_1 ci_0 ?_
  refine AW.putI (pc := 2) dX12_coin_2 flX12_159 hthis (kct hthis rfl hct) ?_
  refine AW.genM (fun M1 => ?_)
  refine AW.iload_n (pc := 5) dX12_coin_5 rfl 1 rfl ?_
  refine AW.cS1i (pc := 6) dX12_coin_6 mlX12_166 mbX12_isGate (fun _ => okR_N (by omega)) (kX12_isGate l E (n - 1) (by omega) ct hct ex x1 M1) (Nat.le_of_ble_eq_true rfl) (fun v2 M3 => ?_)
  refine AW.if_eq (pc := 9) 21 dX12_coin_9 (by decide) (fun h4 => ?_) (fun h4 => ?_)
  · exact AW.sub [0] rfl (kX12_coin_B21 l E n hn ct hct ex this M3 hthis)
  · refine AW.iload_n (pc := 12) dX12_coin_12 rfl 3 rfl ?_
    refine AW.if_lt (pc := 13) 21 dX12_coin_13 (by decide) (fun h5 => ?_) (fun h5 => ?_)
    · exact AW.sub [0] rfl (kX12_coin_B21 l E n hn ct hct ex this M3 hthis)
    · refine AW.iload_n (pc := 16) dX12_coin_16 rfl 3 rfl ?_
      refine AW.iconst (pc := 17) dX12_coin_17 ci_1 ?_
      refine AW.icmp_le (pc := 18) 27 dX12_coin_18 (by decide) (fun h6 => ?_) (fun h6 => ?_)
      · refine AW.iload_n (pc := 27) dX12_coin_27 rfl 2 rfl ?_
        refine AW.iconst (pc := 28) dX12_coin_28 ci_0 ?_
        refine AW.sipush (pc := 29) dX12_coin_29 cs_400 ?_
        refine AW.cS3i (pc := 32) dX12_coin_32 mlX12_162 mbX12_isIn (fun _ => okR_N (by omega)) (kX12_isIn l E (n - 1) (by omega) ct hct ex x2 0 400 M3) (Nat.le_of_ble_eq_true rfl) (fun v7 M8 => ?_)
        refine AW.if_ne (pc := 35) 44 dX12_coin_35 (by decide) (fun h9 => ?_) (fun h9 => ?_)
        · refine AW.aload_n (pc := 38) dX12_coin_38 rfl 0 rfl ?_
          refine AW.iconst (pc := 39) dX12_coin_39 ci_2 ?_
          refine AW.cV1i (pc := 40) dX12_coin_40 mlX12_289 mbX12_fail rfl hthis (kct hthis rfl hct) (fun _ => okR_N (by omega)) (kX12_fail l E (n - 1) (by omega) ct hct ex this 2 M8) (Nat.le_of_ble_eq_true rfl) (fun v10 M11 => ?_)
          exact AW.iret (pc := 43) dX12_coin_43 rfl (fun _ _ _ => rfl) (Nat.le_refl _) (Nat.le_refl _)
        · refine AW.aload_n (pc := 44) dX12_coin_44 rfl 0 rfl ?_
          refine AW.iload_n (pc := 45) dX12_coin_45 rfl 1 rfl ?_
          refine AW.aload_n (pc := 46) dX12_coin_46 rfl 0 rfl ?_
          refine AW.chk (fun g12 => ?_)
          refine AW.getR (pc := 47) dX12_coin_47 flX12_65 hthis (kct hthis rfl hct) g12 ?_
          refine AW.iload_n (pc := 50) dX12_coin_50 rfl 1 rfl ?_
          refine AW.chk (fun g13 => ?_)
          refine AW.iald (pc := 51) dX12_coin_51 (k0e g13.1) (kct (k0e g13.1) rfl hct) g13.2 ?_
          refine AW.iload_n (pc := 52) dX12_coin_52 rfl 2 rfl ?_
          refine AW.cV3v (pc := 53) dX12_coin_53 mlX12_367 mbX12_lead rfl hthis (kct hthis rfl hct) (fun _ => okR_N (by omega)) (kX12_lead l E (n - 1) (by omega) ct hct ex this x1 (mI M8 (mR M8 this 11) (Int32.toNatClampNeg x1)) x2 M8) (Nat.le_of_ble_eq_true rfl) (fun _ M14 => ?_)
          refine AW.iload_n (pc := 56) dX12_coin_56 rfl 3 rfl ?_
          refine AW.if_ne (pc := 57) 67 dX12_coin_57 (by decide) (fun h15 => ?_) (fun h15 => ?_)
          · refine AW.aload_n (pc := 60) dX12_coin_60 rfl 0 rfl ?_
            refine AW.getL (pc := 61) dX12_coin_61 flX12_345 hthis (kct hthis rfl hct) ?_
            refine AW.goto (pc := 64) 71 dX12_coin_64 (by decide) ?_
            exact AW.sub [] rfl (kX12_coin_B71 l E n hn ct hct ex (mL M14 this 35) M14)
          · refine AW.aload_n (pc := 67) dX12_coin_67 rfl 0 rfl ?_
            refine AW.getL (pc := 68) dX12_coin_68 flX12_349 hthis (kct hthis rfl hct) ?_
            exact AW.sub [] rfl (kX12_coin_B71 l E n hn ct hct ex (mL M14 this 36) M14)
      · exact AW.sub [0] rfl (kX12_coin_B21 l E n hn ct hct ex this M3 hthis)
-- GateBoxModel.cases(III)I
def zX12_cases_B21 (this : Nat) (M : Mem) : Option (Int32 × Mem) :=
  bnd (zX12_fail this 1 M) fun v1 M2 =>
  some (v1, M2)
def zX12_cases (this : Nat) (x1 : Int32) (x2 : Int32) (x3 : Int32) (M : Mem) : Option (Int32 × Mem) :=
  if K0 this = (0, 12) then
  lt (sI M this 2 0) fun M1 =>
  bnd (zX12_isGate x1 M1) fun v2 M3 =>
  if v2 = 0 then
    zX12_cases_B21 this M3
  else
    bnd (zX12_isState this x1 x3 M3) fun v5 M6 =>
    if v5 = 0 then
      zX12_cases_B21 this M6
    else
      bnd (zX12_isIn x2 0 400 M6) fun v8 M9 =>
      if v8 = 0 then
        bnd (zX12_fail this 2 M9) fun v11 M12 =>
        some (v11, M12)
      else
        if mR M9 this 11 ≠ 0 then
        if (K0 (mR M9 this 11)).1 = 1 ∧ inb x1 (K0 (mR M9 this 11)).2 = true then
        bnd (zX12_lead this x1 (mI M9 (mR M9 this 11) (Int32.toNatClampNeg x1)) x2 M9) fun _ M15 =>
        if mR M15 this 32 ≠ 0 then
        if (K0 (mR M15 this 32)).1 = 2 ∧ inb x3 (K0 (mR M15 this 32)).2 = true then
        some (Int64.toInt32 (mL M15 (mR M15 this 32) (Int32.toNatClampNeg x3)), M15)
        else none
        else none
        else none
        else none
  else none
set_option maxRecDepth 20000 in
set_option maxHeartbeats 4000000 in
theorem kX12_cases_B21 (l : Launch) (E : Ev) (n : Nat) (hn : 12 ≤ n) (ct : Nat) (hct : 111 ≤ ct) (ex : Bool) (this : Nat) (M : Mem) (hthis : K0 this = (0, 12)) : AW l E fX12_cases (fun _ => rmN n 0 0) (PQr E 0 0 ct ex enI) ct ex 0 0 21 [(0, .ref (ad E this))] [] M (zX12_cases_B21 this M) := by
  unfold zX12_cases_B21
  refine AW.aload_n (pc := 21) dX12_cases_21 rfl 0 rfl ?_
  refine AW.iconst (pc := 22) dX12_cases_22 ci_1 ?_
  refine AW.cV1i (pc := 23) dX12_cases_23 mlX12_289 mbX12_fail rfl hthis (kct hthis rfl hct) (fun _ => okR_N (by omega)) (kX12_fail l E (n - 1) (by omega) ct hct ex this 1 M) (Nat.le_of_ble_eq_true rfl) (fun v1 M2 => ?_)
  exact AW.iret (pc := 26) dX12_cases_26 rfl (fun _ _ _ => rfl) (Nat.le_refl _) (Nat.le_refl _)
set_option maxRecDepth 20000 in
set_option maxHeartbeats 4000000 in
theorem kX12_cases (l : Launch) (E : Ev) (n : Nat) (hn : 12 ≤ n) (ct : Nat) (hct : 111 ≤ ct) (ex : Bool) (this : Nat) (x1 : Int32) (x2 : Int32) (x3 : Int32) (M : Mem) : AM l E n ct ex yX12_cases fX12_cases enI [.ref (ad E this), .int x1, .int x2, .int x3] M (zX12_cases this x1 x2 x3 M) := by
  unfold zX12_cases
  refine AM.of (by decide +kernel) ⟨rfl, rfl, rfl⟩ (Nat.le_of_ble_eq_true rfl) ?_
  refine AW.chk (fun hthis => ?_)
  refine AW.aload_n (pc := 0) dX12_cases_0 rfl 0 rfl ?_
  refine AW.iconst (pc := 1) dX12_cases_1 ci_0 ?_
  refine AW.putI (pc := 2) dX12_cases_2 flX12_159 hthis (kct hthis rfl hct) ?_
  refine AW.genM (fun M1 => ?_)
  refine AW.iload_n (pc := 5) dX12_cases_5 rfl 1 rfl ?_
  refine AW.cS1i (pc := 6) dX12_cases_6 mlX12_166 mbX12_isGate (fun _ => okR_N (by omega)) (kX12_isGate l E (n - 1) (by omega) ct hct ex x1 M1) (Nat.le_of_ble_eq_true rfl) (fun v2 M3 => ?_)
  refine AW.if_eq (pc := 9) 21 dX12_cases_9 (by decide) (fun h4 => ?_) (fun h4 => ?_)
  · exact AW.sub [0] rfl (kX12_cases_B21 l E n hn ct hct ex this M3 hthis)
  · refine AW.aload_n (pc := 12) dX12_cases_12 rfl 0 rfl ?_
    refine AW.iload_n (pc := 13) dX12_cases_13 rfl 1 rfl ?_
    refine AW.iload_n (pc := 14) dX12_cases_14 rfl 3 rfl ?_
    refine AW.cV2i (pc := 15) dX12_cases_15 mlX12_327 mbX12_isState rfl hthis (kct hthis rfl hct) (fun _ => okR_N (by omega)) (kX12_isState l E (n - 1) (by omega) ct hct ex this x1 x3 M3) (Nat.le_of_ble_eq_true rfl) (fun v5 M6 => ?_)
    refine AW.if_ne (pc := 18) 27 dX12_cases_18 (by decide) (fun h7 => ?_) (fun h7 => ?_)
    · exact AW.sub [0] rfl (kX12_cases_B21 l E n hn ct hct ex this M6 hthis)
    · refine AW.iload_n (pc := 27) dX12_cases_27 rfl 2 rfl ?_
      refine AW.iconst (pc := 28) dX12_cases_28 ci_0 ?_
      refine AW.sipush (pc := 29) dX12_cases_29 cs_400 ?_
      refine AW.cS3i (pc := 32) dX12_cases_32 mlX12_162 mbX12_isIn (fun _ => okR_N (by omega)) (kX12_isIn l E (n - 1) (by omega) ct hct ex x2 0 400 M6) (Nat.le_of_ble_eq_true rfl) (fun v8 M9 => ?_)
      refine AW.if_ne (pc := 35) 44 dX12_cases_35 (by decide) (fun h10 => ?_) (fun h10 => ?_)
      · refine AW.aload_n (pc := 38) dX12_cases_38 rfl 0 rfl ?_
        refine AW.iconst (pc := 39) dX12_cases_39 ci_2 ?_
        refine AW.cV1i (pc := 40) dX12_cases_40 mlX12_289 mbX12_fail rfl hthis (kct hthis rfl hct) (fun _ => okR_N (by omega)) (kX12_fail l E (n - 1) (by omega) ct hct ex this 2 M9) (Nat.le_of_ble_eq_true rfl) (fun v11 M12 => ?_)
        exact AW.iret (pc := 43) dX12_cases_43 rfl (fun _ _ _ => rfl) (Nat.le_refl _) (Nat.le_refl _)
      · refine AW.aload_n (pc := 44) dX12_cases_44 rfl 0 rfl ?_
        refine AW.iload_n (pc := 45) dX12_cases_45 rfl 1 rfl ?_
        refine AW.aload_n (pc := 46) dX12_cases_46 rfl 0 rfl ?_
        refine AW.chk (fun g13 => ?_)
        refine AW.getR (pc := 47) dX12_cases_47 flX12_65 hthis (kct hthis rfl hct) g13 ?_
        refine AW.iload_n (pc := 50) dX12_cases_50 rfl 1 rfl ?_
        refine AW.chk (fun g14 => ?_)
        refine AW.iald (pc := 51) dX12_cases_51 (k0e g14.1) (kct (k0e g14.1) rfl hct) g14.2 ?_
        refine AW.iload_n (pc := 52) dX12_cases_52 rfl 2 rfl ?_
        refine AW.cV3v (pc := 53) dX12_cases_53 mlX12_367 mbX12_lead rfl hthis (kct hthis rfl hct) (fun _ => okR_N (by omega)) (kX12_lead l E (n - 1) (by omega) ct hct ex this x1 (mI M9 (mR M9 this 11) (Int32.toNatClampNeg x1)) x2 M9) (Nat.le_of_ble_eq_true rfl) (fun _ M15 => ?_)
        refine AW.aload_n (pc := 56) dX12_cases_56 rfl 0 rfl ?_
        refine AW.chk (fun g16 => ?_)
        refine AW.getR (pc := 57) dX12_cases_57 flX12_99 hthis (kct hthis rfl hct) g16 ?_
        refine AW.iload_n (pc := 60) dX12_cases_60 rfl 3 rfl ?_
        refine AW.chk (fun g17 => ?_)
        refine AW.lald (pc := 61) dX12_cases_61 (k0e g17.1) (kct (k0e g17.1) rfl hct) g17.2 ?_
        refine AW.l2i (pc := 62) dX12_cases_62 ?_
        exact AW.iret (pc := 63) dX12_cases_63 rfl (fun _ _ _ => rfl) (Nat.le_refl _) (Nat.le_refl _)
-- GateBoxModel.drift(II)I
def zX12_drift (this : Nat) (x1 : Int32) (x2 : Int32) (M : Mem) : Option (Int32 × Mem) :=
  if K0 this = (0, 12) then
  lt (sI M this 2 0) fun M1 =>
  bnd (zX12_isGate x1 M1) fun v2 M3 =>
  if v2 = 0 then
    bnd (zX12_fail this 1 M3) fun v5 M6 =>
    some (v5, M6)
  else
    bnd (zX12_isIn x2 1 400 M3) fun v7 M8 =>
    if v7 = 0 then
      bnd (zX12_fail this 2 M8) fun v10 M11 =>
      some (v10, M11)
    else
      if mR M8 this 11 ≠ 0 then
      if (K0 (mR M8 this 11)).1 = 1 ∧ inb x1 (K0 (mR M8 this 11)).2 = true then
      bnd (zX12_lead this x1 (mI M8 (mR M8 this 11) (Int32.toNatClampNeg x1)) x2 M8) fun _ M14 =>
      some (Int64.toInt32 ((mL M14 this 37) / 1000000), M14)
      else none
      else none
  else none
set_option maxRecDepth 20000 in
set_option maxHeartbeats 4000000 in
theorem kX12_drift (l : Launch) (E : Ev) (n : Nat) (hn : 12 ≤ n) (ct : Nat) (hct : 111 ≤ ct) (ex : Bool) (this : Nat) (x1 : Int32) (x2 : Int32) (M : Mem) : AM l E n ct ex yX12_drift fX12_drift enI [.ref (ad E this), .int x1, .int x2] M (zX12_drift this x1 x2 M) := by
  unfold zX12_drift
  refine AM.of (by decide +kernel) ⟨rfl, rfl, rfl⟩ (Nat.le_of_ble_eq_true rfl) ?_
  refine AW.chk (fun hthis => ?_)
  refine AW.aload_n (pc := 0) dX12_drift_0 rfl 0 rfl ?_
  refine AW.iconst (pc := 1) dX12_drift_1 ci_0 ?_
  refine AW.putI (pc := 2) dX12_drift_2 flX12_159 hthis (kct hthis rfl hct) ?_
  refine AW.genM (fun M1 => ?_)
  refine AW.iload_n (pc := 5) dX12_drift_5 rfl 1 rfl ?_
  refine AW.cS1i (pc := 6) dX12_drift_6 mlX12_166 mbX12_isGate (fun _ => okR_N (by omega)) (kX12_isGate l E (n - 1) (by omega) ct hct ex x1 M1) (Nat.le_of_ble_eq_true rfl) (fun v2 M3 => ?_)
  refine AW.if_ne (pc := 9) 18 dX12_drift_9 (by decide) (fun h4 => ?_) (fun h4 => ?_)
  · refine AW.aload_n (pc := 12) dX12_drift_12 rfl 0 rfl ?_
    refine AW.iconst (pc := 13) dX12_drift_13 ci_1 ?_
    refine AW.cV1i (pc := 14) dX12_drift_14 mlX12_289 mbX12_fail rfl hthis (kct hthis rfl hct) (fun _ => okR_N (by omega)) (kX12_fail l E (n - 1) (by omega) ct hct ex this 1 M3) (Nat.le_of_ble_eq_true rfl) (fun v5 M6 => ?_)
    exact AW.iret (pc := 17) dX12_drift_17 rfl (fun _ _ _ => rfl) (Nat.le_refl _) (Nat.le_refl _)
  · refine AW.iload_n (pc := 18) dX12_drift_18 rfl 2 rfl ?_
    refine AW.iconst (pc := 19) dX12_drift_19 ci_1 ?_
    refine AW.sipush (pc := 20) dX12_drift_20 cs_400 ?_
    refine AW.cS3i (pc := 23) dX12_drift_23 mlX12_162 mbX12_isIn (fun _ => okR_N (by omega)) (kX12_isIn l E (n - 1) (by omega) ct hct ex x2 1 400 M3) (Nat.le_of_ble_eq_true rfl) (fun v7 M8 => ?_)
    refine AW.if_ne (pc := 26) 35 dX12_drift_26 (by decide) (fun h9 => ?_) (fun h9 => ?_)
    · refine AW.aload_n (pc := 29) dX12_drift_29 rfl 0 rfl ?_
      refine AW.iconst (pc := 30) dX12_drift_30 ci_2 ?_
      refine AW.cV1i (pc := 31) dX12_drift_31 mlX12_289 mbX12_fail rfl hthis (kct hthis rfl hct) (fun _ => okR_N (by omega)) (kX12_fail l E (n - 1) (by omega) ct hct ex this 2 M8) (Nat.le_of_ble_eq_true rfl) (fun v10 M11 => ?_)
      exact AW.iret (pc := 34) dX12_drift_34 rfl (fun _ _ _ => rfl) (Nat.le_refl _) (Nat.le_refl _)
    · refine AW.aload_n (pc := 35) dX12_drift_35 rfl 0 rfl ?_
      refine AW.iload_n (pc := 36) dX12_drift_36 rfl 1 rfl ?_
      refine AW.aload_n (pc := 37) dX12_drift_37 rfl 0 rfl ?_
      refine AW.chk (fun g12 => ?_)
      refine AW.getR (pc := 38) dX12_drift_38 flX12_65 hthis (kct hthis rfl hct) g12 ?_
      refine AW.iload_n (pc := 41) dX12_drift_41 rfl 1 rfl ?_
      refine AW.chk (fun g13 => ?_)
      refine AW.iald (pc := 42) dX12_drift_42 (k0e g13.1) (kct (k0e g13.1) rfl hct) g13.2 ?_
      refine AW.iload_n (pc := 43) dX12_drift_43 rfl 2 rfl ?_
      refine AW.cV3v (pc := 44) dX12_drift_44 mlX12_367 mbX12_lead rfl hthis (kct hthis rfl hct) (fun _ => okR_N (by omega)) (kX12_lead l E (n - 1) (by omega) ct hct ex this x1 (mI M8 (mR M8 this 11) (Int32.toNatClampNeg x1)) x2 M8) (Nat.le_of_ble_eq_true rfl) (fun _ M14 => ?_)
      refine AW.aload_n (pc := 47) dX12_drift_47 rfl 0 rfl ?_
      refine AW.getL (pc := 48) dX12_drift_48 flX12_352 hthis (kct hthis rfl hct) ?_
      refine AW.ldc2 (pc := 51) dX12_drift_51 ccX12_371 ?_
      refine AW.ldiv (pc := 54) dX12_drift_54 (by decide) ?_
      refine AW.l2i (pc := 55) dX12_drift_55 ?_
      exact AW.iret (pc := 56) dX12_drift_56 rfl (fun _ _ _ => rfl) (Nat.le_refl _) (Nat.le_refl _)
-- GateBoxModel.turn(II)I
def zX12_turn_B35 (KK35 : Nat → Int32 → Int32 → Int32 → Mem → Option (Int32 × Mem)) (this : Nat) (x1 : Int32) (x2 : Int32) (x3 : Int32) (M : Mem) : Option (Int32 × Mem) :=
  if 400 < x3 then
    some ((-1), M)
  else
    bnd (zX12_person this x1 M) fun _ M2 =>
    if 0 ≤ (lg_cmp ((mL M2 this 37) / 1000000) (Int32.toInt64 x2)) then
      KK35 this x1 x2 (x3 + 1) M2
    else
      some (x3, M2)
def zX12_turn_L35 : Nat → Nat → Int32 → Int32 → Int32 → Mem → Option (Int32 × Mem)
  | 0 => fun _ _ _ _ _ => none
  | k + 1 => zX12_turn_B35 (zX12_turn_L35 k)
def zX12_turn (this : Nat) (x1 : Int32) (x2 : Int32) (M : Mem) : Option (Int32 × Mem) :=
  if K0 this = (0, 12) then
  lt (sI M this 2 0) fun M1 =>
  bnd (zX12_isGate x1 M1) fun v2 M3 =>
  if v2 = 0 then
    bnd (zX12_fail this 1 M3) fun v5 M6 =>
    some (v5, M6)
  else
    bnd (zX12_tellGifts this x1 M3) fun _ M7 =>
    if mR M7 this 11 ≠ 0 then
    if (K0 (mR M7 this 11)).1 = 1 ∧ inb x1 (K0 (mR M7 this 11)).2 = true then
    bnd (zX12_startAt this (mI M7 (mR M7 this 11) (Int32.toNatClampNeg x1)) M7) fun _ M10 =>
    zX12_turn_L35 FU this x1 x2 1 M10
    else none
    else none
  else none
set_option maxRecDepth 20000 in
set_option maxHeartbeats 4000000 in
theorem kX12_turn_B35 (l : Launch) (E : Ev) (n : Nat) (hn : 11 ≤ n) (ct : Nat) (hct : 111 ≤ ct) (ex : Bool) (KK35 : Nat → Int32 → Int32 → Int32 → Mem → Option (Int32 × Mem)) (hKK35 : ∀ (this : Nat) (x1 : Int32) (x2 : Int32) (x3 : Int32) (M : Mem) (_ : K0 this = (0, 12)), AW l E fX12_turn (fun _ => rmN n 0 0) (PQr E 0 0 ct ex enI) ct ex 0 0 35 [(0, .ref (ad E this)), (1, .int x1), (2, .int x2), (3, .int x3)] [] M (KK35 this x1 x2 x3 M)) (this : Nat) (x1 : Int32) (x2 : Int32) (x3 : Int32) (M : Mem) (hthis : K0 this = (0, 12)) : AW l E fX12_turn (fun _ => rmN n 0 0) (PQr E 0 0 ct ex enI) ct ex 0 0 35 [(0, .ref (ad E this)), (1, .int x1), (2, .int x2), (3, .int x3)] [] M (zX12_turn_B35 KK35 this x1 x2 x3 M) := by
  unfold zX12_turn_B35
  refine AW.iload_n (pc := 35) dX12_turn_35 rfl 3 rfl ?_
  refine AW.sipush (pc := 36) dX12_turn_36 cs_400 ?_
  refine AW.icmp_gt (pc := 39) 69 dX12_turn_39 (by decide) (fun h1 => ?_) (fun h1 => ?_)
  · refine AW.iconst (pc := 69) dX12_turn_69 ci_m1 ?_
    exact AW.iret (pc := 70) dX12_turn_70 rfl (fun _ _ _ => rfl) (Nat.le_refl _) (Nat.le_refl _)
  · refine AW.aload_n (pc := 42) dX12_turn_42 rfl 0 rfl ?_
    refine AW.iload_n (pc := 43) dX12_turn_43 rfl 1 rfl ?_
    refine AW.cV1v (pc := 44) dX12_turn_44 mlX12_364 mbX12_person rfl hthis (kct hthis rfl hct) (fun _ => okR_N (by omega)) (kX12_person l E (n - 1) (by omega) ct hct ex this x1 M) (Nat.le_of_ble_eq_true rfl) (fun _ M2 => ?_)
    refine AW.aload_n (pc := 47) dX12_turn_47 rfl 0 rfl ?_
    refine AW.getL (pc := 48) dX12_turn_48 flX12_352 hthis (kct hthis rfl hct) ?_
    refine AW.ldc2 (pc := 51) dX12_turn_51 ccX12_371 ?_
    refine AW.ldiv (pc := 54) dX12_turn_54 (by decide) ?_
    refine AW.iload_n (pc := 55) dX12_turn_55 rfl 2 rfl ?_
    refine AW.i2l (pc := 56) dX12_turn_56 ?_
    refine AW.lcmp (pc := 57) dX12_turn_57 ?_
    refine AW.if_ge (pc := 58) 63 dX12_turn_58 (by decide) (fun h3 => ?_) (fun h3 => ?_)
    · refine AW.iinc (pc := 63) (w := 3) [1, 2, 3, 0] [(0, .ref (ad E this)), (1, .int x1), (2, .int x2), (3, .int (x3 + 1))] dX12_turn_63 rfl (inc_1 _) (by decide) rfl ?_
      refine AW.goto (pc := 66) 35 dX12_turn_66 (by decide) ?_
      exact hKK35 this x1 x2 (x3 + 1) M2 hthis
    · refine AW.iload_n (pc := 61) dX12_turn_61 rfl 3 rfl ?_
      exact AW.iret (pc := 62) dX12_turn_62 rfl (fun _ _ _ => rfl) (Nat.le_refl _) (Nat.le_refl _)
set_option maxRecDepth 20000 in
set_option maxHeartbeats 4000000 in
theorem kX12_turn_L35 (l : Launch) (E : Ev) (n : Nat) (hn : 11 ≤ n) (ct : Nat) (hct : 111 ≤ ct) (ex : Bool) (k : Nat) : ∀ (this : Nat) (x1 : Int32) (x2 : Int32) (x3 : Int32) (M : Mem) (_ : K0 this = (0, 12)), AW l E fX12_turn (fun _ => rmN n 0 0) (PQr E 0 0 ct ex enI) ct ex 0 0 35 [(0, .ref (ad E this)), (1, .int x1), (2, .int x2), (3, .int x3)] [] M (zX12_turn_L35 k this x1 x2 x3 M) := by
  induction k with
  | zero => intro this x1 x2 x3 M _; exact AW.none
  | succ k ih =>
    intro this x1 x2 x3 M hthis
    exact kX12_turn_B35 l E n hn ct hct ex (zX12_turn_L35 k) ih this x1 x2 x3 M hthis
set_option maxRecDepth 20000 in
set_option maxHeartbeats 4000000 in
theorem kX12_turn (l : Launch) (E : Ev) (n : Nat) (hn : 11 ≤ n) (ct : Nat) (hct : 111 ≤ ct) (ex : Bool) (this : Nat) (x1 : Int32) (x2 : Int32) (M : Mem) : AM l E n ct ex yX12_turn fX12_turn enI [.ref (ad E this), .int x1, .int x2] M (zX12_turn this x1 x2 M) := by
  unfold zX12_turn
  refine AM.of (by decide +kernel) ⟨rfl, rfl, rfl⟩ (Nat.le_of_ble_eq_true rfl) ?_
  refine AW.chk (fun hthis => ?_)
  refine AW.aload_n (pc := 0) dX12_turn_0 rfl 0 rfl ?_
  refine AW.iconst (pc := 1) dX12_turn_1 ci_0 ?_
  refine AW.putI (pc := 2) dX12_turn_2 flX12_159 hthis (kct hthis rfl hct) ?_
  refine AW.genM (fun M1 => ?_)
  refine AW.iload_n (pc := 5) dX12_turn_5 rfl 1 rfl ?_
  refine AW.cS1i (pc := 6) dX12_turn_6 mlX12_166 mbX12_isGate (fun _ => okR_N (by omega)) (kX12_isGate l E (n - 1) (by omega) ct hct ex x1 M1) (Nat.le_of_ble_eq_true rfl) (fun v2 M3 => ?_)
  refine AW.if_ne (pc := 9) 18 dX12_turn_9 (by decide) (fun h4 => ?_) (fun h4 => ?_)
  · refine AW.aload_n (pc := 12) dX12_turn_12 rfl 0 rfl ?_
    refine AW.iconst (pc := 13) dX12_turn_13 ci_1 ?_
    refine AW.cV1i (pc := 14) dX12_turn_14 mlX12_289 mbX12_fail rfl hthis (kct hthis rfl hct) (fun _ => okR_N (by omega)) (kX12_fail l E (n - 1) (by omega) ct hct ex this 1 M3) (Nat.le_of_ble_eq_true rfl) (fun v5 M6 => ?_)
    exact AW.iret (pc := 17) dX12_turn_17 rfl (fun _ _ _ => rfl) (Nat.le_refl _) (Nat.le_refl _)
  · refine AW.aload_n (pc := 18) dX12_turn_18 rfl 0 rfl ?_
    refine AW.iload_n (pc := 19) dX12_turn_19 rfl 1 rfl ?_
    refine AW.cV1v (pc := 20) dX12_turn_20 mlX12_358 mbX12_tellGifts rfl hthis (kct hthis rfl hct) (fun _ => okR_N (by omega)) (kX12_tellGifts l E (n - 1) (by omega) ct hct ex this x1 M3) (Nat.le_of_ble_eq_true rfl) (fun _ M7 => ?_)
    refine AW.aload_n (pc := 23) dX12_turn_23 rfl 0 rfl ?_
    refine AW.aload_n (pc := 24) dX12_turn_24 rfl 0 rfl ?_
    refine AW.chk (fun g8 => ?_)
    refine AW.getR (pc := 25) dX12_turn_25 flX12_65 hthis (kct hthis rfl hct) g8 ?_
    refine AW.iload_n (pc := 28) dX12_turn_28 rfl 1 rfl ?_
    refine AW.chk (fun g9 => ?_)
    refine AW.iald (pc := 29) dX12_turn_29 (k0e g9.1) (kct (k0e g9.1) rfl hct) g9.2 ?_
    refine AW.cV1v (pc := 30) dX12_turn_30 mlX12_361 mbX12_startAt rfl hthis (kct hthis rfl hct) (fun _ => okR_N (by omega)) (kX12_startAt l E (n - 1) (by omega) ct hct ex this (mI M7 (mR M7 this 11) (Int32.toNatClampNeg x1)) M7) (Nat.le_of_ble_eq_true rfl) (fun _ M10 => ?_)
    refine AW.iconst (pc := 33) dX12_turn_33 ci_1 ?_
    refine AW.istore_n (pc := 34) [1, 2, 3, 0] [(0, .ref (ad E this)), (1, .int x1), (2, .int x2), (3, .int 1)] dX12_turn_34 rfl (by decide) rfl ?_
    exact kX12_turn_L35 l E n hn ct hct ex FU this x1 x2 1 M10 hthis
-- GateBoxModel.tellComes(I)V
def zX12_tellComes_B181 (KK109 : Nat → Int32 → Int32 → Mem → Option (Unit × Mem)) (KK117 : Nat → Int32 → Int32 → Int32 → Mem → Option (Unit × Mem)) (this : Nat) (x2 : Int32) (x3 : Int32) (x4 : Int32) (M : Mem) : Option (Unit × Mem) :=
  KK117 this x2 x3 (x4 + 1) M
def zX12_tellComes_B141 (KK109 : Nat → Int32 → Int32 → Mem → Option (Unit × Mem)) (KK117 : Nat → Int32 → Int32 → Int32 → Mem → Option (Unit × Mem)) (KK141 : Nat → Int32 → Int32 → Int32 → Int32 → Mem → Option (Unit × Mem)) (this : Nat) (x2 : Int32) (x3 : Int32) (x4 : Int32) (x5 : Int32) (M : Mem) : Option (Unit × Mem) :=
  if x2 ≤ x5 then
    zX12_tellComes_B181 KK109 KK117 this x2 x3 x4 M
  else
    if mR M this 38 ≠ 0 then
    lt ((100 * x4) + x5) fun v3 =>
    if (K0 (mR M this 38)).1 = 3 ∧ inb v3 (K0 (mR M this 38)).2 = true then
    if inb ((100 * x3) + x5) (K0 (mR M this 38)).2 = true then
    if inb v3 (K0 (mR M this 38)).2 = true then
    lt (sI M (mR M this 38) (Int32.toNatClampNeg v3) (vp_nar .boolean ((mI M (mR M this 38) (Int32.toNatClampNeg v3)) ||| (mI M (mR M this 38) (Int32.toNatClampNeg ((100 * x3) + x5)))))) fun M7 =>
    KK141 this x2 x3 x4 (x5 + 1) M7
    else none
    else none
    else none
    else none
def zX12_tellComes_L141 (KK109 : Nat → Int32 → Int32 → Mem → Option (Unit × Mem)) (KK117 : Nat → Int32 → Int32 → Int32 → Mem → Option (Unit × Mem)) : Nat → Nat → Int32 → Int32 → Int32 → Int32 → Mem → Option (Unit × Mem)
  | 0 => fun _ _ _ _ _ _ => none
  | k + 1 => zX12_tellComes_B141 KK109 KK117 (zX12_tellComes_L141 KK109 KK117 k)
def zX12_tellComes_B117 (KK109 : Nat → Int32 → Int32 → Mem → Option (Unit × Mem)) (KK117 : Nat → Int32 → Int32 → Int32 → Mem → Option (Unit × Mem)) (this : Nat) (x2 : Int32) (x3 : Int32) (x4 : Int32) (M : Mem) : Option (Unit × Mem) :=
  if x2 ≤ x4 then
    KK109 this x2 (x3 + 1) M
  else
    if mR M this 38 ≠ 0 then
    if (K0 (mR M this 38)).1 = 3 ∧ inb ((100 * x4) + x3) (K0 (mR M this 38)).2 = true then
    if (mI M (mR M this 38) (Int32.toNatClampNeg ((100 * x4) + x3))) = 0 then
      zX12_tellComes_B181 KK109 KK117 this x2 x3 x4 M
    else
      zX12_tellComes_L141 KK109 KK117 FU this x2 x3 x4 0 M
    else none
    else none
def zX12_tellComes_L117 (KK109 : Nat → Int32 → Int32 → Mem → Option (Unit × Mem)) : Nat → Nat → Int32 → Int32 → Int32 → Mem → Option (Unit × Mem)
  | 0 => fun _ _ _ _ _ => none
  | k + 1 => zX12_tellComes_B117 KK109 (zX12_tellComes_L117 KK109 k)
def zX12_tellComes_B109 (KK109 : Nat → Int32 → Int32 → Mem → Option (Unit × Mem)) (this : Nat) (x2 : Int32) (x3 : Int32) (M : Mem) : Option (Unit × Mem) :=
  if x2 ≤ x3 then
    some ((), M)
  else
    zX12_tellComes_L117 KK109 FU this x2 x3 0 M
def zX12_tellComes_L109 : Nat → Nat → Int32 → Int32 → Mem → Option (Unit × Mem)
  | 0 => fun _ _ _ _ => none
  | k + 1 => zX12_tellComes_B109 (zX12_tellComes_L109 k)
def zX12_tellComes_B55 (KK35 : Nat → Int32 → Int32 → Int32 → Mem → Option (Unit × Mem)) (KK55 : Nat → Int32 → Int32 → Int32 → Int32 → Mem → Option (Unit × Mem)) (this : Nat) (x1 : Int32) (x2 : Int32) (x3 : Int32) (x4 : Int32) (M : Mem) : Option (Unit × Mem) :=
  if mR M this 3 ≠ 0 then
  if (K0 (mR M this 3)).1 = 1 ∧ inb x1 (K0 (mR M this 3)).2 = true then
  if (mI M (mR M this 3) (Int32.toNatClampNeg x1)) ≤ x4 then
    KK35 this x1 x2 (x3 + 1) M
  else
    if mR M this 38 ≠ 0 then
    if mR M this 34 ≠ 0 then
    if (K0 (mR M this 34)).1 = 1 ∧ inb ((8 * x3) + x4) (K0 (mR M this 34)).2 = true then
    bnd (zX12_goOn this x1 x3 (mI M (mR M this 34) (Int32.toNatClampNeg ((8 * x3) + x4))) M) fun v7 M8 =>
    if (K0 (mR M this 38)).1 = 3 ∧ inb ((100 * x3) + v7) (K0 (mR M this 38)).2 = true then
    lt (sI M8 (mR M this 38) (Int32.toNatClampNeg ((100 * x3) + v7)) (vp_nar .boolean 1)) fun M10 =>
    KK55 this x1 x2 x3 (x4 + 1) M10
    else none
    else none
    else none
    else none
  else none
  else none
def zX12_tellComes_L55 (KK35 : Nat → Int32 → Int32 → Int32 → Mem → Option (Unit × Mem)) : Nat → Nat → Int32 → Int32 → Int32 → Int32 → Mem → Option (Unit × Mem)
  | 0 => fun _ _ _ _ _ _ => none
  | k + 1 => zX12_tellComes_B55 KK35 (zX12_tellComes_L55 KK35 k)
def zX12_tellComes_B35 (KK35 : Nat → Int32 → Int32 → Int32 → Mem → Option (Unit × Mem)) (this : Nat) (x1 : Int32) (x2 : Int32) (x3 : Int32) (M : Mem) : Option (Unit × Mem) :=
  if x2 ≤ x3 then
    zX12_tellComes_L109 FU this x2 0 M
  else
    if mR M this 38 ≠ 0 then
    if (K0 (mR M this 38)).1 = 3 ∧ inb ((100 * x3) + x3) (K0 (mR M this 38)).2 = true then
    lt (sI M (mR M this 38) (Int32.toNatClampNeg ((100 * x3) + x3)) (vp_nar .boolean 1)) fun M4 =>
    zX12_tellComes_L55 KK35 FU this x1 x2 x3 0 M4
    else none
    else none
def zX12_tellComes_L35 : Nat → Nat → Int32 → Int32 → Int32 → Mem → Option (Unit × Mem)
  | 0 => fun _ _ _ _ _ => none
  | k + 1 => zX12_tellComes_B35 (zX12_tellComes_L35 k)
def zX12_tellComes_B13 (KK13 : Nat → Int32 → Int32 → Int32 → Mem → Option (Unit × Mem)) (this : Nat) (x1 : Int32) (x2 : Int32) (x3 : Int32) (M : Mem) : Option (Unit × Mem) :=
  if 10000 ≤ x3 then
    zX12_tellComes_L35 FU this x1 x2 0 M
  else
    if mR M this 38 ≠ 0 then
    if (K0 (mR M this 38)).1 = 3 ∧ inb x3 (K0 (mR M this 38)).2 = true then
    lt (sI M (mR M this 38) (Int32.toNatClampNeg x3) (vp_nar .boolean 0)) fun M4 =>
    KK13 this x1 x2 (x3 + 1) M4
    else none
    else none
def zX12_tellComes_L13 : Nat → Nat → Int32 → Int32 → Int32 → Mem → Option (Unit × Mem)
  | 0 => fun _ _ _ _ _ => none
  | k + 1 => zX12_tellComes_B13 (zX12_tellComes_L13 k)
def zX12_tellComes (this : Nat) (x1 : Int32) (M : Mem) : Option (Unit × Mem) :=
  if K0 this = (0, 12) then
  bnd (zX12_statesOf this x1 M) fun v1 M2 =>
  bnd (zX12_tellGifts this x1 M2) fun _ M3 =>
  zX12_tellComes_L13 FU this x1 v1 0 M3
  else none
set_option maxRecDepth 20000 in
set_option maxHeartbeats 4000000 in
theorem kX12_tellComes_B181 (l : Launch) (E : Ev) (n : Nat) (hn : 11 ≤ n) (ct : Nat) (hct : 111 ≤ ct) (ex : Bool) (KK109 : Nat → Int32 → Int32 → Mem → Option (Unit × Mem)) (hKK109 : ∀ (this : Nat) (x2 : Int32) (x3 : Int32) (M : Mem) (_ : K0 this = (0, 12)), AW l E fX12_tellComes (fun _ => rmN n 0 0) (PQr E 0 0 ct ex enU) ct ex 0 0 109 [(0, .ref (ad E this)), (2, .int x2), (3, .int x3)] [] M (KK109 this x2 x3 M)) (KK117 : Nat → Int32 → Int32 → Int32 → Mem → Option (Unit × Mem)) (hKK117 : ∀ (this : Nat) (x2 : Int32) (x3 : Int32) (x4 : Int32) (M : Mem) (_ : K0 this = (0, 12)), AW l E fX12_tellComes (fun _ => rmN n 0 0) (PQr E 0 0 ct ex enU) ct ex 0 0 117 [(0, .ref (ad E this)), (2, .int x2), (3, .int x3), (4, .int x4)] [] M (KK117 this x2 x3 x4 M)) (this : Nat) (x2 : Int32) (x3 : Int32) (x4 : Int32) (M : Mem) (hthis : K0 this = (0, 12)) : AW l E fX12_tellComes (fun _ => rmN n 0 0) (PQr E 0 0 ct ex enU) ct ex 0 0 181 [(0, .ref (ad E this)), (2, .int x2), (3, .int x3), (4, .int x4)] [] M (zX12_tellComes_B181 KK109 KK117 this x2 x3 x4 M) := by
  unfold zX12_tellComes_B181
  refine AW.iinc (pc := 181) (w := 3) [1, 2, 3, 0] [(0, .ref (ad E this)), (2, .int x2), (3, .int x3), (4, .int (x4 + 1))] dX12_tellComes_181 rfl (inc_1 _) (by decide) rfl ?_
  refine AW.goto (pc := 184) 117 dX12_tellComes_184 (by decide) ?_
  exact hKK117 this x2 x3 (x4 + 1) M hthis
set_option maxRecDepth 20000 in
set_option maxHeartbeats 4000000 in
theorem kX12_tellComes_B141 (l : Launch) (E : Ev) (n : Nat) (hn : 11 ≤ n) (ct : Nat) (hct : 111 ≤ ct) (ex : Bool) (KK109 : Nat → Int32 → Int32 → Mem → Option (Unit × Mem)) (hKK109 : ∀ (this : Nat) (x2 : Int32) (x3 : Int32) (M : Mem) (_ : K0 this = (0, 12)), AW l E fX12_tellComes (fun _ => rmN n 0 0) (PQr E 0 0 ct ex enU) ct ex 0 0 109 [(0, .ref (ad E this)), (2, .int x2), (3, .int x3)] [] M (KK109 this x2 x3 M)) (KK117 : Nat → Int32 → Int32 → Int32 → Mem → Option (Unit × Mem)) (hKK117 : ∀ (this : Nat) (x2 : Int32) (x3 : Int32) (x4 : Int32) (M : Mem) (_ : K0 this = (0, 12)), AW l E fX12_tellComes (fun _ => rmN n 0 0) (PQr E 0 0 ct ex enU) ct ex 0 0 117 [(0, .ref (ad E this)), (2, .int x2), (3, .int x3), (4, .int x4)] [] M (KK117 this x2 x3 x4 M)) (KK141 : Nat → Int32 → Int32 → Int32 → Int32 → Mem → Option (Unit × Mem)) (hKK141 : ∀ (this : Nat) (x2 : Int32) (x3 : Int32) (x4 : Int32) (x5 : Int32) (M : Mem) (_ : K0 this = (0, 12)), AW l E fX12_tellComes (fun _ => rmN n 0 0) (PQr E 0 0 ct ex enU) ct ex 0 0 141 [(0, .ref (ad E this)), (2, .int x2), (3, .int x3), (4, .int x4), (5, .int x5)] [] M (KK141 this x2 x3 x4 x5 M)) (this : Nat) (x2 : Int32) (x3 : Int32) (x4 : Int32) (x5 : Int32) (M : Mem) (hthis : K0 this = (0, 12)) : AW l E fX12_tellComes (fun _ => rmN n 0 0) (PQr E 0 0 ct ex enU) ct ex 0 0 141 [(0, .ref (ad E this)), (2, .int x2), (3, .int x3), (4, .int x4), (5, .int x5)] [] M (zX12_tellComes_B141 KK109 KK117 KK141 this x2 x3 x4 x5 M) := by
  unfold zX12_tellComes_B141
  refine AW.iload (pc := 141) dX12_tellComes_141 4 rfl ?_
  refine AW.iload_n (pc := 143) dX12_tellComes_143 rfl 1 rfl ?_
  refine AW.icmp_ge (pc := 144) 181 dX12_tellComes_144 (by decide) (fun h1 => ?_) (fun h1 => ?_)
  · exact AW.sub [0, 1, 2, 3] rfl (kX12_tellComes_B181 l E n hn ct hct ex KK109 hKK109 KK117 hKK117 this x2 x3 x4 M hthis)
  · refine AW.aload_n (pc := 147) dX12_tellComes_147 rfl 0 rfl ?_
    refine AW.chk (fun g2 => ?_)
    refine AW.getR (pc := 148) dX12_tellComes_148 flX12_109 hthis (kct hthis rfl hct) g2 ?_
    refine AW.bipush (pc := 151) dX12_tellComes_151 cb_100 ?_
    refine AW.iload (pc := 153) dX12_tellComes_153 3 rfl ?_
    refine AW.imul (pc := 155) dX12_tellComes_155 ?_
    refine AW.iload (pc := 156) dX12_tellComes_156 4 rfl ?_
    refine AW.iadd (pc := 158) dX12_tellComes_158 ?_
    refine AW.genI (fun v3 => ?_)
    refine AW.dup2 (pc := 159) dX12_tellComes_159 rfl rfl ?_
    refine AW.chk (fun g4 => ?_)
    refine AW.zald (pc := 160) dX12_tellComes_160 (k0e g4.1) (kct (k0e g4.1) rfl hct) g4.2 ?_
    refine AW.aload_n (pc := 161) dX12_tellComes_161 rfl 0 rfl ?_
    refine AW.getR (pc := 162) dX12_tellComes_162 flX12_109 hthis (kct hthis rfl hct) g2 ?_
    refine AW.bipush (pc := 165) dX12_tellComes_165 cb_100 ?_
    refine AW.iload_n (pc := 167) dX12_tellComes_167 rfl 2 rfl ?_
    refine AW.imul (pc := 168) dX12_tellComes_168 ?_
    refine AW.iload (pc := 169) dX12_tellComes_169 4 rfl ?_
    refine AW.iadd (pc := 171) dX12_tellComes_171 ?_
    refine AW.chk (fun g5 => ?_)
    refine AW.zald (pc := 172) dX12_tellComes_172 (k0e g4.1) (kct (k0e g4.1) rfl hct) g5 ?_
    refine AW.ior (pc := 173) dX12_tellComes_173 ?_
    refine AW.chk (fun g6 => ?_)
    refine AW.zast (pc := 174) dX12_tellComes_174 (k0e g4.1) (kct (k0e g4.1) rfl hct) g6 ?_
    refine AW.genM (fun M7 => ?_)
    refine AW.iinc (pc := 175) (w := 4) [1, 2, 3, 4, 0] [(0, .ref (ad E this)), (2, .int x2), (3, .int x3), (4, .int x4), (5, .int (x5 + 1))] dX12_tellComes_175 rfl (inc_1 _) (by decide) rfl ?_
    refine AW.goto (pc := 178) 141 dX12_tellComes_178 (by decide) ?_
    exact hKK141 this x2 x3 x4 (x5 + 1) M7 hthis
set_option maxRecDepth 20000 in
set_option maxHeartbeats 4000000 in
theorem kX12_tellComes_L141 (l : Launch) (E : Ev) (n : Nat) (hn : 11 ≤ n) (ct : Nat) (hct : 111 ≤ ct) (ex : Bool) (KK109 : Nat → Int32 → Int32 → Mem → Option (Unit × Mem)) (hKK109 : ∀ (this : Nat) (x2 : Int32) (x3 : Int32) (M : Mem) (_ : K0 this = (0, 12)), AW l E fX12_tellComes (fun _ => rmN n 0 0) (PQr E 0 0 ct ex enU) ct ex 0 0 109 [(0, .ref (ad E this)), (2, .int x2), (3, .int x3)] [] M (KK109 this x2 x3 M)) (KK117 : Nat → Int32 → Int32 → Int32 → Mem → Option (Unit × Mem)) (hKK117 : ∀ (this : Nat) (x2 : Int32) (x3 : Int32) (x4 : Int32) (M : Mem) (_ : K0 this = (0, 12)), AW l E fX12_tellComes (fun _ => rmN n 0 0) (PQr E 0 0 ct ex enU) ct ex 0 0 117 [(0, .ref (ad E this)), (2, .int x2), (3, .int x3), (4, .int x4)] [] M (KK117 this x2 x3 x4 M)) (k : Nat) : ∀ (this : Nat) (x2 : Int32) (x3 : Int32) (x4 : Int32) (x5 : Int32) (M : Mem) (_ : K0 this = (0, 12)), AW l E fX12_tellComes (fun _ => rmN n 0 0) (PQr E 0 0 ct ex enU) ct ex 0 0 141 [(0, .ref (ad E this)), (2, .int x2), (3, .int x3), (4, .int x4), (5, .int x5)] [] M (zX12_tellComes_L141 KK109 KK117 k this x2 x3 x4 x5 M) := by
  induction k with
  | zero => intro this x2 x3 x4 x5 M _; exact AW.none
  | succ k ih =>
    intro this x2 x3 x4 x5 M hthis
    exact kX12_tellComes_B141 l E n hn ct hct ex KK109 hKK109 KK117 hKK117 (zX12_tellComes_L141 KK109 KK117 k) ih this x2 x3 x4 x5 M hthis
set_option maxRecDepth 20000 in
set_option maxHeartbeats 4000000 in
theorem kX12_tellComes_B117 (l : Launch) (E : Ev) (n : Nat) (hn : 11 ≤ n) (ct : Nat) (hct : 111 ≤ ct) (ex : Bool) (KK109 : Nat → Int32 → Int32 → Mem → Option (Unit × Mem)) (hKK109 : ∀ (this : Nat) (x2 : Int32) (x3 : Int32) (M : Mem) (_ : K0 this = (0, 12)), AW l E fX12_tellComes (fun _ => rmN n 0 0) (PQr E 0 0 ct ex enU) ct ex 0 0 109 [(0, .ref (ad E this)), (2, .int x2), (3, .int x3)] [] M (KK109 this x2 x3 M)) (KK117 : Nat → Int32 → Int32 → Int32 → Mem → Option (Unit × Mem)) (hKK117 : ∀ (this : Nat) (x2 : Int32) (x3 : Int32) (x4 : Int32) (M : Mem) (_ : K0 this = (0, 12)), AW l E fX12_tellComes (fun _ => rmN n 0 0) (PQr E 0 0 ct ex enU) ct ex 0 0 117 [(0, .ref (ad E this)), (2, .int x2), (3, .int x3), (4, .int x4)] [] M (KK117 this x2 x3 x4 M)) (this : Nat) (x2 : Int32) (x3 : Int32) (x4 : Int32) (M : Mem) (hthis : K0 this = (0, 12)) : AW l E fX12_tellComes (fun _ => rmN n 0 0) (PQr E 0 0 ct ex enU) ct ex 0 0 117 [(0, .ref (ad E this)), (2, .int x2), (3, .int x3), (4, .int x4)] [] M (zX12_tellComes_B117 KK109 KK117 this x2 x3 x4 M) := by
  unfold zX12_tellComes_B117
  refine AW.iload (pc := 117) dX12_tellComes_117 3 rfl ?_
  refine AW.iload_n (pc := 119) dX12_tellComes_119 rfl 1 rfl ?_
  refine AW.icmp_ge (pc := 120) 187 dX12_tellComes_120 (by decide) (fun h1 => ?_) (fun h1 => ?_)
  · refine AW.iinc (pc := 187) (w := 2) [1, 2, 0] [(0, .ref (ad E this)), (2, .int x2), (3, .int (x3 + 1))] dX12_tellComes_187 rfl (inc_1 _) (by decide) rfl ?_
    refine AW.goto (pc := 190) 109 dX12_tellComes_190 (by decide) ?_
    exact hKK109 this x2 (x3 + 1) M hthis
  · refine AW.aload_n (pc := 123) dX12_tellComes_123 rfl 0 rfl ?_
    refine AW.chk (fun g2 => ?_)
    refine AW.getR (pc := 124) dX12_tellComes_124 flX12_109 hthis (kct hthis rfl hct) g2 ?_
    refine AW.bipush (pc := 127) dX12_tellComes_127 cb_100 ?_
    refine AW.iload (pc := 129) dX12_tellComes_129 3 rfl ?_
    refine AW.imul (pc := 131) dX12_tellComes_131 ?_
    refine AW.iload_n (pc := 132) dX12_tellComes_132 rfl 2 rfl ?_
    refine AW.iadd (pc := 133) dX12_tellComes_133 ?_
    refine AW.chk (fun g3 => ?_)
    refine AW.zald (pc := 134) dX12_tellComes_134 (k0e g3.1) (kct (k0e g3.1) rfl hct) g3.2 ?_
    refine AW.if_eq (pc := 135) 181 dX12_tellComes_135 (by decide) (fun h4 => ?_) (fun h4 => ?_)
    · exact kX12_tellComes_B181 l E n hn ct hct ex KK109 hKK109 KK117 hKK117 this x2 x3 x4 M hthis
    · refine AW.iconst (pc := 138) dX12_tellComes_138 ci_0 ?_
      refine AW.istore (pc := 139) [1, 2, 3, 4, 0] [(0, .ref (ad E this)), (2, .int x2), (3, .int x3), (4, .int x4), (5, .int 0)] dX12_tellComes_139 (by decide) rfl ?_
      exact kX12_tellComes_L141 l E n hn ct hct ex KK109 hKK109 KK117 hKK117 FU this x2 x3 x4 0 M hthis
set_option maxRecDepth 20000 in
set_option maxHeartbeats 4000000 in
theorem kX12_tellComes_L117 (l : Launch) (E : Ev) (n : Nat) (hn : 11 ≤ n) (ct : Nat) (hct : 111 ≤ ct) (ex : Bool) (KK109 : Nat → Int32 → Int32 → Mem → Option (Unit × Mem)) (hKK109 : ∀ (this : Nat) (x2 : Int32) (x3 : Int32) (M : Mem) (_ : K0 this = (0, 12)), AW l E fX12_tellComes (fun _ => rmN n 0 0) (PQr E 0 0 ct ex enU) ct ex 0 0 109 [(0, .ref (ad E this)), (2, .int x2), (3, .int x3)] [] M (KK109 this x2 x3 M)) (k : Nat) : ∀ (this : Nat) (x2 : Int32) (x3 : Int32) (x4 : Int32) (M : Mem) (_ : K0 this = (0, 12)), AW l E fX12_tellComes (fun _ => rmN n 0 0) (PQr E 0 0 ct ex enU) ct ex 0 0 117 [(0, .ref (ad E this)), (2, .int x2), (3, .int x3), (4, .int x4)] [] M (zX12_tellComes_L117 KK109 k this x2 x3 x4 M) := by
  induction k with
  | zero => intro this x2 x3 x4 M _; exact AW.none
  | succ k ih =>
    intro this x2 x3 x4 M hthis
    exact kX12_tellComes_B117 l E n hn ct hct ex KK109 hKK109 (zX12_tellComes_L117 KK109 k) ih this x2 x3 x4 M hthis
set_option maxRecDepth 20000 in
set_option maxHeartbeats 4000000 in
theorem kX12_tellComes_B109 (l : Launch) (E : Ev) (n : Nat) (hn : 11 ≤ n) (ct : Nat) (hct : 111 ≤ ct) (ex : Bool) (KK109 : Nat → Int32 → Int32 → Mem → Option (Unit × Mem)) (hKK109 : ∀ (this : Nat) (x2 : Int32) (x3 : Int32) (M : Mem) (_ : K0 this = (0, 12)), AW l E fX12_tellComes (fun _ => rmN n 0 0) (PQr E 0 0 ct ex enU) ct ex 0 0 109 [(0, .ref (ad E this)), (2, .int x2), (3, .int x3)] [] M (KK109 this x2 x3 M)) (this : Nat) (x2 : Int32) (x3 : Int32) (M : Mem) (hthis : K0 this = (0, 12)) : AW l E fX12_tellComes (fun _ => rmN n 0 0) (PQr E 0 0 ct ex enU) ct ex 0 0 109 [(0, .ref (ad E this)), (2, .int x2), (3, .int x3)] [] M (zX12_tellComes_B109 KK109 this x2 x3 M) := by
  unfold zX12_tellComes_B109
  refine AW.iload_n (pc := 109) dX12_tellComes_109 rfl 2 rfl ?_
  refine AW.iload_n (pc := 110) dX12_tellComes_110 rfl 1 rfl ?_
  refine AW.icmp_ge (pc := 111) 193 dX12_tellComes_111 (by decide) (fun h1 => ?_) (fun h1 => ?_)
  · exact AW.vret (pc := 193) dX12_tellComes_193 rfl (fun _ _ _ => rfl) (Nat.le_refl _) (Nat.le_refl _)
  · refine AW.iconst (pc := 114) dX12_tellComes_114 ci_0 ?_
    refine AW.istore (pc := 115) [1, 2, 3, 0] [(0, .ref (ad E this)), (2, .int x2), (3, .int x3), (4, .int 0)] dX12_tellComes_115 (by decide) rfl ?_
    exact kX12_tellComes_L117 l E n hn ct hct ex KK109 hKK109 FU this x2 x3 0 M hthis
set_option maxRecDepth 20000 in
set_option maxHeartbeats 4000000 in
theorem kX12_tellComes_L109 (l : Launch) (E : Ev) (n : Nat) (hn : 11 ≤ n) (ct : Nat) (hct : 111 ≤ ct) (ex : Bool) (k : Nat) : ∀ (this : Nat) (x2 : Int32) (x3 : Int32) (M : Mem) (_ : K0 this = (0, 12)), AW l E fX12_tellComes (fun _ => rmN n 0 0) (PQr E 0 0 ct ex enU) ct ex 0 0 109 [(0, .ref (ad E this)), (2, .int x2), (3, .int x3)] [] M (zX12_tellComes_L109 k this x2 x3 M) := by
  induction k with
  | zero => intro this x2 x3 M _; exact AW.none
  | succ k ih =>
    intro this x2 x3 M hthis
    exact kX12_tellComes_B109 l E n hn ct hct ex (zX12_tellComes_L109 k) ih this x2 x3 M hthis
set_option maxRecDepth 20000 in
set_option maxHeartbeats 4000000 in
theorem kX12_tellComes_B55 (l : Launch) (E : Ev) (n : Nat) (hn : 11 ≤ n) (ct : Nat) (hct : 111 ≤ ct) (ex : Bool) (KK35 : Nat → Int32 → Int32 → Int32 → Mem → Option (Unit × Mem)) (hKK35 : ∀ (this : Nat) (x1 : Int32) (x2 : Int32) (x3 : Int32) (M : Mem) (_ : K0 this = (0, 12)), AW l E fX12_tellComes (fun _ => rmN n 0 0) (PQr E 0 0 ct ex enU) ct ex 0 0 35 [(0, .ref (ad E this)), (1, .int x1), (2, .int x2), (3, .int x3)] [] M (KK35 this x1 x2 x3 M)) (KK55 : Nat → Int32 → Int32 → Int32 → Int32 → Mem → Option (Unit × Mem)) (hKK55 : ∀ (this : Nat) (x1 : Int32) (x2 : Int32) (x3 : Int32) (x4 : Int32) (M : Mem) (_ : K0 this = (0, 12)), AW l E fX12_tellComes (fun _ => rmN n 0 0) (PQr E 0 0 ct ex enU) ct ex 0 0 55 [(0, .ref (ad E this)), (1, .int x1), (2, .int x2), (3, .int x3), (4, .int x4)] [] M (KK55 this x1 x2 x3 x4 M)) (this : Nat) (x1 : Int32) (x2 : Int32) (x3 : Int32) (x4 : Int32) (M : Mem) (hthis : K0 this = (0, 12)) : AW l E fX12_tellComes (fun _ => rmN n 0 0) (PQr E 0 0 ct ex enU) ct ex 0 0 55 [(0, .ref (ad E this)), (1, .int x1), (2, .int x2), (3, .int x3), (4, .int x4)] [] M (zX12_tellComes_B55 KK35 KK55 this x1 x2 x3 x4 M) := by
  unfold zX12_tellComes_B55
  refine AW.iload (pc := 55) dX12_tellComes_55 4 rfl ?_
  refine AW.aload_n (pc := 57) dX12_tellComes_57 rfl 0 rfl ?_
  refine AW.chk (fun g1 => ?_)
  refine AW.getR (pc := 58) dX12_tellComes_58 flX12_42 hthis (kct hthis rfl hct) g1 ?_
  refine AW.iload_n (pc := 61) dX12_tellComes_61 rfl 1 rfl ?_
  refine AW.chk (fun g2 => ?_)
  refine AW.iald (pc := 62) dX12_tellComes_62 (k0e g2.1) (kct (k0e g2.1) rfl hct) g2.2 ?_
  refine AW.icmp_ge (pc := 63) 101 dX12_tellComes_63 (by decide) (fun h3 => ?_) (fun h3 => ?_)
  · refine AW.iinc (pc := 101) (w := 3) [1, 2, 3, 0] [(0, .ref (ad E this)), (1, .int x1), (2, .int x2), (3, .int (x3 + 1))] dX12_tellComes_101 rfl (inc_1 _) (by decide) rfl ?_
    refine AW.goto (pc := 104) 35 dX12_tellComes_104 (by decide) ?_
    exact hKK35 this x1 x2 (x3 + 1) M hthis
  · refine AW.aload_n (pc := 66) dX12_tellComes_66 rfl 0 rfl ?_
    refine AW.chk (fun g4 => ?_)
    refine AW.getR (pc := 67) dX12_tellComes_67 flX12_109 hthis (kct hthis rfl hct) g4 ?_
    refine AW.bipush (pc := 70) dX12_tellComes_70 cb_100 ?_
    refine AW.iload_n (pc := 72) dX12_tellComes_72 rfl 3 rfl ?_
    refine AW.imul (pc := 73) dX12_tellComes_73 ?_
    refine AW.aload_n (pc := 74) dX12_tellComes_74 rfl 0 rfl ?_
    refine AW.iload_n (pc := 75) dX12_tellComes_75 rfl 1 rfl ?_
    refine AW.iload_n (pc := 76) dX12_tellComes_76 rfl 3 rfl ?_
    refine AW.aload_n (pc := 77) dX12_tellComes_77 rfl 0 rfl ?_
    refine AW.chk (fun g5 => ?_)
    refine AW.getR (pc := 78) dX12_tellComes_78 flX12_106 hthis (kct hthis rfl hct) g5 ?_
    refine AW.bipush (pc := 81) dX12_tellComes_81 cb_8 ?_
    refine AW.iload_n (pc := 83) dX12_tellComes_83 rfl 3 rfl ?_
    refine AW.imul (pc := 84) dX12_tellComes_84 ?_
    refine AW.iload (pc := 85) dX12_tellComes_85 4 rfl ?_
    refine AW.iadd (pc := 87) dX12_tellComes_87 ?_
    refine AW.chk (fun g6 => ?_)
    refine AW.iald (pc := 88) dX12_tellComes_88 (k0e g6.1) (kct (k0e g6.1) rfl hct) g6.2 ?_
    refine AW.cV3i (pc := 89) dX12_tellComes_89 mlX12_355 mbX12_goOn rfl hthis (kct hthis rfl hct) (fun _ => okR_N (by omega)) (kX12_goOn l E (n - 1) (by omega) ct hct ex this x1 x3 (mI M (mR M this 34) (Int32.toNatClampNeg ((8 * x3) + x4))) M) (Nat.le_of_ble_eq_true rfl) (fun v7 M8 => ?_)
    refine AW.iadd (pc := 92) dX12_tellComes_92 ?_
    refine AW.iconst (pc := 93) dX12_tellComes_93 ci_1 ?_
    refine AW.chk (fun g9 => ?_)
    refine AW.zast (pc := 94) dX12_tellComes_94 (k0e g9.1) (kct (k0e g9.1) rfl hct) g9.2 ?_
    refine AW.genM (fun M10 => ?_)
    refine AW.iinc (pc := 95) (w := 4) [1, 2, 3, 4, 0] [(0, .ref (ad E this)), (1, .int x1), (2, .int x2), (3, .int x3), (4, .int (x4 + 1))] dX12_tellComes_95 rfl (inc_1 _) (by decide) rfl ?_
    refine AW.goto (pc := 98) 55 dX12_tellComes_98 (by decide) ?_
    exact hKK55 this x1 x2 x3 (x4 + 1) M10 hthis
set_option maxRecDepth 20000 in
set_option maxHeartbeats 4000000 in
theorem kX12_tellComes_L55 (l : Launch) (E : Ev) (n : Nat) (hn : 11 ≤ n) (ct : Nat) (hct : 111 ≤ ct) (ex : Bool) (KK35 : Nat → Int32 → Int32 → Int32 → Mem → Option (Unit × Mem)) (hKK35 : ∀ (this : Nat) (x1 : Int32) (x2 : Int32) (x3 : Int32) (M : Mem) (_ : K0 this = (0, 12)), AW l E fX12_tellComes (fun _ => rmN n 0 0) (PQr E 0 0 ct ex enU) ct ex 0 0 35 [(0, .ref (ad E this)), (1, .int x1), (2, .int x2), (3, .int x3)] [] M (KK35 this x1 x2 x3 M)) (k : Nat) : ∀ (this : Nat) (x1 : Int32) (x2 : Int32) (x3 : Int32) (x4 : Int32) (M : Mem) (_ : K0 this = (0, 12)), AW l E fX12_tellComes (fun _ => rmN n 0 0) (PQr E 0 0 ct ex enU) ct ex 0 0 55 [(0, .ref (ad E this)), (1, .int x1), (2, .int x2), (3, .int x3), (4, .int x4)] [] M (zX12_tellComes_L55 KK35 k this x1 x2 x3 x4 M) := by
  induction k with
  | zero => intro this x1 x2 x3 x4 M _; exact AW.none
  | succ k ih =>
    intro this x1 x2 x3 x4 M hthis
    exact kX12_tellComes_B55 l E n hn ct hct ex KK35 hKK35 (zX12_tellComes_L55 KK35 k) ih this x1 x2 x3 x4 M hthis
set_option maxRecDepth 20000 in
set_option maxHeartbeats 4000000 in
theorem kX12_tellComes_B35 (l : Launch) (E : Ev) (n : Nat) (hn : 11 ≤ n) (ct : Nat) (hct : 111 ≤ ct) (ex : Bool) (KK35 : Nat → Int32 → Int32 → Int32 → Mem → Option (Unit × Mem)) (hKK35 : ∀ (this : Nat) (x1 : Int32) (x2 : Int32) (x3 : Int32) (M : Mem) (_ : K0 this = (0, 12)), AW l E fX12_tellComes (fun _ => rmN n 0 0) (PQr E 0 0 ct ex enU) ct ex 0 0 35 [(0, .ref (ad E this)), (1, .int x1), (2, .int x2), (3, .int x3)] [] M (KK35 this x1 x2 x3 M)) (this : Nat) (x1 : Int32) (x2 : Int32) (x3 : Int32) (M : Mem) (hthis : K0 this = (0, 12)) : AW l E fX12_tellComes (fun _ => rmN n 0 0) (PQr E 0 0 ct ex enU) ct ex 0 0 35 [(0, .ref (ad E this)), (1, .int x1), (2, .int x2), (3, .int x3)] [] M (zX12_tellComes_B35 KK35 this x1 x2 x3 M) := by
  unfold zX12_tellComes_B35
  refine AW.iload_n (pc := 35) dX12_tellComes_35 rfl 3 rfl ?_
  refine AW.iload_n (pc := 36) dX12_tellComes_36 rfl 2 rfl ?_
  refine AW.icmp_ge (pc := 37) 107 dX12_tellComes_37 (by decide) (fun h1 => ?_) (fun h1 => ?_)
  · refine AW.iconst (pc := 107) dX12_tellComes_107 ci_0 ?_
    refine AW.istore_n (pc := 108) [1, 3, 0] [(0, .ref (ad E this)), (2, .int x2), (3, .int 0)] dX12_tellComes_108 rfl (by decide) rfl ?_
    exact kX12_tellComes_L109 l E n hn ct hct ex FU this x2 0 M hthis
  · refine AW.aload_n (pc := 40) dX12_tellComes_40 rfl 0 rfl ?_
    refine AW.chk (fun g2 => ?_)
    refine AW.getR (pc := 41) dX12_tellComes_41 flX12_109 hthis (kct hthis rfl hct) g2 ?_
    refine AW.bipush (pc := 44) dX12_tellComes_44 cb_100 ?_
    refine AW.iload_n (pc := 46) dX12_tellComes_46 rfl 3 rfl ?_
    refine AW.imul (pc := 47) dX12_tellComes_47 ?_
    refine AW.iload_n (pc := 48) dX12_tellComes_48 rfl 3 rfl ?_
    refine AW.iadd (pc := 49) dX12_tellComes_49 ?_
    refine AW.iconst (pc := 50) dX12_tellComes_50 ci_1 ?_
    refine AW.chk (fun g3 => ?_)
    refine AW.zast (pc := 51) dX12_tellComes_51 (k0e g3.1) (kct (k0e g3.1) rfl hct) g3.2 ?_
    refine AW.genM (fun M4 => ?_)
    refine AW.iconst (pc := 52) dX12_tellComes_52 ci_0 ?_
    refine AW.istore (pc := 53) [1, 2, 3, 4, 0] [(0, .ref (ad E this)), (1, .int x1), (2, .int x2), (3, .int x3), (4, .int 0)] dX12_tellComes_53 (by decide) rfl ?_
    exact kX12_tellComes_L55 l E n hn ct hct ex KK35 hKK35 FU this x1 x2 x3 0 M4 hthis
set_option maxRecDepth 20000 in
set_option maxHeartbeats 4000000 in
theorem kX12_tellComes_L35 (l : Launch) (E : Ev) (n : Nat) (hn : 11 ≤ n) (ct : Nat) (hct : 111 ≤ ct) (ex : Bool) (k : Nat) : ∀ (this : Nat) (x1 : Int32) (x2 : Int32) (x3 : Int32) (M : Mem) (_ : K0 this = (0, 12)), AW l E fX12_tellComes (fun _ => rmN n 0 0) (PQr E 0 0 ct ex enU) ct ex 0 0 35 [(0, .ref (ad E this)), (1, .int x1), (2, .int x2), (3, .int x3)] [] M (zX12_tellComes_L35 k this x1 x2 x3 M) := by
  induction k with
  | zero => intro this x1 x2 x3 M _; exact AW.none
  | succ k ih =>
    intro this x1 x2 x3 M hthis
    exact kX12_tellComes_B35 l E n hn ct hct ex (zX12_tellComes_L35 k) ih this x1 x2 x3 M hthis
set_option maxRecDepth 20000 in
set_option maxHeartbeats 4000000 in
theorem kX12_tellComes_B13 (l : Launch) (E : Ev) (n : Nat) (hn : 11 ≤ n) (ct : Nat) (hct : 111 ≤ ct) (ex : Bool) (KK13 : Nat → Int32 → Int32 → Int32 → Mem → Option (Unit × Mem)) (hKK13 : ∀ (this : Nat) (x1 : Int32) (x2 : Int32) (x3 : Int32) (M : Mem) (_ : K0 this = (0, 12)), AW l E fX12_tellComes (fun _ => rmN n 0 0) (PQr E 0 0 ct ex enU) ct ex 0 0 13 [(0, .ref (ad E this)), (1, .int x1), (2, .int x2), (3, .int x3)] [] M (KK13 this x1 x2 x3 M)) (this : Nat) (x1 : Int32) (x2 : Int32) (x3 : Int32) (M : Mem) (hthis : K0 this = (0, 12)) : AW l E fX12_tellComes (fun _ => rmN n 0 0) (PQr E 0 0 ct ex enU) ct ex 0 0 13 [(0, .ref (ad E this)), (1, .int x1), (2, .int x2), (3, .int x3)] [] M (zX12_tellComes_B13 KK13 this x1 x2 x3 M) := by
  unfold zX12_tellComes_B13
  refine AW.iload_n (pc := 13) dX12_tellComes_13 rfl 3 rfl ?_
  refine AW.sipush (pc := 14) dX12_tellComes_14 cs_10000 ?_
  refine AW.icmp_ge (pc := 17) 33 dX12_tellComes_17 (by decide) (fun h1 => ?_) (fun h1 => ?_)
  · refine AW.iconst (pc := 33) dX12_tellComes_33 ci_0 ?_
    refine AW.istore_n (pc := 34) [1, 2, 3, 0] [(0, .ref (ad E this)), (1, .int x1), (2, .int x2), (3, .int 0)] dX12_tellComes_34 rfl (by decide) rfl ?_
    exact kX12_tellComes_L35 l E n hn ct hct ex FU this x1 x2 0 M hthis
  · refine AW.aload_n (pc := 20) dX12_tellComes_20 rfl 0 rfl ?_
    refine AW.chk (fun g2 => ?_)
    refine AW.getR (pc := 21) dX12_tellComes_21 flX12_109 hthis (kct hthis rfl hct) g2 ?_
    refine AW.iload_n (pc := 24) dX12_tellComes_24 rfl 3 rfl ?_
    refine AW.iconst (pc := 25) dX12_tellComes_25 ci_0 ?_
    refine AW.chk (fun g3 => ?_)
    refine AW.zast (pc := 26) dX12_tellComes_26 (k0e g3.1) (kct (k0e g3.1) rfl hct) g3.2 ?_
    refine AW.genM (fun M4 => ?_)
    refine AW.iinc (pc := 27) (w := 3) [1, 2, 3, 0] [(0, .ref (ad E this)), (1, .int x1), (2, .int x2), (3, .int (x3 + 1))] dX12_tellComes_27 rfl (inc_1 _) (by decide) rfl ?_
    refine AW.goto (pc := 30) 13 dX12_tellComes_30 (by decide) ?_
    exact hKK13 this x1 x2 (x3 + 1) M4 hthis
set_option maxRecDepth 20000 in
set_option maxHeartbeats 4000000 in
theorem kX12_tellComes_L13 (l : Launch) (E : Ev) (n : Nat) (hn : 11 ≤ n) (ct : Nat) (hct : 111 ≤ ct) (ex : Bool) (k : Nat) : ∀ (this : Nat) (x1 : Int32) (x2 : Int32) (x3 : Int32) (M : Mem) (_ : K0 this = (0, 12)), AW l E fX12_tellComes (fun _ => rmN n 0 0) (PQr E 0 0 ct ex enU) ct ex 0 0 13 [(0, .ref (ad E this)), (1, .int x1), (2, .int x2), (3, .int x3)] [] M (zX12_tellComes_L13 k this x1 x2 x3 M) := by
  induction k with
  | zero => intro this x1 x2 x3 M _; exact AW.none
  | succ k ih =>
    intro this x1 x2 x3 M hthis
    exact kX12_tellComes_B13 l E n hn ct hct ex (zX12_tellComes_L13 k) ih this x1 x2 x3 M hthis
set_option maxRecDepth 20000 in
set_option maxHeartbeats 4000000 in
theorem kX12_tellComes (l : Launch) (E : Ev) (n : Nat) (hn : 11 ≤ n) (ct : Nat) (hct : 111 ≤ ct) (ex : Bool) (this : Nat) (x1 : Int32) (M : Mem) : AM l E n ct ex yX12_tellComes fX12_tellComes enU [.ref (ad E this), .int x1] M (zX12_tellComes this x1 M) := by
  unfold zX12_tellComes
  refine AM.of (by decide +kernel) ⟨rfl, rfl, rfl⟩ (Nat.le_of_ble_eq_true rfl) ?_
  refine AW.chk (fun hthis => ?_)
  refine AW.aload_n (pc := 0) dX12_tellComes_0 rfl 0 rfl ?_
  refine AW.iload_n (pc := 1) dX12_tellComes_1 rfl 1 rfl ?_
  refine AW.cV1i (pc := 2) dX12_tellComes_2 mlX12_170 mbX12_statesOf rfl hthis (kct hthis rfl hct) (fun _ => okR_N (by omega)) (kX12_statesOf l E (n - 1) (by omega) ct hct ex this x1 M) (Nat.le_of_ble_eq_true rfl) (fun v1 M2 => ?_)
  refine AW.istore_n (pc := 5) [1, 2, 0] [(0, .ref (ad E this)), (1, .int x1), (2, .int v1)] dX12_tellComes_5 rfl (by decide) rfl ?_
  refine AW.aload_n (pc := 6) dX12_tellComes_6 rfl 0 rfl ?_
  refine AW.iload_n (pc := 7) dX12_tellComes_7 rfl 1 rfl ?_
  refine AW.cV1v (pc := 8) dX12_tellComes_8 mlX12_358 mbX12_tellGifts rfl hthis (kct hthis rfl hct) (fun _ => okR_N (by omega)) (kX12_tellGifts l E (n - 1) (by omega) ct hct ex this x1 M2) (Nat.le_of_ble_eq_true rfl) (fun _ M3 => ?_)
  refine AW.iconst (pc := 11) dX12_tellComes_11 ci_0 ?_
  refine AW.istore_n (pc := 12) [1, 2, 3, 0] [(0, .ref (ad E this)), (1, .int x1), (2, .int v1), (3, .int 0)] dX12_tellComes_12 rfl (by decide) rfl ?_
  exact kX12_tellComes_L13 l E n hn ct hct ex FU this x1 v1 0 M3 hthis
-- GateBoxModel.isRest(II)Z
def zX12_isRest_B70 (KK23 : Nat → Int32 → Int32 → Int32 → Mem → Option (Int32 × Mem)) (this : Nat) (x1 : Int32) (x2 : Int32) (x3 : Int32) (M : Mem) : Option (Int32 × Mem) :=
  KK23 this x1 x2 (x3 + 1) M
def zX12_isRest_B23 (KK23 : Nat → Int32 → Int32 → Int32 → Mem → Option (Int32 × Mem)) (this : Nat) (x1 : Int32) (x2 : Int32) (x3 : Int32) (M : Mem) : Option (Int32 × Mem) :=
  bnd (zX12_statesOf this x1 M) fun v1 M2 =>
  if v1 ≤ x3 then
    some (1, M2)
  else
    if mR M2 this 38 ≠ 0 then
    if (K0 (mR M2 this 38)).1 = 3 ∧ inb ((100 * x2) + x3) (K0 (mR M2 this 38)).2 = true then
    if (mI M2 (mR M2 this 38) (Int32.toNatClampNeg ((100 * x2) + x3))) = 0 then
      zX12_isRest_B70 KK23 this x1 x2 x3 M2
    else
      if inb ((100 * x3) + x2) (K0 (mR M2 this 38)).2 = true then
      if (mI M2 (mR M2 this 38) (Int32.toNatClampNeg ((100 * x3) + x2))) = 0 then
        some (0, M2)
      else
        if x2 ≤ x3 then
          zX12_isRest_B70 KK23 this x1 x2 x3 M2
        else
          some (0, M2)
      else none
    else none
    else none
def zX12_isRest_L23 : Nat → Nat → Int32 → Int32 → Int32 → Mem → Option (Int32 × Mem)
  | 0 => fun _ _ _ _ _ => none
  | k + 1 => zX12_isRest_B23 (zX12_isRest_L23 k)
def zX12_isRest (this : Nat) (x1 : Int32) (x2 : Int32) (M : Mem) : Option (Int32 × Mem) :=
  if K0 this = (0, 12) then
  if mR M this 38 ≠ 0 then
  if mR M this 11 ≠ 0 then
  if (K0 (mR M this 11)).1 = 1 ∧ inb x1 (K0 (mR M this 11)).2 = true then
  if (K0 (mR M this 38)).1 = 3 ∧ inb ((100 * (mI M (mR M this 11) (Int32.toNatClampNeg x1))) + x2) (K0 (mR M this 38)).2 = true then
  if (mI M (mR M this 38) (Int32.toNatClampNeg ((100 * (mI M (mR M this 11) (Int32.toNatClampNeg x1))) + x2))) = 0 then
    some (0, M)
  else
    zX12_isRest_L23 FU this x1 x2 0 M
  else none
  else none
  else none
  else none
  else none
set_option maxRecDepth 20000 in
set_option maxHeartbeats 4000000 in
theorem kX12_isRest_B70 (l : Launch) (E : Ev) (n : Nat) (hn : 2 ≤ n) (ct : Nat) (hct : 111 ≤ ct) (ex : Bool) (KK23 : Nat → Int32 → Int32 → Int32 → Mem → Option (Int32 × Mem)) (hKK23 : ∀ (this : Nat) (x1 : Int32) (x2 : Int32) (x3 : Int32) (M : Mem) (_ : K0 this = (0, 12)), AW l E fX12_isRest (fun _ => rmN n 0 0) (PQr E 0 0 ct ex enI) ct ex 0 0 23 [(0, .ref (ad E this)), (1, .int x1), (2, .int x2), (3, .int x3)] [] M (KK23 this x1 x2 x3 M)) (this : Nat) (x1 : Int32) (x2 : Int32) (x3 : Int32) (M : Mem) (hthis : K0 this = (0, 12)) : AW l E fX12_isRest (fun _ => rmN n 0 0) (PQr E 0 0 ct ex enI) ct ex 0 0 70 [(0, .ref (ad E this)), (1, .int x1), (2, .int x2), (3, .int x3)] [] M (zX12_isRest_B70 KK23 this x1 x2 x3 M) := by
  unfold zX12_isRest_B70
  refine AW.iinc (pc := 70) (w := 3) [1, 2, 3, 0] [(0, .ref (ad E this)), (1, .int x1), (2, .int x2), (3, .int (x3 + 1))] dX12_isRest_70 rfl (inc_1 _) (by decide) rfl ?_
  refine AW.goto (pc := 73) 23 dX12_isRest_73 (by decide) ?_
  exact hKK23 this x1 x2 (x3 + 1) M hthis
set_option maxRecDepth 20000 in
set_option maxHeartbeats 4000000 in
theorem kX12_isRest_B23 (l : Launch) (E : Ev) (n : Nat) (hn : 2 ≤ n) (ct : Nat) (hct : 111 ≤ ct) (ex : Bool) (KK23 : Nat → Int32 → Int32 → Int32 → Mem → Option (Int32 × Mem)) (hKK23 : ∀ (this : Nat) (x1 : Int32) (x2 : Int32) (x3 : Int32) (M : Mem) (_ : K0 this = (0, 12)), AW l E fX12_isRest (fun _ => rmN n 0 0) (PQr E 0 0 ct ex enI) ct ex 0 0 23 [(0, .ref (ad E this)), (1, .int x1), (2, .int x2), (3, .int x3)] [] M (KK23 this x1 x2 x3 M)) (this : Nat) (x1 : Int32) (x2 : Int32) (x3 : Int32) (M : Mem) (hthis : K0 this = (0, 12)) : AW l E fX12_isRest (fun _ => rmN n 0 0) (PQr E 0 0 ct ex enI) ct ex 0 0 23 [(0, .ref (ad E this)), (1, .int x1), (2, .int x2), (3, .int x3)] [] M (zX12_isRest_B23 KK23 this x1 x2 x3 M) := by
  unfold zX12_isRest_B23
  refine AW.iload_n (pc := 23) dX12_isRest_23 rfl 3 rfl ?_
  refine AW.aload_n (pc := 24) dX12_isRest_24 rfl 0 rfl ?_
  refine AW.iload_n (pc := 25) dX12_isRest_25 rfl 1 rfl ?_
  refine AW.cV1i (pc := 26) dX12_isRest_26 mlX12_170 mbX12_statesOf rfl hthis (kct hthis rfl hct) (fun _ => okR_N (by omega)) (kX12_statesOf l E (n - 1) (by omega) ct hct ex this x1 M) (Nat.le_of_ble_eq_true rfl) (fun v1 M2 => ?_)
  refine AW.icmp_ge (pc := 29) 76 dX12_isRest_29 (by decide) (fun h3 => ?_) (fun h3 => ?_)
  · refine AW.iconst (pc := 76) dX12_isRest_76 ci_1 ?_
    exact AW.zret (pc := 77) dX12_isRest_77 rfl (Or.inr rfl) (fun _ _ _ => rfl) (Nat.le_refl _) (Nat.le_refl _)
  · refine AW.aload_n (pc := 32) dX12_isRest_32 rfl 0 rfl ?_
    refine AW.chk (fun g4 => ?_)
    refine AW.getR (pc := 33) dX12_isRest_33 flX12_109 hthis (kct hthis rfl hct) g4 ?_
    refine AW.bipush (pc := 36) dX12_isRest_36 cb_100 ?_
    refine AW.iload_n (pc := 38) dX12_isRest_38 rfl 2 rfl ?_
    refine AW.imul (pc := 39) dX12_isRest_39 ?_
    refine AW.iload_n (pc := 40) dX12_isRest_40 rfl 3 rfl ?_
    refine AW.iadd (pc := 41) dX12_isRest_41 ?_
    refine AW.chk (fun g5 => ?_)
    refine AW.zald (pc := 42) dX12_isRest_42 (k0e g5.1) (kct (k0e g5.1) rfl hct) g5.2 ?_
    refine AW.if_ne (pc := 43) 49 dX12_isRest_43 (by decide) (fun h6 => ?_) (fun h6 => ?_)
    · refine AW.goto (pc := 46) 70 dX12_isRest_46 (by decide) ?_
      exact kX12_isRest_B70 l E n hn ct hct ex KK23 hKK23 this x1 x2 x3 M2 hthis
    · refine AW.aload_n (pc := 49) dX12_isRest_49 rfl 0 rfl ?_
      refine AW.getR (pc := 50) dX12_isRest_50 flX12_109 hthis (kct hthis rfl hct) g4 ?_
      refine AW.bipush (pc := 53) dX12_isRest_53 cb_100 ?_
      refine AW.iload_n (pc := 55) dX12_isRest_55 rfl 3 rfl ?_
      refine AW.imul (pc := 56) dX12_isRest_56 ?_
      refine AW.iload_n (pc := 57) dX12_isRest_57 rfl 2 rfl ?_
      refine AW.iadd (pc := 58) dX12_isRest_58 ?_
      refine AW.chk (fun g7 => ?_)
      refine AW.zald (pc := 59) dX12_isRest_59 (k0e g5.1) (kct (k0e g5.1) rfl hct) g7 ?_
      refine AW.if_eq (pc := 60) 68 dX12_isRest_60 (by decide) (fun h8 => ?_) (fun h8 => ?_)
      · refine AW.iconst (pc := 68) dX12_isRest_68 ci_0 ?_
        exact AW.zret (pc := 69) dX12_isRest_69 rfl (Or.inl rfl) (fun _ _ _ => rfl) (Nat.le_refl _) (Nat.le_refl _)
      · refine AW.iload_n (pc := 63) dX12_isRest_63 rfl 3 rfl ?_
        refine AW.iload_n (pc := 64) dX12_isRest_64 rfl 2 rfl ?_
        refine AW.icmp_ge (pc := 65) 70 dX12_isRest_65 (by decide) (fun h9 => ?_) (fun h9 => ?_)
        · exact kX12_isRest_B70 l E n hn ct hct ex KK23 hKK23 this x1 x2 x3 M2 hthis
        · refine AW.iconst (pc := 68) dX12_isRest_68 ci_0 ?_
          exact AW.zret (pc := 69) dX12_isRest_69 rfl (Or.inl rfl) (fun _ _ _ => rfl) (Nat.le_refl _) (Nat.le_refl _)
set_option maxRecDepth 20000 in
set_option maxHeartbeats 4000000 in
theorem kX12_isRest_L23 (l : Launch) (E : Ev) (n : Nat) (hn : 2 ≤ n) (ct : Nat) (hct : 111 ≤ ct) (ex : Bool) (k : Nat) : ∀ (this : Nat) (x1 : Int32) (x2 : Int32) (x3 : Int32) (M : Mem) (_ : K0 this = (0, 12)), AW l E fX12_isRest (fun _ => rmN n 0 0) (PQr E 0 0 ct ex enI) ct ex 0 0 23 [(0, .ref (ad E this)), (1, .int x1), (2, .int x2), (3, .int x3)] [] M (zX12_isRest_L23 k this x1 x2 x3 M) := by
  induction k with
  | zero => intro this x1 x2 x3 M _; exact AW.none
  | succ k ih =>
    intro this x1 x2 x3 M hthis
    exact kX12_isRest_B23 l E n hn ct hct ex (zX12_isRest_L23 k) ih this x1 x2 x3 M hthis
set_option maxRecDepth 20000 in
set_option maxHeartbeats 4000000 in
theorem kX12_isRest (l : Launch) (E : Ev) (n : Nat) (hn : 2 ≤ n) (ct : Nat) (hct : 111 ≤ ct) (ex : Bool) (this : Nat) (x1 : Int32) (x2 : Int32) (M : Mem) : AM l E n ct ex yX12_isRest fX12_isRest enI [.ref (ad E this), .int x1, .int x2] M (zX12_isRest this x1 x2 M) := by
  unfold zX12_isRest
  refine AM.of (by decide +kernel) ⟨rfl, rfl, rfl⟩ (Nat.le_of_ble_eq_true rfl) ?_
  refine AW.chk (fun hthis => ?_)
  refine AW.aload_n (pc := 0) dX12_isRest_0 rfl 0 rfl ?_
  refine AW.chk (fun g1 => ?_)
  refine AW.getR (pc := 1) dX12_isRest_1 flX12_109 hthis (kct hthis rfl hct) g1 ?_
  refine AW.bipush (pc := 4) dX12_isRest_4 cb_100 ?_
  refine AW.aload_n (pc := 6) dX12_isRest_6 rfl 0 rfl ?_
  refine AW.chk (fun g2 => ?_)
  refine AW.getR (pc := 7) dX12_isRest_7 flX12_65 hthis (kct hthis rfl hct) g2 ?_
  refine AW.iload_n (pc := 10) dX12_isRest_10 rfl 1 rfl ?_
  refine AW.chk (fun g3 => ?_)
  refine AW.iald (pc := 11) dX12_isRest_11 (k0e g3.1) (kct (k0e g3.1) rfl hct) g3.2 ?_
  refine AW.imul (pc := 12) dX12_isRest_12 ?_
  refine AW.iload_n (pc := 13) dX12_isRest_13 rfl 2 rfl ?_
  refine AW.iadd (pc := 14) dX12_isRest_14 ?_
  refine AW.chk (fun g4 => ?_)
  refine AW.zald (pc := 15) dX12_isRest_15 (k0e g4.1) (kct (k0e g4.1) rfl hct) g4.2 ?_
  refine AW.if_ne (pc := 16) 21 dX12_isRest_16 (by decide) (fun h5 => ?_) (fun h5 => ?_)
  · refine AW.iconst (pc := 19) dX12_isRest_19 ci_0 ?_
    exact AW.zret (pc := 20) dX12_isRest_20 rfl (Or.inl rfl) (fun _ _ _ => rfl) (Nat.le_refl _) (Nat.le_refl _)
  · refine AW.iconst (pc := 21) dX12_isRest_21 ci_0 ?_
    refine AW.istore_n (pc := 22) [1, 2, 3, 0] [(0, .ref (ad E this)), (1, .int x1), (2, .int x2), (3, .int 0)] dX12_isRest_22 rfl (by decide) rfl ?_
    exact kX12_isRest_L23 l E n hn ct hct ex FU this x1 x2 0 M hthis
-- GateBoxModel.rest(III)I
def zX12_rest_B178 (KK145 : Nat → Int32 → Int32 → Int32 → Int32 → Int32 → Mem → Option (Int32 × Mem)) (this : Nat) (x1 : Int32) (x3 : Int32) (x5 : Int32) (x7 : Int32) (s0 : Int32) (s1 : Int32) (M : Mem) : Option (Int32 × Mem) :=
  lt (s0 + s1) fun v1 =>
  KK145 this x1 x3 x5 v1 (x7 + 1) M
def zX12_rest_B145 (KK145 : Nat → Int32 → Int32 → Int32 → Int32 → Int32 → Mem → Option (Int32 × Mem)) (this : Nat) (x1 : Int32) (x3 : Int32) (x5 : Int32) (x6 : Int32) (x7 : Int32) (M : Mem) : Option (Int32 × Mem) :=
  bnd (zX12_statesOf this x1 M) fun v1 M2 =>
  if v1 ≤ x7 then
    if x3 = 0 then
      some (x5, M2)
    else
      some (x6, M2)
  else
    if mR M2 this 38 ≠ 0 then
    if (K0 (mR M2 this 38)).1 = 3 ∧ inb ((100 * x5) + x7) (K0 (mR M2 this 38)).2 = true then
    if (mI M2 (mR M2 this 38) (Int32.toNatClampNeg ((100 * x5) + x7))) = 0 then
      zX12_rest_B178 KK145 this x1 x3 x5 x7 x6 0 M2
    else
      zX12_rest_B178 KK145 this x1 x3 x5 x7 x6 1 M2
    else none
    else none
def zX12_rest_L145 : Nat → Nat → Int32 → Int32 → Int32 → Int32 → Int32 → Mem → Option (Int32 × Mem)
  | 0 => fun _ _ _ _ _ _ _ => none
  | k + 1 => zX12_rest_B145 (zX12_rest_L145 k)
def zX12_rest_B82 (KK46 : Nat → Int32 → Int32 → Int32 → Int32 → Int32 → Int32 → Mem → Option (Int32 × Mem)) (this : Nat) (x1 : Int32) (x2 : Int32) (x3 : Int32) (x4 : Int32) (x5 : Int32) (x6 : Int32) (M : Mem) : Option (Int32 × Mem) :=
  KK46 this x1 x2 x3 x4 x5 (x6 + 1) M
def zX12_rest_B79 (KK46 : Nat → Int32 → Int32 → Int32 → Int32 → Int32 → Int32 → Mem → Option (Int32 × Mem)) (this : Nat) (x1 : Int32) (x2 : Int32) (x3 : Int32) (x4 : Int32) (x5 : Int32) (x6 : Int32) (M : Mem) : Option (Int32 × Mem) :=
  zX12_rest_B82 KK46 this x1 x2 x3 (x4 + 1) x5 x6 M
def zX12_rest_B46 (KK46 : Nat → Int32 → Int32 → Int32 → Int32 → Int32 → Int32 → Mem → Option (Int32 × Mem)) (this : Nat) (x1 : Int32) (x2 : Int32) (x3 : Int32) (x4 : Int32) (x5 : Int32) (x6 : Int32) (M : Mem) : Option (Int32 × Mem) :=
  bnd (zX12_statesOf this x1 M) fun v1 M2 =>
  if v1 ≤ x6 then
    if x2 = (-1) then
      some (x4, M2)
    else
      if x5 = (-1) then
        bnd (zX12_fail this 1 M2) fun v6 M7 =>
        some (v6, M7)
      else
        if x3 = 2 then
          bnd (zX12_coinOf this x1 x5 400 M2) fun v9 M10 =>
          bnd (zX12_coinOf this x1 x5 200 M10) fun v11 M12 =>
          some ((v9 - v11) / 200, M12)
        else
          zX12_rest_L145 FU this x1 x3 x5 0 0 M2
  else
    bnd (zX12_isRest this x1 x6 M2) fun v13 M14 =>
    if v13 = 0 then
      zX12_rest_B82 KK46 this x1 x2 x3 x4 x5 x6 M14
    else
      if x4 = x2 then
        zX12_rest_B79 KK46 this x1 x2 x3 x4 x6 x6 M14
      else
        zX12_rest_B79 KK46 this x1 x2 x3 x4 x5 x6 M14
def zX12_rest_L46 : Nat → Nat → Int32 → Int32 → Int32 → Int32 → Int32 → Int32 → Mem → Option (Int32 × Mem)
  | 0 => fun _ _ _ _ _ _ _ _ => none
  | k + 1 => zX12_rest_B46 (zX12_rest_L46 k)
def zX12_rest_B26 (this : Nat) (M : Mem) : Option (Int32 × Mem) :=
  bnd (zX12_fail this 1 M) fun v1 M2 =>
  some (v1, M2)
def zX12_rest (this : Nat) (x1 : Int32) (x2 : Int32) (x3 : Int32) (M : Mem) : Option (Int32 × Mem) :=
  if K0 this = (0, 12) then
  lt (sI M this 2 0) fun M1 =>
  bnd (zX12_isGate x1 M1) fun v2 M3 =>
  if v2 = 0 then
    zX12_rest_B26 this M3
  else
    bnd (zX12_isIn x3 0 2 M3) fun v5 M6 =>
    if v5 = 0 then
      zX12_rest_B26 this M6
    else
      if (-1) ≤ x2 then
        bnd (zX12_tellComes this x1 M6) fun _ M9 =>
        zX12_rest_L46 FU this x1 x2 x3 0 (-1) 0 M9
      else
        zX12_rest_B26 this M6
  else none
set_option maxRecDepth 20000 in
set_option maxHeartbeats 4000000 in
theorem kX12_rest_B178 (l : Launch) (E : Ev) (n : Nat) (hn : 13 ≤ n) (ct : Nat) (hct : 111 ≤ ct) (ex : Bool) (KK145 : Nat → Int32 → Int32 → Int32 → Int32 → Int32 → Mem → Option (Int32 × Mem)) (hKK145 : ∀ (this : Nat) (x1 : Int32) (x3 : Int32) (x5 : Int32) (x6 : Int32) (x7 : Int32) (M : Mem) (_ : K0 this = (0, 12)), AW l E fX12_rest (fun _ => rmN n 0 0) (PQr E 0 0 ct ex enI) ct ex 0 0 145 [(0, .ref (ad E this)), (1, .int x1), (3, .int x3), (5, .int x5), (6, .int x6), (7, .int x7)] [] M (KK145 this x1 x3 x5 x6 x7 M)) (this : Nat) (x1 : Int32) (x3 : Int32) (x5 : Int32) (x7 : Int32) (s0 : Int32) (s1 : Int32) (M : Mem) (hthis : K0 this = (0, 12)) : AW l E fX12_rest (fun _ => rmN n 0 0) (PQr E 0 0 ct ex enI) ct ex 0 0 178 [(0, .ref (ad E this)), (1, .int x1), (3, .int x3), (5, .int x5), (7, .int x7)] [.int s1, .int s0] M (zX12_rest_B178 KK145 this x1 x3 x5 x7 s0 s1 M) := by
  unfold zX12_rest_B178
  refine AW.iadd (pc := 178) dX12_rest_178 ?_
  refine AW.genI (fun v1 => ?_)
  refine AW.istore (pc := 179) [1, 2, 3, 4, 0, 5] [(0, .ref (ad E this)), (1, .int x1), (3, .int x3), (5, .int x5), (6, .int v1), (7, .int x7)] dX12_rest_179 (by decide) rfl ?_
  refine AW.iinc (pc := 181) (w := 5) [1, 2, 3, 4, 5, 0] [(0, .ref (ad E this)), (1, .int x1), (3, .int x3), (5, .int x5), (6, .int v1), (7, .int (x7 + 1))] dX12_rest_181 rfl (inc_1 _) (by decide) rfl ?_
  refine AW.goto (pc := 184) 145 dX12_rest_184 (by decide) ?_
  exact hKK145 this x1 x3 x5 v1 (x7 + 1) M hthis
set_option maxRecDepth 20000 in
set_option maxHeartbeats 4000000 in
theorem kX12_rest_B145 (l : Launch) (E : Ev) (n : Nat) (hn : 13 ≤ n) (ct : Nat) (hct : 111 ≤ ct) (ex : Bool) (KK145 : Nat → Int32 → Int32 → Int32 → Int32 → Int32 → Mem → Option (Int32 × Mem)) (hKK145 : ∀ (this : Nat) (x1 : Int32) (x3 : Int32) (x5 : Int32) (x6 : Int32) (x7 : Int32) (M : Mem) (_ : K0 this = (0, 12)), AW l E fX12_rest (fun _ => rmN n 0 0) (PQr E 0 0 ct ex enI) ct ex 0 0 145 [(0, .ref (ad E this)), (1, .int x1), (3, .int x3), (5, .int x5), (6, .int x6), (7, .int x7)] [] M (KK145 this x1 x3 x5 x6 x7 M)) (this : Nat) (x1 : Int32) (x3 : Int32) (x5 : Int32) (x6 : Int32) (x7 : Int32) (M : Mem) (hthis : K0 this = (0, 12)) : AW l E fX12_rest (fun _ => rmN n 0 0) (PQr E 0 0 ct ex enI) ct ex 0 0 145 [(0, .ref (ad E this)), (1, .int x1), (3, .int x3), (5, .int x5), (6, .int x6), (7, .int x7)] [] M (zX12_rest_B145 KK145 this x1 x3 x5 x6 x7 M) := by
  unfold zX12_rest_B145
  refine AW.iload (pc := 145) dX12_rest_145 5 rfl ?_
  refine AW.aload_n (pc := 147) dX12_rest_147 rfl 0 rfl ?_
  refine AW.iload_n (pc := 148) dX12_rest_148 rfl 1 rfl ?_
  refine AW.cV1i (pc := 149) dX12_rest_149 mlX12_170 mbX12_statesOf rfl hthis (kct hthis rfl hct) (fun _ => okR_N (by omega)) (kX12_statesOf l E (n - 1) (by omega) ct hct ex this x1 M) (Nat.le_of_ble_eq_true rfl) (fun v1 M2 => ?_)
  refine AW.icmp_ge (pc := 152) 187 dX12_rest_152 (by decide) (fun h3 => ?_) (fun h3 => ?_)
  · refine AW.iload_n (pc := 187) dX12_rest_187 rfl 2 rfl ?_
    refine AW.if_ne (pc := 188) 196 dX12_rest_188 (by decide) (fun h4 => ?_) (fun h4 => ?_)
    · refine AW.iload (pc := 191) dX12_rest_191 3 rfl ?_
      refine AW.goto (pc := 193) 198 dX12_rest_193 (by decide) ?_
      exact AW.iret (pc := 198) dX12_rest_198 rfl (fun _ _ _ => rfl) (Nat.le_refl _) (Nat.le_refl _)
    · refine AW.iload (pc := 196) dX12_rest_196 4 rfl ?_
      exact AW.iret (pc := 198) dX12_rest_198 rfl (fun _ _ _ => rfl) (Nat.le_refl _) (Nat.le_refl _)
  · refine AW.iload (pc := 155) dX12_rest_155 4 rfl ?_
    refine AW.aload_n (pc := 157) dX12_rest_157 rfl 0 rfl ?_
    refine AW.chk (fun g5 => ?_)
    refine AW.getR (pc := 158) dX12_rest_158 flX12_109 hthis (kct hthis rfl hct) g5 ?_
    refine AW.bipush (pc := 161) dX12_rest_161 cb_100 ?_
    refine AW.iload (pc := 163) dX12_rest_163 3 rfl ?_
    refine AW.imul (pc := 165) dX12_rest_165 ?_
    refine AW.iload (pc := 166) dX12_rest_166 5 rfl ?_
    refine AW.iadd (pc := 168) dX12_rest_168 ?_
    refine AW.chk (fun g6 => ?_)
    refine AW.zald (pc := 169) dX12_rest_169 (k0e g6.1) (kct (k0e g6.1) rfl hct) g6.2 ?_
    refine AW.if_eq (pc := 170) 177 dX12_rest_170 (by decide) (fun h7 => ?_) (fun h7 => ?_)
    · refine AW.iconst (pc := 177) dX12_rest_177 ci_0 ?_
      exact AW.sub [0, 1, 2, 3, 5] rfl (kX12_rest_B178 l E n hn ct hct ex KK145 hKK145 this x1 x3 x5 x7 x6 0 M2 hthis)
    · refine AW.iconst (pc := 173) dX12_rest_173 ci_1 ?_
      refine AW.goto (pc := 174) 178 dX12_rest_174 (by decide) ?_
      exact AW.sub [0, 1, 2, 3, 5] rfl (kX12_rest_B178 l E n hn ct hct ex KK145 hKK145 this x1 x3 x5 x7 x6 1 M2 hthis)
set_option maxRecDepth 20000 in
set_option maxHeartbeats 4000000 in
theorem kX12_rest_L145 (l : Launch) (E : Ev) (n : Nat) (hn : 13 ≤ n) (ct : Nat) (hct : 111 ≤ ct) (ex : Bool) (k : Nat) : ∀ (this : Nat) (x1 : Int32) (x3 : Int32) (x5 : Int32) (x6 : Int32) (x7 : Int32) (M : Mem) (_ : K0 this = (0, 12)), AW l E fX12_rest (fun _ => rmN n 0 0) (PQr E 0 0 ct ex enI) ct ex 0 0 145 [(0, .ref (ad E this)), (1, .int x1), (3, .int x3), (5, .int x5), (6, .int x6), (7, .int x7)] [] M (zX12_rest_L145 k this x1 x3 x5 x6 x7 M) := by
  induction k with
  | zero => intro this x1 x3 x5 x6 x7 M _; exact AW.none
  | succ k ih =>
    intro this x1 x3 x5 x6 x7 M hthis
    exact kX12_rest_B145 l E n hn ct hct ex (zX12_rest_L145 k) ih this x1 x3 x5 x6 x7 M hthis
set_option maxRecDepth 20000 in
set_option maxHeartbeats 4000000 in
theorem kX12_rest_B82 (l : Launch) (E : Ev) (n : Nat) (hn : 13 ≤ n) (ct : Nat) (hct : 111 ≤ ct) (ex : Bool) (KK46 : Nat → Int32 → Int32 → Int32 → Int32 → Int32 → Int32 → Mem → Option (Int32 × Mem)) (hKK46 : ∀ (this : Nat) (x1 : Int32) (x2 : Int32) (x3 : Int32) (x4 : Int32) (x5 : Int32) (x6 : Int32) (M : Mem) (_ : K0 this = (0, 12)), AW l E fX12_rest (fun _ => rmN n 0 0) (PQr E 0 0 ct ex enI) ct ex 0 0 46 [(0, .ref (ad E this)), (1, .int x1), (2, .int x2), (3, .int x3), (4, .int x4), (5, .int x5), (6, .int x6)] [] M (KK46 this x1 x2 x3 x4 x5 x6 M)) (this : Nat) (x1 : Int32) (x2 : Int32) (x3 : Int32) (x4 : Int32) (x5 : Int32) (x6 : Int32) (M : Mem) (hthis : K0 this = (0, 12)) : AW l E fX12_rest (fun _ => rmN n 0 0) (PQr E 0 0 ct ex enI) ct ex 0 0 82 [(0, .ref (ad E this)), (1, .int x1), (2, .int x2), (3, .int x3), (4, .int x4), (5, .int x5), (6, .int x6)] [] M (zX12_rest_B82 KK46 this x1 x2 x3 x4 x5 x6 M) := by
  unfold zX12_rest_B82
  refine AW.iinc (pc := 82) (w := 6) [1, 2, 3, 4, 5, 6, 0] [(0, .ref (ad E this)), (1, .int x1), (2, .int x2), (3, .int x3), (4, .int x4), (5, .int x5), (6, .int (x6 + 1))] dX12_rest_82 rfl (inc_1 _) (by decide) rfl ?_
  refine AW.goto (pc := 85) 46 dX12_rest_85 (by decide) ?_
  exact hKK46 this x1 x2 x3 x4 x5 (x6 + 1) M hthis
set_option maxRecDepth 20000 in
set_option maxHeartbeats 4000000 in
theorem kX12_rest_B79 (l : Launch) (E : Ev) (n : Nat) (hn : 13 ≤ n) (ct : Nat) (hct : 111 ≤ ct) (ex : Bool) (KK46 : Nat → Int32 → Int32 → Int32 → Int32 → Int32 → Int32 → Mem → Option (Int32 × Mem)) (hKK46 : ∀ (this : Nat) (x1 : Int32) (x2 : Int32) (x3 : Int32) (x4 : Int32) (x5 : Int32) (x6 : Int32) (M : Mem) (_ : K0 this = (0, 12)), AW l E fX12_rest (fun _ => rmN n 0 0) (PQr E 0 0 ct ex enI) ct ex 0 0 46 [(0, .ref (ad E this)), (1, .int x1), (2, .int x2), (3, .int x3), (4, .int x4), (5, .int x5), (6, .int x6)] [] M (KK46 this x1 x2 x3 x4 x5 x6 M)) (this : Nat) (x1 : Int32) (x2 : Int32) (x3 : Int32) (x4 : Int32) (x5 : Int32) (x6 : Int32) (M : Mem) (hthis : K0 this = (0, 12)) : AW l E fX12_rest (fun _ => rmN n 0 0) (PQr E 0 0 ct ex enI) ct ex 0 0 79 [(0, .ref (ad E this)), (1, .int x1), (2, .int x2), (3, .int x3), (4, .int x4), (5, .int x5), (6, .int x6)] [] M (zX12_rest_B79 KK46 this x1 x2 x3 x4 x5 x6 M) := by
  unfold zX12_rest_B79
  refine AW.iinc (pc := 79) (w := 4) [1, 2, 3, 4, 0, 5, 6] [(0, .ref (ad E this)), (1, .int x1), (2, .int x2), (3, .int x3), (4, .int (x4 + 1)), (5, .int x5), (6, .int x6)] dX12_rest_79 rfl (inc_1 _) (by decide) rfl ?_
  exact kX12_rest_B82 l E n hn ct hct ex KK46 hKK46 this x1 x2 x3 (x4 + 1) x5 x6 M hthis
set_option maxRecDepth 20000 in
set_option maxHeartbeats 4000000 in
theorem kX12_rest_B46 (l : Launch) (E : Ev) (n : Nat) (hn : 13 ≤ n) (ct : Nat) (hct : 111 ≤ ct) (ex : Bool) (KK46 : Nat → Int32 → Int32 → Int32 → Int32 → Int32 → Int32 → Mem → Option (Int32 × Mem)) (hKK46 : ∀ (this : Nat) (x1 : Int32) (x2 : Int32) (x3 : Int32) (x4 : Int32) (x5 : Int32) (x6 : Int32) (M : Mem) (_ : K0 this = (0, 12)), AW l E fX12_rest (fun _ => rmN n 0 0) (PQr E 0 0 ct ex enI) ct ex 0 0 46 [(0, .ref (ad E this)), (1, .int x1), (2, .int x2), (3, .int x3), (4, .int x4), (5, .int x5), (6, .int x6)] [] M (KK46 this x1 x2 x3 x4 x5 x6 M)) (this : Nat) (x1 : Int32) (x2 : Int32) (x3 : Int32) (x4 : Int32) (x5 : Int32) (x6 : Int32) (M : Mem) (hthis : K0 this = (0, 12)) : AW l E fX12_rest (fun _ => rmN n 0 0) (PQr E 0 0 ct ex enI) ct ex 0 0 46 [(0, .ref (ad E this)), (1, .int x1), (2, .int x2), (3, .int x3), (4, .int x4), (5, .int x5), (6, .int x6)] [] M (zX12_rest_B46 KK46 this x1 x2 x3 x4 x5 x6 M) := by
  unfold zX12_rest_B46
  refine AW.iload (pc := 46) dX12_rest_46 6 rfl ?_
  refine AW.aload_n (pc := 48) dX12_rest_48 rfl 0 rfl ?_
  refine AW.iload_n (pc := 49) dX12_rest_49 rfl 1 rfl ?_
  refine AW.cV1i (pc := 50) dX12_rest_50 mlX12_170 mbX12_statesOf rfl hthis (kct hthis rfl hct) (fun _ => okR_N (by omega)) (kX12_statesOf l E (n - 1) (by omega) ct hct ex this x1 M) (Nat.le_of_ble_eq_true rfl) (fun v1 M2 => ?_)
  refine AW.icmp_ge (pc := 53) 88 dX12_rest_53 (by decide) (fun h3 => ?_) (fun h3 => ?_)
  · refine AW.iload_n (pc := 88) dX12_rest_88 rfl 2 rfl ?_
    refine AW.iconst (pc := 89) dX12_rest_89 ci_m1 ?_
    refine AW.icmp_ne (pc := 90) 96 dX12_rest_90 (by decide) (fun h4 => ?_) (fun h4 => ?_)
    · refine AW.iload (pc := 93) dX12_rest_93 4 rfl ?_
      exact AW.iret (pc := 95) dX12_rest_95 rfl (fun _ _ _ => rfl) (Nat.le_refl _) (Nat.le_refl _)
    · refine AW.iload (pc := 96) dX12_rest_96 5 rfl ?_
      refine AW.iconst (pc := 98) dX12_rest_98 ci_m1 ?_
      refine AW.icmp_ne (pc := 99) 108 dX12_rest_99 (by decide) (fun h5 => ?_) (fun h5 => ?_)
      · refine AW.aload_n (pc := 102) dX12_rest_102 rfl 0 rfl ?_
        refine AW.iconst (pc := 103) dX12_rest_103 ci_1 ?_
        refine AW.cV1i (pc := 104) dX12_rest_104 mlX12_289 mbX12_fail rfl hthis (kct hthis rfl hct) (fun _ => okR_N (by omega)) (kX12_fail l E (n - 1) (by omega) ct hct ex this 1 M2) (Nat.le_of_ble_eq_true rfl) (fun v6 M7 => ?_)
        exact AW.iret (pc := 107) dX12_rest_107 rfl (fun _ _ _ => rfl) (Nat.le_refl _) (Nat.le_refl _)
      · refine AW.iload_n (pc := 108) dX12_rest_108 rfl 3 rfl ?_
        refine AW.iconst (pc := 109) dX12_rest_109 ci_2 ?_
        refine AW.icmp_ne (pc := 110) 139 dX12_rest_110 (by decide) (fun h8 => ?_) (fun h8 => ?_)
        · refine AW.aload_n (pc := 113) dX12_rest_113 rfl 0 rfl ?_
          refine AW.iload_n (pc := 114) dX12_rest_114 rfl 1 rfl ?_
          refine AW.iload (pc := 115) dX12_rest_115 5 rfl ?_
          refine AW.sipush (pc := 117) dX12_rest_117 cs_400 ?_
          refine AW.cV3i (pc := 120) dX12_rest_120 mlX12_379 mbX12_coinOf rfl hthis (kct hthis rfl hct) (fun _ => okR_N (by omega)) (kX12_coinOf l E (n - 1) (by omega) ct hct ex this x1 x5 400 M2) (Nat.le_of_ble_eq_true rfl) (fun v9 M10 => ?_)
          refine AW.aload_n (pc := 123) dX12_rest_123 rfl 0 rfl ?_
          refine AW.iload_n (pc := 124) dX12_rest_124 rfl 1 rfl ?_
          refine AW.iload (pc := 125) dX12_rest_125 5 rfl ?_
          refine AW.sipush (pc := 127) dX12_rest_127 cs_200 ?_
          refine AW.cV3i (pc := 130) dX12_rest_130 mlX12_379 mbX12_coinOf rfl hthis (kct hthis rfl hct) (fun _ => okR_N (by omega)) (kX12_coinOf l E (n - 1) (by omega) ct hct ex this x1 x5 200 M10) (Nat.le_of_ble_eq_true rfl) (fun v11 M12 => ?_)
          refine AW.isub (pc := 133) dX12_rest_133 ?_
          refine AW.sipush (pc := 134) dX12_rest_134 cs_200 ?_
          refine AW.idiv (pc := 137) dX12_rest_137 (by decide) ?_
          exact AW.iret (pc := 138) dX12_rest_138 rfl (fun _ _ _ => rfl) (Nat.le_refl _) (Nat.le_refl _)
        · refine AW.iconst (pc := 139) dX12_rest_139 ci_0 ?_
          refine AW.istore (pc := 140) [1, 2, 4, 6, 0] [(0, .ref (ad E this)), (1, .int x1), (3, .int x3), (5, .int x5), (6, .int 0)] dX12_rest_140 (by decide) rfl ?_
          refine AW.iconst (pc := 142) dX12_rest_142 ci_0 ?_
          refine AW.istore (pc := 143) [1, 2, 3, 4, 5, 0] [(0, .ref (ad E this)), (1, .int x1), (3, .int x3), (5, .int x5), (6, .int 0), (7, .int 0)] dX12_rest_143 (by decide) rfl ?_
          exact kX12_rest_L145 l E n hn ct hct ex FU this x1 x3 x5 0 0 M2 hthis
  · refine AW.aload_n (pc := 56) dX12_rest_56 rfl 0 rfl ?_
    refine AW.iload_n (pc := 57) dX12_rest_57 rfl 1 rfl ?_
    refine AW.iload (pc := 58) dX12_rest_58 6 rfl ?_
    refine AW.cV2i (pc := 60) dX12_rest_60 mlX12_376 mbX12_isRest rfl hthis (kct hthis rfl hct) (fun _ => okR_N (by omega)) (kX12_isRest l E (n - 1) (by omega) ct hct ex this x1 x6 M2) (Nat.le_of_ble_eq_true rfl) (fun v13 M14 => ?_)
    refine AW.if_ne (pc := 63) 69 dX12_rest_63 (by decide) (fun h15 => ?_) (fun h15 => ?_)
    · refine AW.goto (pc := 66) 82 dX12_rest_66 (by decide) ?_
      exact kX12_rest_B82 l E n hn ct hct ex KK46 hKK46 this x1 x2 x3 x4 x5 x6 M14 hthis
    · refine AW.iload (pc := 69) dX12_rest_69 4 rfl ?_
      refine AW.iload_n (pc := 71) dX12_rest_71 rfl 2 rfl ?_
      refine AW.icmp_ne (pc := 72) 79 dX12_rest_72 (by decide) (fun h16 => ?_) (fun h16 => ?_)
      · refine AW.iload (pc := 75) dX12_rest_75 6 rfl ?_
        refine AW.istore (pc := 77) [1, 2, 3, 4, 5, 0, 6] [(0, .ref (ad E this)), (1, .int x1), (2, .int x2), (3, .int x3), (4, .int x4), (5, .int x6), (6, .int x6)] dX12_rest_77 (by decide) rfl ?_
        exact kX12_rest_B79 l E n hn ct hct ex KK46 hKK46 this x1 x2 x3 x4 x6 x6 M14 hthis
      · exact kX12_rest_B79 l E n hn ct hct ex KK46 hKK46 this x1 x2 x3 x4 x5 x6 M14 hthis
set_option maxRecDepth 20000 in
set_option maxHeartbeats 4000000 in
theorem kX12_rest_L46 (l : Launch) (E : Ev) (n : Nat) (hn : 13 ≤ n) (ct : Nat) (hct : 111 ≤ ct) (ex : Bool) (k : Nat) : ∀ (this : Nat) (x1 : Int32) (x2 : Int32) (x3 : Int32) (x4 : Int32) (x5 : Int32) (x6 : Int32) (M : Mem) (_ : K0 this = (0, 12)), AW l E fX12_rest (fun _ => rmN n 0 0) (PQr E 0 0 ct ex enI) ct ex 0 0 46 [(0, .ref (ad E this)), (1, .int x1), (2, .int x2), (3, .int x3), (4, .int x4), (5, .int x5), (6, .int x6)] [] M (zX12_rest_L46 k this x1 x2 x3 x4 x5 x6 M) := by
  induction k with
  | zero => intro this x1 x2 x3 x4 x5 x6 M _; exact AW.none
  | succ k ih =>
    intro this x1 x2 x3 x4 x5 x6 M hthis
    exact kX12_rest_B46 l E n hn ct hct ex (zX12_rest_L46 k) ih this x1 x2 x3 x4 x5 x6 M hthis
set_option maxRecDepth 20000 in
set_option maxHeartbeats 4000000 in
theorem kX12_rest_B26 (l : Launch) (E : Ev) (n : Nat) (hn : 13 ≤ n) (ct : Nat) (hct : 111 ≤ ct) (ex : Bool) (this : Nat) (M : Mem) (hthis : K0 this = (0, 12)) : AW l E fX12_rest (fun _ => rmN n 0 0) (PQr E 0 0 ct ex enI) ct ex 0 0 26 [(0, .ref (ad E this))] [] M (zX12_rest_B26 this M) := by
  unfold zX12_rest_B26
  refine AW.aload_n (pc := 26) dX12_rest_26 rfl 0 rfl ?_
  refine AW.iconst (pc := 27) dX12_rest_27 ci_1 ?_
  refine AW.cV1i (pc := 28) dX12_rest_28 mlX12_289 mbX12_fail rfl hthis (kct hthis rfl hct) (fun _ => okR_N (by omega)) (kX12_fail l E (n - 1) (by omega) ct hct ex this 1 M) (Nat.le_of_ble_eq_true rfl) (fun v1 M2 => ?_)
  exact AW.iret (pc := 31) dX12_rest_31 rfl (fun _ _ _ => rfl) (Nat.le_refl _) (Nat.le_refl _)
set_option maxRecDepth 20000 in
set_option maxHeartbeats 4000000 in
theorem kX12_rest (l : Launch) (E : Ev) (n : Nat) (hn : 13 ≤ n) (ct : Nat) (hct : 111 ≤ ct) (ex : Bool) (this : Nat) (x1 : Int32) (x2 : Int32) (x3 : Int32) (M : Mem) : AM l E n ct ex yX12_rest fX12_rest enI [.ref (ad E this), .int x1, .int x2, .int x3] M (zX12_rest this x1 x2 x3 M) := by
  unfold zX12_rest
  refine AM.of (by decide +kernel) ⟨rfl, rfl, rfl⟩ (Nat.le_of_ble_eq_true rfl) ?_
  refine AW.chk (fun hthis => ?_)
  refine AW.aload_n (pc := 0) dX12_rest_0 rfl 0 rfl ?_
  refine AW.iconst (pc := 1) dX12_rest_1 ci_0 ?_
  refine AW.putI (pc := 2) dX12_rest_2 flX12_159 hthis (kct hthis rfl hct) ?_
  refine AW.genM (fun M1 => ?_)
  refine AW.iload_n (pc := 5) dX12_rest_5 rfl 1 rfl ?_
  refine AW.cS1i (pc := 6) dX12_rest_6 mlX12_166 mbX12_isGate (fun _ => okR_N (by omega)) (kX12_isGate l E (n - 1) (by omega) ct hct ex x1 M1) (Nat.le_of_ble_eq_true rfl) (fun v2 M3 => ?_)
  refine AW.if_eq (pc := 9) 26 dX12_rest_9 (by decide) (fun h4 => ?_) (fun h4 => ?_)
  · exact AW.sub [0] rfl (kX12_rest_B26 l E n hn ct hct ex this M3 hthis)
  · refine AW.iload_n (pc := 12) dX12_rest_12 rfl 3 rfl ?_
    refine AW.iconst (pc := 13) dX12_rest_13 ci_0 ?_
    refine AW.iconst (pc := 14) dX12_rest_14 ci_2 ?_
    refine AW.cS3i (pc := 15) dX12_rest_15 mlX12_162 mbX12_isIn (fun _ => okR_N (by omega)) (kX12_isIn l E (n - 1) (by omega) ct hct ex x3 0 2 M3) (Nat.le_of_ble_eq_true rfl) (fun v5 M6 => ?_)
    refine AW.if_eq (pc := 18) 26 dX12_rest_18 (by decide) (fun h7 => ?_) (fun h7 => ?_)
    · exact AW.sub [0] rfl (kX12_rest_B26 l E n hn ct hct ex this M6 hthis)
    · refine AW.iload_n (pc := 21) dX12_rest_21 rfl 2 rfl ?_
      refine AW.iconst (pc := 22) dX12_rest_22 ci_m1 ?_
      refine AW.icmp_ge (pc := 23) 32 dX12_rest_23 (by decide) (fun h8 => ?_) (fun h8 => ?_)
      · refine AW.aload_n (pc := 32) dX12_rest_32 rfl 0 rfl ?_
        refine AW.iload_n (pc := 33) dX12_rest_33 rfl 1 rfl ?_
        refine AW.cV1v (pc := 34) dX12_rest_34 mlX12_373 mbX12_tellComes rfl hthis (kct hthis rfl hct) (fun _ => okR_N (by omega)) (kX12_tellComes l E (n - 1) (by omega) ct hct ex this x1 M6) (Nat.le_of_ble_eq_true rfl) (fun _ M9 => ?_)
        refine AW.iconst (pc := 37) dX12_rest_37 ci_0 ?_
        refine AW.istore (pc := 38) [1, 2, 3, 4, 0] [(0, .ref (ad E this)), (1, .int x1), (2, .int x2), (3, .int x3), (4, .int 0)] dX12_rest_38 (by decide) rfl ?_
        refine AW.iconst (pc := 40) dX12_rest_40 ci_m1 ?_
        refine AW.istore (pc := 41) [1, 2, 3, 4, 5, 0] [(0, .ref (ad E this)), (1, .int x1), (2, .int x2), (3, .int x3), (4, .int 0), (5, .int (-1))] dX12_rest_41 (by decide) rfl ?_
        refine AW.iconst (pc := 43) dX12_rest_43 ci_0 ?_
        refine AW.istore (pc := 44) [1, 2, 3, 4, 5, 6, 0] [(0, .ref (ad E this)), (1, .int x1), (2, .int x2), (3, .int x3), (4, .int 0), (5, .int (-1)), (6, .int 0)] dX12_rest_44 (by decide) rfl ?_
        exact kX12_rest_L46 l E n hn ct hct ex FU this x1 x2 x3 0 (-1) 0 M9 hthis
      · exact AW.sub [0] rfl (kX12_rest_B26 l E n hn ct hct ex this M6 hthis)
-- GateBoxModel.keepRule(I)V
def zX12_keepRule_B2 (KK2 : Nat → Int32 → Int32 → Mem → Option (Unit × Mem)) (this : Nat) (x1 : Int32) (x2 : Int32) (M : Mem) : Option (Unit × Mem) :=
  if 7 ≤ x2 then
    some ((), M)
  else
    if mR M this 39 ≠ 0 then
    if mR M this 4 ≠ 0 then
    if (K0 (mR M this 4)).1 = 1 ∧ inb ((7 * x1) + x2) (K0 (mR M this 4)).2 = true then
    if (K0 (mR M this 39)).1 = 1 ∧ inb x2 (K0 (mR M this 39)).2 = true then
    lt (sI M (mR M this 39) (Int32.toNatClampNeg x2) (mI M (mR M this 4) (Int32.toNatClampNeg ((7 * x1) + x2)))) fun M6 =>
    KK2 this x1 (x2 + 1) M6
    else none
    else none
    else none
    else none
def zX12_keepRule_L2 : Nat → Nat → Int32 → Int32 → Mem → Option (Unit × Mem)
  | 0 => fun _ _ _ _ => none
  | k + 1 => zX12_keepRule_B2 (zX12_keepRule_L2 k)
def zX12_keepRule (this : Nat) (x1 : Int32) (M : Mem) : Option (Unit × Mem) :=
  if K0 this = (0, 12) then
  zX12_keepRule_L2 FU this x1 0 M
  else none
set_option maxRecDepth 20000 in
set_option maxHeartbeats 4000000 in
theorem kX12_keepRule_B2 (l : Launch) (E : Ev) (n : Nat) (hn : 1 ≤ n) (ct : Nat) (hct : 111 ≤ ct) (ex : Bool) (KK2 : Nat → Int32 → Int32 → Mem → Option (Unit × Mem)) (hKK2 : ∀ (this : Nat) (x1 : Int32) (x2 : Int32) (M : Mem) (_ : K0 this = (0, 12)), AW l E fX12_keepRule (fun _ => rmN n 0 0) (PQr E 0 0 ct ex enU) ct ex 0 0 2 [(0, .ref (ad E this)), (1, .int x1), (2, .int x2)] [] M (KK2 this x1 x2 M)) (this : Nat) (x1 : Int32) (x2 : Int32) (M : Mem) (hthis : K0 this = (0, 12)) : AW l E fX12_keepRule (fun _ => rmN n 0 0) (PQr E 0 0 ct ex enU) ct ex 0 0 2 [(0, .ref (ad E this)), (1, .int x1), (2, .int x2)] [] M (zX12_keepRule_B2 KK2 this x1 x2 M) := by
  unfold zX12_keepRule_B2
  refine AW.iload_n (pc := 2) dX12_keepRule_2 rfl 2 rfl ?_
  refine AW.bipush (pc := 3) dX12_keepRule_3 cb_7 ?_
  refine AW.icmp_ge (pc := 5) 31 dX12_keepRule_5 (by decide) (fun h1 => ?_) (fun h1 => ?_)
  · exact AW.vret (pc := 31) dX12_keepRule_31 rfl (fun _ _ _ => rfl) (Nat.le_refl _) (Nat.le_refl _)
  · refine AW.aload_n (pc := 8) dX12_keepRule_8 rfl 0 rfl ?_
    refine AW.chk (fun g2 => ?_)
    refine AW.getR (pc := 9) dX12_keepRule_9 flX12_113 hthis (kct hthis rfl hct) g2 ?_
    refine AW.iload_n (pc := 12) dX12_keepRule_12 rfl 2 rfl ?_
    refine AW.aload_n (pc := 13) dX12_keepRule_13 rfl 0 rfl ?_
    refine AW.chk (fun g3 => ?_)
    refine AW.getR (pc := 14) dX12_keepRule_14 flX12_46 hthis (kct hthis rfl hct) g3 ?_
    refine AW.bipush (pc := 17) dX12_keepRule_17 cb_7 ?_
    refine AW.iload_n (pc := 19) dX12_keepRule_19 rfl 1 rfl ?_
    refine AW.imul (pc := 20) dX12_keepRule_20 ?_
    refine AW.iload_n (pc := 21) dX12_keepRule_21 rfl 2 rfl ?_
    refine AW.iadd (pc := 22) dX12_keepRule_22 ?_
    refine AW.chk (fun g4 => ?_)
    refine AW.iald (pc := 23) dX12_keepRule_23 (k0e g4.1) (kct (k0e g4.1) rfl hct) g4.2 ?_
    refine AW.chk (fun g5 => ?_)
    refine AW.iast (pc := 24) dX12_keepRule_24 (k0e g5.1) (kct (k0e g5.1) rfl hct) g5.2 ?_
    refine AW.genM (fun M6 => ?_)
    refine AW.iinc (pc := 25) (w := 2) [1, 2, 0] [(0, .ref (ad E this)), (1, .int x1), (2, .int (x2 + 1))] dX12_keepRule_25 rfl (inc_1 _) (by decide) rfl ?_
    refine AW.goto (pc := 28) 2 dX12_keepRule_28 (by decide) ?_
    exact hKK2 this x1 (x2 + 1) M6 hthis
set_option maxRecDepth 20000 in
set_option maxHeartbeats 4000000 in
theorem kX12_keepRule_L2 (l : Launch) (E : Ev) (n : Nat) (hn : 1 ≤ n) (ct : Nat) (hct : 111 ≤ ct) (ex : Bool) (k : Nat) : ∀ (this : Nat) (x1 : Int32) (x2 : Int32) (M : Mem) (_ : K0 this = (0, 12)), AW l E fX12_keepRule (fun _ => rmN n 0 0) (PQr E 0 0 ct ex enU) ct ex 0 0 2 [(0, .ref (ad E this)), (1, .int x1), (2, .int x2)] [] M (zX12_keepRule_L2 k this x1 x2 M) := by
  induction k with
  | zero => intro this x1 x2 M _; exact AW.none
  | succ k ih =>
    intro this x1 x2 M hthis
    exact kX12_keepRule_B2 l E n hn ct hct ex (zX12_keepRule_L2 k) ih this x1 x2 M hthis
set_option maxRecDepth 20000 in
set_option maxHeartbeats 4000000 in
theorem kX12_keepRule (l : Launch) (E : Ev) (n : Nat) (hn : 1 ≤ n) (ct : Nat) (hct : 111 ≤ ct) (ex : Bool) (this : Nat) (x1 : Int32) (M : Mem) : AM l E n ct ex yX12_keepRule fX12_keepRule enU [.ref (ad E this), .int x1] M (zX12_keepRule this x1 M) := by
  unfold zX12_keepRule
  refine AM.of (by decide +kernel) ⟨rfl, rfl, rfl⟩ (Nat.le_of_ble_eq_true rfl) ?_
  refine AW.chk (fun hthis => ?_)
  refine AW.iconst (pc := 0) dX12_keepRule_0 ci_0 ?_
  refine AW.istore_n (pc := 1) [1, 2, 0] [(0, .ref (ad E this)), (1, .int x1), (2, .int 0)] dX12_keepRule_1 rfl (by decide) rfl ?_
  exact kX12_keepRule_L2 l E n hn ct hct ex FU this x1 0 M hthis
-- GateBoxModel.backRule(I)V
def zX12_backRule_B2 (KK2 : Nat → Int32 → Int32 → Mem → Option (Unit × Mem)) (this : Nat) (x1 : Int32) (x2 : Int32) (M : Mem) : Option (Unit × Mem) :=
  if 7 ≤ x2 then
    some ((), M)
  else
    if mR M this 4 ≠ 0 then
    if mR M this 39 ≠ 0 then
    if (K0 (mR M this 39)).1 = 1 ∧ inb x2 (K0 (mR M this 39)).2 = true then
    if (K0 (mR M this 4)).1 = 1 ∧ inb ((7 * x1) + x2) (K0 (mR M this 4)).2 = true then
    lt (sI M (mR M this 4) (Int32.toNatClampNeg ((7 * x1) + x2)) (mI M (mR M this 39) (Int32.toNatClampNeg x2))) fun M6 =>
    KK2 this x1 (x2 + 1) M6
    else none
    else none
    else none
    else none
def zX12_backRule_L2 : Nat → Nat → Int32 → Int32 → Mem → Option (Unit × Mem)
  | 0 => fun _ _ _ _ => none
  | k + 1 => zX12_backRule_B2 (zX12_backRule_L2 k)
def zX12_backRule (this : Nat) (x1 : Int32) (M : Mem) : Option (Unit × Mem) :=
  if K0 this = (0, 12) then
  zX12_backRule_L2 FU this x1 0 M
  else none
set_option maxRecDepth 20000 in
set_option maxHeartbeats 4000000 in
theorem kX12_backRule_B2 (l : Launch) (E : Ev) (n : Nat) (hn : 1 ≤ n) (ct : Nat) (hct : 111 ≤ ct) (ex : Bool) (KK2 : Nat → Int32 → Int32 → Mem → Option (Unit × Mem)) (hKK2 : ∀ (this : Nat) (x1 : Int32) (x2 : Int32) (M : Mem) (_ : K0 this = (0, 12)), AW l E fX12_backRule (fun _ => rmN n 0 0) (PQr E 0 0 ct ex enU) ct ex 0 0 2 [(0, .ref (ad E this)), (1, .int x1), (2, .int x2)] [] M (KK2 this x1 x2 M)) (this : Nat) (x1 : Int32) (x2 : Int32) (M : Mem) (hthis : K0 this = (0, 12)) : AW l E fX12_backRule (fun _ => rmN n 0 0) (PQr E 0 0 ct ex enU) ct ex 0 0 2 [(0, .ref (ad E this)), (1, .int x1), (2, .int x2)] [] M (zX12_backRule_B2 KK2 this x1 x2 M) := by
  unfold zX12_backRule_B2
  refine AW.iload_n (pc := 2) dX12_backRule_2 rfl 2 rfl ?_
  refine AW.bipush (pc := 3) dX12_backRule_3 cb_7 ?_
  refine AW.icmp_ge (pc := 5) 31 dX12_backRule_5 (by decide) (fun h1 => ?_) (fun h1 => ?_)
  · exact AW.vret (pc := 31) dX12_backRule_31 rfl (fun _ _ _ => rfl) (Nat.le_refl _) (Nat.le_refl _)
  · refine AW.aload_n (pc := 8) dX12_backRule_8 rfl 0 rfl ?_
    refine AW.chk (fun g2 => ?_)
    refine AW.getR (pc := 9) dX12_backRule_9 flX12_46 hthis (kct hthis rfl hct) g2 ?_
    refine AW.bipush (pc := 12) dX12_backRule_12 cb_7 ?_
    refine AW.iload_n (pc := 14) dX12_backRule_14 rfl 1 rfl ?_
    refine AW.imul (pc := 15) dX12_backRule_15 ?_
    refine AW.iload_n (pc := 16) dX12_backRule_16 rfl 2 rfl ?_
    refine AW.iadd (pc := 17) dX12_backRule_17 ?_
    refine AW.aload_n (pc := 18) dX12_backRule_18 rfl 0 rfl ?_
    refine AW.chk (fun g3 => ?_)
    refine AW.getR (pc := 19) dX12_backRule_19 flX12_113 hthis (kct hthis rfl hct) g3 ?_
    refine AW.iload_n (pc := 22) dX12_backRule_22 rfl 2 rfl ?_
    refine AW.chk (fun g4 => ?_)
    refine AW.iald (pc := 23) dX12_backRule_23 (k0e g4.1) (kct (k0e g4.1) rfl hct) g4.2 ?_
    refine AW.chk (fun g5 => ?_)
    refine AW.iast (pc := 24) dX12_backRule_24 (k0e g5.1) (kct (k0e g5.1) rfl hct) g5.2 ?_
    refine AW.genM (fun M6 => ?_)
    refine AW.iinc (pc := 25) (w := 2) [1, 2, 0] [(0, .ref (ad E this)), (1, .int x1), (2, .int (x2 + 1))] dX12_backRule_25 rfl (inc_1 _) (by decide) rfl ?_
    refine AW.goto (pc := 28) 2 dX12_backRule_28 (by decide) ?_
    exact hKK2 this x1 (x2 + 1) M6 hthis
set_option maxRecDepth 20000 in
set_option maxHeartbeats 4000000 in
theorem kX12_backRule_L2 (l : Launch) (E : Ev) (n : Nat) (hn : 1 ≤ n) (ct : Nat) (hct : 111 ≤ ct) (ex : Bool) (k : Nat) : ∀ (this : Nat) (x1 : Int32) (x2 : Int32) (M : Mem) (_ : K0 this = (0, 12)), AW l E fX12_backRule (fun _ => rmN n 0 0) (PQr E 0 0 ct ex enU) ct ex 0 0 2 [(0, .ref (ad E this)), (1, .int x1), (2, .int x2)] [] M (zX12_backRule_L2 k this x1 x2 M) := by
  induction k with
  | zero => intro this x1 x2 M _; exact AW.none
  | succ k ih =>
    intro this x1 x2 M hthis
    exact kX12_backRule_B2 l E n hn ct hct ex (zX12_backRule_L2 k) ih this x1 x2 M hthis
set_option maxRecDepth 20000 in
set_option maxHeartbeats 4000000 in
theorem kX12_backRule (l : Launch) (E : Ev) (n : Nat) (hn : 1 ≤ n) (ct : Nat) (hct : 111 ≤ ct) (ex : Bool) (this : Nat) (x1 : Int32) (M : Mem) : AM l E n ct ex yX12_backRule fX12_backRule enU [.ref (ad E this), .int x1] M (zX12_backRule this x1 M) := by
  unfold zX12_backRule
  refine AM.of (by decide +kernel) ⟨rfl, rfl, rfl⟩ (Nat.le_of_ble_eq_true rfl) ?_
  refine AW.chk (fun hthis => ?_)
  refine AW.iconst (pc := 0) dX12_backRule_0 ci_0 ?_
  refine AW.istore_n (pc := 1) [1, 2, 0] [(0, .ref (ad E this)), (1, .int x1), (2, .int 0)] dX12_backRule_1 rfl (by decide) rfl ?_
  exact kX12_backRule_L2 l E n hn ct hct ex FU this x1 0 M hthis
-- GateBoxModel.best(IIII)I
def zX12_best_B120 (KK59 : Nat → Int32 → Int32 → Int32 → Int32 → Int32 → Int32 → Int32 → Mem → Option (Int32 × Mem)) (this : Nat) (x1 : Int32) (x2 : Int32) (x3 : Int32) (x4 : Int32) (x5 : Int32) (x6 : Int32) (x7 : Int32) (M : Mem) : Option (Int32 × Mem) :=
  KK59 this x1 x2 x3 x4 x5 x6 (x7 + 1) M
def zX12_best_B59 (KK59 : Nat → Int32 → Int32 → Int32 → Int32 → Int32 → Int32 → Int32 → Mem → Option (Int32 × Mem)) (this : Nat) (x1 : Int32) (x2 : Int32) (x3 : Int32) (x4 : Int32) (x5 : Int32) (x6 : Int32) (x7 : Int32) (M : Mem) : Option (Int32 × Mem) :=
  if 176 ≤ x7 then
    bnd (zX12_backRule this x1 M) fun _ M2 =>
    if x4 = 0 then
      some (x5, M2)
    else
      some (x6, M2)
  else
    bnd (zX12_put this x1 x7 M) fun _ M4 =>
    if mR M4 this 11 ≠ 0 then
    if (K0 (mR M4 this 11)).1 = 1 ∧ inb x1 (K0 (mR M4 this 11)).2 = true then
    bnd (zX12_coinOf this x1 (mI M4 (mR M4 this 11) (Int32.toNatClampNeg x1)) x2 M4) fun v7 M8 =>
    if 0 < (lg_cmp ((mL M8 this 36) / 1000000) (Int32.toInt64 x3)) then
      zX12_best_B120 KK59 this x1 x2 x3 x4 x5 x6 x7 M8
    else
      if x6 < v7 then
        zX12_best_B120 KK59 this x1 x2 x3 x4 x7 v7 x7 M8
      else
        zX12_best_B120 KK59 this x1 x2 x3 x4 x5 x6 x7 M8
    else none
    else none
def zX12_best_L59 : Nat → Nat → Int32 → Int32 → Int32 → Int32 → Int32 → Int32 → Int32 → Mem → Option (Int32 × Mem)
  | 0 => fun _ _ _ _ _ _ _ _ _ => none
  | k + 1 => zX12_best_B59 (zX12_best_L59 k)
def zX12_best_B23 (this : Nat) (M : Mem) : Option (Int32 × Mem) :=
  bnd (zX12_fail this 1 M) fun v1 M2 =>
  some (v1, M2)
def zX12_best (this : Nat) (x1 : Int32) (x2 : Int32) (x3 : Int32) (x4 : Int32) (M : Mem) : Option (Int32 × Mem) :=
  if K0 this = (0, 12) then
  lt (sI M this 2 0) fun M1 =>
  bnd (zX12_isGate x1 M1) fun v2 M3 =>
  if v2 = 0 then
    zX12_best_B23 this M3
  else
    if x4 < 0 then
      zX12_best_B23 this M3
    else
      if x4 ≤ 1 then
        bnd (zX12_isIn x2 0 60 M3) fun v7 M8 =>
        if v7 = 0 then
          bnd (zX12_fail this 2 M8) fun v10 M11 =>
          some (v10, M11)
        else
          bnd (zX12_keepRule this x1 M8) fun _ M12 =>
          zX12_best_L59 FU this x1 x2 x3 x4 (-1) (-1) 0 M12
      else
        zX12_best_B23 this M3
  else none
set_option maxRecDepth 20000 in
set_option maxHeartbeats 4000000 in
theorem kX12_best_B120 (l : Launch) (E : Ev) (n : Nat) (hn : 13 ≤ n) (ct : Nat) (hct : 111 ≤ ct) (ex : Bool) (KK59 : Nat → Int32 → Int32 → Int32 → Int32 → Int32 → Int32 → Int32 → Mem → Option (Int32 × Mem)) (hKK59 : ∀ (this : Nat) (x1 : Int32) (x2 : Int32) (x3 : Int32) (x4 : Int32) (x5 : Int32) (x6 : Int32) (x7 : Int32) (M : Mem) (_ : K0 this = (0, 12)), AW l E fX12_best (fun _ => rmN n 0 0) (PQr E 0 0 ct ex enI) ct ex 0 0 59 [(0, .ref (ad E this)), (1, .int x1), (2, .int x2), (3, .int x3), (4, .int x4), (5, .int x5), (6, .int x6), (7, .int x7)] [] M (KK59 this x1 x2 x3 x4 x5 x6 x7 M)) (this : Nat) (x1 : Int32) (x2 : Int32) (x3 : Int32) (x4 : Int32) (x5 : Int32) (x6 : Int32) (x7 : Int32) (M : Mem) (hthis : K0 this = (0, 12)) : AW l E fX12_best (fun _ => rmN n 0 0) (PQr E 0 0 ct ex enI) ct ex 0 0 120 [(0, .ref (ad E this)), (1, .int x1), (2, .int x2), (3, .int x3), (4, .int x4), (5, .int x5), (6, .int x6), (7, .int x7)] [] M (zX12_best_B120 KK59 this x1 x2 x3 x4 x5 x6 x7 M) := by
  unfold zX12_best_B120
  refine AW.iinc (pc := 120) (w := 7) [1, 2, 3, 4, 5, 6, 7, 0] [(0, .ref (ad E this)), (1, .int x1), (2, .int x2), (3, .int x3), (4, .int x4), (5, .int x5), (6, .int x6), (7, .int (x7 + 1))] dX12_best_120 rfl (inc_1 _) (by decide) rfl ?_
  refine AW.goto (pc := 123) 59 dX12_best_123 (by decide) ?_
  exact hKK59 this x1 x2 x3 x4 x5 x6 (x7 + 1) M hthis
set_option maxRecDepth 20000 in
set_option maxHeartbeats 4000000 in
theorem kX12_best_B59 (l : Launch) (E : Ev) (n : Nat) (hn : 13 ≤ n) (ct : Nat) (hct : 111 ≤ ct) (ex : Bool) (KK59 : Nat → Int32 → Int32 → Int32 → Int32 → Int32 → Int32 → Int32 → Mem → Option (Int32 × Mem)) (hKK59 : ∀ (this : Nat) (x1 : Int32) (x2 : Int32) (x3 : Int32) (x4 : Int32) (x5 : Int32) (x6 : Int32) (x7 : Int32) (M : Mem) (_ : K0 this = (0, 12)), AW l E fX12_best (fun _ => rmN n 0 0) (PQr E 0 0 ct ex enI) ct ex 0 0 59 [(0, .ref (ad E this)), (1, .int x1), (2, .int x2), (3, .int x3), (4, .int x4), (5, .int x5), (6, .int x6), (7, .int x7)] [] M (KK59 this x1 x2 x3 x4 x5 x6 x7 M)) (this : Nat) (x1 : Int32) (x2 : Int32) (x3 : Int32) (x4 : Int32) (x5 : Int32) (x6 : Int32) (x7 : Int32) (M : Mem) (hthis : K0 this = (0, 12)) : AW l E fX12_best (fun _ => rmN n 0 0) (PQr E 0 0 ct ex enI) ct ex 0 0 59 [(0, .ref (ad E this)), (1, .int x1), (2, .int x2), (3, .int x3), (4, .int x4), (5, .int x5), (6, .int x6), (7, .int x7)] [] M (zX12_best_B59 KK59 this x1 x2 x3 x4 x5 x6 x7 M) := by
  unfold zX12_best_B59
  refine AW.iload (pc := 59) dX12_best_59 7 rfl ?_
  refine AW.sipush (pc := 61) dX12_best_61 cs_176 ?_
  refine AW.icmp_ge (pc := 64) 126 dX12_best_64 (by decide) (fun h1 => ?_) (fun h1 => ?_)
  · refine AW.aload_n (pc := 126) dX12_best_126 rfl 0 rfl ?_
    refine AW.iload_n (pc := 127) dX12_best_127 rfl 1 rfl ?_
    refine AW.cV1v (pc := 128) dX12_best_128 mlX12_385 mbX12_backRule rfl hthis (kct hthis rfl hct) (fun _ => okR_N (by omega)) (kX12_backRule l E (n - 1) (by omega) ct hct ex this x1 M) (Nat.le_of_ble_eq_true rfl) (fun _ M2 => ?_)
    refine AW.iload (pc := 131) dX12_best_131 4 rfl ?_
    refine AW.if_ne (pc := 133) 141 dX12_best_133 (by decide) (fun h3 => ?_) (fun h3 => ?_)
    · refine AW.iload (pc := 136) dX12_best_136 5 rfl ?_
      refine AW.goto (pc := 138) 143 dX12_best_138 (by decide) ?_
      exact AW.iret (pc := 143) dX12_best_143 rfl (fun _ _ _ => rfl) (Nat.le_refl _) (Nat.le_refl _)
    · refine AW.iload (pc := 141) dX12_best_141 6 rfl ?_
      exact AW.iret (pc := 143) dX12_best_143 rfl (fun _ _ _ => rfl) (Nat.le_refl _) (Nat.le_refl _)
  · refine AW.aload_n (pc := 67) dX12_best_67 rfl 0 rfl ?_
    refine AW.iload_n (pc := 68) dX12_best_68 rfl 1 rfl ?_
    refine AW.iload (pc := 69) dX12_best_69 7 rfl ?_
    refine AW.cV2v (pc := 71) dX12_best_71 mlX12_339 mbX12_put rfl hthis (kct hthis rfl hct) (fun _ => okR_N (by omega)) (kX12_put l E (n - 1) (by omega) ct hct ex this x1 x7 M) (Nat.le_of_ble_eq_true rfl) (fun _ M4 => ?_)
    refine AW.aload_n (pc := 74) dX12_best_74 rfl 0 rfl ?_
    refine AW.iload_n (pc := 75) dX12_best_75 rfl 1 rfl ?_
    refine AW.aload_n (pc := 76) dX12_best_76 rfl 0 rfl ?_
    refine AW.chk (fun g5 => ?_)
    refine AW.getR (pc := 77) dX12_best_77 flX12_65 hthis (kct hthis rfl hct) g5 ?_
    refine AW.iload_n (pc := 80) dX12_best_80 rfl 1 rfl ?_
    refine AW.chk (fun g6 => ?_)
    refine AW.iald (pc := 81) dX12_best_81 (k0e g6.1) (kct (k0e g6.1) rfl hct) g6.2 ?_
    refine AW.iload_n (pc := 82) dX12_best_82 rfl 2 rfl ?_
    refine AW.cV3i (pc := 83) dX12_best_83 mlX12_379 mbX12_coinOf rfl hthis (kct hthis rfl hct) (fun _ => okR_N (by omega)) (kX12_coinOf l E (n - 1) (by omega) ct hct ex this x1 (mI M4 (mR M4 this 11) (Int32.toNatClampNeg x1)) x2 M4) (Nat.le_of_ble_eq_true rfl) (fun v7 M8 => ?_)
    refine AW.istore (pc := 86) [1, 2, 3, 4, 5, 6, 7, 8, 0] [(0, .ref (ad E this)), (1, .int x1), (2, .int x2), (3, .int x3), (4, .int x4), (5, .int x5), (6, .int x6), (7, .int x7), (8, .int v7)] dX12_best_86 (by decide) rfl ?_
    refine AW.aload_n (pc := 88) dX12_best_88 rfl 0 rfl ?_
    refine AW.getL (pc := 89) dX12_best_89 flX12_349 hthis (kct hthis rfl hct) ?_
    refine AW.ldc2 (pc := 92) dX12_best_92 ccX12_371 ?_
    refine AW.ldiv (pc := 95) dX12_best_95 (by decide) ?_
    refine AW.iload_n (pc := 96) dX12_best_96 rfl 3 rfl ?_
    refine AW.i2l (pc := 97) dX12_best_97 ?_
    refine AW.lcmp (pc := 98) dX12_best_98 ?_
    refine AW.if_gt (pc := 99) 120 dX12_best_99 (by decide) (fun h9 => ?_) (fun h9 => ?_)
    · exact AW.sub [0, 1, 2, 3, 4, 5, 6, 7] rfl (kX12_best_B120 l E n hn ct hct ex KK59 hKK59 this x1 x2 x3 x4 x5 x6 x7 M8 hthis)
    · refine AW.iload (pc := 102) dX12_best_102 8 rfl ?_
      refine AW.iload (pc := 104) dX12_best_104 6 rfl ?_
      refine AW.icmp_gt (pc := 106) 112 dX12_best_106 (by decide) (fun h10 => ?_) (fun h10 => ?_)
      · refine AW.iload (pc := 112) dX12_best_112 7 rfl ?_
        refine AW.istore (pc := 114) [1, 2, 3, 4, 5, 0, 7, 8] [(0, .ref (ad E this)), (1, .int x1), (2, .int x2), (3, .int x3), (4, .int x4), (5, .int x7), (7, .int x7), (8, .int v7)] dX12_best_114 (by decide) rfl ?_
        refine AW.iload (pc := 116) dX12_best_116 7 rfl ?_
        refine AW.istore (pc := 118) [1, 2, 3, 4, 5, 6, 0, 7] [(0, .ref (ad E this)), (1, .int x1), (2, .int x2), (3, .int x3), (4, .int x4), (5, .int x7), (6, .int v7), (7, .int x7)] dX12_best_118 (by decide) rfl ?_
        exact kX12_best_B120 l E n hn ct hct ex KK59 hKK59 this x1 x2 x3 x4 x7 v7 x7 M8 hthis
      · refine AW.goto (pc := 109) 120 dX12_best_109 (by decide) ?_
        exact AW.sub [0, 1, 2, 3, 4, 5, 6, 7] rfl (kX12_best_B120 l E n hn ct hct ex KK59 hKK59 this x1 x2 x3 x4 x5 x6 x7 M8 hthis)
set_option maxRecDepth 20000 in
set_option maxHeartbeats 4000000 in
theorem kX12_best_L59 (l : Launch) (E : Ev) (n : Nat) (hn : 13 ≤ n) (ct : Nat) (hct : 111 ≤ ct) (ex : Bool) (k : Nat) : ∀ (this : Nat) (x1 : Int32) (x2 : Int32) (x3 : Int32) (x4 : Int32) (x5 : Int32) (x6 : Int32) (x7 : Int32) (M : Mem) (_ : K0 this = (0, 12)), AW l E fX12_best (fun _ => rmN n 0 0) (PQr E 0 0 ct ex enI) ct ex 0 0 59 [(0, .ref (ad E this)), (1, .int x1), (2, .int x2), (3, .int x3), (4, .int x4), (5, .int x5), (6, .int x6), (7, .int x7)] [] M (zX12_best_L59 k this x1 x2 x3 x4 x5 x6 x7 M) := by
  induction k with
  | zero => intro this x1 x2 x3 x4 x5 x6 x7 M _; exact AW.none
  | succ k ih =>
    intro this x1 x2 x3 x4 x5 x6 x7 M hthis
    exact kX12_best_B59 l E n hn ct hct ex (zX12_best_L59 k) ih this x1 x2 x3 x4 x5 x6 x7 M hthis
set_option maxRecDepth 20000 in
set_option maxHeartbeats 4000000 in
theorem kX12_best_B23 (l : Launch) (E : Ev) (n : Nat) (hn : 13 ≤ n) (ct : Nat) (hct : 111 ≤ ct) (ex : Bool) (this : Nat) (M : Mem) (hthis : K0 this = (0, 12)) : AW l E fX12_best (fun _ => rmN n 0 0) (PQr E 0 0 ct ex enI) ct ex 0 0 23 [(0, .ref (ad E this))] [] M (zX12_best_B23 this M) := by
  unfold zX12_best_B23
  refine AW.aload_n (pc := 23) dX12_best_23 rfl 0 rfl ?_
  refine AW.iconst (pc := 24) dX12_best_24 ci_1 ?_
  refine AW.cV1i (pc := 25) dX12_best_25 mlX12_289 mbX12_fail rfl hthis (kct hthis rfl hct) (fun _ => okR_N (by omega)) (kX12_fail l E (n - 1) (by omega) ct hct ex this 1 M) (Nat.le_of_ble_eq_true rfl) (fun v1 M2 => ?_)
  exact AW.iret (pc := 28) dX12_best_28 rfl (fun _ _ _ => rfl) (Nat.le_refl _) (Nat.le_refl _)
set_option maxRecDepth 20000 in
set_option maxHeartbeats 4000000 in
theorem kX12_best (l : Launch) (E : Ev) (n : Nat) (hn : 13 ≤ n) (ct : Nat) (hct : 111 ≤ ct) (ex : Bool) (this : Nat) (x1 : Int32) (x2 : Int32) (x3 : Int32) (x4 : Int32) (M : Mem) : AM l E n ct ex yX12_best fX12_best enI [.ref (ad E this), .int x1, .int x2, .int x3, .int x4] M (zX12_best this x1 x2 x3 x4 M) := by
  unfold zX12_best
  refine AM.of (by decide +kernel) ⟨rfl, rfl, rfl⟩ (Nat.le_of_ble_eq_true rfl) ?_
  refine AW.chk (fun hthis => ?_)
  refine AW.aload_n (pc := 0) dX12_best_0 rfl 0 rfl ?_
  refine AW.iconst (pc := 1) dX12_best_1 ci_0 ?_
  refine AW.putI (pc := 2) dX12_best_2 flX12_159 hthis (kct hthis rfl hct) ?_
  refine AW.genM (fun M1 => ?_)
  refine AW.iload_n (pc := 5) dX12_best_5 rfl 1 rfl ?_
  refine AW.cS1i (pc := 6) dX12_best_6 mlX12_166 mbX12_isGate (fun _ => okR_N (by omega)) (kX12_isGate l E (n - 1) (by omega) ct hct ex x1 M1) (Nat.le_of_ble_eq_true rfl) (fun v2 M3 => ?_)
  refine AW.if_eq (pc := 9) 23 dX12_best_9 (by decide) (fun h4 => ?_) (fun h4 => ?_)
  · exact AW.sub [0] rfl (kX12_best_B23 l E n hn ct hct ex this M3 hthis)
  · refine AW.iload (pc := 12) dX12_best_12 4 rfl ?_
    refine AW.if_lt (pc := 14) 23 dX12_best_14 (by decide) (fun h5 => ?_) (fun h5 => ?_)
    · exact AW.sub [0] rfl (kX12_best_B23 l E n hn ct hct ex this M3 hthis)
    · refine AW.iload (pc := 17) dX12_best_17 4 rfl ?_
      refine AW.iconst (pc := 19) dX12_best_19 ci_1 ?_
      refine AW.icmp_le (pc := 20) 29 dX12_best_20 (by decide) (fun h6 => ?_) (fun h6 => ?_)
      · refine AW.iload_n (pc := 29) dX12_best_29 rfl 2 rfl ?_
        refine AW.iconst (pc := 30) dX12_best_30 ci_0 ?_
        refine AW.bipush (pc := 31) dX12_best_31 cb_60 ?_
        refine AW.cS3i (pc := 33) dX12_best_33 mlX12_162 mbX12_isIn (fun _ => okR_N (by omega)) (kX12_isIn l E (n - 1) (by omega) ct hct ex x2 0 60 M3) (Nat.le_of_ble_eq_true rfl) (fun v7 M8 => ?_)
        refine AW.if_ne (pc := 36) 45 dX12_best_36 (by decide) (fun h9 => ?_) (fun h9 => ?_)
        · refine AW.aload_n (pc := 39) dX12_best_39 rfl 0 rfl ?_
          refine AW.iconst (pc := 40) dX12_best_40 ci_2 ?_
          refine AW.cV1i (pc := 41) dX12_best_41 mlX12_289 mbX12_fail rfl hthis (kct hthis rfl hct) (fun _ => okR_N (by omega)) (kX12_fail l E (n - 1) (by omega) ct hct ex this 2 M8) (Nat.le_of_ble_eq_true rfl) (fun v10 M11 => ?_)
          exact AW.iret (pc := 44) dX12_best_44 rfl (fun _ _ _ => rfl) (Nat.le_refl _) (Nat.le_refl _)
        · refine AW.aload_n (pc := 45) dX12_best_45 rfl 0 rfl ?_
          refine AW.iload_n (pc := 46) dX12_best_46 rfl 1 rfl ?_
          refine AW.cV1v (pc := 47) dX12_best_47 mlX12_382 mbX12_keepRule rfl hthis (kct hthis rfl hct) (fun _ => okR_N (by omega)) (kX12_keepRule l E (n - 1) (by omega) ct hct ex this x1 M8) (Nat.le_of_ble_eq_true rfl) (fun _ M12 => ?_)
          refine AW.iconst (pc := 50) dX12_best_50 ci_m1 ?_
          refine AW.istore (pc := 51) [1, 2, 3, 4, 5, 0] [(0, .ref (ad E this)), (1, .int x1), (2, .int x2), (3, .int x3), (4, .int x4), (5, .int (-1))] dX12_best_51 (by decide) rfl ?_
          refine AW.iconst (pc := 53) dX12_best_53 ci_m1 ?_
          refine AW.istore (pc := 54) [1, 2, 3, 4, 5, 6, 0] [(0, .ref (ad E this)), (1, .int x1), (2, .int x2), (3, .int x3), (4, .int x4), (5, .int (-1)), (6, .int (-1))] dX12_best_54 (by decide) rfl ?_
          refine AW.iconst (pc := 56) dX12_best_56 ci_0 ?_
          refine AW.istore (pc := 57) [1, 2, 3, 4, 5, 6, 7, 0] [(0, .ref (ad E this)), (1, .int x1), (2, .int x2), (3, .int x3), (4, .int x4), (5, .int (-1)), (6, .int (-1)), (7, .int 0)] dX12_best_57 (by decide) rfl ?_
          exact kX12_best_L59 l E n hn ct hct ex FU this x1 x2 x3 x4 (-1) (-1) 0 M12 hthis
      · exact AW.sub [0] rfl (kX12_best_B23 l E n hn ct hct ex this M3 hthis)
-- GateBoxModel.would(III)I
def zX12_would_B19 (this : Nat) (M : Mem) : Option (Int32 × Mem) :=
  bnd (zX12_fail this 1 M) fun v1 M2 =>
  some (v1, M2)
def zX12_would (this : Nat) (x1 : Int32) (x2 : Int32) (x3 : Int32) (M : Mem) : Option (Int32 × Mem) :=
  if K0 this = (0, 12) then
  lt (sI M this 2 0) fun M1 =>
  bnd (zX12_isGate x1 M1) fun v2 M3 =>
  if v2 = 0 then
    zX12_would_B19 this M3
  else
    bnd (zX12_isSetting x2 M3) fun v5 M6 =>
    if v5 = 0 then
      zX12_would_B19 this M6
    else
      bnd (zX12_isIn x3 0 60 M6) fun v8 M9 =>
      if v8 = 0 then
        bnd (zX12_fail this 2 M9) fun v11 M12 =>
        some (v11, M12)
      else
        bnd (zX12_keepRule this x1 M9) fun _ M13 =>
        bnd (zX12_put this x1 x2 M13) fun _ M14 =>
        if mR M14 this 11 ≠ 0 then
        if (K0 (mR M14 this 11)).1 = 1 ∧ inb x1 (K0 (mR M14 this 11)).2 = true then
        bnd (zX12_coinOf this x1 (mI M14 (mR M14 this 11) (Int32.toNatClampNeg x1)) x3 M14) fun v17 M18 =>
        bnd (zX12_backRule this x1 M18) fun _ M19 =>
        some (v17, M19)
        else none
        else none
  else none
set_option maxRecDepth 20000 in
set_option maxHeartbeats 4000000 in
theorem kX12_would_B19 (l : Launch) (E : Ev) (n : Nat) (hn : 13 ≤ n) (ct : Nat) (hct : 111 ≤ ct) (ex : Bool) (this : Nat) (M : Mem) (hthis : K0 this = (0, 12)) : AW l E fX12_would (fun _ => rmN n 0 0) (PQr E 0 0 ct ex enI) ct ex 0 0 19 [(0, .ref (ad E this))] [] M (zX12_would_B19 this M) := by
  unfold zX12_would_B19
  refine AW.aload_n (pc := 19) dX12_would_19 rfl 0 rfl ?_
  refine AW.iconst (pc := 20) dX12_would_20 ci_1 ?_
  refine AW.cV1i (pc := 21) dX12_would_21 mlX12_289 mbX12_fail rfl hthis (kct hthis rfl hct) (fun _ => okR_N (by omega)) (kX12_fail l E (n - 1) (by omega) ct hct ex this 1 M) (Nat.le_of_ble_eq_true rfl) (fun v1 M2 => ?_)
  exact AW.iret (pc := 24) dX12_would_24 rfl (fun _ _ _ => rfl) (Nat.le_refl _) (Nat.le_refl _)
set_option maxRecDepth 20000 in
set_option maxHeartbeats 4000000 in
theorem kX12_would (l : Launch) (E : Ev) (n : Nat) (hn : 13 ≤ n) (ct : Nat) (hct : 111 ≤ ct) (ex : Bool) (this : Nat) (x1 : Int32) (x2 : Int32) (x3 : Int32) (M : Mem) : AM l E n ct ex yX12_would fX12_would enI [.ref (ad E this), .int x1, .int x2, .int x3] M (zX12_would this x1 x2 x3 M) := by
  unfold zX12_would
  refine AM.of (by decide +kernel) ⟨rfl, rfl, rfl⟩ (Nat.le_of_ble_eq_true rfl) ?_
  refine AW.chk (fun hthis => ?_)
  refine AW.aload_n (pc := 0) dX12_would_0 rfl 0 rfl ?_
  refine AW.iconst (pc := 1) dX12_would_1 ci_0 ?_
  refine AW.putI (pc := 2) dX12_would_2 flX12_159 hthis (kct hthis rfl hct) ?_
  refine AW.genM (fun M1 => ?_)
  refine AW.iload_n (pc := 5) dX12_would_5 rfl 1 rfl ?_
  refine AW.cS1i (pc := 6) dX12_would_6 mlX12_166 mbX12_isGate (fun _ => okR_N (by omega)) (kX12_isGate l E (n - 1) (by omega) ct hct ex x1 M1) (Nat.le_of_ble_eq_true rfl) (fun v2 M3 => ?_)
  refine AW.if_eq (pc := 9) 19 dX12_would_9 (by decide) (fun h4 => ?_) (fun h4 => ?_)
  · exact AW.sub [0] rfl (kX12_would_B19 l E n hn ct hct ex this M3 hthis)
  · refine AW.iload_n (pc := 12) dX12_would_12 rfl 2 rfl ?_
    refine AW.cS1i (pc := 13) dX12_would_13 mlX12_336 mbX12_isSetting (fun _ => okR_N (by omega)) (kX12_isSetting l E (n - 1) (by omega) ct hct ex x2 M3) (Nat.le_of_ble_eq_true rfl) (fun v5 M6 => ?_)
    refine AW.if_ne (pc := 16) 25 dX12_would_16 (by decide) (fun h7 => ?_) (fun h7 => ?_)
    · exact AW.sub [0] rfl (kX12_would_B19 l E n hn ct hct ex this M6 hthis)
    · refine AW.iload_n (pc := 25) dX12_would_25 rfl 3 rfl ?_
      refine AW.iconst (pc := 26) dX12_would_26 ci_0 ?_
      refine AW.bipush (pc := 27) dX12_would_27 cb_60 ?_
      refine AW.cS3i (pc := 29) dX12_would_29 mlX12_162 mbX12_isIn (fun _ => okR_N (by omega)) (kX12_isIn l E (n - 1) (by omega) ct hct ex x3 0 60 M6) (Nat.le_of_ble_eq_true rfl) (fun v8 M9 => ?_)
      refine AW.if_ne (pc := 32) 41 dX12_would_32 (by decide) (fun h10 => ?_) (fun h10 => ?_)
      · refine AW.aload_n (pc := 35) dX12_would_35 rfl 0 rfl ?_
        refine AW.iconst (pc := 36) dX12_would_36 ci_2 ?_
        refine AW.cV1i (pc := 37) dX12_would_37 mlX12_289 mbX12_fail rfl hthis (kct hthis rfl hct) (fun _ => okR_N (by omega)) (kX12_fail l E (n - 1) (by omega) ct hct ex this 2 M9) (Nat.le_of_ble_eq_true rfl) (fun v11 M12 => ?_)
        exact AW.iret (pc := 40) dX12_would_40 rfl (fun _ _ _ => rfl) (Nat.le_refl _) (Nat.le_refl _)
      · refine AW.aload_n (pc := 41) dX12_would_41 rfl 0 rfl ?_
        refine AW.iload_n (pc := 42) dX12_would_42 rfl 1 rfl ?_
        refine AW.cV1v (pc := 43) dX12_would_43 mlX12_382 mbX12_keepRule rfl hthis (kct hthis rfl hct) (fun _ => okR_N (by omega)) (kX12_keepRule l E (n - 1) (by omega) ct hct ex this x1 M9) (Nat.le_of_ble_eq_true rfl) (fun _ M13 => ?_)
        refine AW.aload_n (pc := 46) dX12_would_46 rfl 0 rfl ?_
        refine AW.iload_n (pc := 47) dX12_would_47 rfl 1 rfl ?_
        refine AW.iload_n (pc := 48) dX12_would_48 rfl 2 rfl ?_
        refine AW.cV2v (pc := 49) dX12_would_49 mlX12_339 mbX12_put rfl hthis (kct hthis rfl hct) (fun _ => okR_N (by omega)) (kX12_put l E (n - 1) (by omega) ct hct ex this x1 x2 M13) (Nat.le_of_ble_eq_true rfl) (fun _ M14 => ?_)
        refine AW.aload_n (pc := 52) dX12_would_52 rfl 0 rfl ?_
        refine AW.iload_n (pc := 53) dX12_would_53 rfl 1 rfl ?_
        refine AW.aload_n (pc := 54) dX12_would_54 rfl 0 rfl ?_
        refine AW.chk (fun g15 => ?_)
        refine AW.getR (pc := 55) dX12_would_55 flX12_65 hthis (kct hthis rfl hct) g15 ?_
        refine AW.iload_n (pc := 58) dX12_would_58 rfl 1 rfl ?_
        refine AW.chk (fun g16 => ?_)
        refine AW.iald (pc := 59) dX12_would_59 (k0e g16.1) (kct (k0e g16.1) rfl hct) g16.2 ?_
        refine AW.iload_n (pc := 60) dX12_would_60 rfl 3 rfl ?_
        refine AW.cV3i (pc := 61) dX12_would_61 mlX12_379 mbX12_coinOf rfl hthis (kct hthis rfl hct) (fun _ => okR_N (by omega)) (kX12_coinOf l E (n - 1) (by omega) ct hct ex this x1 (mI M14 (mR M14 this 11) (Int32.toNatClampNeg x1)) x3 M14) (Nat.le_of_ble_eq_true rfl) (fun v17 M18 => ?_)
        refine AW.istore (pc := 64) [1, 2, 0] [(0, .ref (ad E this)), (1, .int x1), (4, .int v17)] dX12_would_64 (by decide) rfl ?_
        refine AW.aload_n (pc := 66) dX12_would_66 rfl 0 rfl ?_
        refine AW.iload_n (pc := 67) dX12_would_67 rfl 1 rfl ?_
        refine AW.cV1v (pc := 68) dX12_would_68 mlX12_385 mbX12_backRule rfl hthis (kct hthis rfl hct) (fun _ => okR_N (by omega)) (kX12_backRule l E (n - 1) (by omega) ct hct ex this x1 M18) (Nat.le_of_ble_eq_true rfl) (fun _ M19 => ?_)
        refine AW.iload (pc := 71) dX12_would_71 2 rfl ?_
        exact AW.iret (pc := 73) dX12_would_73 rfl (fun _ _ _ => rfl) (Nat.le_refl _) (Nat.le_refl _)
-- GateBoxModel.card(II)I
def zX12_card_B100 (KK47 : Nat → Int32 → Int32 → Int32 → Int32 → Int32 → Mem → Option (Int32 × Mem)) (this : Nat) (x1 : Int32) (x2 : Int32) (x3 : Int32) (x4 : Int32) (x5 : Int32) (M : Mem) : Option (Int32 × Mem) :=
  KK47 this x1 x2 x3 x4 (x5 + 1) M
def zX12_card_B47 (KK47 : Nat → Int32 → Int32 → Int32 → Int32 → Int32 → Mem → Option (Int32 × Mem)) (this : Nat) (x1 : Int32) (x2 : Int32) (x3 : Int32) (x4 : Int32) (x5 : Int32) (M : Mem) : Option (Int32 × Mem) :=
  if 11 ≤ x5 then
    bnd (zX12_backRule this x1 M) fun _ M2 =>
    some (x3, M2)
  else
    if mR M this 4 ≠ 0 then
    if (K0 (mR M this 4)).1 = 1 ∧ inb ((7 * x1) + 1) (K0 (mR M this 4)).2 = true then
    lt (sI M (mR M this 4) (Int32.toNatClampNeg ((7 * x1) + 1)) (x5 - 1)) fun M5 =>
    if mR M5 this 11 ≠ 0 then
    if (K0 (mR M5 this 11)).1 = 1 ∧ inb x1 (K0 (mR M5 this 11)).2 = true then
    bnd (zX12_coinOf this x1 (mI M5 (mR M5 this 11) (Int32.toNatClampNeg x1)) x2 M5) fun v8 M9 =>
    if x4 < v8 then
      zX12_card_B100 KK47 this x1 x2 x5 v8 x5 M9
    else
      zX12_card_B100 KK47 this x1 x2 x3 x4 x5 M9
    else none
    else none
    else none
    else none
def zX12_card_L47 : Nat → Nat → Int32 → Int32 → Int32 → Int32 → Int32 → Mem → Option (Int32 × Mem)
  | 0 => fun _ _ _ _ _ _ _ => none
  | k + 1 => zX12_card_B47 (zX12_card_L47 k)
def zX12_card (this : Nat) (x1 : Int32) (x2 : Int32) (M : Mem) : Option (Int32 × Mem) :=
  if K0 this = (0, 12) then
  lt (sI M this 2 0) fun M1 =>
  bnd (zX12_isGate x1 M1) fun v2 M3 =>
  if v2 = 0 then
    bnd (zX12_fail this 1 M3) fun v5 M6 =>
    some (v5, M6)
  else
    bnd (zX12_isIn x2 0 60 M3) fun v7 M8 =>
    if v7 = 0 then
      bnd (zX12_fail this 2 M8) fun v10 M11 =>
      some (v10, M11)
    else
      bnd (zX12_keepRule this x1 M8) fun _ M12 =>
      zX12_card_L47 FU this x1 x2 0 (-1) 0 M12
  else none
set_option maxRecDepth 20000 in
set_option maxHeartbeats 4000000 in
theorem kX12_card_B100 (l : Launch) (E : Ev) (n : Nat) (hn : 13 ≤ n) (ct : Nat) (hct : 111 ≤ ct) (ex : Bool) (KK47 : Nat → Int32 → Int32 → Int32 → Int32 → Int32 → Mem → Option (Int32 × Mem)) (hKK47 : ∀ (this : Nat) (x1 : Int32) (x2 : Int32) (x3 : Int32) (x4 : Int32) (x5 : Int32) (M : Mem) (_ : K0 this = (0, 12)), AW l E fX12_card (fun _ => rmN n 0 0) (PQr E 0 0 ct ex enI) ct ex 0 0 47 [(0, .ref (ad E this)), (1, .int x1), (2, .int x2), (3, .int x3), (4, .int x4), (5, .int x5)] [] M (KK47 this x1 x2 x3 x4 x5 M)) (this : Nat) (x1 : Int32) (x2 : Int32) (x3 : Int32) (x4 : Int32) (x5 : Int32) (M : Mem) (hthis : K0 this = (0, 12)) : AW l E fX12_card (fun _ => rmN n 0 0) (PQr E 0 0 ct ex enI) ct ex 0 0 100 [(0, .ref (ad E this)), (1, .int x1), (2, .int x2), (3, .int x3), (4, .int x4), (5, .int x5)] [] M (zX12_card_B100 KK47 this x1 x2 x3 x4 x5 M) := by
  unfold zX12_card_B100
  refine AW.iinc (pc := 100) (w := 5) [1, 2, 3, 4, 5, 0] [(0, .ref (ad E this)), (1, .int x1), (2, .int x2), (3, .int x3), (4, .int x4), (5, .int (x5 + 1))] dX12_card_100 rfl (inc_1 _) (by decide) rfl ?_
  refine AW.goto (pc := 103) 47 dX12_card_103 (by decide) ?_
  exact hKK47 this x1 x2 x3 x4 (x5 + 1) M hthis
set_option maxRecDepth 20000 in
set_option maxHeartbeats 4000000 in
theorem kX12_card_B47 (l : Launch) (E : Ev) (n : Nat) (hn : 13 ≤ n) (ct : Nat) (hct : 111 ≤ ct) (ex : Bool) (KK47 : Nat → Int32 → Int32 → Int32 → Int32 → Int32 → Mem → Option (Int32 × Mem)) (hKK47 : ∀ (this : Nat) (x1 : Int32) (x2 : Int32) (x3 : Int32) (x4 : Int32) (x5 : Int32) (M : Mem) (_ : K0 this = (0, 12)), AW l E fX12_card (fun _ => rmN n 0 0) (PQr E 0 0 ct ex enI) ct ex 0 0 47 [(0, .ref (ad E this)), (1, .int x1), (2, .int x2), (3, .int x3), (4, .int x4), (5, .int x5)] [] M (KK47 this x1 x2 x3 x4 x5 M)) (this : Nat) (x1 : Int32) (x2 : Int32) (x3 : Int32) (x4 : Int32) (x5 : Int32) (M : Mem) (hthis : K0 this = (0, 12)) : AW l E fX12_card (fun _ => rmN n 0 0) (PQr E 0 0 ct ex enI) ct ex 0 0 47 [(0, .ref (ad E this)), (1, .int x1), (2, .int x2), (3, .int x3), (4, .int x4), (5, .int x5)] [] M (zX12_card_B47 KK47 this x1 x2 x3 x4 x5 M) := by
  unfold zX12_card_B47
  refine AW.iload (pc := 47) dX12_card_47 5 rfl ?_
  refine AW.bipush (pc := 49) dX12_card_49 cb_11 ?_
  refine AW.icmp_ge (pc := 51) 106 dX12_card_51 (by decide) (fun h1 => ?_) (fun h1 => ?_)
  · refine AW.aload_n (pc := 106) dX12_card_106 rfl 0 rfl ?_
    refine AW.iload_n (pc := 107) dX12_card_107 rfl 1 rfl ?_
    refine AW.cV1v (pc := 108) dX12_card_108 mlX12_385 mbX12_backRule rfl hthis (kct hthis rfl hct) (fun _ => okR_N (by omega)) (kX12_backRule l E (n - 1) (by omega) ct hct ex this x1 M) (Nat.le_of_ble_eq_true rfl) (fun _ M2 => ?_)
    refine AW.iload_n (pc := 111) dX12_card_111 rfl 3 rfl ?_
    exact AW.iret (pc := 112) dX12_card_112 rfl (fun _ _ _ => rfl) (Nat.le_refl _) (Nat.le_refl _)
  · refine AW.aload_n (pc := 54) dX12_card_54 rfl 0 rfl ?_
    refine AW.chk (fun g3 => ?_)
    refine AW.getR (pc := 55) dX12_card_55 flX12_46 hthis (kct hthis rfl hct) g3 ?_
    refine AW.bipush (pc := 58) dX12_card_58 cb_7 ?_
    refine AW.iload_n (pc := 60) dX12_card_60 rfl 1 rfl ?_
    refine AW.imul (pc := 61) dX12_card_61 ?_
    refine AW.iconst (pc := 62) dX12_card_62 ci_1 ?_
    refine AW.iadd (pc := 63) dX12_card_63 ?_
    refine AW.iload (pc := 64) dX12_card_64 5 rfl ?_
    refine AW.iconst (pc := 66) dX12_card_66 ci_1 ?_
    refine AW.isub (pc := 67) dX12_card_67 ?_
    refine AW.chk (fun g4 => ?_)
    refine AW.iast (pc := 68) dX12_card_68 (k0e g4.1) (kct (k0e g4.1) rfl hct) g4.2 ?_
    refine AW.genM (fun M5 => ?_)
    refine AW.aload_n (pc := 69) dX12_card_69 rfl 0 rfl ?_
    refine AW.iload_n (pc := 70) dX12_card_70 rfl 1 rfl ?_
    refine AW.aload_n (pc := 71) dX12_card_71 rfl 0 rfl ?_
    refine AW.chk (fun g6 => ?_)
    refine AW.getR (pc := 72) dX12_card_72 flX12_65 hthis (kct hthis rfl hct) g6 ?_
    refine AW.iload_n (pc := 75) dX12_card_75 rfl 1 rfl ?_
    refine AW.chk (fun g7 => ?_)
    refine AW.iald (pc := 76) dX12_card_76 (k0e g7.1) (kct (k0e g7.1) rfl hct) g7.2 ?_
    refine AW.iload_n (pc := 77) dX12_card_77 rfl 2 rfl ?_
    refine AW.cV3i (pc := 78) dX12_card_78 mlX12_379 mbX12_coinOf rfl hthis (kct hthis rfl hct) (fun _ => okR_N (by omega)) (kX12_coinOf l E (n - 1) (by omega) ct hct ex this x1 (mI M5 (mR M5 this 11) (Int32.toNatClampNeg x1)) x2 M5) (Nat.le_of_ble_eq_true rfl) (fun v8 M9 => ?_)
    refine AW.istore (pc := 81) [1, 2, 3, 4, 5, 6, 0] [(0, .ref (ad E this)), (1, .int x1), (2, .int x2), (3, .int x3), (4, .int x4), (5, .int x5), (6, .int v8)] dX12_card_81 (by decide) rfl ?_
    refine AW.iload (pc := 83) dX12_card_83 6 rfl ?_
    refine AW.iload (pc := 85) dX12_card_85 4 rfl ?_
    refine AW.icmp_gt (pc := 87) 93 dX12_card_87 (by decide) (fun h10 => ?_) (fun h10 => ?_)
    · refine AW.iload (pc := 93) dX12_card_93 5 rfl ?_
      refine AW.istore_n (pc := 95) [1, 2, 3, 0, 5, 6] [(0, .ref (ad E this)), (1, .int x1), (2, .int x2), (3, .int x5), (5, .int x5), (6, .int v8)] dX12_card_95 rfl (by decide) rfl ?_
      refine AW.iload (pc := 96) dX12_card_96 5 rfl ?_
      refine AW.istore (pc := 98) [1, 2, 3, 4, 0, 5] [(0, .ref (ad E this)), (1, .int x1), (2, .int x2), (3, .int x5), (4, .int v8), (5, .int x5)] dX12_card_98 (by decide) rfl ?_
      exact kX12_card_B100 l E n hn ct hct ex KK47 hKK47 this x1 x2 x5 v8 x5 M9 hthis
    · refine AW.goto (pc := 90) 100 dX12_card_90 (by decide) ?_
      exact AW.sub [0, 1, 2, 3, 4, 5] rfl (kX12_card_B100 l E n hn ct hct ex KK47 hKK47 this x1 x2 x3 x4 x5 M9 hthis)
set_option maxRecDepth 20000 in
set_option maxHeartbeats 4000000 in
theorem kX12_card_L47 (l : Launch) (E : Ev) (n : Nat) (hn : 13 ≤ n) (ct : Nat) (hct : 111 ≤ ct) (ex : Bool) (k : Nat) : ∀ (this : Nat) (x1 : Int32) (x2 : Int32) (x3 : Int32) (x4 : Int32) (x5 : Int32) (M : Mem) (_ : K0 this = (0, 12)), AW l E fX12_card (fun _ => rmN n 0 0) (PQr E 0 0 ct ex enI) ct ex 0 0 47 [(0, .ref (ad E this)), (1, .int x1), (2, .int x2), (3, .int x3), (4, .int x4), (5, .int x5)] [] M (zX12_card_L47 k this x1 x2 x3 x4 x5 M) := by
  induction k with
  | zero => intro this x1 x2 x3 x4 x5 M _; exact AW.none
  | succ k ih =>
    intro this x1 x2 x3 x4 x5 M hthis
    exact kX12_card_B47 l E n hn ct hct ex (zX12_card_L47 k) ih this x1 x2 x3 x4 x5 M hthis
set_option maxRecDepth 20000 in
set_option maxHeartbeats 4000000 in
theorem kX12_card (l : Launch) (E : Ev) (n : Nat) (hn : 13 ≤ n) (ct : Nat) (hct : 111 ≤ ct) (ex : Bool) (this : Nat) (x1 : Int32) (x2 : Int32) (M : Mem) : AM l E n ct ex yX12_card fX12_card enI [.ref (ad E this), .int x1, .int x2] M (zX12_card this x1 x2 M) := by
  unfold zX12_card
  refine AM.of (by decide +kernel) ⟨rfl, rfl, rfl⟩ (Nat.le_of_ble_eq_true rfl) ?_
  refine AW.chk (fun hthis => ?_)
  refine AW.aload_n (pc := 0) dX12_card_0 rfl 0 rfl ?_
  refine AW.iconst (pc := 1) dX12_card_1 ci_0 ?_
  refine AW.putI (pc := 2) dX12_card_2 flX12_159 hthis (kct hthis rfl hct) ?_
  refine AW.genM (fun M1 => ?_)
  refine AW.iload_n (pc := 5) dX12_card_5 rfl 1 rfl ?_
  refine AW.cS1i (pc := 6) dX12_card_6 mlX12_166 mbX12_isGate (fun _ => okR_N (by omega)) (kX12_isGate l E (n - 1) (by omega) ct hct ex x1 M1) (Nat.le_of_ble_eq_true rfl) (fun v2 M3 => ?_)
  refine AW.if_ne (pc := 9) 18 dX12_card_9 (by decide) (fun h4 => ?_) (fun h4 => ?_)
  · refine AW.aload_n (pc := 12) dX12_card_12 rfl 0 rfl ?_
    refine AW.iconst (pc := 13) dX12_card_13 ci_1 ?_
    refine AW.cV1i (pc := 14) dX12_card_14 mlX12_289 mbX12_fail rfl hthis (kct hthis rfl hct) (fun _ => okR_N (by omega)) (kX12_fail l E (n - 1) (by omega) ct hct ex this 1 M3) (Nat.le_of_ble_eq_true rfl) (fun v5 M6 => ?_)
    exact AW.iret (pc := 17) dX12_card_17 rfl (fun _ _ _ => rfl) (Nat.le_refl _) (Nat.le_refl _)
  · refine AW.iload_n (pc := 18) dX12_card_18 rfl 2 rfl ?_
    refine AW.iconst (pc := 19) dX12_card_19 ci_0 ?_
    refine AW.bipush (pc := 20) dX12_card_20 cb_60 ?_
    refine AW.cS3i (pc := 22) dX12_card_22 mlX12_162 mbX12_isIn (fun _ => okR_N (by omega)) (kX12_isIn l E (n - 1) (by omega) ct hct ex x2 0 60 M3) (Nat.le_of_ble_eq_true rfl) (fun v7 M8 => ?_)
    refine AW.if_ne (pc := 25) 34 dX12_card_25 (by decide) (fun h9 => ?_) (fun h9 => ?_)
    · refine AW.aload_n (pc := 28) dX12_card_28 rfl 0 rfl ?_
      refine AW.iconst (pc := 29) dX12_card_29 ci_2 ?_
      refine AW.cV1i (pc := 30) dX12_card_30 mlX12_289 mbX12_fail rfl hthis (kct hthis rfl hct) (fun _ => okR_N (by omega)) (kX12_fail l E (n - 1) (by omega) ct hct ex this 2 M8) (Nat.le_of_ble_eq_true rfl) (fun v10 M11 => ?_)
      exact AW.iret (pc := 33) dX12_card_33 rfl (fun _ _ _ => rfl) (Nat.le_refl _) (Nat.le_refl _)
    · refine AW.aload_n (pc := 34) dX12_card_34 rfl 0 rfl ?_
      refine AW.iload_n (pc := 35) dX12_card_35 rfl 1 rfl ?_
      refine AW.cV1v (pc := 36) dX12_card_36 mlX12_382 mbX12_keepRule rfl hthis (kct hthis rfl hct) (fun _ => okR_N (by omega)) (kX12_keepRule l E (n - 1) (by omega) ct hct ex this x1 M8) (Nat.le_of_ble_eq_true rfl) (fun _ M12 => ?_)
      refine AW.iconst (pc := 39) dX12_card_39 ci_0 ?_
      refine AW.istore_n (pc := 40) [1, 2, 3, 0] [(0, .ref (ad E this)), (1, .int x1), (2, .int x2), (3, .int 0)] dX12_card_40 rfl (by decide) rfl ?_
      refine AW.iconst (pc := 41) dX12_card_41 ci_m1 ?_
      refine AW.istore (pc := 42) [1, 2, 3, 4, 0] [(0, .ref (ad E this)), (1, .int x1), (2, .int x2), (3, .int 0), (4, .int (-1))] dX12_card_42 (by decide) rfl ?_
      refine AW.iconst (pc := 44) dX12_card_44 ci_0 ?_
      refine AW.istore (pc := 45) [1, 2, 3, 4, 5, 0] [(0, .ref (ad E this)), (1, .int x1), (2, .int x2), (3, .int 0), (4, .int (-1)), (5, .int 0)] dX12_card_45 (by decide) rfl ?_
      exact kX12_card_L47 l E n hn ct hct ex FU this x1 x2 0 (-1) 0 M12 hthis
-- GateBoxModel.seeded(II)I
def zX12_seeded_B79 (KK42 : Nat → Int32 → Int32 → Int32 → Int32 → Int32 → Mem → Option (Int32 × Mem)) (this : Nat) (x1 : Int32) (x2 : Int32) (x3 : Int32) (x4 : Int32) (x5 : Int32) (M : Mem) : Option (Int32 × Mem) :=
  KK42 this x1 x2 x3 x4 (x5 + 1) M
def zX12_seeded_B42 (KK42 : Nat → Int32 → Int32 → Int32 → Int32 → Int32 → Mem → Option (Int32 × Mem)) (this : Nat) (x1 : Int32) (x2 : Int32) (x3 : Int32) (x4 : Int32) (x5 : Int32) (M : Mem) : Option (Int32 × Mem) :=
  bnd (zX12_statesOf this x1 M) fun v1 M2 =>
  if v1 ≤ x5 then
    some (x3, M2)
  else
    bnd (zX12_coinOf this x1 x5 x2 M2) fun v4 M5 =>
    if x4 < v4 then
      zX12_seeded_B79 KK42 this x1 x2 x5 v4 x5 M5
    else
      zX12_seeded_B79 KK42 this x1 x2 x3 x4 x5 M5
def zX12_seeded_L42 : Nat → Nat → Int32 → Int32 → Int32 → Int32 → Int32 → Mem → Option (Int32 × Mem)
  | 0 => fun _ _ _ _ _ _ _ => none
  | k + 1 => zX12_seeded_B42 (zX12_seeded_L42 k)
def zX12_seeded (this : Nat) (x1 : Int32) (x2 : Int32) (M : Mem) : Option (Int32 × Mem) :=
  if K0 this = (0, 12) then
  lt (sI M this 2 0) fun M1 =>
  bnd (zX12_isGate x1 M1) fun v2 M3 =>
  if v2 = 0 then
    bnd (zX12_fail this 1 M3) fun v5 M6 =>
    some (v5, M6)
  else
    bnd (zX12_isIn x2 0 60 M3) fun v7 M8 =>
    if v7 = 0 then
      bnd (zX12_fail this 2 M8) fun v10 M11 =>
      some (v10, M11)
    else
      zX12_seeded_L42 FU this x1 x2 0 (-1) 0 M8
  else none
set_option maxRecDepth 20000 in
set_option maxHeartbeats 4000000 in
theorem kX12_seeded_B79 (l : Launch) (E : Ev) (n : Nat) (hn : 13 ≤ n) (ct : Nat) (hct : 111 ≤ ct) (ex : Bool) (KK42 : Nat → Int32 → Int32 → Int32 → Int32 → Int32 → Mem → Option (Int32 × Mem)) (hKK42 : ∀ (this : Nat) (x1 : Int32) (x2 : Int32) (x3 : Int32) (x4 : Int32) (x5 : Int32) (M : Mem) (_ : K0 this = (0, 12)), AW l E fX12_seeded (fun _ => rmN n 0 0) (PQr E 0 0 ct ex enI) ct ex 0 0 42 [(0, .ref (ad E this)), (1, .int x1), (2, .int x2), (3, .int x3), (4, .int x4), (5, .int x5)] [] M (KK42 this x1 x2 x3 x4 x5 M)) (this : Nat) (x1 : Int32) (x2 : Int32) (x3 : Int32) (x4 : Int32) (x5 : Int32) (M : Mem) (hthis : K0 this = (0, 12)) : AW l E fX12_seeded (fun _ => rmN n 0 0) (PQr E 0 0 ct ex enI) ct ex 0 0 79 [(0, .ref (ad E this)), (1, .int x1), (2, .int x2), (3, .int x3), (4, .int x4), (5, .int x5)] [] M (zX12_seeded_B79 KK42 this x1 x2 x3 x4 x5 M) := by
  unfold zX12_seeded_B79
  refine AW.iinc (pc := 79) (w := 5) [1, 2, 3, 4, 5, 0] [(0, .ref (ad E this)), (1, .int x1), (2, .int x2), (3, .int x3), (4, .int x4), (5, .int (x5 + 1))] dX12_seeded_79 rfl (inc_1 _) (by decide) rfl ?_
  refine AW.goto (pc := 82) 42 dX12_seeded_82 (by decide) ?_
  exact hKK42 this x1 x2 x3 x4 (x5 + 1) M hthis
set_option maxRecDepth 20000 in
set_option maxHeartbeats 4000000 in
theorem kX12_seeded_B42 (l : Launch) (E : Ev) (n : Nat) (hn : 13 ≤ n) (ct : Nat) (hct : 111 ≤ ct) (ex : Bool) (KK42 : Nat → Int32 → Int32 → Int32 → Int32 → Int32 → Mem → Option (Int32 × Mem)) (hKK42 : ∀ (this : Nat) (x1 : Int32) (x2 : Int32) (x3 : Int32) (x4 : Int32) (x5 : Int32) (M : Mem) (_ : K0 this = (0, 12)), AW l E fX12_seeded (fun _ => rmN n 0 0) (PQr E 0 0 ct ex enI) ct ex 0 0 42 [(0, .ref (ad E this)), (1, .int x1), (2, .int x2), (3, .int x3), (4, .int x4), (5, .int x5)] [] M (KK42 this x1 x2 x3 x4 x5 M)) (this : Nat) (x1 : Int32) (x2 : Int32) (x3 : Int32) (x4 : Int32) (x5 : Int32) (M : Mem) (hthis : K0 this = (0, 12)) : AW l E fX12_seeded (fun _ => rmN n 0 0) (PQr E 0 0 ct ex enI) ct ex 0 0 42 [(0, .ref (ad E this)), (1, .int x1), (2, .int x2), (3, .int x3), (4, .int x4), (5, .int x5)] [] M (zX12_seeded_B42 KK42 this x1 x2 x3 x4 x5 M) := by
  unfold zX12_seeded_B42
  refine AW.iload (pc := 42) dX12_seeded_42 5 rfl ?_
  refine AW.aload_n (pc := 44) dX12_seeded_44 rfl 0 rfl ?_
  refine AW.iload_n (pc := 45) dX12_seeded_45 rfl 1 rfl ?_
  refine AW.cV1i (pc := 46) dX12_seeded_46 mlX12_170 mbX12_statesOf rfl hthis (kct hthis rfl hct) (fun _ => okR_N (by omega)) (kX12_statesOf l E (n - 1) (by omega) ct hct ex this x1 M) (Nat.le_of_ble_eq_true rfl) (fun v1 M2 => ?_)
  refine AW.icmp_ge (pc := 49) 85 dX12_seeded_49 (by decide) (fun h3 => ?_) (fun h3 => ?_)
  · refine AW.iload_n (pc := 85) dX12_seeded_85 rfl 3 rfl ?_
    exact AW.iret (pc := 86) dX12_seeded_86 rfl (fun _ _ _ => rfl) (Nat.le_refl _) (Nat.le_refl _)
  · refine AW.aload_n (pc := 52) dX12_seeded_52 rfl 0 rfl ?_
    refine AW.iload_n (pc := 53) dX12_seeded_53 rfl 1 rfl ?_
    refine AW.iload (pc := 54) dX12_seeded_54 5 rfl ?_
    refine AW.iload_n (pc := 56) dX12_seeded_56 rfl 2 rfl ?_
    refine AW.cV3i (pc := 57) dX12_seeded_57 mlX12_379 mbX12_coinOf rfl hthis (kct hthis rfl hct) (fun _ => okR_N (by omega)) (kX12_coinOf l E (n - 1) (by omega) ct hct ex this x1 x5 x2 M2) (Nat.le_of_ble_eq_true rfl) (fun v4 M5 => ?_)
    refine AW.istore (pc := 60) [1, 2, 3, 4, 5, 6, 0] [(0, .ref (ad E this)), (1, .int x1), (2, .int x2), (3, .int x3), (4, .int x4), (5, .int x5), (6, .int v4)] dX12_seeded_60 (by decide) rfl ?_
    refine AW.iload (pc := 62) dX12_seeded_62 6 rfl ?_
    refine AW.iload (pc := 64) dX12_seeded_64 4 rfl ?_
    refine AW.icmp_gt (pc := 66) 72 dX12_seeded_66 (by decide) (fun h6 => ?_) (fun h6 => ?_)
    · refine AW.iload (pc := 72) dX12_seeded_72 5 rfl ?_
      refine AW.istore_n (pc := 74) [1, 2, 3, 0, 5, 6] [(0, .ref (ad E this)), (1, .int x1), (2, .int x2), (3, .int x5), (5, .int x5), (6, .int v4)] dX12_seeded_74 rfl (by decide) rfl ?_
      refine AW.iload (pc := 75) dX12_seeded_75 5 rfl ?_
      refine AW.istore (pc := 77) [1, 2, 3, 4, 0, 5] [(0, .ref (ad E this)), (1, .int x1), (2, .int x2), (3, .int x5), (4, .int v4), (5, .int x5)] dX12_seeded_77 (by decide) rfl ?_
      exact kX12_seeded_B79 l E n hn ct hct ex KK42 hKK42 this x1 x2 x5 v4 x5 M5 hthis
    · refine AW.goto (pc := 69) 79 dX12_seeded_69 (by decide) ?_
      exact AW.sub [0, 1, 2, 3, 4, 5] rfl (kX12_seeded_B79 l E n hn ct hct ex KK42 hKK42 this x1 x2 x3 x4 x5 M5 hthis)
set_option maxRecDepth 20000 in
set_option maxHeartbeats 4000000 in
theorem kX12_seeded_L42 (l : Launch) (E : Ev) (n : Nat) (hn : 13 ≤ n) (ct : Nat) (hct : 111 ≤ ct) (ex : Bool) (k : Nat) : ∀ (this : Nat) (x1 : Int32) (x2 : Int32) (x3 : Int32) (x4 : Int32) (x5 : Int32) (M : Mem) (_ : K0 this = (0, 12)), AW l E fX12_seeded (fun _ => rmN n 0 0) (PQr E 0 0 ct ex enI) ct ex 0 0 42 [(0, .ref (ad E this)), (1, .int x1), (2, .int x2), (3, .int x3), (4, .int x4), (5, .int x5)] [] M (zX12_seeded_L42 k this x1 x2 x3 x4 x5 M) := by
  induction k with
  | zero => intro this x1 x2 x3 x4 x5 M _; exact AW.none
  | succ k ih =>
    intro this x1 x2 x3 x4 x5 M hthis
    exact kX12_seeded_B42 l E n hn ct hct ex (zX12_seeded_L42 k) ih this x1 x2 x3 x4 x5 M hthis
set_option maxRecDepth 20000 in
set_option maxHeartbeats 4000000 in
theorem kX12_seeded (l : Launch) (E : Ev) (n : Nat) (hn : 13 ≤ n) (ct : Nat) (hct : 111 ≤ ct) (ex : Bool) (this : Nat) (x1 : Int32) (x2 : Int32) (M : Mem) : AM l E n ct ex yX12_seeded fX12_seeded enI [.ref (ad E this), .int x1, .int x2] M (zX12_seeded this x1 x2 M) := by
  unfold zX12_seeded
  refine AM.of (by decide +kernel) ⟨rfl, rfl, rfl⟩ (Nat.le_of_ble_eq_true rfl) ?_
  refine AW.chk (fun hthis => ?_)
  refine AW.aload_n (pc := 0) dX12_seeded_0 rfl 0 rfl ?_
  refine AW.iconst (pc := 1) dX12_seeded_1 ci_0 ?_
  refine AW.putI (pc := 2) dX12_seeded_2 flX12_159 hthis (kct hthis rfl hct) ?_
  refine AW.genM (fun M1 => ?_)
  refine AW.iload_n (pc := 5) dX12_seeded_5 rfl 1 rfl ?_
  refine AW.cS1i (pc := 6) dX12_seeded_6 mlX12_166 mbX12_isGate (fun _ => okR_N (by omega)) (kX12_isGate l E (n - 1) (by omega) ct hct ex x1 M1) (Nat.le_of_ble_eq_true rfl) (fun v2 M3 => ?_)
  refine AW.if_ne (pc := 9) 18 dX12_seeded_9 (by decide) (fun h4 => ?_) (fun h4 => ?_)
  · refine AW.aload_n (pc := 12) dX12_seeded_12 rfl 0 rfl ?_
    refine AW.iconst (pc := 13) dX12_seeded_13 ci_1 ?_
    refine AW.cV1i (pc := 14) dX12_seeded_14 mlX12_289 mbX12_fail rfl hthis (kct hthis rfl hct) (fun _ => okR_N (by omega)) (kX12_fail l E (n - 1) (by omega) ct hct ex this 1 M3) (Nat.le_of_ble_eq_true rfl) (fun v5 M6 => ?_)
    exact AW.iret (pc := 17) dX12_seeded_17 rfl (fun _ _ _ => rfl) (Nat.le_refl _) (Nat.le_refl _)
  · refine AW.iload_n (pc := 18) dX12_seeded_18 rfl 2 rfl ?_
    refine AW.iconst (pc := 19) dX12_seeded_19 ci_0 ?_
    refine AW.bipush (pc := 20) dX12_seeded_20 cb_60 ?_
    refine AW.cS3i (pc := 22) dX12_seeded_22 mlX12_162 mbX12_isIn (fun _ => okR_N (by omega)) (kX12_isIn l E (n - 1) (by omega) ct hct ex x2 0 60 M3) (Nat.le_of_ble_eq_true rfl) (fun v7 M8 => ?_)
    refine AW.if_ne (pc := 25) 34 dX12_seeded_25 (by decide) (fun h9 => ?_) (fun h9 => ?_)
    · refine AW.aload_n (pc := 28) dX12_seeded_28 rfl 0 rfl ?_
      refine AW.iconst (pc := 29) dX12_seeded_29 ci_2 ?_
      refine AW.cV1i (pc := 30) dX12_seeded_30 mlX12_289 mbX12_fail rfl hthis (kct hthis rfl hct) (fun _ => okR_N (by omega)) (kX12_fail l E (n - 1) (by omega) ct hct ex this 2 M8) (Nat.le_of_ble_eq_true rfl) (fun v10 M11 => ?_)
      exact AW.iret (pc := 33) dX12_seeded_33 rfl (fun _ _ _ => rfl) (Nat.le_refl _) (Nat.le_refl _)
    · refine AW.iconst (pc := 34) dX12_seeded_34 ci_0 ?_
      refine AW.istore_n (pc := 35) [1, 2, 3, 0] [(0, .ref (ad E this)), (1, .int x1), (2, .int x2), (3, .int 0)] dX12_seeded_35 rfl (by decide) rfl ?_
      refine AW.iconst (pc := 36) dX12_seeded_36 ci_m1 ?_
      refine AW.istore (pc := 37) [1, 2, 3, 4, 0] [(0, .ref (ad E this)), (1, .int x1), (2, .int x2), (3, .int 0), (4, .int (-1))] dX12_seeded_37 (by decide) rfl ?_
      refine AW.iconst (pc := 39) dX12_seeded_39 ci_0 ?_
      refine AW.istore (pc := 40) [1, 2, 3, 4, 5, 0] [(0, .ref (ad E this)), (1, .int x1), (2, .int x2), (3, .int 0), (4, .int (-1)), (5, .int 0)] dX12_seeded_40 (by decide) rfl ?_
      exact kX12_seeded_L42 l E n hn ct hct ex FU this x1 x2 0 (-1) 0 M8 hthis
-- GateBoxModel.pays(III)Z
def zX12_pays (this : Nat) (x1 : Int32) (x2 : Int32) (x3 : Int32) (M : Mem) : Option (Int32 × Mem) :=
  if K0 this = (0, 12) then
  if mR M this 6 ≠ 0 then
  if (K0 (mR M this 6)).1 = 1 ∧ inb ((8 * x1) + x2) (K0 (mR M this 6)).2 = true then
  if (mI M (mR M this 6) (Int32.toNatClampNeg ((8 * x1) + x2))) < x3 then
    some (0, M)
  else
    if mR M this 7 ≠ 0 then
    if (K0 (mR M this 7)).1 = 1 ∧ inb ((8 * x1) + x2) (K0 (mR M this 7)).2 = true then
    if (mI M (mR M this 7) (Int32.toNatClampNeg ((8 * x1) + x2))) < x3 then
      some (0, M)
    else
      some (1, M)
    else none
    else none
  else none
  else none
  else none
set_option maxRecDepth 20000 in
set_option maxHeartbeats 4000000 in
theorem kX12_pays (l : Launch) (E : Ev) (n : Nat) (hn : 1 ≤ n) (ct : Nat) (hct : 111 ≤ ct) (ex : Bool) (this : Nat) (x1 : Int32) (x2 : Int32) (x3 : Int32) (M : Mem) : AM l E n ct ex yX12_pays fX12_pays enI [.ref (ad E this), .int x1, .int x2, .int x3] M (zX12_pays this x1 x2 x3 M) := by
  unfold zX12_pays
  refine AM.of (by decide +kernel) ⟨rfl, rfl, rfl⟩ (Nat.le_of_ble_eq_true rfl) ?_
  refine AW.chk (fun hthis => ?_)
  refine AW.aload_n (pc := 0) dX12_pays_0 rfl 0 rfl ?_
  refine AW.chk (fun g1 => ?_)
  refine AW.getR (pc := 1) dX12_pays_1 flX12_52 hthis (kct hthis rfl hct) g1 ?_
  refine AW.bipush (pc := 4) dX12_pays_4 cb_8 ?_
  refine AW.iload_n (pc := 6) dX12_pays_6 rfl 1 rfl ?_
  refine AW.imul (pc := 7) dX12_pays_7 ?_
  refine AW.iload_n (pc := 8) dX12_pays_8 rfl 2 rfl ?_
  refine AW.iadd (pc := 9) dX12_pays_9 ?_
  refine AW.chk (fun g2 => ?_)
  refine AW.iald (pc := 10) dX12_pays_10 (k0e g2.1) (kct (k0e g2.1) rfl hct) g2.2 ?_
  refine AW.iload_n (pc := 11) dX12_pays_11 rfl 3 rfl ?_
  refine AW.icmp_lt (pc := 12) 34 dX12_pays_12 (by decide) (fun h3 => ?_) (fun h3 => ?_)
  · refine AW.iconst (pc := 34) dX12_pays_34 ci_0 ?_
    exact AW.zret (pc := 35) dX12_pays_35 rfl (Or.inl rfl) (fun _ _ _ => rfl) (Nat.le_refl _) (Nat.le_refl _)
  · refine AW.aload_n (pc := 15) dX12_pays_15 rfl 0 rfl ?_
    refine AW.chk (fun g4 => ?_)
    refine AW.getR (pc := 16) dX12_pays_16 flX12_54 hthis (kct hthis rfl hct) g4 ?_
    refine AW.bipush (pc := 19) dX12_pays_19 cb_8 ?_
    refine AW.iload_n (pc := 21) dX12_pays_21 rfl 1 rfl ?_
    refine AW.imul (pc := 22) dX12_pays_22 ?_
    refine AW.iload_n (pc := 23) dX12_pays_23 rfl 2 rfl ?_
    refine AW.iadd (pc := 24) dX12_pays_24 ?_
    refine AW.chk (fun g5 => ?_)
    refine AW.iald (pc := 25) dX12_pays_25 (k0e g5.1) (kct (k0e g5.1) rfl hct) g5.2 ?_
    refine AW.iload_n (pc := 26) dX12_pays_26 rfl 3 rfl ?_
    refine AW.icmp_lt (pc := 27) 34 dX12_pays_27 (by decide) (fun h6 => ?_) (fun h6 => ?_)
    · refine AW.iconst (pc := 34) dX12_pays_34 ci_0 ?_
      exact AW.zret (pc := 35) dX12_pays_35 rfl (Or.inl rfl) (fun _ _ _ => rfl) (Nat.le_refl _) (Nat.le_refl _)
    · refine AW.iconst (pc := 30) dX12_pays_30 ci_1 ?_
      refine AW.goto (pc := 31) 35 dX12_pays_31 (by decide) ?_
      exact AW.zret (pc := 35) dX12_pays_35 rfl (Or.inr rfl) (fun _ _ _ => rfl) (Nat.le_refl _) (Nat.le_refl _)
-- GateBoxModel.oddsThatPay(II)I
def zX12_oddsThatPay_B44 (KK5 : Nat → Int32 → Int32 → Int32 → Int32 → Mem → Option (Int32 × Mem)) (this : Nat) (x1 : Int32) (x2 : Int32) (x4 : Int32) (s0 : Int32) (s1 : Int32) (M : Mem) : Option (Int32 × Mem) :=
  lt (s0 + s1) fun v1 =>
  KK5 this x1 x2 v1 (x4 + 1) M
def zX12_oddsThatPay_B5 (KK5 : Nat → Int32 → Int32 → Int32 → Int32 → Mem → Option (Int32 × Mem)) (this : Nat) (x1 : Int32) (x2 : Int32) (x3 : Int32) (x4 : Int32) (M : Mem) : Option (Int32 × Mem) :=
  if mR M this 3 ≠ 0 then
  if (K0 (mR M this 3)).1 = 1 ∧ inb x1 (K0 (mR M this 3)).2 = true then
  if (mI M (mR M this 3) (Int32.toNatClampNeg x1)) ≤ x4 then
    some (x3, M)
  else
    bnd (zX12_pays this x1 x4 x2 M) fun v4 M5 =>
    if v4 = 0 then
      zX12_oddsThatPay_B44 KK5 this x1 x2 x4 x3 0 M5
    else
      if mR M5 this 5 ≠ 0 then
      if (K0 (mR M5 this 5)).1 = 1 ∧ inb ((8 * x1) + x4) (K0 (mR M5 this 5)).2 = true then
      zX12_oddsThatPay_B44 KK5 this x1 x2 x4 x3 (mI M5 (mR M5 this 5) (Int32.toNatClampNeg ((8 * x1) + x4))) M5
      else none
      else none
  else none
  else none
def zX12_oddsThatPay_L5 : Nat → Nat → Int32 → Int32 → Int32 → Int32 → Mem → Option (Int32 × Mem)
  | 0 => fun _ _ _ _ _ _ => none
  | k + 1 => zX12_oddsThatPay_B5 (zX12_oddsThatPay_L5 k)
def zX12_oddsThatPay (this : Nat) (x1 : Int32) (x2 : Int32) (M : Mem) : Option (Int32 × Mem) :=
  if K0 this = (0, 12) then
  zX12_oddsThatPay_L5 FU this x1 x2 0 0 M
  else none
set_option maxRecDepth 20000 in
set_option maxHeartbeats 4000000 in
theorem kX12_oddsThatPay_B44 (l : Launch) (E : Ev) (n : Nat) (hn : 2 ≤ n) (ct : Nat) (hct : 111 ≤ ct) (ex : Bool) (KK5 : Nat → Int32 → Int32 → Int32 → Int32 → Mem → Option (Int32 × Mem)) (hKK5 : ∀ (this : Nat) (x1 : Int32) (x2 : Int32) (x3 : Int32) (x4 : Int32) (M : Mem) (_ : K0 this = (0, 12)), AW l E fX12_oddsThatPay (fun _ => rmN n 0 0) (PQr E 0 0 ct ex enI) ct ex 0 0 5 [(0, .ref (ad E this)), (1, .int x1), (2, .int x2), (3, .int x3), (4, .int x4)] [] M (KK5 this x1 x2 x3 x4 M)) (this : Nat) (x1 : Int32) (x2 : Int32) (x4 : Int32) (s0 : Int32) (s1 : Int32) (M : Mem) (hthis : K0 this = (0, 12)) : AW l E fX12_oddsThatPay (fun _ => rmN n 0 0) (PQr E 0 0 ct ex enI) ct ex 0 0 44 [(0, .ref (ad E this)), (1, .int x1), (2, .int x2), (4, .int x4)] [.int s1, .int s0] M (zX12_oddsThatPay_B44 KK5 this x1 x2 x4 s0 s1 M) := by
  unfold zX12_oddsThatPay_B44
  refine AW.iadd (pc := 44) dX12_oddsThatPay_44 ?_
  refine AW.genI (fun v1 => ?_)
  refine AW.istore_n (pc := 45) [1, 2, 3, 0, 4] [(0, .ref (ad E this)), (1, .int x1), (2, .int x2), (3, .int v1), (4, .int x4)] dX12_oddsThatPay_45 rfl (by decide) rfl ?_
  refine AW.iinc (pc := 46) (w := 4) [1, 2, 3, 4, 0] [(0, .ref (ad E this)), (1, .int x1), (2, .int x2), (3, .int v1), (4, .int (x4 + 1))] dX12_oddsThatPay_46 rfl (inc_1 _) (by decide) rfl ?_
  refine AW.goto (pc := 49) 5 dX12_oddsThatPay_49 (by decide) ?_
  exact hKK5 this x1 x2 v1 (x4 + 1) M hthis
set_option maxRecDepth 20000 in
set_option maxHeartbeats 4000000 in
theorem kX12_oddsThatPay_B5 (l : Launch) (E : Ev) (n : Nat) (hn : 2 ≤ n) (ct : Nat) (hct : 111 ≤ ct) (ex : Bool) (KK5 : Nat → Int32 → Int32 → Int32 → Int32 → Mem → Option (Int32 × Mem)) (hKK5 : ∀ (this : Nat) (x1 : Int32) (x2 : Int32) (x3 : Int32) (x4 : Int32) (M : Mem) (_ : K0 this = (0, 12)), AW l E fX12_oddsThatPay (fun _ => rmN n 0 0) (PQr E 0 0 ct ex enI) ct ex 0 0 5 [(0, .ref (ad E this)), (1, .int x1), (2, .int x2), (3, .int x3), (4, .int x4)] [] M (KK5 this x1 x2 x3 x4 M)) (this : Nat) (x1 : Int32) (x2 : Int32) (x3 : Int32) (x4 : Int32) (M : Mem) (hthis : K0 this = (0, 12)) : AW l E fX12_oddsThatPay (fun _ => rmN n 0 0) (PQr E 0 0 ct ex enI) ct ex 0 0 5 [(0, .ref (ad E this)), (1, .int x1), (2, .int x2), (3, .int x3), (4, .int x4)] [] M (zX12_oddsThatPay_B5 KK5 this x1 x2 x3 x4 M) := by
  unfold zX12_oddsThatPay_B5
  refine AW.iload (pc := 5) dX12_oddsThatPay_5 4 rfl ?_
  refine AW.aload_n (pc := 7) dX12_oddsThatPay_7 rfl 0 rfl ?_
  refine AW.chk (fun g1 => ?_)
  refine AW.getR (pc := 8) dX12_oddsThatPay_8 flX12_42 hthis (kct hthis rfl hct) g1 ?_
  refine AW.iload_n (pc := 11) dX12_oddsThatPay_11 rfl 1 rfl ?_
  refine AW.chk (fun g2 => ?_)
  refine AW.iald (pc := 12) dX12_oddsThatPay_12 (k0e g2.1) (kct (k0e g2.1) rfl hct) g2.2 ?_
  refine AW.icmp_ge (pc := 13) 52 dX12_oddsThatPay_13 (by decide) (fun h3 => ?_) (fun h3 => ?_)
  · refine AW.iload_n (pc := 52) dX12_oddsThatPay_52 rfl 3 rfl ?_
    exact AW.iret (pc := 53) dX12_oddsThatPay_53 rfl (fun _ _ _ => rfl) (Nat.le_refl _) (Nat.le_refl _)
  · refine AW.iload_n (pc := 16) dX12_oddsThatPay_16 rfl 3 rfl ?_
    refine AW.aload_n (pc := 17) dX12_oddsThatPay_17 rfl 0 rfl ?_
    refine AW.iload_n (pc := 18) dX12_oddsThatPay_18 rfl 1 rfl ?_
    refine AW.iload (pc := 19) dX12_oddsThatPay_19 4 rfl ?_
    refine AW.iload_n (pc := 21) dX12_oddsThatPay_21 rfl 2 rfl ?_
    refine AW.cV3i (pc := 22) dX12_oddsThatPay_22 mlX12_388 mbX12_pays rfl hthis (kct hthis rfl hct) (fun _ => okR_N (by omega)) (kX12_pays l E (n - 1) (by omega) ct hct ex this x1 x4 x2 M) (Nat.le_of_ble_eq_true rfl) (fun v4 M5 => ?_)
    refine AW.if_eq (pc := 25) 43 dX12_oddsThatPay_25 (by decide) (fun h6 => ?_) (fun h6 => ?_)
    · refine AW.iconst (pc := 43) dX12_oddsThatPay_43 ci_0 ?_
      exact AW.sub [0, 1, 2, 4] rfl (kX12_oddsThatPay_B44 l E n hn ct hct ex KK5 hKK5 this x1 x2 x4 x3 0 M5 hthis)
    · refine AW.aload_n (pc := 28) dX12_oddsThatPay_28 rfl 0 rfl ?_
      refine AW.chk (fun g7 => ?_)
      refine AW.getR (pc := 29) dX12_oddsThatPay_29 flX12_49 hthis (kct hthis rfl hct) g7 ?_
      refine AW.bipush (pc := 32) dX12_oddsThatPay_32 cb_8 ?_
      refine AW.iload_n (pc := 34) dX12_oddsThatPay_34 rfl 1 rfl ?_
      refine AW.imul (pc := 35) dX12_oddsThatPay_35 ?_
      refine AW.iload (pc := 36) dX12_oddsThatPay_36 4 rfl ?_
      refine AW.iadd (pc := 38) dX12_oddsThatPay_38 ?_
      refine AW.chk (fun g8 => ?_)
      refine AW.iald (pc := 39) dX12_oddsThatPay_39 (k0e g8.1) (kct (k0e g8.1) rfl hct) g8.2 ?_
      refine AW.goto (pc := 40) 44 dX12_oddsThatPay_40 (by decide) ?_
      exact AW.sub [0, 1, 2, 4] rfl (kX12_oddsThatPay_B44 l E n hn ct hct ex KK5 hKK5 this x1 x2 x4 x3 (mI M5 (mR M5 this 5) (Int32.toNatClampNeg ((8 * x1) + x4))) M5 hthis)
set_option maxRecDepth 20000 in
set_option maxHeartbeats 4000000 in
theorem kX12_oddsThatPay_L5 (l : Launch) (E : Ev) (n : Nat) (hn : 2 ≤ n) (ct : Nat) (hct : 111 ≤ ct) (ex : Bool) (k : Nat) : ∀ (this : Nat) (x1 : Int32) (x2 : Int32) (x3 : Int32) (x4 : Int32) (M : Mem) (_ : K0 this = (0, 12)), AW l E fX12_oddsThatPay (fun _ => rmN n 0 0) (PQr E 0 0 ct ex enI) ct ex 0 0 5 [(0, .ref (ad E this)), (1, .int x1), (2, .int x2), (3, .int x3), (4, .int x4)] [] M (zX12_oddsThatPay_L5 k this x1 x2 x3 x4 M) := by
  induction k with
  | zero => intro this x1 x2 x3 x4 M _; exact AW.none
  | succ k ih =>
    intro this x1 x2 x3 x4 M hthis
    exact kX12_oddsThatPay_B5 l E n hn ct hct ex (zX12_oddsThatPay_L5 k) ih this x1 x2 x3 x4 M hthis
set_option maxRecDepth 20000 in
set_option maxHeartbeats 4000000 in
theorem kX12_oddsThatPay (l : Launch) (E : Ev) (n : Nat) (hn : 2 ≤ n) (ct : Nat) (hct : 111 ≤ ct) (ex : Bool) (this : Nat) (x1 : Int32) (x2 : Int32) (M : Mem) : AM l E n ct ex yX12_oddsThatPay fX12_oddsThatPay enI [.ref (ad E this), .int x1, .int x2] M (zX12_oddsThatPay this x1 x2 M) := by
  unfold zX12_oddsThatPay
  refine AM.of (by decide +kernel) ⟨rfl, rfl, rfl⟩ (Nat.le_of_ble_eq_true rfl) ?_
  refine AW.chk (fun hthis => ?_)
  refine AW.iconst (pc := 0) dX12_oddsThatPay_0 ci_0 ?_
  refine AW.istore_n (pc := 1) [1, 2, 3, 0] [(0, .ref (ad E this)), (1, .int x1), (2, .int x2), (3, .int 0)] dX12_oddsThatPay_1 rfl (by decide) rfl ?_
  refine AW.iconst (pc := 2) dX12_oddsThatPay_2 ci_0 ?_
  refine AW.istore (pc := 3) [1, 2, 3, 4, 0] [(0, .ref (ad E this)), (1, .int x1), (2, .int x2), (3, .int 0), (4, .int 0)] dX12_oddsThatPay_3 (by decide) rfl ?_
  exact kX12_oddsThatPay_L5 l E n hn ct hct ex FU this x1 x2 0 0 M hthis
-- GateBoxModel.takenBy(II)I
def zX12_takenBy (this : Nat) (x1 : Int32) (x2 : Int32) (M : Mem) : Option (Int32 × Mem) :=
  if K0 this = (0, 12) then
  if mR M this 3 ≠ 0 then
  if (K0 (mR M this 3)).1 = 1 ∧ inb x1 (K0 (mR M this 3)).2 = true then
  if (mI M (mR M this 3) (Int32.toNatClampNeg x1)) = 0 then
    some (0, M)
  else
    bnd (zX12_oddsThatPay this x1 x2 M) fun v4 M5 =>
    bnd (zX12_oddsOf this x1 M5) fun v6 M7 =>
    if ¬ v6 = 0 then
    some (((1000 * x2) * v4) / v6, M7)
    else none
  else none
  else none
  else none
set_option maxRecDepth 20000 in
set_option maxHeartbeats 4000000 in
theorem kX12_takenBy (l : Launch) (E : Ev) (n : Nat) (hn : 3 ≤ n) (ct : Nat) (hct : 111 ≤ ct) (ex : Bool) (this : Nat) (x1 : Int32) (x2 : Int32) (M : Mem) : AM l E n ct ex yX12_takenBy fX12_takenBy enI [.ref (ad E this), .int x1, .int x2] M (zX12_takenBy this x1 x2 M) := by
  unfold zX12_takenBy
  refine AM.of (by decide +kernel) ⟨rfl, rfl, rfl⟩ (Nat.le_of_ble_eq_true rfl) ?_
  refine AW.chk (fun hthis => ?_)
  refine AW.aload_n (pc := 0) dX12_takenBy_0 rfl 0 rfl ?_
  refine AW.chk (fun g1 => ?_)
  refine AW.getR (pc := 1) dX12_takenBy_1 flX12_42 hthis (kct hthis rfl hct) g1 ?_
  refine AW.iload_n (pc := 4) dX12_takenBy_4 rfl 1 rfl ?_
  refine AW.chk (fun g2 => ?_)
  refine AW.iald (pc := 5) dX12_takenBy_5 (k0e g2.1) (kct (k0e g2.1) rfl hct) g2.2 ?_
  refine AW.if_ne (pc := 6) 13 dX12_takenBy_6 (by decide) (fun h3 => ?_) (fun h3 => ?_)
  · refine AW.iconst (pc := 9) dX12_takenBy_9 ci_0 ?_
    refine AW.goto (pc := 10) 31 dX12_takenBy_10 (by decide) ?_
    exact AW.iret (pc := 31) dX12_takenBy_31 rfl (fun _ _ _ => rfl) (Nat.le_refl _) (Nat.le_refl _)
  · refine AW.sipush (pc := 13) dX12_takenBy_13 cs_1000 ?_
    refine AW.iload_n (pc := 16) dX12_takenBy_16 rfl 2 rfl ?_
    refine AW.imul (pc := 17) dX12_takenBy_17 ?_
    refine AW.aload_n (pc := 18) dX12_takenBy_18 rfl 0 rfl ?_
    refine AW.iload_n (pc := 19) dX12_takenBy_19 rfl 1 rfl ?_
    refine AW.iload_n (pc := 20) dX12_takenBy_20 rfl 2 rfl ?_
    refine AW.cV2i (pc := 21) dX12_takenBy_21 mlX12_391 mbX12_oddsThatPay rfl hthis (kct hthis rfl hct) (fun _ => okR_N (by omega)) (kX12_oddsThatPay l E (n - 1) (by omega) ct hct ex this x1 x2 M) (Nat.le_of_ble_eq_true rfl) (fun v4 M5 => ?_)
    refine AW.imul (pc := 24) dX12_takenBy_24 ?_
    refine AW.aload_n (pc := 25) dX12_takenBy_25 rfl 0 rfl ?_
    refine AW.iload_n (pc := 26) dX12_takenBy_26 rfl 1 rfl ?_
    refine AW.cV1i (pc := 27) dX12_takenBy_27 mlX12_302 mbX12_oddsOf rfl hthis (kct hthis rfl hct) (fun _ => okR_N (by omega)) (kX12_oddsOf l E (n - 1) (by omega) ct hct ex this x1 M5) (Nat.le_of_ble_eq_true rfl) (fun v6 M7 => ?_)
    refine AW.chk (fun g8 => ?_)
    refine AW.idiv (pc := 30) dX12_takenBy_30 g8 ?_
    exact AW.iret (pc := 31) dX12_takenBy_31 rfl (fun _ _ _ => rfl) (Nat.le_refl _) (Nat.le_refl _)
-- GateBoxModel.price(III)I
def zX12_price_B164 (KK63 : Nat → Int32 → Int32 → Int32 → Int32 → Int32 → Mem → Option (Int32 × Mem)) (this : Nat) (x1 : Int32) (x2 : Int32) (x3 : Int32) (x5 : Int32) (s0 : Int32) (s1 : Int32) (M : Mem) : Option (Int32 × Mem) :=
  lt (s0 + s1) fun v1 =>
  KK63 this x1 x2 x3 v1 (x5 + 1) M
def zX12_price_B139 (KK63 : Nat → Int32 → Int32 → Int32 → Int32 → Int32 → Mem → Option (Int32 × Mem)) (this : Nat) (x1 : Int32) (x2 : Int32) (x3 : Int32) (x4 : Int32) (x5 : Int32) (s0 : Int32) (M : Mem) : Option (Int32 × Mem) :=
  if s0 = 0 then
    zX12_price_B164 KK63 this x1 x2 x3 x5 x4 0 M
  else
    if mR M this 5 ≠ 0 then
    if (K0 (mR M this 5)).1 = 1 ∧ inb ((8 * x1) + x5) (K0 (mR M this 5)).2 = true then
    zX12_price_B164 KK63 this x1 x2 x3 x5 x4 (mI M (mR M this 5) (Int32.toNatClampNeg ((8 * x1) + x5))) M
    else none
    else none
def zX12_price_B138 (KK63 : Nat → Int32 → Int32 → Int32 → Int32 → Int32 → Mem → Option (Int32 × Mem)) (this : Nat) (x1 : Int32) (x2 : Int32) (x3 : Int32) (x4 : Int32) (x5 : Int32) (M : Mem) : Option (Int32 × Mem) :=
  zX12_price_B139 KK63 this x1 x2 x3 x4 x5 0 M
def zX12_price_B134 (KK63 : Nat → Int32 → Int32 → Int32 → Int32 → Int32 → Mem → Option (Int32 × Mem)) (this : Nat) (x1 : Int32) (x2 : Int32) (x3 : Int32) (x4 : Int32) (x5 : Int32) (M : Mem) : Option (Int32 × Mem) :=
  zX12_price_B139 KK63 this x1 x2 x3 x4 x5 1 M
def zX12_price_B105 (KK63 : Nat → Int32 → Int32 → Int32 → Int32 → Int32 → Mem → Option (Int32 × Mem)) (this : Nat) (x1 : Int32) (x2 : Int32) (x3 : Int32) (x4 : Int32) (x5 : Int32) (x6 : Int32) (s0 : Int32) (M : Mem) : Option (Int32 × Mem) :=
  if x3 = 2 then
    zX12_price_B139 KK63 this x1 x2 x3 x4 x5 s0 M
  else
    if x6 = (-1) then
      zX12_price_B138 KK63 this x1 x2 x3 x4 x5 M
    else
      if s0 = 0 then
        if x2 ≤ x6 then
          zX12_price_B138 KK63 this x1 x2 x3 x4 x5 M
        else
          zX12_price_B134 KK63 this x1 x2 x3 x4 x5 M
      else
        zX12_price_B134 KK63 this x1 x2 x3 x4 x5 M
def zX12_price_B63 (KK63 : Nat → Int32 → Int32 → Int32 → Int32 → Int32 → Mem → Option (Int32 × Mem)) (this : Nat) (x1 : Int32) (x2 : Int32) (x3 : Int32) (x4 : Int32) (x5 : Int32) (M : Mem) : Option (Int32 × Mem) :=
  if mR M this 3 ≠ 0 then
  if (K0 (mR M this 3)).1 = 1 ∧ inb x1 (K0 (mR M this 3)).2 = true then
  if (mI M (mR M this 3) (Int32.toNatClampNeg x1)) ≤ x5 then
    bnd (zX12_oddsOf this x1 M) fun v4 M5 =>
    if ¬ v4 = 0 then
    some ((1000 * x4) / v4, M5)
    else none
  else
    if mR M this 11 ≠ 0 then
    if (K0 (mR M this 11)).1 = 1 ∧ inb x1 (K0 (mR M this 11)).2 = true then
    bnd (zX12_gift this x1 x5 (mI M (mR M this 11) (Int32.toNatClampNeg x1)) M) fun v9 M10 =>
    bnd (zX12_pays this x1 x5 x2 M10) fun v11 M12 =>
    if v11 = 0 then
      zX12_price_B105 KK63 this x1 x2 x3 x4 x5 v9 1 M12
    else
      zX12_price_B105 KK63 this x1 x2 x3 x4 x5 v9 0 M12
    else none
    else none
  else none
  else none
def zX12_price_L63 : Nat → Nat → Int32 → Int32 → Int32 → Int32 → Int32 → Mem → Option (Int32 × Mem)
  | 0 => fun _ _ _ _ _ _ _ => none
  | k + 1 => zX12_price_B63 (zX12_price_L63 k)
def zX12_price_B50 (this : Nat) (x1 : Int32) (x2 : Int32) (M : Mem) : Option (Int32 × Mem) :=
  bnd (zX12_takenBy this x1 x2 M) fun v1 M2 =>
  some (v1, M2)
def zX12_price_B31 (this : Nat) (M : Mem) : Option (Int32 × Mem) :=
  bnd (zX12_fail this 1 M) fun v1 M2 =>
  some (v1, M2)
def zX12_price (this : Nat) (x1 : Int32) (x2 : Int32) (x3 : Int32) (M : Mem) : Option (Int32 × Mem) :=
  if K0 this = (0, 12) then
  lt (sI M this 2 0) fun M1 =>
  bnd (zX12_isGate x1 M1) fun v2 M3 =>
  if v2 = 0 then
    zX12_price_B31 this M3
  else
    bnd (zX12_isIn x2 0 9 M3) fun v5 M6 =>
    if v5 = 0 then
      zX12_price_B31 this M6
    else
      bnd (zX12_isIn x3 0 2 M6) fun v8 M9 =>
      if v8 = 0 then
        zX12_price_B31 this M9
      else
        if x3 = 0 then
          zX12_price_B50 this x1 x2 M9
        else
          if mR M9 this 3 ≠ 0 then
          if (K0 (mR M9 this 3)).1 = 1 ∧ inb x1 (K0 (mR M9 this 3)).2 = true then
          if (mI M9 (mR M9 this 3) (Int32.toNatClampNeg x1)) = 0 then
            zX12_price_B50 this x1 x2 M9
          else
            zX12_price_L63 FU this x1 x2 x3 0 0 M9
          else none
          else none
  else none
set_option maxRecDepth 20000 in
set_option maxHeartbeats 4000000 in
theorem kX12_price_B164 (l : Launch) (E : Ev) (n : Nat) (hn : 10 ≤ n) (ct : Nat) (hct : 111 ≤ ct) (ex : Bool) (KK63 : Nat → Int32 → Int32 → Int32 → Int32 → Int32 → Mem → Option (Int32 × Mem)) (hKK63 : ∀ (this : Nat) (x1 : Int32) (x2 : Int32) (x3 : Int32) (x4 : Int32) (x5 : Int32) (M : Mem) (_ : K0 this = (0, 12)), AW l E fX12_price (fun _ => rmN n 0 0) (PQr E 0 0 ct ex enI) ct ex 0 0 63 [(0, .ref (ad E this)), (1, .int x1), (2, .int x2), (3, .int x3), (4, .int x4), (5, .int x5)] [] M (KK63 this x1 x2 x3 x4 x5 M)) (this : Nat) (x1 : Int32) (x2 : Int32) (x3 : Int32) (x5 : Int32) (s0 : Int32) (s1 : Int32) (M : Mem) (hthis : K0 this = (0, 12)) : AW l E fX12_price (fun _ => rmN n 0 0) (PQr E 0 0 ct ex enI) ct ex 0 0 164 [(0, .ref (ad E this)), (1, .int x1), (2, .int x2), (3, .int x3), (5, .int x5)] [.int s1, .int s0] M (zX12_price_B164 KK63 this x1 x2 x3 x5 s0 s1 M) := by
  unfold zX12_price_B164
  refine AW.iadd (pc := 164) dX12_price_164 ?_
  refine AW.genI (fun v1 => ?_)
  refine AW.istore (pc := 165) [1, 2, 3, 4, 0, 5] [(0, .ref (ad E this)), (1, .int x1), (2, .int x2), (3, .int x3), (4, .int v1), (5, .int x5)] dX12_price_165 (by decide) rfl ?_
  refine AW.iinc (pc := 167) (w := 5) [1, 2, 3, 4, 5, 0] [(0, .ref (ad E this)), (1, .int x1), (2, .int x2), (3, .int x3), (4, .int v1), (5, .int (x5 + 1))] dX12_price_167 rfl (inc_1 _) (by decide) rfl ?_
  refine AW.goto (pc := 170) 63 dX12_price_170 (by decide) ?_
  exact hKK63 this x1 x2 x3 v1 (x5 + 1) M hthis
set_option maxRecDepth 20000 in
set_option maxHeartbeats 4000000 in
theorem kX12_price_B139 (l : Launch) (E : Ev) (n : Nat) (hn : 10 ≤ n) (ct : Nat) (hct : 111 ≤ ct) (ex : Bool) (KK63 : Nat → Int32 → Int32 → Int32 → Int32 → Int32 → Mem → Option (Int32 × Mem)) (hKK63 : ∀ (this : Nat) (x1 : Int32) (x2 : Int32) (x3 : Int32) (x4 : Int32) (x5 : Int32) (M : Mem) (_ : K0 this = (0, 12)), AW l E fX12_price (fun _ => rmN n 0 0) (PQr E 0 0 ct ex enI) ct ex 0 0 63 [(0, .ref (ad E this)), (1, .int x1), (2, .int x2), (3, .int x3), (4, .int x4), (5, .int x5)] [] M (KK63 this x1 x2 x3 x4 x5 M)) (this : Nat) (x1 : Int32) (x2 : Int32) (x3 : Int32) (x4 : Int32) (x5 : Int32) (s0 : Int32) (M : Mem) (hthis : K0 this = (0, 12)) : AW l E fX12_price (fun _ => rmN n 0 0) (PQr E 0 0 ct ex enI) ct ex 0 0 139 [(0, .ref (ad E this)), (1, .int x1), (2, .int x2), (3, .int x3), (4, .int x4), (5, .int x5)] [.int s0] M (zX12_price_B139 KK63 this x1 x2 x3 x4 x5 s0 M) := by
  unfold zX12_price_B139
  refine AW.istore (pc := 139) [1, 2, 3, 4, 5, 6, 0] [(0, .ref (ad E this)), (1, .int x1), (2, .int x2), (3, .int x3), (4, .int x4), (5, .int x5), (8, .int s0)] dX12_price_139 (by decide) rfl ?_
  refine AW.iload (pc := 141) dX12_price_141 4 rfl ?_
  refine AW.iload (pc := 143) dX12_price_143 6 rfl ?_
  refine AW.if_eq (pc := 145) 163 dX12_price_145 (by decide) (fun h1 => ?_) (fun h1 => ?_)
  · refine AW.iconst (pc := 163) dX12_price_163 ci_0 ?_
    exact AW.sub [0, 1, 2, 3, 5] rfl (kX12_price_B164 l E n hn ct hct ex KK63 hKK63 this x1 x2 x3 x5 x4 0 M hthis)
  · refine AW.aload_n (pc := 148) dX12_price_148 rfl 0 rfl ?_
    refine AW.chk (fun g2 => ?_)
    refine AW.getR (pc := 149) dX12_price_149 flX12_49 hthis (kct hthis rfl hct) g2 ?_
    refine AW.bipush (pc := 152) dX12_price_152 cb_8 ?_
    refine AW.iload_n (pc := 154) dX12_price_154 rfl 1 rfl ?_
    refine AW.imul (pc := 155) dX12_price_155 ?_
    refine AW.iload (pc := 156) dX12_price_156 5 rfl ?_
    refine AW.iadd (pc := 158) dX12_price_158 ?_
    refine AW.chk (fun g3 => ?_)
    refine AW.iald (pc := 159) dX12_price_159 (k0e g3.1) (kct (k0e g3.1) rfl hct) g3.2 ?_
    refine AW.goto (pc := 160) 164 dX12_price_160 (by decide) ?_
    exact AW.sub [0, 1, 2, 3, 5] rfl (kX12_price_B164 l E n hn ct hct ex KK63 hKK63 this x1 x2 x3 x5 x4 (mI M (mR M this 5) (Int32.toNatClampNeg ((8 * x1) + x5))) M hthis)
set_option maxRecDepth 20000 in
set_option maxHeartbeats 4000000 in
theorem kX12_price_B138 (l : Launch) (E : Ev) (n : Nat) (hn : 10 ≤ n) (ct : Nat) (hct : 111 ≤ ct) (ex : Bool) (KK63 : Nat → Int32 → Int32 → Int32 → Int32 → Int32 → Mem → Option (Int32 × Mem)) (hKK63 : ∀ (this : Nat) (x1 : Int32) (x2 : Int32) (x3 : Int32) (x4 : Int32) (x5 : Int32) (M : Mem) (_ : K0 this = (0, 12)), AW l E fX12_price (fun _ => rmN n 0 0) (PQr E 0 0 ct ex enI) ct ex 0 0 63 [(0, .ref (ad E this)), (1, .int x1), (2, .int x2), (3, .int x3), (4, .int x4), (5, .int x5)] [] M (KK63 this x1 x2 x3 x4 x5 M)) (this : Nat) (x1 : Int32) (x2 : Int32) (x3 : Int32) (x4 : Int32) (x5 : Int32) (M : Mem) (hthis : K0 this = (0, 12)) : AW l E fX12_price (fun _ => rmN n 0 0) (PQr E 0 0 ct ex enI) ct ex 0 0 138 [(0, .ref (ad E this)), (1, .int x1), (2, .int x2), (3, .int x3), (4, .int x4), (5, .int x5)] [] M (zX12_price_B138 KK63 this x1 x2 x3 x4 x5 M) := by
  unfold zX12_price_B138
  refine AW.iconst (pc := 138) dX12_price_138 ci_0 ?_
  exact kX12_price_B139 l E n hn ct hct ex KK63 hKK63 this x1 x2 x3 x4 x5 0 M hthis
set_option maxRecDepth 20000 in
set_option maxHeartbeats 4000000 in
theorem kX12_price_B134 (l : Launch) (E : Ev) (n : Nat) (hn : 10 ≤ n) (ct : Nat) (hct : 111 ≤ ct) (ex : Bool) (KK63 : Nat → Int32 → Int32 → Int32 → Int32 → Int32 → Mem → Option (Int32 × Mem)) (hKK63 : ∀ (this : Nat) (x1 : Int32) (x2 : Int32) (x3 : Int32) (x4 : Int32) (x5 : Int32) (M : Mem) (_ : K0 this = (0, 12)), AW l E fX12_price (fun _ => rmN n 0 0) (PQr E 0 0 ct ex enI) ct ex 0 0 63 [(0, .ref (ad E this)), (1, .int x1), (2, .int x2), (3, .int x3), (4, .int x4), (5, .int x5)] [] M (KK63 this x1 x2 x3 x4 x5 M)) (this : Nat) (x1 : Int32) (x2 : Int32) (x3 : Int32) (x4 : Int32) (x5 : Int32) (M : Mem) (hthis : K0 this = (0, 12)) : AW l E fX12_price (fun _ => rmN n 0 0) (PQr E 0 0 ct ex enI) ct ex 0 0 134 [(0, .ref (ad E this)), (1, .int x1), (2, .int x2), (3, .int x3), (4, .int x4), (5, .int x5)] [] M (zX12_price_B134 KK63 this x1 x2 x3 x4 x5 M) := by
  unfold zX12_price_B134
  refine AW.iconst (pc := 134) dX12_price_134 ci_1 ?_
  refine AW.goto (pc := 135) 139 dX12_price_135 (by decide) ?_
  exact kX12_price_B139 l E n hn ct hct ex KK63 hKK63 this x1 x2 x3 x4 x5 1 M hthis
set_option maxRecDepth 20000 in
set_option maxHeartbeats 4000000 in
theorem kX12_price_B105 (l : Launch) (E : Ev) (n : Nat) (hn : 10 ≤ n) (ct : Nat) (hct : 111 ≤ ct) (ex : Bool) (KK63 : Nat → Int32 → Int32 → Int32 → Int32 → Int32 → Mem → Option (Int32 × Mem)) (hKK63 : ∀ (this : Nat) (x1 : Int32) (x2 : Int32) (x3 : Int32) (x4 : Int32) (x5 : Int32) (M : Mem) (_ : K0 this = (0, 12)), AW l E fX12_price (fun _ => rmN n 0 0) (PQr E 0 0 ct ex enI) ct ex 0 0 63 [(0, .ref (ad E this)), (1, .int x1), (2, .int x2), (3, .int x3), (4, .int x4), (5, .int x5)] [] M (KK63 this x1 x2 x3 x4 x5 M)) (this : Nat) (x1 : Int32) (x2 : Int32) (x3 : Int32) (x4 : Int32) (x5 : Int32) (x6 : Int32) (s0 : Int32) (M : Mem) (hthis : K0 this = (0, 12)) : AW l E fX12_price (fun _ => rmN n 0 0) (PQr E 0 0 ct ex enI) ct ex 0 0 105 [(0, .ref (ad E this)), (1, .int x1), (2, .int x2), (3, .int x3), (4, .int x4), (5, .int x5), (6, .int x6)] [.int s0] M (zX12_price_B105 KK63 this x1 x2 x3 x4 x5 x6 s0 M) := by
  unfold zX12_price_B105
  refine AW.istore (pc := 105) [1, 2, 3, 4, 5, 6, 7, 0] [(0, .ref (ad E this)), (1, .int x1), (2, .int x2), (3, .int x3), (4, .int x4), (5, .int x5), (6, .int x6), (7, .int s0)] dX12_price_105 (by decide) rfl ?_
  refine AW.iload_n (pc := 107) dX12_price_107 rfl 3 rfl ?_
  refine AW.iconst (pc := 108) dX12_price_108 ci_2 ?_
  refine AW.icmp_ne (pc := 109) 117 dX12_price_109 (by decide) (fun h1 => ?_) (fun h1 => ?_)
  · refine AW.iload (pc := 112) dX12_price_112 7 rfl ?_
    refine AW.goto (pc := 114) 139 dX12_price_114 (by decide) ?_
    exact AW.sub [0, 1, 2, 3, 4, 5] rfl (kX12_price_B139 l E n hn ct hct ex KK63 hKK63 this x1 x2 x3 x4 x5 s0 M hthis)
  · refine AW.iload (pc := 117) dX12_price_117 6 rfl ?_
    refine AW.iconst (pc := 119) dX12_price_119 ci_m1 ?_
    refine AW.icmp_eq (pc := 120) 138 dX12_price_120 (by decide) (fun h2 => ?_) (fun h2 => ?_)
    · exact AW.sub [0, 1, 2, 3, 4, 5] rfl (kX12_price_B138 l E n hn ct hct ex KK63 hKK63 this x1 x2 x3 x4 x5 M hthis)
    · refine AW.iload (pc := 123) dX12_price_123 7 rfl ?_
      refine AW.if_ne (pc := 125) 134 dX12_price_125 (by decide) (fun h3 => ?_) (fun h3 => ?_)
      · refine AW.iload (pc := 128) dX12_price_128 6 rfl ?_
        refine AW.iload_n (pc := 130) dX12_price_130 rfl 2 rfl ?_
        refine AW.icmp_ge (pc := 131) 138 dX12_price_131 (by decide) (fun h4 => ?_) (fun h4 => ?_)
        · exact AW.sub [0, 1, 2, 3, 4, 5] rfl (kX12_price_B138 l E n hn ct hct ex KK63 hKK63 this x1 x2 x3 x4 x5 M hthis)
        · exact AW.sub [0, 1, 2, 3, 4, 5] rfl (kX12_price_B134 l E n hn ct hct ex KK63 hKK63 this x1 x2 x3 x4 x5 M hthis)
      · exact AW.sub [0, 1, 2, 3, 4, 5] rfl (kX12_price_B134 l E n hn ct hct ex KK63 hKK63 this x1 x2 x3 x4 x5 M hthis)
set_option maxRecDepth 20000 in
set_option maxHeartbeats 4000000 in
theorem kX12_price_B63 (l : Launch) (E : Ev) (n : Nat) (hn : 10 ≤ n) (ct : Nat) (hct : 111 ≤ ct) (ex : Bool) (KK63 : Nat → Int32 → Int32 → Int32 → Int32 → Int32 → Mem → Option (Int32 × Mem)) (hKK63 : ∀ (this : Nat) (x1 : Int32) (x2 : Int32) (x3 : Int32) (x4 : Int32) (x5 : Int32) (M : Mem) (_ : K0 this = (0, 12)), AW l E fX12_price (fun _ => rmN n 0 0) (PQr E 0 0 ct ex enI) ct ex 0 0 63 [(0, .ref (ad E this)), (1, .int x1), (2, .int x2), (3, .int x3), (4, .int x4), (5, .int x5)] [] M (KK63 this x1 x2 x3 x4 x5 M)) (this : Nat) (x1 : Int32) (x2 : Int32) (x3 : Int32) (x4 : Int32) (x5 : Int32) (M : Mem) (hthis : K0 this = (0, 12)) : AW l E fX12_price (fun _ => rmN n 0 0) (PQr E 0 0 ct ex enI) ct ex 0 0 63 [(0, .ref (ad E this)), (1, .int x1), (2, .int x2), (3, .int x3), (4, .int x4), (5, .int x5)] [] M (zX12_price_B63 KK63 this x1 x2 x3 x4 x5 M) := by
  unfold zX12_price_B63
  refine AW.iload (pc := 63) dX12_price_63 5 rfl ?_
  refine AW.aload_n (pc := 65) dX12_price_65 rfl 0 rfl ?_
  refine AW.chk (fun g1 => ?_)
  refine AW.getR (pc := 66) dX12_price_66 flX12_42 hthis (kct hthis rfl hct) g1 ?_
  refine AW.iload_n (pc := 69) dX12_price_69 rfl 1 rfl ?_
  refine AW.chk (fun g2 => ?_)
  refine AW.iald (pc := 70) dX12_price_70 (k0e g2.1) (kct (k0e g2.1) rfl hct) g2.2 ?_
  refine AW.icmp_ge (pc := 71) 173 dX12_price_71 (by decide) (fun h3 => ?_) (fun h3 => ?_)
  · refine AW.sipush (pc := 173) dX12_price_173 cs_1000 ?_
    refine AW.iload (pc := 176) dX12_price_176 4 rfl ?_
    refine AW.imul (pc := 178) dX12_price_178 ?_
    refine AW.aload_n (pc := 179) dX12_price_179 rfl 0 rfl ?_
    refine AW.iload_n (pc := 180) dX12_price_180 rfl 1 rfl ?_
    refine AW.cV1i (pc := 181) dX12_price_181 mlX12_302 mbX12_oddsOf rfl hthis (kct hthis rfl hct) (fun _ => okR_N (by omega)) (kX12_oddsOf l E (n - 1) (by omega) ct hct ex this x1 M) (Nat.le_of_ble_eq_true rfl) (fun v4 M5 => ?_)
    refine AW.chk (fun g6 => ?_)
    refine AW.idiv (pc := 184) dX12_price_184 g6 ?_
    exact AW.iret (pc := 185) dX12_price_185 rfl (fun _ _ _ => rfl) (Nat.le_refl _) (Nat.le_refl _)
  · refine AW.aload_n (pc := 74) dX12_price_74 rfl 0 rfl ?_
    refine AW.iload_n (pc := 75) dX12_price_75 rfl 1 rfl ?_
    refine AW.iload (pc := 76) dX12_price_76 5 rfl ?_
    refine AW.aload_n (pc := 78) dX12_price_78 rfl 0 rfl ?_
    refine AW.chk (fun g7 => ?_)
    refine AW.getR (pc := 79) dX12_price_79 flX12_65 hthis (kct hthis rfl hct) g7 ?_
    refine AW.iload_n (pc := 82) dX12_price_82 rfl 1 rfl ?_
    refine AW.chk (fun g8 => ?_)
    refine AW.iald (pc := 83) dX12_price_83 (k0e g8.1) (kct (k0e g8.1) rfl hct) g8.2 ?_
    refine AW.cV3i (pc := 84) dX12_price_84 mlX12_330 mbX12_gift rfl hthis (kct hthis rfl hct) (fun _ => okR_N (by omega)) (kX12_gift l E (n - 1) (by omega) ct hct ex this x1 x5 (mI M (mR M this 11) (Int32.toNatClampNeg x1)) M) (Nat.le_of_ble_eq_true rfl) (fun v9 M10 => ?_)
    refine AW.istore (pc := 87) [1, 2, 3, 4, 5, 6, 0] [(0, .ref (ad E this)), (1, .int x1), (2, .int x2), (3, .int x3), (4, .int x4), (5, .int x5), (6, .int v9)] dX12_price_87 (by decide) rfl ?_
    refine AW.aload_n (pc := 89) dX12_price_89 rfl 0 rfl ?_
    refine AW.iload_n (pc := 90) dX12_price_90 rfl 1 rfl ?_
    refine AW.iload (pc := 91) dX12_price_91 5 rfl ?_
    refine AW.iload_n (pc := 93) dX12_price_93 rfl 2 rfl ?_
    refine AW.cV3i (pc := 94) dX12_price_94 mlX12_388 mbX12_pays rfl hthis (kct hthis rfl hct) (fun _ => okR_N (by omega)) (kX12_pays l E (n - 1) (by omega) ct hct ex this x1 x5 x2 M10) (Nat.le_of_ble_eq_true rfl) (fun v11 M12 => ?_)
    refine AW.if_ne (pc := 97) 104 dX12_price_97 (by decide) (fun h13 => ?_) (fun h13 => ?_)
    · refine AW.iconst (pc := 100) dX12_price_100 ci_1 ?_
      refine AW.goto (pc := 101) 105 dX12_price_101 (by decide) ?_
      exact kX12_price_B105 l E n hn ct hct ex KK63 hKK63 this x1 x2 x3 x4 x5 v9 1 M12 hthis
    · refine AW.iconst (pc := 104) dX12_price_104 ci_0 ?_
      exact kX12_price_B105 l E n hn ct hct ex KK63 hKK63 this x1 x2 x3 x4 x5 v9 0 M12 hthis
set_option maxRecDepth 20000 in
set_option maxHeartbeats 4000000 in
theorem kX12_price_L63 (l : Launch) (E : Ev) (n : Nat) (hn : 10 ≤ n) (ct : Nat) (hct : 111 ≤ ct) (ex : Bool) (k : Nat) : ∀ (this : Nat) (x1 : Int32) (x2 : Int32) (x3 : Int32) (x4 : Int32) (x5 : Int32) (M : Mem) (_ : K0 this = (0, 12)), AW l E fX12_price (fun _ => rmN n 0 0) (PQr E 0 0 ct ex enI) ct ex 0 0 63 [(0, .ref (ad E this)), (1, .int x1), (2, .int x2), (3, .int x3), (4, .int x4), (5, .int x5)] [] M (zX12_price_L63 k this x1 x2 x3 x4 x5 M) := by
  induction k with
  | zero => intro this x1 x2 x3 x4 x5 M _; exact AW.none
  | succ k ih =>
    intro this x1 x2 x3 x4 x5 M hthis
    exact kX12_price_B63 l E n hn ct hct ex (zX12_price_L63 k) ih this x1 x2 x3 x4 x5 M hthis
set_option maxRecDepth 20000 in
set_option maxHeartbeats 4000000 in
theorem kX12_price_B50 (l : Launch) (E : Ev) (n : Nat) (hn : 10 ≤ n) (ct : Nat) (hct : 111 ≤ ct) (ex : Bool) (this : Nat) (x1 : Int32) (x2 : Int32) (M : Mem) (hthis : K0 this = (0, 12)) : AW l E fX12_price (fun _ => rmN n 0 0) (PQr E 0 0 ct ex enI) ct ex 0 0 50 [(0, .ref (ad E this)), (1, .int x1), (2, .int x2)] [] M (zX12_price_B50 this x1 x2 M) := by
  unfold zX12_price_B50
  refine AW.aload_n (pc := 50) dX12_price_50 rfl 0 rfl ?_
  refine AW.iload_n (pc := 51) dX12_price_51 rfl 1 rfl ?_
  refine AW.iload_n (pc := 52) dX12_price_52 rfl 2 rfl ?_
  refine AW.cV2i (pc := 53) dX12_price_53 mlX12_394 mbX12_takenBy rfl hthis (kct hthis rfl hct) (fun _ => okR_N (by omega)) (kX12_takenBy l E (n - 1) (by omega) ct hct ex this x1 x2 M) (Nat.le_of_ble_eq_true rfl) (fun v1 M2 => ?_)
  exact AW.iret (pc := 56) dX12_price_56 rfl (fun _ _ _ => rfl) (Nat.le_refl _) (Nat.le_refl _)
set_option maxRecDepth 20000 in
set_option maxHeartbeats 4000000 in
theorem kX12_price_B31 (l : Launch) (E : Ev) (n : Nat) (hn : 10 ≤ n) (ct : Nat) (hct : 111 ≤ ct) (ex : Bool) (this : Nat) (M : Mem) (hthis : K0 this = (0, 12)) : AW l E fX12_price (fun _ => rmN n 0 0) (PQr E 0 0 ct ex enI) ct ex 0 0 31 [(0, .ref (ad E this))] [] M (zX12_price_B31 this M) := by
  unfold zX12_price_B31
  refine AW.aload_n (pc := 31) dX12_price_31 rfl 0 rfl ?_
  refine AW.iconst (pc := 32) dX12_price_32 ci_1 ?_
  refine AW.cV1i (pc := 33) dX12_price_33 mlX12_289 mbX12_fail rfl hthis (kct hthis rfl hct) (fun _ => okR_N (by omega)) (kX12_fail l E (n - 1) (by omega) ct hct ex this 1 M) (Nat.le_of_ble_eq_true rfl) (fun v1 M2 => ?_)
  exact AW.iret (pc := 36) dX12_price_36 rfl (fun _ _ _ => rfl) (Nat.le_refl _) (Nat.le_refl _)
set_option maxRecDepth 20000 in
set_option maxHeartbeats 4000000 in
theorem kX12_price (l : Launch) (E : Ev) (n : Nat) (hn : 10 ≤ n) (ct : Nat) (hct : 111 ≤ ct) (ex : Bool) (this : Nat) (x1 : Int32) (x2 : Int32) (x3 : Int32) (M : Mem) : AM l E n ct ex yX12_price fX12_price enI [.ref (ad E this), .int x1, .int x2, .int x3] M (zX12_price this x1 x2 x3 M) := by
  unfold zX12_price
  refine AM.of (by decide +kernel) ⟨rfl, rfl, rfl⟩ (Nat.le_of_ble_eq_true rfl) ?_
  refine AW.chk (fun hthis => ?_)
  refine AW.aload_n (pc := 0) dX12_price_0 rfl 0 rfl ?_
  refine AW.iconst (pc := 1) dX12_price_1 ci_0 ?_
  refine AW.putI (pc := 2) dX12_price_2 flX12_159 hthis (kct hthis rfl hct) ?_
  refine AW.genM (fun M1 => ?_)
  refine AW.iload_n (pc := 5) dX12_price_5 rfl 1 rfl ?_
  refine AW.cS1i (pc := 6) dX12_price_6 mlX12_166 mbX12_isGate (fun _ => okR_N (by omega)) (kX12_isGate l E (n - 1) (by omega) ct hct ex x1 M1) (Nat.le_of_ble_eq_true rfl) (fun v2 M3 => ?_)
  refine AW.if_eq (pc := 9) 31 dX12_price_9 (by decide) (fun h4 => ?_) (fun h4 => ?_)
  · exact AW.sub [0] rfl (kX12_price_B31 l E n hn ct hct ex this M3 hthis)
  · refine AW.iload_n (pc := 12) dX12_price_12 rfl 2 rfl ?_
    refine AW.iconst (pc := 13) dX12_price_13 ci_0 ?_
    refine AW.bipush (pc := 14) dX12_price_14 cb_9 ?_
    refine AW.cS3i (pc := 16) dX12_price_16 mlX12_162 mbX12_isIn (fun _ => okR_N (by omega)) (kX12_isIn l E (n - 1) (by omega) ct hct ex x2 0 9 M3) (Nat.le_of_ble_eq_true rfl) (fun v5 M6 => ?_)
    refine AW.if_eq (pc := 19) 31 dX12_price_19 (by decide) (fun h7 => ?_) (fun h7 => ?_)
    · exact AW.sub [0] rfl (kX12_price_B31 l E n hn ct hct ex this M6 hthis)
    · refine AW.iload_n (pc := 22) dX12_price_22 rfl 3 rfl ?_
      refine AW.iconst (pc := 23) dX12_price_23 ci_0 ?_
      refine AW.iconst (pc := 24) dX12_price_24 ci_2 ?_
      refine AW.cS3i (pc := 25) dX12_price_25 mlX12_162 mbX12_isIn (fun _ => okR_N (by omega)) (kX12_isIn l E (n - 1) (by omega) ct hct ex x3 0 2 M6) (Nat.le_of_ble_eq_true rfl) (fun v8 M9 => ?_)
      refine AW.if_ne (pc := 28) 37 dX12_price_28 (by decide) (fun h10 => ?_) (fun h10 => ?_)
      · exact AW.sub [0] rfl (kX12_price_B31 l E n hn ct hct ex this M9 hthis)
      · refine AW.iload_n (pc := 37) dX12_price_37 rfl 3 rfl ?_
        refine AW.if_eq (pc := 38) 50 dX12_price_38 (by decide) (fun h11 => ?_) (fun h11 => ?_)
        · exact AW.sub [0, 1, 2] rfl (kX12_price_B50 l E n hn ct hct ex this x1 x2 M9 hthis)
        · refine AW.aload_n (pc := 41) dX12_price_41 rfl 0 rfl ?_
          refine AW.chk (fun g12 => ?_)
          refine AW.getR (pc := 42) dX12_price_42 flX12_42 hthis (kct hthis rfl hct) g12 ?_
          refine AW.iload_n (pc := 45) dX12_price_45 rfl 1 rfl ?_
          refine AW.chk (fun g13 => ?_)
          refine AW.iald (pc := 46) dX12_price_46 (k0e g13.1) (kct (k0e g13.1) rfl hct) g13.2 ?_
          refine AW.if_ne (pc := 47) 57 dX12_price_47 (by decide) (fun h14 => ?_) (fun h14 => ?_)
          · exact AW.sub [0, 1, 2] rfl (kX12_price_B50 l E n hn ct hct ex this x1 x2 M9 hthis)
          · refine AW.iconst (pc := 57) dX12_price_57 ci_0 ?_
            refine AW.istore (pc := 58) [1, 2, 3, 4, 0] [(0, .ref (ad E this)), (1, .int x1), (2, .int x2), (3, .int x3), (4, .int 0)] dX12_price_58 (by decide) rfl ?_
            refine AW.iconst (pc := 60) dX12_price_60 ci_0 ?_
            refine AW.istore (pc := 61) [1, 2, 3, 4, 5, 0] [(0, .ref (ad E this)), (1, .int x1), (2, .int x2), (3, .int x3), (4, .int 0), (5, .int 0)] dX12_price_61 (by decide) rfl ?_
            exact kX12_price_L63 l E n hn ct hct ex FU this x1 x2 x3 0 0 M9 hthis
-- GateBoxModel.priced(I)I
def zX12_priced_B45 (KK22 : Nat → Int32 → Int32 → Int32 → Mem → Option (Int32 × Mem)) (this : Nat) (x1 : Int32) (x2 : Int32) (x3 : Int32) (M : Mem) : Option (Int32 × Mem) :=
  KK22 this x1 x2 (x3 + 1) M
def zX12_priced_B22 (KK22 : Nat → Int32 → Int32 → Int32 → Mem → Option (Int32 × Mem)) (this : Nat) (x1 : Int32) (x2 : Int32) (x3 : Int32) (M : Mem) : Option (Int32 × Mem) :=
  if 9 < x3 then
    some (x2, M)
  else
    bnd (zX12_takenBy this x1 x3 M) fun v2 M3 =>
    bnd (zX12_takenBy this x1 x2 M3) fun v4 M5 =>
    if v2 ≤ v4 then
      zX12_priced_B45 KK22 this x1 x2 x3 M5
    else
      zX12_priced_B45 KK22 this x1 x3 x3 M5
def zX12_priced_L22 : Nat → Nat → Int32 → Int32 → Int32 → Mem → Option (Int32 × Mem)
  | 0 => fun _ _ _ _ _ => none
  | k + 1 => zX12_priced_B22 (zX12_priced_L22 k)
def zX12_priced (this : Nat) (x1 : Int32) (M : Mem) : Option (Int32 × Mem) :=
  if K0 this = (0, 12) then
  lt (sI M this 2 0) fun M1 =>
  bnd (zX12_isGate x1 M1) fun v2 M3 =>
  if v2 = 0 then
    bnd (zX12_fail this 1 M3) fun v5 M6 =>
    some (v5, M6)
  else
    zX12_priced_L22 FU this x1 0 1 M3
  else none
set_option maxRecDepth 20000 in
set_option maxHeartbeats 4000000 in
theorem kX12_priced_B45 (l : Launch) (E : Ev) (n : Nat) (hn : 4 ≤ n) (ct : Nat) (hct : 111 ≤ ct) (ex : Bool) (KK22 : Nat → Int32 → Int32 → Int32 → Mem → Option (Int32 × Mem)) (hKK22 : ∀ (this : Nat) (x1 : Int32) (x2 : Int32) (x3 : Int32) (M : Mem) (_ : K0 this = (0, 12)), AW l E fX12_priced (fun _ => rmN n 0 0) (PQr E 0 0 ct ex enI) ct ex 0 0 22 [(0, .ref (ad E this)), (1, .int x1), (2, .int x2), (3, .int x3)] [] M (KK22 this x1 x2 x3 M)) (this : Nat) (x1 : Int32) (x2 : Int32) (x3 : Int32) (M : Mem) (hthis : K0 this = (0, 12)) : AW l E fX12_priced (fun _ => rmN n 0 0) (PQr E 0 0 ct ex enI) ct ex 0 0 45 [(0, .ref (ad E this)), (1, .int x1), (2, .int x2), (3, .int x3)] [] M (zX12_priced_B45 KK22 this x1 x2 x3 M) := by
  unfold zX12_priced_B45
  refine AW.iinc (pc := 45) (w := 3) [1, 2, 3, 0] [(0, .ref (ad E this)), (1, .int x1), (2, .int x2), (3, .int (x3 + 1))] dX12_priced_45 rfl (inc_1 _) (by decide) rfl ?_
  refine AW.goto (pc := 48) 22 dX12_priced_48 (by decide) ?_
  exact hKK22 this x1 x2 (x3 + 1) M hthis
set_option maxRecDepth 20000 in
set_option maxHeartbeats 4000000 in
theorem kX12_priced_B22 (l : Launch) (E : Ev) (n : Nat) (hn : 4 ≤ n) (ct : Nat) (hct : 111 ≤ ct) (ex : Bool) (KK22 : Nat → Int32 → Int32 → Int32 → Mem → Option (Int32 × Mem)) (hKK22 : ∀ (this : Nat) (x1 : Int32) (x2 : Int32) (x3 : Int32) (M : Mem) (_ : K0 this = (0, 12)), AW l E fX12_priced (fun _ => rmN n 0 0) (PQr E 0 0 ct ex enI) ct ex 0 0 22 [(0, .ref (ad E this)), (1, .int x1), (2, .int x2), (3, .int x3)] [] M (KK22 this x1 x2 x3 M)) (this : Nat) (x1 : Int32) (x2 : Int32) (x3 : Int32) (M : Mem) (hthis : K0 this = (0, 12)) : AW l E fX12_priced (fun _ => rmN n 0 0) (PQr E 0 0 ct ex enI) ct ex 0 0 22 [(0, .ref (ad E this)), (1, .int x1), (2, .int x2), (3, .int x3)] [] M (zX12_priced_B22 KK22 this x1 x2 x3 M) := by
  unfold zX12_priced_B22
  refine AW.iload_n (pc := 22) dX12_priced_22 rfl 3 rfl ?_
  refine AW.bipush (pc := 23) dX12_priced_23 cb_9 ?_
  refine AW.icmp_gt (pc := 25) 51 dX12_priced_25 (by decide) (fun h1 => ?_) (fun h1 => ?_)
  · refine AW.iload_n (pc := 51) dX12_priced_51 rfl 2 rfl ?_
    exact AW.iret (pc := 52) dX12_priced_52 rfl (fun _ _ _ => rfl) (Nat.le_refl _) (Nat.le_refl _)
  · refine AW.aload_n (pc := 28) dX12_priced_28 rfl 0 rfl ?_
    refine AW.iload_n (pc := 29) dX12_priced_29 rfl 1 rfl ?_
    refine AW.iload_n (pc := 30) dX12_priced_30 rfl 3 rfl ?_
    refine AW.cV2i (pc := 31) dX12_priced_31 mlX12_394 mbX12_takenBy rfl hthis (kct hthis rfl hct) (fun _ => okR_N (by omega)) (kX12_takenBy l E (n - 1) (by omega) ct hct ex this x1 x3 M) (Nat.le_of_ble_eq_true rfl) (fun v2 M3 => ?_)
    refine AW.aload_n (pc := 34) dX12_priced_34 rfl 0 rfl ?_
    refine AW.iload_n (pc := 35) dX12_priced_35 rfl 1 rfl ?_
    refine AW.iload_n (pc := 36) dX12_priced_36 rfl 2 rfl ?_
    refine AW.cV2i (pc := 37) dX12_priced_37 mlX12_394 mbX12_takenBy rfl hthis (kct hthis rfl hct) (fun _ => okR_N (by omega)) (kX12_takenBy l E (n - 1) (by omega) ct hct ex this x1 x2 M3) (Nat.le_of_ble_eq_true rfl) (fun v4 M5 => ?_)
    refine AW.icmp_le (pc := 40) 45 dX12_priced_40 (by decide) (fun h6 => ?_) (fun h6 => ?_)
    · exact kX12_priced_B45 l E n hn ct hct ex KK22 hKK22 this x1 x2 x3 M5 hthis
    · refine AW.iload_n (pc := 43) dX12_priced_43 rfl 3 rfl ?_
      refine AW.istore_n (pc := 44) [1, 2, 0, 3] [(0, .ref (ad E this)), (1, .int x1), (2, .int x3), (3, .int x3)] dX12_priced_44 rfl (by decide) rfl ?_
      exact kX12_priced_B45 l E n hn ct hct ex KK22 hKK22 this x1 x3 x3 M5 hthis
set_option maxRecDepth 20000 in
set_option maxHeartbeats 4000000 in
theorem kX12_priced_L22 (l : Launch) (E : Ev) (n : Nat) (hn : 4 ≤ n) (ct : Nat) (hct : 111 ≤ ct) (ex : Bool) (k : Nat) : ∀ (this : Nat) (x1 : Int32) (x2 : Int32) (x3 : Int32) (M : Mem) (_ : K0 this = (0, 12)), AW l E fX12_priced (fun _ => rmN n 0 0) (PQr E 0 0 ct ex enI) ct ex 0 0 22 [(0, .ref (ad E this)), (1, .int x1), (2, .int x2), (3, .int x3)] [] M (zX12_priced_L22 k this x1 x2 x3 M) := by
  induction k with
  | zero => intro this x1 x2 x3 M _; exact AW.none
  | succ k ih =>
    intro this x1 x2 x3 M hthis
    exact kX12_priced_B22 l E n hn ct hct ex (zX12_priced_L22 k) ih this x1 x2 x3 M hthis
set_option maxRecDepth 20000 in
set_option maxHeartbeats 4000000 in
theorem kX12_priced (l : Launch) (E : Ev) (n : Nat) (hn : 4 ≤ n) (ct : Nat) (hct : 111 ≤ ct) (ex : Bool) (this : Nat) (x1 : Int32) (M : Mem) : AM l E n ct ex yX12_priced fX12_priced enI [.ref (ad E this), .int x1] M (zX12_priced this x1 M) := by
  unfold zX12_priced
  refine AM.of (by decide +kernel) ⟨rfl, rfl, rfl⟩ (Nat.le_of_ble_eq_true rfl) ?_
  refine AW.chk (fun hthis => ?_)
  refine AW.aload_n (pc := 0) dX12_priced_0 rfl 0 rfl ?_
  refine AW.iconst (pc := 1) dX12_priced_1 ci_0 ?_
  refine AW.putI (pc := 2) dX12_priced_2 flX12_159 hthis (kct hthis rfl hct) ?_
  refine AW.genM (fun M1 => ?_)
  refine AW.iload_n (pc := 5) dX12_priced_5 rfl 1 rfl ?_
  refine AW.cS1i (pc := 6) dX12_priced_6 mlX12_166 mbX12_isGate (fun _ => okR_N (by omega)) (kX12_isGate l E (n - 1) (by omega) ct hct ex x1 M1) (Nat.le_of_ble_eq_true rfl) (fun v2 M3 => ?_)
  refine AW.if_ne (pc := 9) 18 dX12_priced_9 (by decide) (fun h4 => ?_) (fun h4 => ?_)
  · refine AW.aload_n (pc := 12) dX12_priced_12 rfl 0 rfl ?_
    refine AW.iconst (pc := 13) dX12_priced_13 ci_1 ?_
    refine AW.cV1i (pc := 14) dX12_priced_14 mlX12_289 mbX12_fail rfl hthis (kct hthis rfl hct) (fun _ => okR_N (by omega)) (kX12_fail l E (n - 1) (by omega) ct hct ex this 1 M3) (Nat.le_of_ble_eq_true rfl) (fun v5 M6 => ?_)
    exact AW.iret (pc := 17) dX12_priced_17 rfl (fun _ _ _ => rfl) (Nat.le_refl _) (Nat.le_refl _)
  · refine AW.iconst (pc := 18) dX12_priced_18 ci_0 ?_
    refine AW.istore_n (pc := 19) [1, 2, 0] [(0, .ref (ad E this)), (1, .int x1), (2, .int 0)] dX12_priced_19 rfl (by decide) rfl ?_
    refine AW.iconst (pc := 20) dX12_priced_20 ci_1 ?_
    refine AW.istore_n (pc := 21) [1, 2, 3, 0] [(0, .ref (ad E this)), (1, .int x1), (2, .int 0), (3, .int 1)] dX12_priced_21 rfl (by decide) rfl ?_
    exact kX12_priced_L22 l E n hn ct hct ex FU this x1 0 1 M3 hthis
-- GateBoxModel.mixed(IIII)I
def zX12_mixed_B142 (KK106 : Nat → Int32 → Int32 → Int32 → Int32 → Int64 → Int32 → Mem → Option (Int32 × Mem)) (this : Nat) (x1 : Int32) (x2 : Int32) (x3 : Int32) (x4 : Int32) (x5 : Int64) (x7 : Int32) (M : Mem) : Option (Int32 × Mem) :=
  KK106 this x1 x2 x3 x4 x5 (x7 + 1) M
def zX12_mixed_B106 (KK106 : Nat → Int32 → Int32 → Int32 → Int32 → Int64 → Int32 → Mem → Option (Int32 × Mem)) (this : Nat) (x1 : Int32) (x2 : Int32) (x3 : Int32) (x4 : Int32) (x5 : Int64) (x7 : Int32) (M : Mem) : Option (Int32 × Mem) :=
  if x2 < x7 then
    some (Int64.toInt32 ((mL M this 35) / 1000000), M)
  else
    if ¬ x3 = 0 then
    if (x7 % x3) = 0 then
      lt (sL M this 35 ((mL M this 35) + (x5 * (Int32.toInt64 x4)))) fun M4 =>
      zX12_mixed_B142 KK106 this x1 x2 x3 x4 x5 x7 M4
    else
      bnd (zX12_person this x1 M) fun _ M5 =>
      zX12_mixed_B142 KK106 this x1 x2 x3 x4 x5 x7 M5
    else none
def zX12_mixed_L106 : Nat → Nat → Int32 → Int32 → Int32 → Int32 → Int64 → Int32 → Mem → Option (Int32 × Mem)
  | 0 => fun _ _ _ _ _ _ _ _ => none
  | k + 1 => zX12_mixed_B106 (zX12_mixed_L106 k)
def zX12_mixed_B50 (this : Nat) (M : Mem) : Option (Int32 × Mem) :=
  bnd (zX12_fail this 2 M) fun v1 M2 =>
  some (v1, M2)
def zX12_mixed (this : Nat) (x1 : Int32) (x2 : Int32) (x3 : Int32) (x4 : Int32) (M : Mem) : Option (Int32 × Mem) :=
  if K0 this = (0, 12) then
  lt (sI M this 2 0) fun M1 =>
  bnd (zX12_isGate x1 M1) fun v2 M3 =>
  if v2 = 0 then
    bnd (zX12_fail this 1 M3) fun v5 M6 =>
    some (v5, M6)
  else
    bnd (zX12_isIn x2 0 400 M3) fun v7 M8 =>
    if v7 = 0 then
      zX12_mixed_B50 this M8
    else
      bnd (zX12_isIn x3 2 50 M8) fun v10 M11 =>
      if v10 = 0 then
        zX12_mixed_B50 this M11
      else
        bnd (zX12_isIn x4 0 9 M11) fun v13 M14 =>
        if v13 = 0 then
          zX12_mixed_B50 this M14
        else
          if mR M14 this 3 ≠ 0 then
          if (K0 (mR M14 this 3)).1 = 1 ∧ inb x1 (K0 (mR M14 this 3)).2 = true then
          if (mI M14 (mR M14 this 3) (Int32.toNatClampNeg x1)) = 0 then
            some (0, M14)
          else
            bnd (zX12_oddsThatPay this x1 x4 M14) fun v19 M20 =>
            bnd (zX12_oddsOf this x1 M20) fun v21 M22 =>
            if ¬ (Int32.toInt64 v21) = 0 then
            lt ((1000000000 * (Int32.toInt64 v19)) / (Int32.toInt64 v21)) fun v24 =>
            bnd (zX12_tellGifts this x1 M22) fun _ M25 =>
            if mR M25 this 11 ≠ 0 then
            if (K0 (mR M25 this 11)).1 = 1 ∧ inb x1 (K0 (mR M25 this 11)).2 = true then
            bnd (zX12_startAt this (mI M25 (mR M25 this 11) (Int32.toNatClampNeg x1)) M25) fun _ M28 =>
            zX12_mixed_L106 FU this x1 x2 x3 x4 v24 1 M28
            else none
            else none
            else none
          else none
          else none
  else none
set_option maxRecDepth 20000 in
set_option maxHeartbeats 4000000 in
theorem kX12_mixed_B142 (l : Launch) (E : Ev) (n : Nat) (hn : 11 ≤ n) (ct : Nat) (hct : 111 ≤ ct) (ex : Bool) (KK106 : Nat → Int32 → Int32 → Int32 → Int32 → Int64 → Int32 → Mem → Option (Int32 × Mem)) (hKK106 : ∀ (this : Nat) (x1 : Int32) (x2 : Int32) (x3 : Int32) (x4 : Int32) (x5 : Int64) (x7 : Int32) (M : Mem) (_ : K0 this = (0, 12)), AW l E fX12_mixed (fun _ => rmN n 0 0) (PQr E 0 0 ct ex enI) ct ex 0 0 106 [(0, .ref (ad E this)), (1, .int x1), (2, .int x2), (3, .int x3), (4, .int x4), (5, .long x5), (7, .int x7)] [] M (KK106 this x1 x2 x3 x4 x5 x7 M)) (this : Nat) (x1 : Int32) (x2 : Int32) (x3 : Int32) (x4 : Int32) (x5 : Int64) (x7 : Int32) (M : Mem) (hthis : K0 this = (0, 12)) : AW l E fX12_mixed (fun _ => rmN n 0 0) (PQr E 0 0 ct ex enI) ct ex 0 0 142 [(0, .ref (ad E this)), (1, .int x1), (2, .int x2), (3, .int x3), (4, .int x4), (5, .long x5), (7, .int x7)] [] M (zX12_mixed_B142 KK106 this x1 x2 x3 x4 x5 x7 M) := by
  unfold zX12_mixed_B142
  refine AW.iinc (pc := 142) (w := 6) [1, 2, 3, 4, 5, 6, 0] [(0, .ref (ad E this)), (1, .int x1), (2, .int x2), (3, .int x3), (4, .int x4), (5, .long x5), (7, .int (x7 + 1))] dX12_mixed_142 rfl (inc_1 _) (by decide) rfl ?_
  refine AW.goto (pc := 145) 106 dX12_mixed_145 (by decide) ?_
  exact hKK106 this x1 x2 x3 x4 x5 (x7 + 1) M hthis
set_option maxRecDepth 20000 in
set_option maxHeartbeats 4000000 in
theorem kX12_mixed_B106 (l : Launch) (E : Ev) (n : Nat) (hn : 11 ≤ n) (ct : Nat) (hct : 111 ≤ ct) (ex : Bool) (KK106 : Nat → Int32 → Int32 → Int32 → Int32 → Int64 → Int32 → Mem → Option (Int32 × Mem)) (hKK106 : ∀ (this : Nat) (x1 : Int32) (x2 : Int32) (x3 : Int32) (x4 : Int32) (x5 : Int64) (x7 : Int32) (M : Mem) (_ : K0 this = (0, 12)), AW l E fX12_mixed (fun _ => rmN n 0 0) (PQr E 0 0 ct ex enI) ct ex 0 0 106 [(0, .ref (ad E this)), (1, .int x1), (2, .int x2), (3, .int x3), (4, .int x4), (5, .long x5), (7, .int x7)] [] M (KK106 this x1 x2 x3 x4 x5 x7 M)) (this : Nat) (x1 : Int32) (x2 : Int32) (x3 : Int32) (x4 : Int32) (x5 : Int64) (x7 : Int32) (M : Mem) (hthis : K0 this = (0, 12)) : AW l E fX12_mixed (fun _ => rmN n 0 0) (PQr E 0 0 ct ex enI) ct ex 0 0 106 [(0, .ref (ad E this)), (1, .int x1), (2, .int x2), (3, .int x3), (4, .int x4), (5, .long x5), (7, .int x7)] [] M (zX12_mixed_B106 KK106 this x1 x2 x3 x4 x5 x7 M) := by
  unfold zX12_mixed_B106
  refine AW.iload (pc := 106) dX12_mixed_106 6 rfl ?_
  refine AW.iload_n (pc := 108) dX12_mixed_108 rfl 2 rfl ?_
  refine AW.icmp_gt (pc := 109) 148 dX12_mixed_109 (by decide) (fun h1 => ?_) (fun h1 => ?_)
  · refine AW.aload_n (pc := 148) dX12_mixed_148 rfl 0 rfl ?_
    refine AW.getL (pc := 149) dX12_mixed_149 flX12_345 hthis (kct hthis rfl hct) ?_
    refine AW.ldc2 (pc := 152) dX12_mixed_152 ccX12_371 ?_
    refine AW.ldiv (pc := 155) dX12_mixed_155 (by decide) ?_
    refine AW.l2i (pc := 156) dX12_mixed_156 ?_
    exact AW.iret (pc := 157) dX12_mixed_157 rfl (fun _ _ _ => rfl) (Nat.le_refl _) (Nat.le_refl _)
  · refine AW.iload (pc := 112) dX12_mixed_112 6 rfl ?_
    refine AW.iload_n (pc := 114) dX12_mixed_114 rfl 3 rfl ?_
    refine AW.chk (fun g2 => ?_)
    refine AW.irem (pc := 115) dX12_mixed_115 g2 ?_
    refine AW.if_ne (pc := 116) 137 dX12_mixed_116 (by decide) (fun h3 => ?_) (fun h3 => ?_)
    · refine AW.aload_n (pc := 119) dX12_mixed_119 rfl 0 rfl ?_
      refine AW.dup (pc := 120) dX12_mixed_120 rfl ?_
      refine AW.getL (pc := 121) dX12_mixed_121 flX12_345 hthis (kct hthis rfl hct) ?_
      refine AW.lload (pc := 124) dX12_mixed_124 5 rfl ?_
      refine AW.iload (pc := 126) dX12_mixed_126 4 rfl ?_
      refine AW.i2l (pc := 128) dX12_mixed_128 ?_
      refine AW.lmul (pc := 129) dX12_mixed_129 ?_
      refine AW.ladd (pc := 130) dX12_mixed_130 ?_
      refine AW.putL (pc := 131) dX12_mixed_131 flX12_345 hthis (kct hthis rfl hct) ?_
      refine AW.genM (fun M4 => ?_)
      refine AW.goto (pc := 134) 142 dX12_mixed_134 (by decide) ?_
      exact kX12_mixed_B142 l E n hn ct hct ex KK106 hKK106 this x1 x2 x3 x4 x5 x7 M4 hthis
    · refine AW.aload_n (pc := 137) dX12_mixed_137 rfl 0 rfl ?_
      refine AW.iload_n (pc := 138) dX12_mixed_138 rfl 1 rfl ?_
      refine AW.cV1v (pc := 139) dX12_mixed_139 mlX12_364 mbX12_person rfl hthis (kct hthis rfl hct) (fun _ => okR_N (by omega)) (kX12_person l E (n - 1) (by omega) ct hct ex this x1 M) (Nat.le_of_ble_eq_true rfl) (fun _ M5 => ?_)
      exact kX12_mixed_B142 l E n hn ct hct ex KK106 hKK106 this x1 x2 x3 x4 x5 x7 M5 hthis
set_option maxRecDepth 20000 in
set_option maxHeartbeats 4000000 in
theorem kX12_mixed_L106 (l : Launch) (E : Ev) (n : Nat) (hn : 11 ≤ n) (ct : Nat) (hct : 111 ≤ ct) (ex : Bool) (k : Nat) : ∀ (this : Nat) (x1 : Int32) (x2 : Int32) (x3 : Int32) (x4 : Int32) (x5 : Int64) (x7 : Int32) (M : Mem) (_ : K0 this = (0, 12)), AW l E fX12_mixed (fun _ => rmN n 0 0) (PQr E 0 0 ct ex enI) ct ex 0 0 106 [(0, .ref (ad E this)), (1, .int x1), (2, .int x2), (3, .int x3), (4, .int x4), (5, .long x5), (7, .int x7)] [] M (zX12_mixed_L106 k this x1 x2 x3 x4 x5 x7 M) := by
  induction k with
  | zero => intro this x1 x2 x3 x4 x5 x7 M _; exact AW.none
  | succ k ih =>
    intro this x1 x2 x3 x4 x5 x7 M hthis
    exact kX12_mixed_B106 l E n hn ct hct ex (zX12_mixed_L106 k) ih this x1 x2 x3 x4 x5 x7 M hthis
set_option maxRecDepth 20000 in
set_option maxHeartbeats 4000000 in
theorem kX12_mixed_B50 (l : Launch) (E : Ev) (n : Nat) (hn : 11 ≤ n) (ct : Nat) (hct : 111 ≤ ct) (ex : Bool) (this : Nat) (M : Mem) (hthis : K0 this = (0, 12)) : AW l E fX12_mixed (fun _ => rmN n 0 0) (PQr E 0 0 ct ex enI) ct ex 0 0 50 [(0, .ref (ad E this))] [] M (zX12_mixed_B50 this M) := by
  unfold zX12_mixed_B50
  refine AW.aload_n (pc := 50) dX12_mixed_50 rfl 0 rfl ?_
  refine AW.iconst (pc := 51) dX12_mixed_51 ci_2 ?_
  refine AW.cV1i (pc := 52) dX12_mixed_52 mlX12_289 mbX12_fail rfl hthis (kct hthis rfl hct) (fun _ => okR_N (by omega)) (kX12_fail l E (n - 1) (by omega) ct hct ex this 2 M) (Nat.le_of_ble_eq_true rfl) (fun v1 M2 => ?_)
  exact AW.iret (pc := 55) dX12_mixed_55 rfl (fun _ _ _ => rfl) (Nat.le_refl _) (Nat.le_refl _)
set_option maxRecDepth 20000 in
set_option maxHeartbeats 4000000 in
theorem kX12_mixed (l : Launch) (E : Ev) (n : Nat) (hn : 11 ≤ n) (ct : Nat) (hct : 111 ≤ ct) (ex : Bool) (this : Nat) (x1 : Int32) (x2 : Int32) (x3 : Int32) (x4 : Int32) (M : Mem) : AM l E n ct ex yX12_mixed fX12_mixed enI [.ref (ad E this), .int x1, .int x2, .int x3, .int x4] M (zX12_mixed this x1 x2 x3 x4 M) := by
  unfold zX12_mixed
  refine AM.of (by decide +kernel) ⟨rfl, rfl, rfl⟩ (Nat.le_of_ble_eq_true rfl) ?_
  refine AW.chk (fun hthis => ?_)
  refine AW.aload_n (pc := 0) dX12_mixed_0 rfl 0 rfl ?_
  refine AW.iconst (pc := 1) dX12_mixed_1 ci_0 ?_
  refine AW.putI (pc := 2) dX12_mixed_2 flX12_159 hthis (kct hthis rfl hct) ?_
  refine AW.genM (fun M1 => ?_)
  refine AW.iload_n (pc := 5) dX12_mixed_5 rfl 1 rfl ?_
  refine AW.cS1i (pc := 6) dX12_mixed_6 mlX12_166 mbX12_isGate (fun _ => okR_N (by omega)) (kX12_isGate l E (n - 1) (by omega) ct hct ex x1 M1) (Nat.le_of_ble_eq_true rfl) (fun v2 M3 => ?_)
  refine AW.if_ne (pc := 9) 18 dX12_mixed_9 (by decide) (fun h4 => ?_) (fun h4 => ?_)
  · refine AW.aload_n (pc := 12) dX12_mixed_12 rfl 0 rfl ?_
    refine AW.iconst (pc := 13) dX12_mixed_13 ci_1 ?_
    refine AW.cV1i (pc := 14) dX12_mixed_14 mlX12_289 mbX12_fail rfl hthis (kct hthis rfl hct) (fun _ => okR_N (by omega)) (kX12_fail l E (n - 1) (by omega) ct hct ex this 1 M3) (Nat.le_of_ble_eq_true rfl) (fun v5 M6 => ?_)
    exact AW.iret (pc := 17) dX12_mixed_17 rfl (fun _ _ _ => rfl) (Nat.le_refl _) (Nat.le_refl _)
  · refine AW.iload_n (pc := 18) dX12_mixed_18 rfl 2 rfl ?_
    refine AW.iconst (pc := 19) dX12_mixed_19 ci_0 ?_
    refine AW.sipush (pc := 20) dX12_mixed_20 cs_400 ?_
    refine AW.cS3i (pc := 23) dX12_mixed_23 mlX12_162 mbX12_isIn (fun _ => okR_N (by omega)) (kX12_isIn l E (n - 1) (by omega) ct hct ex x2 0 400 M3) (Nat.le_of_ble_eq_true rfl) (fun v7 M8 => ?_)
    refine AW.if_eq (pc := 26) 50 dX12_mixed_26 (by decide) (fun h9 => ?_) (fun h9 => ?_)
    · exact AW.sub [0] rfl (kX12_mixed_B50 l E n hn ct hct ex this M8 hthis)
    · refine AW.iload_n (pc := 29) dX12_mixed_29 rfl 3 rfl ?_
      refine AW.iconst (pc := 30) dX12_mixed_30 ci_2 ?_
      refine AW.bipush (pc := 31) dX12_mixed_31 cb_50 ?_
      refine AW.cS3i (pc := 33) dX12_mixed_33 mlX12_162 mbX12_isIn (fun _ => okR_N (by omega)) (kX12_isIn l E (n - 1) (by omega) ct hct ex x3 2 50 M8) (Nat.le_of_ble_eq_true rfl) (fun v10 M11 => ?_)
      refine AW.if_eq (pc := 36) 50 dX12_mixed_36 (by decide) (fun h12 => ?_) (fun h12 => ?_)
      · exact AW.sub [0] rfl (kX12_mixed_B50 l E n hn ct hct ex this M11 hthis)
      · refine AW.iload (pc := 39) dX12_mixed_39 4 rfl ?_
        refine AW.iconst (pc := 41) dX12_mixed_41 ci_0 ?_
        refine AW.bipush (pc := 42) dX12_mixed_42 cb_9 ?_
        refine AW.cS3i (pc := 44) dX12_mixed_44 mlX12_162 mbX12_isIn (fun _ => okR_N (by omega)) (kX12_isIn l E (n - 1) (by omega) ct hct ex x4 0 9 M11) (Nat.le_of_ble_eq_true rfl) (fun v13 M14 => ?_)
        refine AW.if_ne (pc := 47) 56 dX12_mixed_47 (by decide) (fun h15 => ?_) (fun h15 => ?_)
        · exact AW.sub [0] rfl (kX12_mixed_B50 l E n hn ct hct ex this M14 hthis)
        · refine AW.aload_n (pc := 56) dX12_mixed_56 rfl 0 rfl ?_
          refine AW.chk (fun g16 => ?_)
          refine AW.getR (pc := 57) dX12_mixed_57 flX12_42 hthis (kct hthis rfl hct) g16 ?_
          refine AW.iload_n (pc := 60) dX12_mixed_60 rfl 1 rfl ?_
          refine AW.chk (fun g17 => ?_)
          refine AW.iald (pc := 61) dX12_mixed_61 (k0e g17.1) (kct (k0e g17.1) rfl hct) g17.2 ?_
          refine AW.if_ne (pc := 62) 67 dX12_mixed_62 (by decide) (fun h18 => ?_) (fun h18 => ?_)
          · refine AW.iconst (pc := 65) dX12_mixed_65 ci_0 ?_
            exact AW.iret (pc := 66) dX12_mixed_66 rfl (fun _ _ _ => rfl) (Nat.le_refl _) (Nat.le_refl _)
          · refine AW.ldc2 (pc := 67) dX12_mixed_67 ccX12_343 ?_
            refine AW.aload_n (pc := 70) dX12_mixed_70 rfl 0 rfl ?_
            refine AW.iload_n (pc := 71) dX12_mixed_71 rfl 1 rfl ?_
            refine AW.iload (pc := 72) dX12_mixed_72 4 rfl ?_
            refine AW.cV2i (pc := 74) dX12_mixed_74 mlX12_391 mbX12_oddsThatPay rfl hthis (kct hthis rfl hct) (fun _ => okR_N (by omega)) (kX12_oddsThatPay l E (n - 1) (by omega) ct hct ex this x1 x4 M14) (Nat.le_of_ble_eq_true rfl) (fun v19 M20 => ?_)
            refine AW.i2l (pc := 77) dX12_mixed_77 ?_
            refine AW.lmul (pc := 78) dX12_mixed_78 ?_
            refine AW.aload_n (pc := 79) dX12_mixed_79 rfl 0 rfl ?_
            refine AW.iload_n (pc := 80) dX12_mixed_80 rfl 1 rfl ?_
            refine AW.cV1i (pc := 81) dX12_mixed_81 mlX12_302 mbX12_oddsOf rfl hthis (kct hthis rfl hct) (fun _ => okR_N (by omega)) (kX12_oddsOf l E (n - 1) (by omega) ct hct ex this x1 M20) (Nat.le_of_ble_eq_true rfl) (fun v21 M22 => ?_)
            refine AW.i2l (pc := 84) dX12_mixed_84 ?_
            refine AW.chk (fun g23 => ?_)
            refine AW.ldiv (pc := 85) dX12_mixed_85 g23 ?_
            refine AW.genL (fun v24 => ?_)
            refine AW.lstore (pc := 86) [1, 2, 3, 4, 5, 0] [(0, .ref (ad E this)), (1, .int x1), (2, .int x2), (3, .int x3), (4, .int x4), (5, .long v24)] dX12_mixed_86 (by decide) rfl ?_
            refine AW.aload_n (pc := 88) dX12_mixed_88 rfl 0 rfl ?_
            refine AW.iload_n (pc := 89) dX12_mixed_89 rfl 1 rfl ?_
            refine AW.cV1v (pc := 90) dX12_mixed_90 mlX12_358 mbX12_tellGifts rfl hthis (kct hthis rfl hct) (fun _ => okR_N (by omega)) (kX12_tellGifts l E (n - 1) (by omega) ct hct ex this x1 M22) (Nat.le_of_ble_eq_true rfl) (fun _ M25 => ?_)
            refine AW.aload_n (pc := 93) dX12_mixed_93 rfl 0 rfl ?_
            refine AW.aload_n (pc := 94) dX12_mixed_94 rfl 0 rfl ?_
            refine AW.chk (fun g26 => ?_)
            refine AW.getR (pc := 95) dX12_mixed_95 flX12_65 hthis (kct hthis rfl hct) g26 ?_
            refine AW.iload_n (pc := 98) dX12_mixed_98 rfl 1 rfl ?_
            refine AW.chk (fun g27 => ?_)
            refine AW.iald (pc := 99) dX12_mixed_99 (k0e g27.1) (kct (k0e g27.1) rfl hct) g27.2 ?_
            refine AW.cV1v (pc := 100) dX12_mixed_100 mlX12_361 mbX12_startAt rfl hthis (kct hthis rfl hct) (fun _ => okR_N (by omega)) (kX12_startAt l E (n - 1) (by omega) ct hct ex this (mI M25 (mR M25 this 11) (Int32.toNatClampNeg x1)) M25) (Nat.le_of_ble_eq_true rfl) (fun _ M28 => ?_)
            refine AW.iconst (pc := 103) dX12_mixed_103 ci_1 ?_
            refine AW.istore (pc := 104) [1, 2, 3, 4, 5, 6, 0] [(0, .ref (ad E this)), (1, .int x1), (2, .int x2), (3, .int x3), (4, .int x4), (5, .long v24), (7, .int 1)] dX12_mixed_104 (by decide) rfl ?_
            exact kX12_mixed_L106 l E n hn ct hct ex FU this x1 x2 x3 x4 v24 1 M28 hthis
-- GateBoxModel.nearPart(IIIJ)V
def zX12_nearPart (this : Nat) (x1 : Int32) (x2 : Int32) (x3 : Int32) (x4 : Int64) (M : Mem) : Option (Unit × Mem) :=
  if K0 this = (0, 12) then
  bnd (zX12_statesOf this 1 M) fun v1 M2 =>
  if mR M2 this 34 ≠ 0 then
  if (K0 (mR M2 this 34)).1 = 1 ∧ inb ((8 * x1) + x3) (K0 (mR M2 this 34)).2 = true then
  lt (mI M2 (mR M2 this 34) (Int32.toNatClampNeg ((8 * x1) + x3))) fun v5 =>
  lt (imax 0 v5) fun v6 =>
  bnd (zX12_goOn this 0 x1 v5 M2) fun v7 M8 =>
  lt (sL M8 this 43 ((mL M8 this 43) + (x4 * (Int32.toInt64 v6)))) fun M9 =>
  if mR M9 this 3 ≠ 0 then
  if (K0 (mR M9 this 3)).1 = 1 ∧ inb 1 (K0 (mR M9 this 3)).2 = true then
  if x3 < (mI M9 (mR M9 this 3) (Int32.toNatClampNeg 1)) then
    if mR M9 this 42 ≠ 0 then
    if (K0 (mR M9 this 42)).1 = 1 ∧ inb ((((8 * x2) + x3) * 10) + v6) (K0 (mR M9 this 42)).2 = true then
    lt (mI M9 (mR M9 this 42) (Int32.toNatClampNeg ((((8 * x2) + x3) * 10) + v6))) fun v15 =>
    if mR M9 this 41 ≠ 0 then
    bnd (zX12_goOn this 1 x2 v15 M9) fun v17 M18 =>
    lt ((v1 * v7) + v17) fun v19 =>
    if (K0 (mR M9 this 41)).1 = 2 ∧ inb v19 (K0 (mR M9 this 41)).2 = true then
    if inb v19 (K0 (mR M9 this 41)).2 = true then
    lt (sL M18 (mR M9 this 41) (Int32.toNatClampNeg v19) ((mL M18 (mR M9 this 41) (Int32.toNatClampNeg v19)) + x4)) fun M22 =>
    if v15 = (-1) then
      lt (sL M22 this 45 ((mL M22 this 45) + x4)) fun M24 =>
      some ((), M24)
    else
      lt (sL M22 this 44 ((mL M22 this 44) + (x4 * (Int32.toInt64 v15)))) fun M25 =>
      some ((), M25)
    else none
    else none
    else none
    else none
    else none
  else
    if mR M9 this 41 ≠ 0 then
    lt ((v1 * v7) + x2) fun v27 =>
    if (K0 (mR M9 this 41)).1 = 2 ∧ inb v27 (K0 (mR M9 this 41)).2 = true then
    if inb v27 (K0 (mR M9 this 41)).2 = true then
    lt (sL M9 (mR M9 this 41) (Int32.toNatClampNeg v27) ((mL M9 (mR M9 this 41) (Int32.toNatClampNeg v27)) + x4)) fun M30 =>
    some ((), M30)
    else none
    else none
    else none
  else none
  else none
  else none
  else none
  else none
set_option maxRecDepth 20000 in
set_option maxHeartbeats 4000000 in
theorem kX12_nearPart (l : Launch) (E : Ev) (n : Nat) (hn : 6 ≤ n) (ct : Nat) (hct : 111 ≤ ct) (ex : Bool) (this : Nat) (x1 : Int32) (x2 : Int32) (x3 : Int32) (x4 : Int64) (M : Mem) : AM l E n ct ex yX12_nearPart fX12_nearPart enU [.ref (ad E this), .int x1, .int x2, .int x3, .long x4] M (zX12_nearPart this x1 x2 x3 x4 M) := by
  unfold zX12_nearPart
  refine AM.of (by decide +kernel) ⟨rfl, rfl, rfl⟩ (Nat.le_of_ble_eq_true rfl) ?_
  refine AW.chk (fun hthis => ?_)
  refine AW.aload_n (pc := 0) dX12_nearPart_0 rfl 0 rfl ?_
  refine AW.iconst (pc := 1) dX12_nearPart_1 ci_1 ?_
  refine AW.cV1i (pc := 2) dX12_nearPart_2 mlX12_170 mbX12_statesOf rfl hthis (kct hthis rfl hct) (fun _ => okR_N (by omega)) (kX12_statesOf l E (n - 1) (by omega) ct hct ex this 1 M) (Nat.le_of_ble_eq_true rfl) (fun v1 M2 => ?_)
  refine AW.istore (pc := 5) [1, 2, 3, 4, 5, 0] [(0, .ref (ad E this)), (1, .int x1), (2, .int x2), (3, .int x3), (4, .long x4), (6, .int v1)] dX12_nearPart_5 (by decide) rfl ?_
  refine AW.aload_n (pc := 7) dX12_nearPart_7 rfl 0 rfl ?_
  refine AW.chk (fun g3 => ?_)
  refine AW.getR (pc := 8) dX12_nearPart_8 flX12_106 hthis (kct hthis rfl hct) g3 ?_
  refine AW.bipush (pc := 11) dX12_nearPart_11 cb_8 ?_
  refine AW.iload_n (pc := 13) dX12_nearPart_13 rfl 1 rfl ?_
  refine AW.imul (pc := 14) dX12_nearPart_14 ?_
  refine AW.iload_n (pc := 15) dX12_nearPart_15 rfl 3 rfl ?_
  refine AW.iadd (pc := 16) dX12_nearPart_16 ?_
  refine AW.chk (fun g4 => ?_)
  refine AW.iald (pc := 17) dX12_nearPart_17 (k0e g4.1) (kct (k0e g4.1) rfl hct) g4.2 ?_
  refine AW.genI (fun v5 => ?_)
  refine AW.istore (pc := 18) [1, 2, 3, 4, 5, 6, 0] [(0, .ref (ad E this)), (1, .int x1), (2, .int x2), (3, .int x3), (4, .long x4), (6, .int v1), (7, .int v5)] dX12_nearPart_18 (by decide) rfl ?_
  refine AW.iconst (pc := 20) dX12_nearPart_20 ci_0 ?_
  refine AW.iload (pc := 21) dX12_nearPart_21 6 rfl ?_
  refine AW.mmax (pc := 23) dX12_nearPart_23 mlX12_309 mb_max (fun _ => okR_N (by omega)) (Nat.le_of_ble_eq_true rfl) ?_
  refine AW.genI (fun v6 => ?_)
  refine AW.istore (pc := 26) [1, 2, 3, 4, 5, 6, 7, 0] [(0, .ref (ad E this)), (1, .int x1), (2, .int x2), (3, .int x3), (4, .long x4), (6, .int v1), (7, .int v5), (8, .int v6)] dX12_nearPart_26 (by decide) rfl ?_
  refine AW.aload_n (pc := 28) dX12_nearPart_28 rfl 0 rfl ?_
  refine AW.iconst (pc := 29) dX12_nearPart_29 ci_0 ?_
  refine AW.iload_n (pc := 30) dX12_nearPart_30 rfl 1 rfl ?_
  refine AW.iload (pc := 31) dX12_nearPart_31 6 rfl ?_
  refine AW.cV3i (pc := 33) dX12_nearPart_33 mlX12_355 mbX12_goOn rfl hthis (kct hthis rfl hct) (fun _ => okR_N (by omega)) (kX12_goOn l E (n - 1) (by omega) ct hct ex this 0 x1 v5 M2) (Nat.le_of_ble_eq_true rfl) (fun v7 M8 => ?_)
  refine AW.istore (pc := 36) [1, 3, 4, 5, 6, 8, 0] [(0, .ref (ad E this)), (2, .int x2), (3, .int x3), (4, .long x4), (6, .int v1), (8, .int v6), (9, .int v7)] dX12_nearPart_36 (by decide) rfl ?_
  refine AW.aload_n (pc := 38) dX12_nearPart_38 rfl 0 rfl ?_
  refine AW.dup (pc := 39) dX12_nearPart_39 rfl ?_
  refine AW.getL (pc := 40) dX12_nearPart_40 flX12_397 hthis (kct hthis rfl hct) ?_
  refine AW.lload (pc := 43) dX12_nearPart_43 3 rfl ?_
  refine AW.iload (pc := 45) dX12_nearPart_45 5 rfl ?_
  refine AW.i2l (pc := 47) dX12_nearPart_47 ?_
  refine AW.lmul (pc := 48) dX12_nearPart_48 ?_
  refine AW.ladd (pc := 49) dX12_nearPart_49 ?_
  refine AW.putL (pc := 50) dX12_nearPart_50 flX12_397 hthis (kct hthis rfl hct) ?_
  refine AW.genM (fun M9 => ?_)
  refine AW.iload_n (pc := 53) dX12_nearPart_53 rfl 2 rfl ?_
  refine AW.aload_n (pc := 54) dX12_nearPart_54 rfl 0 rfl ?_
  refine AW.chk (fun g10 => ?_)
  refine AW.getR (pc := 55) dX12_nearPart_55 flX12_42 hthis (kct hthis rfl hct) g10 ?_
  refine AW.iconst (pc := 58) dX12_nearPart_58 ci_1 ?_
  refine AW.chk (fun g11 => ?_)
  refine AW.iald (pc := 59) dX12_nearPart_59 (k0e g11.1) (kct (k0e g11.1) rfl hct) g11.2 ?_
  refine AW.icmp_lt (pc := 60) 81 dX12_nearPart_60 (by decide) (fun h12 => ?_) (fun h12 => ?_)
  · refine AW.aload_n (pc := 81) dX12_nearPart_81 rfl 0 rfl ?_
    refine AW.chk (fun g13 => ?_)
    refine AW.getR (pc := 82) dX12_nearPart_82 flX12_122 hthis (kct hthis rfl hct) g13 ?_
    refine AW.bipush (pc := 85) dX12_nearPart_85 cb_8 ?_
    refine AW.iload_n (pc := 87) dX12_nearPart_87 rfl 1 rfl ?_
    refine AW.imul (pc := 88) dX12_nearPart_88 ?_
    refine AW.iload_n (pc := 89) dX12_nearPart_89 rfl 2 rfl ?_
    refine AW.iadd (pc := 90) dX12_nearPart_90 ?_
    refine AW.bipush (pc := 91) dX12_nearPart_91 cb_10 ?_
    refine AW.imul (pc := 93) dX12_nearPart_93 ?_
    refine AW.iload (pc := 94) dX12_nearPart_94 5 rfl ?_
    refine AW.iadd (pc := 96) dX12_nearPart_96 ?_
    refine AW.chk (fun g14 => ?_)
    refine AW.iald (pc := 97) dX12_nearPart_97 (k0e g14.1) (kct (k0e g14.1) rfl hct) g14.2 ?_
    refine AW.genI (fun v15 => ?_)
    refine AW.istore (pc := 98) [1, 2, 4, 5, 7, 0] [(0, .ref (ad E this)), (2, .int x2), (4, .long x4), (6, .int v1), (9, .int v7), (10, .int v15)] dX12_nearPart_98 (by decide) rfl ?_
    refine AW.aload_n (pc := 100) dX12_nearPart_100 rfl 0 rfl ?_
    refine AW.chk (fun g16 => ?_)
    refine AW.getR (pc := 101) dX12_nearPart_101 flX12_119 hthis (kct hthis rfl hct) g16 ?_
    refine AW.iload (pc := 104) dX12_nearPart_104 3 rfl ?_
    refine AW.iload (pc := 106) dX12_nearPart_106 4 rfl ?_
    refine AW.imul (pc := 108) dX12_nearPart_108 ?_
    refine AW.aload_n (pc := 109) dX12_nearPart_109 rfl 0 rfl ?_
    refine AW.iconst (pc := 110) dX12_nearPart_110 ci_1 ?_
    refine AW.iload_n (pc := 111) dX12_nearPart_111 rfl 1 rfl ?_
    refine AW.iload (pc := 112) dX12_nearPart_112 5 rfl ?_
    refine AW.cV3i (pc := 114) dX12_nearPart_114 mlX12_355 mbX12_goOn rfl hthis (kct hthis rfl hct) (fun _ => okR_N (by omega)) (kX12_goOn l E (n - 1) (by omega) ct hct ex this 1 x2 v15 M9) (Nat.le_of_ble_eq_true rfl) (fun v17 M18 => ?_)
    refine AW.iadd (pc := 117) dX12_nearPart_117 ?_
    refine AW.genI (fun v19 => ?_)
    refine AW.dup2 (pc := 118) dX12_nearPart_118 rfl rfl ?_
    refine AW.chk (fun g20 => ?_)
    refine AW.lald (pc := 119) dX12_nearPart_119 (k0e g20.1) (kct (k0e g20.1) rfl hct) g20.2 ?_
    refine AW.lload (pc := 120) dX12_nearPart_120 2 rfl ?_
    refine AW.ladd (pc := 122) dX12_nearPart_122 ?_
    refine AW.chk (fun g21 => ?_)
    refine AW.last (pc := 123) dX12_nearPart_123 (k0e g20.1) (kct (k0e g20.1) rfl hct) g21 ?_
    refine AW.genM (fun M22 => ?_)
    refine AW.iload (pc := 124) dX12_nearPart_124 5 rfl ?_
    refine AW.iconst (pc := 126) dX12_nearPart_126 ci_m1 ?_
    refine AW.icmp_ne (pc := 127) 144 dX12_nearPart_127 (by decide) (fun h23 => ?_) (fun h23 => ?_)
    · refine AW.aload_n (pc := 130) dX12_nearPart_130 rfl 0 rfl ?_
      refine AW.dup (pc := 131) dX12_nearPart_131 rfl ?_
      refine AW.getL (pc := 132) dX12_nearPart_132 flX12_400 hthis (kct hthis rfl hct) ?_
      refine AW.lload (pc := 135) dX12_nearPart_135 2 rfl ?_
      refine AW.ladd (pc := 137) dX12_nearPart_137 ?_
      refine AW.putL (pc := 138) dX12_nearPart_138 flX12_400 hthis (kct hthis rfl hct) ?_
      refine AW.genM (fun M24 => ?_)
      refine AW.goto (pc := 141) 159 dX12_nearPart_141 (by decide) ?_
      exact AW.vret (pc := 159) dX12_nearPart_159 rfl (fun _ _ _ => rfl) (Nat.le_refl _) (Nat.le_refl _)
    · refine AW.aload_n (pc := 144) dX12_nearPart_144 rfl 0 rfl ?_
      refine AW.dup (pc := 145) dX12_nearPart_145 rfl ?_
      refine AW.getL (pc := 146) dX12_nearPart_146 flX12_403 hthis (kct hthis rfl hct) ?_
      refine AW.lload (pc := 149) dX12_nearPart_149 2 rfl ?_
      refine AW.iload (pc := 151) dX12_nearPart_151 5 rfl ?_
      refine AW.i2l (pc := 153) dX12_nearPart_153 ?_
      refine AW.lmul (pc := 154) dX12_nearPart_154 ?_
      refine AW.ladd (pc := 155) dX12_nearPart_155 ?_
      refine AW.putL (pc := 156) dX12_nearPart_156 flX12_403 hthis (kct hthis rfl hct) ?_
      refine AW.genM (fun M25 => ?_)
      exact AW.vret (pc := 159) dX12_nearPart_159 rfl (fun _ _ _ => rfl) (Nat.le_refl _) (Nat.le_refl _)
  · refine AW.aload_n (pc := 63) dX12_nearPart_63 rfl 0 rfl ?_
    refine AW.chk (fun g26 => ?_)
    refine AW.getR (pc := 64) dX12_nearPart_64 flX12_119 hthis (kct hthis rfl hct) g26 ?_
    refine AW.iload (pc := 67) dX12_nearPart_67 4 rfl ?_
    refine AW.iload (pc := 69) dX12_nearPart_69 6 rfl ?_
    refine AW.imul (pc := 71) dX12_nearPart_71 ?_
    refine AW.iload_n (pc := 72) dX12_nearPart_72 rfl 1 rfl ?_
    refine AW.iadd (pc := 73) dX12_nearPart_73 ?_
    refine AW.genI (fun v27 => ?_)
    refine AW.dup2 (pc := 74) dX12_nearPart_74 rfl rfl ?_
    refine AW.chk (fun g28 => ?_)
    refine AW.lald (pc := 75) dX12_nearPart_75 (k0e g28.1) (kct (k0e g28.1) rfl hct) g28.2 ?_
    refine AW.lload (pc := 76) dX12_nearPart_76 3 rfl ?_
    refine AW.ladd (pc := 78) dX12_nearPart_78 ?_
    refine AW.chk (fun g29 => ?_)
    refine AW.last (pc := 79) dX12_nearPart_79 (k0e g28.1) (kct (k0e g28.1) rfl hct) g29 ?_
    refine AW.genM (fun M30 => ?_)
    exact AW.vret (pc := 80) dX12_nearPart_80 rfl (fun _ _ _ => rfl) (Nat.le_refl _) (Nat.le_refl _)
-- GateBoxModel.nearPerson()V
def zX12_nearPerson_B164 (KK164 : Nat → Int32 → Int32 → Mem → Option (Unit × Mem)) (this : Nat) (x3 : Int32) (x4 : Int32) (M : Mem) : Option (Unit × Mem) :=
  if x3 ≤ x4 then
    some ((), M)
  else
    if mR M this 40 ≠ 0 then
    if mR M this 41 ≠ 0 then
    if (K0 (mR M this 41)).1 = 2 ∧ inb x4 (K0 (mR M this 41)).2 = true then
    if (K0 (mR M this 40)).1 = 2 ∧ inb x4 (K0 (mR M this 40)).2 = true then
    lt (sL M (mR M this 40) (Int32.toNatClampNeg x4) (mL M (mR M this 41) (Int32.toNatClampNeg x4))) fun M6 =>
    KK164 this x3 (x4 + 1) M6
    else none
    else none
    else none
    else none
def zX12_nearPerson_L164 : Nat → Nat → Int32 → Int32 → Mem → Option (Unit × Mem)
  | 0 => fun _ _ _ _ => none
  | k + 1 => zX12_nearPerson_B164 (zX12_nearPerson_L164 k)
def zX12_nearPerson_B155 (KK46 : Nat → Int32 → Int32 → Int32 → Int32 → Mem → Option (Unit × Mem)) (this : Nat) (x1 : Int32) (x2 : Int32) (x3 : Int32) (x4 : Int32) (M : Mem) : Option (Unit × Mem) :=
  KK46 this x1 x2 x3 (x4 + 1) M
def zX12_nearPerson_B124 (KK46 : Nat → Int32 → Int32 → Int32 → Int32 → Mem → Option (Unit × Mem)) (KK64 : Nat → Int32 → Int32 → Int32 → Int32 → Int64 → Int32 → Mem → Option (Unit × Mem)) (this : Nat) (x1 : Int32) (x2 : Int32) (x3 : Int32) (x4 : Int32) (x5 : Int64) (x7 : Int32) (s0 : Int64) (M : Mem) : Option (Unit × Mem) :=
  lt (x5 - s0) fun v1 =>
  if ¬ x1 = 0 then
  if ¬ x1 = 0 then
  bnd (zX12_nearPart this (x4 / x1) (x4 % x1) x7 s0 M) fun _ M4 =>
  KK64 this x1 x2 x3 x4 v1 (x7 + 1) M4
  else none
  else none
def zX12_nearPerson_B64 (KK46 : Nat → Int32 → Int32 → Int32 → Int32 → Mem → Option (Unit × Mem)) (KK64 : Nat → Int32 → Int32 → Int32 → Int32 → Int64 → Int32 → Mem → Option (Unit × Mem)) (this : Nat) (x1 : Int32) (x2 : Int32) (x3 : Int32) (x4 : Int32) (x5 : Int64) (x7 : Int32) (M : Mem) : Option (Unit × Mem) :=
  if mR M this 3 ≠ 0 then
  if (K0 (mR M this 3)).1 = 1 ∧ inb 0 (K0 (mR M this 3)).2 = true then
  if (mI M (mR M this 3) (Int32.toNatClampNeg 0)) ≤ x7 then
    zX12_nearPerson_B155 KK46 this x1 x2 x3 x4 M
  else
    if mR M this 40 ≠ 0 then
    if (K0 (mR M this 40)).1 = 2 ∧ inb x4 (K0 (mR M this 40)).2 = true then
    if (lg_cmp (mL M (mR M this 40) (Int32.toNatClampNeg x4)) 0) ≤ 0 then
      zX12_nearPerson_B155 KK46 this x1 x2 x3 x4 M
    else
      if inb 0 (K0 (mR M this 3)).2 = true then
      if x7 = ((mI M (mR M this 3) (Int32.toNatClampNeg 0)) - 1) then
        zX12_nearPerson_B124 KK46 KK64 this x1 x2 x3 x4 x5 x7 x5 M
      else
        if inb x4 (K0 (mR M this 40)).2 = true then
        if mR M this 5 ≠ 0 then
        if (K0 (mR M this 5)).1 = 1 ∧ inb x7 (K0 (mR M this 5)).2 = true then
        if ¬ (Int32.toInt64 x2) = 0 then
        zX12_nearPerson_B124 KK46 KK64 this x1 x2 x3 x4 x5 x7 (((mL M (mR M this 40) (Int32.toNatClampNeg x4)) * (Int32.toInt64 (mI M (mR M this 5) (Int32.toNatClampNeg x7)))) / (Int32.toInt64 x2)) M
        else none
        else none
        else none
        else none
      else none
    else none
    else none
  else none
  else none
def zX12_nearPerson_L64 (KK46 : Nat → Int32 → Int32 → Int32 → Int32 → Mem → Option (Unit × Mem)) : Nat → Nat → Int32 → Int32 → Int32 → Int32 → Int64 → Int32 → Mem → Option (Unit × Mem)
  | 0 => fun _ _ _ _ _ _ _ _ => none
  | k + 1 => zX12_nearPerson_B64 KK46 (zX12_nearPerson_L64 KK46 k)
def zX12_nearPerson_B46 (KK46 : Nat → Int32 → Int32 → Int32 → Int32 → Mem → Option (Unit × Mem)) (this : Nat) (x1 : Int32) (x2 : Int32) (x3 : Int32) (x4 : Int32) (M : Mem) : Option (Unit × Mem) :=
  if x3 ≤ x4 then
    zX12_nearPerson_L164 FU this x3 0 M
  else
    if mR M this 40 ≠ 0 then
    if (K0 (mR M this 40)).1 = 2 ∧ inb x4 (K0 (mR M this 40)).2 = true then
    lt (mL M (mR M this 40) (Int32.toNatClampNeg x4)) fun v4 =>
    zX12_nearPerson_L64 KK46 FU this x1 x2 x3 x4 v4 0 M
    else none
    else none
def zX12_nearPerson_L46 : Nat → Nat → Int32 → Int32 → Int32 → Int32 → Mem → Option (Unit × Mem)
  | 0 => fun _ _ _ _ _ _ => none
  | k + 1 => zX12_nearPerson_B46 (zX12_nearPerson_L46 k)
def zX12_nearPerson_B23 (KK23 : Nat → Int32 → Int32 → Int32 → Int32 → Mem → Option (Unit × Mem)) (this : Nat) (x1 : Int32) (x2 : Int32) (x3 : Int32) (x4 : Int32) (M : Mem) : Option (Unit × Mem) :=
  if x3 ≤ x4 then
    zX12_nearPerson_L46 FU this x1 x2 x3 0 M
  else
    if mR M this 41 ≠ 0 then
    if (K0 (mR M this 41)).1 = 2 ∧ inb x4 (K0 (mR M this 41)).2 = true then
    lt (sL M (mR M this 41) (Int32.toNatClampNeg x4) 0) fun M4 =>
    KK23 this x1 x2 x3 (x4 + 1) M4
    else none
    else none
def zX12_nearPerson_L23 : Nat → Nat → Int32 → Int32 → Int32 → Int32 → Mem → Option (Unit × Mem)
  | 0 => fun _ _ _ _ _ _ => none
  | k + 1 => zX12_nearPerson_B23 (zX12_nearPerson_L23 k)
def zX12_nearPerson (this : Nat) (M : Mem) : Option (Unit × Mem) :=
  if K0 this = (0, 12) then
  bnd (zX12_statesOf this 1 M) fun v1 M2 =>
  bnd (zX12_oddsOf this 0 M2) fun v3 M4 =>
  bnd (zX12_statesOf this 0 M4) fun v5 M6 =>
  lt (v5 * v1) fun v7 =>
  zX12_nearPerson_L23 FU this v1 v3 v7 0 M6
  else none
set_option maxRecDepth 20000 in
set_option maxHeartbeats 4000000 in
theorem kX12_nearPerson_B164 (l : Launch) (E : Ev) (n : Nat) (hn : 7 ≤ n) (ct : Nat) (hct : 111 ≤ ct) (ex : Bool) (KK164 : Nat → Int32 → Int32 → Mem → Option (Unit × Mem)) (hKK164 : ∀ (this : Nat) (x3 : Int32) (x4 : Int32) (M : Mem) (_ : K0 this = (0, 12)), AW l E fX12_nearPerson (fun _ => rmN n 0 0) (PQr E 0 0 ct ex enU) ct ex 0 0 164 [(0, .ref (ad E this)), (3, .int x3), (4, .int x4)] [] M (KK164 this x3 x4 M)) (this : Nat) (x3 : Int32) (x4 : Int32) (M : Mem) (hthis : K0 this = (0, 12)) : AW l E fX12_nearPerson (fun _ => rmN n 0 0) (PQr E 0 0 ct ex enU) ct ex 0 0 164 [(0, .ref (ad E this)), (3, .int x3), (4, .int x4)] [] M (zX12_nearPerson_B164 KK164 this x3 x4 M) := by
  unfold zX12_nearPerson_B164
  refine AW.iload (pc := 164) dX12_nearPerson_164 2 rfl ?_
  refine AW.iload_n (pc := 166) dX12_nearPerson_166 rfl 1 rfl ?_
  refine AW.icmp_ge (pc := 167) 190 dX12_nearPerson_167 (by decide) (fun h1 => ?_) (fun h1 => ?_)
  · exact AW.vret (pc := 190) dX12_nearPerson_190 rfl (fun _ _ _ => rfl) (Nat.le_refl _) (Nat.le_refl _)
  · refine AW.aload_n (pc := 170) dX12_nearPerson_170 rfl 0 rfl ?_
    refine AW.chk (fun g2 => ?_)
    refine AW.getR (pc := 171) dX12_nearPerson_171 flX12_116 hthis (kct hthis rfl hct) g2 ?_
    refine AW.iload (pc := 174) dX12_nearPerson_174 2 rfl ?_
    refine AW.aload_n (pc := 176) dX12_nearPerson_176 rfl 0 rfl ?_
    refine AW.chk (fun g3 => ?_)
    refine AW.getR (pc := 177) dX12_nearPerson_177 flX12_119 hthis (kct hthis rfl hct) g3 ?_
    refine AW.iload (pc := 180) dX12_nearPerson_180 2 rfl ?_
    refine AW.chk (fun g4 => ?_)
    refine AW.lald (pc := 182) dX12_nearPerson_182 (k0e g4.1) (kct (k0e g4.1) rfl hct) g4.2 ?_
    refine AW.chk (fun g5 => ?_)
    refine AW.last (pc := 183) dX12_nearPerson_183 (k0e g5.1) (kct (k0e g5.1) rfl hct) g5.2 ?_
    refine AW.genM (fun M6 => ?_)
    refine AW.iinc (pc := 184) (w := 2) [1, 2, 0] [(0, .ref (ad E this)), (3, .int x3), (4, .int (x4 + 1))] dX12_nearPerson_184 rfl (inc_1 _) (by decide) rfl ?_
    refine AW.goto (pc := 187) 164 dX12_nearPerson_187 (by decide) ?_
    exact hKK164 this x3 (x4 + 1) M6 hthis
set_option maxRecDepth 20000 in
set_option maxHeartbeats 4000000 in
theorem kX12_nearPerson_L164 (l : Launch) (E : Ev) (n : Nat) (hn : 7 ≤ n) (ct : Nat) (hct : 111 ≤ ct) (ex : Bool) (k : Nat) : ∀ (this : Nat) (x3 : Int32) (x4 : Int32) (M : Mem) (_ : K0 this = (0, 12)), AW l E fX12_nearPerson (fun _ => rmN n 0 0) (PQr E 0 0 ct ex enU) ct ex 0 0 164 [(0, .ref (ad E this)), (3, .int x3), (4, .int x4)] [] M (zX12_nearPerson_L164 k this x3 x4 M) := by
  induction k with
  | zero => intro this x3 x4 M _; exact AW.none
  | succ k ih =>
    intro this x3 x4 M hthis
    exact kX12_nearPerson_B164 l E n hn ct hct ex (zX12_nearPerson_L164 k) ih this x3 x4 M hthis
set_option maxRecDepth 20000 in
set_option maxHeartbeats 4000000 in
theorem kX12_nearPerson_B155 (l : Launch) (E : Ev) (n : Nat) (hn : 7 ≤ n) (ct : Nat) (hct : 111 ≤ ct) (ex : Bool) (KK46 : Nat → Int32 → Int32 → Int32 → Int32 → Mem → Option (Unit × Mem)) (hKK46 : ∀ (this : Nat) (x1 : Int32) (x2 : Int32) (x3 : Int32) (x4 : Int32) (M : Mem) (_ : K0 this = (0, 12)), AW l E fX12_nearPerson (fun _ => rmN n 0 0) (PQr E 0 0 ct ex enU) ct ex 0 0 46 [(0, .ref (ad E this)), (1, .int x1), (2, .int x2), (3, .int x3), (4, .int x4)] [] M (KK46 this x1 x2 x3 x4 M)) (this : Nat) (x1 : Int32) (x2 : Int32) (x3 : Int32) (x4 : Int32) (M : Mem) (hthis : K0 this = (0, 12)) : AW l E fX12_nearPerson (fun _ => rmN n 0 0) (PQr E 0 0 ct ex enU) ct ex 0 0 155 [(0, .ref (ad E this)), (1, .int x1), (2, .int x2), (3, .int x3), (4, .int x4)] [] M (zX12_nearPerson_B155 KK46 this x1 x2 x3 x4 M) := by
  unfold zX12_nearPerson_B155
  refine AW.iinc (pc := 155) (w := 4) [1, 2, 3, 4, 0] [(0, .ref (ad E this)), (1, .int x1), (2, .int x2), (3, .int x3), (4, .int (x4 + 1))] dX12_nearPerson_155 rfl (inc_1 _) (by decide) rfl ?_
  refine AW.goto (pc := 158) 46 dX12_nearPerson_158 (by decide) ?_
  exact hKK46 this x1 x2 x3 (x4 + 1) M hthis
set_option maxRecDepth 20000 in
set_option maxHeartbeats 4000000 in
theorem kX12_nearPerson_B124 (l : Launch) (E : Ev) (n : Nat) (hn : 7 ≤ n) (ct : Nat) (hct : 111 ≤ ct) (ex : Bool) (KK46 : Nat → Int32 → Int32 → Int32 → Int32 → Mem → Option (Unit × Mem)) (hKK46 : ∀ (this : Nat) (x1 : Int32) (x2 : Int32) (x3 : Int32) (x4 : Int32) (M : Mem) (_ : K0 this = (0, 12)), AW l E fX12_nearPerson (fun _ => rmN n 0 0) (PQr E 0 0 ct ex enU) ct ex 0 0 46 [(0, .ref (ad E this)), (1, .int x1), (2, .int x2), (3, .int x3), (4, .int x4)] [] M (KK46 this x1 x2 x3 x4 M)) (KK64 : Nat → Int32 → Int32 → Int32 → Int32 → Int64 → Int32 → Mem → Option (Unit × Mem)) (hKK64 : ∀ (this : Nat) (x1 : Int32) (x2 : Int32) (x3 : Int32) (x4 : Int32) (x5 : Int64) (x7 : Int32) (M : Mem) (_ : K0 this = (0, 12)), AW l E fX12_nearPerson (fun _ => rmN n 0 0) (PQr E 0 0 ct ex enU) ct ex 0 0 64 [(0, .ref (ad E this)), (1, .int x1), (2, .int x2), (3, .int x3), (4, .int x4), (5, .long x5), (7, .int x7)] [] M (KK64 this x1 x2 x3 x4 x5 x7 M)) (this : Nat) (x1 : Int32) (x2 : Int32) (x3 : Int32) (x4 : Int32) (x5 : Int64) (x7 : Int32) (s0 : Int64) (M : Mem) (hthis : K0 this = (0, 12)) : AW l E fX12_nearPerson (fun _ => rmN n 0 0) (PQr E 0 0 ct ex enU) ct ex 0 0 124 [(0, .ref (ad E this)), (1, .int x1), (2, .int x2), (3, .int x3), (4, .int x4), (5, .long x5), (7, .int x7)] [.long s0] M (zX12_nearPerson_B124 KK46 KK64 this x1 x2 x3 x4 x5 x7 s0 M) := by
  unfold zX12_nearPerson_B124
  refine AW.lstore (pc := 124) [1, 2, 3, 4, 5, 6, 7, 0] [(0, .ref (ad E this)), (1, .int x1), (2, .int x2), (3, .int x3), (4, .int x4), (5, .long x5), (7, .int x7), (8, .long s0)] dX12_nearPerson_124 (by decide) rfl ?_
  refine AW.lload (pc := 126) dX12_nearPerson_126 5 rfl ?_
  refine AW.lload (pc := 128) dX12_nearPerson_128 7 rfl ?_
  refine AW.lsub (pc := 130) dX12_nearPerson_130 ?_
  refine AW.genL (fun v1 => ?_)
  refine AW.lstore (pc := 131) [1, 2, 3, 4, 5, 0, 6, 7] [(0, .ref (ad E this)), (1, .int x1), (2, .int x2), (3, .int x3), (4, .int x4), (5, .long v1), (7, .int x7), (8, .long s0)] dX12_nearPerson_131 (by decide) rfl ?_
  refine AW.aload_n (pc := 133) dX12_nearPerson_133 rfl 0 rfl ?_
  refine AW.iload (pc := 134) dX12_nearPerson_134 4 rfl ?_
  refine AW.iload_n (pc := 136) dX12_nearPerson_136 rfl 1 rfl ?_
  refine AW.chk (fun g2 => ?_)
  refine AW.idiv (pc := 137) dX12_nearPerson_137 g2 ?_
  refine AW.iload (pc := 138) dX12_nearPerson_138 4 rfl ?_
  refine AW.iload_n (pc := 140) dX12_nearPerson_140 rfl 1 rfl ?_
  refine AW.chk (fun g3 => ?_)
  refine AW.irem (pc := 141) dX12_nearPerson_141 g3 ?_
  refine AW.iload (pc := 142) dX12_nearPerson_142 6 rfl ?_
  refine AW.lload (pc := 144) dX12_nearPerson_144 7 rfl ?_
  refine AW.cV4v (pc := 146) dX12_nearPerson_146 mlX12_406 mbX12_nearPart rfl hthis (kct hthis rfl hct) (fun _ => okR_N (by omega)) (kX12_nearPart l E (n - 1) (by omega) ct hct ex this (x4 / x1) (x4 % x1) x7 s0 M) (Nat.le_of_ble_eq_true rfl) (fun _ M4 => ?_)
  refine AW.iinc (pc := 149) (w := 6) [1, 2, 3, 4, 5, 6, 0] [(0, .ref (ad E this)), (1, .int x1), (2, .int x2), (3, .int x3), (4, .int x4), (5, .long v1), (7, .int (x7 + 1))] dX12_nearPerson_149 rfl (inc_1 _) (by decide) rfl ?_
  refine AW.goto (pc := 152) 64 dX12_nearPerson_152 (by decide) ?_
  exact hKK64 this x1 x2 x3 x4 v1 (x7 + 1) M4 hthis
set_option maxRecDepth 20000 in
set_option maxHeartbeats 4000000 in
theorem kX12_nearPerson_B64 (l : Launch) (E : Ev) (n : Nat) (hn : 7 ≤ n) (ct : Nat) (hct : 111 ≤ ct) (ex : Bool) (KK46 : Nat → Int32 → Int32 → Int32 → Int32 → Mem → Option (Unit × Mem)) (hKK46 : ∀ (this : Nat) (x1 : Int32) (x2 : Int32) (x3 : Int32) (x4 : Int32) (M : Mem) (_ : K0 this = (0, 12)), AW l E fX12_nearPerson (fun _ => rmN n 0 0) (PQr E 0 0 ct ex enU) ct ex 0 0 46 [(0, .ref (ad E this)), (1, .int x1), (2, .int x2), (3, .int x3), (4, .int x4)] [] M (KK46 this x1 x2 x3 x4 M)) (KK64 : Nat → Int32 → Int32 → Int32 → Int32 → Int64 → Int32 → Mem → Option (Unit × Mem)) (hKK64 : ∀ (this : Nat) (x1 : Int32) (x2 : Int32) (x3 : Int32) (x4 : Int32) (x5 : Int64) (x7 : Int32) (M : Mem) (_ : K0 this = (0, 12)), AW l E fX12_nearPerson (fun _ => rmN n 0 0) (PQr E 0 0 ct ex enU) ct ex 0 0 64 [(0, .ref (ad E this)), (1, .int x1), (2, .int x2), (3, .int x3), (4, .int x4), (5, .long x5), (7, .int x7)] [] M (KK64 this x1 x2 x3 x4 x5 x7 M)) (this : Nat) (x1 : Int32) (x2 : Int32) (x3 : Int32) (x4 : Int32) (x5 : Int64) (x7 : Int32) (M : Mem) (hthis : K0 this = (0, 12)) : AW l E fX12_nearPerson (fun _ => rmN n 0 0) (PQr E 0 0 ct ex enU) ct ex 0 0 64 [(0, .ref (ad E this)), (1, .int x1), (2, .int x2), (3, .int x3), (4, .int x4), (5, .long x5), (7, .int x7)] [] M (zX12_nearPerson_B64 KK46 KK64 this x1 x2 x3 x4 x5 x7 M) := by
  unfold zX12_nearPerson_B64
  refine AW.iload (pc := 64) dX12_nearPerson_64 6 rfl ?_
  refine AW.aload_n (pc := 66) dX12_nearPerson_66 rfl 0 rfl ?_
  refine AW.chk (fun g1 => ?_)
  refine AW.getR (pc := 67) dX12_nearPerson_67 flX12_42 hthis (kct hthis rfl hct) g1 ?_
  refine AW.iconst (pc := 70) dX12_nearPerson_70 ci_0 ?_
  refine AW.chk (fun g2 => ?_)
  refine AW.iald (pc := 71) dX12_nearPerson_71 (k0e g2.1) (kct (k0e g2.1) rfl hct) g2.2 ?_
  refine AW.icmp_ge (pc := 72) 155 dX12_nearPerson_72 (by decide) (fun h3 => ?_) (fun h3 => ?_)
  · exact AW.sub [0, 1, 2, 3, 4] rfl (kX12_nearPerson_B155 l E n hn ct hct ex KK46 hKK46 this x1 x2 x3 x4 M hthis)
  · refine AW.aload_n (pc := 75) dX12_nearPerson_75 rfl 0 rfl ?_
    refine AW.chk (fun g4 => ?_)
    refine AW.getR (pc := 76) dX12_nearPerson_76 flX12_116 hthis (kct hthis rfl hct) g4 ?_
    refine AW.iload (pc := 79) dX12_nearPerson_79 4 rfl ?_
    refine AW.chk (fun g5 => ?_)
    refine AW.lald (pc := 81) dX12_nearPerson_81 (k0e g5.1) (kct (k0e g5.1) rfl hct) g5.2 ?_
    refine AW.lconst (pc := 82) dX12_nearPerson_82 cl_0 ?_
    refine AW.lcmp (pc := 83) dX12_nearPerson_83 ?_
    refine AW.if_le (pc := 84) 155 dX12_nearPerson_84 (by decide) (fun h6 => ?_) (fun h6 => ?_)
    · exact AW.sub [0, 1, 2, 3, 4] rfl (kX12_nearPerson_B155 l E n hn ct hct ex KK46 hKK46 this x1 x2 x3 x4 M hthis)
    · refine AW.iload (pc := 87) dX12_nearPerson_87 6 rfl ?_
      refine AW.aload_n (pc := 89) dX12_nearPerson_89 rfl 0 rfl ?_
      refine AW.getR (pc := 90) dX12_nearPerson_90 flX12_42 hthis (kct hthis rfl hct) g1 ?_
      refine AW.iconst (pc := 93) dX12_nearPerson_93 ci_0 ?_
      refine AW.chk (fun g7 => ?_)
      refine AW.iald (pc := 94) dX12_nearPerson_94 (k0e g2.1) (kct (k0e g2.1) rfl hct) g7 ?_
      refine AW.iconst (pc := 95) dX12_nearPerson_95 ci_1 ?_
      refine AW.isub (pc := 96) dX12_nearPerson_96 ?_
      refine AW.icmp_ne (pc := 97) 105 dX12_nearPerson_97 (by decide) (fun h8 => ?_) (fun h8 => ?_)
      · refine AW.lload (pc := 100) dX12_nearPerson_100 5 rfl ?_
        refine AW.goto (pc := 102) 124 dX12_nearPerson_102 (by decide) ?_
        exact kX12_nearPerson_B124 l E n hn ct hct ex KK46 hKK46 KK64 hKK64 this x1 x2 x3 x4 x5 x7 x5 M hthis
      · refine AW.aload_n (pc := 105) dX12_nearPerson_105 rfl 0 rfl ?_
        refine AW.getR (pc := 106) dX12_nearPerson_106 flX12_116 hthis (kct hthis rfl hct) g4 ?_
        refine AW.iload (pc := 109) dX12_nearPerson_109 4 rfl ?_
        refine AW.chk (fun g9 => ?_)
        refine AW.lald (pc := 111) dX12_nearPerson_111 (k0e g5.1) (kct (k0e g5.1) rfl hct) g9 ?_
        refine AW.aload_n (pc := 112) dX12_nearPerson_112 rfl 0 rfl ?_
        refine AW.chk (fun g10 => ?_)
        refine AW.getR (pc := 113) dX12_nearPerson_113 flX12_49 hthis (kct hthis rfl hct) g10 ?_
        refine AW.iload (pc := 116) dX12_nearPerson_116 6 rfl ?_
        refine AW.chk (fun g11 => ?_)
        refine AW.iald (pc := 118) dX12_nearPerson_118 (k0e g11.1) (kct (k0e g11.1) rfl hct) g11.2 ?_
        refine AW.i2l (pc := 119) dX12_nearPerson_119 ?_
        refine AW.lmul (pc := 120) dX12_nearPerson_120 ?_
        refine AW.iload_n (pc := 121) dX12_nearPerson_121 rfl 2 rfl ?_
        refine AW.i2l (pc := 122) dX12_nearPerson_122 ?_
        refine AW.chk (fun g12 => ?_)
        refine AW.ldiv (pc := 123) dX12_nearPerson_123 g12 ?_
        exact kX12_nearPerson_B124 l E n hn ct hct ex KK46 hKK46 KK64 hKK64 this x1 x2 x3 x4 x5 x7 (((mL M (mR M this 40) (Int32.toNatClampNeg x4)) * (Int32.toInt64 (mI M (mR M this 5) (Int32.toNatClampNeg x7)))) / (Int32.toInt64 x2)) M hthis
set_option maxRecDepth 20000 in
set_option maxHeartbeats 4000000 in
theorem kX12_nearPerson_L64 (l : Launch) (E : Ev) (n : Nat) (hn : 7 ≤ n) (ct : Nat) (hct : 111 ≤ ct) (ex : Bool) (KK46 : Nat → Int32 → Int32 → Int32 → Int32 → Mem → Option (Unit × Mem)) (hKK46 : ∀ (this : Nat) (x1 : Int32) (x2 : Int32) (x3 : Int32) (x4 : Int32) (M : Mem) (_ : K0 this = (0, 12)), AW l E fX12_nearPerson (fun _ => rmN n 0 0) (PQr E 0 0 ct ex enU) ct ex 0 0 46 [(0, .ref (ad E this)), (1, .int x1), (2, .int x2), (3, .int x3), (4, .int x4)] [] M (KK46 this x1 x2 x3 x4 M)) (k : Nat) : ∀ (this : Nat) (x1 : Int32) (x2 : Int32) (x3 : Int32) (x4 : Int32) (x5 : Int64) (x7 : Int32) (M : Mem) (_ : K0 this = (0, 12)), AW l E fX12_nearPerson (fun _ => rmN n 0 0) (PQr E 0 0 ct ex enU) ct ex 0 0 64 [(0, .ref (ad E this)), (1, .int x1), (2, .int x2), (3, .int x3), (4, .int x4), (5, .long x5), (7, .int x7)] [] M (zX12_nearPerson_L64 KK46 k this x1 x2 x3 x4 x5 x7 M) := by
  induction k with
  | zero => intro this x1 x2 x3 x4 x5 x7 M _; exact AW.none
  | succ k ih =>
    intro this x1 x2 x3 x4 x5 x7 M hthis
    exact kX12_nearPerson_B64 l E n hn ct hct ex KK46 hKK46 (zX12_nearPerson_L64 KK46 k) ih this x1 x2 x3 x4 x5 x7 M hthis
set_option maxRecDepth 20000 in
set_option maxHeartbeats 4000000 in
theorem kX12_nearPerson_B46 (l : Launch) (E : Ev) (n : Nat) (hn : 7 ≤ n) (ct : Nat) (hct : 111 ≤ ct) (ex : Bool) (KK46 : Nat → Int32 → Int32 → Int32 → Int32 → Mem → Option (Unit × Mem)) (hKK46 : ∀ (this : Nat) (x1 : Int32) (x2 : Int32) (x3 : Int32) (x4 : Int32) (M : Mem) (_ : K0 this = (0, 12)), AW l E fX12_nearPerson (fun _ => rmN n 0 0) (PQr E 0 0 ct ex enU) ct ex 0 0 46 [(0, .ref (ad E this)), (1, .int x1), (2, .int x2), (3, .int x3), (4, .int x4)] [] M (KK46 this x1 x2 x3 x4 M)) (this : Nat) (x1 : Int32) (x2 : Int32) (x3 : Int32) (x4 : Int32) (M : Mem) (hthis : K0 this = (0, 12)) : AW l E fX12_nearPerson (fun _ => rmN n 0 0) (PQr E 0 0 ct ex enU) ct ex 0 0 46 [(0, .ref (ad E this)), (1, .int x1), (2, .int x2), (3, .int x3), (4, .int x4)] [] M (zX12_nearPerson_B46 KK46 this x1 x2 x3 x4 M) := by
  unfold zX12_nearPerson_B46
  refine AW.iload (pc := 46) dX12_nearPerson_46 4 rfl ?_
  refine AW.iload_n (pc := 48) dX12_nearPerson_48 rfl 3 rfl ?_
  refine AW.icmp_ge (pc := 49) 161 dX12_nearPerson_49 (by decide) (fun h1 => ?_) (fun h1 => ?_)
  · refine AW.iconst (pc := 161) dX12_nearPerson_161 ci_0 ?_
    refine AW.istore (pc := 162) [1, 4, 0] [(0, .ref (ad E this)), (3, .int x3), (4, .int 0)] dX12_nearPerson_162 (by decide) rfl ?_
    exact kX12_nearPerson_L164 l E n hn ct hct ex FU this x3 0 M hthis
  · refine AW.aload_n (pc := 52) dX12_nearPerson_52 rfl 0 rfl ?_
    refine AW.chk (fun g2 => ?_)
    refine AW.getR (pc := 53) dX12_nearPerson_53 flX12_116 hthis (kct hthis rfl hct) g2 ?_
    refine AW.iload (pc := 56) dX12_nearPerson_56 4 rfl ?_
    refine AW.chk (fun g3 => ?_)
    refine AW.lald (pc := 58) dX12_nearPerson_58 (k0e g3.1) (kct (k0e g3.1) rfl hct) g3.2 ?_
    refine AW.genL (fun v4 => ?_)
    refine AW.lstore (pc := 59) [1, 2, 3, 4, 5, 0] [(0, .ref (ad E this)), (1, .int x1), (2, .int x2), (3, .int x3), (4, .int x4), (5, .long v4)] dX12_nearPerson_59 (by decide) rfl ?_
    refine AW.iconst (pc := 61) dX12_nearPerson_61 ci_0 ?_
    refine AW.istore (pc := 62) [1, 2, 3, 4, 5, 6, 0] [(0, .ref (ad E this)), (1, .int x1), (2, .int x2), (3, .int x3), (4, .int x4), (5, .long v4), (7, .int 0)] dX12_nearPerson_62 (by decide) rfl ?_
    exact kX12_nearPerson_L64 l E n hn ct hct ex KK46 hKK46 FU this x1 x2 x3 x4 v4 0 M hthis
set_option maxRecDepth 20000 in
set_option maxHeartbeats 4000000 in
theorem kX12_nearPerson_L46 (l : Launch) (E : Ev) (n : Nat) (hn : 7 ≤ n) (ct : Nat) (hct : 111 ≤ ct) (ex : Bool) (k : Nat) : ∀ (this : Nat) (x1 : Int32) (x2 : Int32) (x3 : Int32) (x4 : Int32) (M : Mem) (_ : K0 this = (0, 12)), AW l E fX12_nearPerson (fun _ => rmN n 0 0) (PQr E 0 0 ct ex enU) ct ex 0 0 46 [(0, .ref (ad E this)), (1, .int x1), (2, .int x2), (3, .int x3), (4, .int x4)] [] M (zX12_nearPerson_L46 k this x1 x2 x3 x4 M) := by
  induction k with
  | zero => intro this x1 x2 x3 x4 M _; exact AW.none
  | succ k ih =>
    intro this x1 x2 x3 x4 M hthis
    exact kX12_nearPerson_B46 l E n hn ct hct ex (zX12_nearPerson_L46 k) ih this x1 x2 x3 x4 M hthis
set_option maxRecDepth 20000 in
set_option maxHeartbeats 4000000 in
theorem kX12_nearPerson_B23 (l : Launch) (E : Ev) (n : Nat) (hn : 7 ≤ n) (ct : Nat) (hct : 111 ≤ ct) (ex : Bool) (KK23 : Nat → Int32 → Int32 → Int32 → Int32 → Mem → Option (Unit × Mem)) (hKK23 : ∀ (this : Nat) (x1 : Int32) (x2 : Int32) (x3 : Int32) (x4 : Int32) (M : Mem) (_ : K0 this = (0, 12)), AW l E fX12_nearPerson (fun _ => rmN n 0 0) (PQr E 0 0 ct ex enU) ct ex 0 0 23 [(0, .ref (ad E this)), (1, .int x1), (2, .int x2), (3, .int x3), (4, .int x4)] [] M (KK23 this x1 x2 x3 x4 M)) (this : Nat) (x1 : Int32) (x2 : Int32) (x3 : Int32) (x4 : Int32) (M : Mem) (hthis : K0 this = (0, 12)) : AW l E fX12_nearPerson (fun _ => rmN n 0 0) (PQr E 0 0 ct ex enU) ct ex 0 0 23 [(0, .ref (ad E this)), (1, .int x1), (2, .int x2), (3, .int x3), (4, .int x4)] [] M (zX12_nearPerson_B23 KK23 this x1 x2 x3 x4 M) := by
  unfold zX12_nearPerson_B23
  refine AW.iload (pc := 23) dX12_nearPerson_23 4 rfl ?_
  refine AW.iload_n (pc := 25) dX12_nearPerson_25 rfl 3 rfl ?_
  refine AW.icmp_ge (pc := 26) 43 dX12_nearPerson_26 (by decide) (fun h1 => ?_) (fun h1 => ?_)
  · refine AW.iconst (pc := 43) dX12_nearPerson_43 ci_0 ?_
    refine AW.istore (pc := 44) [1, 2, 3, 4, 0] [(0, .ref (ad E this)), (1, .int x1), (2, .int x2), (3, .int x3), (4, .int 0)] dX12_nearPerson_44 (by decide) rfl ?_
    exact kX12_nearPerson_L46 l E n hn ct hct ex FU this x1 x2 x3 0 M hthis
  · refine AW.aload_n (pc := 29) dX12_nearPerson_29 rfl 0 rfl ?_
    refine AW.chk (fun g2 => ?_)
    refine AW.getR (pc := 30) dX12_nearPerson_30 flX12_119 hthis (kct hthis rfl hct) g2 ?_
    refine AW.iload (pc := 33) dX12_nearPerson_33 4 rfl ?_
    refine AW.lconst (pc := 35) dX12_nearPerson_35 cl_0 ?_
    refine AW.chk (fun g3 => ?_)
    refine AW.last (pc := 36) dX12_nearPerson_36 (k0e g3.1) (kct (k0e g3.1) rfl hct) g3.2 ?_
    refine AW.genM (fun M4 => ?_)
    refine AW.iinc (pc := 37) (w := 4) [1, 2, 3, 4, 0] [(0, .ref (ad E this)), (1, .int x1), (2, .int x2), (3, .int x3), (4, .int (x4 + 1))] dX12_nearPerson_37 rfl (inc_1 _) (by decide) rfl ?_
    refine AW.goto (pc := 40) 23 dX12_nearPerson_40 (by decide) ?_
    exact hKK23 this x1 x2 x3 (x4 + 1) M4 hthis
set_option maxRecDepth 20000 in
set_option maxHeartbeats 4000000 in
theorem kX12_nearPerson_L23 (l : Launch) (E : Ev) (n : Nat) (hn : 7 ≤ n) (ct : Nat) (hct : 111 ≤ ct) (ex : Bool) (k : Nat) : ∀ (this : Nat) (x1 : Int32) (x2 : Int32) (x3 : Int32) (x4 : Int32) (M : Mem) (_ : K0 this = (0, 12)), AW l E fX12_nearPerson (fun _ => rmN n 0 0) (PQr E 0 0 ct ex enU) ct ex 0 0 23 [(0, .ref (ad E this)), (1, .int x1), (2, .int x2), (3, .int x3), (4, .int x4)] [] M (zX12_nearPerson_L23 k this x1 x2 x3 x4 M) := by
  induction k with
  | zero => intro this x1 x2 x3 x4 M _; exact AW.none
  | succ k ih =>
    intro this x1 x2 x3 x4 M hthis
    exact kX12_nearPerson_B23 l E n hn ct hct ex (zX12_nearPerson_L23 k) ih this x1 x2 x3 x4 M hthis
set_option maxRecDepth 20000 in
set_option maxHeartbeats 4000000 in
theorem kX12_nearPerson (l : Launch) (E : Ev) (n : Nat) (hn : 7 ≤ n) (ct : Nat) (hct : 111 ≤ ct) (ex : Bool) (this : Nat) (M : Mem) : AM l E n ct ex yX12_nearPerson fX12_nearPerson enU [.ref (ad E this)] M (zX12_nearPerson this M) := by
  unfold zX12_nearPerson
  refine AM.of (by decide +kernel) ⟨rfl, rfl, rfl⟩ (Nat.le_of_ble_eq_true rfl) ?_
  refine AW.chk (fun hthis => ?_)
  refine AW.aload_n (pc := 0) dX12_nearPerson_0 rfl 0 rfl ?_
  refine AW.iconst (pc := 1) dX12_nearPerson_1 ci_1 ?_
  refine AW.cV1i (pc := 2) dX12_nearPerson_2 mlX12_170 mbX12_statesOf rfl hthis (kct hthis rfl hct) (fun _ => okR_N (by omega)) (kX12_statesOf l E (n - 1) (by omega) ct hct ex this 1 M) (Nat.le_of_ble_eq_true rfl) (fun v1 M2 => ?_)
  refine AW.istore_n (pc := 5) [1, 0] [(0, .ref (ad E this)), (1, .int v1)] dX12_nearPerson_5 rfl (by decide) rfl ?_
  refine AW.aload_n (pc := 6) dX12_nearPerson_6 rfl 0 rfl ?_
  refine AW.iconst (pc := 7) dX12_nearPerson_7 ci_0 ?_
  refine AW.cV1i (pc := 8) dX12_nearPerson_8 mlX12_302 mbX12_oddsOf rfl hthis (kct hthis rfl hct) (fun _ => okR_N (by omega)) (kX12_oddsOf l E (n - 1) (by omega) ct hct ex this 0 M2) (Nat.le_of_ble_eq_true rfl) (fun v3 M4 => ?_)
  refine AW.istore_n (pc := 11) [1, 2, 0] [(0, .ref (ad E this)), (1, .int v1), (2, .int v3)] dX12_nearPerson_11 rfl (by decide) rfl ?_
  refine AW.aload_n (pc := 12) dX12_nearPerson_12 rfl 0 rfl ?_
  refine AW.iconst (pc := 13) dX12_nearPerson_13 ci_0 ?_
  refine AW.cV1i (pc := 14) dX12_nearPerson_14 mlX12_170 mbX12_statesOf rfl hthis (kct hthis rfl hct) (fun _ => okR_N (by omega)) (kX12_statesOf l E (n - 1) (by omega) ct hct ex this 0 M4) (Nat.le_of_ble_eq_true rfl) (fun v5 M6 => ?_)
  refine AW.iload_n (pc := 17) dX12_nearPerson_17 rfl 1 rfl ?_
  refine AW.imul (pc := 18) dX12_nearPerson_18 ?_
  refine AW.genI (fun v7 => ?_)
  refine AW.istore_n (pc := 19) [1, 2, 3, 0] [(0, .ref (ad E this)), (1, .int v1), (2, .int v3), (3, .int v7)] dX12_nearPerson_19 rfl (by decide) rfl ?_
  refine AW.iconst (pc := 20) dX12_nearPerson_20 ci_0 ?_
  refine AW.istore (pc := 21) [1, 2, 3, 4, 0] [(0, .ref (ad E this)), (1, .int v1), (2, .int v3), (3, .int v7), (4, .int 0)] dX12_nearPerson_21 (by decide) rfl ?_
  exact kX12_nearPerson_L23 l E n hn ct hct ex FU this v1 v3 v7 0 M6 hthis
-- GateBoxModel.near(II)I
def zX12_near_B256 (s0 : Int64) (M : Mem) : Option (Int32 × Mem) :=
  some (Int64.toInt32 (s0 / 1000000), M)
def zX12_near_B214 (KK214 : Nat → Int32 → Int32 → Int32 → Mem → Option (Int32 × Mem)) (this : Nat) (x1 : Int32) (x2 : Int32) (x3 : Int32) (M : Mem) : Option (Int32 × Mem) :=
  if x1 ≤ x3 then
    if x2 = 0 then
      zX12_near_B256 (mL M this 43) M
    else
      if x2 = 1 then
        zX12_near_B256 (mL M this 44) M
      else
        zX12_near_B256 (mL M this 45) M
  else
    bnd (zX12_nearPerson this M) fun _ M4 =>
    KK214 this x1 x2 (x3 + 1) M4
def zX12_near_L214 : Nat → Nat → Int32 → Int32 → Int32 → Mem → Option (Int32 × Mem)
  | 0 => fun _ _ _ _ _ => none
  | k + 1 => zX12_near_B214 (zX12_near_L214 k)
def zX12_near_B150 (KK150 : Nat → Int32 → Int32 → Int32 → Mem → Option (Int32 × Mem)) (this : Nat) (x1 : Int32) (x2 : Int32) (x3 : Int32) (M : Mem) : Option (Int32 × Mem) :=
  if 10000 ≤ x3 then
    if mR M this 40 ≠ 0 then
    bnd (zX12_statesOf this 1 M) fun v3 M4 =>
    if mR M4 this 11 ≠ 0 then
    if (K0 (mR M4 this 11)).1 = 1 ∧ inb 0 (K0 (mR M4 this 11)).2 = true then
    if inb 1 (K0 (mR M4 this 11)).2 = true then
    if (K0 (mR M this 40)).1 = 2 ∧ inb ((v3 * (mI M4 (mR M4 this 11) (Int32.toNatClampNeg 0))) + (mI M4 (mR M4 this 11) (Int32.toNatClampNeg 1))) (K0 (mR M this 40)).2 = true then
    lt (sL M4 (mR M this 40) (Int32.toNatClampNeg ((v3 * (mI M4 (mR M4 this 11) (Int32.toNatClampNeg 0))) + (mI M4 (mR M4 this 11) (Int32.toNatClampNeg 1)))) 1000000000) fun M9 =>
    lt (sL M9 this 43 0) fun M10 =>
    lt (sL M10 this 44 0) fun M11 =>
    lt (sL M11 this 45 0) fun M12 =>
    zX12_near_L214 FU this x1 x2 0 M12
    else none
    else none
    else none
    else none
    else none
  else
    if mR M this 40 ≠ 0 then
    if (K0 (mR M this 40)).1 = 2 ∧ inb x3 (K0 (mR M this 40)).2 = true then
    lt (sL M (mR M this 40) (Int32.toNatClampNeg x3) 0) fun M15 =>
    KK150 this x1 x2 (x3 + 1) M15
    else none
    else none
def zX12_near_L150 : Nat → Nat → Int32 → Int32 → Int32 → Mem → Option (Int32 × Mem)
  | 0 => fun _ _ _ _ _ => none
  | k + 1 => zX12_near_B150 (zX12_near_L150 k)
def zX12_near_B80 (KK54 : Nat → Int32 → Int32 → Int32 → Mem → Option (Int32 × Mem)) (KK66 : Nat → Int32 → Int32 → Int32 → Int32 → Mem → Option (Int32 × Mem)) (KK80 : Nat → Int32 → Int32 → Int32 → Int32 → Int32 → Mem → Option (Int32 × Mem)) (this : Nat) (x1 : Int32) (x2 : Int32) (x3 : Int32) (x4 : Int32) (x5 : Int32) (M : Mem) : Option (Int32 × Mem) :=
  if 10 ≤ x5 then
    KK66 this x1 x2 x3 (x4 + 1) M
  else
    if mR M this 42 ≠ 0 then
    if mR M this 7 ≠ 0 then
    if (K0 (mR M this 7)).1 = 1 ∧ inb (8 + x4) (K0 (mR M this 7)).2 = true then
    bnd (zX12_giftOf this 1 x4 x3 (imax 0 ((mI M (mR M this 7) (Int32.toNatClampNeg (8 + x4))) - x5)) M) fun v5 M6 =>
    if (K0 (mR M this 42)).1 = 1 ∧ inb ((((8 * x3) + x4) * 10) + x5) (K0 (mR M this 42)).2 = true then
    lt (sI M6 (mR M this 42) (Int32.toNatClampNeg ((((8 * x3) + x4) * 10) + x5)) v5) fun M8 =>
    KK80 this x1 x2 x3 x4 (x5 + 1) M8
    else none
    else none
    else none
    else none
def zX12_near_L80 (KK54 : Nat → Int32 → Int32 → Int32 → Mem → Option (Int32 × Mem)) (KK66 : Nat → Int32 → Int32 → Int32 → Int32 → Mem → Option (Int32 × Mem)) : Nat → Nat → Int32 → Int32 → Int32 → Int32 → Int32 → Mem → Option (Int32 × Mem)
  | 0 => fun _ _ _ _ _ _ _ => none
  | k + 1 => zX12_near_B80 KK54 KK66 (zX12_near_L80 KK54 KK66 k)
def zX12_near_B66 (KK54 : Nat → Int32 → Int32 → Int32 → Mem → Option (Int32 × Mem)) (KK66 : Nat → Int32 → Int32 → Int32 → Int32 → Mem → Option (Int32 × Mem)) (this : Nat) (x1 : Int32) (x2 : Int32) (x3 : Int32) (x4 : Int32) (M : Mem) : Option (Int32 × Mem) :=
  if mR M this 3 ≠ 0 then
  if (K0 (mR M this 3)).1 = 1 ∧ inb 1 (K0 (mR M this 3)).2 = true then
  if (mI M (mR M this 3) (Int32.toNatClampNeg 1)) ≤ x4 then
    KK54 this x1 x2 (x3 + 1) M
  else
    zX12_near_L80 KK54 KK66 FU this x1 x2 x3 x4 0 M
  else none
  else none
def zX12_near_L66 (KK54 : Nat → Int32 → Int32 → Int32 → Mem → Option (Int32 × Mem)) : Nat → Nat → Int32 → Int32 → Int32 → Int32 → Mem → Option (Int32 × Mem)
  | 0 => fun _ _ _ _ _ _ => none
  | k + 1 => zX12_near_B66 KK54 (zX12_near_L66 KK54 k)
def zX12_near_B54 (KK54 : Nat → Int32 → Int32 → Int32 → Mem → Option (Int32 × Mem)) (this : Nat) (x1 : Int32) (x2 : Int32) (x3 : Int32) (M : Mem) : Option (Int32 × Mem) :=
  bnd (zX12_statesOf this 1 M) fun v1 M2 =>
  if v1 ≤ x3 then
    zX12_near_L150 FU this x1 x2 0 M2
  else
    zX12_near_L66 KK54 FU this x1 x2 x3 0 M2
def zX12_near_L54 : Nat → Nat → Int32 → Int32 → Int32 → Mem → Option (Int32 × Mem)
  | 0 => fun _ _ _ _ _ => none
  | k + 1 => zX12_near_B54 (zX12_near_L54 k)
def zX12_near (this : Nat) (x1 : Int32) (x2 : Int32) (M : Mem) : Option (Int32 × Mem) :=
  if K0 this = (0, 12) then
  lt (sI M this 2 0) fun M1 =>
  bnd (zX12_isIn x2 0 2 M1) fun v2 M3 =>
  if v2 = 0 then
    bnd (zX12_fail this 1 M3) fun v5 M6 =>
    some (v5, M6)
  else
    bnd (zX12_isIn x1 0 60 M3) fun v7 M8 =>
    if v7 = 0 then
      bnd (zX12_fail this 2 M8) fun v10 M11 =>
      some (v10, M11)
    else
      if mR M8 this 3 ≠ 0 then
      if (K0 (mR M8 this 3)).1 = 1 ∧ inb 0 (K0 (mR M8 this 3)).2 = true then
      if (mI M8 (mR M8 this 3) (Int32.toNatClampNeg 0)) = 0 then
        some (0, M8)
      else
        bnd (zX12_tellGifts this 0 M8) fun _ M15 =>
        zX12_near_L54 FU this x1 x2 0 M15
      else none
      else none
  else none
set_option maxRecDepth 20000 in
set_option maxHeartbeats 4000000 in
theorem kX12_near_B256 (l : Launch) (E : Ev) (n : Nat) (hn : 11 ≤ n) (ct : Nat) (hct : 111 ≤ ct) (ex : Bool) (s0 : Int64) (M : Mem) : AW l E fX12_near (fun _ => rmN n 0 0) (PQr E 0 0 ct ex enI) ct ex 0 0 256 [] [.long s0] M (zX12_near_B256 s0 M) := by
  unfold zX12_near_B256
  refine AW.ldc2 (pc := 256) dX12_near_256 ccX12_371 ?_
  refine AW.ldiv (pc := 259) dX12_near_259 (by decide) ?_
  refine AW.l2i (pc := 260) dX12_near_260 ?_
  exact AW.iret (pc := 261) dX12_near_261 rfl (fun _ _ _ => rfl) (Nat.le_refl _) (Nat.le_refl _)
set_option maxRecDepth 20000 in
set_option maxHeartbeats 4000000 in
theorem kX12_near_B214 (l : Launch) (E : Ev) (n : Nat) (hn : 11 ≤ n) (ct : Nat) (hct : 111 ≤ ct) (ex : Bool) (KK214 : Nat → Int32 → Int32 → Int32 → Mem → Option (Int32 × Mem)) (hKK214 : ∀ (this : Nat) (x1 : Int32) (x2 : Int32) (x3 : Int32) (M : Mem) (_ : K0 this = (0, 12)), AW l E fX12_near (fun _ => rmN n 0 0) (PQr E 0 0 ct ex enI) ct ex 0 0 214 [(0, .ref (ad E this)), (1, .int x1), (2, .int x2), (3, .int x3)] [] M (KK214 this x1 x2 x3 M)) (this : Nat) (x1 : Int32) (x2 : Int32) (x3 : Int32) (M : Mem) (hthis : K0 this = (0, 12)) : AW l E fX12_near (fun _ => rmN n 0 0) (PQr E 0 0 ct ex enI) ct ex 0 0 214 [(0, .ref (ad E this)), (1, .int x1), (2, .int x2), (3, .int x3)] [] M (zX12_near_B214 KK214 this x1 x2 x3 M) := by
  unfold zX12_near_B214
  refine AW.iload_n (pc := 214) dX12_near_214 rfl 3 rfl ?_
  refine AW.iload_n (pc := 215) dX12_near_215 rfl 1 rfl ?_
  refine AW.icmp_ge (pc := 216) 229 dX12_near_216 (by decide) (fun h1 => ?_) (fun h1 => ?_)
  · refine AW.iload_n (pc := 229) dX12_near_229 rfl 2 rfl ?_
    refine AW.if_ne (pc := 230) 240 dX12_near_230 (by decide) (fun h2 => ?_) (fun h2 => ?_)
    · refine AW.aload_n (pc := 233) dX12_near_233 rfl 0 rfl ?_
      refine AW.getL (pc := 234) dX12_near_234 flX12_397 hthis (kct hthis rfl hct) ?_
      refine AW.goto (pc := 237) 256 dX12_near_237 (by decide) ?_
      exact AW.sub [] rfl (kX12_near_B256 l E n hn ct hct ex (mL M this 43) M)
    · refine AW.iload_n (pc := 240) dX12_near_240 rfl 2 rfl ?_
      refine AW.iconst (pc := 241) dX12_near_241 ci_1 ?_
      refine AW.icmp_ne (pc := 242) 252 dX12_near_242 (by decide) (fun h3 => ?_) (fun h3 => ?_)
      · refine AW.aload_n (pc := 245) dX12_near_245 rfl 0 rfl ?_
        refine AW.getL (pc := 246) dX12_near_246 flX12_403 hthis (kct hthis rfl hct) ?_
        refine AW.goto (pc := 249) 256 dX12_near_249 (by decide) ?_
        exact AW.sub [] rfl (kX12_near_B256 l E n hn ct hct ex (mL M this 44) M)
      · refine AW.aload_n (pc := 252) dX12_near_252 rfl 0 rfl ?_
        refine AW.getL (pc := 253) dX12_near_253 flX12_400 hthis (kct hthis rfl hct) ?_
        exact AW.sub [] rfl (kX12_near_B256 l E n hn ct hct ex (mL M this 45) M)
  · refine AW.aload_n (pc := 219) dX12_near_219 rfl 0 rfl ?_
    refine AW.cV0v (pc := 220) dX12_near_220 mlX12_410 mbX12_nearPerson rfl hthis (kct hthis rfl hct) (fun _ => okR_N (by omega)) (kX12_nearPerson l E (n - 1) (by omega) ct hct ex this M) (Nat.le_of_ble_eq_true rfl) (fun _ M4 => ?_)
    refine AW.iinc (pc := 223) (w := 3) [1, 2, 3, 0] [(0, .ref (ad E this)), (1, .int x1), (2, .int x2), (3, .int (x3 + 1))] dX12_near_223 rfl (inc_1 _) (by decide) rfl ?_
    refine AW.goto (pc := 226) 214 dX12_near_226 (by decide) ?_
    exact hKK214 this x1 x2 (x3 + 1) M4 hthis
set_option maxRecDepth 20000 in
set_option maxHeartbeats 4000000 in
theorem kX12_near_L214 (l : Launch) (E : Ev) (n : Nat) (hn : 11 ≤ n) (ct : Nat) (hct : 111 ≤ ct) (ex : Bool) (k : Nat) : ∀ (this : Nat) (x1 : Int32) (x2 : Int32) (x3 : Int32) (M : Mem) (_ : K0 this = (0, 12)), AW l E fX12_near (fun _ => rmN n 0 0) (PQr E 0 0 ct ex enI) ct ex 0 0 214 [(0, .ref (ad E this)), (1, .int x1), (2, .int x2), (3, .int x3)] [] M (zX12_near_L214 k this x1 x2 x3 M) := by
  induction k with
  | zero => intro this x1 x2 x3 M _; exact AW.none
  | succ k ih =>
    intro this x1 x2 x3 M hthis
    exact kX12_near_B214 l E n hn ct hct ex (zX12_near_L214 k) ih this x1 x2 x3 M hthis
set_option maxRecDepth 20000 in
set_option maxHeartbeats 4000000 in
theorem kX12_near_B150 (l : Launch) (E : Ev) (n : Nat) (hn : 11 ≤ n) (ct : Nat) (hct : 111 ≤ ct) (ex : Bool) (KK150 : Nat → Int32 → Int32 → Int32 → Mem → Option (Int32 × Mem)) (hKK150 : ∀ (this : Nat) (x1 : Int32) (x2 : Int32) (x3 : Int32) (M : Mem) (_ : K0 this = (0, 12)), AW l E fX12_near (fun _ => rmN n 0 0) (PQr E 0 0 ct ex enI) ct ex 0 0 150 [(0, .ref (ad E this)), (1, .int x1), (2, .int x2), (3, .int x3)] [] M (KK150 this x1 x2 x3 M)) (this : Nat) (x1 : Int32) (x2 : Int32) (x3 : Int32) (M : Mem) (hthis : K0 this = (0, 12)) : AW l E fX12_near (fun _ => rmN n 0 0) (PQr E 0 0 ct ex enI) ct ex 0 0 150 [(0, .ref (ad E this)), (1, .int x1), (2, .int x2), (3, .int x3)] [] M (zX12_near_B150 KK150 this x1 x2 x3 M) := by
  unfold zX12_near_B150
  refine AW.iload_n (pc := 150) dX12_near_150 rfl 3 rfl ?_
  refine AW.sipush (pc := 151) dX12_near_151 cs_10000 ?_
  refine AW.icmp_ge (pc := 154) 170 dX12_near_154 (by decide) (fun h1 => ?_) (fun h1 => ?_)
  · refine AW.aload_n (pc := 170) dX12_near_170 rfl 0 rfl ?_
    refine AW.chk (fun g2 => ?_)
    refine AW.getR (pc := 171) dX12_near_171 flX12_116 hthis (kct hthis rfl hct) g2 ?_
    refine AW.aload_n (pc := 174) dX12_near_174 rfl 0 rfl ?_
    refine AW.iconst (pc := 175) dX12_near_175 ci_1 ?_
    refine AW.cV1i (pc := 176) dX12_near_176 mlX12_170 mbX12_statesOf rfl hthis (kct hthis rfl hct) (fun _ => okR_N (by omega)) (kX12_statesOf l E (n - 1) (by omega) ct hct ex this 1 M) (Nat.le_of_ble_eq_true rfl) (fun v3 M4 => ?_)
    refine AW.aload_n (pc := 179) dX12_near_179 rfl 0 rfl ?_
    refine AW.chk (fun g5 => ?_)
    refine AW.getR (pc := 180) dX12_near_180 flX12_65 hthis (kct hthis rfl hct) g5 ?_
    refine AW.iconst (pc := 183) dX12_near_183 ci_0 ?_
    refine AW.chk (fun g6 => ?_)
    refine AW.iald (pc := 184) dX12_near_184 (k0e g6.1) (kct (k0e g6.1) rfl hct) g6.2 ?_
    refine AW.imul (pc := 185) dX12_near_185 ?_
    refine AW.aload_n (pc := 186) dX12_near_186 rfl 0 rfl ?_
    refine AW.getR (pc := 187) dX12_near_187 flX12_65 hthis (kct hthis rfl hct) g5 ?_
    refine AW.iconst (pc := 190) dX12_near_190 ci_1 ?_
    refine AW.chk (fun g7 => ?_)
    refine AW.iald (pc := 191) dX12_near_191 (k0e g6.1) (kct (k0e g6.1) rfl hct) g7 ?_
    refine AW.iadd (pc := 192) dX12_near_192 ?_
    refine AW.ldc2 (pc := 193) dX12_near_193 ccX12_343 ?_
    refine AW.chk (fun g8 => ?_)
    refine AW.last (pc := 196) dX12_near_196 (k0e g8.1) (kct (k0e g8.1) rfl hct) g8.2 ?_
    refine AW.genM (fun M9 => ?_)
    refine AW.aload_n (pc := 197) dX12_near_197 rfl 0 rfl ?_
    refine AW.lconst (pc := 198) dX12_near_198 cl_0 ?_
    refine AW.putL (pc := 199) dX12_near_199 flX12_397 hthis (kct hthis rfl hct) ?_
    refine AW.genM (fun M10 => ?_)
    refine AW.aload_n (pc := 202) dX12_near_202 rfl 0 rfl ?_
    refine AW.lconst (pc := 203) dX12_near_203 cl_0 ?_
    refine AW.putL (pc := 204) dX12_near_204 flX12_403 hthis (kct hthis rfl hct) ?_
    refine AW.genM (fun M11 => ?_)
    refine AW.aload_n (pc := 207) dX12_near_207 rfl 0 rfl ?_
    refine AW.lconst (pc := 208) dX12_near_208 cl_0 ?_
    refine AW.putL (pc := 209) dX12_near_209 flX12_400 hthis (kct hthis rfl hct) ?_
    refine AW.genM (fun M12 => ?_)
    refine AW.iconst (pc := 212) dX12_near_212 ci_0 ?_
    refine AW.istore_n (pc := 213) [1, 2, 3, 0] [(0, .ref (ad E this)), (1, .int x1), (2, .int x2), (3, .int 0)] dX12_near_213 rfl (by decide) rfl ?_
    exact kX12_near_L214 l E n hn ct hct ex FU this x1 x2 0 M12 hthis
  · refine AW.aload_n (pc := 157) dX12_near_157 rfl 0 rfl ?_
    refine AW.chk (fun g13 => ?_)
    refine AW.getR (pc := 158) dX12_near_158 flX12_116 hthis (kct hthis rfl hct) g13 ?_
    refine AW.iload_n (pc := 161) dX12_near_161 rfl 3 rfl ?_
    refine AW.lconst (pc := 162) dX12_near_162 cl_0 ?_
    refine AW.chk (fun g14 => ?_)
    refine AW.last (pc := 163) dX12_near_163 (k0e g14.1) (kct (k0e g14.1) rfl hct) g14.2 ?_
    refine AW.genM (fun M15 => ?_)
    refine AW.iinc (pc := 164) (w := 3) [1, 2, 3, 0] [(0, .ref (ad E this)), (1, .int x1), (2, .int x2), (3, .int (x3 + 1))] dX12_near_164 rfl (inc_1 _) (by decide) rfl ?_
    refine AW.goto (pc := 167) 150 dX12_near_167 (by decide) ?_
    exact hKK150 this x1 x2 (x3 + 1) M15 hthis
set_option maxRecDepth 20000 in
set_option maxHeartbeats 4000000 in
theorem kX12_near_L150 (l : Launch) (E : Ev) (n : Nat) (hn : 11 ≤ n) (ct : Nat) (hct : 111 ≤ ct) (ex : Bool) (k : Nat) : ∀ (this : Nat) (x1 : Int32) (x2 : Int32) (x3 : Int32) (M : Mem) (_ : K0 this = (0, 12)), AW l E fX12_near (fun _ => rmN n 0 0) (PQr E 0 0 ct ex enI) ct ex 0 0 150 [(0, .ref (ad E this)), (1, .int x1), (2, .int x2), (3, .int x3)] [] M (zX12_near_L150 k this x1 x2 x3 M) := by
  induction k with
  | zero => intro this x1 x2 x3 M _; exact AW.none
  | succ k ih =>
    intro this x1 x2 x3 M hthis
    exact kX12_near_B150 l E n hn ct hct ex (zX12_near_L150 k) ih this x1 x2 x3 M hthis
set_option maxRecDepth 20000 in
set_option maxHeartbeats 4000000 in
theorem kX12_near_B80 (l : Launch) (E : Ev) (n : Nat) (hn : 11 ≤ n) (ct : Nat) (hct : 111 ≤ ct) (ex : Bool) (KK54 : Nat → Int32 → Int32 → Int32 → Mem → Option (Int32 × Mem)) (hKK54 : ∀ (this : Nat) (x1 : Int32) (x2 : Int32) (x3 : Int32) (M : Mem) (_ : K0 this = (0, 12)), AW l E fX12_near (fun _ => rmN n 0 0) (PQr E 0 0 ct ex enI) ct ex 0 0 54 [(0, .ref (ad E this)), (1, .int x1), (2, .int x2), (3, .int x3)] [] M (KK54 this x1 x2 x3 M)) (KK66 : Nat → Int32 → Int32 → Int32 → Int32 → Mem → Option (Int32 × Mem)) (hKK66 : ∀ (this : Nat) (x1 : Int32) (x2 : Int32) (x3 : Int32) (x4 : Int32) (M : Mem) (_ : K0 this = (0, 12)), AW l E fX12_near (fun _ => rmN n 0 0) (PQr E 0 0 ct ex enI) ct ex 0 0 66 [(0, .ref (ad E this)), (1, .int x1), (2, .int x2), (3, .int x3), (4, .int x4)] [] M (KK66 this x1 x2 x3 x4 M)) (KK80 : Nat → Int32 → Int32 → Int32 → Int32 → Int32 → Mem → Option (Int32 × Mem)) (hKK80 : ∀ (this : Nat) (x1 : Int32) (x2 : Int32) (x3 : Int32) (x4 : Int32) (x5 : Int32) (M : Mem) (_ : K0 this = (0, 12)), AW l E fX12_near (fun _ => rmN n 0 0) (PQr E 0 0 ct ex enI) ct ex 0 0 80 [(0, .ref (ad E this)), (1, .int x1), (2, .int x2), (3, .int x3), (4, .int x4), (5, .int x5)] [] M (KK80 this x1 x2 x3 x4 x5 M)) (this : Nat) (x1 : Int32) (x2 : Int32) (x3 : Int32) (x4 : Int32) (x5 : Int32) (M : Mem) (hthis : K0 this = (0, 12)) : AW l E fX12_near (fun _ => rmN n 0 0) (PQr E 0 0 ct ex enI) ct ex 0 0 80 [(0, .ref (ad E this)), (1, .int x1), (2, .int x2), (3, .int x3), (4, .int x4), (5, .int x5)] [] M (zX12_near_B80 KK54 KK66 KK80 this x1 x2 x3 x4 x5 M) := by
  unfold zX12_near_B80
  refine AW.iload (pc := 80) dX12_near_80 5 rfl ?_
  refine AW.bipush (pc := 82) dX12_near_82 cb_10 ?_
  refine AW.icmp_ge (pc := 84) 136 dX12_near_84 (by decide) (fun h1 => ?_) (fun h1 => ?_)
  · refine AW.iinc (pc := 136) (w := 4) [1, 2, 3, 4, 0] [(0, .ref (ad E this)), (1, .int x1), (2, .int x2), (3, .int x3), (4, .int (x4 + 1))] dX12_near_136 rfl (inc_1 _) (by decide) rfl ?_
    refine AW.goto (pc := 139) 66 dX12_near_139 (by decide) ?_
    exact hKK66 this x1 x2 x3 (x4 + 1) M hthis
  · refine AW.aload_n (pc := 87) dX12_near_87 rfl 0 rfl ?_
    refine AW.chk (fun g2 => ?_)
    refine AW.getR (pc := 88) dX12_near_88 flX12_122 hthis (kct hthis rfl hct) g2 ?_
    refine AW.bipush (pc := 91) dX12_near_91 cb_8 ?_
    refine AW.iload_n (pc := 93) dX12_near_93 rfl 3 rfl ?_
    refine AW.imul (pc := 94) dX12_near_94 ?_
    refine AW.iload (pc := 95) dX12_near_95 4 rfl ?_
    refine AW.iadd (pc := 97) dX12_near_97 ?_
    refine AW.bipush (pc := 98) dX12_near_98 cb_10 ?_
    refine AW.imul (pc := 100) dX12_near_100 ?_
    refine AW.iload (pc := 101) dX12_near_101 5 rfl ?_
    refine AW.iadd (pc := 103) dX12_near_103 ?_
    refine AW.aload_n (pc := 104) dX12_near_104 rfl 0 rfl ?_
    refine AW.iconst (pc := 105) dX12_near_105 ci_1 ?_
    refine AW.iload (pc := 106) dX12_near_106 4 rfl ?_
    refine AW.iload_n (pc := 108) dX12_near_108 rfl 3 rfl ?_
    refine AW.iconst (pc := 109) dX12_near_109 ci_0 ?_
    refine AW.aload_n (pc := 110) dX12_near_110 rfl 0 rfl ?_
    refine AW.chk (fun g3 => ?_)
    refine AW.getR (pc := 111) dX12_near_111 flX12_54 hthis (kct hthis rfl hct) g3 ?_
    refine AW.bipush (pc := 114) dX12_near_114 cb_8 ?_
    refine AW.iload (pc := 116) dX12_near_116 4 rfl ?_
    refine AW.iadd (pc := 118) dX12_near_118 ?_
    refine AW.chk (fun g4 => ?_)
    refine AW.iald (pc := 119) dX12_near_119 (k0e g4.1) (kct (k0e g4.1) rfl hct) g4.2 ?_
    refine AW.iload (pc := 120) dX12_near_120 5 rfl ?_
    refine AW.isub (pc := 122) dX12_near_122 ?_
    refine AW.mmax (pc := 123) dX12_near_123 mlX12_309 mb_max (fun _ => okR_N (by omega)) (Nat.le_of_ble_eq_true rfl) ?_
    refine AW.cV4i (pc := 126) dX12_near_126 mlX12_324 mbX12_giftOf rfl hthis (kct hthis rfl hct) (fun _ => okR_N (by omega)) (kX12_giftOf l E (n - 1) (by omega) ct hct ex this 1 x4 x3 (imax 0 ((mI M (mR M this 7) (Int32.toNatClampNeg (8 + x4))) - x5)) M) (Nat.le_of_ble_eq_true rfl) (fun v5 M6 => ?_)
    refine AW.chk (fun g7 => ?_)
    refine AW.iast (pc := 129) dX12_near_129 (k0e g7.1) (kct (k0e g7.1) rfl hct) g7.2 ?_
    refine AW.genM (fun M8 => ?_)
    refine AW.iinc (pc := 130) (w := 5) [1, 2, 3, 4, 5, 0] [(0, .ref (ad E this)), (1, .int x1), (2, .int x2), (3, .int x3), (4, .int x4), (5, .int (x5 + 1))] dX12_near_130 rfl (inc_1 _) (by decide) rfl ?_
    refine AW.goto (pc := 133) 80 dX12_near_133 (by decide) ?_
    exact hKK80 this x1 x2 x3 x4 (x5 + 1) M8 hthis
set_option maxRecDepth 20000 in
set_option maxHeartbeats 4000000 in
theorem kX12_near_L80 (l : Launch) (E : Ev) (n : Nat) (hn : 11 ≤ n) (ct : Nat) (hct : 111 ≤ ct) (ex : Bool) (KK54 : Nat → Int32 → Int32 → Int32 → Mem → Option (Int32 × Mem)) (hKK54 : ∀ (this : Nat) (x1 : Int32) (x2 : Int32) (x3 : Int32) (M : Mem) (_ : K0 this = (0, 12)), AW l E fX12_near (fun _ => rmN n 0 0) (PQr E 0 0 ct ex enI) ct ex 0 0 54 [(0, .ref (ad E this)), (1, .int x1), (2, .int x2), (3, .int x3)] [] M (KK54 this x1 x2 x3 M)) (KK66 : Nat → Int32 → Int32 → Int32 → Int32 → Mem → Option (Int32 × Mem)) (hKK66 : ∀ (this : Nat) (x1 : Int32) (x2 : Int32) (x3 : Int32) (x4 : Int32) (M : Mem) (_ : K0 this = (0, 12)), AW l E fX12_near (fun _ => rmN n 0 0) (PQr E 0 0 ct ex enI) ct ex 0 0 66 [(0, .ref (ad E this)), (1, .int x1), (2, .int x2), (3, .int x3), (4, .int x4)] [] M (KK66 this x1 x2 x3 x4 M)) (k : Nat) : ∀ (this : Nat) (x1 : Int32) (x2 : Int32) (x3 : Int32) (x4 : Int32) (x5 : Int32) (M : Mem) (_ : K0 this = (0, 12)), AW l E fX12_near (fun _ => rmN n 0 0) (PQr E 0 0 ct ex enI) ct ex 0 0 80 [(0, .ref (ad E this)), (1, .int x1), (2, .int x2), (3, .int x3), (4, .int x4), (5, .int x5)] [] M (zX12_near_L80 KK54 KK66 k this x1 x2 x3 x4 x5 M) := by
  induction k with
  | zero => intro this x1 x2 x3 x4 x5 M _; exact AW.none
  | succ k ih =>
    intro this x1 x2 x3 x4 x5 M hthis
    exact kX12_near_B80 l E n hn ct hct ex KK54 hKK54 KK66 hKK66 (zX12_near_L80 KK54 KK66 k) ih this x1 x2 x3 x4 x5 M hthis
set_option maxRecDepth 20000 in
set_option maxHeartbeats 4000000 in
theorem kX12_near_B66 (l : Launch) (E : Ev) (n : Nat) (hn : 11 ≤ n) (ct : Nat) (hct : 111 ≤ ct) (ex : Bool) (KK54 : Nat → Int32 → Int32 → Int32 → Mem → Option (Int32 × Mem)) (hKK54 : ∀ (this : Nat) (x1 : Int32) (x2 : Int32) (x3 : Int32) (M : Mem) (_ : K0 this = (0, 12)), AW l E fX12_near (fun _ => rmN n 0 0) (PQr E 0 0 ct ex enI) ct ex 0 0 54 [(0, .ref (ad E this)), (1, .int x1), (2, .int x2), (3, .int x3)] [] M (KK54 this x1 x2 x3 M)) (KK66 : Nat → Int32 → Int32 → Int32 → Int32 → Mem → Option (Int32 × Mem)) (hKK66 : ∀ (this : Nat) (x1 : Int32) (x2 : Int32) (x3 : Int32) (x4 : Int32) (M : Mem) (_ : K0 this = (0, 12)), AW l E fX12_near (fun _ => rmN n 0 0) (PQr E 0 0 ct ex enI) ct ex 0 0 66 [(0, .ref (ad E this)), (1, .int x1), (2, .int x2), (3, .int x3), (4, .int x4)] [] M (KK66 this x1 x2 x3 x4 M)) (this : Nat) (x1 : Int32) (x2 : Int32) (x3 : Int32) (x4 : Int32) (M : Mem) (hthis : K0 this = (0, 12)) : AW l E fX12_near (fun _ => rmN n 0 0) (PQr E 0 0 ct ex enI) ct ex 0 0 66 [(0, .ref (ad E this)), (1, .int x1), (2, .int x2), (3, .int x3), (4, .int x4)] [] M (zX12_near_B66 KK54 KK66 this x1 x2 x3 x4 M) := by
  unfold zX12_near_B66
  refine AW.iload (pc := 66) dX12_near_66 4 rfl ?_
  refine AW.aload_n (pc := 68) dX12_near_68 rfl 0 rfl ?_
  refine AW.chk (fun g1 => ?_)
  refine AW.getR (pc := 69) dX12_near_69 flX12_42 hthis (kct hthis rfl hct) g1 ?_
  refine AW.iconst (pc := 72) dX12_near_72 ci_1 ?_
  refine AW.chk (fun g2 => ?_)
  refine AW.iald (pc := 73) dX12_near_73 (k0e g2.1) (kct (k0e g2.1) rfl hct) g2.2 ?_
  refine AW.icmp_ge (pc := 74) 142 dX12_near_74 (by decide) (fun h3 => ?_) (fun h3 => ?_)
  · refine AW.iinc (pc := 142) (w := 3) [1, 2, 3, 0] [(0, .ref (ad E this)), (1, .int x1), (2, .int x2), (3, .int (x3 + 1))] dX12_near_142 rfl (inc_1 _) (by decide) rfl ?_
    refine AW.goto (pc := 145) 54 dX12_near_145 (by decide) ?_
    exact hKK54 this x1 x2 (x3 + 1) M hthis
  · refine AW.iconst (pc := 77) dX12_near_77 ci_0 ?_
    refine AW.istore (pc := 78) [1, 2, 3, 4, 5, 0] [(0, .ref (ad E this)), (1, .int x1), (2, .int x2), (3, .int x3), (4, .int x4), (5, .int 0)] dX12_near_78 (by decide) rfl ?_
    exact kX12_near_L80 l E n hn ct hct ex KK54 hKK54 KK66 hKK66 FU this x1 x2 x3 x4 0 M hthis
set_option maxRecDepth 20000 in
set_option maxHeartbeats 4000000 in
theorem kX12_near_L66 (l : Launch) (E : Ev) (n : Nat) (hn : 11 ≤ n) (ct : Nat) (hct : 111 ≤ ct) (ex : Bool) (KK54 : Nat → Int32 → Int32 → Int32 → Mem → Option (Int32 × Mem)) (hKK54 : ∀ (this : Nat) (x1 : Int32) (x2 : Int32) (x3 : Int32) (M : Mem) (_ : K0 this = (0, 12)), AW l E fX12_near (fun _ => rmN n 0 0) (PQr E 0 0 ct ex enI) ct ex 0 0 54 [(0, .ref (ad E this)), (1, .int x1), (2, .int x2), (3, .int x3)] [] M (KK54 this x1 x2 x3 M)) (k : Nat) : ∀ (this : Nat) (x1 : Int32) (x2 : Int32) (x3 : Int32) (x4 : Int32) (M : Mem) (_ : K0 this = (0, 12)), AW l E fX12_near (fun _ => rmN n 0 0) (PQr E 0 0 ct ex enI) ct ex 0 0 66 [(0, .ref (ad E this)), (1, .int x1), (2, .int x2), (3, .int x3), (4, .int x4)] [] M (zX12_near_L66 KK54 k this x1 x2 x3 x4 M) := by
  induction k with
  | zero => intro this x1 x2 x3 x4 M _; exact AW.none
  | succ k ih =>
    intro this x1 x2 x3 x4 M hthis
    exact kX12_near_B66 l E n hn ct hct ex KK54 hKK54 (zX12_near_L66 KK54 k) ih this x1 x2 x3 x4 M hthis
set_option maxRecDepth 20000 in
set_option maxHeartbeats 4000000 in
theorem kX12_near_B54 (l : Launch) (E : Ev) (n : Nat) (hn : 11 ≤ n) (ct : Nat) (hct : 111 ≤ ct) (ex : Bool) (KK54 : Nat → Int32 → Int32 → Int32 → Mem → Option (Int32 × Mem)) (hKK54 : ∀ (this : Nat) (x1 : Int32) (x2 : Int32) (x3 : Int32) (M : Mem) (_ : K0 this = (0, 12)), AW l E fX12_near (fun _ => rmN n 0 0) (PQr E 0 0 ct ex enI) ct ex 0 0 54 [(0, .ref (ad E this)), (1, .int x1), (2, .int x2), (3, .int x3)] [] M (KK54 this x1 x2 x3 M)) (this : Nat) (x1 : Int32) (x2 : Int32) (x3 : Int32) (M : Mem) (hthis : K0 this = (0, 12)) : AW l E fX12_near (fun _ => rmN n 0 0) (PQr E 0 0 ct ex enI) ct ex 0 0 54 [(0, .ref (ad E this)), (1, .int x1), (2, .int x2), (3, .int x3)] [] M (zX12_near_B54 KK54 this x1 x2 x3 M) := by
  unfold zX12_near_B54
  refine AW.iload_n (pc := 54) dX12_near_54 rfl 3 rfl ?_
  refine AW.aload_n (pc := 55) dX12_near_55 rfl 0 rfl ?_
  refine AW.iconst (pc := 56) dX12_near_56 ci_1 ?_
  refine AW.cV1i (pc := 57) dX12_near_57 mlX12_170 mbX12_statesOf rfl hthis (kct hthis rfl hct) (fun _ => okR_N (by omega)) (kX12_statesOf l E (n - 1) (by omega) ct hct ex this 1 M) (Nat.le_of_ble_eq_true rfl) (fun v1 M2 => ?_)
  refine AW.icmp_ge (pc := 60) 148 dX12_near_60 (by decide) (fun h3 => ?_) (fun h3 => ?_)
  · refine AW.iconst (pc := 148) dX12_near_148 ci_0 ?_
    refine AW.istore_n (pc := 149) [1, 2, 3, 0] [(0, .ref (ad E this)), (1, .int x1), (2, .int x2), (3, .int 0)] dX12_near_149 rfl (by decide) rfl ?_
    exact kX12_near_L150 l E n hn ct hct ex FU this x1 x2 0 M2 hthis
  · refine AW.iconst (pc := 63) dX12_near_63 ci_0 ?_
    refine AW.istore (pc := 64) [1, 2, 3, 4, 0] [(0, .ref (ad E this)), (1, .int x1), (2, .int x2), (3, .int x3), (4, .int 0)] dX12_near_64 (by decide) rfl ?_
    exact kX12_near_L66 l E n hn ct hct ex KK54 hKK54 FU this x1 x2 x3 0 M2 hthis
set_option maxRecDepth 20000 in
set_option maxHeartbeats 4000000 in
theorem kX12_near_L54 (l : Launch) (E : Ev) (n : Nat) (hn : 11 ≤ n) (ct : Nat) (hct : 111 ≤ ct) (ex : Bool) (k : Nat) : ∀ (this : Nat) (x1 : Int32) (x2 : Int32) (x3 : Int32) (M : Mem) (_ : K0 this = (0, 12)), AW l E fX12_near (fun _ => rmN n 0 0) (PQr E 0 0 ct ex enI) ct ex 0 0 54 [(0, .ref (ad E this)), (1, .int x1), (2, .int x2), (3, .int x3)] [] M (zX12_near_L54 k this x1 x2 x3 M) := by
  induction k with
  | zero => intro this x1 x2 x3 M _; exact AW.none
  | succ k ih =>
    intro this x1 x2 x3 M hthis
    exact kX12_near_B54 l E n hn ct hct ex (zX12_near_L54 k) ih this x1 x2 x3 M hthis
set_option maxRecDepth 20000 in
set_option maxHeartbeats 4000000 in
theorem kX12_near (l : Launch) (E : Ev) (n : Nat) (hn : 11 ≤ n) (ct : Nat) (hct : 111 ≤ ct) (ex : Bool) (this : Nat) (x1 : Int32) (x2 : Int32) (M : Mem) : AM l E n ct ex yX12_near fX12_near enI [.ref (ad E this), .int x1, .int x2] M (zX12_near this x1 x2 M) := by
  unfold zX12_near
  refine AM.of (by decide +kernel) ⟨rfl, rfl, rfl⟩ (Nat.le_of_ble_eq_true rfl) ?_
  refine AW.chk (fun hthis => ?_)
  refine AW.aload_n (pc := 0) dX12_near_0 rfl 0 rfl ?_
  refine AW.iconst (pc := 1) dX12_near_1 ci_0 ?_
  refine AW.putI (pc := 2) dX12_near_2 flX12_159 hthis (kct hthis rfl hct) ?_
  refine AW.genM (fun M1 => ?_)
  refine AW.iload_n (pc := 5) dX12_near_5 rfl 2 rfl ?_
  refine AW.iconst (pc := 6) dX12_near_6 ci_0 ?_
  refine AW.iconst (pc := 7) dX12_near_7 ci_2 ?_
  refine AW.cS3i (pc := 8) dX12_near_8 mlX12_162 mbX12_isIn (fun _ => okR_N (by omega)) (kX12_isIn l E (n - 1) (by omega) ct hct ex x2 0 2 M1) (Nat.le_of_ble_eq_true rfl) (fun v2 M3 => ?_)
  refine AW.if_ne (pc := 11) 20 dX12_near_11 (by decide) (fun h4 => ?_) (fun h4 => ?_)
  · refine AW.aload_n (pc := 14) dX12_near_14 rfl 0 rfl ?_
    refine AW.iconst (pc := 15) dX12_near_15 ci_1 ?_
    refine AW.cV1i (pc := 16) dX12_near_16 mlX12_289 mbX12_fail rfl hthis (kct hthis rfl hct) (fun _ => okR_N (by omega)) (kX12_fail l E (n - 1) (by omega) ct hct ex this 1 M3) (Nat.le_of_ble_eq_true rfl) (fun v5 M6 => ?_)
    exact AW.iret (pc := 19) dX12_near_19 rfl (fun _ _ _ => rfl) (Nat.le_refl _) (Nat.le_refl _)
  · refine AW.iload_n (pc := 20) dX12_near_20 rfl 1 rfl ?_
    refine AW.iconst (pc := 21) dX12_near_21 ci_0 ?_
    refine AW.bipush (pc := 22) dX12_near_22 cb_60 ?_
    refine AW.cS3i (pc := 24) dX12_near_24 mlX12_162 mbX12_isIn (fun _ => okR_N (by omega)) (kX12_isIn l E (n - 1) (by omega) ct hct ex x1 0 60 M3) (Nat.le_of_ble_eq_true rfl) (fun v7 M8 => ?_)
    refine AW.if_ne (pc := 27) 36 dX12_near_27 (by decide) (fun h9 => ?_) (fun h9 => ?_)
    · refine AW.aload_n (pc := 30) dX12_near_30 rfl 0 rfl ?_
      refine AW.iconst (pc := 31) dX12_near_31 ci_2 ?_
      refine AW.cV1i (pc := 32) dX12_near_32 mlX12_289 mbX12_fail rfl hthis (kct hthis rfl hct) (fun _ => okR_N (by omega)) (kX12_fail l E (n - 1) (by omega) ct hct ex this 2 M8) (Nat.le_of_ble_eq_true rfl) (fun v10 M11 => ?_)
      exact AW.iret (pc := 35) dX12_near_35 rfl (fun _ _ _ => rfl) (Nat.le_refl _) (Nat.le_refl _)
    · refine AW.aload_n (pc := 36) dX12_near_36 rfl 0 rfl ?_
      refine AW.chk (fun g12 => ?_)
      refine AW.getR (pc := 37) dX12_near_37 flX12_42 hthis (kct hthis rfl hct) g12 ?_
      refine AW.iconst (pc := 40) dX12_near_40 ci_0 ?_
      refine AW.chk (fun g13 => ?_)
      refine AW.iald (pc := 41) dX12_near_41 (k0e g13.1) (kct (k0e g13.1) rfl hct) g13.2 ?_
      refine AW.if_ne (pc := 42) 47 dX12_near_42 (by decide) (fun h14 => ?_) (fun h14 => ?_)
      · refine AW.iconst (pc := 45) dX12_near_45 ci_0 ?_
        exact AW.iret (pc := 46) dX12_near_46 rfl (fun _ _ _ => rfl) (Nat.le_refl _) (Nat.le_refl _)
      · refine AW.aload_n (pc := 47) dX12_near_47 rfl 0 rfl ?_
        refine AW.iconst (pc := 48) dX12_near_48 ci_0 ?_
        refine AW.cV1v (pc := 49) dX12_near_49 mlX12_358 mbX12_tellGifts rfl hthis (kct hthis rfl hct) (fun _ => okR_N (by omega)) (kX12_tellGifts l E (n - 1) (by omega) ct hct ex this 0 M8) (Nat.le_of_ble_eq_true rfl) (fun _ M15 => ?_)
        refine AW.iconst (pc := 52) dX12_near_52 ci_0 ?_
        refine AW.istore_n (pc := 53) [1, 2, 3, 0] [(0, .ref (ad E this)), (1, .int x1), (2, .int x2), (3, .int 0)] dX12_near_53 rfl (by decide) rfl ?_
        exact kX12_near_L54 l E n hn ct hct ex FU this x1 x2 0 M15 hthis
-- GateBoxModel.enter(II)V
def zX12_enter_B40 (this : Nat) (x1 : Int32) (x2 : Int32) (M : Mem) : Option (Unit × Mem) :=
  if mR M this 12 ≠ 0 then
  if (K0 (mR M this 12)).1 = 1 ∧ inb x1 (K0 (mR M this 12)).2 = true then
  bnd (zX12_behind this x1 (mI M (mR M this 12) (Int32.toNatClampNeg x1)) x2 M) fun v3 M4 =>
  if inb x1 (K0 (mR M this 12)).2 = true then
  lt (sI M4 (mR M this 12) (Int32.toNatClampNeg x1) v3) fun M6 =>
  some ((), M6)
  else none
  else none
  else none
def zX12_enter (this : Nat) (x1 : Int32) (x2 : Int32) (M : Mem) : Option (Unit × Mem) :=
  if K0 this = (0, 12) then
  if mR M this 13 ≠ 0 then
  if (K0 (mR M this 13)).1 = 1 ∧ inb x1 (K0 (mR M this 13)).2 = true then
  if 200 ≤ (mI M (mR M this 13) (Int32.toNatClampNeg x1)) then
    zX12_enter_B40 this x1 x2 M
  else
    if mR M this 14 ≠ 0 then
    if inb x1 (K0 (mR M this 13)).2 = true then
    if (K0 (mR M this 14)).1 = 1 ∧ inb ((200 * x1) + (mI M (mR M this 13) (Int32.toNatClampNeg x1))) (K0 (mR M this 14)).2 = true then
    lt (sI M (mR M this 14) (Int32.toNatClampNeg ((200 * x1) + (mI M (mR M this 13) (Int32.toNatClampNeg x1)))) x2) fun M7 =>
    if mR M7 this 13 ≠ 0 then
    if (K0 (mR M7 this 13)).1 = 1 ∧ inb x1 (K0 (mR M7 this 13)).2 = true then
    if inb x1 (K0 (mR M7 this 13)).2 = true then
    lt (sI M7 (mR M7 this 13) (Int32.toNatClampNeg x1) ((mI M7 (mR M7 this 13) (Int32.toNatClampNeg x1)) + 1)) fun M11 =>
    zX12_enter_B40 this x1 x2 M11
    else none
    else none
    else none
    else none
    else none
    else none
  else none
  else none
  else none
set_option maxRecDepth 20000 in
set_option maxHeartbeats 4000000 in
theorem kX12_enter_B40 (l : Launch) (E : Ev) (n : Nat) (hn : 2 ≤ n) (ct : Nat) (hct : 111 ≤ ct) (ex : Bool) (this : Nat) (x1 : Int32) (x2 : Int32) (M : Mem) (hthis : K0 this = (0, 12)) : AW l E fX12_enter (fun _ => rmN n 0 0) (PQr E 0 0 ct ex enU) ct ex 0 0 40 [(0, .ref (ad E this)), (1, .int x1), (2, .int x2)] [] M (zX12_enter_B40 this x1 x2 M) := by
  unfold zX12_enter_B40
  refine AW.aload_n (pc := 40) dX12_enter_40 rfl 0 rfl ?_
  refine AW.chk (fun g1 => ?_)
  refine AW.getR (pc := 41) dX12_enter_41 flX12_68 hthis (kct hthis rfl hct) g1 ?_
  refine AW.iload_n (pc := 44) dX12_enter_44 rfl 1 rfl ?_
  refine AW.aload_n (pc := 45) dX12_enter_45 rfl 0 rfl ?_
  refine AW.iload_n (pc := 46) dX12_enter_46 rfl 1 rfl ?_
  refine AW.aload_n (pc := 47) dX12_enter_47 rfl 0 rfl ?_
  refine AW.getR (pc := 48) dX12_enter_48 flX12_68 hthis (kct hthis rfl hct) g1 ?_
  refine AW.iload_n (pc := 51) dX12_enter_51 rfl 1 rfl ?_
  refine AW.chk (fun g2 => ?_)
  refine AW.iald (pc := 52) dX12_enter_52 (k0e g2.1) (kct (k0e g2.1) rfl hct) g2.2 ?_
  refine AW.iload_n (pc := 53) dX12_enter_53 rfl 2 rfl ?_
  refine AW.cV3i (pc := 54) dX12_enter_54 mlX12_333 mbX12_behind rfl hthis (kct hthis rfl hct) (fun _ => okR_N (by omega)) (kX12_behind l E (n - 1) (by omega) ct hct ex this x1 (mI M (mR M this 12) (Int32.toNatClampNeg x1)) x2 M) (Nat.le_of_ble_eq_true rfl) (fun v3 M4 => ?_)
  refine AW.chk (fun g5 => ?_)
  refine AW.iast (pc := 57) dX12_enter_57 (k0e g2.1) (kct (k0e g2.1) rfl hct) g5 ?_
  refine AW.genM (fun M6 => ?_)
  exact AW.vret (pc := 58) dX12_enter_58 rfl (fun _ _ _ => rfl) (Nat.le_refl _) (Nat.le_refl _)
set_option maxRecDepth 20000 in
set_option maxHeartbeats 4000000 in
theorem kX12_enter (l : Launch) (E : Ev) (n : Nat) (hn : 2 ≤ n) (ct : Nat) (hct : 111 ≤ ct) (ex : Bool) (this : Nat) (x1 : Int32) (x2 : Int32) (M : Mem) : AM l E n ct ex yX12_enter fX12_enter enU [.ref (ad E this), .int x1, .int x2] M (zX12_enter this x1 x2 M) := by
  unfold zX12_enter
  refine AM.of (by decide +kernel) ⟨rfl, rfl, rfl⟩ (Nat.le_of_ble_eq_true rfl) ?_
  refine AW.chk (fun hthis => ?_)
  refine AW.aload_n (pc := 0) dX12_enter_0 rfl 0 rfl ?_
  refine AW.chk (fun g1 => ?_)
  refine AW.getR (pc := 1) dX12_enter_1 flX12_71 hthis (kct hthis rfl hct) g1 ?_
  refine AW.iload_n (pc := 4) dX12_enter_4 rfl 1 rfl ?_
  refine AW.chk (fun g2 => ?_)
  refine AW.iald (pc := 5) dX12_enter_5 (k0e g2.1) (kct (k0e g2.1) rfl hct) g2.2 ?_
  refine AW.sipush (pc := 6) dX12_enter_6 cs_200 ?_
  refine AW.icmp_ge (pc := 9) 40 dX12_enter_9 (by decide) (fun h3 => ?_) (fun h3 => ?_)
  · exact kX12_enter_B40 l E n hn ct hct ex this x1 x2 M hthis
  · refine AW.aload_n (pc := 12) dX12_enter_12 rfl 0 rfl ?_
    refine AW.chk (fun g4 => ?_)
    refine AW.getR (pc := 13) dX12_enter_13 flX12_74 hthis (kct hthis rfl hct) g4 ?_
    refine AW.sipush (pc := 16) dX12_enter_16 cs_200 ?_
    refine AW.iload_n (pc := 19) dX12_enter_19 rfl 1 rfl ?_
    refine AW.imul (pc := 20) dX12_enter_20 ?_
    refine AW.aload_n (pc := 21) dX12_enter_21 rfl 0 rfl ?_
    refine AW.getR (pc := 22) dX12_enter_22 flX12_71 hthis (kct hthis rfl hct) g1 ?_
    refine AW.iload_n (pc := 25) dX12_enter_25 rfl 1 rfl ?_
    refine AW.chk (fun g5 => ?_)
    refine AW.iald (pc := 26) dX12_enter_26 (k0e g2.1) (kct (k0e g2.1) rfl hct) g5 ?_
    refine AW.iadd (pc := 27) dX12_enter_27 ?_
    refine AW.iload_n (pc := 28) dX12_enter_28 rfl 2 rfl ?_
    refine AW.chk (fun g6 => ?_)
    refine AW.iast (pc := 29) dX12_enter_29 (k0e g6.1) (kct (k0e g6.1) rfl hct) g6.2 ?_
    refine AW.genM (fun M7 => ?_)
    refine AW.aload_n (pc := 30) dX12_enter_30 rfl 0 rfl ?_
    refine AW.chk (fun g8 => ?_)
    refine AW.getR (pc := 31) dX12_enter_31 flX12_71 hthis (kct hthis rfl hct) g8 ?_
    refine AW.iload_n (pc := 34) dX12_enter_34 rfl 1 rfl ?_
    refine AW.dup2 (pc := 35) dX12_enter_35 rfl rfl ?_
    refine AW.chk (fun g9 => ?_)
    refine AW.iald (pc := 36) dX12_enter_36 (k0e g9.1) (kct (k0e g9.1) rfl hct) g9.2 ?_
    refine AW.iconst (pc := 37) dX12_enter_37 ci_1 ?_
    refine AW.iadd (pc := 38) dX12_enter_38 ?_
    refine AW.chk (fun g10 => ?_)
    refine AW.iast (pc := 39) dX12_enter_39 (k0e g9.1) (kct (k0e g9.1) rfl hct) g10 ?_
    refine AW.genM (fun M11 => ?_)
    exact kX12_enter_B40 l E n hn ct hct ex this x1 x2 M11 hthis
-- GateBoxModel.give(II)I
def zX12_give_B40 (this : Nat) (M : Mem) : Option (Int32 × Mem) :=
  if mR M this 18 ≠ 0 then
  if (K0 (mR M this 18)).1 = 1 ∧ inb 1 (K0 (mR M this 18)).2 = true then
  if inb 1 (K0 (mR M this 18)).2 = true then
  lt (sI M (mR M this 18) (Int32.toNatClampNeg 1) ((mI M (mR M this 18) (Int32.toNatClampNeg 1)) + 1)) fun M4 =>
  some ((-1), M4)
  else none
  else none
  else none
def zX12_give (this : Nat) (x1 : Int32) (x2 : Int32) (M : Mem) : Option (Int32 × Mem) :=
  if K0 this = (0, 12) then
  lt (sI M this 2 0) fun M1 =>
  bnd (zX12_isGate x1 M1) fun v2 M3 =>
  if v2 = 0 then
    bnd (zX12_fail this 1 M3) fun v5 M6 =>
    some (v5, M6)
  else
    if mR M3 this 13 ≠ 0 then
    if (K0 (mR M3 this 13)).1 = 1 ∧ inb x1 (K0 (mR M3 this 13)).2 = true then
    if (mI M3 (mR M3 this 13) (Int32.toNatClampNeg x1)) = 200 then
      zX12_give_B40 this M3
    else
      bnd (zX12_isIn x2 0 9 M3) fun v10 M11 =>
      if v10 = 0 then
        zX12_give_B40 this M11
      else
        bnd (zX12_enter this x1 x2 M11) fun _ M13 =>
        if mR M13 this 13 ≠ 0 then
        if (K0 (mR M13 this 13)).1 = 1 ∧ inb x1 (K0 (mR M13 this 13)).2 = true then
        some (mI M13 (mR M13 this 13) (Int32.toNatClampNeg x1), M13)
        else none
        else none
    else none
    else none
  else none
set_option maxRecDepth 20000 in
set_option maxHeartbeats 4000000 in
theorem kX12_give_B40 (l : Launch) (E : Ev) (n : Nat) (hn : 3 ≤ n) (ct : Nat) (hct : 111 ≤ ct) (ex : Bool) (this : Nat) (M : Mem) (hthis : K0 this = (0, 12)) : AW l E fX12_give (fun _ => rmN n 0 0) (PQr E 0 0 ct ex enI) ct ex 0 0 40 [(0, .ref (ad E this))] [] M (zX12_give_B40 this M) := by
  unfold zX12_give_B40
  refine AW.aload_n (pc := 40) dX12_give_40 rfl 0 rfl ?_
  refine AW.chk (fun g1 => ?_)
  refine AW.getR (pc := 41) dX12_give_41 flX12_86 hthis (kct hthis rfl hct) g1 ?_
  refine AW.iconst (pc := 44) dX12_give_44 ci_1 ?_
  refine AW.dup2 (pc := 45) dX12_give_45 rfl rfl ?_
  refine AW.chk (fun g2 => ?_)
  refine AW.iald (pc := 46) dX12_give_46 (k0e g2.1) (kct (k0e g2.1) rfl hct) g2.2 ?_
  refine AW.iconst (pc := 47) dX12_give_47 ci_1 ?_
  refine AW.iadd (pc := 48) dX12_give_48 ?_
  refine AW.chk (fun g3 => ?_)
  refine AW.iast (pc := 49) dX12_give_49 (k0e g2.1) (kct (k0e g2.1) rfl hct) g3 ?_
  refine AW.genM (fun M4 => ?_)
  refine AW.iconst (pc := 50) dX12_give_50 ci_m1 ?_
  exact AW.iret (pc := 51) dX12_give_51 rfl (fun _ _ _ => rfl) (Nat.le_refl _) (Nat.le_refl _)
set_option maxRecDepth 20000 in
set_option maxHeartbeats 4000000 in
theorem kX12_give (l : Launch) (E : Ev) (n : Nat) (hn : 3 ≤ n) (ct : Nat) (hct : 111 ≤ ct) (ex : Bool) (this : Nat) (x1 : Int32) (x2 : Int32) (M : Mem) : AM l E n ct ex yX12_give fX12_give enI [.ref (ad E this), .int x1, .int x2] M (zX12_give this x1 x2 M) := by
  unfold zX12_give
  refine AM.of (by decide +kernel) ⟨rfl, rfl, rfl⟩ (Nat.le_of_ble_eq_true rfl) ?_
  refine AW.chk (fun hthis => ?_)
  refine AW.aload_n (pc := 0) dX12_give_0 rfl 0 rfl ?_
  refine AW.iconst (pc := 1) dX12_give_1 ci_0 ?_
  refine AW.putI (pc := 2) dX12_give_2 flX12_159 hthis (kct hthis rfl hct) ?_
  refine AW.genM (fun M1 => ?_)
  refine AW.iload_n (pc := 5) dX12_give_5 rfl 1 rfl ?_
  refine AW.cS1i (pc := 6) dX12_give_6 mlX12_166 mbX12_isGate (fun _ => okR_N (by omega)) (kX12_isGate l E (n - 1) (by omega) ct hct ex x1 M1) (Nat.le_of_ble_eq_true rfl) (fun v2 M3 => ?_)
  refine AW.if_ne (pc := 9) 18 dX12_give_9 (by decide) (fun h4 => ?_) (fun h4 => ?_)
  · refine AW.aload_n (pc := 12) dX12_give_12 rfl 0 rfl ?_
    refine AW.iconst (pc := 13) dX12_give_13 ci_1 ?_
    refine AW.cV1i (pc := 14) dX12_give_14 mlX12_289 mbX12_fail rfl hthis (kct hthis rfl hct) (fun _ => okR_N (by omega)) (kX12_fail l E (n - 1) (by omega) ct hct ex this 1 M3) (Nat.le_of_ble_eq_true rfl) (fun v5 M6 => ?_)
    exact AW.iret (pc := 17) dX12_give_17 rfl (fun _ _ _ => rfl) (Nat.le_refl _) (Nat.le_refl _)
  · refine AW.aload_n (pc := 18) dX12_give_18 rfl 0 rfl ?_
    refine AW.chk (fun g7 => ?_)
    refine AW.getR (pc := 19) dX12_give_19 flX12_71 hthis (kct hthis rfl hct) g7 ?_
    refine AW.iload_n (pc := 22) dX12_give_22 rfl 1 rfl ?_
    refine AW.chk (fun g8 => ?_)
    refine AW.iald (pc := 23) dX12_give_23 (k0e g8.1) (kct (k0e g8.1) rfl hct) g8.2 ?_
    refine AW.sipush (pc := 24) dX12_give_24 cs_200 ?_
    refine AW.icmp_eq (pc := 27) 40 dX12_give_27 (by decide) (fun h9 => ?_) (fun h9 => ?_)
    · exact AW.sub [0] rfl (kX12_give_B40 l E n hn ct hct ex this M3 hthis)
    · refine AW.iload_n (pc := 30) dX12_give_30 rfl 2 rfl ?_
      refine AW.iconst (pc := 31) dX12_give_31 ci_0 ?_
      refine AW.bipush (pc := 32) dX12_give_32 cb_9 ?_
      refine AW.cS3i (pc := 34) dX12_give_34 mlX12_162 mbX12_isIn (fun _ => okR_N (by omega)) (kX12_isIn l E (n - 1) (by omega) ct hct ex x2 0 9 M3) (Nat.le_of_ble_eq_true rfl) (fun v10 M11 => ?_)
      refine AW.if_ne (pc := 37) 52 dX12_give_37 (by decide) (fun h12 => ?_) (fun h12 => ?_)
      · exact AW.sub [0] rfl (kX12_give_B40 l E n hn ct hct ex this M11 hthis)
      · refine AW.aload_n (pc := 52) dX12_give_52 rfl 0 rfl ?_
        refine AW.iload_n (pc := 53) dX12_give_53 rfl 1 rfl ?_
        refine AW.iload_n (pc := 54) dX12_give_54 rfl 2 rfl ?_
        refine AW.cV2v (pc := 55) dX12_give_55 mlX12_413 mbX12_enter rfl hthis (kct hthis rfl hct) (fun _ => okR_N (by omega)) (kX12_enter l E (n - 1) (by omega) ct hct ex this x1 x2 M11) (Nat.le_of_ble_eq_true rfl) (fun _ M13 => ?_)
        refine AW.aload_n (pc := 58) dX12_give_58 rfl 0 rfl ?_
        refine AW.chk (fun g14 => ?_)
        refine AW.getR (pc := 59) dX12_give_59 flX12_71 hthis (kct hthis rfl hct) g14 ?_
        refine AW.iload_n (pc := 62) dX12_give_62 rfl 1 rfl ?_
        refine AW.chk (fun g15 => ?_)
        refine AW.iald (pc := 63) dX12_give_63 (k0e g15.1) (kct (k0e g15.1) rfl hct) g15.2 ?_
        exact AW.iret (pc := 64) dX12_give_64 rfl (fun _ _ _ => rfl) (Nat.le_refl _) (Nat.le_refl _)
-- GateBoxModel.stateAhead(II)I
def zX12_stateAhead_B10 (KK10 : Nat → Int32 → Int32 → Int32 → Int32 → Mem → Option (Int32 × Mem)) (this : Nat) (x1 : Int32) (x2 : Int32) (x3 : Int32) (x4 : Int32) (M : Mem) : Option (Int32 × Mem) :=
  if x2 ≤ x4 then
    some (x3, M)
  else
    if mR M this 14 ≠ 0 then
    if (K0 (mR M this 14)).1 = 1 ∧ inb ((200 * x1) + x4) (K0 (mR M this 14)).2 = true then
    bnd (zX12_behind this x1 x3 (mI M (mR M this 14) (Int32.toNatClampNeg ((200 * x1) + x4))) M) fun v4 M5 =>
    KK10 this x1 x2 v4 (x4 + 1) M5
    else none
    else none
def zX12_stateAhead_L10 : Nat → Nat → Int32 → Int32 → Int32 → Int32 → Mem → Option (Int32 × Mem)
  | 0 => fun _ _ _ _ _ _ => none
  | k + 1 => zX12_stateAhead_B10 (zX12_stateAhead_L10 k)
def zX12_stateAhead (this : Nat) (x1 : Int32) (x2 : Int32) (M : Mem) : Option (Int32 × Mem) :=
  if K0 this = (0, 12) then
  if mR M this 11 ≠ 0 then
  if (K0 (mR M this 11)).1 = 1 ∧ inb x1 (K0 (mR M this 11)).2 = true then
  lt (mI M (mR M this 11) (Int32.toNatClampNeg x1)) fun v3 =>
  zX12_stateAhead_L10 FU this x1 x2 v3 0 M
  else none
  else none
  else none
set_option maxRecDepth 20000 in
set_option maxHeartbeats 4000000 in
theorem kX12_stateAhead_B10 (l : Launch) (E : Ev) (n : Nat) (hn : 2 ≤ n) (ct : Nat) (hct : 111 ≤ ct) (ex : Bool) (KK10 : Nat → Int32 → Int32 → Int32 → Int32 → Mem → Option (Int32 × Mem)) (hKK10 : ∀ (this : Nat) (x1 : Int32) (x2 : Int32) (x3 : Int32) (x4 : Int32) (M : Mem) (_ : K0 this = (0, 12)), AW l E fX12_stateAhead (fun _ => rmN n 0 0) (PQr E 0 0 ct ex enI) ct ex 0 0 10 [(0, .ref (ad E this)), (1, .int x1), (2, .int x2), (3, .int x3), (4, .int x4)] [] M (KK10 this x1 x2 x3 x4 M)) (this : Nat) (x1 : Int32) (x2 : Int32) (x3 : Int32) (x4 : Int32) (M : Mem) (hthis : K0 this = (0, 12)) : AW l E fX12_stateAhead (fun _ => rmN n 0 0) (PQr E 0 0 ct ex enI) ct ex 0 0 10 [(0, .ref (ad E this)), (1, .int x1), (2, .int x2), (3, .int x3), (4, .int x4)] [] M (zX12_stateAhead_B10 KK10 this x1 x2 x3 x4 M) := by
  unfold zX12_stateAhead_B10
  refine AW.iload (pc := 10) dX12_stateAhead_10 4 rfl ?_
  refine AW.iload_n (pc := 12) dX12_stateAhead_12 rfl 2 rfl ?_
  refine AW.icmp_ge (pc := 13) 42 dX12_stateAhead_13 (by decide) (fun h1 => ?_) (fun h1 => ?_)
  · refine AW.iload_n (pc := 42) dX12_stateAhead_42 rfl 3 rfl ?_
    exact AW.iret (pc := 43) dX12_stateAhead_43 rfl (fun _ _ _ => rfl) (Nat.le_refl _) (Nat.le_refl _)
  · refine AW.aload_n (pc := 16) dX12_stateAhead_16 rfl 0 rfl ?_
    refine AW.iload_n (pc := 17) dX12_stateAhead_17 rfl 1 rfl ?_
    refine AW.iload_n (pc := 18) dX12_stateAhead_18 rfl 3 rfl ?_
    refine AW.aload_n (pc := 19) dX12_stateAhead_19 rfl 0 rfl ?_
    refine AW.chk (fun g2 => ?_)
    refine AW.getR (pc := 20) dX12_stateAhead_20 flX12_74 hthis (kct hthis rfl hct) g2 ?_
    refine AW.sipush (pc := 23) dX12_stateAhead_23 cs_200 ?_
    refine AW.iload_n (pc := 26) dX12_stateAhead_26 rfl 1 rfl ?_
    refine AW.imul (pc := 27) dX12_stateAhead_27 ?_
    refine AW.iload (pc := 28) dX12_stateAhead_28 4 rfl ?_
    refine AW.iadd (pc := 30) dX12_stateAhead_30 ?_
    refine AW.chk (fun g3 => ?_)
    refine AW.iald (pc := 31) dX12_stateAhead_31 (k0e g3.1) (kct (k0e g3.1) rfl hct) g3.2 ?_
    refine AW.cV3i (pc := 32) dX12_stateAhead_32 mlX12_333 mbX12_behind rfl hthis (kct hthis rfl hct) (fun _ => okR_N (by omega)) (kX12_behind l E (n - 1) (by omega) ct hct ex this x1 x3 (mI M (mR M this 14) (Int32.toNatClampNeg ((200 * x1) + x4))) M) (Nat.le_of_ble_eq_true rfl) (fun v4 M5 => ?_)
    refine AW.istore_n (pc := 35) [1, 2, 3, 0, 4] [(0, .ref (ad E this)), (1, .int x1), (2, .int x2), (3, .int v4), (4, .int x4)] dX12_stateAhead_35 rfl (by decide) rfl ?_
    refine AW.iinc (pc := 36) (w := 4) [1, 2, 3, 4, 0] [(0, .ref (ad E this)), (1, .int x1), (2, .int x2), (3, .int v4), (4, .int (x4 + 1))] dX12_stateAhead_36 rfl (inc_1 _) (by decide) rfl ?_
    refine AW.goto (pc := 39) 10 dX12_stateAhead_39 (by decide) ?_
    exact hKK10 this x1 x2 v4 (x4 + 1) M5 hthis
set_option maxRecDepth 20000 in
set_option maxHeartbeats 4000000 in
theorem kX12_stateAhead_L10 (l : Launch) (E : Ev) (n : Nat) (hn : 2 ≤ n) (ct : Nat) (hct : 111 ≤ ct) (ex : Bool) (k : Nat) : ∀ (this : Nat) (x1 : Int32) (x2 : Int32) (x3 : Int32) (x4 : Int32) (M : Mem) (_ : K0 this = (0, 12)), AW l E fX12_stateAhead (fun _ => rmN n 0 0) (PQr E 0 0 ct ex enI) ct ex 0 0 10 [(0, .ref (ad E this)), (1, .int x1), (2, .int x2), (3, .int x3), (4, .int x4)] [] M (zX12_stateAhead_L10 k this x1 x2 x3 x4 M) := by
  induction k with
  | zero => intro this x1 x2 x3 x4 M _; exact AW.none
  | succ k ih =>
    intro this x1 x2 x3 x4 M hthis
    exact kX12_stateAhead_B10 l E n hn ct hct ex (zX12_stateAhead_L10 k) ih this x1 x2 x3 x4 M hthis
set_option maxRecDepth 20000 in
set_option maxHeartbeats 4000000 in
theorem kX12_stateAhead (l : Launch) (E : Ev) (n : Nat) (hn : 2 ≤ n) (ct : Nat) (hct : 111 ≤ ct) (ex : Bool) (this : Nat) (x1 : Int32) (x2 : Int32) (M : Mem) : AM l E n ct ex yX12_stateAhead fX12_stateAhead enI [.ref (ad E this), .int x1, .int x2] M (zX12_stateAhead this x1 x2 M) := by
  unfold zX12_stateAhead
  refine AM.of (by decide +kernel) ⟨rfl, rfl, rfl⟩ (Nat.le_of_ble_eq_true rfl) ?_
  refine AW.chk (fun hthis => ?_)
  refine AW.aload_n (pc := 0) dX12_stateAhead_0 rfl 0 rfl ?_
  refine AW.chk (fun g1 => ?_)
  refine AW.getR (pc := 1) dX12_stateAhead_1 flX12_65 hthis (kct hthis rfl hct) g1 ?_
  refine AW.iload_n (pc := 4) dX12_stateAhead_4 rfl 1 rfl ?_
  refine AW.chk (fun g2 => ?_)
  refine AW.iald (pc := 5) dX12_stateAhead_5 (k0e g2.1) (kct (k0e g2.1) rfl hct) g2.2 ?_
  refine AW.genI (fun v3 => ?_)
  refine AW.istore_n (pc := 6) [1, 2, 3, 0] [(0, .ref (ad E this)), (1, .int x1), (2, .int x2), (3, .int v3)] dX12_stateAhead_6 rfl (by decide) rfl ?_
  refine AW.iconst (pc := 7) dX12_stateAhead_7 ci_0 ?_
  refine AW.istore (pc := 8) [1, 2, 3, 4, 0] [(0, .ref (ad E this)), (1, .int x1), (2, .int x2), (3, .int v3), (4, .int 0)] dX12_stateAhead_8 (by decide) rfl ?_
  exact kX12_stateAhead_L10 l E n hn ct hct ex FU this x1 x2 v3 0 M hthis
